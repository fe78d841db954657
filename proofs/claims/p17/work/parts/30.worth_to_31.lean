section
/-- as Met.ofW, for a method that has no native row, whatever its class -/
theorem nw_ofWF {l : Launch} {y : MethodName} {ws ws' : List Cond} {rm : Room} {Pc : Array Value → State → Prop} {Qc : Array Value → State → Outcome → State → Prop} {mc ms : Nat} {free : Addr → Prop} {cc : ByteArray} {maxL : Nat} {ret : Option FieldType}
    (hy : plainFor y = true) (hw : ws = Cond.code y cc maxL ret :: ws')
    (body : ∀ p e s m args below meth c s₁, BodyLoose p l y (headSpec ws rm) cc maxL ret e s m args below meth c s₁ → c.maxLocals = maxL → Pc args s →
      W p l e (headSpec ws rm).room s m args below meth c s.heap [] 0 0 (MQ below Qc args s mc ms free) (entryFrame m args maxL)) : Met l y ws rm Pc Qc mc ms free := by
  refine MetFree.of_bodySF (code := cc) (maxLocals := maxL) (ret := ret) hy ?_ ?_
  · intro args s m h hn
    obtain ⟨meth, c, h1, h2, h3, h4, h5, h6, -, -⟩ := Cond.code_spec hn (atoms_spec (ws := ws) h _ (by rw [hw]; exact List.mem_cons_self))
    exact ⟨meth, c, h1, h2, h3, h4, h5, h6⟩
  · intro p e s m args below meth c s₁ B hml hP _
    have hh0 : s₁.heap = s.heap := by rw [B.state]; rfl
    obtain ⟨t, a1, o, b1, b2, b3⟩ := body p e s m args below meth c s₁ B hml hP s₁ hh0 (Stand.of_body B)
    exact ⟨t, o, a1, b1, b2, ⟨b3.1, b3.2⟩⟩
theorem nz32 {y : Int32} (h : y.toInt ≠ 0) : ¬ y = 0 := fun e => h (by rw [e]; rfl)
theorem spot_in {p t : Int32} (hp : 0 ≤ p.toInt ∧ p.toInt ≤ 63) (ht : 0 ≤ t.toInt ∧ t.toInt ≤ 6) : 0 ≤ (sp_bits (p &&& ((1 <<< (t &&& 31)) - 1))).toInt ∧ (sp_bits (p &&& ((1 <<< (t &&& 31)) - 1))).toInt ≤ t.toInt := by
  obtain ⟨j, hj, e⟩ := nI_of (x := p) (by rw [fa_lt, ti_0]; omega)
  obtain ⟨k, hk, e2⟩ := nI_of (x := t) (by rw [fa_lt, ti_0]; omega)
  subst e
  subst e2
  rw [nI_toInt hj] at hp
  rw [nI_toInt hk] at ht
  have key : ∀ a : Fin 64, ∀ b : Fin 7, 0 ≤ (sp_bits (nI a.val &&& ((1 <<< (nI b.val &&& 31)) - 1))).toInt ∧ (sp_bits (nI a.val &&& ((1 <<< (nI b.val &&& 31)) - 1))).toInt ≤ (nI b.val).toInt := by decide +kernel
  exact key ⟨j, by omega⟩ ⟨k, by omega⟩
theorem slot_in {x d k : Int32} (hx : 0 ≤ x.toInt ∧ x.toInt < 24) (hd : 0 ≤ d.toInt ∧ d.toInt ≤ 6) (hk : 0 ≤ k.toInt ∧ k.toInt ≤ d.toInt) : 0 ≤ (((x * 28) + ((d * (d + 1)) / 2)) + k).toInt ∧ (((x * 28) + ((d * (d + 1)) / 2)) + k).toInt < 672 := by
  obtain ⟨i, hi, e⟩ := nI_of (x := x) (by rw [fa_lt, ti_0]; omega)
  obtain ⟨j, hj, e2⟩ := nI_of (x := d) (by rw [fa_lt, ti_0]; omega)
  obtain ⟨q, hq, e3⟩ := nI_of (x := k) (by rw [fa_lt, ti_0]; omega)
  subst e
  subst e2
  subst e3
  rw [nI_toInt hi] at hx
  rw [nI_toInt hj] at hd hk
  rw [nI_toInt hq] at hk
  have key : ∀ a : Fin 24, ∀ b : Fin 7, ∀ c : Fin 7, c.val ≤ b.val → 0 ≤ (((nI a.val * 28) + ((nI b.val * (nI b.val + 1)) / 2)) + nI c.val).toInt ∧ (((nI a.val * 28) + ((nI b.val * (nI b.val + 1)) / 2)) + nI c.val).toInt < 672 := by decide +kernel
  exact key ⟨i, by omega⟩ ⟨j, by omega⟩ ⟨q, by omega⟩ (by show q ≤ j; omega)
theorem in13n {K : Nat} (h : K < 13) : K = 0 ∨ K = 1 ∨ K = 2 ∨ K = 3 ∨ K = 4 ∨ K = 5 ∨ K = 6 ∨ K = 7 ∨ K = 8 ∨ K = 9 ∨ K = 10 ∨ K = 11 ∨ K = 12 := by omega
theorem dJx29ce0_ordinal_8abf5_0 : decode cJx29ce0_ordinal_8abf5 0 = .ok (.aload_n 0, 1) := by decide +kernel
theorem dJx29ce0_ordinal_8abf5_1 : decode cJx29ce0_ordinal_8abf5 1 = .ok (.getfield 7, 3) := by decide +kernel
theorem dJx29ce0_ordinal_8abf5_4 : decode cJx29ce0_ordinal_8abf5 4 = .ok (.ireturn, 1) := by decide +kernel
set_option maxHeartbeats 4000000 in
set_option maxRecDepth 100000 in
theorem c_Jx29ce0_ordinal_8abf5 (l : Launch) (D : va_G) (T : Nat → ClassId) (ad sa av : Nat → Nat) (ta : Nat) (K : Nat) (hi9 : K < 13) : Met l yJx29ce0_ordinal_8abf5 wsJx29ce0_ordinal_8abf5 ({ frames := 0, cells := 0, slots := 0, locals := 0 }) (pRk [.ref (ad K)] D T [] ad sa av ta) (vp_Si (fun r => r = odT K)) 0 0 (fun _ => False) := by
  refine Met.ofW (cc := cJx29ce0_ordinal_8abf5) (maxL := 1) (ret := (some .int)) (by decide +kernel) rfl ?_
  intro p e s m args below meth c s₁ B hml hv
  obtain ⟨rfl, hP, hE, hV⟩ := hv
  have hS : va_S (fun _ => False) s.heap s.heap [] := va_S.rf
  have hx := B.exec
  have hb := B.bytes
  have hr := B.returns
  have hts := atoms_spec (ws := wsJx29ce0_ordinal_8abf5) B.pre
  have hown : s.vm.findClass RJx29ce0 = some m.cls := findClass_of_methodNamed B.named
  have hlocks := B.notSynchronized
  have hP : va_P D vwCl [] s.heap := hP
  have hl := lv_entry ([.ref (ad K)]) (n := 1) (Nat.le_of_ble_eq_true rfl)
  rw [lg_entry_eq]
  generalize (lg_sl ([.ref (ad K)]) ++ List.replicate (1 - (lg_sl ([.ref (ad K)])).length) Slot.unset).toArray = ls at hl ⊢
  have hl : lv_has ls 1 [(0, .ref (ad K))] := hl
  refine lv_aload_n hx hb dJx29ce0_ordinal_8abf5_0 rfl (lv_at hl 0 rfl) ?_
  refine va_getE (i := K) hx hb hV.1.1 hi9 hS hown (q := ("java/lang/Enum", "ordinal", "I", [0, 1, 2, 3, 4, 5, 6, 7, 8, 9, 10, 11, 12])) (List.mem_of_getElem? (i := 4) rfl) (hts (.fieldLink RJx29ce0 7 "java/lang/Enum" "ordinal" "I") (List.mem_of_getElem? (i := 1) rfl)) (fun _ h9 => h9) dJx29ce0_ordinal_8abf5_1 ?_
  refine W.eq (g2 := F0 m 4 ls [.int (odT K)]) rfl ?_
  exact W.iret hx hb hr (fun t ht hW => ⟨_, rfl, rfl, ht⟩) (fun _ h => by cases h) dJx29ce0_ordinal_8abf5_4
theorem dJ9_floorDiv_f86c9_0 : decode cJ9_floorDiv_f86c9 0 = .ok (.lload_n 0, 1) := by decide +kernel
theorem dJ9_floorDiv_f86c9_1 : decode cJ9_floorDiv_f86c9 1 = .ok (.lload_n 2, 1) := by decide +kernel
theorem dJ9_floorDiv_f86c9_10 : decode cJ9_floorDiv_f86c9 10 = .ok (.ifCond .ge 17, 3) := by decide +kernel
theorem dJ9_floorDiv_f86c9_13 : decode cJ9_floorDiv_f86c9 13 = .ok (.lload 4, 2) := by decide +kernel
theorem dJ9_floorDiv_f86c9_15 : decode cJ9_floorDiv_f86c9 15 = .ok (.lload_n 2, 1) := by decide +kernel
theorem dJ9_floorDiv_f86c9_16 : decode cJ9_floorDiv_f86c9 16 = .ok (.lmul, 1) := by decide +kernel
theorem dJ9_floorDiv_f86c9_17 : decode cJ9_floorDiv_f86c9 17 = .ok (.lload_n 0, 1) := by decide +kernel
theorem dJ9_floorDiv_f86c9_18 : decode cJ9_floorDiv_f86c9 18 = .ok (.lcmp, 1) := by decide +kernel
theorem dJ9_floorDiv_f86c9_19 : decode cJ9_floorDiv_f86c9 19 = .ok (.ifCond .eq 8, 3) := by decide +kernel
theorem dJ9_floorDiv_f86c9_2 : decode cJ9_floorDiv_f86c9 2 = .ok (.ldiv, 1) := by decide +kernel
theorem dJ9_floorDiv_f86c9_22 : decode cJ9_floorDiv_f86c9 22 = .ok (.lload 4, 2) := by decide +kernel
theorem dJ9_floorDiv_f86c9_24 : decode cJ9_floorDiv_f86c9 24 = .ok (.lconst 1, 1) := by decide +kernel
theorem dJ9_floorDiv_f86c9_25 : decode cJ9_floorDiv_f86c9 25 = .ok (.lsub, 1) := by decide +kernel
theorem dJ9_floorDiv_f86c9_26 : decode cJ9_floorDiv_f86c9 26 = .ok (.lreturn, 1) := by decide +kernel
theorem dJ9_floorDiv_f86c9_27 : decode cJ9_floorDiv_f86c9 27 = .ok (.lload 4, 2) := by decide +kernel
theorem dJ9_floorDiv_f86c9_29 : decode cJ9_floorDiv_f86c9 29 = .ok (.lreturn, 1) := by decide +kernel
theorem dJ9_floorDiv_f86c9_3 : decode cJ9_floorDiv_f86c9 3 = .ok (.lstore 4, 2) := by decide +kernel
theorem dJ9_floorDiv_f86c9_5 : decode cJ9_floorDiv_f86c9 5 = .ok (.lload_n 0, 1) := by decide +kernel
theorem dJ9_floorDiv_f86c9_6 : decode cJ9_floorDiv_f86c9 6 = .ok (.lload_n 2, 1) := by decide +kernel
theorem dJ9_floorDiv_f86c9_7 : decode cJ9_floorDiv_f86c9 7 = .ok (.lxor, 1) := by decide +kernel
theorem dJ9_floorDiv_f86c9_8 : decode cJ9_floorDiv_f86c9 8 = .ok (.lconst 0, 1) := by decide +kernel
theorem dJ9_floorDiv_f86c9_9 : decode cJ9_floorDiv_f86c9 9 = .ok (.lcmp, 1) := by decide +kernel
set_option maxHeartbeats 4000000 in
set_option maxRecDepth 100000 in
theorem c_J9_floorDiv_f86c9 (l : Launch) (D : va_G) (T : Nat → ClassId) (x0 : Int64) (x1 : Int64) (hnz : 1 ≤ x1.toInt) : Met l yJ9_floorDiv_f86c9 wsJ9_floorDiv_f86c9 ({ frames := 0, cells := 0, slots := 0, locals := 0 }) (pR [.long x0, .long x1] D T []) (vp_Sl (fun r => r.toInt = x0.toInt / x1.toInt)) 0 0 (fun _ => False) := by
  refine nw_ofWF (cc := cJ9_floorDiv_f86c9) (maxL := 6) (ret := (some .long)) (by decide +kernel) rfl ?_
  intro p e s m args below meth c s₁ B hml hv
  obtain ⟨rfl, hP, hE⟩ := hv
  have hx := B.exec
  have hb := B.bytes
  have hr := B.returns
  have hts := atoms_spec (ws := wsJ9_floorDiv_f86c9) B.pre
  have hown : s.vm.findClass RJ9 = some m.cls := findClass_of_methodNamed B.named
  have hlocks := B.notSynchronized
  have hP : va_P D vwCl [] s.heap := hP
  have hl := lv_entry ([.long x0, .long x1]) (n := 6) (Nat.le_of_ble_eq_true rfl)
  rw [lg_entry_eq]
  generalize (lg_sl ([.long x0, .long x1]) ++ List.replicate (6 - (lg_sl ([.long x0, .long x1])).length) Slot.unset).toArray = ls at hl ⊢
  have hl : lv_has ls 6 [(0, .long x0), (2, .long x1)] := hl
  refine lv_lload_n hx hb dJ9_floorDiv_f86c9_0 rfl (lv_at hl 0 rfl) ?_
  refine lv_lload_n hx hb dJ9_floorDiv_f86c9_1 rfl (lv_at hl 1 rfl) ?_
  refine lv_ldiv hx hb dJ9_floorDiv_f86c9_2 (nz64 (by omega)) ?_
  refine lv_topl (fun z_1 ez_1 => ?_)
  refine lv_lstore (lv' := [(4, .long z_1), (0, .long x0), (2, .long x1)]) hx hb dJ9_floorDiv_f86c9_3 hl (by decide +kernel) rfl (fun ls hl => ?_)
  refine lv_lload_n hx hb dJ9_floorDiv_f86c9_5 rfl (lv_at hl 1 rfl) ?_
  refine lv_lload_n hx hb dJ9_floorDiv_f86c9_6 rfl (lv_at hl 2 rfl) ?_
  refine lv_lxor hx hb dJ9_floorDiv_f86c9_7 ?_
  refine lv_lconst (v := 0) hx hb dJ9_floorDiv_f86c9_8 (by decide +kernel) ?_
  refine W.lcmp hx hb dJ9_floorDiv_f86c9_9 ?_
  refine lv_if_ge (tgt := 27) hx hb dJ9_floorDiv_f86c9_10 (by decide +kernel) (fun c_2 => ?_) (fun c_2 => ?_)
  · rw [lcmp_ge] at c_2
    try rw [tl_0] at c_2
    refine lv_lload hx hb dJ9_floorDiv_f86c9_27 (lv_at hl 0 rfl) ?_
    exact W.lret hx hb hr (fun t ht hW => ⟨_, rfl, (by first | exact fdA hnz (by assumption) (by omega) | exact fdB hnz (by assumption) (by omega) (by assumption) | exact fdC hnz (by assumption) (by omega) (by assumption)), ht⟩) (fun _ h => by cases h) dJ9_floorDiv_f86c9_29
  · rw [lcmp_ge] at c_2
    try rw [tl_0] at c_2
    refine lv_lload hx hb dJ9_floorDiv_f86c9_13 (lv_at hl 0 rfl) ?_
    refine lv_lload_n hx hb dJ9_floorDiv_f86c9_15 rfl (lv_at hl 2 rfl) ?_
    refine lv_lmul hx hb dJ9_floorDiv_f86c9_16 ?_
    refine lv_lload_n hx hb dJ9_floorDiv_f86c9_17 rfl (lv_at hl 1 rfl) ?_
    refine W.lcmp hx hb dJ9_floorDiv_f86c9_18 ?_
    refine lv_if_eq (tgt := 27) hx hb dJ9_floorDiv_f86c9_19 (by decide +kernel) (fun c_3 => ?_) (fun c_3 => ?_)
    · rw [lcmp_eq] at c_3
      refine lv_lload hx hb dJ9_floorDiv_f86c9_27 (lv_at hl 0 rfl) ?_
      exact W.lret hx hb hr (fun t ht hW => ⟨_, rfl, (by first | exact fdA hnz (by assumption) (by omega) | exact fdB hnz (by assumption) (by omega) (by assumption) | exact fdC hnz (by assumption) (by omega) (by assumption)), ht⟩) (fun _ h => by cases h) dJ9_floorDiv_f86c9_29
    · rw [lcmp_eq] at c_3
      refine lv_lload hx hb dJ9_floorDiv_f86c9_22 (lv_at hl 0 rfl) ?_
      refine lv_lconst (v := 1) hx hb dJ9_floorDiv_f86c9_24 (by decide +kernel) ?_
      refine lv_lsub hx hb dJ9_floorDiv_f86c9_25 ?_
      exact W.lret hx hb hr (fun t ht hW => ⟨_, rfl, (by first | exact fdA hnz (by assumption) (by omega) | exact fdB hnz (by assumption) (by omega) (by assumption) | exact fdC hnz (by assumption) (by omega) (by assumption)), ht⟩) (fun _ h => by cases h) dJ9_floorDiv_f86c9_26
theorem dJ9_floorMod_f86c9_0 : decode cJ9_floorMod_f86c9 0 = .ok (.lload_n 0, 1) := by decide +kernel
theorem dJ9_floorMod_f86c9_1 : decode cJ9_floorMod_f86c9 1 = .ok (.lload_n 2, 1) := by decide +kernel
theorem dJ9_floorMod_f86c9_10 : decode cJ9_floorMod_f86c9 10 = .ok (.ifCond .ge 15, 3) := by decide +kernel
theorem dJ9_floorMod_f86c9_13 : decode cJ9_floorMod_f86c9 13 = .ok (.lload 4, 2) := by decide +kernel
theorem dJ9_floorMod_f86c9_15 : decode cJ9_floorMod_f86c9 15 = .ok (.lconst 0, 1) := by decide +kernel
theorem dJ9_floorMod_f86c9_16 : decode cJ9_floorMod_f86c9 16 = .ok (.lcmp, 1) := by decide +kernel
theorem dJ9_floorMod_f86c9_17 : decode cJ9_floorMod_f86c9 17 = .ok (.ifCond .eq 8, 3) := by decide +kernel
theorem dJ9_floorMod_f86c9_2 : decode cJ9_floorMod_f86c9 2 = .ok (.lrem, 1) := by decide +kernel
theorem dJ9_floorMod_f86c9_20 : decode cJ9_floorMod_f86c9 20 = .ok (.lload 4, 2) := by decide +kernel
theorem dJ9_floorMod_f86c9_22 : decode cJ9_floorMod_f86c9 22 = .ok (.lload_n 2, 1) := by decide +kernel
theorem dJ9_floorMod_f86c9_23 : decode cJ9_floorMod_f86c9 23 = .ok (.ladd, 1) := by decide +kernel
theorem dJ9_floorMod_f86c9_24 : decode cJ9_floorMod_f86c9 24 = .ok (.lreturn, 1) := by decide +kernel
theorem dJ9_floorMod_f86c9_25 : decode cJ9_floorMod_f86c9 25 = .ok (.lload 4, 2) := by decide +kernel
theorem dJ9_floorMod_f86c9_27 : decode cJ9_floorMod_f86c9 27 = .ok (.lreturn, 1) := by decide +kernel
theorem dJ9_floorMod_f86c9_3 : decode cJ9_floorMod_f86c9 3 = .ok (.lstore 4, 2) := by decide +kernel
theorem dJ9_floorMod_f86c9_5 : decode cJ9_floorMod_f86c9 5 = .ok (.lload_n 0, 1) := by decide +kernel
theorem dJ9_floorMod_f86c9_6 : decode cJ9_floorMod_f86c9 6 = .ok (.lload_n 2, 1) := by decide +kernel
theorem dJ9_floorMod_f86c9_7 : decode cJ9_floorMod_f86c9 7 = .ok (.lxor, 1) := by decide +kernel
theorem dJ9_floorMod_f86c9_8 : decode cJ9_floorMod_f86c9 8 = .ok (.lconst 0, 1) := by decide +kernel
theorem dJ9_floorMod_f86c9_9 : decode cJ9_floorMod_f86c9 9 = .ok (.lcmp, 1) := by decide +kernel
set_option maxHeartbeats 4000000 in
set_option maxRecDepth 100000 in
theorem c_J9_floorMod_f86c9 (l : Launch) (D : va_G) (T : Nat → ClassId) (x0 : Int64) (x1 : Int64) (hnz : 1 ≤ x1.toInt) : Met l yJ9_floorMod_f86c9 wsJ9_floorMod_f86c9 ({ frames := 0, cells := 0, slots := 0, locals := 0 }) (pR [.long x0, .long x1] D T []) (vp_Sl (fun r => r.toInt = x0.toInt % x1.toInt)) 0 0 (fun _ => False) := by
  refine nw_ofWF (cc := cJ9_floorMod_f86c9) (maxL := 6) (ret := (some .long)) (by decide +kernel) rfl ?_
  intro p e s m args below meth c s₁ B hml hv
  obtain ⟨rfl, hP, hE⟩ := hv
  have hx := B.exec
  have hb := B.bytes
  have hr := B.returns
  have hts := atoms_spec (ws := wsJ9_floorMod_f86c9) B.pre
  have hown : s.vm.findClass RJ9 = some m.cls := findClass_of_methodNamed B.named
  have hlocks := B.notSynchronized
  have hP : va_P D vwCl [] s.heap := hP
  have hl := lv_entry ([.long x0, .long x1]) (n := 6) (Nat.le_of_ble_eq_true rfl)
  rw [lg_entry_eq]
  generalize (lg_sl ([.long x0, .long x1]) ++ List.replicate (6 - (lg_sl ([.long x0, .long x1])).length) Slot.unset).toArray = ls at hl ⊢
  have hl : lv_has ls 6 [(0, .long x0), (2, .long x1)] := hl
  refine lv_lload_n hx hb dJ9_floorMod_f86c9_0 rfl (lv_at hl 0 rfl) ?_
  refine lv_lload_n hx hb dJ9_floorMod_f86c9_1 rfl (lv_at hl 1 rfl) ?_
  refine lv_lrem hx hb dJ9_floorMod_f86c9_2 (nz64 (by omega)) ?_
  refine lv_topl (fun z_1 ez_1 => ?_)
  refine lv_lstore (lv' := [(4, .long z_1), (0, .long x0), (2, .long x1)]) hx hb dJ9_floorMod_f86c9_3 hl (by decide +kernel) rfl (fun ls hl => ?_)
  refine lv_lload_n hx hb dJ9_floorMod_f86c9_5 rfl (lv_at hl 1 rfl) ?_
  refine lv_lload_n hx hb dJ9_floorMod_f86c9_6 rfl (lv_at hl 2 rfl) ?_
  refine lv_lxor hx hb dJ9_floorMod_f86c9_7 ?_
  refine lv_lconst (v := 0) hx hb dJ9_floorMod_f86c9_8 (by decide +kernel) ?_
  refine W.lcmp hx hb dJ9_floorMod_f86c9_9 ?_
  refine lv_if_ge (tgt := 25) hx hb dJ9_floorMod_f86c9_10 (by decide +kernel) (fun c_2 => ?_) (fun c_2 => ?_)
  · rw [lcmp_ge] at c_2
    try rw [tl_0] at c_2
    refine lv_lload hx hb dJ9_floorMod_f86c9_25 (lv_at hl 0 rfl) ?_
    exact W.lret hx hb hr (fun t ht hW => ⟨_, rfl, (by first | exact fmA hnz (by assumption) (by omega) | exact fmB hnz (by assumption) (by omega) | exact fmC hnz (by assumption) (by omega) (by omega)), ht⟩) (fun _ h => by cases h) dJ9_floorMod_f86c9_27
  · rw [lcmp_ge] at c_2
    try rw [tl_0] at c_2
    refine lv_lload hx hb dJ9_floorMod_f86c9_13 (lv_at hl 0 rfl) ?_
    refine lv_lconst (v := 0) hx hb dJ9_floorMod_f86c9_15 (by decide +kernel) ?_
    refine W.lcmp hx hb dJ9_floorMod_f86c9_16 ?_
    refine lv_if_eq (tgt := 25) hx hb dJ9_floorMod_f86c9_17 (by decide +kernel) (fun c_3 => ?_) (fun c_3 => ?_)
    · rw [lcmp_eq] at c_3
      try rw [tl_0] at c_3
      refine lv_lload hx hb dJ9_floorMod_f86c9_25 (lv_at hl 0 rfl) ?_
      exact W.lret hx hb hr (fun t ht hW => ⟨_, rfl, (by first | exact fmA hnz (by assumption) (by omega) | exact fmB hnz (by assumption) (by omega) | exact fmC hnz (by assumption) (by omega) (by omega)), ht⟩) (fun _ h => by cases h) dJ9_floorMod_f86c9_27
    · rw [lcmp_eq] at c_3
      try rw [tl_0] at c_3
      refine lv_lload hx hb dJ9_floorMod_f86c9_20 (lv_at hl 0 rfl) ?_
      refine lv_lload_n hx hb dJ9_floorMod_f86c9_22 rfl (lv_at hl 2 rfl) ?_
      refine lv_ladd hx hb dJ9_floorMod_f86c9_23 ?_
      exact W.lret hx hb hr (fun t ht hW => ⟨_, rfl, (by first | exact fmA hnz (by assumption) (by omega) | exact fmB hnz (by assumption) (by omega) | exact fmC hnz (by assumption) (by omega) (by omega)), ht⟩) (fun _ h => by cases h) dJ9_floorMod_f86c9_24
theorem dX11_sumFits_0 : decode cX11_sumFits 0 = .ok (.lload_n 0, 1) := by decide +kernel
theorem dX11_sumFits_1 : decode cX11_sumFits 1 = .ok (.lload_n 2, 1) := by decide +kernel
theorem dX11_sumFits_10 : decode cX11_sumFits 10 = .ok (.lload 4, 2) := by decide +kernel
theorem dX11_sumFits_12 : decode cX11_sumFits 12 = .ok (.lxor, 1) := by decide +kernel
theorem dX11_sumFits_13 : decode cX11_sumFits 13 = .ok (.land, 1) := by decide +kernel
theorem dX11_sumFits_14 : decode cX11_sumFits 14 = .ok (.lconst 0, 1) := by decide +kernel
theorem dX11_sumFits_15 : decode cX11_sumFits 15 = .ok (.lcmp, 1) := by decide +kernel
theorem dX11_sumFits_16 : decode cX11_sumFits 16 = .ok (.ifCond .lt 7, 3) := by decide +kernel
theorem dX11_sumFits_19 : decode cX11_sumFits 19 = .ok (.iconst 1, 1) := by decide +kernel
theorem dX11_sumFits_2 : decode cX11_sumFits 2 = .ok (.ladd, 1) := by decide +kernel
theorem dX11_sumFits_20 : decode cX11_sumFits 20 = .ok (.goto 4, 3) := by decide +kernel
theorem dX11_sumFits_23 : decode cX11_sumFits 23 = .ok (.iconst 0, 1) := by decide +kernel
theorem dX11_sumFits_24 : decode cX11_sumFits 24 = .ok (.ireturn, 1) := by decide +kernel
theorem dX11_sumFits_3 : decode cX11_sumFits 3 = .ok (.lstore 4, 2) := by decide +kernel
theorem dX11_sumFits_5 : decode cX11_sumFits 5 = .ok (.lload_n 0, 1) := by decide +kernel
theorem dX11_sumFits_6 : decode cX11_sumFits 6 = .ok (.lload 4, 2) := by decide +kernel
theorem dX11_sumFits_8 : decode cX11_sumFits 8 = .ok (.lxor, 1) := by decide +kernel
theorem dX11_sumFits_9 : decode cX11_sumFits 9 = .ok (.lload_n 2, 1) := by decide +kernel
set_option maxHeartbeats 4000000 in
set_option maxRecDepth 100000 in
theorem c_X11_sumFits (l : Launch) (D : va_G) (T : Nat → ClassId) (x0 : Int64) (x1 : Int64)  : Met l yX11_sumFits wsX11_sumFits ({ frames := 0, cells := 0, slots := 0, locals := 0 }) (pR [.long x0, .long x1] D T []) (vp_Si (fun r => r = if fitA x0 x1 then 1 else 0)) 0 0 (fun _ => False) := by
  refine Met.ofW (cc := cX11_sumFits) (maxL := 6) (ret := (some .boolean)) (by decide +kernel) rfl ?_
  intro p e s m args below meth c s₁ B hml hv
  obtain ⟨rfl, hP, hE⟩ := hv
  have hx := B.exec
  have hb := B.bytes
  have hr := B.returns
  have hts := atoms_spec (ws := wsX11_sumFits) B.pre
  have hown : s.vm.findClass RX11 = some m.cls := findClass_of_methodNamed B.named
  have hlocks := B.notSynchronized
  have hP : va_P D vwCl [] s.heap := hP
  have hl := lv_entry ([.long x0, .long x1]) (n := 6) (Nat.le_of_ble_eq_true rfl)
  rw [lg_entry_eq]
  generalize (lg_sl ([.long x0, .long x1]) ++ List.replicate (6 - (lg_sl ([.long x0, .long x1])).length) Slot.unset).toArray = ls at hl ⊢
  have hl : lv_has ls 6 [(0, .long x0), (2, .long x1)] := hl
  refine lv_lload_n hx hb dX11_sumFits_0 rfl (lv_at hl 0 rfl) ?_
  refine lv_lload_n hx hb dX11_sumFits_1 rfl (lv_at hl 1 rfl) ?_
  refine lv_ladd hx hb dX11_sumFits_2 ?_
  refine lv_topl (fun z_1 ez_1 => ?_)
  refine lv_lstore (lv' := [(4, .long z_1), (0, .long x0), (2, .long x1)]) hx hb dX11_sumFits_3 hl (by decide +kernel) rfl (fun ls hl => ?_)
  refine lv_lload_n hx hb dX11_sumFits_5 rfl (lv_at hl 1 rfl) ?_
  refine lv_lload hx hb dX11_sumFits_6 (lv_at hl 0 rfl) ?_
  refine lv_lxor hx hb dX11_sumFits_8 ?_
  refine lv_lload_n hx hb dX11_sumFits_9 rfl (lv_at hl 2 rfl) ?_
  refine lv_lload hx hb dX11_sumFits_10 (lv_at hl 0 rfl) ?_
  refine lv_lxor hx hb dX11_sumFits_12 ?_
  refine lv_land hx hb dX11_sumFits_13 ?_
  refine lv_lconst (v := 0) hx hb dX11_sumFits_14 (by decide +kernel) ?_
  refine W.lcmp hx hb dX11_sumFits_15 ?_
  refine lv_if_lt (tgt := 23) hx hb dX11_sumFits_16 (by decide +kernel) (fun c_2 => ?_) (fun c_2 => ?_)
  · rw [lcmp_lt] at c_2
    try rw [tl_0] at c_2
    refine lv_iconst (v := 0) hx hb dX11_sumFits_23 (by decide +kernel) ?_
    exact W.zret hx hb hr rfl (fun t ht hW => ⟨_, rfl, (by exact (if_neg (fun h9 => by have h8 := (fitA_and ez_1).1 h9; omega)).symm), ht⟩) (fun _ h => by cases h) dX11_sumFits_24
  · rw [lcmp_lt] at c_2
    try rw [tl_0] at c_2
    refine lv_iconst (v := 1) hx hb dX11_sumFits_19 (by decide +kernel) ?_
    refine lv_goto (tgt := 24) hx hb dX11_sumFits_20 (by decide +kernel) ?_
    exact W.zret hx hb hr rfl (fun t ht hW => ⟨_, rfl, (by exact (if_pos ((fitA_and ez_1).2 (by omega))).symm), ht⟩) (fun _ h => by cases h) dX11_sumFits_24
theorem dX11_productFits_0 : decode cX11_productFits 0 = .ok (.lload_n 0, 1) := by decide +kernel
theorem dX11_productFits_1 : decode cX11_productFits 1 = .ok (.lconst 0, 1) := by decide +kernel
theorem dX11_productFits_12 : decode cX11_productFits 12 = .ok (.iconst 1, 1) := by decide +kernel
theorem dX11_productFits_13 : decode cX11_productFits 13 = .ok (.ireturn, 1) := by decide +kernel
theorem dX11_productFits_14 : decode cX11_productFits 14 = .ok (.lload_n 2, 1) := by decide +kernel
theorem dX11_productFits_15 : decode cX11_productFits 15 = .ok (.ldc2_w 75, 3) := by decide +kernel
theorem dX11_productFits_18 : decode cX11_productFits 18 = .ok (.lcmp, 1) := by decide +kernel
theorem dX11_productFits_19 : decode cX11_productFits 19 = .ok (.ifCond .ne 17, 3) := by decide +kernel
theorem dX11_productFits_2 : decode cX11_productFits 2 = .ok (.lcmp, 1) := by decide +kernel
theorem dX11_productFits_22 : decode cX11_productFits 22 = .ok (.lload_n 0, 1) := by decide +kernel
theorem dX11_productFits_23 : decode cX11_productFits 23 = .ok (.ldc2_w 169, 3) := by decide +kernel
theorem dX11_productFits_26 : decode cX11_productFits 26 = .ok (.lcmp, 1) := by decide +kernel
theorem dX11_productFits_27 : decode cX11_productFits 27 = .ok (.ifCond .eq 7, 3) := by decide +kernel
theorem dX11_productFits_3 : decode cX11_productFits 3 = .ok (.ifCond .eq 9, 3) := by decide +kernel
theorem dX11_productFits_30 : decode cX11_productFits 30 = .ok (.iconst 1, 1) := by decide +kernel
theorem dX11_productFits_31 : decode cX11_productFits 31 = .ok (.goto 4, 3) := by decide +kernel
theorem dX11_productFits_34 : decode cX11_productFits 34 = .ok (.iconst 0, 1) := by decide +kernel
theorem dX11_productFits_35 : decode cX11_productFits 35 = .ok (.ireturn, 1) := by decide +kernel
theorem dX11_productFits_36 : decode cX11_productFits 36 = .ok (.lload_n 0, 1) := by decide +kernel
theorem dX11_productFits_37 : decode cX11_productFits 37 = .ok (.ldc2_w 75, 3) := by decide +kernel
theorem dX11_productFits_40 : decode cX11_productFits 40 = .ok (.lcmp, 1) := by decide +kernel
theorem dX11_productFits_41 : decode cX11_productFits 41 = .ok (.ifCond .ne 17, 3) := by decide +kernel
theorem dX11_productFits_44 : decode cX11_productFits 44 = .ok (.lload_n 2, 1) := by decide +kernel
theorem dX11_productFits_45 : decode cX11_productFits 45 = .ok (.ldc2_w 169, 3) := by decide +kernel
theorem dX11_productFits_48 : decode cX11_productFits 48 = .ok (.lcmp, 1) := by decide +kernel
theorem dX11_productFits_49 : decode cX11_productFits 49 = .ok (.ifCond .eq 7, 3) := by decide +kernel
theorem dX11_productFits_52 : decode cX11_productFits 52 = .ok (.iconst 1, 1) := by decide +kernel
theorem dX11_productFits_53 : decode cX11_productFits 53 = .ok (.goto 4, 3) := by decide +kernel
theorem dX11_productFits_56 : decode cX11_productFits 56 = .ok (.iconst 0, 1) := by decide +kernel
theorem dX11_productFits_57 : decode cX11_productFits 57 = .ok (.ireturn, 1) := by decide +kernel
theorem dX11_productFits_58 : decode cX11_productFits 58 = .ok (.lload_n 0, 1) := by decide +kernel
theorem dX11_productFits_59 : decode cX11_productFits 59 = .ok (.lload_n 2, 1) := by decide +kernel
theorem dX11_productFits_6 : decode cX11_productFits 6 = .ok (.lload_n 2, 1) := by decide +kernel
theorem dX11_productFits_60 : decode cX11_productFits 60 = .ok (.lmul, 1) := by decide +kernel
theorem dX11_productFits_61 : decode cX11_productFits 61 = .ok (.lload_n 2, 1) := by decide +kernel
theorem dX11_productFits_62 : decode cX11_productFits 62 = .ok (.ldiv, 1) := by decide +kernel
theorem dX11_productFits_63 : decode cX11_productFits 63 = .ok (.lload_n 0, 1) := by decide +kernel
theorem dX11_productFits_64 : decode cX11_productFits 64 = .ok (.lcmp, 1) := by decide +kernel
theorem dX11_productFits_65 : decode cX11_productFits 65 = .ok (.ifCond .ne 7, 3) := by decide +kernel
theorem dX11_productFits_68 : decode cX11_productFits 68 = .ok (.iconst 1, 1) := by decide +kernel
theorem dX11_productFits_69 : decode cX11_productFits 69 = .ok (.goto 4, 3) := by decide +kernel
theorem dX11_productFits_7 : decode cX11_productFits 7 = .ok (.lconst 0, 1) := by decide +kernel
theorem dX11_productFits_72 : decode cX11_productFits 72 = .ok (.iconst 0, 1) := by decide +kernel
theorem dX11_productFits_73 : decode cX11_productFits 73 = .ok (.ireturn, 1) := by decide +kernel
theorem dX11_productFits_8 : decode cX11_productFits 8 = .ok (.lcmp, 1) := by decide +kernel
theorem dX11_productFits_9 : decode cX11_productFits 9 = .ok (.ifCond .ne 5, 3) := by decide +kernel
set_option maxHeartbeats 4000000 in
set_option maxRecDepth 100000 in
theorem c_X11_productFits (l : Launch) (D : va_G) (T : Nat → ClassId) (x0 : Int64) (x1 : Int64)  : Met l yX11_productFits wsX11_productFits ({ frames := 0, cells := 0, slots := 0, locals := 0 }) (pR [.long x0, .long x1] D T []) (vp_Si (fun r => r = if fitM x0 x1 then 1 else 0)) 0 0 (fun _ => False) := by
  refine Met.ofW (cc := cX11_productFits) (maxL := 4) (ret := (some .boolean)) (by decide +kernel) rfl ?_
  intro p e s m args below meth c s₁ B hml hv
  obtain ⟨rfl, hP, hE⟩ := hv
  have hx := B.exec
  have hb := B.bytes
  have hr := B.returns
  have hts := atoms_spec (ws := wsX11_productFits) B.pre
  have hown : s.vm.findClass RX11 = some m.cls := findClass_of_methodNamed B.named
  have hlocks := B.notSynchronized
  have hP : va_P D vwCl [] s.heap := hP
  have hl := lv_entry ([.long x0, .long x1]) (n := 4) (Nat.le_of_ble_eq_true rfl)
  rw [lg_entry_eq]
  generalize (lg_sl ([.long x0, .long x1]) ++ List.replicate (4 - (lg_sl ([.long x0, .long x1])).length) Slot.unset).toArray = ls at hl ⊢
  have hl : lv_has ls 4 [(0, .long x0), (2, .long x1)] := hl
  refine lv_lload_n hx hb dX11_productFits_0 rfl (lv_at hl 0 rfl) ?_
  refine lv_lconst (v := 0) hx hb dX11_productFits_1 (by decide +kernel) ?_
  refine W.lcmp hx hb dX11_productFits_2 ?_
  refine lv_if_eq (tgt := 12) hx hb dX11_productFits_3 (by decide +kernel) (fun c_1 => ?_) (fun c_1 => ?_)
  · rw [lcmp_eq] at c_1
    try rw [tl_0] at c_1
    refine lv_iconst (v := 1) hx hb dX11_productFits_12 (by decide +kernel) ?_
    exact W.zret hx hb hr rfl (fun t ht hW => ⟨_, rfl, (by exact (if_pos (by first | exact fitM_0 (by omega) | exact (fitM_n1 (by omega)).2 (by omega) | exact fitM_c.2 ((fitM_n1 (by omega)).2 (by omega)) | exact fitM_no (by omega) (by omega) rfl (by assumption))).symm), ht⟩) (fun _ h => by cases h) dX11_productFits_13
  · rw [lcmp_eq] at c_1
    try rw [tl_0] at c_1
    refine lv_lload_n hx hb dX11_productFits_6 rfl (lv_at hl 1 rfl) ?_
    refine lv_lconst (v := 0) hx hb dX11_productFits_7 (by decide +kernel) ?_
    refine W.lcmp hx hb dX11_productFits_8 ?_
    refine lv_if_ne (tgt := 14) hx hb dX11_productFits_9 (by decide +kernel) (fun c_2 => ?_) (fun c_2 => ?_)
    · rw [lcmp_eq] at c_2
      try rw [tl_0] at c_2
      refine lv_lload_n hx hb dX11_productFits_14 rfl (lv_at hl 1 rfl) ?_
      refine lv_ldc2 (v := (-1)) hx hb hown (hts (.constantLong RX11 75 (-1)) (List.mem_of_getElem? (i := 1) rfl)) dX11_productFits_15 ?_
      refine W.lcmp hx hb dX11_productFits_18 ?_
      refine lv_if_ne (tgt := 36) hx hb dX11_productFits_19 (by decide +kernel) (fun c_3 => ?_) (fun c_3 => ?_)
      · rw [lcmp_eq] at c_3
        try rw [tl_n1] at c_3
        refine lv_lload_n hx hb dX11_productFits_36 rfl (lv_at hl 0 rfl) ?_
        refine lv_ldc2 (v := (-1)) hx hb hown (hts (.constantLong RX11 75 (-1)) (List.mem_of_getElem? (i := 1) rfl)) dX11_productFits_37 ?_
        refine W.lcmp hx hb dX11_productFits_40 ?_
        refine lv_if_ne (tgt := 58) hx hb dX11_productFits_41 (by decide +kernel) (fun c_4 => ?_) (fun c_4 => ?_)
        · rw [lcmp_eq] at c_4
          try rw [tl_n1] at c_4
          refine lv_lload_n hx hb dX11_productFits_58 rfl (lv_at hl 0 rfl) ?_
          refine lv_lload_n hx hb dX11_productFits_59 rfl (lv_at hl 1 rfl) ?_
          refine lv_lmul hx hb dX11_productFits_60 ?_
          refine lv_lload_n hx hb dX11_productFits_61 rfl (lv_at hl 1 rfl) ?_
          refine lv_ldiv hx hb dX11_productFits_62 (nz64 (by omega)) ?_
          refine lv_lload_n hx hb dX11_productFits_63 rfl (lv_at hl 0 rfl) ?_
          refine W.lcmp hx hb dX11_productFits_64 ?_
          refine lv_if_ne (tgt := 72) hx hb dX11_productFits_65 (by decide +kernel) (fun c_5 => ?_) (fun c_5 => ?_)
          · rw [lcmp_eq] at c_5
            refine lv_iconst (v := 0) hx hb dX11_productFits_72 (by decide +kernel) ?_
            exact W.zret hx hb hr rfl (fun t ht hW => ⟨_, rfl, (by exact (if_neg (fun h9 => by first | exact absurd (by omega) ((fitM_n1 (by omega)).1 h9) | exact absurd (by omega) ((fitM_n1 (by omega)).1 (fitM_c.1 h9)) | exact absurd (fitM_yes h9 (by omega) rfl) (by assumption))).symm), ht⟩) (fun _ h => by cases h) dX11_productFits_73
          · rw [lcmp_eq] at c_5
            refine lv_iconst (v := 1) hx hb dX11_productFits_68 (by decide +kernel) ?_
            refine lv_goto (tgt := 73) hx hb dX11_productFits_69 (by decide +kernel) ?_
            exact W.zret hx hb hr rfl (fun t ht hW => ⟨_, rfl, (by exact (if_pos (by first | exact fitM_0 (by omega) | exact (fitM_n1 (by omega)).2 (by omega) | exact fitM_c.2 ((fitM_n1 (by omega)).2 (by omega)) | exact fitM_no (by omega) (by omega) rfl (by assumption))).symm), ht⟩) (fun _ h => by cases h) dX11_productFits_73
        · rw [lcmp_eq] at c_4
          try rw [tl_n1] at c_4
          refine lv_lload_n hx hb dX11_productFits_44 rfl (lv_at hl 1 rfl) ?_
          refine lv_ldc2 (v := (-9223372036854775808)) hx hb hown (hts (.constantLong RX11 169 (-9223372036854775808)) (List.mem_of_getElem? (i := 2) rfl)) dX11_productFits_45 ?_
          refine W.lcmp hx hb dX11_productFits_48 ?_
          refine lv_if_eq (tgt := 56) hx hb dX11_productFits_49 (by decide +kernel) (fun c_6 => ?_) (fun c_6 => ?_)
          · rw [lcmp_eq] at c_6
            try rw [tl_min] at c_6
            refine lv_iconst (v := 0) hx hb dX11_productFits_56 (by decide +kernel) ?_
            exact W.zret hx hb hr rfl (fun t ht hW => ⟨_, rfl, (by exact (if_neg (fun h9 => by first | exact absurd (by omega) ((fitM_n1 (by omega)).1 h9) | exact absurd (by omega) ((fitM_n1 (by omega)).1 (fitM_c.1 h9)) | exact absurd (fitM_yes h9 (by omega) rfl) (by assumption))).symm), ht⟩) (fun _ h => by cases h) dX11_productFits_57
          · rw [lcmp_eq] at c_6
            try rw [tl_min] at c_6
            refine lv_iconst (v := 1) hx hb dX11_productFits_52 (by decide +kernel) ?_
            refine lv_goto (tgt := 57) hx hb dX11_productFits_53 (by decide +kernel) ?_
            exact W.zret hx hb hr rfl (fun t ht hW => ⟨_, rfl, (by exact (if_pos (by first | exact fitM_0 (by omega) | exact (fitM_n1 (by omega)).2 (by omega) | exact fitM_c.2 ((fitM_n1 (by omega)).2 (by omega)) | exact fitM_no (by omega) (by omega) rfl (by assumption))).symm), ht⟩) (fun _ h => by cases h) dX11_productFits_57
      · rw [lcmp_eq] at c_3
        try rw [tl_n1] at c_3
        refine lv_lload_n hx hb dX11_productFits_22 rfl (lv_at hl 0 rfl) ?_
        refine lv_ldc2 (v := (-9223372036854775808)) hx hb hown (hts (.constantLong RX11 169 (-9223372036854775808)) (List.mem_of_getElem? (i := 2) rfl)) dX11_productFits_23 ?_
        refine W.lcmp hx hb dX11_productFits_26 ?_
        refine lv_if_eq (tgt := 34) hx hb dX11_productFits_27 (by decide +kernel) (fun c_7 => ?_) (fun c_7 => ?_)
        · rw [lcmp_eq] at c_7
          try rw [tl_min] at c_7
          refine lv_iconst (v := 0) hx hb dX11_productFits_34 (by decide +kernel) ?_
          exact W.zret hx hb hr rfl (fun t ht hW => ⟨_, rfl, (by exact (if_neg (fun h9 => by first | exact absurd (by omega) ((fitM_n1 (by omega)).1 h9) | exact absurd (by omega) ((fitM_n1 (by omega)).1 (fitM_c.1 h9)) | exact absurd (fitM_yes h9 (by omega) rfl) (by assumption))).symm), ht⟩) (fun _ h => by cases h) dX11_productFits_35
        · rw [lcmp_eq] at c_7
          try rw [tl_min] at c_7
          refine lv_iconst (v := 1) hx hb dX11_productFits_30 (by decide +kernel) ?_
          refine lv_goto (tgt := 35) hx hb dX11_productFits_31 (by decide +kernel) ?_
          exact W.zret hx hb hr rfl (fun t ht hW => ⟨_, rfl, (by exact (if_pos (by first | exact fitM_0 (by omega) | exact (fitM_n1 (by omega)).2 (by omega) | exact fitM_c.2 ((fitM_n1 (by omega)).2 (by omega)) | exact fitM_no (by omega) (by omega) rfl (by assumption))).symm), ht⟩) (fun _ h => by cases h) dX11_productFits_35
    · rw [lcmp_eq] at c_2
      try rw [tl_0] at c_2
      refine lv_iconst (v := 1) hx hb dX11_productFits_12 (by decide +kernel) ?_
      exact W.zret hx hb hr rfl (fun t ht hW => ⟨_, rfl, (by exact (if_pos (by first | exact fitM_0 (by omega) | exact (fitM_n1 (by omega)).2 (by omega) | exact fitM_c.2 ((fitM_n1 (by omega)).2 (by omega)) | exact fitM_no (by omega) (by omega) rfl (by assumption))).symm), ht⟩) (fun _ h => by cases h) dX11_productFits_13
theorem dX11_isMuch_0 : decode cX11_isMuch 0 = .ok (.aload_n 0, 1) := by decide +kernel
theorem dX11_isMuch_1 : decode cX11_isMuch 1 = .ok (.getfield 15, 3) := by decide +kernel
theorem dX11_isMuch_11 : decode cX11_isMuch 11 = .ok (.iconst 1, 1) := by decide +kernel
theorem dX11_isMuch_12 : decode cX11_isMuch 12 = .ok (.goto 4, 3) := by decide +kernel
theorem dX11_isMuch_15 : decode cX11_isMuch 15 = .ok (.iconst 0, 1) := by decide +kernel
theorem dX11_isMuch_16 : decode cX11_isMuch 16 = .ok (.ireturn, 1) := by decide +kernel
theorem dX11_isMuch_4 : decode cX11_isMuch 4 = .ok (.iload_n 1, 1) := by decide +kernel
theorem dX11_isMuch_5 : decode cX11_isMuch 5 = .ok (.laload, 1) := by decide +kernel
theorem dX11_isMuch_6 : decode cX11_isMuch 6 = .ok (.lconst 0, 1) := by decide +kernel
theorem dX11_isMuch_7 : decode cX11_isMuch 7 = .ok (.lcmp, 1) := by decide +kernel
theorem dX11_isMuch_8 : decode cX11_isMuch 8 = .ok (.ifCond .ne 7, 3) := by decide +kernel
set_option maxRecDepth 20000 in
theorem in_X11_isMuch_X11 : ∀ w ∈ wsX110, w ∈ wsX11_isMuch := sub_r [2, 3, 4, 5, 6, 7] rfl
set_option maxHeartbeats 4000000 in
set_option maxRecDepth 100000 in
theorem c_X11_isMuch (l : Launch) (D : va_G) (T : Nat → ClassId) (h0 : Nat) (fs0 : List Value) (h1 : Nat) (f1 : Nat → Int64) (x1 : Int32) (e0_3 : fs0[3]? = some (.ref h1)) (hx1 : 0 ≤ x1.toInt ∧ x1.toInt < 676) : Met l yX11_isMuch wsX11_isMuch ({ frames := 0, cells := 0, slots := 0, locals := 0 }) (pR [.ref h0, .int x1] D T [(h0, .inr (8, fs0)), (h1, .inl (T 1, 676, .inr (.inl f1)))]) (vp_Si (fun r => r = if (f1 (x1.toNatClampNeg)).toInt = 0 then 1 else 0)) 0 0 (fun _ => False) := by
  refine Met.ofW (cc := cX11_isMuch) (maxL := 2) (ret := (some .boolean)) (by decide +kernel) rfl ?_
  intro p e s m args below meth c s₁ B hml hv
  obtain ⟨rfl, hP, hE⟩ := hv
  have hx := B.exec
  have hb := B.bytes
  have hr := B.returns
  have hts := atoms_spec (ws := wsX11_isMuch) B.pre
  have hown : s.vm.findClass RX11 = some m.cls := findClass_of_methodNamed B.named
  have hlocks := B.notSynchronized
  have hP : va_P D vwCl [(h0, .inr (8, fs0)), (h1, .inl (T 1, 676, .inr (.inl f1)))] s.heap := hP
  have hl := lv_entry ([.ref h0, .int x1]) (n := 2) (Nat.le_of_ble_eq_true rfl)
  rw [lg_entry_eq]
  generalize (lg_sl ([.ref h0, .int x1]) ++ List.replicate (2 - (lg_sl ([.ref h0, .int x1])).length) Slot.unset).toArray = ls at hl ⊢
  have hl : lv_has ls 2 [(0, .ref h0), (1, .int x1)] := hl
  refine lv_aload_n hx hb dX11_isMuch_0 rfl (lv_at hl 0 rfl) ?_
  refine va_get (D := D) (ci := 8) (v := .ref h1) (C := RX11) (T := TX11) (N := 6) hx hb hts in_X11_isMuch_X11 hown hE.1 hP 0 rfl rfl 3 (by decide +kernel) (hts (.fieldLink RX11 15 "ClauseBook$Worth" "below" "[J") (List.mem_of_getElem? (i := 1) rfl)) (fun _ h9 => h9) e0_3 dX11_isMuch_1 ?_
  refine lv_iload_n hx hb dX11_isMuch_4 rfl (lv_at hl 1 rfl) ?_
  refine va_lald hx hb hE.1 hP 1 1 rfl rfl (by rw [vp_in_iff]; omega) dX11_isMuch_5 ?_
  refine lv_topl (fun z_1 ez_1 => ?_)
  refine lv_lconst (v := 0) hx hb dX11_isMuch_6 (by decide +kernel) ?_
  refine W.lcmp hx hb dX11_isMuch_7 ?_
  refine lv_if_ne (tgt := 15) hx hb dX11_isMuch_8 (by decide +kernel) (fun c_2 => ?_) (fun c_2 => ?_)
  · rw [lcmp_eq] at c_2
    try rw [tl_0] at c_2
    refine lv_iconst (v := 0) hx hb dX11_isMuch_15 (by decide +kernel) ?_
    exact W.zret hx hb hr rfl (fun t ht hW => ⟨_, rfl, (by subst_vars; first | exact (if_pos (by omega)).symm | exact (if_neg (by omega)).symm), ht⟩) (fun _ h => by cases h) dX11_isMuch_16
  · rw [lcmp_eq] at c_2
    try rw [tl_0] at c_2
    refine lv_iconst (v := 1) hx hb dX11_isMuch_11 (by decide +kernel) ?_
    refine lv_goto (tgt := 16) hx hb dX11_isMuch_12 (by decide +kernel) ?_
    exact W.zret hx hb hr rfl (fun t ht hW => ⟨_, rfl, (by subst_vars; first | exact (if_pos (by omega)).symm | exact (if_neg (by omega)).symm), ht⟩) (fun _ h => by cases h) dX11_isMuch_16
theorem dX11_partOf_0 : decode cX11_partOf 0 = .ok (.aload_n 0, 1) := by decide +kernel
theorem dX11_partOf_1 : decode cX11_partOf 1 = .ok (.iload_n 1, 1) := by decide +kernel
theorem dX11_partOf_11 : decode cX11_partOf 11 = .ok (.lreturn, 1) := by decide +kernel
theorem dX11_partOf_12 : decode cX11_partOf 12 = .ok (.iload_n 2, 1) := by decide +kernel
theorem dX11_partOf_13 : decode cX11_partOf 13 = .ok (.ifCond .ne 12, 3) := by decide +kernel
theorem dX11_partOf_16 : decode cX11_partOf 16 = .ok (.aload_n 0, 1) := by decide +kernel
theorem dX11_partOf_17 : decode cX11_partOf 17 = .ok (.getfield 11, 3) := by decide +kernel
theorem dX11_partOf_2 : decode cX11_partOf 2 = .ok (.invokevirtual 34, 3) := by decide +kernel
theorem dX11_partOf_20 : decode cX11_partOf 20 = .ok (.iload_n 1, 1) := by decide +kernel
theorem dX11_partOf_21 : decode cX11_partOf 21 = .ok (.laload, 1) := by decide +kernel
theorem dX11_partOf_22 : decode cX11_partOf 22 = .ok (.goto 9, 3) := by decide +kernel
theorem dX11_partOf_25 : decode cX11_partOf 25 = .ok (.aload_n 0, 1) := by decide +kernel
theorem dX11_partOf_26 : decode cX11_partOf 26 = .ok (.getfield 15, 3) := by decide +kernel
theorem dX11_partOf_29 : decode cX11_partOf 29 = .ok (.iload_n 1, 1) := by decide +kernel
theorem dX11_partOf_30 : decode cX11_partOf 30 = .ok (.laload, 1) := by decide +kernel
theorem dX11_partOf_31 : decode cX11_partOf 31 = .ok (.lreturn, 1) := by decide +kernel
theorem dX11_partOf_5 : decode cX11_partOf 5 = .ok (.ifCond .eq 7, 3) := by decide +kernel
theorem dX11_partOf_8 : decode cX11_partOf 8 = .ok (.ldc2_w 38, 3) := by decide +kernel
set_option maxRecDepth 20000 in
theorem ggX11_partOf_X11_isMuch : GoodIn wsX11_partOf wsX11_isMuch := goodIn_r _ [8, 3, 9, 10, 11, 12, 13, 14] rfl (by decide +kernel)
set_option maxRecDepth 20000 in
theorem gX11_partOf_X11_isMuch : GoodIn wsX11_partOf (wsV RX11 34 RX11 yX11_isMuch wsX11_isMuch) := goodIn_app (goodIn_r _ [4, 5, 6, 7] rfl (by decide +kernel)) ggX11_partOf_X11_isMuch
theorem hv_X11_isMuch : yX11_isMuch.cls = RX11 ∧ yX11_isMuch.cls ≠ "java/lang/invoke/MethodHandle" ∧ yX11_isMuch.cls ≠ "java/lang/invoke/VarHandle" ∧ (parseMethodDescriptor yX11_isMuch.desc).map (fun d => d.parameters.length) = some 1 := by decide +kernel
set_option maxRecDepth 20000 in
theorem in_X11_partOf_X11 : ∀ w ∈ wsX110, w ∈ wsX11_partOf := sub_r [9, 10, 11, 12, 13, 14] rfl
set_option maxHeartbeats 4000000 in
set_option maxRecDepth 100000 in
theorem c_X11_partOf (l : Launch) (D : va_G) (T : Nat → ClassId) (h0 : Nat) (fs0 : List Value) (h1 : Nat) (f1 : Nat → Int64) (h2 : Nat) (f2 : Nat → Int64) (x1 : Int32) (x2 : Int32) (e0_3 : fs0[3]? = some (.ref h1)) (e0_2 : fs0[2]? = some (.ref h2)) (hx1 : 0 ≤ x1.toInt ∧ x1.toInt < 676) : Met l yX11_partOf wsX11_partOf ({ frames := 1, cells := 0, slots := 0, locals := 21 }) (pR [.ref h0, .int x1, .int x2] D T [(h0, .inr (8, fs0)), (h1, .inl (T 1, 676, .inr (.inl f1))), (h2, .inl (T 1, 676, .inr (.inl f2)))]) (vp_Sl (fun r => partW (f2 (x1.toNatClampNeg), f1 (x1.toNatClampNeg)) x2 r)) 0 0 (fun _ => False) := by
  refine Met.ofW (cc := cX11_partOf) (maxL := 3) (ret := (some .long)) (by decide +kernel) rfl ?_
  intro p e s m args below meth c s₁ B hml hv
  obtain ⟨rfl, hP, hE⟩ := hv
  have hx := B.exec
  have hb := B.bytes
  have hr := B.returns
  have hts := atoms_spec (ws := wsX11_partOf) B.pre
  have hown : s.vm.findClass RX11 = some m.cls := findClass_of_methodNamed B.named
  have hlocks := B.notSynchronized
  have hP : va_P D vwCl [(h0, .inr (8, fs0)), (h1, .inl (T 1, 676, .inr (.inl f1))), (h2, .inl (T 1, 676, .inr (.inl f2)))] s.heap := hP
  have hl := lv_entry ([.ref h0, .int x1, .int x2]) (n := 3) (Nat.le_of_ble_eq_true rfl)
  rw [lg_entry_eq]
  generalize (lg_sl ([.ref h0, .int x1, .int x2]) ++ List.replicate (3 - (lg_sl ([.ref h0, .int x1, .int x2])).length) Slot.unset).toArray = ls at hl ⊢
  have hl : lv_has ls 3 [(0, .ref h0), (1, .int x1), (2, .int x2)] := hl
  refine lv_aload_n hx hb dX11_partOf_0 rfl (lv_at hl 0 rfl) ?_
  refine lv_iload_n hx hb dX11_partOf_1 rfl (lv_at hl 1 rfl) ?_
  refine vp_callSi (W.runV (As := [.int x1]) (rest := []) ⟨hx, hb, hml, hown, hts⟩ (c_X11_isMuch l D T h0 fs0 h1 f1 x1 e0_3 (by first | decide | omega)) (cwV 1 hts gX11_partOf_X11_isMuch rfl rfl rfl hv_X11_isMuch ⟨Nat.le_of_ble_eq_true rfl, Nat.le_of_ble_eq_true rfl⟩) (pR_V (q := (RX11, TX11, 6)) (ci := 8) (q0 := 0) hP hE rfl rfl [0, 1] rfl) rfl rfl hl.1 rfl (lv_room (Nat.le_of_ble_eq_true rfl)) dX11_partOf_2 ⟨Nat.le_of_ble_eq_true rfl, Nat.le_of_ble_eq_true rfl⟩) (fun r_1 hr_1 => ?_)
  rcases bool_post hr_1 with ⟨c_2, rfl⟩ | ⟨c_2, rfl⟩
  · refine lv_if_eq (tgt := 12) hx hb dX11_partOf_5 (by decide +kernel) (fun c9 => absurd c9 (by decide +kernel)) (fun _ => ?_)
    refine lv_ldc2 (v := (-4611686018427387909)) hx hb hown (hts (.constantLong RX11 38 (-4611686018427387909)) (List.mem_of_getElem? (i := 1) rfl)) dX11_partOf_8 ?_
    exact W.lret hx hb hr (fun t ht hW => ⟨_, rfl, (Or.inl ⟨(show (f1 (x1.toNatClampNeg)).toInt = 0 from by omega), (by decide +kernel)⟩), ht⟩) (fun _ h => by cases h) dX11_partOf_11
  · refine lv_if_eq (tgt := 12) hx hb dX11_partOf_5 (by decide +kernel) (fun _ => ?_) (fun c9 => absurd c9 (by decide +kernel))
    refine lv_iload_n hx hb dX11_partOf_12 rfl (lv_at hl 2 rfl) ?_
    refine lv_if_ne (tgt := 25) hx hb dX11_partOf_13 (by decide +kernel) (fun c_3 => ?_) (fun c_3 => ?_)
    · rw [fa_eq] at c_3
      try rw [ti_0] at c_3
      refine lv_aload_n hx hb dX11_partOf_25 rfl (lv_at hl 0 rfl) ?_
      refine va_get (D := D) (ci := 8) (v := .ref h1) (C := RX11) (T := TX11) (N := 6) hx hb hts in_X11_partOf_X11 hown hE.1 hP 0 rfl rfl 3 (by decide +kernel) (hts (.fieldLink RX11 15 "ClauseBook$Worth" "below" "[J") (List.mem_of_getElem? (i := 3) rfl)) (fun _ h9 => h9) e0_3 dX11_partOf_26 ?_
      refine lv_iload_n hx hb dX11_partOf_29 rfl (lv_at hl 1 rfl) ?_
      refine va_lald hx hb hE.1 hP 1 1 rfl rfl (by rw [vp_in_iff]; omega) dX11_partOf_30 ?_
      refine lv_topl (fun z_4 ez_4 => ?_)
      exact W.lret hx hb hr (fun t ht hW => ⟨_, rfl, (Or.inr ⟨(show ¬ (f1 (x1.toNatClampNeg)).toInt = 0 from by omega), Or.inr ⟨(by omega), ez_4⟩⟩), ht⟩) (fun _ h => by cases h) dX11_partOf_31
    · rw [fa_eq] at c_3
      try rw [ti_0] at c_3
      refine lv_aload_n hx hb dX11_partOf_16 rfl (lv_at hl 0 rfl) ?_
      refine va_get (D := D) (ci := 8) (v := .ref h2) (C := RX11) (T := TX11) (N := 6) hx hb hts in_X11_partOf_X11 hown hE.1 hP 0 rfl rfl 2 (by decide +kernel) (hts (.fieldLink RX11 11 "ClauseBook$Worth" "above" "[J") (List.mem_of_getElem? (i := 2) rfl)) (fun _ h9 => h9) e0_2 dX11_partOf_17 ?_
      refine lv_iload_n hx hb dX11_partOf_20 rfl (lv_at hl 1 rfl) ?_
      refine va_lald hx hb hE.1 hP 2 1 rfl rfl (by rw [vp_in_iff]; omega) dX11_partOf_21 ?_
      refine lv_topl (fun z_5 ez_5 => ?_)
      refine lv_goto (tgt := 31) hx hb dX11_partOf_22 (by decide +kernel) ?_
      exact W.lret hx hb hr (fun t ht hW => ⟨_, rfl, (Or.inr ⟨(show ¬ (f1 (x1.toNatClampNeg)).toInt = 0 from by omega), Or.inl ⟨(by omega), ez_5⟩⟩), ht⟩) (fun _ h => by cases h) dX11_partOf_31
theorem dX11_assign_0 : decode cX11_assign 0 = .ok (.aload_n 0, 1) := by decide +kernel
theorem dX11_assign_1 : decode cX11_assign 1 = .ok (.getfield 11, 3) := by decide +kernel
theorem dX11_assign_11 : decode cX11_assign 11 = .ok (.iload_n 1, 1) := by decide +kernel
theorem dX11_assign_12 : decode cX11_assign 12 = .ok (.lload 4, 2) := by decide +kernel
theorem dX11_assign_14 : decode cX11_assign 14 = .ok (.lastore, 1) := by decide +kernel
theorem dX11_assign_15 : decode cX11_assign 15 = .ok (.return_, 1) := by decide +kernel
theorem dX11_assign_4 : decode cX11_assign 4 = .ok (.iload_n 1, 1) := by decide +kernel
theorem dX11_assign_5 : decode cX11_assign 5 = .ok (.lload_n 2, 1) := by decide +kernel
theorem dX11_assign_6 : decode cX11_assign 6 = .ok (.lastore, 1) := by decide +kernel
theorem dX11_assign_7 : decode cX11_assign 7 = .ok (.aload_n 0, 1) := by decide +kernel
theorem dX11_assign_8 : decode cX11_assign 8 = .ok (.getfield 15, 3) := by decide +kernel
set_option maxRecDepth 20000 in
theorem in_X11_assign_X11 : ∀ w ∈ wsX110, w ∈ wsX11_assign := sub_r [3, 4, 5, 6, 7, 8] rfl
set_option maxHeartbeats 4000000 in
set_option maxRecDepth 100000 in
theorem c_X11_assign (l : Launch) (D : va_G) (T : Nat → ClassId) (sz : Nat) (h0 : Nat) (p0 : Nat) (p1 : Nat) (v0 : Value) (v1 : Value) (v4 : Value) (n : Int32) (f0 : Nat → Int64) (f1 : Nat → Int64) (x1 : Int32) (x2 : Int64) (x3 : Int64) (hx1 : 0 ≤ x1.toInt ∧ x1.toInt < 676) : Met l yX11_assign wsX11_assign ({ frames := 0, cells := 0, slots := 0, locals := 0 }) (pW [.ref h0, .int x1, .long x2, .long x3] D T [(h0, .inr (8, [v0, v1, .ref p0, .ref p1, v4, .int n])), (p0, .inl (T 1, 676, .inr (.inl f0))), (p1, .inl (T 1, 676, .inr (.inl f1)))] sz) (va_Qv (fun (u : (Nat → Int64) × (Nat → Int64)) => u.1 = vp_updL f0 (x1.toNatClampNeg) ((x2, x3)).1 ∧ u.2 = vp_updL f1 (x1.toNatClampNeg) ((x2, x3)).2) (bW D (va_A [(h0, .inr (8, [v0, v1, .ref p0, .ref p1, v4, .int n])), (p0, .inl (T 1, 676, .inr (.inl f0))), (p1, .inl (T 1, 676, .inr (.inl f1)))] sz) (fun (u : (Nat → Int64) × (Nat → Int64)) => [(h0, .inr (8, [v0, v1, .ref p0, .ref p1, v4, .int n])), (p0, .inl (T 1, 676, .inr (.inl u.1))), (p1, .inl (T 1, 676, .inr (.inl u.2)))])) (va_A [(h0, .inr (8, [v0, v1, .ref p0, .ref p1, v4, .int n])), (p0, .inl (T 1, 676, .inr (.inl f0))), (p1, .inl (T 1, 676, .inr (.inl f1)))] sz)) 0 0 (va_A [(h0, .inr (8, [v0, v1, .ref p0, .ref p1, v4, .int n])), (p0, .inl (T 1, 676, .inr (.inl f0))), (p1, .inl (T 1, 676, .inr (.inl f1)))] sz) := by
  refine Met.ofW (cc := cX11_assign) (maxL := 6) (ret := none) (by decide +kernel) rfl ?_
  intro p e s m args below meth c s₁ B hml hv
  obtain ⟨rfl, hsz, hP, hE, hD0⟩ := hv
  have hx := B.exec
  have hb := B.bytes
  have hr := B.returns
  have hts := atoms_spec (ws := wsX11_assign) B.pre
  have hown : s.vm.findClass RX11 = some m.cls := findClass_of_methodNamed B.named
  have hlocks := B.notSynchronized
  subst hsz
  have hD := hD0.self (sz := s.heap.size)
  generalize hAe : va_A [(h0, .inr (8, [v0, v1, .ref p0, .ref p1, v4, .int n])), (p0, .inl (T 1, 676, .inr (.inl f0))), (p1, .inl (T 1, 676, .inr (.inl f1)))] s.heap.size = A at hD ⊢
  have hA : ∀ q : Nat, s.heap.size ≤ q → A q := fun q h => by rw [← hAe]; exact Or.inr h
  have hS : va_S A s.heap s.heap [] := va_S.rf
  have hP : va_P D vwCl [(h0, .inr (8, [v0, v1, .ref p0, .ref p1, v4, .int n])), (p0, .inl (T 1, 676, .inr (.inl f0))), (p1, .inl (T 1, 676, .inr (.inl f1)))] s.heap := hP
  have hl := lv_entry ([.ref h0, .int x1, .long x2, .long x3]) (n := 6) (Nat.le_of_ble_eq_true rfl)
  rw [lg_entry_eq]
  generalize (lg_sl ([.ref h0, .int x1, .long x2, .long x3]) ++ List.replicate (6 - (lg_sl ([.ref h0, .int x1, .long x2, .long x3])).length) Slot.unset).toArray = ls at hl ⊢
  have hl : lv_has ls 6 [(0, .ref h0), (1, .int x1), (2, .long x2), (4, .long x3)] := hl
  clear hD0
  refine lv_aload_n hx hb dX11_assign_0 rfl (lv_at hl 0 rfl) ?_
  refine va_get (D := D) (ci := 8) (v := .ref p0) (C := RX11) (T := TX11) (N := 6) hx hb hts in_X11_assign_X11 hown hE.1 hP 0 rfl rfl 2 (by decide +kernel) (hts (.fieldLink RX11 11 "ClauseBook$Worth" "above" "[J") (List.mem_of_getElem? (i := 1) rfl)) (fun _ h9 => h9) rfl dX11_assign_1 ?_
  refine lv_iload_n hx hb dX11_assign_4 rfl (lv_at hl 1 rfl) ?_
  refine lv_lload_n hx hb dX11_assign_5 rfl (lv_at hl 2 rfl) ?_
  refine va_last hx hb hE.1 hP hD hS 1 1 rfl rfl (by rw [vp_in_iff]; omega) dX11_assign_6 (fun H locs hP hD hS => ?_)
  obtain ⟨hP, hD⟩ := wPD [(h0, .inr (8, [v0, v1, .ref p0, .ref p1, v4, .int n])), (p0, .inl (T 1, 676, .inr (.inl (vp_updL f0 (x1.toNatClampNeg) x2)))), (p1, .inl (T 1, 676, .inr (.inl f1)))] hP hD rfl
  refine lv_aload_n hx hb dX11_assign_7 rfl (lv_at hl 0 rfl) ?_
  refine va_get (D := D) (ci := 8) (v := .ref p1) (C := RX11) (T := TX11) (N := 6) hx hb hts in_X11_assign_X11 hown hE.1 hP 0 rfl rfl 3 (by decide +kernel) (hts (.fieldLink RX11 15 "ClauseBook$Worth" "below" "[J") (List.mem_of_getElem? (i := 2) rfl)) (fun _ h9 => h9) rfl dX11_assign_8 ?_
  refine lv_iload_n hx hb dX11_assign_11 rfl (lv_at hl 1 rfl) ?_
  refine lv_lload hx hb dX11_assign_12 (lv_at hl 3 rfl) ?_
  refine va_last hx hb hE.1 hP hD hS 2 1 rfl rfl (by rw [vp_in_iff]; omega) dX11_assign_14 (fun H locs hP hD hS => ?_)
  obtain ⟨hP, hD⟩ := wPD [(h0, .inr (8, [v0, v1, .ref p0, .ref p1, v4, .int n])), (p0, .inl (T 1, 676, .inr (.inl (vp_updL f0 (x1.toNatClampNeg) x2)))), (p1, .inl (T 1, 676, .inr (.inl (vp_updL f1 (x1.toNatClampNeg) x3))))] hP hD rfl
  exact W.vret hx hb hr (fun t ht hW => ⟨⟨((vp_updL f0 (x1.toNatClampNeg) x2), (vp_updL f1 (x1.toNatClampNeg) x3)), rfl, ⟨rfl, rfl⟩, by rw [ht]; exact hP.sub [0, 1, 2] rfl, hD.sub [0, 1, 2] (by decide +kernel) rfl⟩, hS.F ht⟩) hS.2.2 dX11_assign_15
theorem dX11_repeat_0 : decode cX11_repeat 0 = .ok (.aload_n 0, 1) := by decide +kernel
theorem dX11_repeat_1 : decode cX11_repeat 1 = .ok (.iload_n 1, 1) := by decide +kernel
theorem dX11_repeat_12 : decode cX11_repeat 12 = .ok (.iload_n 2, 1) := by decide +kernel
theorem dX11_repeat_13 : decode cX11_repeat 13 = .ok (.laload, 1) := by decide +kernel
theorem dX11_repeat_14 : decode cX11_repeat 14 = .ok (.invokevirtual 67, 3) := by decide +kernel
theorem dX11_repeat_17 : decode cX11_repeat 17 = .ok (.return_, 1) := by decide +kernel
theorem dX11_repeat_2 : decode cX11_repeat 2 = .ok (.aload_n 0, 1) := by decide +kernel
theorem dX11_repeat_3 : decode cX11_repeat 3 = .ok (.getfield 11, 3) := by decide +kernel
theorem dX11_repeat_6 : decode cX11_repeat 6 = .ok (.iload_n 2, 1) := by decide +kernel
theorem dX11_repeat_7 : decode cX11_repeat 7 = .ok (.laload, 1) := by decide +kernel
theorem dX11_repeat_8 : decode cX11_repeat 8 = .ok (.aload_n 0, 1) := by decide +kernel
theorem dX11_repeat_9 : decode cX11_repeat 9 = .ok (.getfield 15, 3) := by decide +kernel
set_option maxRecDepth 20000 in
theorem ggX11_repeat_X11_assign : GoodIn wsX11_repeat wsX11_assign := goodIn_r _ [7, 1, 2, 8, 9, 10, 11, 12, 13] rfl (by decide +kernel)
set_option maxRecDepth 20000 in
theorem gX11_repeat_X11_assign : GoodIn wsX11_repeat (wsV RX11 67 RX11 yX11_assign wsX11_assign) := goodIn_app (goodIn_r _ [3, 4, 5, 6] rfl (by decide +kernel)) ggX11_repeat_X11_assign
theorem hv_X11_assign : yX11_assign.cls = RX11 ∧ yX11_assign.cls ≠ "java/lang/invoke/MethodHandle" ∧ yX11_assign.cls ≠ "java/lang/invoke/VarHandle" ∧ (parseMethodDescriptor yX11_assign.desc).map (fun d => d.parameters.length) = some 3 := by decide +kernel
set_option maxRecDepth 20000 in
theorem in_X11_repeat_X11 : ∀ w ∈ wsX110, w ∈ wsX11_repeat := sub_r [8, 9, 10, 11, 12, 13] rfl
set_option maxHeartbeats 4000000 in
set_option maxRecDepth 100000 in
theorem c_X11_repeat (l : Launch) (D : va_G) (T : Nat → ClassId) (sz : Nat) (h0 : Nat) (p0 : Nat) (p1 : Nat) (v0 : Value) (v1 : Value) (v4 : Value) (n : Int32) (f0 : Nat → Int64) (f1 : Nat → Int64) (x1 : Int32) (x2 : Int32) (hx1 : 0 ≤ x1.toInt ∧ x1.toInt < 676) (hx2 : 0 ≤ x2.toInt ∧ x2.toInt < 676) : Met l yX11_repeat wsX11_repeat ({ frames := 1, cells := 0, slots := 0, locals := 25 }) (pW [.ref h0, .int x1, .int x2] D T [(h0, .inr (8, [v0, v1, .ref p0, .ref p1, v4, .int n])), (p0, .inl (T 1, 676, .inr (.inl f0))), (p1, .inl (T 1, 676, .inr (.inl f1)))] sz) (va_Qv (fun (u : (Nat → Int64) × (Nat → Int64)) => u.1 = vp_updL f0 (x1.toNatClampNeg) (((f0 (x2.toNatClampNeg)), (f1 (x2.toNatClampNeg)))).1 ∧ u.2 = vp_updL f1 (x1.toNatClampNeg) (((f0 (x2.toNatClampNeg)), (f1 (x2.toNatClampNeg)))).2) (bW D (va_A [(h0, .inr (8, [v0, v1, .ref p0, .ref p1, v4, .int n])), (p0, .inl (T 1, 676, .inr (.inl f0))), (p1, .inl (T 1, 676, .inr (.inl f1)))] sz) (fun (u : (Nat → Int64) × (Nat → Int64)) => [(h0, .inr (8, [v0, v1, .ref p0, .ref p1, v4, .int n])), (p0, .inl (T 1, 676, .inr (.inl u.1))), (p1, .inl (T 1, 676, .inr (.inl u.2)))])) (va_A [(h0, .inr (8, [v0, v1, .ref p0, .ref p1, v4, .int n])), (p0, .inl (T 1, 676, .inr (.inl f0))), (p1, .inl (T 1, 676, .inr (.inl f1)))] sz)) 0 0 (va_A [(h0, .inr (8, [v0, v1, .ref p0, .ref p1, v4, .int n])), (p0, .inl (T 1, 676, .inr (.inl f0))), (p1, .inl (T 1, 676, .inr (.inl f1)))] sz) := by
  refine Met.ofW (cc := cX11_repeat) (maxL := 3) (ret := none) (by decide +kernel) rfl ?_
  intro p e s m args below meth c s₁ B hml hv
  obtain ⟨rfl, hsz, hP, hE, hD0⟩ := hv
  have hx := B.exec
  have hb := B.bytes
  have hr := B.returns
  have hts := atoms_spec (ws := wsX11_repeat) B.pre
  have hown : s.vm.findClass RX11 = some m.cls := findClass_of_methodNamed B.named
  have hlocks := B.notSynchronized
  subst hsz
  have hD := hD0.self (sz := s.heap.size)
  generalize hAe : va_A [(h0, .inr (8, [v0, v1, .ref p0, .ref p1, v4, .int n])), (p0, .inl (T 1, 676, .inr (.inl f0))), (p1, .inl (T 1, 676, .inr (.inl f1)))] s.heap.size = A at hD ⊢
  have hA : ∀ q : Nat, s.heap.size ≤ q → A q := fun q h => by rw [← hAe]; exact Or.inr h
  have hS : va_S A s.heap s.heap [] := va_S.rf
  have hP : va_P D vwCl [(h0, .inr (8, [v0, v1, .ref p0, .ref p1, v4, .int n])), (p0, .inl (T 1, 676, .inr (.inl f0))), (p1, .inl (T 1, 676, .inr (.inl f1)))] s.heap := hP
  have hl := lv_entry ([.ref h0, .int x1, .int x2]) (n := 3) (Nat.le_of_ble_eq_true rfl)
  rw [lg_entry_eq]
  generalize (lg_sl ([.ref h0, .int x1, .int x2]) ++ List.replicate (3 - (lg_sl ([.ref h0, .int x1, .int x2])).length) Slot.unset).toArray = ls at hl ⊢
  have hl : lv_has ls 3 [(0, .ref h0), (1, .int x1), (2, .int x2)] := hl
  clear hD0
  refine lv_aload_n hx hb dX11_repeat_0 rfl (lv_at hl 0 rfl) ?_
  refine lv_iload_n hx hb dX11_repeat_1 rfl (lv_at hl 1 rfl) ?_
  refine lv_aload_n hx hb dX11_repeat_2 rfl (lv_at hl 0 rfl) ?_
  refine va_get (D := D) (ci := 8) (v := .ref p0) (C := RX11) (T := TX11) (N := 6) hx hb hts in_X11_repeat_X11 hown hE.1 hP 0 rfl rfl 2 (by decide +kernel) (hts (.fieldLink RX11 11 "ClauseBook$Worth" "above" "[J") (List.mem_of_getElem? (i := 1) rfl)) (fun _ h9 => h9) rfl dX11_repeat_3 ?_
  refine lv_iload_n hx hb dX11_repeat_6 rfl (lv_at hl 2 rfl) ?_
  refine va_lald hx hb hE.1 hP 1 1 rfl rfl (by rw [vp_in_iff]; omega) dX11_repeat_7 ?_
  refine lv_topl (fun z_1 ez_1 => ?_)
  refine lv_aload_n hx hb dX11_repeat_8 rfl (lv_at hl 0 rfl) ?_
  refine va_get (D := D) (ci := 8) (v := .ref p1) (C := RX11) (T := TX11) (N := 6) hx hb hts in_X11_repeat_X11 hown hE.1 hP 0 rfl rfl 3 (by decide +kernel) (hts (.fieldLink RX11 15 "ClauseBook$Worth" "below" "[J") (List.mem_of_getElem? (i := 2) rfl)) (fun _ h9 => h9) rfl dX11_repeat_9 ?_
  refine lv_iload_n hx hb dX11_repeat_12 rfl (lv_at hl 2 rfl) ?_
  refine va_lald hx hb hE.1 hP 2 1 rfl rfl (by rw [vp_in_iff]; omega) dX11_repeat_13 ?_
  refine lv_topl (fun z_2 ez_2 => ?_)
  have hFc := va_free (wc := [(h0, .inr (8, [v0, v1, .ref p0, .ref p1, v4, .int n])), (p0, .inl (T 1, 676, .inr (.inl f0))), (p1, .inl (T 1, 676, .inr (.inl f1)))]) hD hS hA [0, 1, 2] rfl
  refine va_callv (va_runV (As := [.int x1, .long z_1, .long z_2]) (rest := []) ⟨hx, hb, hml, hown, hts⟩ (c_X11_assign l D T _ h0 p0 p1 (v0) (v1) (v4) n f0 f1 x1 z_1 z_2 (by first | decide | omega)) (cwV 3 hts gX11_repeat_X11_assign rfl rfl rfl hv_X11_assign ⟨Nat.le_of_ble_eq_true rfl, Nat.le_of_ble_eq_true rfl⟩) (pW_V (q := (RX11, TX11, 6)) (ci := 8) (q0 := 0) hP hE hD rfl rfl [0, 1, 2] (by decide +kernel) rfl rfl) rfl rfl hl.1 rfl (lv_room (Nat.le_of_ble_eq_true rfl)) dX11_repeat_14 ⟨Nat.le_of_ble_eq_true rfl, Nat.le_of_ble_eq_true rfl⟩) hS (fun q _ h => hFc q h) hFc (fun u_4 t H1 locs ht hvm hr_3 hB hz1 hk1 hS => ?_)
  obtain ⟨f_5, f_6⟩ := u_4
  have hrd1 : f_5 = vp_updL f0 (x1.toNatClampNeg) ((z_1, z_2)).1 := hr_3.1
  have hrd2 : f_6 = vp_updL f1 (x1.toNatClampNeg) ((z_1, z_2)).2 := hr_3.2
  obtain ⟨hP1, hD1⟩ := hB
  rw [ht] at hP1
  obtain ⟨hP, hD⟩ := va_repl [(h0, .inr (8, [v0, v1, .ref p0, .ref p1, v4, .int n])), (p0, .inl (T 1, 676, .inr (.inl f_5))), (p1, .inl (T 1, 676, .inr (.inl f_6)))] hP hD [0, 1, 2] [0, 1, 2] rfl (by decide +kernel) rfl rfl rfl hk1 hP1
  clear hP1 hD1 hFc
  generalize H1 = H at hP hS ⊢
  exact W.vret hx hb hr (fun t ht hW => ⟨⟨(f_5, f_6), rfl, ⟨hrd1.trans (congrArg (fun q9 : Int64 × Int64 => vp_updL f0 (x1.toNatClampNeg) q9.1) (show (z_1, z_2) = ((f0 (x2.toNatClampNeg)), (f1 (x2.toNatClampNeg))) from (by rw [ez_1, ez_2]))), hrd2.trans (congrArg (fun q9 : Int64 × Int64 => vp_updL f1 (x1.toNatClampNeg) q9.2) (show (z_1, z_2) = ((f0 (x2.toNatClampNeg)), (f1 (x2.toNatClampNeg))) from (by rw [ez_1, ez_2])))⟩, by rw [ht]; exact hP.sub [0, 1, 2] rfl, hD.sub [0, 1, 2] (by decide +kernel) rfl⟩, hS.F ht⟩) hS.2.2 dX11_repeat_17
theorem dX11_multiply_0 : decode cX11_multiply 0 = .ok (.aload_n 0, 1) := by decide +kernel
theorem dX11_multiply_1 : decode cX11_multiply 1 = .ok (.getfield 11, 3) := by decide +kernel
theorem dX11_multiply_12 : decode cX11_multiply 12 = .ok (.iload_n 2, 1) := by decide +kernel
theorem dX11_multiply_13 : decode cX11_multiply 13 = .ok (.laload, 1) := by decide +kernel
theorem dX11_multiply_14 : decode cX11_multiply 14 = .ok (.lstore 9, 2) := by decide +kernel
theorem dX11_multiply_16 : decode cX11_multiply 16 = .ok (.lload 9, 2) := by decide +kernel
theorem dX11_multiply_18 : decode cX11_multiply 18 = .ok (.lconst 0, 1) := by decide +kernel
theorem dX11_multiply_19 : decode cX11_multiply 19 = .ok (.lcmp, 1) := by decide +kernel
theorem dX11_multiply_20 : decode cX11_multiply 20 = .ok (.ifCond .eq 22, 3) := by decide +kernel
theorem dX11_multiply_23 : decode cX11_multiply 23 = .ok (.lload 7, 2) := by decide +kernel
theorem dX11_multiply_25 : decode cX11_multiply 25 = .ok (.lload_n 3, 1) := by decide +kernel
theorem dX11_multiply_26 : decode cX11_multiply 26 = .ok (.invokestatic 147, 3) := by decide +kernel
theorem dX11_multiply_29 : decode cX11_multiply 29 = .ok (.ifCond .eq 13, 3) := by decide +kernel
theorem dX11_multiply_32 : decode cX11_multiply 32 = .ok (.lload 9, 2) := by decide +kernel
theorem dX11_multiply_34 : decode cX11_multiply 34 = .ok (.lload 5, 2) := by decide +kernel
theorem dX11_multiply_36 : decode cX11_multiply 36 = .ok (.invokestatic 147, 3) := by decide +kernel
theorem dX11_multiply_39 : decode cX11_multiply 39 = .ok (.ifCond .ne 13, 3) := by decide +kernel
theorem dX11_multiply_4 : decode cX11_multiply 4 = .ok (.iload_n 2, 1) := by decide +kernel
theorem dX11_multiply_42 : decode cX11_multiply 42 = .ok (.aload_n 0, 1) := by decide +kernel
theorem dX11_multiply_43 : decode cX11_multiply 43 = .ok (.iload_n 1, 1) := by decide +kernel
theorem dX11_multiply_44 : decode cX11_multiply 44 = .ok (.lconst 0, 1) := by decide +kernel
theorem dX11_multiply_45 : decode cX11_multiply 45 = .ok (.lconst 0, 1) := by decide +kernel
theorem dX11_multiply_46 : decode cX11_multiply 46 = .ok (.invokevirtual 67, 3) := by decide +kernel
theorem dX11_multiply_49 : decode cX11_multiply 49 = .ok (.goto 17, 3) := by decide +kernel
theorem dX11_multiply_5 : decode cX11_multiply 5 = .ok (.laload, 1) := by decide +kernel
theorem dX11_multiply_52 : decode cX11_multiply 52 = .ok (.aload_n 0, 1) := by decide +kernel
theorem dX11_multiply_53 : decode cX11_multiply 53 = .ok (.iload_n 1, 1) := by decide +kernel
theorem dX11_multiply_54 : decode cX11_multiply 54 = .ok (.lload 7, 2) := by decide +kernel
theorem dX11_multiply_56 : decode cX11_multiply 56 = .ok (.lload_n 3, 1) := by decide +kernel
theorem dX11_multiply_57 : decode cX11_multiply 57 = .ok (.lmul, 1) := by decide +kernel
theorem dX11_multiply_58 : decode cX11_multiply 58 = .ok (.lload 9, 2) := by decide +kernel
theorem dX11_multiply_6 : decode cX11_multiply 6 = .ok (.lstore 7, 2) := by decide +kernel
theorem dX11_multiply_60 : decode cX11_multiply 60 = .ok (.lload 5, 2) := by decide +kernel
theorem dX11_multiply_62 : decode cX11_multiply 62 = .ok (.lmul, 1) := by decide +kernel
theorem dX11_multiply_63 : decode cX11_multiply 63 = .ok (.invokevirtual 141, 3) := by decide +kernel
theorem dX11_multiply_66 : decode cX11_multiply 66 = .ok (.return_, 1) := by decide +kernel
theorem dX11_multiply_8 : decode cX11_multiply 8 = .ok (.aload_n 0, 1) := by decide +kernel
theorem dX11_multiply_9 : decode cX11_multiply 9 = .ok (.getfield 15, 3) := by decide +kernel
set_option maxRecDepth 20000 in
theorem ggX11_multiply_X11_assign : GoodIn wsX11_multiply wsX11_assign := goodIn_r _ [12, 1, 2, 21, 22, 23, 24, 25, 26] rfl (by decide +kernel)
set_option maxRecDepth 20000 in
theorem ggX11_multiply_X11_productFits : GoodIn wsX11_multiply wsX11_productFits := goodIn_r _ [6, 7, 8] rfl (by decide +kernel)
set_option maxRecDepth 20000 in
theorem ggX11_multiply_X11_reduce : GoodIn wsX11_multiply wsX11_reduce := goodIn_r _ [16, 1, 2, 17, 18, 19, 20, 21, 22, 23, 24, 25, 26] rfl (by decide +kernel)
set_option maxRecDepth 20000 in
theorem gX11_multiply_X11_assign : GoodIn wsX11_multiply (wsV RX11 67 RX11 yX11_assign wsX11_assign) := goodIn_app (goodIn_r _ [9, 10, 11, 5] rfl (by decide +kernel)) ggX11_multiply_X11_assign
set_option maxRecDepth 20000 in
theorem gX11_multiply_X11_productFits : GoodIn wsX11_multiply (va_wsS RX11 147 yX11_productFits wsX11_productFits) := goodIn_app (goodIn_of _ (by decide +kernel)) ggX11_multiply_X11_productFits
set_option maxRecDepth 20000 in
theorem gX11_multiply_X11_reduce : GoodIn wsX11_multiply (wsV RX11 141 RX11 yX11_reduce wsX11_reduce) := goodIn_app (goodIn_r _ [13, 14, 15, 5] rfl (by decide +kernel)) ggX11_multiply_X11_reduce
theorem hs_X11_productFits : yX11_productFits.cls ≠ "java/lang/invoke/MethodHandle" ∧ yX11_productFits.cls ≠ "java/lang/invoke/VarHandle" ∧ (parseMethodDescriptor yX11_productFits.desc).map (fun d => d.parameters.length) = some 2 := by decide +kernel
set_option maxRecDepth 20000 in
theorem in_X11_multiply_X11 : ∀ w ∈ wsX110, w ∈ wsX11_multiply := sub_r [21, 22, 23, 24, 25, 26] rfl
set_option maxHeartbeats 4000000 in
set_option maxRecDepth 100000 in
theorem c_X11_multiply (l : Launch) (D : va_G) (T : Nat → ClassId) (sz : Nat) (h0 : Nat) (p0 : Nat) (p1 : Nat) (v0 : Value) (v1 : Value) (v4 : Value) (n : Int32) (f0 : Nat → Int64) (f1 : Nat → Int64) (x1 : Int32) (x2 : Int32) (x3 : Int64) (x4 : Int64) (hx1 : 0 ≤ x1.toInt ∧ x1.toInt < 676) (hx2 : 0 ≤ x2.toInt ∧ x2.toInt < 676) (hb2 : 0 ≤ (f1 (x2.toNatClampNeg)).toInt) (hw4 : 1 ≤ x4.toInt) : Met l yX11_multiply wsX11_multiply ({ frames := 2, cells := 0, slots := 0, locals := 72 }) (pW [.ref h0, .int x1, .int x2, .long x3, .long x4] D T [(h0, .inr (8, [v0, v1, .ref p0, .ref p1, v4, .int n])), (p0, .inl (T 1, 676, .inr (.inl f0))), (p1, .inl (T 1, 676, .inr (.inl f1)))] sz) (va_Qv (fun (u : (Nat → Int64) × (Nat → Int64)) => u.1 = vp_updL f0 (x1.toNatClampNeg) (mulW ((f0 (x2.toNatClampNeg)), (f1 (x2.toNatClampNeg))) x3 x4).1 ∧ u.2 = vp_updL f1 (x1.toNatClampNeg) (mulW ((f0 (x2.toNatClampNeg)), (f1 (x2.toNatClampNeg))) x3 x4).2) (bW D (va_A [(h0, .inr (8, [v0, v1, .ref p0, .ref p1, v4, .int n])), (p0, .inl (T 1, 676, .inr (.inl f0))), (p1, .inl (T 1, 676, .inr (.inl f1)))] sz) (fun (u : (Nat → Int64) × (Nat → Int64)) => [(h0, .inr (8, [v0, v1, .ref p0, .ref p1, v4, .int n])), (p0, .inl (T 1, 676, .inr (.inl u.1))), (p1, .inl (T 1, 676, .inr (.inl u.2)))])) (va_A [(h0, .inr (8, [v0, v1, .ref p0, .ref p1, v4, .int n])), (p0, .inl (T 1, 676, .inr (.inl f0))), (p1, .inl (T 1, 676, .inr (.inl f1)))] sz)) 0 0 (va_A [(h0, .inr (8, [v0, v1, .ref p0, .ref p1, v4, .int n])), (p0, .inl (T 1, 676, .inr (.inl f0))), (p1, .inl (T 1, 676, .inr (.inl f1)))] sz) := by
  refine Met.ofW (cc := cX11_multiply) (maxL := 11) (ret := none) (by decide +kernel) rfl ?_
  intro p e s m args below meth c s₁ B hml hv
  obtain ⟨rfl, hsz, hP, hE, hD0⟩ := hv
  have hx := B.exec
  have hb := B.bytes
  have hr := B.returns
  have hts := atoms_spec (ws := wsX11_multiply) B.pre
  have hown : s.vm.findClass RX11 = some m.cls := findClass_of_methodNamed B.named
  have hlocks := B.notSynchronized
  subst hsz
  have hD := hD0.self (sz := s.heap.size)
  generalize hAe : va_A [(h0, .inr (8, [v0, v1, .ref p0, .ref p1, v4, .int n])), (p0, .inl (T 1, 676, .inr (.inl f0))), (p1, .inl (T 1, 676, .inr (.inl f1)))] s.heap.size = A at hD ⊢
  have hA : ∀ q : Nat, s.heap.size ≤ q → A q := fun q h => by rw [← hAe]; exact Or.inr h
  have hS : va_S A s.heap s.heap [] := va_S.rf
  have hP : va_P D vwCl [(h0, .inr (8, [v0, v1, .ref p0, .ref p1, v4, .int n])), (p0, .inl (T 1, 676, .inr (.inl f0))), (p1, .inl (T 1, 676, .inr (.inl f1)))] s.heap := hP
  have hl := lv_entry ([.ref h0, .int x1, .int x2, .long x3, .long x4]) (n := 11) (Nat.le_of_ble_eq_true rfl)
  rw [lg_entry_eq]
  generalize (lg_sl ([.ref h0, .int x1, .int x2, .long x3, .long x4]) ++ List.replicate (11 - (lg_sl ([.ref h0, .int x1, .int x2, .long x3, .long x4])).length) Slot.unset).toArray = ls at hl ⊢
  have hl : lv_has ls 11 [(0, .ref h0), (1, .int x1), (2, .int x2), (3, .long x3), (5, .long x4)] := hl
  clear hD0
  refine lv_aload_n hx hb dX11_multiply_0 rfl (lv_at hl 0 rfl) ?_
  refine va_get (D := D) (ci := 8) (v := .ref p0) (C := RX11) (T := TX11) (N := 6) hx hb hts in_X11_multiply_X11 hown hE.1 hP 0 rfl rfl 2 (by decide +kernel) (hts (.fieldLink RX11 11 "ClauseBook$Worth" "above" "[J") (List.mem_of_getElem? (i := 1) rfl)) (fun _ h9 => h9) rfl dX11_multiply_1 ?_
  refine lv_iload_n hx hb dX11_multiply_4 rfl (lv_at hl 2 rfl) ?_
  refine va_lald hx hb hE.1 hP 1 1 rfl rfl (by rw [vp_in_iff]; omega) dX11_multiply_5 ?_
  refine lv_topl (fun z_1 ez_1 => ?_)
  refine lv_lstore (lv' := [(7, .long z_1), (0, .ref h0), (1, .int x1), (2, .int x2), (3, .long x3), (5, .long x4)]) hx hb dX11_multiply_6 hl (by decide +kernel) rfl (fun ls hl => ?_)
  refine lv_aload_n hx hb dX11_multiply_8 rfl (lv_at hl 1 rfl) ?_
  refine va_get (D := D) (ci := 8) (v := .ref p1) (C := RX11) (T := TX11) (N := 6) hx hb hts in_X11_multiply_X11 hown hE.1 hP 0 rfl rfl 3 (by decide +kernel) (hts (.fieldLink RX11 15 "ClauseBook$Worth" "below" "[J") (List.mem_of_getElem? (i := 2) rfl)) (fun _ h9 => h9) rfl dX11_multiply_9 ?_
  refine lv_iload_n hx hb dX11_multiply_12 rfl (lv_at hl 3 rfl) ?_
  refine va_lald hx hb hE.1 hP 2 1 rfl rfl (by rw [vp_in_iff]; omega) dX11_multiply_13 ?_
  refine lv_topl (fun z_2 ez_2 => ?_)
  refine lv_lstore (lv' := [(9, .long z_2), (7, .long z_1), (0, .ref h0), (1, .int x1), (2, .int x2), (3, .long x3), (5, .long x4)]) hx hb dX11_multiply_14 hl (by decide +kernel) rfl (fun ls hl => ?_)
  have hzy : 0 ≤ z_2.toInt := by rw [ez_2]; exact hb2
  refine lv_lload hx hb dX11_multiply_16 (lv_at hl 0 rfl) ?_
  refine lv_lconst (v := 0) hx hb dX11_multiply_18 (by decide +kernel) ?_
  refine W.lcmp hx hb dX11_multiply_19 ?_
  refine lv_if_eq (tgt := 42) hx hb dX11_multiply_20 (by decide +kernel) (fun c_3 => ?_) (fun c_3 => ?_)
  · rw [lcmp_eq] at c_3
    try rw [tl_0] at c_3
    refine lv_aload_n hx hb dX11_multiply_42 rfl (lv_at hl 2 rfl) ?_
    refine lv_iload_n hx hb dX11_multiply_43 rfl (lv_at hl 3 rfl) ?_
    refine lv_lconst (v := 0) hx hb dX11_multiply_44 (by decide +kernel) ?_
    refine lv_lconst (v := 0) hx hb dX11_multiply_45 (by decide +kernel) ?_
    have hFc := va_free (wc := [(h0, .inr (8, [v0, v1, .ref p0, .ref p1, v4, .int n])), (p0, .inl (T 1, 676, .inr (.inl f0))), (p1, .inl (T 1, 676, .inr (.inl f1)))]) hD hS hA [0, 1, 2] rfl
    refine va_callv (va_runV (As := [.int x1, .long 0, .long 0]) (rest := []) ⟨hx, hb, hml, hown, hts⟩ (c_X11_assign l D T _ h0 p0 p1 (v0) (v1) (v4) n f0 f1 x1 0 0 (by first | decide | omega)) (cwV 3 hts gX11_multiply_X11_assign rfl rfl rfl hv_X11_assign ⟨Nat.le_of_ble_eq_true rfl, Nat.le_of_ble_eq_true rfl⟩) (pW_V (q := (RX11, TX11, 6)) (ci := 8) (q0 := 0) hP hE hD rfl rfl [0, 1, 2] (by decide +kernel) rfl rfl) rfl rfl hl.1 rfl (lv_room (Nat.le_of_ble_eq_true rfl)) dX11_multiply_46 ⟨Nat.le_of_ble_eq_true rfl, Nat.le_of_ble_eq_true rfl⟩) hS (fun q _ h => hFc q h) hFc (fun u_5 t H1 locs ht hvm hr_4 hB hz1 hk1 hS => ?_)
    obtain ⟨f_6, f_7⟩ := u_5
    have hrd1 : f_6 = vp_updL f0 (x1.toNatClampNeg) (((0 : Int64), (0 : Int64))).1 := hr_4.1
    have hrd2 : f_7 = vp_updL f1 (x1.toNatClampNeg) (((0 : Int64), (0 : Int64))).2 := hr_4.2
    obtain ⟨hP1, hD1⟩ := hB
    rw [ht] at hP1
    obtain ⟨hP, hD⟩ := va_repl [(h0, .inr (8, [v0, v1, .ref p0, .ref p1, v4, .int n])), (p0, .inl (T 1, 676, .inr (.inl f_6))), (p1, .inl (T 1, 676, .inr (.inl f_7)))] hP hD [0, 1, 2] [0, 1, 2] rfl (by decide +kernel) rfl rfl rfl hk1 hP1
    clear hP1 hD1 hFc
    generalize H1 = H at hP hS ⊢
    refine lv_goto (tgt := 66) hx hb dX11_multiply_49 (by decide +kernel) ?_
    exact W.vret hx hb hr (fun t ht hW => ⟨⟨(f_6, f_7), rfl, ⟨hrd1.trans (congrArg (fun q9 : Int64 × Int64 => vp_updL f0 (x1.toNatClampNeg) q9.1) (show ((0 : Int64), (0 : Int64)) = mulW ((f0 (x2.toNatClampNeg)), (f1 (x2.toNatClampNeg))) x3 x4 from (by rw [← (show ((z_1, z_2) : Int64 × Int64) = ((f0 (x2.toNatClampNeg)), (f1 (x2.toNatClampNeg))) from by rw [ez_1, ez_2])]; exact (mulW_no (p := (z_1, z_2)) (by first | exact Or.inl (show z_2.toInt = 0 from by omega) | exact Or.inr (Or.inl (by assumption)) | exact Or.inr (Or.inr (by assumption)))).symm))), hrd2.trans (congrArg (fun q9 : Int64 × Int64 => vp_updL f1 (x1.toNatClampNeg) q9.2) (show ((0 : Int64), (0 : Int64)) = mulW ((f0 (x2.toNatClampNeg)), (f1 (x2.toNatClampNeg))) x3 x4 from (by rw [← (show ((z_1, z_2) : Int64 × Int64) = ((f0 (x2.toNatClampNeg)), (f1 (x2.toNatClampNeg))) from by rw [ez_1, ez_2])]; exact (mulW_no (p := (z_1, z_2)) (by first | exact Or.inl (show z_2.toInt = 0 from by omega) | exact Or.inr (Or.inl (by assumption)) | exact Or.inr (Or.inr (by assumption)))).symm)))⟩, by rw [ht]; exact hP.sub [0, 1, 2] rfl, hD.sub [0, 1, 2] (by decide +kernel) rfl⟩, hS.F ht⟩) hS.2.2 dX11_multiply_66
  · rw [lcmp_eq] at c_3
    try rw [tl_0] at c_3
    refine lv_lload hx hb dX11_multiply_23 (lv_at hl 1 rfl) ?_
    refine lv_lload_n hx hb dX11_multiply_25 rfl (lv_at hl 5 rfl) ?_
    refine vp_callSi (W.runS (As := [.long z_1, .long x3]) (rest := []) ⟨hx, hb, hml, hown, hts⟩ (c_X11_productFits l D T z_1 x3) (va_cwS 2 hts gX11_multiply_X11_productFits rfl rfl rfl hs_X11_productFits ⟨Nat.le_of_ble_eq_true rfl, Nat.le_of_ble_eq_true rfl⟩) (pR_S hP hE [] rfl) rfl rfl hl.1 rfl (lv_room (Nat.le_of_ble_eq_true rfl)) dX11_multiply_26 ⟨Nat.le_of_ble_eq_true rfl, Nat.le_of_ble_eq_true rfl⟩) (fun r_8 hr_8 => ?_)
    rcases bool_post hr_8 with ⟨c_9, rfl⟩ | ⟨c_9, rfl⟩
    · refine lv_if_eq (tgt := 42) hx hb dX11_multiply_29 (by decide +kernel) (fun c9 => absurd c9 (by decide +kernel)) (fun _ => ?_)
      refine lv_lload hx hb dX11_multiply_32 (lv_at hl 0 rfl) ?_
      refine lv_lload hx hb dX11_multiply_34 (lv_at hl 6 rfl) ?_
      refine vp_callSi (W.runS (As := [.long z_2, .long x4]) (rest := []) ⟨hx, hb, hml, hown, hts⟩ (c_X11_productFits l D T z_2 x4) (va_cwS 2 hts gX11_multiply_X11_productFits rfl rfl rfl hs_X11_productFits ⟨Nat.le_of_ble_eq_true rfl, Nat.le_of_ble_eq_true rfl⟩) (pR_S hP hE [] rfl) rfl rfl hl.1 rfl (lv_room (Nat.le_of_ble_eq_true rfl)) dX11_multiply_36 ⟨Nat.le_of_ble_eq_true rfl, Nat.le_of_ble_eq_true rfl⟩) (fun r_10 hr_10 => ?_)
      rcases bool_post hr_10 with ⟨c_11, rfl⟩ | ⟨c_11, rfl⟩
      · refine lv_if_ne (tgt := 52) hx hb dX11_multiply_39 (by decide +kernel) (fun _ => ?_) (fun c9 => absurd c9 (by decide +kernel))
        refine lv_aload_n hx hb dX11_multiply_52 rfl (lv_at hl 2 rfl) ?_
        refine lv_iload_n hx hb dX11_multiply_53 rfl (lv_at hl 3 rfl) ?_
        refine lv_lload hx hb dX11_multiply_54 (lv_at hl 1 rfl) ?_
        refine lv_lload_n hx hb dX11_multiply_56 rfl (lv_at hl 5 rfl) ?_
        refine lv_lmul hx hb dX11_multiply_57 ?_
        refine lv_lload hx hb dX11_multiply_58 (lv_at hl 0 rfl) ?_
        refine lv_lload hx hb dX11_multiply_60 (lv_at hl 6 rfl) ?_
        refine lv_lmul hx hb dX11_multiply_62 ?_
        have hFc := va_free (wc := [(h0, .inr (8, [v0, v1, .ref p0, .ref p1, v4, .int n])), (p0, .inl (T 1, 676, .inr (.inl f0))), (p1, .inl (T 1, 676, .inr (.inl f1)))]) hD hS hA [0, 1, 2] rfl
        refine va_callv (va_runV (As := [.int x1, .long (z_1 * x3), .long (z_2 * x4)]) (rest := []) ⟨hx, hb, hml, hown, hts⟩ (c_X11_reduce l D T _ h0 p0 p1 (v0) (v1) (v4) n f0 f1 x1 (z_1 * x3) (z_2 * x4) (by first | decide | omega) (fitM_pos (by omega) (by omega) (by assumption))) (cwV 3 hts gX11_multiply_X11_reduce rfl rfl rfl hv_X11_reduce ⟨Nat.le_of_ble_eq_true rfl, Nat.le_of_ble_eq_true rfl⟩) (pW_V (q := (RX11, TX11, 6)) (ci := 8) (q0 := 0) hP hE hD rfl rfl [0, 1, 2] (by decide +kernel) rfl rfl) rfl rfl hl.1 rfl (lv_room (Nat.le_of_ble_eq_true rfl)) dX11_multiply_63 ⟨Nat.le_of_ble_eq_true rfl, Nat.le_of_ble_eq_true rfl⟩) hS (fun q _ h => hFc q h) hFc (fun u_13 t H1 locs ht hvm hr_12 hB hz1 hk1 hS => ?_)
        obtain ⟨f_14, f_15⟩ := u_13
        have hrd1 : f_14 = vp_updL f0 (x1.toNatClampNeg) (redW (z_1 * x3) (z_2 * x4)).1 := hr_12.1
        have hrd2 : f_15 = vp_updL f1 (x1.toNatClampNeg) (redW (z_1 * x3) (z_2 * x4)).2 := hr_12.2
        obtain ⟨hP1, hD1⟩ := hB
        rw [ht] at hP1
        obtain ⟨hP, hD⟩ := va_repl [(h0, .inr (8, [v0, v1, .ref p0, .ref p1, v4, .int n])), (p0, .inl (T 1, 676, .inr (.inl f_14))), (p1, .inl (T 1, 676, .inr (.inl f_15)))] hP hD [0, 1, 2] [0, 1, 2] rfl (by decide +kernel) rfl rfl rfl hk1 hP1
        clear hP1 hD1 hFc
        generalize H1 = H at hP hS ⊢
        exact W.vret hx hb hr (fun t ht hW => ⟨⟨(f_14, f_15), rfl, ⟨hrd1.trans (congrArg (fun q9 : Int64 × Int64 => vp_updL f0 (x1.toNatClampNeg) q9.1) (show redW (z_1 * x3) (z_2 * x4) = mulW ((f0 (x2.toNatClampNeg)), (f1 (x2.toNatClampNeg))) x3 x4 from (by rw [← (show ((z_1, z_2) : Int64 × Int64) = ((f0 (x2.toNatClampNeg)), (f1 (x2.toNatClampNeg))) from by rw [ez_1, ez_2])]; exact (mulW_yes (p := (z_1, z_2)) (show ¬ z_2.toInt = 0 from by omega) (by assumption) (by assumption)).symm))), hrd2.trans (congrArg (fun q9 : Int64 × Int64 => vp_updL f1 (x1.toNatClampNeg) q9.2) (show redW (z_1 * x3) (z_2 * x4) = mulW ((f0 (x2.toNatClampNeg)), (f1 (x2.toNatClampNeg))) x3 x4 from (by rw [← (show ((z_1, z_2) : Int64 × Int64) = ((f0 (x2.toNatClampNeg)), (f1 (x2.toNatClampNeg))) from by rw [ez_1, ez_2])]; exact (mulW_yes (p := (z_1, z_2)) (show ¬ z_2.toInt = 0 from by omega) (by assumption) (by assumption)).symm)))⟩, by rw [ht]; exact hP.sub [0, 1, 2] rfl, hD.sub [0, 1, 2] (by decide +kernel) rfl⟩, hS.F ht⟩) hS.2.2 dX11_multiply_66
      · refine lv_if_ne (tgt := 52) hx hb dX11_multiply_39 (by decide +kernel) (fun c9 => absurd c9 (by decide +kernel)) (fun _ => ?_)
        refine lv_aload_n hx hb dX11_multiply_42 rfl (lv_at hl 2 rfl) ?_
        refine lv_iload_n hx hb dX11_multiply_43 rfl (lv_at hl 3 rfl) ?_
        refine lv_lconst (v := 0) hx hb dX11_multiply_44 (by decide +kernel) ?_
        refine lv_lconst (v := 0) hx hb dX11_multiply_45 (by decide +kernel) ?_
        have hFc := va_free (wc := [(h0, .inr (8, [v0, v1, .ref p0, .ref p1, v4, .int n])), (p0, .inl (T 1, 676, .inr (.inl f0))), (p1, .inl (T 1, 676, .inr (.inl f1)))]) hD hS hA [0, 1, 2] rfl
        refine va_callv (va_runV (As := [.int x1, .long 0, .long 0]) (rest := []) ⟨hx, hb, hml, hown, hts⟩ (c_X11_assign l D T _ h0 p0 p1 (v0) (v1) (v4) n f0 f1 x1 0 0 (by first | decide | omega)) (cwV 3 hts gX11_multiply_X11_assign rfl rfl rfl hv_X11_assign ⟨Nat.le_of_ble_eq_true rfl, Nat.le_of_ble_eq_true rfl⟩) (pW_V (q := (RX11, TX11, 6)) (ci := 8) (q0 := 0) hP hE hD rfl rfl [0, 1, 2] (by decide +kernel) rfl rfl) rfl rfl hl.1 rfl (lv_room (Nat.le_of_ble_eq_true rfl)) dX11_multiply_46 ⟨Nat.le_of_ble_eq_true rfl, Nat.le_of_ble_eq_true rfl⟩) hS (fun q _ h => hFc q h) hFc (fun u_17 t H1 locs ht hvm hr_16 hB hz1 hk1 hS => ?_)
        obtain ⟨f_18, f_19⟩ := u_17
        have hrd1 : f_18 = vp_updL f0 (x1.toNatClampNeg) (((0 : Int64), (0 : Int64))).1 := hr_16.1
        have hrd2 : f_19 = vp_updL f1 (x1.toNatClampNeg) (((0 : Int64), (0 : Int64))).2 := hr_16.2
        obtain ⟨hP1, hD1⟩ := hB
        rw [ht] at hP1
        obtain ⟨hP, hD⟩ := va_repl [(h0, .inr (8, [v0, v1, .ref p0, .ref p1, v4, .int n])), (p0, .inl (T 1, 676, .inr (.inl f_18))), (p1, .inl (T 1, 676, .inr (.inl f_19)))] hP hD [0, 1, 2] [0, 1, 2] rfl (by decide +kernel) rfl rfl rfl hk1 hP1
        clear hP1 hD1 hFc
        generalize H1 = H at hP hS ⊢
        refine lv_goto (tgt := 66) hx hb dX11_multiply_49 (by decide +kernel) ?_
        exact W.vret hx hb hr (fun t ht hW => ⟨⟨(f_18, f_19), rfl, ⟨hrd1.trans (congrArg (fun q9 : Int64 × Int64 => vp_updL f0 (x1.toNatClampNeg) q9.1) (show ((0 : Int64), (0 : Int64)) = mulW ((f0 (x2.toNatClampNeg)), (f1 (x2.toNatClampNeg))) x3 x4 from (by rw [← (show ((z_1, z_2) : Int64 × Int64) = ((f0 (x2.toNatClampNeg)), (f1 (x2.toNatClampNeg))) from by rw [ez_1, ez_2])]; exact (mulW_no (p := (z_1, z_2)) (by first | exact Or.inl (show z_2.toInt = 0 from by omega) | exact Or.inr (Or.inl (by assumption)) | exact Or.inr (Or.inr (by assumption)))).symm))), hrd2.trans (congrArg (fun q9 : Int64 × Int64 => vp_updL f1 (x1.toNatClampNeg) q9.2) (show ((0 : Int64), (0 : Int64)) = mulW ((f0 (x2.toNatClampNeg)), (f1 (x2.toNatClampNeg))) x3 x4 from (by rw [← (show ((z_1, z_2) : Int64 × Int64) = ((f0 (x2.toNatClampNeg)), (f1 (x2.toNatClampNeg))) from by rw [ez_1, ez_2])]; exact (mulW_no (p := (z_1, z_2)) (by first | exact Or.inl (show z_2.toInt = 0 from by omega) | exact Or.inr (Or.inl (by assumption)) | exact Or.inr (Or.inr (by assumption)))).symm)))⟩, by rw [ht]; exact hP.sub [0, 1, 2] rfl, hD.sub [0, 1, 2] (by decide +kernel) rfl⟩, hS.F ht⟩) hS.2.2 dX11_multiply_66
    · refine lv_if_eq (tgt := 42) hx hb dX11_multiply_29 (by decide +kernel) (fun _ => ?_) (fun c9 => absurd c9 (by decide +kernel))
      refine lv_aload_n hx hb dX11_multiply_42 rfl (lv_at hl 2 rfl) ?_
      refine lv_iload_n hx hb dX11_multiply_43 rfl (lv_at hl 3 rfl) ?_
      refine lv_lconst (v := 0) hx hb dX11_multiply_44 (by decide +kernel) ?_
      refine lv_lconst (v := 0) hx hb dX11_multiply_45 (by decide +kernel) ?_
      have hFc := va_free (wc := [(h0, .inr (8, [v0, v1, .ref p0, .ref p1, v4, .int n])), (p0, .inl (T 1, 676, .inr (.inl f0))), (p1, .inl (T 1, 676, .inr (.inl f1)))]) hD hS hA [0, 1, 2] rfl
      refine va_callv (va_runV (As := [.int x1, .long 0, .long 0]) (rest := []) ⟨hx, hb, hml, hown, hts⟩ (c_X11_assign l D T _ h0 p0 p1 (v0) (v1) (v4) n f0 f1 x1 0 0 (by first | decide | omega)) (cwV 3 hts gX11_multiply_X11_assign rfl rfl rfl hv_X11_assign ⟨Nat.le_of_ble_eq_true rfl, Nat.le_of_ble_eq_true rfl⟩) (pW_V (q := (RX11, TX11, 6)) (ci := 8) (q0 := 0) hP hE hD rfl rfl [0, 1, 2] (by decide +kernel) rfl rfl) rfl rfl hl.1 rfl (lv_room (Nat.le_of_ble_eq_true rfl)) dX11_multiply_46 ⟨Nat.le_of_ble_eq_true rfl, Nat.le_of_ble_eq_true rfl⟩) hS (fun q _ h => hFc q h) hFc (fun u_21 t H1 locs ht hvm hr_20 hB hz1 hk1 hS => ?_)
      obtain ⟨f_22, f_23⟩ := u_21
      have hrd1 : f_22 = vp_updL f0 (x1.toNatClampNeg) (((0 : Int64), (0 : Int64))).1 := hr_20.1
      have hrd2 : f_23 = vp_updL f1 (x1.toNatClampNeg) (((0 : Int64), (0 : Int64))).2 := hr_20.2
      obtain ⟨hP1, hD1⟩ := hB
      rw [ht] at hP1
      obtain ⟨hP, hD⟩ := va_repl [(h0, .inr (8, [v0, v1, .ref p0, .ref p1, v4, .int n])), (p0, .inl (T 1, 676, .inr (.inl f_22))), (p1, .inl (T 1, 676, .inr (.inl f_23)))] hP hD [0, 1, 2] [0, 1, 2] rfl (by decide +kernel) rfl rfl rfl hk1 hP1
      clear hP1 hD1 hFc
      generalize H1 = H at hP hS ⊢
      refine lv_goto (tgt := 66) hx hb dX11_multiply_49 (by decide +kernel) ?_
      exact W.vret hx hb hr (fun t ht hW => ⟨⟨(f_22, f_23), rfl, ⟨hrd1.trans (congrArg (fun q9 : Int64 × Int64 => vp_updL f0 (x1.toNatClampNeg) q9.1) (show ((0 : Int64), (0 : Int64)) = mulW ((f0 (x2.toNatClampNeg)), (f1 (x2.toNatClampNeg))) x3 x4 from (by rw [← (show ((z_1, z_2) : Int64 × Int64) = ((f0 (x2.toNatClampNeg)), (f1 (x2.toNatClampNeg))) from by rw [ez_1, ez_2])]; exact (mulW_no (p := (z_1, z_2)) (by first | exact Or.inl (show z_2.toInt = 0 from by omega) | exact Or.inr (Or.inl (by assumption)) | exact Or.inr (Or.inr (by assumption)))).symm))), hrd2.trans (congrArg (fun q9 : Int64 × Int64 => vp_updL f1 (x1.toNatClampNeg) q9.2) (show ((0 : Int64), (0 : Int64)) = mulW ((f0 (x2.toNatClampNeg)), (f1 (x2.toNatClampNeg))) x3 x4 from (by rw [← (show ((z_1, z_2) : Int64 × Int64) = ((f0 (x2.toNatClampNeg)), (f1 (x2.toNatClampNeg))) from by rw [ez_1, ez_2])]; exact (mulW_no (p := (z_1, z_2)) (by first | exact Or.inl (show z_2.toInt = 0 from by omega) | exact Or.inr (Or.inl (by assumption)) | exact Or.inr (Or.inr (by assumption)))).symm)))⟩, by rw [ht]; exact hP.sub [0, 1, 2] rfl, hD.sub [0, 1, 2] (by decide +kernel) rfl⟩, hS.F ht⟩) hS.2.2 dX11_multiply_66
theorem dX11_plus_0 : decode cX11_plus 0 = .ok (.aload_n 0, 1) := by decide +kernel
theorem dX11_plus_1 : decode cX11_plus 1 = .ok (.getfield 11, 3) := by decide +kernel
theorem dX11_plus_101 : decode cX11_plus 101 = .ok (.ifCond .eq 27, 3) := by decide +kernel
theorem dX11_plus_104 : decode cX11_plus 104 = .ok (.aload_n 0, 1) := by decide +kernel
theorem dX11_plus_105 : decode cX11_plus 105 = .ok (.iload_n 1, 1) := by decide +kernel
theorem dX11_plus_106 : decode cX11_plus 106 = .ok (.lload 4, 2) := by decide +kernel
theorem dX11_plus_108 : decode cX11_plus 108 = .ok (.lload 10, 2) := by decide +kernel
theorem dX11_plus_110 : decode cX11_plus 110 = .ok (.lmul, 1) := by decide +kernel
theorem dX11_plus_111 : decode cX11_plus 111 = .ok (.lload 8, 2) := by decide +kernel
theorem dX11_plus_113 : decode cX11_plus 113 = .ok (.lload 6, 2) := by decide +kernel
theorem dX11_plus_115 : decode cX11_plus 115 = .ok (.lmul, 1) := by decide +kernel
theorem dX11_plus_116 : decode cX11_plus 116 = .ok (.ladd, 1) := by decide +kernel
theorem dX11_plus_117 : decode cX11_plus 117 = .ok (.lload 6, 2) := by decide +kernel
theorem dX11_plus_119 : decode cX11_plus 119 = .ok (.lload 10, 2) := by decide +kernel
theorem dX11_plus_12 : decode cX11_plus 12 = .ok (.iload_n 2, 1) := by decide +kernel
theorem dX11_plus_121 : decode cX11_plus 121 = .ok (.lmul, 1) := by decide +kernel
theorem dX11_plus_122 : decode cX11_plus 122 = .ok (.invokevirtual 141, 3) := by decide +kernel
theorem dX11_plus_125 : decode cX11_plus 125 = .ok (.goto 10, 3) := by decide +kernel
theorem dX11_plus_128 : decode cX11_plus 128 = .ok (.aload_n 0, 1) := by decide +kernel
theorem dX11_plus_129 : decode cX11_plus 129 = .ok (.iload_n 1, 1) := by decide +kernel
theorem dX11_plus_13 : decode cX11_plus 13 = .ok (.laload, 1) := by decide +kernel
theorem dX11_plus_130 : decode cX11_plus 130 = .ok (.lconst 0, 1) := by decide +kernel
theorem dX11_plus_131 : decode cX11_plus 131 = .ok (.lconst 0, 1) := by decide +kernel
theorem dX11_plus_132 : decode cX11_plus 132 = .ok (.invokevirtual 67, 3) := by decide +kernel
theorem dX11_plus_135 : decode cX11_plus 135 = .ok (.return_, 1) := by decide +kernel
theorem dX11_plus_14 : decode cX11_plus 14 = .ok (.lstore 6, 2) := by decide +kernel
theorem dX11_plus_16 : decode cX11_plus 16 = .ok (.aload_n 0, 1) := by decide +kernel
theorem dX11_plus_17 : decode cX11_plus 17 = .ok (.getfield 11, 3) := by decide +kernel
theorem dX11_plus_20 : decode cX11_plus 20 = .ok (.iload_n 3, 1) := by decide +kernel
theorem dX11_plus_21 : decode cX11_plus 21 = .ok (.laload, 1) := by decide +kernel
theorem dX11_plus_22 : decode cX11_plus 22 = .ok (.lstore 8, 2) := by decide +kernel
theorem dX11_plus_24 : decode cX11_plus 24 = .ok (.aload_n 0, 1) := by decide +kernel
theorem dX11_plus_25 : decode cX11_plus 25 = .ok (.getfield 15, 3) := by decide +kernel
theorem dX11_plus_28 : decode cX11_plus 28 = .ok (.iload_n 3, 1) := by decide +kernel
theorem dX11_plus_29 : decode cX11_plus 29 = .ok (.laload, 1) := by decide +kernel
theorem dX11_plus_30 : decode cX11_plus 30 = .ok (.lstore 10, 2) := by decide +kernel
theorem dX11_plus_32 : decode cX11_plus 32 = .ok (.lload 6, 2) := by decide +kernel
theorem dX11_plus_34 : decode cX11_plus 34 = .ok (.lconst 0, 1) := by decide +kernel
theorem dX11_plus_35 : decode cX11_plus 35 = .ok (.lcmp, 1) := by decide +kernel
theorem dX11_plus_36 : decode cX11_plus 36 = .ok (.ifCond .eq 60, 3) := by decide +kernel
theorem dX11_plus_39 : decode cX11_plus 39 = .ok (.lload 10, 2) := by decide +kernel
theorem dX11_plus_4 : decode cX11_plus 4 = .ok (.iload_n 2, 1) := by decide +kernel
theorem dX11_plus_41 : decode cX11_plus 41 = .ok (.lconst 0, 1) := by decide +kernel
theorem dX11_plus_42 : decode cX11_plus 42 = .ok (.lcmp, 1) := by decide +kernel
theorem dX11_plus_43 : decode cX11_plus 43 = .ok (.ifCond .eq 53, 3) := by decide +kernel
theorem dX11_plus_46 : decode cX11_plus 46 = .ok (.lload 4, 2) := by decide +kernel
theorem dX11_plus_48 : decode cX11_plus 48 = .ok (.lload 10, 2) := by decide +kernel
theorem dX11_plus_5 : decode cX11_plus 5 = .ok (.laload, 1) := by decide +kernel
theorem dX11_plus_50 : decode cX11_plus 50 = .ok (.invokestatic 147, 3) := by decide +kernel
theorem dX11_plus_53 : decode cX11_plus 53 = .ok (.ifCond .eq 43, 3) := by decide +kernel
theorem dX11_plus_56 : decode cX11_plus 56 = .ok (.lload 8, 2) := by decide +kernel
theorem dX11_plus_58 : decode cX11_plus 58 = .ok (.lload 6, 2) := by decide +kernel
theorem dX11_plus_6 : decode cX11_plus 6 = .ok (.lstore 4, 2) := by decide +kernel
theorem dX11_plus_60 : decode cX11_plus 60 = .ok (.invokestatic 147, 3) := by decide +kernel
theorem dX11_plus_63 : decode cX11_plus 63 = .ok (.ifCond .eq 33, 3) := by decide +kernel
theorem dX11_plus_66 : decode cX11_plus 66 = .ok (.lload 6, 2) := by decide +kernel
theorem dX11_plus_68 : decode cX11_plus 68 = .ok (.lload 10, 2) := by decide +kernel
theorem dX11_plus_70 : decode cX11_plus 70 = .ok (.invokestatic 147, 3) := by decide +kernel
theorem dX11_plus_73 : decode cX11_plus 73 = .ok (.ifCond .eq 23, 3) := by decide +kernel
theorem dX11_plus_76 : decode cX11_plus 76 = .ok (.lload 4, 2) := by decide +kernel
theorem dX11_plus_78 : decode cX11_plus 78 = .ok (.lload 10, 2) := by decide +kernel
theorem dX11_plus_8 : decode cX11_plus 8 = .ok (.aload_n 0, 1) := by decide +kernel
theorem dX11_plus_80 : decode cX11_plus 80 = .ok (.lmul, 1) := by decide +kernel
theorem dX11_plus_81 : decode cX11_plus 81 = .ok (.lload 8, 2) := by decide +kernel
theorem dX11_plus_83 : decode cX11_plus 83 = .ok (.lload 6, 2) := by decide +kernel
theorem dX11_plus_85 : decode cX11_plus 85 = .ok (.lmul, 1) := by decide +kernel
theorem dX11_plus_86 : decode cX11_plus 86 = .ok (.invokestatic 151, 3) := by decide +kernel
theorem dX11_plus_89 : decode cX11_plus 89 = .ok (.ifCond .eq 7, 3) := by decide +kernel
theorem dX11_plus_9 : decode cX11_plus 9 = .ok (.getfield 15, 3) := by decide +kernel
theorem dX11_plus_92 : decode cX11_plus 92 = .ok (.iconst 1, 1) := by decide +kernel
theorem dX11_plus_93 : decode cX11_plus 93 = .ok (.goto 4, 3) := by decide +kernel
theorem dX11_plus_96 : decode cX11_plus 96 = .ok (.iconst 0, 1) := by decide +kernel
theorem dX11_plus_97 : decode cX11_plus 97 = .ok (.istore 12, 2) := by decide +kernel
theorem dX11_plus_99 : decode cX11_plus 99 = .ok (.iload 12, 2) := by decide +kernel
set_option maxRecDepth 20000 in
theorem ggX11_plus_X11_assign : GoodIn wsX11_plus wsX11_assign := goodIn_r _ [23, 1, 2, 24, 25, 26, 27, 28, 29] rfl (by decide +kernel)
set_option maxRecDepth 20000 in
theorem ggX11_plus_X11_productFits : GoodIn wsX11_plus wsX11_productFits := goodIn_r _ [6, 7, 8] rfl (by decide +kernel)
set_option maxRecDepth 20000 in
theorem ggX11_plus_X11_reduce : GoodIn wsX11_plus wsX11_reduce := goodIn_r _ [15, 1, 2, 16, 17, 18, 19, 24, 25, 26, 27, 28, 29] rfl (by decide +kernel)
set_option maxRecDepth 20000 in
theorem ggX11_plus_X11_sumFits : GoodIn wsX11_plus wsX11_sumFits := goodIn_r _ [11] rfl (by decide +kernel)
set_option maxRecDepth 20000 in
theorem gX11_plus_X11_assign : GoodIn wsX11_plus (wsV RX11 67 RX11 yX11_assign wsX11_assign) := goodIn_app (goodIn_r _ [20, 21, 22, 5] rfl (by decide +kernel)) ggX11_plus_X11_assign
set_option maxRecDepth 20000 in
theorem gX11_plus_X11_productFits : GoodIn wsX11_plus (va_wsS RX11 147 yX11_productFits wsX11_productFits) := goodIn_app (goodIn_of _ (by decide +kernel)) ggX11_plus_X11_productFits
set_option maxRecDepth 20000 in
theorem gX11_plus_X11_reduce : GoodIn wsX11_plus (wsV RX11 141 RX11 yX11_reduce wsX11_reduce) := goodIn_app (goodIn_r _ [12, 13, 14, 5] rfl (by decide +kernel)) ggX11_plus_X11_reduce
set_option maxRecDepth 20000 in
theorem gX11_plus_X11_sumFits : GoodIn wsX11_plus (va_wsS RX11 151 yX11_sumFits wsX11_sumFits) := goodIn_app (goodIn_of _ (by decide +kernel)) ggX11_plus_X11_sumFits
theorem hs_X11_sumFits : yX11_sumFits.cls ≠ "java/lang/invoke/MethodHandle" ∧ yX11_sumFits.cls ≠ "java/lang/invoke/VarHandle" ∧ (parseMethodDescriptor yX11_sumFits.desc).map (fun d => d.parameters.length) = some 2 := by decide +kernel
set_option maxRecDepth 20000 in
theorem in_X11_plus_X11 : ∀ w ∈ wsX110, w ∈ wsX11_plus := sub_r [24, 25, 26, 27, 28, 29] rfl
set_option maxHeartbeats 4000000 in
set_option maxRecDepth 100000 in
theorem c_X11_plus (l : Launch) (D : va_G) (T : Nat → ClassId) (sz : Nat) (h0 : Nat) (p0 : Nat) (p1 : Nat) (v0 : Value) (v1 : Value) (v4 : Value) (n : Int32) (f0 : Nat → Int64) (f1 : Nat → Int64) (x1 : Int32) (x2 : Int32) (x3 : Int32) (hx1 : 0 ≤ x1.toInt ∧ x1.toInt < 676) (hx2 : 0 ≤ x2.toInt ∧ x2.toInt < 676) (hx3 : 0 ≤ x3.toInt ∧ x3.toInt < 676) (hb2 : 0 ≤ (f1 (x2.toNatClampNeg)).toInt) (hb3 : 0 ≤ (f1 (x3.toNatClampNeg)).toInt) : Met l yX11_plus wsX11_plus ({ frames := 2, cells := 0, slots := 0, locals := 72 }) (pW [.ref h0, .int x1, .int x2, .int x3] D T [(h0, .inr (8, [v0, v1, .ref p0, .ref p1, v4, .int n])), (p0, .inl (T 1, 676, .inr (.inl f0))), (p1, .inl (T 1, 676, .inr (.inl f1)))] sz) (va_Qv (fun (u : (Nat → Int64) × (Nat → Int64)) => u.1 = vp_updL f0 (x1.toNatClampNeg) (addW ((f0 (x2.toNatClampNeg)), (f1 (x2.toNatClampNeg))) ((f0 (x3.toNatClampNeg)), (f1 (x3.toNatClampNeg)))).1 ∧ u.2 = vp_updL f1 (x1.toNatClampNeg) (addW ((f0 (x2.toNatClampNeg)), (f1 (x2.toNatClampNeg))) ((f0 (x3.toNatClampNeg)), (f1 (x3.toNatClampNeg)))).2) (bW D (va_A [(h0, .inr (8, [v0, v1, .ref p0, .ref p1, v4, .int n])), (p0, .inl (T 1, 676, .inr (.inl f0))), (p1, .inl (T 1, 676, .inr (.inl f1)))] sz) (fun (u : (Nat → Int64) × (Nat → Int64)) => [(h0, .inr (8, [v0, v1, .ref p0, .ref p1, v4, .int n])), (p0, .inl (T 1, 676, .inr (.inl u.1))), (p1, .inl (T 1, 676, .inr (.inl u.2)))])) (va_A [(h0, .inr (8, [v0, v1, .ref p0, .ref p1, v4, .int n])), (p0, .inl (T 1, 676, .inr (.inl f0))), (p1, .inl (T 1, 676, .inr (.inl f1)))] sz)) 0 0 (va_A [(h0, .inr (8, [v0, v1, .ref p0, .ref p1, v4, .int n])), (p0, .inl (T 1, 676, .inr (.inl f0))), (p1, .inl (T 1, 676, .inr (.inl f1)))] sz) := by
  refine Met.ofW (cc := cX11_plus) (maxL := 13) (ret := none) (by decide +kernel) rfl ?_
  intro p e s m args below meth c s₁ B hml hv
  obtain ⟨rfl, hsz, hP, hE, hD0⟩ := hv
  have hx := B.exec
  have hb := B.bytes
  have hr := B.returns
  have hts := atoms_spec (ws := wsX11_plus) B.pre
  have hown : s.vm.findClass RX11 = some m.cls := findClass_of_methodNamed B.named
  have hlocks := B.notSynchronized
  subst hsz
  have hD := hD0.self (sz := s.heap.size)
  generalize hAe : va_A [(h0, .inr (8, [v0, v1, .ref p0, .ref p1, v4, .int n])), (p0, .inl (T 1, 676, .inr (.inl f0))), (p1, .inl (T 1, 676, .inr (.inl f1)))] s.heap.size = A at hD ⊢
  have hA : ∀ q : Nat, s.heap.size ≤ q → A q := fun q h => by rw [← hAe]; exact Or.inr h
  have hS : va_S A s.heap s.heap [] := va_S.rf
  have hP : va_P D vwCl [(h0, .inr (8, [v0, v1, .ref p0, .ref p1, v4, .int n])), (p0, .inl (T 1, 676, .inr (.inl f0))), (p1, .inl (T 1, 676, .inr (.inl f1)))] s.heap := hP
  have hl := lv_entry ([.ref h0, .int x1, .int x2, .int x3]) (n := 13) (Nat.le_of_ble_eq_true rfl)
  rw [lg_entry_eq]
  generalize (lg_sl ([.ref h0, .int x1, .int x2, .int x3]) ++ List.replicate (13 - (lg_sl ([.ref h0, .int x1, .int x2, .int x3])).length) Slot.unset).toArray = ls at hl ⊢
  have hl : lv_has ls 13 [(0, .ref h0), (1, .int x1), (2, .int x2), (3, .int x3)] := hl
  clear hD0
  refine lv_aload_n hx hb dX11_plus_0 rfl (lv_at hl 0 rfl) ?_
  refine va_get (D := D) (ci := 8) (v := .ref p0) (C := RX11) (T := TX11) (N := 6) hx hb hts in_X11_plus_X11 hown hE.1 hP 0 rfl rfl 2 (by decide +kernel) (hts (.fieldLink RX11 11 "ClauseBook$Worth" "above" "[J") (List.mem_of_getElem? (i := 1) rfl)) (fun _ h9 => h9) rfl dX11_plus_1 ?_
  refine lv_iload_n hx hb dX11_plus_4 rfl (lv_at hl 2 rfl) ?_
  refine va_lald hx hb hE.1 hP 1 1 rfl rfl (by rw [vp_in_iff]; omega) dX11_plus_5 ?_
  refine lv_topl (fun z_1 ez_1 => ?_)
  refine lv_lstore (lv' := [(4, .long z_1), (0, .ref h0), (1, .int x1), (2, .int x2), (3, .int x3)]) hx hb dX11_plus_6 hl (by decide +kernel) rfl (fun ls hl => ?_)
  refine lv_aload_n hx hb dX11_plus_8 rfl (lv_at hl 1 rfl) ?_
  refine va_get (D := D) (ci := 8) (v := .ref p1) (C := RX11) (T := TX11) (N := 6) hx hb hts in_X11_plus_X11 hown hE.1 hP 0 rfl rfl 3 (by decide +kernel) (hts (.fieldLink RX11 15 "ClauseBook$Worth" "below" "[J") (List.mem_of_getElem? (i := 2) rfl)) (fun _ h9 => h9) rfl dX11_plus_9 ?_
  refine lv_iload_n hx hb dX11_plus_12 rfl (lv_at hl 3 rfl) ?_
  refine va_lald hx hb hE.1 hP 2 1 rfl rfl (by rw [vp_in_iff]; omega) dX11_plus_13 ?_
  refine lv_topl (fun z_2 ez_2 => ?_)
  refine lv_lstore (lv' := [(6, .long z_2), (4, .long z_1), (0, .ref h0), (1, .int x1), (2, .int x2), (3, .int x3)]) hx hb dX11_plus_14 hl (by decide +kernel) rfl (fun ls hl => ?_)
  refine lv_aload_n hx hb dX11_plus_16 rfl (lv_at hl 2 rfl) ?_
  refine va_get (D := D) (ci := 8) (v := .ref p0) (C := RX11) (T := TX11) (N := 6) hx hb hts in_X11_plus_X11 hown hE.1 hP 0 rfl rfl 2 (by decide +kernel) (hts (.fieldLink RX11 11 "ClauseBook$Worth" "above" "[J") (List.mem_of_getElem? (i := 1) rfl)) (fun _ h9 => h9) rfl dX11_plus_17 ?_
  refine lv_iload_n hx hb dX11_plus_20 rfl (lv_at hl 5 rfl) ?_
  refine va_lald hx hb hE.1 hP 1 1 rfl rfl (by rw [vp_in_iff]; omega) dX11_plus_21 ?_
  refine lv_topl (fun z_3 ez_3 => ?_)
  refine lv_lstore (lv' := [(8, .long z_3), (6, .long z_2), (4, .long z_1), (0, .ref h0), (1, .int x1), (2, .int x2), (3, .int x3)]) hx hb dX11_plus_22 hl (by decide +kernel) rfl (fun ls hl => ?_)
  refine lv_aload_n hx hb dX11_plus_24 rfl (lv_at hl 3 rfl) ?_
  refine va_get (D := D) (ci := 8) (v := .ref p1) (C := RX11) (T := TX11) (N := 6) hx hb hts in_X11_plus_X11 hown hE.1 hP 0 rfl rfl 3 (by decide +kernel) (hts (.fieldLink RX11 15 "ClauseBook$Worth" "below" "[J") (List.mem_of_getElem? (i := 2) rfl)) (fun _ h9 => h9) rfl dX11_plus_25 ?_
  refine lv_iload_n hx hb dX11_plus_28 rfl (lv_at hl 6 rfl) ?_
  refine va_lald hx hb hE.1 hP 2 1 rfl rfl (by rw [vp_in_iff]; omega) dX11_plus_29 ?_
  refine lv_topl (fun z_4 ez_4 => ?_)
  refine lv_lstore (lv' := [(10, .long z_4), (8, .long z_3), (6, .long z_2), (4, .long z_1), (0, .ref h0), (1, .int x1), (2, .int x2), (3, .int x3)]) hx hb dX11_plus_30 hl (by decide +kernel) rfl (fun ls hl => ?_)
  have hz6 : 0 ≤ z_2.toInt := by rw [ez_2]; exact hb2
  have hz10 : 0 ≤ z_4.toInt := by rw [ez_4]; exact hb3
  refine lv_lload hx hb dX11_plus_32 (lv_at hl 2 rfl) ?_
  refine lv_lconst (v := 0) hx hb dX11_plus_34 (by decide +kernel) ?_
  refine W.lcmp hx hb dX11_plus_35 ?_
  refine lv_if_eq (tgt := 96) hx hb dX11_plus_36 (by decide +kernel) (fun c_5 => ?_) (fun c_5 => ?_)
  · rw [lcmp_eq] at c_5
    try rw [tl_0] at c_5
    refine lv_iconst (v := 0) hx hb dX11_plus_96 (by decide +kernel) ?_
    refine lv_istore (lv' := [(12, .int 0), (10, .long z_4), (8, .long z_3), (6, .long z_2), (4, .long z_1), (0, .ref h0), (1, .int x1), (2, .int x2), (3, .int x3)]) hx hb dX11_plus_97 hl (by decide +kernel) rfl (fun ls hl => ?_)
    refine lv_iload hx hb dX11_plus_99 (lv_at hl 0 rfl) ?_
    refine lv_if_eq (tgt := 128) hx hb dX11_plus_101 (by decide +kernel) (fun _ => ?_) (fun c9 => absurd c9 (by decide +kernel))
    refine lv_aload_n hx hb dX11_plus_128 rfl (lv_at hl 5 rfl) ?_
    refine lv_iload_n hx hb dX11_plus_129 rfl (lv_at hl 6 rfl) ?_
    refine lv_lconst (v := 0) hx hb dX11_plus_130 (by decide +kernel) ?_
    refine lv_lconst (v := 0) hx hb dX11_plus_131 (by decide +kernel) ?_
    have hFc := va_free (wc := [(h0, .inr (8, [v0, v1, .ref p0, .ref p1, v4, .int n])), (p0, .inl (T 1, 676, .inr (.inl f0))), (p1, .inl (T 1, 676, .inr (.inl f1)))]) hD hS hA [0, 1, 2] rfl
    refine va_callv (va_runV (As := [.int x1, .long 0, .long 0]) (rest := []) ⟨hx, hb, hml, hown, hts⟩ (c_X11_assign l D T _ h0 p0 p1 (v0) (v1) (v4) n f0 f1 x1 0 0 (by first | decide | omega)) (cwV 3 hts gX11_plus_X11_assign rfl rfl rfl hv_X11_assign ⟨Nat.le_of_ble_eq_true rfl, Nat.le_of_ble_eq_true rfl⟩) (pW_V (q := (RX11, TX11, 6)) (ci := 8) (q0 := 0) hP hE hD rfl rfl [0, 1, 2] (by decide +kernel) rfl rfl) rfl rfl hl.1 rfl (lv_room (Nat.le_of_ble_eq_true rfl)) dX11_plus_132 ⟨Nat.le_of_ble_eq_true rfl, Nat.le_of_ble_eq_true rfl⟩) hS (fun q _ h => hFc q h) hFc (fun u_7 t H1 locs ht hvm hr_6 hB hz1 hk1 hS => ?_)
    obtain ⟨f_8, f_9⟩ := u_7
    have hrd1 : f_8 = vp_updL f0 (x1.toNatClampNeg) (((0 : Int64), (0 : Int64))).1 := hr_6.1
    have hrd2 : f_9 = vp_updL f1 (x1.toNatClampNeg) (((0 : Int64), (0 : Int64))).2 := hr_6.2
    obtain ⟨hP1, hD1⟩ := hB
    rw [ht] at hP1
    obtain ⟨hP, hD⟩ := va_repl [(h0, .inr (8, [v0, v1, .ref p0, .ref p1, v4, .int n])), (p0, .inl (T 1, 676, .inr (.inl f_8))), (p1, .inl (T 1, 676, .inr (.inl f_9)))] hP hD [0, 1, 2] [0, 1, 2] rfl (by decide +kernel) rfl rfl rfl hk1 hP1
    clear hP1 hD1 hFc
    generalize H1 = H at hP hS ⊢
    exact W.vret hx hb hr (fun t ht hW => ⟨⟨(f_8, f_9), rfl, ⟨hrd1.trans (congrArg (fun q9 : Int64 × Int64 => vp_updL f0 (x1.toNatClampNeg) q9.1) (show ((0 : Int64), (0 : Int64)) = addW ((f0 (x2.toNatClampNeg)), (f1 (x2.toNatClampNeg))) ((f0 (x3.toNatClampNeg)), (f1 (x3.toNatClampNeg))) from (by rw [← (show ((z_1, z_2) : Int64 × Int64) = ((f0 (x2.toNatClampNeg)), (f1 (x2.toNatClampNeg))) from by rw [ez_1, ez_2]), ← (show ((z_3, z_4) : Int64 × Int64) = ((f0 (x3.toNatClampNeg)), (f1 (x3.toNatClampNeg))) from by rw [ez_3, ez_4])]; exact (addW_no (p := (z_1, z_2)) (q := (z_3, z_4)) (by first | exact Or.inl (show z_2.toInt = 0 from by omega) | exact Or.inr (Or.inl (show z_4.toInt = 0 from by omega)) | exact Or.inr (Or.inr (Or.inl (by assumption))) | exact Or.inr (Or.inr (Or.inr (Or.inl (by assumption)))) | exact Or.inr (Or.inr (Or.inr (Or.inr (Or.inl (by assumption))))) | exact Or.inr (Or.inr (Or.inr (Or.inr (Or.inr (by assumption))))))).symm))), hrd2.trans (congrArg (fun q9 : Int64 × Int64 => vp_updL f1 (x1.toNatClampNeg) q9.2) (show ((0 : Int64), (0 : Int64)) = addW ((f0 (x2.toNatClampNeg)), (f1 (x2.toNatClampNeg))) ((f0 (x3.toNatClampNeg)), (f1 (x3.toNatClampNeg))) from (by rw [← (show ((z_1, z_2) : Int64 × Int64) = ((f0 (x2.toNatClampNeg)), (f1 (x2.toNatClampNeg))) from by rw [ez_1, ez_2]), ← (show ((z_3, z_4) : Int64 × Int64) = ((f0 (x3.toNatClampNeg)), (f1 (x3.toNatClampNeg))) from by rw [ez_3, ez_4])]; exact (addW_no (p := (z_1, z_2)) (q := (z_3, z_4)) (by first | exact Or.inl (show z_2.toInt = 0 from by omega) | exact Or.inr (Or.inl (show z_4.toInt = 0 from by omega)) | exact Or.inr (Or.inr (Or.inl (by assumption))) | exact Or.inr (Or.inr (Or.inr (Or.inl (by assumption)))) | exact Or.inr (Or.inr (Or.inr (Or.inr (Or.inl (by assumption))))) | exact Or.inr (Or.inr (Or.inr (Or.inr (Or.inr (by assumption))))))).symm)))⟩, by rw [ht]; exact hP.sub [0, 1, 2] rfl, hD.sub [0, 1, 2] (by decide +kernel) rfl⟩, hS.F ht⟩) hS.2.2 dX11_plus_135
  · rw [lcmp_eq] at c_5
    try rw [tl_0] at c_5
    refine lv_lload hx hb dX11_plus_39 (lv_at hl 0 rfl) ?_
    refine lv_lconst (v := 0) hx hb dX11_plus_41 (by decide +kernel) ?_
    refine W.lcmp hx hb dX11_plus_42 ?_
    refine lv_if_eq (tgt := 96) hx hb dX11_plus_43 (by decide +kernel) (fun c_10 => ?_) (fun c_10 => ?_)
    · rw [lcmp_eq] at c_10
      try rw [tl_0] at c_10
      refine lv_iconst (v := 0) hx hb dX11_plus_96 (by decide +kernel) ?_
      refine lv_istore (lv' := [(12, .int 0), (10, .long z_4), (8, .long z_3), (6, .long z_2), (4, .long z_1), (0, .ref h0), (1, .int x1), (2, .int x2), (3, .int x3)]) hx hb dX11_plus_97 hl (by decide +kernel) rfl (fun ls hl => ?_)
      refine lv_iload hx hb dX11_plus_99 (lv_at hl 0 rfl) ?_
      refine lv_if_eq (tgt := 128) hx hb dX11_plus_101 (by decide +kernel) (fun _ => ?_) (fun c9 => absurd c9 (by decide +kernel))
      refine lv_aload_n hx hb dX11_plus_128 rfl (lv_at hl 5 rfl) ?_
      refine lv_iload_n hx hb dX11_plus_129 rfl (lv_at hl 6 rfl) ?_
      refine lv_lconst (v := 0) hx hb dX11_plus_130 (by decide +kernel) ?_
      refine lv_lconst (v := 0) hx hb dX11_plus_131 (by decide +kernel) ?_
      have hFc := va_free (wc := [(h0, .inr (8, [v0, v1, .ref p0, .ref p1, v4, .int n])), (p0, .inl (T 1, 676, .inr (.inl f0))), (p1, .inl (T 1, 676, .inr (.inl f1)))]) hD hS hA [0, 1, 2] rfl
      refine va_callv (va_runV (As := [.int x1, .long 0, .long 0]) (rest := []) ⟨hx, hb, hml, hown, hts⟩ (c_X11_assign l D T _ h0 p0 p1 (v0) (v1) (v4) n f0 f1 x1 0 0 (by first | decide | omega)) (cwV 3 hts gX11_plus_X11_assign rfl rfl rfl hv_X11_assign ⟨Nat.le_of_ble_eq_true rfl, Nat.le_of_ble_eq_true rfl⟩) (pW_V (q := (RX11, TX11, 6)) (ci := 8) (q0 := 0) hP hE hD rfl rfl [0, 1, 2] (by decide +kernel) rfl rfl) rfl rfl hl.1 rfl (lv_room (Nat.le_of_ble_eq_true rfl)) dX11_plus_132 ⟨Nat.le_of_ble_eq_true rfl, Nat.le_of_ble_eq_true rfl⟩) hS (fun q _ h => hFc q h) hFc (fun u_12 t H1 locs ht hvm hr_11 hB hz1 hk1 hS => ?_)
      obtain ⟨f_13, f_14⟩ := u_12
      have hrd1 : f_13 = vp_updL f0 (x1.toNatClampNeg) (((0 : Int64), (0 : Int64))).1 := hr_11.1
      have hrd2 : f_14 = vp_updL f1 (x1.toNatClampNeg) (((0 : Int64), (0 : Int64))).2 := hr_11.2
      obtain ⟨hP1, hD1⟩ := hB
      rw [ht] at hP1
      obtain ⟨hP, hD⟩ := va_repl [(h0, .inr (8, [v0, v1, .ref p0, .ref p1, v4, .int n])), (p0, .inl (T 1, 676, .inr (.inl f_13))), (p1, .inl (T 1, 676, .inr (.inl f_14)))] hP hD [0, 1, 2] [0, 1, 2] rfl (by decide +kernel) rfl rfl rfl hk1 hP1
      clear hP1 hD1 hFc
      generalize H1 = H at hP hS ⊢
      exact W.vret hx hb hr (fun t ht hW => ⟨⟨(f_13, f_14), rfl, ⟨hrd1.trans (congrArg (fun q9 : Int64 × Int64 => vp_updL f0 (x1.toNatClampNeg) q9.1) (show ((0 : Int64), (0 : Int64)) = addW ((f0 (x2.toNatClampNeg)), (f1 (x2.toNatClampNeg))) ((f0 (x3.toNatClampNeg)), (f1 (x3.toNatClampNeg))) from (by rw [← (show ((z_1, z_2) : Int64 × Int64) = ((f0 (x2.toNatClampNeg)), (f1 (x2.toNatClampNeg))) from by rw [ez_1, ez_2]), ← (show ((z_3, z_4) : Int64 × Int64) = ((f0 (x3.toNatClampNeg)), (f1 (x3.toNatClampNeg))) from by rw [ez_3, ez_4])]; exact (addW_no (p := (z_1, z_2)) (q := (z_3, z_4)) (by first | exact Or.inl (show z_2.toInt = 0 from by omega) | exact Or.inr (Or.inl (show z_4.toInt = 0 from by omega)) | exact Or.inr (Or.inr (Or.inl (by assumption))) | exact Or.inr (Or.inr (Or.inr (Or.inl (by assumption)))) | exact Or.inr (Or.inr (Or.inr (Or.inr (Or.inl (by assumption))))) | exact Or.inr (Or.inr (Or.inr (Or.inr (Or.inr (by assumption))))))).symm))), hrd2.trans (congrArg (fun q9 : Int64 × Int64 => vp_updL f1 (x1.toNatClampNeg) q9.2) (show ((0 : Int64), (0 : Int64)) = addW ((f0 (x2.toNatClampNeg)), (f1 (x2.toNatClampNeg))) ((f0 (x3.toNatClampNeg)), (f1 (x3.toNatClampNeg))) from (by rw [← (show ((z_1, z_2) : Int64 × Int64) = ((f0 (x2.toNatClampNeg)), (f1 (x2.toNatClampNeg))) from by rw [ez_1, ez_2]), ← (show ((z_3, z_4) : Int64 × Int64) = ((f0 (x3.toNatClampNeg)), (f1 (x3.toNatClampNeg))) from by rw [ez_3, ez_4])]; exact (addW_no (p := (z_1, z_2)) (q := (z_3, z_4)) (by first | exact Or.inl (show z_2.toInt = 0 from by omega) | exact Or.inr (Or.inl (show z_4.toInt = 0 from by omega)) | exact Or.inr (Or.inr (Or.inl (by assumption))) | exact Or.inr (Or.inr (Or.inr (Or.inl (by assumption)))) | exact Or.inr (Or.inr (Or.inr (Or.inr (Or.inl (by assumption))))) | exact Or.inr (Or.inr (Or.inr (Or.inr (Or.inr (by assumption))))))).symm)))⟩, by rw [ht]; exact hP.sub [0, 1, 2] rfl, hD.sub [0, 1, 2] (by decide +kernel) rfl⟩, hS.F ht⟩) hS.2.2 dX11_plus_135
    · rw [lcmp_eq] at c_10
      try rw [tl_0] at c_10
      refine lv_lload hx hb dX11_plus_46 (lv_at hl 3 rfl) ?_
      refine lv_lload hx hb dX11_plus_48 (lv_at hl 0 rfl) ?_
      refine vp_callSi (W.runS (As := [.long z_1, .long z_4]) (rest := []) ⟨hx, hb, hml, hown, hts⟩ (c_X11_productFits l D T z_1 z_4) (va_cwS 2 hts gX11_plus_X11_productFits rfl rfl rfl hs_X11_productFits ⟨Nat.le_of_ble_eq_true rfl, Nat.le_of_ble_eq_true rfl⟩) (pR_S hP hE [] rfl) rfl rfl hl.1 rfl (lv_room (Nat.le_of_ble_eq_true rfl)) dX11_plus_50 ⟨Nat.le_of_ble_eq_true rfl, Nat.le_of_ble_eq_true rfl⟩) (fun r_15 hr_15 => ?_)
      rcases bool_post hr_15 with ⟨c_16, rfl⟩ | ⟨c_16, rfl⟩
      · refine lv_if_eq (tgt := 96) hx hb dX11_plus_53 (by decide +kernel) (fun c9 => absurd c9 (by decide +kernel)) (fun _ => ?_)
        refine lv_lload hx hb dX11_plus_56 (lv_at hl 1 rfl) ?_
        refine lv_lload hx hb dX11_plus_58 (lv_at hl 2 rfl) ?_
        refine vp_callSi (W.runS (As := [.long z_3, .long z_2]) (rest := []) ⟨hx, hb, hml, hown, hts⟩ (c_X11_productFits l D T z_3 z_2) (va_cwS 2 hts gX11_plus_X11_productFits rfl rfl rfl hs_X11_productFits ⟨Nat.le_of_ble_eq_true rfl, Nat.le_of_ble_eq_true rfl⟩) (pR_S hP hE [] rfl) rfl rfl hl.1 rfl (lv_room (Nat.le_of_ble_eq_true rfl)) dX11_plus_60 ⟨Nat.le_of_ble_eq_true rfl, Nat.le_of_ble_eq_true rfl⟩) (fun r_17 hr_17 => ?_)
        rcases bool_post hr_17 with ⟨c_18, rfl⟩ | ⟨c_18, rfl⟩
        · refine lv_if_eq (tgt := 96) hx hb dX11_plus_63 (by decide +kernel) (fun c9 => absurd c9 (by decide +kernel)) (fun _ => ?_)
          refine lv_lload hx hb dX11_plus_66 (lv_at hl 2 rfl) ?_
          refine lv_lload hx hb dX11_plus_68 (lv_at hl 0 rfl) ?_
          refine vp_callSi (W.runS (As := [.long z_2, .long z_4]) (rest := []) ⟨hx, hb, hml, hown, hts⟩ (c_X11_productFits l D T z_2 z_4) (va_cwS 2 hts gX11_plus_X11_productFits rfl rfl rfl hs_X11_productFits ⟨Nat.le_of_ble_eq_true rfl, Nat.le_of_ble_eq_true rfl⟩) (pR_S hP hE [] rfl) rfl rfl hl.1 rfl (lv_room (Nat.le_of_ble_eq_true rfl)) dX11_plus_70 ⟨Nat.le_of_ble_eq_true rfl, Nat.le_of_ble_eq_true rfl⟩) (fun r_19 hr_19 => ?_)
          rcases bool_post hr_19 with ⟨c_20, rfl⟩ | ⟨c_20, rfl⟩
          · refine lv_if_eq (tgt := 96) hx hb dX11_plus_73 (by decide +kernel) (fun c9 => absurd c9 (by decide +kernel)) (fun _ => ?_)
            refine lv_lload hx hb dX11_plus_76 (lv_at hl 3 rfl) ?_
            refine lv_lload hx hb dX11_plus_78 (lv_at hl 0 rfl) ?_
            refine lv_lmul hx hb dX11_plus_80 ?_
            refine lv_lload hx hb dX11_plus_81 (lv_at hl 1 rfl) ?_
            refine lv_lload hx hb dX11_plus_83 (lv_at hl 2 rfl) ?_
            refine lv_lmul hx hb dX11_plus_85 ?_
            refine vp_callSi (W.runS (As := [.long (z_1 * z_4), .long (z_3 * z_2)]) (rest := []) ⟨hx, hb, hml, hown, hts⟩ (c_X11_sumFits l D T (z_1 * z_4) (z_3 * z_2)) (va_cwS 2 hts gX11_plus_X11_sumFits rfl rfl rfl hs_X11_sumFits ⟨Nat.le_of_ble_eq_true rfl, Nat.le_of_ble_eq_true rfl⟩) (pR_S hP hE [] rfl) rfl rfl hl.1 rfl (lv_room (Nat.le_of_ble_eq_true rfl)) dX11_plus_86 ⟨Nat.le_of_ble_eq_true rfl, Nat.le_of_ble_eq_true rfl⟩) (fun r_21 hr_21 => ?_)
            rcases bool_post hr_21 with ⟨c_22, rfl⟩ | ⟨c_22, rfl⟩
            · refine lv_if_eq (tgt := 96) hx hb dX11_plus_89 (by decide +kernel) (fun c9 => absurd c9 (by decide +kernel)) (fun _ => ?_)
              refine lv_iconst (v := 1) hx hb dX11_plus_92 (by decide +kernel) ?_
              refine lv_goto (tgt := 97) hx hb dX11_plus_93 (by decide +kernel) ?_
              refine lv_istore (lv' := [(12, .int 1), (10, .long z_4), (8, .long z_3), (6, .long z_2), (4, .long z_1), (0, .ref h0), (1, .int x1), (2, .int x2), (3, .int x3)]) hx hb dX11_plus_97 hl (by decide +kernel) rfl (fun ls hl => ?_)
              refine lv_iload hx hb dX11_plus_99 (lv_at hl 0 rfl) ?_
              refine lv_if_eq (tgt := 128) hx hb dX11_plus_101 (by decide +kernel) (fun c9 => absurd c9 (by decide +kernel)) (fun _ => ?_)
              refine lv_aload_n hx hb dX11_plus_104 rfl (lv_at hl 5 rfl) ?_
              refine lv_iload_n hx hb dX11_plus_105 rfl (lv_at hl 6 rfl) ?_
              refine lv_lload hx hb dX11_plus_106 (lv_at hl 4 rfl) ?_
              refine lv_lload hx hb dX11_plus_108 (lv_at hl 1 rfl) ?_
              refine lv_lmul hx hb dX11_plus_110 ?_
              refine lv_lload hx hb dX11_plus_111 (lv_at hl 2 rfl) ?_
              refine lv_lload hx hb dX11_plus_113 (lv_at hl 3 rfl) ?_
              refine lv_lmul hx hb dX11_plus_115 ?_
              refine lv_ladd hx hb dX11_plus_116 ?_
              refine lv_lload hx hb dX11_plus_117 (lv_at hl 3 rfl) ?_
              refine lv_lload hx hb dX11_plus_119 (lv_at hl 1 rfl) ?_
              refine lv_lmul hx hb dX11_plus_121 ?_
              have hFc := va_free (wc := [(h0, .inr (8, [v0, v1, .ref p0, .ref p1, v4, .int n])), (p0, .inl (T 1, 676, .inr (.inl f0))), (p1, .inl (T 1, 676, .inr (.inl f1)))]) hD hS hA [0, 1, 2] rfl
              refine va_callv (va_runV (As := [.int x1, .long ((z_1 * z_4) + (z_3 * z_2)), .long (z_2 * z_4)]) (rest := []) ⟨hx, hb, hml, hown, hts⟩ (c_X11_reduce l D T _ h0 p0 p1 (v0) (v1) (v4) n f0 f1 x1 ((z_1 * z_4) + (z_3 * z_2)) (z_2 * z_4) (by first | decide | omega) (fitM_pos (by omega) (by omega) (by assumption))) (cwV 3 hts gX11_plus_X11_reduce rfl rfl rfl hv_X11_reduce ⟨Nat.le_of_ble_eq_true rfl, Nat.le_of_ble_eq_true rfl⟩) (pW_V (q := (RX11, TX11, 6)) (ci := 8) (q0 := 0) hP hE hD rfl rfl [0, 1, 2] (by decide +kernel) rfl rfl) rfl rfl hl.1 rfl (lv_room (Nat.le_of_ble_eq_true rfl)) dX11_plus_122 ⟨Nat.le_of_ble_eq_true rfl, Nat.le_of_ble_eq_true rfl⟩) hS (fun q _ h => hFc q h) hFc (fun u_24 t H1 locs ht hvm hr_23 hB hz1 hk1 hS => ?_)
              obtain ⟨f_25, f_26⟩ := u_24
              have hrd1 : f_25 = vp_updL f0 (x1.toNatClampNeg) (redW ((z_1 * z_4) + (z_3 * z_2)) (z_2 * z_4)).1 := hr_23.1
              have hrd2 : f_26 = vp_updL f1 (x1.toNatClampNeg) (redW ((z_1 * z_4) + (z_3 * z_2)) (z_2 * z_4)).2 := hr_23.2
              obtain ⟨hP1, hD1⟩ := hB
              rw [ht] at hP1
              obtain ⟨hP, hD⟩ := va_repl [(h0, .inr (8, [v0, v1, .ref p0, .ref p1, v4, .int n])), (p0, .inl (T 1, 676, .inr (.inl f_25))), (p1, .inl (T 1, 676, .inr (.inl f_26)))] hP hD [0, 1, 2] [0, 1, 2] rfl (by decide +kernel) rfl rfl rfl hk1 hP1
              clear hP1 hD1 hFc
              generalize H1 = H at hP hS ⊢
              refine lv_goto (tgt := 135) hx hb dX11_plus_125 (by decide +kernel) ?_
              exact W.vret hx hb hr (fun t ht hW => ⟨⟨(f_25, f_26), rfl, ⟨hrd1.trans (congrArg (fun q9 : Int64 × Int64 => vp_updL f0 (x1.toNatClampNeg) q9.1) (show redW ((z_1 * z_4) + (z_3 * z_2)) (z_2 * z_4) = addW ((f0 (x2.toNatClampNeg)), (f1 (x2.toNatClampNeg))) ((f0 (x3.toNatClampNeg)), (f1 (x3.toNatClampNeg))) from (by rw [← (show ((z_1, z_2) : Int64 × Int64) = ((f0 (x2.toNatClampNeg)), (f1 (x2.toNatClampNeg))) from by rw [ez_1, ez_2]), ← (show ((z_3, z_4) : Int64 × Int64) = ((f0 (x3.toNatClampNeg)), (f1 (x3.toNatClampNeg))) from by rw [ez_3, ez_4])]; exact (addW_yes (p := (z_1, z_2)) (q := (z_3, z_4)) (show ¬ z_2.toInt = 0 from by omega) (show ¬ z_4.toInt = 0 from by omega) (by assumption) (by assumption) (by assumption) (by assumption)).symm))), hrd2.trans (congrArg (fun q9 : Int64 × Int64 => vp_updL f1 (x1.toNatClampNeg) q9.2) (show redW ((z_1 * z_4) + (z_3 * z_2)) (z_2 * z_4) = addW ((f0 (x2.toNatClampNeg)), (f1 (x2.toNatClampNeg))) ((f0 (x3.toNatClampNeg)), (f1 (x3.toNatClampNeg))) from (by rw [← (show ((z_1, z_2) : Int64 × Int64) = ((f0 (x2.toNatClampNeg)), (f1 (x2.toNatClampNeg))) from by rw [ez_1, ez_2]), ← (show ((z_3, z_4) : Int64 × Int64) = ((f0 (x3.toNatClampNeg)), (f1 (x3.toNatClampNeg))) from by rw [ez_3, ez_4])]; exact (addW_yes (p := (z_1, z_2)) (q := (z_3, z_4)) (show ¬ z_2.toInt = 0 from by omega) (show ¬ z_4.toInt = 0 from by omega) (by assumption) (by assumption) (by assumption) (by assumption)).symm)))⟩, by rw [ht]; exact hP.sub [0, 1, 2] rfl, hD.sub [0, 1, 2] (by decide +kernel) rfl⟩, hS.F ht⟩) hS.2.2 dX11_plus_135
            · refine lv_if_eq (tgt := 96) hx hb dX11_plus_89 (by decide +kernel) (fun _ => ?_) (fun c9 => absurd c9 (by decide +kernel))
              refine lv_iconst (v := 0) hx hb dX11_plus_96 (by decide +kernel) ?_
              refine lv_istore (lv' := [(12, .int 0), (10, .long z_4), (8, .long z_3), (6, .long z_2), (4, .long z_1), (0, .ref h0), (1, .int x1), (2, .int x2), (3, .int x3)]) hx hb dX11_plus_97 hl (by decide +kernel) rfl (fun ls hl => ?_)
              refine lv_iload hx hb dX11_plus_99 (lv_at hl 0 rfl) ?_
              refine lv_if_eq (tgt := 128) hx hb dX11_plus_101 (by decide +kernel) (fun _ => ?_) (fun c9 => absurd c9 (by decide +kernel))
              refine lv_aload_n hx hb dX11_plus_128 rfl (lv_at hl 5 rfl) ?_
              refine lv_iload_n hx hb dX11_plus_129 rfl (lv_at hl 6 rfl) ?_
              refine lv_lconst (v := 0) hx hb dX11_plus_130 (by decide +kernel) ?_
              refine lv_lconst (v := 0) hx hb dX11_plus_131 (by decide +kernel) ?_
              have hFc := va_free (wc := [(h0, .inr (8, [v0, v1, .ref p0, .ref p1, v4, .int n])), (p0, .inl (T 1, 676, .inr (.inl f0))), (p1, .inl (T 1, 676, .inr (.inl f1)))]) hD hS hA [0, 1, 2] rfl
              refine va_callv (va_runV (As := [.int x1, .long 0, .long 0]) (rest := []) ⟨hx, hb, hml, hown, hts⟩ (c_X11_assign l D T _ h0 p0 p1 (v0) (v1) (v4) n f0 f1 x1 0 0 (by first | decide | omega)) (cwV 3 hts gX11_plus_X11_assign rfl rfl rfl hv_X11_assign ⟨Nat.le_of_ble_eq_true rfl, Nat.le_of_ble_eq_true rfl⟩) (pW_V (q := (RX11, TX11, 6)) (ci := 8) (q0 := 0) hP hE hD rfl rfl [0, 1, 2] (by decide +kernel) rfl rfl) rfl rfl hl.1 rfl (lv_room (Nat.le_of_ble_eq_true rfl)) dX11_plus_132 ⟨Nat.le_of_ble_eq_true rfl, Nat.le_of_ble_eq_true rfl⟩) hS (fun q _ h => hFc q h) hFc (fun u_28 t H1 locs ht hvm hr_27 hB hz1 hk1 hS => ?_)
              obtain ⟨f_29, f_30⟩ := u_28
              have hrd1 : f_29 = vp_updL f0 (x1.toNatClampNeg) (((0 : Int64), (0 : Int64))).1 := hr_27.1
              have hrd2 : f_30 = vp_updL f1 (x1.toNatClampNeg) (((0 : Int64), (0 : Int64))).2 := hr_27.2
              obtain ⟨hP1, hD1⟩ := hB
              rw [ht] at hP1
              obtain ⟨hP, hD⟩ := va_repl [(h0, .inr (8, [v0, v1, .ref p0, .ref p1, v4, .int n])), (p0, .inl (T 1, 676, .inr (.inl f_29))), (p1, .inl (T 1, 676, .inr (.inl f_30)))] hP hD [0, 1, 2] [0, 1, 2] rfl (by decide +kernel) rfl rfl rfl hk1 hP1
              clear hP1 hD1 hFc
              generalize H1 = H at hP hS ⊢
              exact W.vret hx hb hr (fun t ht hW => ⟨⟨(f_29, f_30), rfl, ⟨hrd1.trans (congrArg (fun q9 : Int64 × Int64 => vp_updL f0 (x1.toNatClampNeg) q9.1) (show ((0 : Int64), (0 : Int64)) = addW ((f0 (x2.toNatClampNeg)), (f1 (x2.toNatClampNeg))) ((f0 (x3.toNatClampNeg)), (f1 (x3.toNatClampNeg))) from (by rw [← (show ((z_1, z_2) : Int64 × Int64) = ((f0 (x2.toNatClampNeg)), (f1 (x2.toNatClampNeg))) from by rw [ez_1, ez_2]), ← (show ((z_3, z_4) : Int64 × Int64) = ((f0 (x3.toNatClampNeg)), (f1 (x3.toNatClampNeg))) from by rw [ez_3, ez_4])]; exact (addW_no (p := (z_1, z_2)) (q := (z_3, z_4)) (by first | exact Or.inl (show z_2.toInt = 0 from by omega) | exact Or.inr (Or.inl (show z_4.toInt = 0 from by omega)) | exact Or.inr (Or.inr (Or.inl (by assumption))) | exact Or.inr (Or.inr (Or.inr (Or.inl (by assumption)))) | exact Or.inr (Or.inr (Or.inr (Or.inr (Or.inl (by assumption))))) | exact Or.inr (Or.inr (Or.inr (Or.inr (Or.inr (by assumption))))))).symm))), hrd2.trans (congrArg (fun q9 : Int64 × Int64 => vp_updL f1 (x1.toNatClampNeg) q9.2) (show ((0 : Int64), (0 : Int64)) = addW ((f0 (x2.toNatClampNeg)), (f1 (x2.toNatClampNeg))) ((f0 (x3.toNatClampNeg)), (f1 (x3.toNatClampNeg))) from (by rw [← (show ((z_1, z_2) : Int64 × Int64) = ((f0 (x2.toNatClampNeg)), (f1 (x2.toNatClampNeg))) from by rw [ez_1, ez_2]), ← (show ((z_3, z_4) : Int64 × Int64) = ((f0 (x3.toNatClampNeg)), (f1 (x3.toNatClampNeg))) from by rw [ez_3, ez_4])]; exact (addW_no (p := (z_1, z_2)) (q := (z_3, z_4)) (by first | exact Or.inl (show z_2.toInt = 0 from by omega) | exact Or.inr (Or.inl (show z_4.toInt = 0 from by omega)) | exact Or.inr (Or.inr (Or.inl (by assumption))) | exact Or.inr (Or.inr (Or.inr (Or.inl (by assumption)))) | exact Or.inr (Or.inr (Or.inr (Or.inr (Or.inl (by assumption))))) | exact Or.inr (Or.inr (Or.inr (Or.inr (Or.inr (by assumption))))))).symm)))⟩, by rw [ht]; exact hP.sub [0, 1, 2] rfl, hD.sub [0, 1, 2] (by decide +kernel) rfl⟩, hS.F ht⟩) hS.2.2 dX11_plus_135
          · refine lv_if_eq (tgt := 96) hx hb dX11_plus_73 (by decide +kernel) (fun _ => ?_) (fun c9 => absurd c9 (by decide +kernel))
            refine lv_iconst (v := 0) hx hb dX11_plus_96 (by decide +kernel) ?_
            refine lv_istore (lv' := [(12, .int 0), (10, .long z_4), (8, .long z_3), (6, .long z_2), (4, .long z_1), (0, .ref h0), (1, .int x1), (2, .int x2), (3, .int x3)]) hx hb dX11_plus_97 hl (by decide +kernel) rfl (fun ls hl => ?_)
            refine lv_iload hx hb dX11_plus_99 (lv_at hl 0 rfl) ?_
            refine lv_if_eq (tgt := 128) hx hb dX11_plus_101 (by decide +kernel) (fun _ => ?_) (fun c9 => absurd c9 (by decide +kernel))
            refine lv_aload_n hx hb dX11_plus_128 rfl (lv_at hl 5 rfl) ?_
            refine lv_iload_n hx hb dX11_plus_129 rfl (lv_at hl 6 rfl) ?_
            refine lv_lconst (v := 0) hx hb dX11_plus_130 (by decide +kernel) ?_
            refine lv_lconst (v := 0) hx hb dX11_plus_131 (by decide +kernel) ?_
            have hFc := va_free (wc := [(h0, .inr (8, [v0, v1, .ref p0, .ref p1, v4, .int n])), (p0, .inl (T 1, 676, .inr (.inl f0))), (p1, .inl (T 1, 676, .inr (.inl f1)))]) hD hS hA [0, 1, 2] rfl
            refine va_callv (va_runV (As := [.int x1, .long 0, .long 0]) (rest := []) ⟨hx, hb, hml, hown, hts⟩ (c_X11_assign l D T _ h0 p0 p1 (v0) (v1) (v4) n f0 f1 x1 0 0 (by first | decide | omega)) (cwV 3 hts gX11_plus_X11_assign rfl rfl rfl hv_X11_assign ⟨Nat.le_of_ble_eq_true rfl, Nat.le_of_ble_eq_true rfl⟩) (pW_V (q := (RX11, TX11, 6)) (ci := 8) (q0 := 0) hP hE hD rfl rfl [0, 1, 2] (by decide +kernel) rfl rfl) rfl rfl hl.1 rfl (lv_room (Nat.le_of_ble_eq_true rfl)) dX11_plus_132 ⟨Nat.le_of_ble_eq_true rfl, Nat.le_of_ble_eq_true rfl⟩) hS (fun q _ h => hFc q h) hFc (fun u_32 t H1 locs ht hvm hr_31 hB hz1 hk1 hS => ?_)
            obtain ⟨f_33, f_34⟩ := u_32
            have hrd1 : f_33 = vp_updL f0 (x1.toNatClampNeg) (((0 : Int64), (0 : Int64))).1 := hr_31.1
            have hrd2 : f_34 = vp_updL f1 (x1.toNatClampNeg) (((0 : Int64), (0 : Int64))).2 := hr_31.2
            obtain ⟨hP1, hD1⟩ := hB
            rw [ht] at hP1
            obtain ⟨hP, hD⟩ := va_repl [(h0, .inr (8, [v0, v1, .ref p0, .ref p1, v4, .int n])), (p0, .inl (T 1, 676, .inr (.inl f_33))), (p1, .inl (T 1, 676, .inr (.inl f_34)))] hP hD [0, 1, 2] [0, 1, 2] rfl (by decide +kernel) rfl rfl rfl hk1 hP1
            clear hP1 hD1 hFc
            generalize H1 = H at hP hS ⊢
            exact W.vret hx hb hr (fun t ht hW => ⟨⟨(f_33, f_34), rfl, ⟨hrd1.trans (congrArg (fun q9 : Int64 × Int64 => vp_updL f0 (x1.toNatClampNeg) q9.1) (show ((0 : Int64), (0 : Int64)) = addW ((f0 (x2.toNatClampNeg)), (f1 (x2.toNatClampNeg))) ((f0 (x3.toNatClampNeg)), (f1 (x3.toNatClampNeg))) from (by rw [← (show ((z_1, z_2) : Int64 × Int64) = ((f0 (x2.toNatClampNeg)), (f1 (x2.toNatClampNeg))) from by rw [ez_1, ez_2]), ← (show ((z_3, z_4) : Int64 × Int64) = ((f0 (x3.toNatClampNeg)), (f1 (x3.toNatClampNeg))) from by rw [ez_3, ez_4])]; exact (addW_no (p := (z_1, z_2)) (q := (z_3, z_4)) (by first | exact Or.inl (show z_2.toInt = 0 from by omega) | exact Or.inr (Or.inl (show z_4.toInt = 0 from by omega)) | exact Or.inr (Or.inr (Or.inl (by assumption))) | exact Or.inr (Or.inr (Or.inr (Or.inl (by assumption)))) | exact Or.inr (Or.inr (Or.inr (Or.inr (Or.inl (by assumption))))) | exact Or.inr (Or.inr (Or.inr (Or.inr (Or.inr (by assumption))))))).symm))), hrd2.trans (congrArg (fun q9 : Int64 × Int64 => vp_updL f1 (x1.toNatClampNeg) q9.2) (show ((0 : Int64), (0 : Int64)) = addW ((f0 (x2.toNatClampNeg)), (f1 (x2.toNatClampNeg))) ((f0 (x3.toNatClampNeg)), (f1 (x3.toNatClampNeg))) from (by rw [← (show ((z_1, z_2) : Int64 × Int64) = ((f0 (x2.toNatClampNeg)), (f1 (x2.toNatClampNeg))) from by rw [ez_1, ez_2]), ← (show ((z_3, z_4) : Int64 × Int64) = ((f0 (x3.toNatClampNeg)), (f1 (x3.toNatClampNeg))) from by rw [ez_3, ez_4])]; exact (addW_no (p := (z_1, z_2)) (q := (z_3, z_4)) (by first | exact Or.inl (show z_2.toInt = 0 from by omega) | exact Or.inr (Or.inl (show z_4.toInt = 0 from by omega)) | exact Or.inr (Or.inr (Or.inl (by assumption))) | exact Or.inr (Or.inr (Or.inr (Or.inl (by assumption)))) | exact Or.inr (Or.inr (Or.inr (Or.inr (Or.inl (by assumption))))) | exact Or.inr (Or.inr (Or.inr (Or.inr (Or.inr (by assumption))))))).symm)))⟩, by rw [ht]; exact hP.sub [0, 1, 2] rfl, hD.sub [0, 1, 2] (by decide +kernel) rfl⟩, hS.F ht⟩) hS.2.2 dX11_plus_135
        · refine lv_if_eq (tgt := 96) hx hb dX11_plus_63 (by decide +kernel) (fun _ => ?_) (fun c9 => absurd c9 (by decide +kernel))
          refine lv_iconst (v := 0) hx hb dX11_plus_96 (by decide +kernel) ?_
          refine lv_istore (lv' := [(12, .int 0), (10, .long z_4), (8, .long z_3), (6, .long z_2), (4, .long z_1), (0, .ref h0), (1, .int x1), (2, .int x2), (3, .int x3)]) hx hb dX11_plus_97 hl (by decide +kernel) rfl (fun ls hl => ?_)
          refine lv_iload hx hb dX11_plus_99 (lv_at hl 0 rfl) ?_
          refine lv_if_eq (tgt := 128) hx hb dX11_plus_101 (by decide +kernel) (fun _ => ?_) (fun c9 => absurd c9 (by decide +kernel))
          refine lv_aload_n hx hb dX11_plus_128 rfl (lv_at hl 5 rfl) ?_
          refine lv_iload_n hx hb dX11_plus_129 rfl (lv_at hl 6 rfl) ?_
          refine lv_lconst (v := 0) hx hb dX11_plus_130 (by decide +kernel) ?_
          refine lv_lconst (v := 0) hx hb dX11_plus_131 (by decide +kernel) ?_
          have hFc := va_free (wc := [(h0, .inr (8, [v0, v1, .ref p0, .ref p1, v4, .int n])), (p0, .inl (T 1, 676, .inr (.inl f0))), (p1, .inl (T 1, 676, .inr (.inl f1)))]) hD hS hA [0, 1, 2] rfl
          refine va_callv (va_runV (As := [.int x1, .long 0, .long 0]) (rest := []) ⟨hx, hb, hml, hown, hts⟩ (c_X11_assign l D T _ h0 p0 p1 (v0) (v1) (v4) n f0 f1 x1 0 0 (by first | decide | omega)) (cwV 3 hts gX11_plus_X11_assign rfl rfl rfl hv_X11_assign ⟨Nat.le_of_ble_eq_true rfl, Nat.le_of_ble_eq_true rfl⟩) (pW_V (q := (RX11, TX11, 6)) (ci := 8) (q0 := 0) hP hE hD rfl rfl [0, 1, 2] (by decide +kernel) rfl rfl) rfl rfl hl.1 rfl (lv_room (Nat.le_of_ble_eq_true rfl)) dX11_plus_132 ⟨Nat.le_of_ble_eq_true rfl, Nat.le_of_ble_eq_true rfl⟩) hS (fun q _ h => hFc q h) hFc (fun u_36 t H1 locs ht hvm hr_35 hB hz1 hk1 hS => ?_)
          obtain ⟨f_37, f_38⟩ := u_36
          have hrd1 : f_37 = vp_updL f0 (x1.toNatClampNeg) (((0 : Int64), (0 : Int64))).1 := hr_35.1
          have hrd2 : f_38 = vp_updL f1 (x1.toNatClampNeg) (((0 : Int64), (0 : Int64))).2 := hr_35.2
          obtain ⟨hP1, hD1⟩ := hB
          rw [ht] at hP1
          obtain ⟨hP, hD⟩ := va_repl [(h0, .inr (8, [v0, v1, .ref p0, .ref p1, v4, .int n])), (p0, .inl (T 1, 676, .inr (.inl f_37))), (p1, .inl (T 1, 676, .inr (.inl f_38)))] hP hD [0, 1, 2] [0, 1, 2] rfl (by decide +kernel) rfl rfl rfl hk1 hP1
          clear hP1 hD1 hFc
          generalize H1 = H at hP hS ⊢
          exact W.vret hx hb hr (fun t ht hW => ⟨⟨(f_37, f_38), rfl, ⟨hrd1.trans (congrArg (fun q9 : Int64 × Int64 => vp_updL f0 (x1.toNatClampNeg) q9.1) (show ((0 : Int64), (0 : Int64)) = addW ((f0 (x2.toNatClampNeg)), (f1 (x2.toNatClampNeg))) ((f0 (x3.toNatClampNeg)), (f1 (x3.toNatClampNeg))) from (by rw [← (show ((z_1, z_2) : Int64 × Int64) = ((f0 (x2.toNatClampNeg)), (f1 (x2.toNatClampNeg))) from by rw [ez_1, ez_2]), ← (show ((z_3, z_4) : Int64 × Int64) = ((f0 (x3.toNatClampNeg)), (f1 (x3.toNatClampNeg))) from by rw [ez_3, ez_4])]; exact (addW_no (p := (z_1, z_2)) (q := (z_3, z_4)) (by first | exact Or.inl (show z_2.toInt = 0 from by omega) | exact Or.inr (Or.inl (show z_4.toInt = 0 from by omega)) | exact Or.inr (Or.inr (Or.inl (by assumption))) | exact Or.inr (Or.inr (Or.inr (Or.inl (by assumption)))) | exact Or.inr (Or.inr (Or.inr (Or.inr (Or.inl (by assumption))))) | exact Or.inr (Or.inr (Or.inr (Or.inr (Or.inr (by assumption))))))).symm))), hrd2.trans (congrArg (fun q9 : Int64 × Int64 => vp_updL f1 (x1.toNatClampNeg) q9.2) (show ((0 : Int64), (0 : Int64)) = addW ((f0 (x2.toNatClampNeg)), (f1 (x2.toNatClampNeg))) ((f0 (x3.toNatClampNeg)), (f1 (x3.toNatClampNeg))) from (by rw [← (show ((z_1, z_2) : Int64 × Int64) = ((f0 (x2.toNatClampNeg)), (f1 (x2.toNatClampNeg))) from by rw [ez_1, ez_2]), ← (show ((z_3, z_4) : Int64 × Int64) = ((f0 (x3.toNatClampNeg)), (f1 (x3.toNatClampNeg))) from by rw [ez_3, ez_4])]; exact (addW_no (p := (z_1, z_2)) (q := (z_3, z_4)) (by first | exact Or.inl (show z_2.toInt = 0 from by omega) | exact Or.inr (Or.inl (show z_4.toInt = 0 from by omega)) | exact Or.inr (Or.inr (Or.inl (by assumption))) | exact Or.inr (Or.inr (Or.inr (Or.inl (by assumption)))) | exact Or.inr (Or.inr (Or.inr (Or.inr (Or.inl (by assumption))))) | exact Or.inr (Or.inr (Or.inr (Or.inr (Or.inr (by assumption))))))).symm)))⟩, by rw [ht]; exact hP.sub [0, 1, 2] rfl, hD.sub [0, 1, 2] (by decide +kernel) rfl⟩, hS.F ht⟩) hS.2.2 dX11_plus_135
      · refine lv_if_eq (tgt := 96) hx hb dX11_plus_53 (by decide +kernel) (fun _ => ?_) (fun c9 => absurd c9 (by decide +kernel))
        refine lv_iconst (v := 0) hx hb dX11_plus_96 (by decide +kernel) ?_
        refine lv_istore (lv' := [(12, .int 0), (10, .long z_4), (8, .long z_3), (6, .long z_2), (4, .long z_1), (0, .ref h0), (1, .int x1), (2, .int x2), (3, .int x3)]) hx hb dX11_plus_97 hl (by decide +kernel) rfl (fun ls hl => ?_)
        refine lv_iload hx hb dX11_plus_99 (lv_at hl 0 rfl) ?_
        refine lv_if_eq (tgt := 128) hx hb dX11_plus_101 (by decide +kernel) (fun _ => ?_) (fun c9 => absurd c9 (by decide +kernel))
        refine lv_aload_n hx hb dX11_plus_128 rfl (lv_at hl 5 rfl) ?_
        refine lv_iload_n hx hb dX11_plus_129 rfl (lv_at hl 6 rfl) ?_
        refine lv_lconst (v := 0) hx hb dX11_plus_130 (by decide +kernel) ?_
        refine lv_lconst (v := 0) hx hb dX11_plus_131 (by decide +kernel) ?_
        have hFc := va_free (wc := [(h0, .inr (8, [v0, v1, .ref p0, .ref p1, v4, .int n])), (p0, .inl (T 1, 676, .inr (.inl f0))), (p1, .inl (T 1, 676, .inr (.inl f1)))]) hD hS hA [0, 1, 2] rfl
        refine va_callv (va_runV (As := [.int x1, .long 0, .long 0]) (rest := []) ⟨hx, hb, hml, hown, hts⟩ (c_X11_assign l D T _ h0 p0 p1 (v0) (v1) (v4) n f0 f1 x1 0 0 (by first | decide | omega)) (cwV 3 hts gX11_plus_X11_assign rfl rfl rfl hv_X11_assign ⟨Nat.le_of_ble_eq_true rfl, Nat.le_of_ble_eq_true rfl⟩) (pW_V (q := (RX11, TX11, 6)) (ci := 8) (q0 := 0) hP hE hD rfl rfl [0, 1, 2] (by decide +kernel) rfl rfl) rfl rfl hl.1 rfl (lv_room (Nat.le_of_ble_eq_true rfl)) dX11_plus_132 ⟨Nat.le_of_ble_eq_true rfl, Nat.le_of_ble_eq_true rfl⟩) hS (fun q _ h => hFc q h) hFc (fun u_40 t H1 locs ht hvm hr_39 hB hz1 hk1 hS => ?_)
        obtain ⟨f_41, f_42⟩ := u_40
        have hrd1 : f_41 = vp_updL f0 (x1.toNatClampNeg) (((0 : Int64), (0 : Int64))).1 := hr_39.1
        have hrd2 : f_42 = vp_updL f1 (x1.toNatClampNeg) (((0 : Int64), (0 : Int64))).2 := hr_39.2
        obtain ⟨hP1, hD1⟩ := hB
        rw [ht] at hP1
        obtain ⟨hP, hD⟩ := va_repl [(h0, .inr (8, [v0, v1, .ref p0, .ref p1, v4, .int n])), (p0, .inl (T 1, 676, .inr (.inl f_41))), (p1, .inl (T 1, 676, .inr (.inl f_42)))] hP hD [0, 1, 2] [0, 1, 2] rfl (by decide +kernel) rfl rfl rfl hk1 hP1
        clear hP1 hD1 hFc
        generalize H1 = H at hP hS ⊢
        exact W.vret hx hb hr (fun t ht hW => ⟨⟨(f_41, f_42), rfl, ⟨hrd1.trans (congrArg (fun q9 : Int64 × Int64 => vp_updL f0 (x1.toNatClampNeg) q9.1) (show ((0 : Int64), (0 : Int64)) = addW ((f0 (x2.toNatClampNeg)), (f1 (x2.toNatClampNeg))) ((f0 (x3.toNatClampNeg)), (f1 (x3.toNatClampNeg))) from (by rw [← (show ((z_1, z_2) : Int64 × Int64) = ((f0 (x2.toNatClampNeg)), (f1 (x2.toNatClampNeg))) from by rw [ez_1, ez_2]), ← (show ((z_3, z_4) : Int64 × Int64) = ((f0 (x3.toNatClampNeg)), (f1 (x3.toNatClampNeg))) from by rw [ez_3, ez_4])]; exact (addW_no (p := (z_1, z_2)) (q := (z_3, z_4)) (by first | exact Or.inl (show z_2.toInt = 0 from by omega) | exact Or.inr (Or.inl (show z_4.toInt = 0 from by omega)) | exact Or.inr (Or.inr (Or.inl (by assumption))) | exact Or.inr (Or.inr (Or.inr (Or.inl (by assumption)))) | exact Or.inr (Or.inr (Or.inr (Or.inr (Or.inl (by assumption))))) | exact Or.inr (Or.inr (Or.inr (Or.inr (Or.inr (by assumption))))))).symm))), hrd2.trans (congrArg (fun q9 : Int64 × Int64 => vp_updL f1 (x1.toNatClampNeg) q9.2) (show ((0 : Int64), (0 : Int64)) = addW ((f0 (x2.toNatClampNeg)), (f1 (x2.toNatClampNeg))) ((f0 (x3.toNatClampNeg)), (f1 (x3.toNatClampNeg))) from (by rw [← (show ((z_1, z_2) : Int64 × Int64) = ((f0 (x2.toNatClampNeg)), (f1 (x2.toNatClampNeg))) from by rw [ez_1, ez_2]), ← (show ((z_3, z_4) : Int64 × Int64) = ((f0 (x3.toNatClampNeg)), (f1 (x3.toNatClampNeg))) from by rw [ez_3, ez_4])]; exact (addW_no (p := (z_1, z_2)) (q := (z_3, z_4)) (by first | exact Or.inl (show z_2.toInt = 0 from by omega) | exact Or.inr (Or.inl (show z_4.toInt = 0 from by omega)) | exact Or.inr (Or.inr (Or.inl (by assumption))) | exact Or.inr (Or.inr (Or.inr (Or.inl (by assumption)))) | exact Or.inr (Or.inr (Or.inr (Or.inr (Or.inl (by assumption))))) | exact Or.inr (Or.inr (Or.inr (Or.inr (Or.inr (by assumption))))))).symm)))⟩, by rw [ht]; exact hP.sub [0, 1, 2] rfl, hD.sub [0, 1, 2] (by decide +kernel) rfl⟩, hS.F ht⟩) hS.2.2 dX11_plus_135
theorem dX11_order_0 : decode cX11_order 0 = .ok (.aload_n 0, 1) := by decide +kernel
theorem dX11_order_1 : decode cX11_order 1 = .ok (.getfield 11, 3) := by decide +kernel
theorem dX11_order_101 : decode cX11_order 101 = .ok (.ineg, 1) := by decide +kernel
theorem dX11_order_102 : decode cX11_order 102 = .ok (.ireturn, 1) := by decide +kernel
theorem dX11_order_103 : decode cX11_order 103 = .ok (.lload_n 3, 1) := by decide +kernel
theorem dX11_order_104 : decode cX11_order 104 = .ok (.lload 5, 2) := by decide +kernel
theorem dX11_order_106 : decode cX11_order 106 = .ok (.invokestatic 164, 3) := by decide +kernel
theorem dX11_order_109 : decode cX11_order 109 = .ok (.lstore 17, 2) := by decide +kernel
theorem dX11_order_11 : decode cX11_order 11 = .ok (.iload_n 1, 1) := by decide +kernel
theorem dX11_order_111 : decode cX11_order 111 = .ok (.lload 7, 2) := by decide +kernel
theorem dX11_order_113 : decode cX11_order 113 = .ok (.lload 9, 2) := by decide +kernel
theorem dX11_order_115 : decode cX11_order 115 = .ok (.invokestatic 164, 3) := by decide +kernel
theorem dX11_order_118 : decode cX11_order 118 = .ok (.lstore 19, 2) := by decide +kernel
theorem dX11_order_12 : decode cX11_order 12 = .ok (.laload, 1) := by decide +kernel
theorem dX11_order_120 : decode cX11_order 120 = .ok (.lload 17, 2) := by decide +kernel
theorem dX11_order_122 : decode cX11_order 122 = .ok (.lconst 0, 1) := by decide +kernel
theorem dX11_order_123 : decode cX11_order 123 = .ok (.lcmp, 1) := by decide +kernel
theorem dX11_order_124 : decode cX11_order 124 = .ok (.ifCond .ne 12, 3) := by decide +kernel
theorem dX11_order_127 : decode cX11_order 127 = .ok (.lload 19, 2) := by decide +kernel
theorem dX11_order_129 : decode cX11_order 129 = .ok (.lconst 0, 1) := by decide +kernel
theorem dX11_order_13 : decode cX11_order 13 = .ok (.lstore 5, 2) := by decide +kernel
theorem dX11_order_130 : decode cX11_order 130 = .ok (.lcmp, 1) := by decide +kernel
theorem dX11_order_131 : decode cX11_order 131 = .ok (.ifCond .ne 5, 3) := by decide +kernel
theorem dX11_order_134 : decode cX11_order 134 = .ok (.iconst 0, 1) := by decide +kernel
theorem dX11_order_135 : decode cX11_order 135 = .ok (.ireturn, 1) := by decide +kernel
theorem dX11_order_136 : decode cX11_order 136 = .ok (.lload 17, 2) := by decide +kernel
theorem dX11_order_138 : decode cX11_order 138 = .ok (.lconst 0, 1) := by decide +kernel
theorem dX11_order_139 : decode cX11_order 139 = .ok (.lcmp, 1) := by decide +kernel
theorem dX11_order_140 : decode cX11_order 140 = .ok (.ifCond .eq 10, 3) := by decide +kernel
theorem dX11_order_143 : decode cX11_order 143 = .ok (.lload 19, 2) := by decide +kernel
theorem dX11_order_145 : decode cX11_order 145 = .ok (.lconst 0, 1) := by decide +kernel
theorem dX11_order_146 : decode cX11_order 146 = .ok (.lcmp, 1) := by decide +kernel
theorem dX11_order_147 : decode cX11_order 147 = .ok (.ifCond .ne 19, 3) := by decide +kernel
theorem dX11_order_15 : decode cX11_order 15 = .ok (.aload_n 0, 1) := by decide +kernel
theorem dX11_order_150 : decode cX11_order 150 = .ok (.lload 19, 2) := by decide +kernel
theorem dX11_order_152 : decode cX11_order 152 = .ok (.lconst 0, 1) := by decide +kernel
theorem dX11_order_153 : decode cX11_order 153 = .ok (.lcmp, 1) := by decide +kernel
theorem dX11_order_154 : decode cX11_order 154 = .ok (.ifCond .ne 8, 3) := by decide +kernel
theorem dX11_order_157 : decode cX11_order 157 = .ok (.iload 11, 2) := by decide +kernel
theorem dX11_order_159 : decode cX11_order 159 = .ok (.goto 6, 3) := by decide +kernel
theorem dX11_order_16 : decode cX11_order 16 = .ok (.getfield 11, 3) := by decide +kernel
theorem dX11_order_162 : decode cX11_order 162 = .ok (.iload 11, 2) := by decide +kernel
theorem dX11_order_164 : decode cX11_order 164 = .ok (.ineg, 1) := by decide +kernel
theorem dX11_order_165 : decode cX11_order 165 = .ok (.ireturn, 1) := by decide +kernel
theorem dX11_order_166 : decode cX11_order 166 = .ok (.lload 5, 2) := by decide +kernel
theorem dX11_order_168 : decode cX11_order 168 = .ok (.lstore_n 3, 1) := by decide +kernel
theorem dX11_order_169 : decode cX11_order 169 = .ok (.lload 17, 2) := by decide +kernel
theorem dX11_order_171 : decode cX11_order 171 = .ok (.lstore 5, 2) := by decide +kernel
theorem dX11_order_173 : decode cX11_order 173 = .ok (.lload 9, 2) := by decide +kernel
theorem dX11_order_175 : decode cX11_order 175 = .ok (.lstore 7, 2) := by decide +kernel
theorem dX11_order_177 : decode cX11_order 177 = .ok (.lload 19, 2) := by decide +kernel
theorem dX11_order_179 : decode cX11_order 179 = .ok (.lstore 9, 2) := by decide +kernel
theorem dX11_order_181 : decode cX11_order 181 = .ok (.iload 11, 2) := by decide +kernel
theorem dX11_order_183 : decode cX11_order 183 = .ok (.ineg, 1) := by decide +kernel
theorem dX11_order_184 : decode cX11_order 184 = .ok (.istore 11, 2) := by decide +kernel
theorem dX11_order_186 : decode cX11_order 186 = .ok (.iinc 12 1, 3) := by decide +kernel
theorem dX11_order_189 : decode cX11_order 189 = .ok (.goto (-152), 3) := by decide +kernel
theorem dX11_order_19 : decode cX11_order 19 = .ok (.iload_n 2, 1) := by decide +kernel
theorem dX11_order_192 : decode cX11_order 192 = .ok (.iconst 0, 1) := by decide +kernel
theorem dX11_order_193 : decode cX11_order 193 = .ok (.ireturn, 1) := by decide +kernel
theorem dX11_order_20 : decode cX11_order 20 = .ok (.laload, 1) := by decide +kernel
theorem dX11_order_21 : decode cX11_order 21 = .ok (.lstore 7, 2) := by decide +kernel
theorem dX11_order_23 : decode cX11_order 23 = .ok (.aload_n 0, 1) := by decide +kernel
theorem dX11_order_24 : decode cX11_order 24 = .ok (.getfield 15, 3) := by decide +kernel
theorem dX11_order_27 : decode cX11_order 27 = .ok (.iload_n 2, 1) := by decide +kernel
theorem dX11_order_28 : decode cX11_order 28 = .ok (.laload, 1) := by decide +kernel
theorem dX11_order_29 : decode cX11_order 29 = .ok (.lstore 9, 2) := by decide +kernel
theorem dX11_order_31 : decode cX11_order 31 = .ok (.iconst 1, 1) := by decide +kernel
theorem dX11_order_32 : decode cX11_order 32 = .ok (.istore 11, 2) := by decide +kernel
theorem dX11_order_34 : decode cX11_order 34 = .ok (.iconst 0, 1) := by decide +kernel
theorem dX11_order_35 : decode cX11_order 35 = .ok (.istore 12, 2) := by decide +kernel
theorem dX11_order_37 : decode cX11_order 37 = .ok (.iload 12, 2) := by decide +kernel
theorem dX11_order_39 : decode cX11_order 39 = .ok (.sipush 200, 3) := by decide +kernel
theorem dX11_order_4 : decode cX11_order 4 = .ok (.iload_n 1, 1) := by decide +kernel
theorem dX11_order_42 : decode cX11_order 42 = .ok (.if_icmp .ge 150, 3) := by decide +kernel
theorem dX11_order_45 : decode cX11_order 45 = .ok (.lload 5, 2) := by decide +kernel
theorem dX11_order_47 : decode cX11_order 47 = .ok (.lconst 0, 1) := by decide +kernel
theorem dX11_order_48 : decode cX11_order 48 = .ok (.lcmp, 1) := by decide +kernel
theorem dX11_order_49 : decode cX11_order 49 = .ok (.ifCond .le 10, 3) := by decide +kernel
theorem dX11_order_5 : decode cX11_order 5 = .ok (.laload, 1) := by decide +kernel
theorem dX11_order_52 : decode cX11_order 52 = .ok (.lload 9, 2) := by decide +kernel
theorem dX11_order_54 : decode cX11_order 54 = .ok (.lconst 0, 1) := by decide +kernel
theorem dX11_order_55 : decode cX11_order 55 = .ok (.lcmp, 1) := by decide +kernel
theorem dX11_order_56 : decode cX11_order 56 = .ok (.ifCond .gt 5, 3) := by decide +kernel
theorem dX11_order_59 : decode cX11_order 59 = .ok (.iconst 0, 1) := by decide +kernel
theorem dX11_order_6 : decode cX11_order 6 = .ok (.lstore_n 3, 1) := by decide +kernel
theorem dX11_order_60 : decode cX11_order 60 = .ok (.ireturn, 1) := by decide +kernel
theorem dX11_order_61 : decode cX11_order 61 = .ok (.lload_n 3, 1) := by decide +kernel
theorem dX11_order_62 : decode cX11_order 62 = .ok (.lload 5, 2) := by decide +kernel
theorem dX11_order_64 : decode cX11_order 64 = .ok (.invokestatic 160, 3) := by decide +kernel
theorem dX11_order_67 : decode cX11_order 67 = .ok (.lstore 13, 2) := by decide +kernel
theorem dX11_order_69 : decode cX11_order 69 = .ok (.lload 7, 2) := by decide +kernel
theorem dX11_order_7 : decode cX11_order 7 = .ok (.aload_n 0, 1) := by decide +kernel
theorem dX11_order_71 : decode cX11_order 71 = .ok (.lload 9, 2) := by decide +kernel
theorem dX11_order_73 : decode cX11_order 73 = .ok (.invokestatic 160, 3) := by decide +kernel
theorem dX11_order_76 : decode cX11_order 76 = .ok (.lstore 15, 2) := by decide +kernel
theorem dX11_order_78 : decode cX11_order 78 = .ok (.lload 13, 2) := by decide +kernel
theorem dX11_order_8 : decode cX11_order 8 = .ok (.getfield 15, 3) := by decide +kernel
theorem dX11_order_80 : decode cX11_order 80 = .ok (.lload 15, 2) := by decide +kernel
theorem dX11_order_82 : decode cX11_order 82 = .ok (.lcmp, 1) := by decide +kernel
theorem dX11_order_83 : decode cX11_order 83 = .ok (.ifCond .eq 20, 3) := by decide +kernel
theorem dX11_order_86 : decode cX11_order 86 = .ok (.lload 13, 2) := by decide +kernel
theorem dX11_order_88 : decode cX11_order 88 = .ok (.lload 15, 2) := by decide +kernel
theorem dX11_order_90 : decode cX11_order 90 = .ok (.lcmp, 1) := by decide +kernel
theorem dX11_order_91 : decode cX11_order 91 = .ok (.ifCond .le 8, 3) := by decide +kernel
theorem dX11_order_94 : decode cX11_order 94 = .ok (.iload 11, 2) := by decide +kernel
theorem dX11_order_96 : decode cX11_order 96 = .ok (.goto 6, 3) := by decide +kernel
theorem dX11_order_99 : decode cX11_order 99 = .ok (.iload 11, 2) := by decide +kernel
set_option maxRecDepth 20000 in
theorem ggX11_order_J9_floorDiv_f86c9 : GoodIn wsX11_order wsJ9_floorDiv_f86c9 := goodIn_r _ [6] rfl (by decide +kernel)
set_option maxRecDepth 20000 in
theorem ggX11_order_J9_floorMod_f86c9 : GoodIn wsX11_order wsJ9_floorMod_f86c9 := goodIn_r _ [9] rfl (by decide +kernel)
set_option maxRecDepth 20000 in
theorem gX11_order_J9_floorDiv_f86c9 : GoodIn wsX11_order (va_wsS RX11 160 yJ9_floorDiv_f86c9 wsJ9_floorDiv_f86c9) := goodIn_app (goodIn_of _ (by decide +kernel)) ggX11_order_J9_floorDiv_f86c9
set_option maxRecDepth 20000 in
theorem gX11_order_J9_floorMod_f86c9 : GoodIn wsX11_order (va_wsS RX11 164 yJ9_floorMod_f86c9 wsJ9_floorMod_f86c9) := goodIn_app (goodIn_of _ (by decide +kernel)) ggX11_order_J9_floorMod_f86c9
theorem hs_J9_floorDiv_f86c9 : yJ9_floorDiv_f86c9.cls ≠ "java/lang/invoke/MethodHandle" ∧ yJ9_floorDiv_f86c9.cls ≠ "java/lang/invoke/VarHandle" ∧ (parseMethodDescriptor yJ9_floorDiv_f86c9.desc).map (fun d => d.parameters.length) = some 2 := by decide +kernel
theorem hs_J9_floorMod_f86c9 : yJ9_floorMod_f86c9.cls ≠ "java/lang/invoke/MethodHandle" ∧ yJ9_floorMod_f86c9.cls ≠ "java/lang/invoke/VarHandle" ∧ (parseMethodDescriptor yJ9_floorMod_f86c9.desc).map (fun d => d.parameters.length) = some 2 := by decide +kernel
set_option maxRecDepth 20000 in
theorem in_X11_order_X11 : ∀ w ∈ wsX110, w ∈ wsX11_order := sub_r [10, 11, 12, 13, 14, 15] rfl
set_option maxHeartbeats 4000000 in
set_option maxRecDepth 100000 in
theorem c_X11_order (l : Launch) (D : va_G) (T : Nat → ClassId) (h0 : Nat) (fs0 : List Value) (h1 : Nat) (f1 : Nat → Int64) (h2 : Nat) (f2 : Nat → Int64) (x1 : Int32) (x2 : Int32) (e0_3 : fs0[3]? = some (.ref h1)) (e0_2 : fs0[2]? = some (.ref h2)) (hx1 : 0 ≤ x1.toInt ∧ x1.toInt < 676) (hx2 : 0 ≤ x2.toInt ∧ x2.toInt < 676) (ho1 : 1 ≤ (f1 (x1.toNatClampNeg)).toInt) (ho2 : 1 ≤ (f1 (x2.toNatClampNeg)).toInt) : Met l yX11_order wsX11_order ({ frames := 1, cells := 0, slots := 0, locals := 25 }) (pR [.ref h0, .int x1, .int x2] D T [(h0, .inr (8, fs0)), (h1, .inl (T 1, 676, .inr (.inl f1))), (h2, .inl (T 1, 676, .inr (.inl f2)))]) (vp_Si (fun r => r.toInt = cmpW (f2 (x1.toNatClampNeg)).toInt (f1 (x1.toNatClampNeg)).toInt (f2 (x2.toNatClampNeg)).toInt (f1 (x2.toNatClampNeg)).toInt)) 0 0 (fun _ => False) := by
  refine Met.ofW (cc := cX11_order) (maxL := 21) (ret := (some .int)) (by decide +kernel) rfl ?_
  intro p e s m args below meth c s₁ B hml hv
  obtain ⟨rfl, hP, hE⟩ := hv
  have hx := B.exec
  have hb := B.bytes
  have hr := B.returns
  have hts := atoms_spec (ws := wsX11_order) B.pre
  have hown : s.vm.findClass RX11 = some m.cls := findClass_of_methodNamed B.named
  have hlocks := B.notSynchronized
  have hP : va_P D vwCl [(h0, .inr (8, fs0)), (h1, .inl (T 1, 676, .inr (.inl f1))), (h2, .inl (T 1, 676, .inr (.inl f2)))] s.heap := hP
  have hl := lv_entry ([.ref h0, .int x1, .int x2]) (n := 21) (Nat.le_of_ble_eq_true rfl)
  rw [lg_entry_eq]
  generalize (lg_sl ([.ref h0, .int x1, .int x2]) ++ List.replicate (21 - (lg_sl ([.ref h0, .int x1, .int x2])).length) Slot.unset).toArray = ls at hl ⊢
  have hl : lv_has ls 21 [(0, .ref h0), (1, .int x1), (2, .int x2)] := hl
  refine lv_aload_n hx hb dX11_order_0 rfl (lv_at hl 0 rfl) ?_
  refine va_get (D := D) (ci := 8) (v := .ref h2) (C := RX11) (T := TX11) (N := 6) hx hb hts in_X11_order_X11 hown hE.1 hP 0 rfl rfl 2 (by decide +kernel) (hts (.fieldLink RX11 11 "ClauseBook$Worth" "above" "[J") (List.mem_of_getElem? (i := 1) rfl)) (fun _ h9 => h9) e0_2 dX11_order_1 ?_
  refine lv_iload_n hx hb dX11_order_4 rfl (lv_at hl 1 rfl) ?_
  refine va_lald hx hb hE.1 hP 2 1 rfl rfl (by rw [vp_in_iff]; omega) dX11_order_5 ?_
  refine lv_topl (fun z_1 ez_1 => ?_)
  refine lv_lstore_n (lv' := [(3, .long z_1), (0, .ref h0), (1, .int x1), (2, .int x2)]) hx hb dX11_order_6 rfl hl (by decide +kernel) rfl (fun ls hl => ?_)
  refine lv_aload_n hx hb dX11_order_7 rfl (lv_at hl 1 rfl) ?_
  refine va_get (D := D) (ci := 8) (v := .ref h1) (C := RX11) (T := TX11) (N := 6) hx hb hts in_X11_order_X11 hown hE.1 hP 0 rfl rfl 3 (by decide +kernel) (hts (.fieldLink RX11 15 "ClauseBook$Worth" "below" "[J") (List.mem_of_getElem? (i := 2) rfl)) (fun _ h9 => h9) e0_3 dX11_order_8 ?_
  refine lv_iload_n hx hb dX11_order_11 rfl (lv_at hl 2 rfl) ?_
  refine va_lald hx hb hE.1 hP 1 1 rfl rfl (by rw [vp_in_iff]; omega) dX11_order_12 ?_
  refine lv_topl (fun z_2 ez_2 => ?_)
  refine lv_lstore (lv' := [(5, .long z_2), (3, .long z_1), (0, .ref h0), (1, .int x1), (2, .int x2)]) hx hb dX11_order_13 hl (by decide +kernel) rfl (fun ls hl => ?_)
  refine lv_aload_n hx hb dX11_order_15 rfl (lv_at hl 2 rfl) ?_
  refine va_get (D := D) (ci := 8) (v := .ref h2) (C := RX11) (T := TX11) (N := 6) hx hb hts in_X11_order_X11 hown hE.1 hP 0 rfl rfl 2 (by decide +kernel) (hts (.fieldLink RX11 11 "ClauseBook$Worth" "above" "[J") (List.mem_of_getElem? (i := 1) rfl)) (fun _ h9 => h9) e0_2 dX11_order_16 ?_
  refine lv_iload_n hx hb dX11_order_19 rfl (lv_at hl 4 rfl) ?_
  refine va_lald hx hb hE.1 hP 2 1 rfl rfl (by rw [vp_in_iff]; omega) dX11_order_20 ?_
  refine lv_topl (fun z_3 ez_3 => ?_)
  refine lv_lstore (lv' := [(7, .long z_3), (5, .long z_2), (3, .long z_1), (0, .ref h0), (1, .int x1), (2, .int x2)]) hx hb dX11_order_21 hl (by decide +kernel) rfl (fun ls hl => ?_)
  refine lv_aload_n hx hb dX11_order_23 rfl (lv_at hl 3 rfl) ?_
  refine va_get (D := D) (ci := 8) (v := .ref h1) (C := RX11) (T := TX11) (N := 6) hx hb hts in_X11_order_X11 hown hE.1 hP 0 rfl rfl 3 (by decide +kernel) (hts (.fieldLink RX11 15 "ClauseBook$Worth" "below" "[J") (List.mem_of_getElem? (i := 2) rfl)) (fun _ h9 => h9) e0_3 dX11_order_24 ?_
  refine lv_iload_n hx hb dX11_order_27 rfl (lv_at hl 5 rfl) ?_
  refine va_lald hx hb hE.1 hP 1 1 rfl rfl (by rw [vp_in_iff]; omega) dX11_order_28 ?_
  refine lv_topl (fun z_4 ez_4 => ?_)
  refine lv_lstore (lv' := [(9, .long z_4), (7, .long z_3), (5, .long z_2), (3, .long z_1), (0, .ref h0), (1, .int x1), (2, .int x2)]) hx hb dX11_order_29 hl (by decide +kernel) rfl (fun ls hl => ?_)
  refine lv_iconst (v := 1) hx hb dX11_order_31 (by decide +kernel) ?_
  refine lv_istore (lv' := [(11, .int 1), (9, .long z_4), (7, .long z_3), (5, .long z_2), (3, .long z_1), (0, .ref h0), (1, .int x1), (2, .int x2)]) hx hb dX11_order_32 hl (by decide +kernel) rfl (fun ls hl => ?_)
  refine lv_iconst (v := 0) hx hb dX11_order_34 (by decide +kernel) ?_
  refine lv_istore (lv' := [(12, .int 0), (11, .int 1), (9, .long z_4), (7, .long z_3), (5, .long z_2), (3, .long z_1), (0, .ref h0), (1, .int x1), (2, .int x2)]) hx hb dX11_order_35 hl (by decide +kernel) rfl (fun ls hl => ?_)
  refine loopR (σ := (Int32) × (Int32) × (Int64) × (Int64) × (Int64) × (Int64)) (fun x9 ls => lv_has ls 21 [(12, .int x9.1), (11, .int x9.2.1), (9, .long x9.2.2.1), (7, .long x9.2.2.2.1), (5, .long x9.2.2.2.2.1), (3, .long x9.2.2.2.2.2), (0, .ref h0), (1, .int x1), (2, .int x2)] ∧ (ordI (cmpW (f2 (x1.toNatClampNeg)).toInt (f1 (x1.toNatClampNeg)).toInt (f2 (x2.toNatClampNeg)).toInt (f1 (x2.toNatClampNeg)).toInt) x9.1 x9.2.1 x9.2.2.1 x9.2.2.2.1 x9.2.2.2.2.1 x9.2.2.2.2.2)) (fun x9 => (200 - x9.1.toInt).toNat) (fun x9 ls hI ih => ?_) (0, 1, z_4, z_3, z_2, z_1) ls ⟨lv_sub hl [0, 1, 2, 3, 4, 5, 6, 7, 8] rfl, (by (try dsimp only); rw [← ez_1, ← ez_2, ← ez_3, ← ez_4]; exact ord_init (by rw [ez_2]; exact ho1) (by rw [ez_4]; exact ho2))⟩
  obtain ⟨ii, mo, ww, vv, yy, xx⟩ := x9
  obtain ⟨hl, hinv⟩ := hI
  have hl : lv_has ls 21 [(12, .int ii), (11, .int mo), (9, .long ww), (7, .long vv), (5, .long yy), (3, .long xx), (0, .ref h0), (1, .int x1), (2, .int x2)] := hl
  have hinv : ordI (cmpW (f2 (x1.toNatClampNeg)).toInt (f1 (x1.toNatClampNeg)).toInt (f2 (x2.toNatClampNeg)).toInt (f1 (x2.toNatClampNeg)).toInt) ii mo ww vv yy xx := hinv
  have hoa := hinv.1
  have hob := hinv.2.1
  refine lv_iload hx hb dX11_order_37 (lv_at hl 0 rfl) ?_
  refine lv_sipush (v := 200) hx hb dX11_order_39 (by decide +kernel) ?_
  refine lv_icmp_ge (tgt := 192) hx hb dX11_order_42 (by decide +kernel) (fun c_5 => ?_) (fun c_5 => ?_)
  · rw [fa_le] at c_5
    try rw [ti_200] at c_5
    refine lv_iconst (v := 0) hx hb dX11_order_192 (by decide +kernel) ?_
    exact W.iret hx hb hr (fun t ht hW => ⟨_, rfl, (by exfalso; exact ord_end hinv (by omega)), ht⟩) (fun _ h => by cases h) dX11_order_193
  · rw [fa_le] at c_5
    try rw [ti_200] at c_5
    refine lv_lload hx hb dX11_order_45 (lv_at hl 4 rfl) ?_
    refine lv_lconst (v := 0) hx hb dX11_order_47 (by decide +kernel) ?_
    refine W.lcmp hx hb dX11_order_48 ?_
    refine lv_if_le (tgt := 59) hx hb dX11_order_49 (by decide +kernel) (fun c_6 => ?_) (fun c_6 => ?_)
    · rw [lcmp_le] at c_6
      try rw [tl_0] at c_6
      refine lv_iconst (v := 0) hx hb dX11_order_59 (by decide +kernel) ?_
      exact W.iret hx hb hr (fun t ht hW => ⟨_, rfl, (by exfalso; omega), ht⟩) (fun _ h => by cases h) dX11_order_60
    · rw [lcmp_le] at c_6
      try rw [tl_0] at c_6
      refine lv_lload hx hb dX11_order_52 (lv_at hl 2 rfl) ?_
      refine lv_lconst (v := 0) hx hb dX11_order_54 (by decide +kernel) ?_
      refine W.lcmp hx hb dX11_order_55 ?_
      refine lv_if_gt (tgt := 61) hx hb dX11_order_56 (by decide +kernel) (fun c_7 => ?_) (fun c_7 => ?_)
      · rw [lcmp_gt] at c_7
        try rw [tl_0] at c_7
        refine lv_lload_n hx hb dX11_order_61 rfl (lv_at hl 5 rfl) ?_
        refine lv_lload hx hb dX11_order_62 (lv_at hl 4 rfl) ?_
        refine vp_callSl (W.runS (As := [.long xx, .long yy]) (rest := []) ⟨hx, hb, hml, hown, hts⟩ (c_J9_floorDiv_f86c9 l D T xx yy (by omega)) (va_cwS 2 hts gX11_order_J9_floorDiv_f86c9 rfl rfl rfl hs_J9_floorDiv_f86c9 ⟨Nat.le_of_ble_eq_true rfl, Nat.le_of_ble_eq_true rfl⟩) (pR_S hP hE [] rfl) rfl rfl hl.1 rfl (lv_room (Nat.le_of_ble_eq_true rfl)) dX11_order_64 ⟨Nat.le_of_ble_eq_true rfl, Nat.le_of_ble_eq_true rfl⟩) (fun r_8 hr_8 => ?_)
        refine lv_lstore (lv' := [(13, .long r_8), (12, .int ii), (11, .int mo), (9, .long ww), (7, .long vv), (5, .long yy), (3, .long xx), (0, .ref h0), (1, .int x1), (2, .int x2)]) hx hb dX11_order_67 hl (by decide +kernel) rfl (fun ls hl => ?_)
        refine lv_lload hx hb dX11_order_69 (lv_at hl 4 rfl) ?_
        refine lv_lload hx hb dX11_order_71 (lv_at hl 3 rfl) ?_
        refine vp_callSl (W.runS (As := [.long vv, .long ww]) (rest := []) ⟨hx, hb, hml, hown, hts⟩ (c_J9_floorDiv_f86c9 l D T vv ww (by omega)) (va_cwS 2 hts gX11_order_J9_floorDiv_f86c9 rfl rfl rfl hs_J9_floorDiv_f86c9 ⟨Nat.le_of_ble_eq_true rfl, Nat.le_of_ble_eq_true rfl⟩) (pR_S hP hE [] rfl) rfl rfl hl.1 rfl (lv_room (Nat.le_of_ble_eq_true rfl)) dX11_order_73 ⟨Nat.le_of_ble_eq_true rfl, Nat.le_of_ble_eq_true rfl⟩) (fun r_9 hr_9 => ?_)
        refine lv_lstore (lv' := [(15, .long r_9), (13, .long r_8), (12, .int ii), (11, .int mo), (9, .long ww), (7, .long vv), (5, .long yy), (3, .long xx), (0, .ref h0), (1, .int x1), (2, .int x2)]) hx hb dX11_order_76 hl (by decide +kernel) rfl (fun ls hl => ?_)
        refine lv_lload hx hb dX11_order_78 (lv_at hl 1 rfl) ?_
        refine lv_lload hx hb dX11_order_80 (lv_at hl 0 rfl) ?_
        refine W.lcmp hx hb dX11_order_82 ?_
        refine lv_if_eq (tgt := 103) hx hb dX11_order_83 (by decide +kernel) (fun c_10 => ?_) (fun c_10 => ?_)
        · rw [lcmp_eq] at c_10
          refine lv_lload_n hx hb dX11_order_103 rfl (lv_at hl 7 rfl) ?_
          refine lv_lload hx hb dX11_order_104 (lv_at hl 6 rfl) ?_
          refine vp_callSl (W.runS (As := [.long xx, .long yy]) (rest := []) ⟨hx, hb, hml, hown, hts⟩ (c_J9_floorMod_f86c9 l D T xx yy (by omega)) (va_cwS 2 hts gX11_order_J9_floorMod_f86c9 rfl rfl rfl hs_J9_floorMod_f86c9 ⟨Nat.le_of_ble_eq_true rfl, Nat.le_of_ble_eq_true rfl⟩) (pR_S hP hE [] rfl) rfl rfl hl.1 rfl (lv_room (Nat.le_of_ble_eq_true rfl)) dX11_order_106 ⟨Nat.le_of_ble_eq_true rfl, Nat.le_of_ble_eq_true rfl⟩) (fun r_11 hr_11 => ?_)
          refine lv_lstore (lv' := [(17, .long r_11), (15, .long r_9), (13, .long r_8), (12, .int ii), (11, .int mo), (9, .long ww), (7, .long vv), (5, .long yy), (3, .long xx), (0, .ref h0), (1, .int x1), (2, .int x2)]) hx hb dX11_order_109 hl (by decide +kernel) rfl (fun ls hl => ?_)
          refine lv_lload hx hb dX11_order_111 (lv_at hl 6 rfl) ?_
          refine lv_lload hx hb dX11_order_113 (lv_at hl 5 rfl) ?_
          refine vp_callSl (W.runS (As := [.long vv, .long ww]) (rest := []) ⟨hx, hb, hml, hown, hts⟩ (c_J9_floorMod_f86c9 l D T vv ww (by omega)) (va_cwS 2 hts gX11_order_J9_floorMod_f86c9 rfl rfl rfl hs_J9_floorMod_f86c9 ⟨Nat.le_of_ble_eq_true rfl, Nat.le_of_ble_eq_true rfl⟩) (pR_S hP hE [] rfl) rfl rfl hl.1 rfl (lv_room (Nat.le_of_ble_eq_true rfl)) dX11_order_115 ⟨Nat.le_of_ble_eq_true rfl, Nat.le_of_ble_eq_true rfl⟩) (fun r_12 hr_12 => ?_)
          refine lv_lstore (lv' := [(19, .long r_12), (17, .long r_11), (15, .long r_9), (13, .long r_8), (12, .int ii), (11, .int mo), (9, .long ww), (7, .long vv), (5, .long yy), (3, .long xx), (0, .ref h0), (1, .int x1), (2, .int x2)]) hx hb dX11_order_118 hl (by decide +kernel) rfl (fun ls hl => ?_)
          refine lv_lload hx hb dX11_order_120 (lv_at hl 1 rfl) ?_
          refine lv_lconst (v := 0) hx hb dX11_order_122 (by decide +kernel) ?_
          refine W.lcmp hx hb dX11_order_123 ?_
          refine lv_if_ne (tgt := 136) hx hb dX11_order_124 (by decide +kernel) (fun c_13 => ?_) (fun c_13 => ?_)
          · rw [lcmp_eq] at c_13
            try rw [tl_0] at c_13
            refine lv_lload hx hb dX11_order_136 (lv_at hl 1 rfl) ?_
            refine lv_lconst (v := 0) hx hb dX11_order_138 (by decide +kernel) ?_
            refine W.lcmp hx hb dX11_order_139 ?_
            refine lv_if_eq (tgt := 150) hx hb dX11_order_140 (by decide +kernel) (fun c_14 => ?_) (fun c_14 => ?_)
            · rw [lcmp_eq] at c_14
              try rw [tl_0] at c_14
              refine lv_lload hx hb dX11_order_150 (lv_at hl 0 rfl) ?_
              refine lv_lconst (v := 0) hx hb dX11_order_152 (by decide +kernel) ?_
              refine W.lcmp hx hb dX11_order_153 ?_
              refine lv_if_ne (tgt := 162) hx hb dX11_order_154 (by decide +kernel) (fun c_15 => ?_) (fun c_15 => ?_)
              · rw [lcmp_eq] at c_15
                try rw [tl_0] at c_15
                refine lv_iload hx hb dX11_order_162 (lv_at hl 5 rfl) ?_
                refine lv_ineg hx hb dX11_order_164 ?_
                exact W.iret hx hb hr (fun t ht hW => ⟨_, rfl, (ord_r hinv (by rw [← hr_8, ← hr_9]; omega) hr_11 hr_12 (by omega) (by omega)), ht⟩) (fun _ h => by cases h) dX11_order_165
              · rw [lcmp_eq] at c_15
                try rw [tl_0] at c_15
                refine lv_iload hx hb dX11_order_157 (lv_at hl 5 rfl) ?_
                refine lv_goto (tgt := 165) hx hb dX11_order_159 (by decide +kernel) ?_
                exact W.iret hx hb hr (fun t ht hW => ⟨_, rfl, (ord_s hinv (by rw [← hr_8, ← hr_9]; omega) hr_11 hr_12 (by omega) (by omega)), ht⟩) (fun _ h => by cases h) dX11_order_165
            · rw [lcmp_eq] at c_14
              try rw [tl_0] at c_14
              refine lv_lload hx hb dX11_order_143 (lv_at hl 0 rfl) ?_
              refine lv_lconst (v := 0) hx hb dX11_order_145 (by decide +kernel) ?_
              refine W.lcmp hx hb dX11_order_146 ?_
              refine lv_if_ne (tgt := 166) hx hb dX11_order_147 (by decide +kernel) (fun c_16 => ?_) (fun c_16 => ?_)
              · rw [lcmp_eq] at c_16
                try rw [tl_0] at c_16
                refine lv_lload hx hb dX11_order_166 (lv_at hl 8 rfl) ?_
                refine lv_lstore_n (lv' := [(3, .long yy), (19, .long r_12), (17, .long r_11), (15, .long r_9), (13, .long r_8), (12, .int ii), (11, .int mo), (9, .long ww), (7, .long vv), (5, .long yy), (0, .ref h0), (1, .int x1), (2, .int x2)]) hx hb dX11_order_168 rfl hl (by decide +kernel) rfl (fun ls hl => ?_)
                refine lv_lload hx hb dX11_order_169 (lv_at hl 2 rfl) ?_
                refine lv_lstore (lv' := [(5, .long r_11), (3, .long yy), (19, .long r_12), (17, .long r_11), (15, .long r_9), (13, .long r_8), (12, .int ii), (11, .int mo), (9, .long ww), (7, .long vv), (0, .ref h0), (1, .int x1), (2, .int x2)]) hx hb dX11_order_171 hl (by decide +kernel) rfl (fun ls hl => ?_)
                refine lv_lload hx hb dX11_order_173 (lv_at hl 8 rfl) ?_
                refine lv_lstore (lv' := [(7, .long ww), (5, .long r_11), (3, .long yy), (19, .long r_12), (17, .long r_11), (15, .long r_9), (13, .long r_8), (12, .int ii), (11, .int mo), (9, .long ww), (0, .ref h0), (1, .int x1), (2, .int x2)]) hx hb dX11_order_175 hl (by decide +kernel) rfl (fun ls hl => ?_)
                refine lv_lload hx hb dX11_order_177 (lv_at hl 3 rfl) ?_
                refine lv_lstore (lv' := [(9, .long r_12), (7, .long ww), (5, .long r_11), (3, .long yy), (19, .long r_12), (17, .long r_11), (15, .long r_9), (13, .long r_8), (12, .int ii), (11, .int mo), (0, .ref h0), (1, .int x1), (2, .int x2)]) hx hb dX11_order_179 hl (by decide +kernel) rfl (fun ls hl => ?_)
                refine lv_iload hx hb dX11_order_181 (lv_at hl 9 rfl) ?_
                refine lv_ineg hx hb dX11_order_183 ?_
                refine lv_istore (lv' := [(11, .int (-mo)), (9, .long r_12), (7, .long ww), (5, .long r_11), (3, .long yy), (19, .long r_12), (17, .long r_11), (15, .long r_9), (13, .long r_8), (12, .int ii), (0, .ref h0), (1, .int x1), (2, .int x2)]) hx hb dX11_order_184 hl (by decide +kernel) rfl (fun ls hl => ?_)
                obtain ⟨z_17, ez_17⟩ : ∃ y : Int32, y = ii + 1 := ⟨_, rfl⟩
                refine lv_iinc (v := z_17) (lv' := [(12, .int z_17), (11, .int (-mo)), (9, .long r_12), (7, .long ww), (5, .long r_11), (3, .long yy), (19, .long r_12), (17, .long r_11), (15, .long r_9), (13, .long r_8), (0, .ref h0), (1, .int x1), (2, .int x2)]) hx hb dX11_order_186 hl (k := 9) rfl (by rw [ez_17]; rfl) (by decide +kernel) rfl (fun ls hl => ?_)
                refine lv_goto (tgt := 37) hx hb dX11_order_189 (by decide +kernel) ?_
                exact ih (z_17, (-mo), r_12, ww, r_11, yy) ls ⟨lv_sub hl [0, 1, 2, 3, 4, 5, 10, 11, 12] rfl, (ord_back hinv (by omega) (by rw [ez_17]; exact inc1 (n := 200) (by omega) (by decide +kernel)) (by rw [← hr_8, ← hr_9]; omega) hr_11 hr_12 (by omega) (by omega))⟩ (by (try dsimp only); have h9 : z_17.toInt = ii.toInt + 1 := (by rw [ez_17]; exact inc1 (n := 200) (by omega) (by decide +kernel)); omega)
              · rw [lcmp_eq] at c_16
                try rw [tl_0] at c_16
                refine lv_lload hx hb dX11_order_150 (lv_at hl 0 rfl) ?_
                refine lv_lconst (v := 0) hx hb dX11_order_152 (by decide +kernel) ?_
                refine W.lcmp hx hb dX11_order_153 ?_
                refine lv_if_ne (tgt := 162) hx hb dX11_order_154 (by decide +kernel) (fun c_18 => ?_) (fun c_18 => ?_)
                · rw [lcmp_eq] at c_18
                  try rw [tl_0] at c_18
                  refine lv_iload hx hb dX11_order_162 (lv_at hl 5 rfl) ?_
                  refine lv_ineg hx hb dX11_order_164 ?_
                  exact W.iret hx hb hr (fun t ht hW => ⟨_, rfl, (ord_r hinv (by rw [← hr_8, ← hr_9]; omega) hr_11 hr_12 (by omega) (by omega)), ht⟩) (fun _ h => by cases h) dX11_order_165
                · rw [lcmp_eq] at c_18
                  try rw [tl_0] at c_18
                  refine lv_iload hx hb dX11_order_157 (lv_at hl 5 rfl) ?_
                  refine lv_goto (tgt := 165) hx hb dX11_order_159 (by decide +kernel) ?_
                  exact W.iret hx hb hr (fun t ht hW => ⟨_, rfl, (ord_s hinv (by rw [← hr_8, ← hr_9]; omega) hr_11 hr_12 (by omega) (by omega)), ht⟩) (fun _ h => by cases h) dX11_order_165
          · rw [lcmp_eq] at c_13
            try rw [tl_0] at c_13
            refine lv_lload hx hb dX11_order_127 (lv_at hl 0 rfl) ?_
            refine lv_lconst (v := 0) hx hb dX11_order_129 (by decide +kernel) ?_
            refine W.lcmp hx hb dX11_order_130 ?_
            refine lv_if_ne (tgt := 136) hx hb dX11_order_131 (by decide +kernel) (fun c_19 => ?_) (fun c_19 => ?_)
            · rw [lcmp_eq] at c_19
              try rw [tl_0] at c_19
              refine lv_lload hx hb dX11_order_136 (lv_at hl 1 rfl) ?_
              refine lv_lconst (v := 0) hx hb dX11_order_138 (by decide +kernel) ?_
              refine W.lcmp hx hb dX11_order_139 ?_
              refine lv_if_eq (tgt := 150) hx hb dX11_order_140 (by decide +kernel) (fun c_20 => ?_) (fun c_20 => ?_)
              · rw [lcmp_eq] at c_20
                try rw [tl_0] at c_20
                refine lv_lload hx hb dX11_order_150 (lv_at hl 0 rfl) ?_
                refine lv_lconst (v := 0) hx hb dX11_order_152 (by decide +kernel) ?_
                refine W.lcmp hx hb dX11_order_153 ?_
                refine lv_if_ne (tgt := 162) hx hb dX11_order_154 (by decide +kernel) (fun c_21 => ?_) (fun c_21 => ?_)
                · rw [lcmp_eq] at c_21
                  try rw [tl_0] at c_21
                  refine lv_iload hx hb dX11_order_162 (lv_at hl 5 rfl) ?_
                  refine lv_ineg hx hb dX11_order_164 ?_
                  exact W.iret hx hb hr (fun t ht hW => ⟨_, rfl, (ord_r hinv (by rw [← hr_8, ← hr_9]; omega) hr_11 hr_12 (by omega) (by omega)), ht⟩) (fun _ h => by cases h) dX11_order_165
                · rw [lcmp_eq] at c_21
                  try rw [tl_0] at c_21
                  refine lv_iload hx hb dX11_order_157 (lv_at hl 5 rfl) ?_
                  refine lv_goto (tgt := 165) hx hb dX11_order_159 (by decide +kernel) ?_
                  exact W.iret hx hb hr (fun t ht hW => ⟨_, rfl, (ord_s hinv (by rw [← hr_8, ← hr_9]; omega) hr_11 hr_12 (by omega) (by omega)), ht⟩) (fun _ h => by cases h) dX11_order_165
              · rw [lcmp_eq] at c_20
                try rw [tl_0] at c_20
                refine lv_lload hx hb dX11_order_143 (lv_at hl 0 rfl) ?_
                refine lv_lconst (v := 0) hx hb dX11_order_145 (by decide +kernel) ?_
                refine W.lcmp hx hb dX11_order_146 ?_
                refine lv_if_ne (tgt := 166) hx hb dX11_order_147 (by decide +kernel) (fun c_22 => ?_) (fun c_22 => ?_)
                · rw [lcmp_eq] at c_22
                  try rw [tl_0] at c_22
                  refine lv_lload hx hb dX11_order_166 (lv_at hl 8 rfl) ?_
                  refine lv_lstore_n (lv' := [(3, .long yy), (19, .long r_12), (17, .long r_11), (15, .long r_9), (13, .long r_8), (12, .int ii), (11, .int mo), (9, .long ww), (7, .long vv), (5, .long yy), (0, .ref h0), (1, .int x1), (2, .int x2)]) hx hb dX11_order_168 rfl hl (by decide +kernel) rfl (fun ls hl => ?_)
                  refine lv_lload hx hb dX11_order_169 (lv_at hl 2 rfl) ?_
                  refine lv_lstore (lv' := [(5, .long r_11), (3, .long yy), (19, .long r_12), (17, .long r_11), (15, .long r_9), (13, .long r_8), (12, .int ii), (11, .int mo), (9, .long ww), (7, .long vv), (0, .ref h0), (1, .int x1), (2, .int x2)]) hx hb dX11_order_171 hl (by decide +kernel) rfl (fun ls hl => ?_)
                  refine lv_lload hx hb dX11_order_173 (lv_at hl 8 rfl) ?_
                  refine lv_lstore (lv' := [(7, .long ww), (5, .long r_11), (3, .long yy), (19, .long r_12), (17, .long r_11), (15, .long r_9), (13, .long r_8), (12, .int ii), (11, .int mo), (9, .long ww), (0, .ref h0), (1, .int x1), (2, .int x2)]) hx hb dX11_order_175 hl (by decide +kernel) rfl (fun ls hl => ?_)
                  refine lv_lload hx hb dX11_order_177 (lv_at hl 3 rfl) ?_
                  refine lv_lstore (lv' := [(9, .long r_12), (7, .long ww), (5, .long r_11), (3, .long yy), (19, .long r_12), (17, .long r_11), (15, .long r_9), (13, .long r_8), (12, .int ii), (11, .int mo), (0, .ref h0), (1, .int x1), (2, .int x2)]) hx hb dX11_order_179 hl (by decide +kernel) rfl (fun ls hl => ?_)
                  refine lv_iload hx hb dX11_order_181 (lv_at hl 9 rfl) ?_
                  refine lv_ineg hx hb dX11_order_183 ?_
                  refine lv_istore (lv' := [(11, .int (-mo)), (9, .long r_12), (7, .long ww), (5, .long r_11), (3, .long yy), (19, .long r_12), (17, .long r_11), (15, .long r_9), (13, .long r_8), (12, .int ii), (0, .ref h0), (1, .int x1), (2, .int x2)]) hx hb dX11_order_184 hl (by decide +kernel) rfl (fun ls hl => ?_)
                  obtain ⟨z_23, ez_23⟩ : ∃ y : Int32, y = ii + 1 := ⟨_, rfl⟩
                  refine lv_iinc (v := z_23) (lv' := [(12, .int z_23), (11, .int (-mo)), (9, .long r_12), (7, .long ww), (5, .long r_11), (3, .long yy), (19, .long r_12), (17, .long r_11), (15, .long r_9), (13, .long r_8), (0, .ref h0), (1, .int x1), (2, .int x2)]) hx hb dX11_order_186 hl (k := 9) rfl (by rw [ez_23]; rfl) (by decide +kernel) rfl (fun ls hl => ?_)
                  refine lv_goto (tgt := 37) hx hb dX11_order_189 (by decide +kernel) ?_
                  exact ih (z_23, (-mo), r_12, ww, r_11, yy) ls ⟨lv_sub hl [0, 1, 2, 3, 4, 5, 10, 11, 12] rfl, (ord_back hinv (by omega) (by rw [ez_23]; exact inc1 (n := 200) (by omega) (by decide +kernel)) (by rw [← hr_8, ← hr_9]; omega) hr_11 hr_12 (by omega) (by omega))⟩ (by (try dsimp only); have h9 : z_23.toInt = ii.toInt + 1 := (by rw [ez_23]; exact inc1 (n := 200) (by omega) (by decide +kernel)); omega)
                · rw [lcmp_eq] at c_22
                  try rw [tl_0] at c_22
                  refine lv_lload hx hb dX11_order_150 (lv_at hl 0 rfl) ?_
                  refine lv_lconst (v := 0) hx hb dX11_order_152 (by decide +kernel) ?_
                  refine W.lcmp hx hb dX11_order_153 ?_
                  refine lv_if_ne (tgt := 162) hx hb dX11_order_154 (by decide +kernel) (fun c_24 => ?_) (fun c_24 => ?_)
                  · rw [lcmp_eq] at c_24
                    try rw [tl_0] at c_24
                    refine lv_iload hx hb dX11_order_162 (lv_at hl 5 rfl) ?_
                    refine lv_ineg hx hb dX11_order_164 ?_
                    exact W.iret hx hb hr (fun t ht hW => ⟨_, rfl, (ord_r hinv (by rw [← hr_8, ← hr_9]; omega) hr_11 hr_12 (by omega) (by omega)), ht⟩) (fun _ h => by cases h) dX11_order_165
                  · rw [lcmp_eq] at c_24
                    try rw [tl_0] at c_24
                    refine lv_iload hx hb dX11_order_157 (lv_at hl 5 rfl) ?_
                    refine lv_goto (tgt := 165) hx hb dX11_order_159 (by decide +kernel) ?_
                    exact W.iret hx hb hr (fun t ht hW => ⟨_, rfl, (ord_s hinv (by rw [← hr_8, ← hr_9]; omega) hr_11 hr_12 (by omega) (by omega)), ht⟩) (fun _ h => by cases h) dX11_order_165
            · rw [lcmp_eq] at c_19
              try rw [tl_0] at c_19
              refine lv_iconst (v := 0) hx hb dX11_order_134 (by decide +kernel) ?_
              exact W.iret hx hb hr (fun t ht hW => ⟨_, rfl, (ord_0 hinv (by rw [← hr_8, ← hr_9]; omega) hr_11 hr_12 (by omega) (by omega)), ht⟩) (fun _ h => by cases h) dX11_order_135
        · rw [lcmp_eq] at c_10
          refine lv_lload hx hb dX11_order_86 (lv_at hl 1 rfl) ?_
          refine lv_lload hx hb dX11_order_88 (lv_at hl 0 rfl) ?_
          refine W.lcmp hx hb dX11_order_90 ?_
          refine lv_if_le (tgt := 99) hx hb dX11_order_91 (by decide +kernel) (fun c_25 => ?_) (fun c_25 => ?_)
          · rw [lcmp_le] at c_25
            refine lv_iload hx hb dX11_order_99 (lv_at hl 3 rfl) ?_
            refine lv_ineg hx hb dX11_order_101 ?_
            exact W.iret hx hb hr (fun t ht hW => ⟨_, rfl, (ord_lt hinv hr_8 hr_9 (by omega)), ht⟩) (fun _ h => by cases h) dX11_order_102
          · rw [lcmp_le] at c_25
            refine lv_iload hx hb dX11_order_94 (lv_at hl 3 rfl) ?_
            refine lv_goto (tgt := 102) hx hb dX11_order_96 (by decide +kernel) ?_
            exact W.iret hx hb hr (fun t ht hW => ⟨_, rfl, (ord_gt hinv hr_8 hr_9 (by omega)), ht⟩) (fun _ h => by cases h) dX11_order_102
      · rw [lcmp_gt] at c_7
        try rw [tl_0] at c_7
        refine lv_iconst (v := 0) hx hb dX11_order_59 (by decide +kernel) ?_
        exact W.iret hx hb hr (fun t ht hW => ⟨_, rfl, (by exfalso; omega), ht⟩) (fun _ h => by cases h) dX11_order_60
theorem dX11_raise_0 : decode cX11_raise 0 = .ok (.aload_n 0, 1) := by decide +kernel
theorem dX11_raise_1 : decode cX11_raise 1 = .ok (.iload_n 1, 1) := by decide +kernel
theorem dX11_raise_10 : decode cX11_raise 10 = .ok (.invokevirtual 34, 3) := by decide +kernel
theorem dX11_raise_13 : decode cX11_raise 13 = .ok (.ifCond .eq 13, 3) := by decide +kernel
theorem dX11_raise_16 : decode cX11_raise 16 = .ok (.aload_n 0, 1) := by decide +kernel
theorem dX11_raise_17 : decode cX11_raise 17 = .ok (.iload_n 1, 1) := by decide +kernel
theorem dX11_raise_18 : decode cX11_raise 18 = .ok (.lconst 0, 1) := by decide +kernel
theorem dX11_raise_19 : decode cX11_raise 19 = .ok (.lconst 0, 1) := by decide +kernel
theorem dX11_raise_2 : decode cX11_raise 2 = .ok (.invokevirtual 34, 3) := by decide +kernel
theorem dX11_raise_20 : decode cX11_raise 20 = .ok (.invokevirtual 67, 3) := by decide +kernel
theorem dX11_raise_23 : decode cX11_raise 23 = .ok (.goto 18, 3) := by decide +kernel
theorem dX11_raise_26 : decode cX11_raise 26 = .ok (.aload_n 0, 1) := by decide +kernel
theorem dX11_raise_27 : decode cX11_raise 27 = .ok (.iload_n 2, 1) := by decide +kernel
theorem dX11_raise_28 : decode cX11_raise 28 = .ok (.iload_n 1, 1) := by decide +kernel
theorem dX11_raise_29 : decode cX11_raise 29 = .ok (.invokevirtual 114, 3) := by decide +kernel
theorem dX11_raise_32 : decode cX11_raise 32 = .ok (.ifCond .le 9, 3) := by decide +kernel
theorem dX11_raise_35 : decode cX11_raise 35 = .ok (.aload_n 0, 1) := by decide +kernel
theorem dX11_raise_36 : decode cX11_raise 36 = .ok (.iload_n 1, 1) := by decide +kernel
theorem dX11_raise_37 : decode cX11_raise 37 = .ok (.iload_n 2, 1) := by decide +kernel
theorem dX11_raise_38 : decode cX11_raise 38 = .ok (.invokevirtual 97, 3) := by decide +kernel
theorem dX11_raise_41 : decode cX11_raise 41 = .ok (.return_, 1) := by decide +kernel
theorem dX11_raise_5 : decode cX11_raise 5 = .ok (.ifCond .ne 11, 3) := by decide +kernel
theorem dX11_raise_8 : decode cX11_raise 8 = .ok (.aload_n 0, 1) := by decide +kernel
theorem dX11_raise_9 : decode cX11_raise 9 = .ok (.iload_n 2, 1) := by decide +kernel
set_option maxRecDepth 20000 in
theorem ggX11_raise_X11_assign : GoodIn wsX11_raise wsX11_assign := goodIn_r _ [10, 11, 6, 27, 28, 29, 30, 31, 32] rfl (by decide +kernel)
set_option maxRecDepth 20000 in
theorem ggX11_raise_X11_isMuch : GoodIn wsX11_raise wsX11_isMuch := goodIn_r _ [5, 6, 27, 28, 29, 30, 31, 32] rfl (by decide +kernel)
set_option maxRecDepth 20000 in
theorem ggX11_raise_X11_order : GoodIn wsX11_raise wsX11_order := goodIn_r _ [15, 11, 6, 16, 17, 18, 19, 20, 21, 22, 27, 28, 29, 30, 31, 32] rfl (by decide +kernel)
set_option maxRecDepth 20000 in
theorem ggX11_raise_X11_repeat : GoodIn wsX11_raise wsX11_repeat := goodIn_r _ [26, 11, 6, 7, 8, 9, 4, 10, 27, 28, 29, 30, 31, 32] rfl (by decide +kernel)
set_option maxRecDepth 20000 in
theorem gX11_raise_X11_assign : GoodIn wsX11_raise (wsV RX11 67 RX11 yX11_assign wsX11_assign) := goodIn_app (goodIn_r _ [7, 8, 9, 4] rfl (by decide +kernel)) ggX11_raise_X11_assign
set_option maxRecDepth 20000 in
theorem gX11_raise_X11_isMuch : GoodIn wsX11_raise (wsV RX11 34 RX11 yX11_isMuch wsX11_isMuch) := goodIn_app (goodIn_r _ [1, 2, 3, 4] rfl (by decide +kernel)) ggX11_raise_X11_isMuch
set_option maxRecDepth 20000 in
theorem gX11_raise_X11_order : GoodIn wsX11_raise (wsV RX11 114 RX11 yX11_order wsX11_order) := goodIn_app (goodIn_r _ [12, 13, 14, 4] rfl (by decide +kernel)) ggX11_raise_X11_order
set_option maxRecDepth 20000 in
theorem gX11_raise_X11_repeat : GoodIn wsX11_raise (wsV RX11 97 RX11 yX11_repeat wsX11_repeat) := goodIn_app (goodIn_r _ [23, 24, 25, 4] rfl (by decide +kernel)) ggX11_raise_X11_repeat
theorem hv_X11_order : yX11_order.cls = RX11 ∧ yX11_order.cls ≠ "java/lang/invoke/MethodHandle" ∧ yX11_order.cls ≠ "java/lang/invoke/VarHandle" ∧ (parseMethodDescriptor yX11_order.desc).map (fun d => d.parameters.length) = some 2 := by decide +kernel
theorem hv_X11_repeat : yX11_repeat.cls = RX11 ∧ yX11_repeat.cls ≠ "java/lang/invoke/MethodHandle" ∧ yX11_repeat.cls ≠ "java/lang/invoke/VarHandle" ∧ (parseMethodDescriptor yX11_repeat.desc).map (fun d => d.parameters.length) = some 2 := by decide +kernel
set_option maxHeartbeats 4000000 in
set_option maxRecDepth 100000 in
theorem c_X11_raise (l : Launch) (D : va_G) (T : Nat → ClassId) (sz : Nat) (h0 : Nat) (p0 : Nat) (p1 : Nat) (v0 : Value) (v1 : Value) (v4 : Value) (n : Int32) (f0 : Nat → Int64) (f1 : Nat → Int64) (x1 : Int32) (x2 : Int32) (hx1 : 0 ≤ x1.toInt ∧ x1.toInt < 676) (hx2 : 0 ≤ x2.toInt ∧ x2.toInt < 676) (hb1 : 0 ≤ (f1 (x1.toNatClampNeg)).toInt) (hb2 : 0 ≤ (f1 (x2.toNatClampNeg)).toInt) : Met l yX11_raise wsX11_raise ({ frames := 2, cells := 0, slots := 0, locals := 65 }) (pW [.ref h0, .int x1, .int x2] D T [(h0, .inr (8, [v0, v1, .ref p0, .ref p1, v4, .int n])), (p0, .inl (T 1, 676, .inr (.inl f0))), (p1, .inl (T 1, 676, .inr (.inl f1)))] sz) (va_Qv (fun (u : (Nat → Int64) × (Nat → Int64)) => u.1 = vp_updL f0 (x1.toNatClampNeg) (maxW ((f0 (x1.toNatClampNeg)), (f1 (x1.toNatClampNeg))) ((f0 (x2.toNatClampNeg)), (f1 (x2.toNatClampNeg)))).1 ∧ u.2 = vp_updL f1 (x1.toNatClampNeg) (maxW ((f0 (x1.toNatClampNeg)), (f1 (x1.toNatClampNeg))) ((f0 (x2.toNatClampNeg)), (f1 (x2.toNatClampNeg)))).2) (bW D (va_A [(h0, .inr (8, [v0, v1, .ref p0, .ref p1, v4, .int n])), (p0, .inl (T 1, 676, .inr (.inl f0))), (p1, .inl (T 1, 676, .inr (.inl f1)))] sz) (fun (u : (Nat → Int64) × (Nat → Int64)) => [(h0, .inr (8, [v0, v1, .ref p0, .ref p1, v4, .int n])), (p0, .inl (T 1, 676, .inr (.inl u.1))), (p1, .inl (T 1, 676, .inr (.inl u.2)))])) (va_A [(h0, .inr (8, [v0, v1, .ref p0, .ref p1, v4, .int n])), (p0, .inl (T 1, 676, .inr (.inl f0))), (p1, .inl (T 1, 676, .inr (.inl f1)))] sz)) 0 0 (va_A [(h0, .inr (8, [v0, v1, .ref p0, .ref p1, v4, .int n])), (p0, .inl (T 1, 676, .inr (.inl f0))), (p1, .inl (T 1, 676, .inr (.inl f1)))] sz) := by
  refine Met.ofW (cc := cX11_raise) (maxL := 3) (ret := none) (by decide +kernel) rfl ?_
  intro p e s m args below meth c s₁ B hml hv
  obtain ⟨rfl, hsz, hP, hE, hD0⟩ := hv
  have hx := B.exec
  have hb := B.bytes
  have hr := B.returns
  have hts := atoms_spec (ws := wsX11_raise) B.pre
  have hown : s.vm.findClass RX11 = some m.cls := findClass_of_methodNamed B.named
  have hlocks := B.notSynchronized
  subst hsz
  have hD := hD0.self (sz := s.heap.size)
  generalize hAe : va_A [(h0, .inr (8, [v0, v1, .ref p0, .ref p1, v4, .int n])), (p0, .inl (T 1, 676, .inr (.inl f0))), (p1, .inl (T 1, 676, .inr (.inl f1)))] s.heap.size = A at hD ⊢
  have hA : ∀ q : Nat, s.heap.size ≤ q → A q := fun q h => by rw [← hAe]; exact Or.inr h
  have hS : va_S A s.heap s.heap [] := va_S.rf
  have hP : va_P D vwCl [(h0, .inr (8, [v0, v1, .ref p0, .ref p1, v4, .int n])), (p0, .inl (T 1, 676, .inr (.inl f0))), (p1, .inl (T 1, 676, .inr (.inl f1)))] s.heap := hP
  have hl := lv_entry ([.ref h0, .int x1, .int x2]) (n := 3) (Nat.le_of_ble_eq_true rfl)
  rw [lg_entry_eq]
  generalize (lg_sl ([.ref h0, .int x1, .int x2]) ++ List.replicate (3 - (lg_sl ([.ref h0, .int x1, .int x2])).length) Slot.unset).toArray = ls at hl ⊢
  have hl : lv_has ls 3 [(0, .ref h0), (1, .int x1), (2, .int x2)] := hl
  clear hD0
  refine lv_aload_n hx hb dX11_raise_0 rfl (lv_at hl 0 rfl) ?_
  refine lv_iload_n hx hb dX11_raise_1 rfl (lv_at hl 1 rfl) ?_
  refine vp_callSi (W.runV (As := [.int x1]) (rest := []) ⟨hx, hb, hml, hown, hts⟩ (c_X11_isMuch l D T h0 [v0, v1, .ref p0, .ref p1, v4, .int n] p1 f1 x1 rfl (by first | decide | omega)) (cwV 1 hts gX11_raise_X11_isMuch rfl rfl rfl hv_X11_isMuch ⟨Nat.le_of_ble_eq_true rfl, Nat.le_of_ble_eq_true rfl⟩) (pR_V (q := (RX11, TX11, 6)) (ci := 8) (q0 := 0) hP hE rfl rfl [0, 2] rfl) rfl rfl hl.1 rfl (lv_room (Nat.le_of_ble_eq_true rfl)) dX11_raise_2 ⟨Nat.le_of_ble_eq_true rfl, Nat.le_of_ble_eq_true rfl⟩) (fun r_1 hr_1 => ?_)
  rcases bool_post hr_1 with ⟨c_2, rfl⟩ | ⟨c_2, rfl⟩
  · refine lv_if_ne (tgt := 16) hx hb dX11_raise_5 (by decide +kernel) (fun _ => ?_) (fun c9 => absurd c9 (by decide +kernel))
    refine lv_aload_n hx hb dX11_raise_16 rfl (lv_at hl 0 rfl) ?_
    refine lv_iload_n hx hb dX11_raise_17 rfl (lv_at hl 1 rfl) ?_
    refine lv_lconst (v := 0) hx hb dX11_raise_18 (by decide +kernel) ?_
    refine lv_lconst (v := 0) hx hb dX11_raise_19 (by decide +kernel) ?_
    have hFc := va_free (wc := [(h0, .inr (8, [v0, v1, .ref p0, .ref p1, v4, .int n])), (p0, .inl (T 1, 676, .inr (.inl f0))), (p1, .inl (T 1, 676, .inr (.inl f1)))]) hD hS hA [0, 1, 2] rfl
    refine va_callv (va_runV (As := [.int x1, .long 0, .long 0]) (rest := []) ⟨hx, hb, hml, hown, hts⟩ (c_X11_assign l D T _ h0 p0 p1 (v0) (v1) (v4) n f0 f1 x1 0 0 (by first | decide | omega)) (cwV 3 hts gX11_raise_X11_assign rfl rfl rfl hv_X11_assign ⟨Nat.le_of_ble_eq_true rfl, Nat.le_of_ble_eq_true rfl⟩) (pW_V (q := (RX11, TX11, 6)) (ci := 8) (q0 := 0) hP hE hD rfl rfl [0, 1, 2] (by decide +kernel) rfl rfl) rfl rfl hl.1 rfl (lv_room (Nat.le_of_ble_eq_true rfl)) dX11_raise_20 ⟨Nat.le_of_ble_eq_true rfl, Nat.le_of_ble_eq_true rfl⟩) hS (fun q _ h => hFc q h) hFc (fun u_4 t H1 locs ht hvm hr_3 hB hz1 hk1 hS => ?_)
    obtain ⟨f_5, f_6⟩ := u_4
    have hrd1 : f_5 = vp_updL f0 (x1.toNatClampNeg) (((0 : Int64), (0 : Int64))).1 := hr_3.1
    have hrd2 : f_6 = vp_updL f1 (x1.toNatClampNeg) (((0 : Int64), (0 : Int64))).2 := hr_3.2
    obtain ⟨hP1, hD1⟩ := hB
    rw [ht] at hP1
    obtain ⟨hP, hD⟩ := va_repl [(h0, .inr (8, [v0, v1, .ref p0, .ref p1, v4, .int n])), (p0, .inl (T 1, 676, .inr (.inl f_5))), (p1, .inl (T 1, 676, .inr (.inl f_6)))] hP hD [0, 1, 2] [0, 1, 2] rfl (by decide +kernel) rfl rfl rfl hk1 hP1
    clear hP1 hD1 hFc
    generalize H1 = H at hP hS ⊢
    refine lv_goto (tgt := 41) hx hb dX11_raise_23 (by decide +kernel) ?_
    exact W.vret hx hb hr (fun t ht hW => ⟨⟨(f_5, f_6), rfl, ⟨hrd1.trans (congrArg (fun q9 : Int64 × Int64 => vp_updL f0 (x1.toNatClampNeg) q9.1) (show ((0 : Int64), (0 : Int64)) = maxW ((f0 (x1.toNatClampNeg)), (f1 (x1.toNatClampNeg))) ((f0 (x2.toNatClampNeg)), (f1 (x2.toNatClampNeg))) from (maxW_much (by first | exact Or.inl (show (f1 (x1.toNatClampNeg)).toInt = 0 from by omega) | exact Or.inr (show (f1 (x2.toNatClampNeg)).toInt = 0 from by omega))).symm)), hrd2.trans (congrArg (fun q9 : Int64 × Int64 => vp_updL f1 (x1.toNatClampNeg) q9.2) (show ((0 : Int64), (0 : Int64)) = maxW ((f0 (x1.toNatClampNeg)), (f1 (x1.toNatClampNeg))) ((f0 (x2.toNatClampNeg)), (f1 (x2.toNatClampNeg))) from (maxW_much (by first | exact Or.inl (show (f1 (x1.toNatClampNeg)).toInt = 0 from by omega) | exact Or.inr (show (f1 (x2.toNatClampNeg)).toInt = 0 from by omega))).symm))⟩, by rw [ht]; exact hP.sub [0, 1, 2] rfl, hD.sub [0, 1, 2] (by decide +kernel) rfl⟩, hS.F ht⟩) hS.2.2 dX11_raise_41
  · refine lv_if_ne (tgt := 16) hx hb dX11_raise_5 (by decide +kernel) (fun c9 => absurd c9 (by decide +kernel)) (fun _ => ?_)
    refine lv_aload_n hx hb dX11_raise_8 rfl (lv_at hl 0 rfl) ?_
    refine lv_iload_n hx hb dX11_raise_9 rfl (lv_at hl 2 rfl) ?_
    refine vp_callSi (W.runV (As := [.int x2]) (rest := []) ⟨hx, hb, hml, hown, hts⟩ (c_X11_isMuch l D T h0 [v0, v1, .ref p0, .ref p1, v4, .int n] p1 f1 x2 rfl (by first | decide | omega)) (cwV 1 hts gX11_raise_X11_isMuch rfl rfl rfl hv_X11_isMuch ⟨Nat.le_of_ble_eq_true rfl, Nat.le_of_ble_eq_true rfl⟩) (pR_V (q := (RX11, TX11, 6)) (ci := 8) (q0 := 0) hP hE rfl rfl [0, 2] rfl) rfl rfl hl.1 rfl (lv_room (Nat.le_of_ble_eq_true rfl)) dX11_raise_10 ⟨Nat.le_of_ble_eq_true rfl, Nat.le_of_ble_eq_true rfl⟩) (fun r_7 hr_7 => ?_)
    rcases bool_post hr_7 with ⟨c_8, rfl⟩ | ⟨c_8, rfl⟩
    · refine lv_if_eq (tgt := 26) hx hb dX11_raise_13 (by decide +kernel) (fun c9 => absurd c9 (by decide +kernel)) (fun _ => ?_)
      refine lv_aload_n hx hb dX11_raise_16 rfl (lv_at hl 0 rfl) ?_
      refine lv_iload_n hx hb dX11_raise_17 rfl (lv_at hl 1 rfl) ?_
      refine lv_lconst (v := 0) hx hb dX11_raise_18 (by decide +kernel) ?_
      refine lv_lconst (v := 0) hx hb dX11_raise_19 (by decide +kernel) ?_
      have hFc := va_free (wc := [(h0, .inr (8, [v0, v1, .ref p0, .ref p1, v4, .int n])), (p0, .inl (T 1, 676, .inr (.inl f0))), (p1, .inl (T 1, 676, .inr (.inl f1)))]) hD hS hA [0, 1, 2] rfl
      refine va_callv (va_runV (As := [.int x1, .long 0, .long 0]) (rest := []) ⟨hx, hb, hml, hown, hts⟩ (c_X11_assign l D T _ h0 p0 p1 (v0) (v1) (v4) n f0 f1 x1 0 0 (by first | decide | omega)) (cwV 3 hts gX11_raise_X11_assign rfl rfl rfl hv_X11_assign ⟨Nat.le_of_ble_eq_true rfl, Nat.le_of_ble_eq_true rfl⟩) (pW_V (q := (RX11, TX11, 6)) (ci := 8) (q0 := 0) hP hE hD rfl rfl [0, 1, 2] (by decide +kernel) rfl rfl) rfl rfl hl.1 rfl (lv_room (Nat.le_of_ble_eq_true rfl)) dX11_raise_20 ⟨Nat.le_of_ble_eq_true rfl, Nat.le_of_ble_eq_true rfl⟩) hS (fun q _ h => hFc q h) hFc (fun u_10 t H1 locs ht hvm hr_9 hB hz1 hk1 hS => ?_)
      obtain ⟨f_11, f_12⟩ := u_10
      have hrd1 : f_11 = vp_updL f0 (x1.toNatClampNeg) (((0 : Int64), (0 : Int64))).1 := hr_9.1
      have hrd2 : f_12 = vp_updL f1 (x1.toNatClampNeg) (((0 : Int64), (0 : Int64))).2 := hr_9.2
      obtain ⟨hP1, hD1⟩ := hB
      rw [ht] at hP1
      obtain ⟨hP, hD⟩ := va_repl [(h0, .inr (8, [v0, v1, .ref p0, .ref p1, v4, .int n])), (p0, .inl (T 1, 676, .inr (.inl f_11))), (p1, .inl (T 1, 676, .inr (.inl f_12)))] hP hD [0, 1, 2] [0, 1, 2] rfl (by decide +kernel) rfl rfl rfl hk1 hP1
      clear hP1 hD1 hFc
      generalize H1 = H at hP hS ⊢
      refine lv_goto (tgt := 41) hx hb dX11_raise_23 (by decide +kernel) ?_
      exact W.vret hx hb hr (fun t ht hW => ⟨⟨(f_11, f_12), rfl, ⟨hrd1.trans (congrArg (fun q9 : Int64 × Int64 => vp_updL f0 (x1.toNatClampNeg) q9.1) (show ((0 : Int64), (0 : Int64)) = maxW ((f0 (x1.toNatClampNeg)), (f1 (x1.toNatClampNeg))) ((f0 (x2.toNatClampNeg)), (f1 (x2.toNatClampNeg))) from (maxW_much (by first | exact Or.inl (show (f1 (x1.toNatClampNeg)).toInt = 0 from by omega) | exact Or.inr (show (f1 (x2.toNatClampNeg)).toInt = 0 from by omega))).symm)), hrd2.trans (congrArg (fun q9 : Int64 × Int64 => vp_updL f1 (x1.toNatClampNeg) q9.2) (show ((0 : Int64), (0 : Int64)) = maxW ((f0 (x1.toNatClampNeg)), (f1 (x1.toNatClampNeg))) ((f0 (x2.toNatClampNeg)), (f1 (x2.toNatClampNeg))) from (maxW_much (by first | exact Or.inl (show (f1 (x1.toNatClampNeg)).toInt = 0 from by omega) | exact Or.inr (show (f1 (x2.toNatClampNeg)).toInt = 0 from by omega))).symm))⟩, by rw [ht]; exact hP.sub [0, 1, 2] rfl, hD.sub [0, 1, 2] (by decide +kernel) rfl⟩, hS.F ht⟩) hS.2.2 dX11_raise_41
    · refine lv_if_eq (tgt := 26) hx hb dX11_raise_13 (by decide +kernel) (fun _ => ?_) (fun c9 => absurd c9 (by decide +kernel))
      refine lv_aload_n hx hb dX11_raise_26 rfl (lv_at hl 0 rfl) ?_
      refine lv_iload_n hx hb dX11_raise_27 rfl (lv_at hl 2 rfl) ?_
      refine lv_iload_n hx hb dX11_raise_28 rfl (lv_at hl 1 rfl) ?_
      refine vp_callSi (W.runV (As := [.int x2, .int x1]) (rest := []) ⟨hx, hb, hml, hown, hts⟩ (c_X11_order l D T h0 [v0, v1, .ref p0, .ref p1, v4, .int n] p1 f1 p0 f0 x2 x1 rfl rfl (by first | decide | omega) (by first | decide | omega) (by first | omega | assumption | decide) (by first | omega | assumption | decide)) (cwV 2 hts gX11_raise_X11_order rfl rfl rfl hv_X11_order ⟨Nat.le_of_ble_eq_true rfl, Nat.le_of_ble_eq_true rfl⟩) (pR_V (q := (RX11, TX11, 6)) (ci := 8) (q0 := 0) hP hE rfl rfl [0, 2, 1] rfl) rfl rfl hl.1 rfl (lv_room (Nat.le_of_ble_eq_true rfl)) dX11_raise_29 ⟨Nat.le_of_ble_eq_true rfl, Nat.le_of_ble_eq_true rfl⟩) (fun r_13 hr_13 => ?_)
      refine lv_if_le (tgt := 41) hx hb dX11_raise_32 (by decide +kernel) (fun c_14 => ?_) (fun c_14 => ?_)
      · rw [fa_le] at c_14
        try rw [ti_0] at c_14
        exact W.vret hx hb hr (fun t ht hW => ⟨⟨(f0, f1), rfl, ⟨((congrArg (fun q9 : Int64 × Int64 => vp_updL f0 (x1.toNatClampNeg) q9.1) (show maxW ((f0 (x1.toNatClampNeg)), (f1 (x1.toNatClampNeg))) ((f0 (x2.toNatClampNeg)), (f1 (x2.toNatClampNeg))) = ((f0 (x1.toNatClampNeg)), (f1 (x1.toNatClampNeg))) from maxW_p (fun h9 => by rcases h9 with h9 | h9 <;> exact absurd h9 (by omega)) (show ¬ 0 < cmpP ((f0 (x2.toNatClampNeg)), (f1 (x2.toNatClampNeg))) ((f0 (x1.toNatClampNeg)), (f1 (x1.toNatClampNeg))) from by unfold cmpP; rw [← hr_13]; omega))).trans updL_self).symm, ((congrArg (fun q9 : Int64 × Int64 => vp_updL f1 (x1.toNatClampNeg) q9.2) (show maxW ((f0 (x1.toNatClampNeg)), (f1 (x1.toNatClampNeg))) ((f0 (x2.toNatClampNeg)), (f1 (x2.toNatClampNeg))) = ((f0 (x1.toNatClampNeg)), (f1 (x1.toNatClampNeg))) from maxW_p (fun h9 => by rcases h9 with h9 | h9 <;> exact absurd h9 (by omega)) (show ¬ 0 < cmpP ((f0 (x2.toNatClampNeg)), (f1 (x2.toNatClampNeg))) ((f0 (x1.toNatClampNeg)), (f1 (x1.toNatClampNeg))) from by unfold cmpP; rw [← hr_13]; omega))).trans updL_self).symm⟩, by rw [ht]; exact hP.sub [0, 1, 2] rfl, hD.sub [0, 1, 2] (by decide +kernel) rfl⟩, hS.F ht⟩) hS.2.2 dX11_raise_41
      · rw [fa_le] at c_14
        try rw [ti_0] at c_14
        refine lv_aload_n hx hb dX11_raise_35 rfl (lv_at hl 0 rfl) ?_
        refine lv_iload_n hx hb dX11_raise_36 rfl (lv_at hl 1 rfl) ?_
        refine lv_iload_n hx hb dX11_raise_37 rfl (lv_at hl 2 rfl) ?_
        have hFc := va_free (wc := [(h0, .inr (8, [v0, v1, .ref p0, .ref p1, v4, .int n])), (p0, .inl (T 1, 676, .inr (.inl f0))), (p1, .inl (T 1, 676, .inr (.inl f1)))]) hD hS hA [0, 1, 2] rfl
        refine va_callv (va_runV (As := [.int x1, .int x2]) (rest := []) ⟨hx, hb, hml, hown, hts⟩ (c_X11_repeat l D T _ h0 p0 p1 (v0) (v1) (v4) n f0 f1 x1 x2 (by first | decide | omega) (by first | decide | omega)) (cwV 2 hts gX11_raise_X11_repeat rfl rfl rfl hv_X11_repeat ⟨Nat.le_of_ble_eq_true rfl, Nat.le_of_ble_eq_true rfl⟩) (pW_V (q := (RX11, TX11, 6)) (ci := 8) (q0 := 0) hP hE hD rfl rfl [0, 1, 2] (by decide +kernel) rfl rfl) rfl rfl hl.1 rfl (lv_room (Nat.le_of_ble_eq_true rfl)) dX11_raise_38 ⟨Nat.le_of_ble_eq_true rfl, Nat.le_of_ble_eq_true rfl⟩) hS (fun q _ h => hFc q h) hFc (fun u_16 t H1 locs ht hvm hr_15 hB hz1 hk1 hS => ?_)
        obtain ⟨f_17, f_18⟩ := u_16
        have hrd1 : f_17 = vp_updL f0 (x1.toNatClampNeg) (((f0 (x2.toNatClampNeg)), (f1 (x2.toNatClampNeg)))).1 := hr_15.1
        have hrd2 : f_18 = vp_updL f1 (x1.toNatClampNeg) (((f0 (x2.toNatClampNeg)), (f1 (x2.toNatClampNeg)))).2 := hr_15.2
        obtain ⟨hP1, hD1⟩ := hB
        rw [ht] at hP1
        obtain ⟨hP, hD⟩ := va_repl [(h0, .inr (8, [v0, v1, .ref p0, .ref p1, v4, .int n])), (p0, .inl (T 1, 676, .inr (.inl f_17))), (p1, .inl (T 1, 676, .inr (.inl f_18)))] hP hD [0, 1, 2] [0, 1, 2] rfl (by decide +kernel) rfl rfl rfl hk1 hP1
        clear hP1 hD1 hFc
        generalize H1 = H at hP hS ⊢
        exact W.vret hx hb hr (fun t ht hW => ⟨⟨(f_17, f_18), rfl, ⟨hrd1.trans (congrArg (fun q9 : Int64 × Int64 => vp_updL f0 (x1.toNatClampNeg) q9.1) (show ((f0 (x2.toNatClampNeg)), (f1 (x2.toNatClampNeg))) = maxW ((f0 (x1.toNatClampNeg)), (f1 (x1.toNatClampNeg))) ((f0 (x2.toNatClampNeg)), (f1 (x2.toNatClampNeg))) from (maxW_q (fun h9 => by rcases h9 with h9 | h9 <;> exact absurd h9 (by omega)) (show 0 < cmpP ((f0 (x2.toNatClampNeg)), (f1 (x2.toNatClampNeg))) ((f0 (x1.toNatClampNeg)), (f1 (x1.toNatClampNeg))) from by unfold cmpP; rw [← hr_13]; omega)).symm)), hrd2.trans (congrArg (fun q9 : Int64 × Int64 => vp_updL f1 (x1.toNatClampNeg) q9.2) (show ((f0 (x2.toNatClampNeg)), (f1 (x2.toNatClampNeg))) = maxW ((f0 (x1.toNatClampNeg)), (f1 (x1.toNatClampNeg))) ((f0 (x2.toNatClampNeg)), (f1 (x2.toNatClampNeg))) from (maxW_q (fun h9 => by rcases h9 with h9 | h9 <;> exact absurd h9 (by omega)) (show 0 < cmpP ((f0 (x2.toNatClampNeg)), (f1 (x2.toNatClampNeg))) ((f0 (x1.toNatClampNeg)), (f1 (x1.toNatClampNeg))) from by unfold cmpP; rw [← hr_13]; omega)).symm))⟩, by rw [ht]; exact hP.sub [0, 1, 2] rfl, hD.sub [0, 1, 2] (by decide +kernel) rfl⟩, hS.F ht⟩) hS.2.2 dX11_raise_41
end
section
/-! what was found, slot by slot -/
def trN (t : Nat) : Nat := t * (t + 1) / 2
theorem trN_s {t : Nat} (h : t ≤ 6) : trN (t + 1) = trN t + t + 1 := by
  have key : ∀ a : Fin 7, trN (a.val + 1) = trN a.val + a.val + 1 := by decide
  exact key ⟨t, by omega⟩
theorem trN_le {t : Nat} (h : t ≤ 6) : trN t + t < 28 := by
  have key : ∀ a : Fin 7, trN a.val + a.val < 28 := by decide
  exact key ⟨t, by omega⟩
/-- the slot of clause x at spot k of day t -/
def slN (x t k : Int32) : Nat := 28 * x.toNatClampNeg + trN t.toNatClampNeg + k.toNatClampNeg
theorem slN_at {x d k : Int32} (hx : 0 ≤ x.toInt ∧ x.toInt < 24) (hd : 0 ≤ d.toInt ∧ d.toInt ≤ 6) (hk : 0 ≤ k.toInt ∧ k.toInt ≤ d.toInt) : (((x * 28) + ((d * (d + 1)) / 2)) + k).toNatClampNeg = slN x d k := by
  obtain ⟨i, hi, e⟩ := nI_of (x := x) (by rw [fa_lt, ti_0]; omega)
  obtain ⟨j, hj, e2⟩ := nI_of (x := d) (by rw [fa_lt, ti_0]; omega)
  obtain ⟨q, hq, e3⟩ := nI_of (x := k) (by rw [fa_lt, ti_0]; omega)
  subst e
  subst e2
  subst e3
  unfold slN
  rw [nI_clamp hi, nI_clamp hj, nI_clamp hq]
  rw [nI_toInt hi] at hx
  rw [nI_toInt hj] at hd hk
  rw [nI_toInt hq] at hk
  have key : ∀ a : Fin 24, ∀ b : Fin 7, ∀ c : Fin 7, (((nI a.val * 28) + ((nI b.val * (nI b.val + 1)) / 2)) + nI c.val).toNatClampNeg = 28 * a.val + trN b.val + c.val := by decide +kernel
  exact key ⟨i, by omega⟩ ⟨j, by omega⟩ ⟨q, by omega⟩
theorem slN_lt {x t k : Int32} (hx : 0 ≤ x.toInt ∧ x.toInt < 24) (ht : 0 ≤ t.toInt ∧ t.toInt ≤ 6) (hk : 0 ≤ k.toInt ∧ k.toInt ≤ t.toInt) : slN x t k < 672 := by
  have a := tn hx.1
  have b := tn ht.1
  have c := tn hk.1
  have d := trN_le (t := t.toNatClampNeg) (by omega)
  unfold slN
  omega
theorem slN_inj {x t k x' t' k' : Int32} (hx : 0 ≤ x.toInt ∧ x.toInt < 24) (ht : 0 ≤ t.toInt ∧ t.toInt ≤ 6) (hk : 0 ≤ k.toInt ∧ k.toInt ≤ t.toInt) (hx' : 0 ≤ x'.toInt ∧ x'.toInt < 24) (ht' : 0 ≤ t'.toInt ∧ t'.toInt ≤ 6) (hk' : 0 ≤ k'.toInt ∧ k'.toInt ≤ t'.toInt) (h : slN x t k = slN x' t' k') : x = x' ∧ t = t' ∧ k = k' := by
  have a := tn hx.1
  have b := tn ht.1
  have c := tn hk.1
  have a' := tn hx'.1
  have b' := tn ht'.1
  have c' := tn hk'.1
  have d := trN_le (t := t.toNatClampNeg) (by omega)
  have d' := trN_le (t := t'.toNatClampNeg) (by omega)
  unfold slN at h
  have e1 : x.toNatClampNeg = x'.toNatClampNeg := by omega
  have e2 : trN t.toNatClampNeg + k.toNatClampNeg = trN t'.toNatClampNeg + k'.toNatClampNeg := by omega
  have key : ∀ p q p' q' : Fin 7, q.val ≤ p.val → q'.val ≤ p'.val → trN p.val + q.val = trN p'.val + q'.val → p.val = p'.val ∧ q.val = q'.val := by decide +kernel
  have e3 := key ⟨t.toNatClampNeg, by omega⟩ ⟨k.toNatClampNeg, by omega⟩ ⟨t'.toNatClampNeg, by omega⟩ ⟨k'.toNatClampNeg, by omega⟩ (by show k.toNatClampNeg ≤ t.toNatClampNeg; omega) (by show k'.toNatClampNeg ≤ t'.toNatClampNeg; omega) e2
  have e4 : t.toNatClampNeg = t'.toNatClampNeg := e3.1
  have e5 : k.toNatClampNeg = k'.toNatClampNeg := e3.2
  exact ⟨Int32.toInt_inj.1 (by omega), Int32.toInt_inj.1 (by omega), Int32.toInt_inj.1 (by omega)⟩
/-- what settle may touch; what picked may; what average may -/
def rgW (x t : Int32) (j : Nat) : Prop := j < 28 * x.toNatClampNeg ∨ (28 * x.toNatClampNeg + trN t.toNatClampNeg ≤ j ∧ j < 28 * x.toNatClampNeg + 28)
def rgP (x : Int32) (j : Nat) : Prop := j < 28 * x.toNatClampNeg
def rgA (s x t : Int32) (j : Nat) : Prop := j = s.toNatClampNeg ∨ rgW x (t + 1) j
theorem rg_c {c x t t' : Int32} {j : Nat} (h : 0 ≤ c.toInt ∧ c.toInt < x.toInt) (g : rgW c t j) : rgW x t' j := by
  have a := tn h.1
  have b := tn (x := x) (by omega)
  unfold rgW at g ⊢
  omega
theorem rgp_c {c x t : Int32} {j : Nat} (h : 0 ≤ c.toInt ∧ c.toInt < x.toInt) (g : rgW c t j) : rgP x j := by
  have a := tn h.1
  have b := tn (x := x) (by omega)
  unfold rgW at g
  unfold rgP
  omega
theorem rg_p {x t : Int32} {j : Nat} (g : rgP x j) : rgW x t j := Or.inl g
theorem rg_d {x t : Int32} {j : Nat} (ht : 0 ≤ t.toInt ∧ t.toInt ≤ 5) (g : rgW x (t + 1) j) : rgW x t j := by
  have e := inc1 (i := t) (n := 6) (by omega) (by decide +kernel)
  have a := tnS ht.1 e
  have b := tn ht.1
  have c := trN_s (t := t.toNatClampNeg) (by omega)
  unfold rgW at g ⊢
  rw [a] at g
  omega
theorem rg_self {s x t k : Int32} (hx : 0 ≤ x.toInt ∧ x.toInt < 24) (ht : 0 ≤ t.toInt ∧ t.toInt ≤ 6) (hk : 0 ≤ k.toInt ∧ k.toInt ≤ t.toInt) (e : s.toNatClampNeg = slN x t k) : rgW x t s.toNatClampNeg := by
  have b := tn ht.1
  have c := tn hk.1
  have d := trN_le (t := t.toNatClampNeg) (by omega)
  rw [e]
  unfold rgW slN
  omega
theorem rg_a {s x t k : Int32} {j : Nat} (hx : 0 ≤ x.toInt ∧ x.toInt < 24) (ht : 0 ≤ t.toInt ∧ t.toInt ≤ 5) (hk : 0 ≤ k.toInt ∧ k.toInt ≤ t.toInt) (e : s.toNatClampNeg = slN x t k) (g : rgA s x t j) : rgW x t j := by
  rcases g with g | g
  · rw [g]; exact rg_self hx ⟨ht.1, by omega⟩ hk e
  · exact rg_d ht g
theorem nrg_c {c s x t t' k : Int32} (h : 0 ≤ c.toInt ∧ c.toInt < x.toInt) (e : s.toNatClampNeg = slN x t k) : ¬ rgW c t' s.toNatClampNeg := by
  have a := tn h.1
  have b := tn (x := x) (by omega)
  rw [e]
  unfold rgW slN
  omega
theorem nrg_p {s x t k : Int32} (e : s.toNatClampNeg = slN x t k) : ¬ rgP x s.toNatClampNeg := by
  rw [e]
  unfold rgP slN
  omega
theorem nrg_d {s x t k : Int32} (ht : 0 ≤ t.toInt ∧ t.toInt ≤ 5) (hk : 0 ≤ k.toInt ∧ k.toInt ≤ t.toInt) (e : s.toNatClampNeg = slN x t k) : ¬ rgW x (t + 1) s.toNatClampNeg := by
  have i := inc1 (i := t) (n := 6) (by omega) (by decide +kernel)
  have a := tnS ht.1 i
  have b := tn ht.1
  have b2 := tn hk.1
  have c := trN_s (t := t.toNatClampNeg) (by omega)
  rw [e]
  unfold rgW slN
  rw [a]
  omega
abbrev vaF : Type := Int32 → Int32 → Int32 → Int64 × Int64
/-- what is found is VALUE -/
def memW (V : vaF) (nsz age : Int32) (g0 g1 : Nat → Int64) (g4 : Nat → Int32) : Prop := ∀ x t k : Int32, 0 ≤ x.toInt ∧ x.toInt < 24 → 0 ≤ t.toInt ∧ t.toInt ≤ 6 → 0 ≤ k.toInt ∧ k.toInt ≤ t.toInt → g4 (slN x t k) = age → x.toInt < nsz.toInt ∧ (g0 (slN x t k), g1 (slN x t k)) = V x t k
/-- from g to u: what is found is VALUE, what was found stays, what is marked is marked with this age, what lies outside P stays -/
def stW (V : vaF) (nsz age : Int32) (P : Nat → Prop) (g0 g1 : Nat → Int64) (g4 : Nat → Int32) (u0 u1 : Nat → Int64) (u4 : Nat → Int32) : Prop := memW V nsz age u0 u1 u4 ∧ (∀ j : Nat, j < 672 → g4 j = age → u4 j = age) ∧ (∀ j : Nat, j < 672 → u4 j = g4 j ∨ u4 j = age) ∧ ∀ j : Nat, j < 672 → ¬ P j → u0 j = g0 j ∧ u1 j = g1 j ∧ u4 j = g4 j
theorem stW_rf {V : vaF} {nsz age : Int32} {P : Nat → Prop} {g0 g1 : Nat → Int64} {g4 : Nat → Int32} (h : memW V nsz age g0 g1 g4) : stW V nsz age P g0 g1 g4 g0 g1 g4 := ⟨h, fun _ _ q => q, fun _ _ => Or.inl rfl, fun _ _ _ => ⟨rfl, rfl, rfl⟩⟩
theorem stW.tr {V : vaF} {nsz age : Int32} {P Q : Nat → Prop} {g0 g1 u0 u1 w0 w1 : Nat → Int64} {g4 u4 w4 : Nat → Int32} (a : stW V nsz age P g0 g1 g4 u0 u1 u4) (b : stW V nsz age Q u0 u1 u4 w0 w1 w4) (h : ∀ j : Nat, Q j → P j) : stW V nsz age P g0 g1 g4 w0 w1 w4 := by
  obtain ⟨a1, a2, a3, a4⟩ := a
  obtain ⟨b1, b2, b3, b4⟩ := b
  refine ⟨b1, fun j hj q => b2 j hj (a2 j hj q), fun j hj => ?_, fun j hj q => ?_⟩
  · rcases b3 j hj with e | e
    · rw [e]; exact a3 j hj
    · exact Or.inr e
  · obtain ⟨e1, e2, e3⟩ := a4 j hj q
    obtain ⟨e4, e5, e6⟩ := b4 j hj (fun p => q (h j p))
    exact ⟨e4.trans e1, e5.trans e2, e6.trans e3⟩
theorem stW.mono {V : vaF} {nsz age : Int32} {P Q : Nat → Prop} {g0 g1 u0 u1 : Nat → Int64} {g4 u4 : Nat → Int32} (a : stW V nsz age P g0 g1 g4 u0 u1 u4) (h : ∀ j : Nat, P j → Q j) : stW V nsz age Q g0 g1 g4 u0 u1 u4 := ⟨a.1, a.2.1, a.2.2.1, fun j hj q => a.2.2.2 j hj (fun p => q (h j p))⟩
/-- values come to a place that isn't found -/
theorem stW.put {V : vaF} {nsz age : Int32} {P : Nat → Prop} {g0 g1 u0 u1 : Nat → Int64} {g4 u4 : Nat → Int32} {s : Nat} {v w : Int64} (a : stW V nsz age P g0 g1 g4 u0 u1 u4) (hs : s < 672 → P s ∧ u4 s ≠ age) : stW V nsz age P g0 g1 g4 (vp_updL u0 s v) (vp_updL u1 s w) u4 := by
  obtain ⟨a1, a2, a3, a4⟩ := a
  refine ⟨fun x t k hx ht hk q => ?_, a2, a3, fun j hj q => ?_⟩
  · have hl := slN_lt hx ht hk
    have hne : slN x t k ≠ s := fun e => (hs (by omega)).2 (by rw [← e]; exact q)
    rw [updL_ne hne, updL_ne hne]
    exact a1 x t k hx ht hk q
  · have hne : j ≠ s := fun e => q (by rw [e]; exact (hs (by omega)).1)
    rw [updL_ne hne, updL_ne hne]
    exact a4 j hj q
/-- a slot is found -/
theorem stW.mark {V : vaF} {nsz age : Int32} {P : Nat → Prop} {g0 g1 u0 u1 : Nat → Int64} {g4 u4 : Nat → Int32} {s : Nat} {x t k : Int32} (a : stW V nsz age P g0 g1 g4 u0 u1 u4) (hx : 0 ≤ x.toInt ∧ x.toInt < 24) (hn : x.toInt < nsz.toInt) (ht : 0 ≤ t.toInt ∧ t.toInt ≤ 6) (hk : 0 ≤ k.toInt ∧ k.toInt ≤ t.toInt) (e : s = slN x t k) (hP : P s) (hv : (u0 s, u1 s) = V x t k) : stW V nsz age P g0 g1 g4 u0 u1 (upd u4 s age) := by
  obtain ⟨a1, a2, a3, a4⟩ := a
  refine ⟨fun x' t' k' hx' ht' hk' q => ?_, fun j hj q => ?_, fun j hj => ?_, fun j hj q => ?_⟩
  · by_cases h : slN x' t' k' = s
    · obtain ⟨rfl, rfl, rfl⟩ := slN_inj hx' ht' hk' hx ht hk (h.trans e)
      rw [h]
      exact ⟨hn, hv⟩
    · simp only [upd, if_neg h] at q
      exact a1 x' t' k' hx' ht' hk' q
  · by_cases h : j = s
    · simp only [upd, if_pos h]
    · simp only [upd, if_neg h]
      exact a2 j hj q
  · by_cases h : j = s
    · simp only [upd, if_pos h]
      first | exact Or.inr rfl | exact Or.inr trivial
    · simp only [upd, if_neg h]
      exact a3 j hj
  · have h : j ≠ s := fun h => q (by rw [h]; exact hP)
    simp only [upd, if_neg h]
    exact a4 j hj q
theorem stW.val {V : vaF} {nsz age : Int32} {P : Nat → Prop} {g0 g1 u0 u1 : Nat → Int64} {g4 u4 : Nat → Int32} {r x t k : Int32} (a : stW V nsz age P g0 g1 g4 u0 u1 u4) (hx : 0 ≤ x.toInt ∧ x.toInt < 24) (ht : 0 ≤ t.toInt ∧ t.toInt ≤ 6) (hk : 0 ≤ k.toInt ∧ k.toInt ≤ t.toInt) (e : r.toNatClampNeg = slN x t k) (h : u4 (slN x t k) = age) : (u0 r.toNatClampNeg, u1 r.toNatClampNeg) = V x t k := by
  rw [e]
  exact (a.1 x t k hx ht hk h).2
theorem low_nn {q : Int64 × Int64} (h : lowW q) : 0 ≤ q.2.toInt := by
  rcases h with e | e
  · rw [e]; decide
  · have := e.1; omega
theorem val_nn {q : Int64 × Int64} {a b : Int64} (h : lowW q) (e : (a, b) = q) : 0 ≤ b.toInt := by
  have h1 := low_nn h
  rw [← e] at h1
  exact h1
theorem put_at {f g a b : Nat → Int64} {k : Nat} {q : Int64 × Int64} (h1 : a = vp_updL f k q.1) (h2 : b = vp_updL g k q.2) : (a k, b k) = q := by
  rw [h1, h2, updL_at, updL_at]
theorem put_ne {f g a b : Nat → Int64} {k j : Nat} {q : Int64 × Int64} (h1 : a = vp_updL f k q.1) (h2 : b = vp_updL g k q.2) (h : j ≠ k) : (a j, b j) = (f j, g j) := by
  rw [h1, h2, updL_ne h, updL_ne h]
theorem wt_den {l : Nat → Int32} (hq : 1 ≤ (l 4).toInt ∧ (l 4).toInt ≤ 9) (hb : 1 ≤ (l 6).toInt ∧ (l 6).toInt ≤ 9) : 1 ≤ ((l 6 * l 4).toInt64).toInt := by
  rw [Int32.toInt_toInt64]
  have h1 : (l 6).toInt * (l 4).toInt ≤ 9 * 9 := Int.mul_le_mul hb.2 hq.2 (by omega) (by omega)
  have h2 : 1 * 1 ≤ (l 6).toInt * (l 4).toInt := Int.mul_le_mul hb.1 hq.1 (by omega) (by omega)
  rw [fb_mulI (by omega) (by omega)]
  omega
/-! which one stands for x: case by case -/
section
variable {l fk fn fc fd fe : Nat → Int32} {V : vaF} {x t k : Int32}
theorem pk_8 (h : (fk x.toNatClampNeg).toNatClampNeg = 8) : pickW l fk fn fc fd fe V x t k = fc x.toNatClampNeg := by unfold pickW; rw [if_pos h]
theorem pk_12y (h : (fk x.toNatClampNeg).toNatClampNeg = 12) (c : (fn x.toNatClampNeg).toInt ≤ (prW l t k).toInt) : pickW l fk fn fc fd fe V x t k = fc x.toNatClampNeg := by unfold pickW; rw [if_neg (by omega), if_pos h, if_pos c]
theorem pk_12n (h : (fk x.toNatClampNeg).toNatClampNeg = 12) (c : ¬ (fn x.toNatClampNeg).toInt ≤ (prW l t k).toInt) : pickW l fk fn fc fd fe V x t k = fd x.toNatClampNeg := by unfold pickW; rw [if_neg (by omega), if_pos h, if_neg c]
theorem pk_c (h8 : ¬ (fk x.toNatClampNeg).toNatClampNeg = 8) (h12 : ¬ (fk x.toNatClampNeg).toNatClampNeg = 12) (c : (fe (fc x.toNatClampNeg).toNatClampNeg).toInt < t.toInt) : pickW l fk fn fc fd fe V x t k = fd x.toNatClampNeg := by unfold pickW; rw [if_neg h8, if_neg h12, if_pos c]
theorem pk_d (h8 : ¬ (fk x.toNatClampNeg).toNatClampNeg = 8) (h12 : ¬ (fk x.toNatClampNeg).toNatClampNeg = 12) (c : ¬ (fe (fc x.toNatClampNeg).toNatClampNeg).toInt < t.toInt) (d : (fk x.toNatClampNeg).toNatClampNeg = 9 ∨ (fe (fd x.toNatClampNeg).toNatClampNeg).toInt < t.toInt) : pickW l fk fn fc fd fe V x t k = fc x.toNatClampNeg := by unfold pickW; rw [if_neg h8, if_neg h12, if_neg c, if_pos d]
theorem pk_m (h8 : ¬ (fk x.toNatClampNeg).toNatClampNeg = 8) (h12 : ¬ (fk x.toNatClampNeg).toNatClampNeg = 12) (c : ¬ (fe (fc x.toNatClampNeg).toNatClampNeg).toInt < t.toInt) (d : ¬ ((fk x.toNatClampNeg).toNatClampNeg = 9 ∨ (fe (fd x.toNatClampNeg).toNatClampNeg).toInt < t.toInt)) (m : (V (fc x.toNatClampNeg) t k).2.toInt = 0 ∨ (V (fd x.toNatClampNeg) t k).2.toInt = 0) : pickW l fk fn fc fd fe V x t k = -5 := by unfold pickW; rw [if_neg h8, if_neg h12, if_neg c, if_neg d, if_pos m]
theorem pk_y (h8 : ¬ (fk x.toNatClampNeg).toNatClampNeg = 8) (h12 : ¬ (fk x.toNatClampNeg).toNatClampNeg = 12) (c : ¬ (fe (fc x.toNatClampNeg).toNatClampNeg).toInt < t.toInt) (d : ¬ ((fk x.toNatClampNeg).toNatClampNeg = 9 ∨ (fe (fd x.toNatClampNeg).toNatClampNeg).toInt < t.toInt)) (m : ¬ ((V (fc x.toNatClampNeg) t k).2.toInt = 0 ∨ (V (fd x.toNatClampNeg) t k).2.toInt = 0)) (s : ((fk x.toNatClampNeg).toNatClampNeg = 6 ∧ 0 < cmpP (V (fd x.toNatClampNeg) t k) (V (fc x.toNatClampNeg) t k)) ∨ ((fk x.toNatClampNeg).toNatClampNeg ≠ 6 ∧ cmpP (V (fd x.toNatClampNeg) t k) (V (fc x.toNatClampNeg) t k) < 0)) : pickW l fk fn fc fd fe V x t k = fd x.toNatClampNeg := by unfold pickW; rw [if_neg h8, if_neg h12, if_neg c, if_neg d, if_neg m, if_pos s]
theorem pk_n (h8 : ¬ (fk x.toNatClampNeg).toNatClampNeg = 8) (h12 : ¬ (fk x.toNatClampNeg).toNatClampNeg = 12) (c : ¬ (fe (fc x.toNatClampNeg).toNatClampNeg).toInt < t.toInt) (d : ¬ ((fk x.toNatClampNeg).toNatClampNeg = 9 ∨ (fe (fd x.toNatClampNeg).toNatClampNeg).toInt < t.toInt)) (m : ¬ ((V (fc x.toNatClampNeg) t k).2.toInt = 0 ∨ (V (fd x.toNatClampNeg) t k).2.toInt = 0)) (s : ¬ (((fk x.toNatClampNeg).toNatClampNeg = 6 ∧ 0 < cmpP (V (fd x.toNatClampNeg) t k) (V (fc x.toNatClampNeg) t k)) ∨ ((fk x.toNatClampNeg).toNatClampNeg ≠ 6 ∧ cmpP (V (fd x.toNatClampNeg) t k) (V (fc x.toNatClampNeg) t k) < 0))) : pickW l fk fn fc fd fe V x t k = fc x.toNatClampNeg := by unfold pickW; rw [if_neg h8, if_neg h12, if_neg c, if_neg d, if_neg m, if_neg s]
/-! VALUE, kind by kind -/
theorem sw_e (h : (fe x.toNatClampNeg).toInt < t.toInt) : stepW l fk fn fc fd fe V x t k = (0, 1) := by unfold stepW; rw [if_pos h]
theorem sw_0 (h : ¬ (fe x.toNatClampNeg).toInt < t.toInt) (c : (fk x.toNatClampNeg).toNatClampNeg = 0) : stepW l fk fn fc fd fe V x t k = (0, 1) := by unfold stepW; rw [if_neg h, if_pos c]
theorem sw_1 (h : ¬ (fe x.toNatClampNeg).toInt < t.toInt) (c : (fk x.toNatClampNeg).toNatClampNeg = 1) : stepW l fk fn fc fd fe V x t k = (1, 1) := by unfold stepW; rw [if_neg h, if_neg (by omega), if_pos c]
theorem sw_2 (h : ¬ (fe x.toNatClampNeg).toInt < t.toInt) (c : (fk x.toNatClampNeg).toNatClampNeg = 2) : stepW l fk fn fc fd fe V x t k = mulW (V (fc x.toNatClampNeg) t k) (-1) 1 := by unfold stepW; rw [if_neg h, if_neg (by omega), if_neg (by omega), if_pos c]
theorem sw_3 (h : ¬ (fe x.toNatClampNeg).toInt < t.toInt) (c : (fk x.toNatClampNeg).toNatClampNeg = 3) : stepW l fk fn fc fd fe V x t k = mulW (V (fc x.toNatClampNeg) t k) (fn x.toNatClampNeg).toInt64 1 := by unfold stepW; rw [if_neg h, if_neg (by omega), if_neg (by omega), if_neg (by omega), if_pos c]
theorem sw_4 (h : ¬ (fe x.toNatClampNeg).toInt < t.toInt) (c : (fk x.toNatClampNeg).toNatClampNeg = 4) : stepW l fk fn fc fd fe V x t k = mulW (V (fc x.toNatClampNeg) t k) (prW l t k).toInt64 1 := by unfold stepW; rw [if_neg h, if_neg (by omega), if_neg (by omega), if_neg (by omega), if_neg (by omega), if_pos c]
theorem sw_5 (h : ¬ (fe x.toNatClampNeg).toInt < t.toInt) (c : (fk x.toNatClampNeg).toNatClampNeg = 5) : stepW l fk fn fc fd fe V x t k = addW (V (fc x.toNatClampNeg) t k) (V (fd x.toNatClampNeg) t k) := by unfold stepW; rw [if_neg h, if_neg (by omega), if_neg (by omega), if_neg (by omega), if_neg (by omega), if_neg (by omega), if_pos c]
theorem sw_10 (h : ¬ (fe x.toNatClampNeg).toInt < t.toInt) (c : (fk x.toNatClampNeg).toNatClampNeg = 10) : stepW l fk fn fc fd fe V x t k = (if t.toInt = (fe x.toNatClampNeg).toInt then V (fc x.toNatClampNeg) t k else avgW l V x t k) := by unfold stepW; rw [if_neg h, if_neg (by omega), if_neg (by omega), if_neg (by omega), if_neg (by omega), if_neg (by omega), if_neg (by omega), if_pos c]
theorem sw_11 (h : ¬ (fe x.toNatClampNeg).toInt < t.toInt) (c : (fk x.toNatClampNeg).toNatClampNeg = 11) : stepW l fk fn fc fd fe V x t k = (if t.toInt = (fe x.toNatClampNeg).toInt then V (fc x.toNatClampNeg) t k else maxW (avgW l V x t k) (V (fc x.toNatClampNeg) t k)) := by unfold stepW; rw [if_neg h, if_neg (by omega), if_neg (by omega), if_neg (by omega), if_neg (by omega), if_neg (by omega), if_neg (by omega), if_neg (by omega), if_pos c]
theorem sw_p (h : ¬ (fe x.toNatClampNeg).toInt < t.toInt) (c : (fk x.toNatClampNeg).toNatClampNeg = 6 ∨ (fk x.toNatClampNeg).toNatClampNeg = 7 ∨ (fk x.toNatClampNeg).toNatClampNeg = 8 ∨ (fk x.toNatClampNeg).toNatClampNeg = 9 ∨ (fk x.toNatClampNeg).toNatClampNeg = 12) : stepW l fk fn fc fd fe V x t k = (if pickW l fk fn fc fd fe V x t k = -5 then (0, 0) else V (pickW l fk fn fc fd fe V x t k) t k) := by unfold stepW; rw [if_neg h, if_neg (by omega), if_neg (by omega), if_neg (by omega), if_neg (by omega), if_neg (by omega), if_neg (by omega), if_neg (by omega), if_neg (by omega)]
end
end
section
/-- settle, where what is asked is less than d deep -/
def cS_settle (l : Launch) (D : va_G) (T : Nat → ClassId) (ad sa av : Nat → Nat) (ta : Nat) (d : Nat) : Prop := ∀ (sz : Nat) (h0 : Nat) (la : Nat) (cl : Nat) (p0 : Nat) (p1 : Nat) (p4 : Nat) (n : Int32) (l9 : Nat → Int32) (n0 : Int32) (c1 : Nat) (c2 : Nat) (c3 : Nat) (c4 : Nat) (c5 : Nat) (c6 : Nat) (c7 : Nat) (f1 : Nat → Int32) (f2 : Nat → Int32) (f3 : Nat → Int32) (f4 : Nat → Int32) (f5 : Nat → Int32) (g0 : Nat → Int64) (g1 : Nat → Int64) (g4 : Nat → Int32) (x1 x2 x3 : Int32) (_ : 0 ≤ x1.toInt ∧ x1.toInt < 24) (_ : 0 ≤ x2.toInt ∧ x2.toInt ≤ 6) (_ : 0 ≤ x3.toInt ∧ x3.toInt ≤ x2.toInt) (_ : okC f1 f3 f4 f5) (_ : x1.toInt < n0.toInt) (_ : memW (VALW l9 f1 f2 f3 f4 f5) n0 n g0 g1 g4) (_ : (1 ≤ (l9 4).toInt ∧ (l9 4).toInt ≤ 9) ∧ 1 ≤ (l9 6).toInt ∧ (l9 6).toInt ≤ 9) (_ : x1.toInt + (6 - x2.toInt) < d), Met l yX11_settle wsX11_settle ({ frames := 2 * d + 6, cells := 0, slots := 0, locals := 64 * d + 250 }) (pWk [.ref h0, .int x1, .int x2, .int x3] D T [(h0, .inr (8, [.ref la, .ref cl, .ref p0, .ref p1, .ref p4, .int n])), (la, .inr (5, [.int (l9 0), .int (l9 1), .int (l9 2), .int (l9 3), .int (l9 4), .int (l9 5), .int (l9 6)])), (cl, .inr (1, [.int n0, .ref c1, .ref c2, .ref c3, .ref c4, .ref c5, .ref c6, .ref c7])), (c1, .inl (T 0, 24, .inl f1)), (c2, .inl (T 0, 24, .inl f2)), (c3, .inl (T 0, 24, .inl f3)), (c4, .inl (T 0, 24, .inl f4)), (c5, .inl (T 0, 24, .inl f5)), (p0, .inl (T 1, 676, .inr (.inl g0))), (p1, .inl (T 1, 676, .inr (.inl g1))), (p4, .inl (T 0, 672, .inl g4))] sz ad sa av ta) (va_Qi (fun (r : Int32) (u : (Nat → Int64) × (Nat → Int64) × (Nat → Int32)) => (0 ≤ r.toInt ∧ r.toInt < 672) ∧ r.toNatClampNeg = slN x1 x2 x3 ∧ u.2.2 (slN x1 x2 x3) = n ∧ stW (VALW l9 f1 f2 f3 f4 f5) n0 n (rgW x1 x2) g0 g1 g4 u.1 u.2.1 u.2.2) (bW D (va_A [(h0, .inr (8, [.ref la, .ref cl, .ref p0, .ref p1, .ref p4, .int n])), (la, .inr (5, [.int (l9 0), .int (l9 1), .int (l9 2), .int (l9 3), .int (l9 4), .int (l9 5), .int (l9 6)])), (cl, .inr (1, [.int n0, .ref c1, .ref c2, .ref c3, .ref c4, .ref c5, .ref c6, .ref c7])), (c1, .inl (T 0, 24, .inl f1)), (c2, .inl (T 0, 24, .inl f2)), (c3, .inl (T 0, 24, .inl f3)), (c4, .inl (T 0, 24, .inl f4)), (c5, .inl (T 0, 24, .inl f5)), (p0, .inl (T 1, 676, .inr (.inl g0))), (p1, .inl (T 1, 676, .inr (.inl g1))), (p4, .inl (T 0, 672, .inl g4))] sz) (fun (u : (Nat → Int64) × (Nat → Int64) × (Nat → Int32)) => [(h0, .inr (8, [.ref la, .ref cl, .ref p0, .ref p1, .ref p4, .int n])), (la, .inr (5, [.int (l9 0), .int (l9 1), .int (l9 2), .int (l9 3), .int (l9 4), .int (l9 5), .int (l9 6)])), (cl, .inr (1, [.int n0, .ref c1, .ref c2, .ref c3, .ref c4, .ref c5, .ref c6, .ref c7])), (c1, .inl (T 0, 24, .inl f1)), (c2, .inl (T 0, 24, .inl f2)), (c3, .inl (T 0, 24, .inl f3)), (c4, .inl (T 0, 24, .inl f4)), (c5, .inl (T 0, 24, .inl f5)), (p0, .inl (T 1, 676, .inr (.inl u.1))), (p1, .inl (T 1, 676, .inr (.inl u.2.1))), (p4, .inl (T 0, 672, .inl u.2.2))])) (va_A [(h0, .inr (8, [.ref la, .ref cl, .ref p0, .ref p1, .ref p4, .int n])), (la, .inr (5, [.int (l9 0), .int (l9 1), .int (l9 2), .int (l9 3), .int (l9 4), .int (l9 5), .int (l9 6)])), (cl, .inr (1, [.int n0, .ref c1, .ref c2, .ref c3, .ref c4, .ref c5, .ref c6, .ref c7])), (c1, .inl (T 0, 24, .inl f1)), (c2, .inl (T 0, 24, .inl f2)), (c3, .inl (T 0, 24, .inl f3)), (c4, .inl (T 0, 24, .inl f4)), (c5, .inl (T 0, 24, .inl f5)), (p0, .inl (T 1, 676, .inr (.inl g0))), (p1, .inl (T 1, 676, .inr (.inl g1))), (p4, .inl (T 0, 672, .inl g4))] sz)) 0 0 (va_A [(h0, .inr (8, [.ref la, .ref cl, .ref p0, .ref p1, .ref p4, .int n])), (la, .inr (5, [.int (l9 0), .int (l9 1), .int (l9 2), .int (l9 3), .int (l9 4), .int (l9 5), .int (l9 6)])), (cl, .inr (1, [.int n0, .ref c1, .ref c2, .ref c3, .ref c4, .ref c5, .ref c6, .ref c7])), (c1, .inl (T 0, 24, .inl f1)), (c2, .inl (T 0, 24, .inl f2)), (c3, .inl (T 0, 24, .inl f3)), (c4, .inl (T 0, 24, .inl f4)), (c5, .inl (T 0, 24, .inl f5)), (p0, .inl (T 1, 676, .inr (.inl g0))), (p1, .inl (T 1, 676, .inr (.inl g1))), (p4, .inl (T 0, 672, .inl g4))] sz)
theorem dX11_picked_0 : decode cX11_picked 0 = .ok (.aload_n 0, 1) := by decide +kernel
theorem dX11_picked_1 : decode cX11_picked 1 = .ok (.getfield 30, 3) := by decide +kernel
theorem dX11_picked_102 : decode cX11_picked 102 = .ok (.if_acmp .eq 17, 3) := by decide +kernel
theorem dX11_picked_105 : decode cX11_picked 105 = .ok (.iload_n 2, 1) := by decide +kernel
theorem dX11_picked_106 : decode cX11_picked 106 = .ok (.aload_n 0, 1) := by decide +kernel
theorem dX11_picked_107 : decode cX11_picked 107 = .ok (.getfield 30, 3) := by decide +kernel
theorem dX11_picked_11 : decode cX11_picked 11 = .ok (.aload_n 0, 1) := by decide +kernel
theorem dX11_picked_110 : decode cX11_picked 110 = .ok (.getfield 45, 3) := by decide +kernel
theorem dX11_picked_113 : decode cX11_picked 113 = .ok (.iload 5, 2) := by decide +kernel
theorem dX11_picked_115 : decode cX11_picked 115 = .ok (.iaload, 1) := by decide +kernel
theorem dX11_picked_116 : decode cX11_picked 116 = .ok (.if_icmp .le 6, 3) := by decide +kernel
theorem dX11_picked_119 : decode cX11_picked 119 = .ok (.iload 4, 2) := by decide +kernel
theorem dX11_picked_12 : decode cX11_picked 12 = .ok (.getfield 30, 3) := by decide +kernel
theorem dX11_picked_121 : decode cX11_picked 121 = .ok (.ireturn, 1) := by decide +kernel
theorem dX11_picked_122 : decode cX11_picked 122 = .ok (.aload_n 0, 1) := by decide +kernel
theorem dX11_picked_123 : decode cX11_picked 123 = .ok (.iload 4, 2) := by decide +kernel
theorem dX11_picked_125 : decode cX11_picked 125 = .ok (.iload_n 2, 1) := by decide +kernel
theorem dX11_picked_126 : decode cX11_picked 126 = .ok (.iload_n 3, 1) := by decide +kernel
theorem dX11_picked_127 : decode cX11_picked 127 = .ok (.invokevirtual 71, 3) := by decide +kernel
theorem dX11_picked_130 : decode cX11_picked 130 = .ok (.istore 7, 2) := by decide +kernel
theorem dX11_picked_132 : decode cX11_picked 132 = .ok (.aload_n 0, 1) := by decide +kernel
theorem dX11_picked_133 : decode cX11_picked 133 = .ok (.iload 5, 2) := by decide +kernel
theorem dX11_picked_135 : decode cX11_picked 135 = .ok (.iload_n 2, 1) := by decide +kernel
theorem dX11_picked_136 : decode cX11_picked 136 = .ok (.iload_n 3, 1) := by decide +kernel
theorem dX11_picked_137 : decode cX11_picked 137 = .ok (.invokevirtual 71, 3) := by decide +kernel
theorem dX11_picked_140 : decode cX11_picked 140 = .ok (.istore 8, 2) := by decide +kernel
theorem dX11_picked_142 : decode cX11_picked 142 = .ok (.aload_n 0, 1) := by decide +kernel
theorem dX11_picked_143 : decode cX11_picked 143 = .ok (.iload 7, 2) := by decide +kernel
theorem dX11_picked_145 : decode cX11_picked 145 = .ok (.invokevirtual 34, 3) := by decide +kernel
theorem dX11_picked_148 : decode cX11_picked 148 = .ok (.ifCond .ne 12, 3) := by decide +kernel
theorem dX11_picked_15 : decode cX11_picked 15 = .ok (.getfield 90, 3) := by decide +kernel
theorem dX11_picked_151 : decode cX11_picked 151 = .ok (.aload_n 0, 1) := by decide +kernel
theorem dX11_picked_152 : decode cX11_picked 152 = .ok (.iload 8, 2) := by decide +kernel
theorem dX11_picked_154 : decode cX11_picked 154 = .ok (.invokevirtual 34, 3) := by decide +kernel
theorem dX11_picked_157 : decode cX11_picked 157 = .ok (.ifCond .eq 6, 3) := by decide +kernel
theorem dX11_picked_160 : decode cX11_picked 160 = .ok (.bipush (-5), 2) := by decide +kernel
theorem dX11_picked_162 : decode cX11_picked 162 = .ok (.ireturn, 1) := by decide +kernel
theorem dX11_picked_163 : decode cX11_picked 163 = .ok (.aload_n 0, 1) := by decide +kernel
theorem dX11_picked_164 : decode cX11_picked 164 = .ok (.iload 8, 2) := by decide +kernel
theorem dX11_picked_166 : decode cX11_picked 166 = .ok (.iload 7, 2) := by decide +kernel
theorem dX11_picked_168 : decode cX11_picked 168 = .ok (.invokevirtual 114, 3) := by decide +kernel
theorem dX11_picked_171 : decode cX11_picked 171 = .ok (.istore 9, 2) := by decide +kernel
theorem dX11_picked_173 : decode cX11_picked 173 = .ok (.aload 6, 2) := by decide +kernel
theorem dX11_picked_175 : decode cX11_picked 175 = .ok (.getstatic 126, 3) := by decide +kernel
theorem dX11_picked_178 : decode cX11_picked 178 = .ok (.if_acmp .ne 11, 3) := by decide +kernel
theorem dX11_picked_18 : decode cX11_picked 18 = .ok (.iload_n 1, 1) := by decide +kernel
theorem dX11_picked_181 : decode cX11_picked 181 = .ok (.iload 9, 2) := by decide +kernel
theorem dX11_picked_183 : decode cX11_picked 183 = .ok (.ifCond .le 16, 3) := by decide +kernel
theorem dX11_picked_186 : decode cX11_picked 186 = .ok (.goto 8, 3) := by decide +kernel
theorem dX11_picked_189 : decode cX11_picked 189 = .ok (.iload 9, 2) := by decide +kernel
theorem dX11_picked_19 : decode cX11_picked 19 = .ok (.iaload, 1) := by decide +kernel
theorem dX11_picked_191 : decode cX11_picked 191 = .ok (.ifCond .ge 8, 3) := by decide +kernel
theorem dX11_picked_194 : decode cX11_picked 194 = .ok (.iload 5, 2) := by decide +kernel
theorem dX11_picked_196 : decode cX11_picked 196 = .ok (.goto 5, 3) := by decide +kernel
theorem dX11_picked_199 : decode cX11_picked 199 = .ok (.iload 4, 2) := by decide +kernel
theorem dX11_picked_20 : decode cX11_picked 20 = .ok (.istore 5, 2) := by decide +kernel
theorem dX11_picked_201 : decode cX11_picked 201 = .ok (.ireturn, 1) := by decide +kernel
theorem dX11_picked_22 : decode cX11_picked 22 = .ok (.aload_n 0, 1) := by decide +kernel
theorem dX11_picked_23 : decode cX11_picked 23 = .ok (.getfield 30, 3) := by decide +kernel
theorem dX11_picked_26 : decode cX11_picked 26 = .ok (.iload_n 1, 1) := by decide +kernel
theorem dX11_picked_27 : decode cX11_picked 27 = .ok (.invokevirtual 54, 3) := by decide +kernel
theorem dX11_picked_30 : decode cX11_picked 30 = .ok (.astore 6, 2) := by decide +kernel
theorem dX11_picked_32 : decode cX11_picked 32 = .ok (.aload 6, 2) := by decide +kernel
theorem dX11_picked_34 : decode cX11_picked 34 = .ok (.getstatic 117, 3) := by decide +kernel
theorem dX11_picked_37 : decode cX11_picked 37 = .ok (.if_acmp .ne 6, 3) := by decide +kernel
theorem dX11_picked_4 : decode cX11_picked 4 = .ok (.getfield 40, 3) := by decide +kernel
theorem dX11_picked_40 : decode cX11_picked 40 = .ok (.iload 4, 2) := by decide +kernel
theorem dX11_picked_42 : decode cX11_picked 42 = .ok (.ireturn, 1) := by decide +kernel
theorem dX11_picked_43 : decode cX11_picked 43 = .ok (.aload 6, 2) := by decide +kernel
theorem dX11_picked_45 : decode cX11_picked 45 = .ok (.getstatic 120, 3) := by decide +kernel
theorem dX11_picked_48 : decode cX11_picked 48 = .ok (.if_acmp .ne 32, 3) := by decide +kernel
theorem dX11_picked_51 : decode cX11_picked 51 = .ok (.aload_n 0, 1) := by decide +kernel
theorem dX11_picked_52 : decode cX11_picked 52 = .ok (.getfield 26, 3) := by decide +kernel
theorem dX11_picked_55 : decode cX11_picked 55 = .ok (.iload_n 2, 1) := by decide +kernel
theorem dX11_picked_56 : decode cX11_picked 56 = .ok (.iload_n 3, 1) := by decide +kernel
theorem dX11_picked_57 : decode cX11_picked 57 = .ok (.invokevirtual 84, 3) := by decide +kernel
theorem dX11_picked_60 : decode cX11_picked 60 = .ok (.aload_n 0, 1) := by decide +kernel
theorem dX11_picked_61 : decode cX11_picked 61 = .ok (.getfield 30, 3) := by decide +kernel
theorem dX11_picked_64 : decode cX11_picked 64 = .ok (.getfield 81, 3) := by decide +kernel
theorem dX11_picked_67 : decode cX11_picked 67 = .ok (.iload_n 1, 1) := by decide +kernel
theorem dX11_picked_68 : decode cX11_picked 68 = .ok (.iaload, 1) := by decide +kernel
theorem dX11_picked_69 : decode cX11_picked 69 = .ok (.if_icmp .lt 8, 3) := by decide +kernel
theorem dX11_picked_7 : decode cX11_picked 7 = .ok (.iload_n 1, 1) := by decide +kernel
theorem dX11_picked_72 : decode cX11_picked 72 = .ok (.iload 4, 2) := by decide +kernel
theorem dX11_picked_74 : decode cX11_picked 74 = .ok (.goto 5, 3) := by decide +kernel
theorem dX11_picked_77 : decode cX11_picked 77 = .ok (.iload 5, 2) := by decide +kernel
theorem dX11_picked_79 : decode cX11_picked 79 = .ok (.ireturn, 1) := by decide +kernel
theorem dX11_picked_8 : decode cX11_picked 8 = .ok (.iaload, 1) := by decide +kernel
theorem dX11_picked_80 : decode cX11_picked 80 = .ok (.iload_n 2, 1) := by decide +kernel
theorem dX11_picked_81 : decode cX11_picked 81 = .ok (.aload_n 0, 1) := by decide +kernel
theorem dX11_picked_82 : decode cX11_picked 82 = .ok (.getfield 30, 3) := by decide +kernel
theorem dX11_picked_85 : decode cX11_picked 85 = .ok (.getfield 45, 3) := by decide +kernel
theorem dX11_picked_88 : decode cX11_picked 88 = .ok (.iload 4, 2) := by decide +kernel
theorem dX11_picked_9 : decode cX11_picked 9 = .ok (.istore 4, 2) := by decide +kernel
theorem dX11_picked_90 : decode cX11_picked 90 = .ok (.iaload, 1) := by decide +kernel
theorem dX11_picked_91 : decode cX11_picked 91 = .ok (.if_icmp .le 6, 3) := by decide +kernel
theorem dX11_picked_94 : decode cX11_picked 94 = .ok (.iload 5, 2) := by decide +kernel
theorem dX11_picked_96 : decode cX11_picked 96 = .ok (.ireturn, 1) := by decide +kernel
theorem dX11_picked_97 : decode cX11_picked 97 = .ok (.aload 6, 2) := by decide +kernel
theorem dX11_picked_99 : decode cX11_picked 99 = .ok (.getstatic 123, 3) := by decide +kernel
set_option maxRecDepth 20000 in
theorem ggX11_picked_X11_isMuch : GoodIn wsX11_picked wsX11_isMuch := goodIn_r _ [32, 33, 106, 107, 108, 109, 110, 111] rfl (by decide +kernel)
set_option maxRecDepth 20000 in
theorem ggX11_picked_X11_order : GoodIn wsX11_picked wsX11_order := goodIn_r _ [37, 38, 33, 39, 40, 41, 42, 43, 44, 45, 106, 107, 108, 109, 110, 111] rfl (by decide +kernel)
set_option maxRecDepth 20000 in
theorem ggX11_picked_X11_settle : GoodIn wsX11_picked wsX11_settle := goodIn_r _ [79, 80, 81, 1, 2, 8, 82, 83, 58, 7, 6, 3, 84, 11, 12, 13, 14, 15, 16, 85, 86, 87, 88, 89, 90, 91, 60, 61, 62, 28, 63, 38, 33, 25, 26, 27, 51, 52, 53, 54, 55, 56, 57, 59, 64, 65, 66, 67, 68, 69, 70, 71, 17, 18, 19, 20, 21, 22, 23, 24, 72, 73, 74, 75, 76, 77, 78, 92, 93, 94, 95, 96, 97, 98, 99, 100, 101, 102, 29, 30, 31, 32, 34, 35, 36, 37, 39, 40, 41, 42, 43, 44, 45, 103, 104, 105, 46, 47, 48, 49, 50, 0, 4, 5, 9, 10, 106, 107, 108, 109, 110, 111, 112, 113, 114, 115, 116, 117, 118, 119, 120, 121, 122, 123, 124, 125, 126] rfl (by decide +kernel)
set_option maxRecDepth 20000 in
theorem ggX11_picked_X2_kindOf : GoodIn wsX11_picked wsX2_kindOf := goodIn_r _ [15, 16, 119, 120, 121, 122, 123, 124, 125, 126] rfl (by decide +kernel)
set_option maxRecDepth 20000 in
theorem ggX11_picked_X8_priceAt : GoodIn wsX11_picked wsX8_priceAt := goodIn_r _ [21, 22, 23, 24, 112, 113, 114, 115, 116, 117, 118] rfl (by decide +kernel)
set_option maxRecDepth 20000 in
theorem gX11_picked_X11_isMuch : GoodIn wsX11_picked (wsV RX11 34 RX11 yX11_isMuch wsX11_isMuch) := goodIn_app (goodIn_r _ [29, 30, 31, 28] rfl (by decide +kernel)) ggX11_picked_X11_isMuch
set_option maxRecDepth 20000 in
theorem gX11_picked_X11_order : GoodIn wsX11_picked (wsV RX11 114 RX11 yX11_order wsX11_order) := goodIn_app (goodIn_r _ [34, 35, 36, 28] rfl (by decide +kernel)) ggX11_picked_X11_order
set_option maxRecDepth 20000 in
theorem gX11_picked_X11_settle : GoodIn wsX11_picked (wsV RX11 71 RX11 yX11_settle wsX11_settle) := goodIn_app (goodIn_r _ [25, 26, 27, 28] rfl (by decide +kernel)) ggX11_picked_X11_settle
set_option maxRecDepth 20000 in
theorem gX11_picked_X2_kindOf : GoodIn wsX11_picked (wsV RX11 54 RX2 yX2_kindOf wsX2_kindOf) := goodIn_app (goodIn_r _ [11, 12, 13, 14] rfl (by decide +kernel)) ggX11_picked_X2_kindOf
set_option maxRecDepth 20000 in
theorem gX11_picked_X8_priceAt : GoodIn wsX11_picked (wsV RX11 84 RX8 yX8_priceAt wsX8_priceAt) := goodIn_app (goodIn_r _ [17, 18, 19, 20] rfl (by decide +kernel)) ggX11_picked_X8_priceAt
theorem hv_X11_settle : yX11_settle.cls = RX11 ∧ yX11_settle.cls ≠ "java/lang/invoke/MethodHandle" ∧ yX11_settle.cls ≠ "java/lang/invoke/VarHandle" ∧ (parseMethodDescriptor yX11_settle.desc).map (fun d => d.parameters.length) = some 3 := by decide +kernel
set_option maxRecDepth 20000 in
theorem in_X11_picked_X11 : ∀ w ∈ wsX110, w ∈ wsX11_picked := sub_r [106, 107, 108, 109, 110, 111] rfl
set_option maxRecDepth 20000 in
theorem in_X11_picked_X2 : ∀ w ∈ wsX20, w ∈ wsX11_picked := sub_r [119, 120, 121, 122, 123, 124, 125, 126] rfl
set_option maxHeartbeats 4000000 in
set_option maxRecDepth 100000 in
theorem s_X11_picked (l : Launch) (D : va_G) (T : Nat → ClassId) (ad sa av : Nat → Nat) (ta : Nat) (sz : Nat) (h0 : Nat) (la : Nat) (cl : Nat) (p0 : Nat) (p1 : Nat) (p4 : Nat) (n : Int32) (l9 : Nat → Int32) (n0 : Int32) (c1 : Nat) (c2 : Nat) (c3 : Nat) (c4 : Nat) (c5 : Nat) (c6 : Nat) (c7 : Nat) (f1 : Nat → Int32) (f2 : Nat → Int32) (f3 : Nat → Int32) (f4 : Nat → Int32) (f5 : Nat → Int32) (g0 : Nat → Int64) (g1 : Nat → Int64) (g4 : Nat → Int32) (d : Nat) (x1 : Int32) (x2 : Int32) (x3 : Int32) (hx : 0 ≤ x1.toInt ∧ x1.toInt < 24) (hd : 0 ≤ x2.toInt ∧ x2.toInt ≤ 6) (hsp : 0 ≤ x3.toInt ∧ x3.toInt ≤ x2.toInt) (hok : okC f1 f3 f4 f5) (hxn : x1.toInt < n0.toInt) (hmm : memW (VALW l9 f1 f2 f3 f4 f5) n0 n g0 g1 g4) (hlq : (1 ≤ (l9 4).toInt ∧ (l9 4).toInt ≤ 9) ∧ 1 ≤ (l9 6).toInt ∧ (l9 6).toInt ≤ 9) (hdep : x1.toInt + (6 - x2.toInt) < d + 1) (hkp : (f1 (x1.toNatClampNeg)).toNatClampNeg = 6 ∨ (f1 (x1.toNatClampNeg)).toNatClampNeg = 7 ∨ (f1 (x1.toNatClampNeg)).toNatClampNeg = 8 ∨ (f1 (x1.toNatClampNeg)).toNatClampNeg = 9 ∨ (f1 (x1.toNatClampNeg)).toNatClampNeg = 12) (hrec : cS_settle l D T ad sa av ta d) : Met l yX11_picked wsX11_picked ({ frames := 2 * d + 7, cells := 0, slots := 0, locals := 64 * d + 280 }) (pWk [.ref h0, .int x1, .int x2, .int x3] D T [(h0, .inr (8, [.ref la, .ref cl, .ref p0, .ref p1, .ref p4, .int n])), (la, .inr (5, [.int (l9 0), .int (l9 1), .int (l9 2), .int (l9 3), .int (l9 4), .int (l9 5), .int (l9 6)])), (cl, .inr (1, [.int n0, .ref c1, .ref c2, .ref c3, .ref c4, .ref c5, .ref c6, .ref c7])), (c1, .inl (T 0, 24, .inl f1)), (c2, .inl (T 0, 24, .inl f2)), (c3, .inl (T 0, 24, .inl f3)), (c4, .inl (T 0, 24, .inl f4)), (c5, .inl (T 0, 24, .inl f5)), (p0, .inl (T 1, 676, .inr (.inl g0))), (p1, .inl (T 1, 676, .inr (.inl g1))), (p4, .inl (T 0, 672, .inl g4))] sz ad sa av ta) (va_Qi (fun (r : Int32) (u : (Nat → Int64) × (Nat → Int64) × (Nat → Int32)) => (r.toInt = -5 ∨ (0 ≤ r.toInt ∧ r.toInt < x1.toInt)) ∧ r = pickW l9 f1 f2 f3 f4 f5 (VALW l9 f1 f2 f3 f4 f5) x1 x2 x3 ∧ stW (VALW l9 f1 f2 f3 f4 f5) n0 n (rgP x1) g0 g1 g4 u.1 u.2.1 u.2.2) (bW D (va_A [(h0, .inr (8, [.ref la, .ref cl, .ref p0, .ref p1, .ref p4, .int n])), (la, .inr (5, [.int (l9 0), .int (l9 1), .int (l9 2), .int (l9 3), .int (l9 4), .int (l9 5), .int (l9 6)])), (cl, .inr (1, [.int n0, .ref c1, .ref c2, .ref c3, .ref c4, .ref c5, .ref c6, .ref c7])), (c1, .inl (T 0, 24, .inl f1)), (c2, .inl (T 0, 24, .inl f2)), (c3, .inl (T 0, 24, .inl f3)), (c4, .inl (T 0, 24, .inl f4)), (c5, .inl (T 0, 24, .inl f5)), (p0, .inl (T 1, 676, .inr (.inl g0))), (p1, .inl (T 1, 676, .inr (.inl g1))), (p4, .inl (T 0, 672, .inl g4))] sz) (fun (u : (Nat → Int64) × (Nat → Int64) × (Nat → Int32)) => [(h0, .inr (8, [.ref la, .ref cl, .ref p0, .ref p1, .ref p4, .int n])), (la, .inr (5, [.int (l9 0), .int (l9 1), .int (l9 2), .int (l9 3), .int (l9 4), .int (l9 5), .int (l9 6)])), (cl, .inr (1, [.int n0, .ref c1, .ref c2, .ref c3, .ref c4, .ref c5, .ref c6, .ref c7])), (c1, .inl (T 0, 24, .inl f1)), (c2, .inl (T 0, 24, .inl f2)), (c3, .inl (T 0, 24, .inl f3)), (c4, .inl (T 0, 24, .inl f4)), (c5, .inl (T 0, 24, .inl f5)), (p0, .inl (T 1, 676, .inr (.inl u.1))), (p1, .inl (T 1, 676, .inr (.inl u.2.1))), (p4, .inl (T 0, 672, .inl u.2.2))])) (va_A [(h0, .inr (8, [.ref la, .ref cl, .ref p0, .ref p1, .ref p4, .int n])), (la, .inr (5, [.int (l9 0), .int (l9 1), .int (l9 2), .int (l9 3), .int (l9 4), .int (l9 5), .int (l9 6)])), (cl, .inr (1, [.int n0, .ref c1, .ref c2, .ref c3, .ref c4, .ref c5, .ref c6, .ref c7])), (c1, .inl (T 0, 24, .inl f1)), (c2, .inl (T 0, 24, .inl f2)), (c3, .inl (T 0, 24, .inl f3)), (c4, .inl (T 0, 24, .inl f4)), (c5, .inl (T 0, 24, .inl f5)), (p0, .inl (T 1, 676, .inr (.inl g0))), (p1, .inl (T 1, 676, .inr (.inl g1))), (p4, .inl (T 0, 672, .inl g4))] sz)) 0 0 (va_A [(h0, .inr (8, [.ref la, .ref cl, .ref p0, .ref p1, .ref p4, .int n])), (la, .inr (5, [.int (l9 0), .int (l9 1), .int (l9 2), .int (l9 3), .int (l9 4), .int (l9 5), .int (l9 6)])), (cl, .inr (1, [.int n0, .ref c1, .ref c2, .ref c3, .ref c4, .ref c5, .ref c6, .ref c7])), (c1, .inl (T 0, 24, .inl f1)), (c2, .inl (T 0, 24, .inl f2)), (c3, .inl (T 0, 24, .inl f3)), (c4, .inl (T 0, 24, .inl f4)), (c5, .inl (T 0, 24, .inl f5)), (p0, .inl (T 1, 676, .inr (.inl g0))), (p1, .inl (T 1, 676, .inr (.inl g1))), (p4, .inl (T 0, 672, .inl g4))] sz) := by
  refine Met.ofW (cc := cX11_picked) (maxL := 10) (ret := (some .int)) (by decide +kernel) rfl ?_
  intro p e s m args below meth c s₁ B hml hv
  obtain ⟨rfl, hsz, hP, hE, hD0, hV⟩ := hv
  have hx := B.exec
  have hb := B.bytes
  have hr := B.returns
  have hts := atoms_spec (ws := wsX11_picked) B.pre
  have hown : s.vm.findClass RX11 = some m.cls := findClass_of_methodNamed B.named
  have hlocks := B.notSynchronized
  subst hsz
  have hD := hD0.self (sz := s.heap.size)
  generalize hAe : va_A [(h0, .inr (8, [.ref la, .ref cl, .ref p0, .ref p1, .ref p4, .int n])), (la, .inr (5, [.int (l9 0), .int (l9 1), .int (l9 2), .int (l9 3), .int (l9 4), .int (l9 5), .int (l9 6)])), (cl, .inr (1, [.int n0, .ref c1, .ref c2, .ref c3, .ref c4, .ref c5, .ref c6, .ref c7])), (c1, .inl (T 0, 24, .inl f1)), (c2, .inl (T 0, 24, .inl f2)), (c3, .inl (T 0, 24, .inl f3)), (c4, .inl (T 0, 24, .inl f4)), (c5, .inl (T 0, 24, .inl f5)), (p0, .inl (T 1, 676, .inr (.inl g0))), (p1, .inl (T 1, 676, .inr (.inl g1))), (p4, .inl (T 0, 672, .inl g4))] s.heap.size = A at hD hV ⊢
  have hA : ∀ q : Nat, s.heap.size ≤ q → A q := fun q h => by rw [← hAe]; exact Or.inr h
  have hS : va_S A s.heap s.heap [] := va_S.rf
  have hP : va_P D vwCl [(h0, .inr (8, [.ref la, .ref cl, .ref p0, .ref p1, .ref p4, .int n])), (la, .inr (5, [.int (l9 0), .int (l9 1), .int (l9 2), .int (l9 3), .int (l9 4), .int (l9 5), .int (l9 6)])), (cl, .inr (1, [.int n0, .ref c1, .ref c2, .ref c3, .ref c4, .ref c5, .ref c6, .ref c7])), (c1, .inl (T 0, 24, .inl f1)), (c2, .inl (T 0, 24, .inl f2)), (c3, .inl (T 0, 24, .inl f3)), (c4, .inl (T 0, 24, .inl f4)), (c5, .inl (T 0, 24, .inl f5)), (p0, .inl (T 1, 676, .inr (.inl g0))), (p1, .inl (T 1, 676, .inr (.inl g1))), (p4, .inl (T 0, 672, .inl g4))] s.heap := hP
  have hl := lv_entry ([.ref h0, .int x1, .int x2, .int x3]) (n := 10) (Nat.le_of_ble_eq_true rfl)
  rw [lg_entry_eq]
  generalize (lg_sl ([.ref h0, .int x1, .int x2, .int x3]) ++ List.replicate (10 - (lg_sl ([.ref h0, .int x1, .int x2, .int x3])).length) Slot.unset).toArray = ls at hl ⊢
  have hl : lv_has ls 10 [(0, .ref h0), (1, .int x1), (2, .int x2), (3, .int x3)] := hl
  clear hD0
  have hst : stW (VALW l9 f1 f2 f3 f4 f5) n0 n (rgP x1) g0 g1 g4 g0 g1 g4 := stW_rf hmm
  refine lv_aload_n hx hb dX11_picked_0 rfl (lv_at hl 0 rfl) ?_
  refine va_get (D := D) (ci := 8) (v := .ref cl) (C := RX11) (T := TX11) (N := 6) hx hb hts in_X11_picked_X11 hown hE.1 hP 0 rfl rfl 1 (by decide +kernel) (hts (.fieldLink RX11 30 "ClauseBook$Worth" "clauses" "LClauseBook$Clauses;") (List.mem_of_getElem? (i := 1) rfl)) (fun _ h9 => h9) rfl dX11_picked_1 ?_
  refine va_get (D := D) (ci := 1) (v := .ref c3) (C := RX2) (T := TX2) (N := 8) hx hb hts in_X11_picked_X2 hown hE.1 hP 2 rfl rfl 3 (by decide +kernel) (hts (.fieldLink RX11 40 "ClauseBook$Clauses" "c" "[I") (List.mem_of_getElem? (i := 2) rfl)) (fun _ h9 => h9) rfl dX11_picked_4 ?_
  refine lv_iload_n hx hb dX11_picked_7 rfl (lv_at hl 1 rfl) ?_
  refine va_iald hx hb hE.1 hP 5 0 rfl rfl (by rw [vp_in_iff]; first | omega | (subst_vars; omega)) dX11_picked_8 ?_
  refine lv_topi (fun z_1 ez_1 => ?_)
  refine lv_istore (lv' := [(4, .int z_1), (0, .ref h0), (1, .int x1), (2, .int x2), (3, .int x3)]) hx hb dX11_picked_9 hl (by decide +kernel) rfl (fun ls hl => ?_)
  refine lv_aload_n hx hb dX11_picked_11 rfl (lv_at hl 1 rfl) ?_
  refine va_get (D := D) (ci := 8) (v := .ref cl) (C := RX11) (T := TX11) (N := 6) hx hb hts in_X11_picked_X11 hown hE.1 hP 0 rfl rfl 1 (by decide +kernel) (hts (.fieldLink RX11 30 "ClauseBook$Worth" "clauses" "LClauseBook$Clauses;") (List.mem_of_getElem? (i := 1) rfl)) (fun _ h9 => h9) rfl dX11_picked_12 ?_
  refine va_get (D := D) (ci := 1) (v := .ref c4) (C := RX2) (T := TX2) (N := 8) hx hb hts in_X11_picked_X2 hown hE.1 hP 2 rfl rfl 4 (by decide +kernel) (hts (.fieldLink RX11 90 "ClauseBook$Clauses" "d" "[I") (List.mem_of_getElem? (i := 3) rfl)) (fun _ h9 => h9) rfl dX11_picked_15 ?_
  refine lv_iload_n hx hb dX11_picked_18 rfl (lv_at hl 2 rfl) ?_
  refine va_iald hx hb hE.1 hP 6 0 rfl rfl (by rw [vp_in_iff]; first | omega | (subst_vars; omega)) dX11_picked_19 ?_
  refine lv_topi (fun z_2 ez_2 => ?_)
  refine lv_istore (lv' := [(5, .int z_2), (4, .int z_1), (0, .ref h0), (1, .int x1), (2, .int x2), (3, .int x3)]) hx hb dX11_picked_20 hl (by decide +kernel) rfl (fun ls hl => ?_)
  refine lv_aload_n hx hb dX11_picked_22 rfl (lv_at hl 2 rfl) ?_
  refine va_get (D := D) (ci := 8) (v := .ref cl) (C := RX11) (T := TX11) (N := 6) hx hb hts in_X11_picked_X11 hown hE.1 hP 0 rfl rfl 1 (by decide +kernel) (hts (.fieldLink RX11 30 "ClauseBook$Worth" "clauses" "LClauseBook$Clauses;") (List.mem_of_getElem? (i := 1) rfl)) (fun _ h9 => h9) rfl dX11_picked_23 ?_
  refine lv_iload_n hx hb dX11_picked_26 rfl (lv_at hl 3 rfl) ?_
  refine va_cse (W.runV (As := [.int x1]) (rest := []) ⟨hx, hb, hml, hown, hts⟩ (c_X2_kindOf l D T ad sa av ta cl [.int n0, .ref c1, .ref c2, .ref c3, .ref c4, .ref c5, .ref c6, .ref c7] c1 f1 x1 rfl (by omega) ((hok _ (in24 (x := x1) (by omega)).1).1)) (cwV 1 hts gX11_picked_X2_kindOf rfl rfl rfl hv_X2_kindOf ⟨(show _ ≤ (2 * d + 7 : Nat) from by (try dsimp only); omega), (show _ ≤ (64 * d + 280 : Nat) from by (try dsimp only); omega)⟩) (pRk_V (q := (RX2, TX2, 8)) (ci := 1) (q0 := 2) hP hE hV hS rfl rfl [2, 3] rfl) rfl rfl hl.1 rfl (lv_room (Nat.le_of_ble_eq_true rfl)) dX11_picked_27 ⟨Nat.le_of_ble_eq_true rfl, Nat.le_of_ble_eq_true rfl⟩) (fun r_3 hr_3 => ?_)
  subst hr_3
  refine W.eq (g2 := F0 m 30 ls [.ref (ad ((f1 (x1.toNatClampNeg)).toNatClampNeg))]) rfl ?_
  rcases hkp with hk9 | hk9 | hk9 | hk9 | hk9
  · refine W.eq (g2 := F0 m 30 ls [.ref (ad 6)]) (by rw [hk9]) ?_
    have hc9 : 0 ≤ z_1.toInt ∧ z_1.toInt < x1.toInt := by
      have h := (hok _ (in24 (x := x1) (by omega)).1).2.1 (by rw [hk9]; decide)
      have h2 := (in24 (x := x1) (by omega)).2
      rw [ez_1]
      omega
    have hd9 : 0 ≤ (f4 (x1.toNatClampNeg)).toInt ∧ (f4 (x1.toNatClampNeg)).toInt < x1.toInt := by
      have h := (hok _ (in24 (x := x1) (by omega)).1).2.2.1 (by rw [hk9]; decide)
      have h2 := (in24 (x := x1) (by omega)).2
      omega
    have hd8 : 0 ≤ z_2.toInt ∧ z_2.toInt < x1.toInt := by rw [ez_2]; exact hd9
    refine lv_astore (lv' := [(6, .ref (ad 6)), (5, .int z_2), (4, .int z_1), (0, .ref h0), (1, .int x1), (2, .int x2), (3, .int x3)]) hx hb dX11_picked_30 hl (by decide +kernel) rfl (fun ls hl => ?_)
    refine lv_aload hx hb dX11_picked_32 (lv_at hl 0 rfl) ?_
    refine va_gets (v := .ref (ad 8)) hx hb (hV.1.1.1 8 (by decide +kernel)).1 hS hown (hts (.fieldLink RX11 117 "ClauseBook$Kind" "UNTIL" "LClauseBook$Kind;") (List.mem_of_getElem? (i := 4) rfl)) (fun _ h9 => h9) dX11_picked_34 ?_
    refine lv_acmp_ne (rx := some (ad 6)) (ry := some (ad 8)) (tgt := 43) hx hb dX11_picked_37 (by decide +kernel) (fun _ => ?_) (fun c9 => absurd c9 (fun h => absurd (hV.1.1.2 6 8 (by decide +kernel) (by decide +kernel) (Option.some.inj h)) (by decide +kernel)))
    refine lv_aload hx hb dX11_picked_43 (lv_at hl 0 rfl) ?_
    refine va_gets (v := .ref (ad 12)) hx hb (hV.1.1.1 12 (by decide +kernel)).1 hS hown (hts (.fieldLink RX11 120 "ClauseBook$Kind" "WHERE" "LClauseBook$Kind;") (List.mem_of_getElem? (i := 5) rfl)) (fun _ h9 => h9) dX11_picked_45 ?_
    refine lv_acmp_ne (rx := some (ad 6)) (ry := some (ad 12)) (tgt := 80) hx hb dX11_picked_48 (by decide +kernel) (fun _ => ?_) (fun c9 => absurd c9 (fun h => absurd (hV.1.1.2 6 12 (by decide +kernel) (by decide +kernel) (Option.some.inj h)) (by decide +kernel)))
    refine lv_iload_n hx hb dX11_picked_80 rfl (lv_at hl 5 rfl) ?_
    refine lv_aload_n hx hb dX11_picked_81 rfl (lv_at hl 3 rfl) ?_
    refine va_get (D := D) (ci := 8) (v := .ref cl) (C := RX11) (T := TX11) (N := 6) hx hb hts in_X11_picked_X11 hown hE.1 hP 0 rfl rfl 1 (by decide +kernel) (hts (.fieldLink RX11 30 "ClauseBook$Worth" "clauses" "LClauseBook$Clauses;") (List.mem_of_getElem? (i := 1) rfl)) (fun _ h9 => h9) rfl dX11_picked_82 ?_
    refine va_get (D := D) (ci := 1) (v := .ref c5) (C := RX2) (T := TX2) (N := 8) hx hb hts in_X11_picked_X2 hown hE.1 hP 2 rfl rfl 5 (by decide +kernel) (hts (.fieldLink RX11 45 "ClauseBook$Clauses" "end" "[I") (List.mem_of_getElem? (i := 8) rfl)) (fun _ h9 => h9) rfl dX11_picked_85 ?_
    refine lv_iload hx hb dX11_picked_88 (lv_at hl 2 rfl) ?_
    refine va_iald hx hb hE.1 hP 7 0 rfl rfl (by rw [vp_in_iff]; first | omega | (subst_vars; omega)) dX11_picked_90 ?_
    refine lv_topi (fun z_4 ez_4 => ?_)
    refine lv_icmp_le (tgt := 97) hx hb dX11_picked_91 (by decide +kernel) (fun c_5 => ?_) (fun c_5 => ?_)
    · rw [fa_le] at c_5
      refine lv_aload hx hb dX11_picked_97 (lv_at hl 0 rfl) ?_
      refine va_gets (v := .ref (ad 9)) hx hb (hV.1.1.1 9 (by decide +kernel)).1 hS hown (hts (.fieldLink RX11 123 "ClauseBook$Kind" "THEN" "LClauseBook$Kind;") (List.mem_of_getElem? (i := 9) rfl)) (fun _ h9 => h9) dX11_picked_99 ?_
      refine lv_acmp_eq (rx := some (ad 6)) (ry := some (ad 9)) (tgt := 119) hx hb dX11_picked_102 (by decide +kernel) (fun c9 => absurd c9 (fun h => absurd (hV.1.1.2 6 9 (by decide +kernel) (by decide +kernel) (Option.some.inj h)) (by decide +kernel))) (fun _ => ?_)
      refine lv_iload_n hx hb dX11_picked_105 rfl (lv_at hl 5 rfl) ?_
      refine lv_aload_n hx hb dX11_picked_106 rfl (lv_at hl 3 rfl) ?_
      refine va_get (D := D) (ci := 8) (v := .ref cl) (C := RX11) (T := TX11) (N := 6) hx hb hts in_X11_picked_X11 hown hE.1 hP 0 rfl rfl 1 (by decide +kernel) (hts (.fieldLink RX11 30 "ClauseBook$Worth" "clauses" "LClauseBook$Clauses;") (List.mem_of_getElem? (i := 1) rfl)) (fun _ h9 => h9) rfl dX11_picked_107 ?_
      refine va_get (D := D) (ci := 1) (v := .ref c5) (C := RX2) (T := TX2) (N := 8) hx hb hts in_X11_picked_X2 hown hE.1 hP 2 rfl rfl 5 (by decide +kernel) (hts (.fieldLink RX11 45 "ClauseBook$Clauses" "end" "[I") (List.mem_of_getElem? (i := 8) rfl)) (fun _ h9 => h9) rfl dX11_picked_110 ?_
      refine lv_iload hx hb dX11_picked_113 (lv_at hl 1 rfl) ?_
      refine va_iald hx hb hE.1 hP 7 0 rfl rfl (by rw [vp_in_iff]; first | omega | (subst_vars; omega)) dX11_picked_115 ?_
      refine lv_topi (fun z_6 ez_6 => ?_)
      refine lv_icmp_le (tgt := 122) hx hb dX11_picked_116 (by decide +kernel) (fun c_7 => ?_) (fun c_7 => ?_)
      · rw [fa_le] at c_7
        refine lv_aload_n hx hb dX11_picked_122 rfl (lv_at hl 3 rfl) ?_
        refine lv_iload hx hb dX11_picked_123 (lv_at hl 2 rfl) ?_
        refine lv_iload_n hx hb dX11_picked_125 rfl (lv_at hl 5 rfl) ?_
        refine lv_iload_n hx hb dX11_picked_126 rfl (lv_at hl 6 rfl) ?_
        have hFc := va_free (wc := [(h0, .inr (8, [.ref la, .ref cl, .ref p0, .ref p1, .ref p4, .int n])), (la, .inr (5, [.int (l9 0), .int (l9 1), .int (l9 2), .int (l9 3), .int (l9 4), .int (l9 5), .int (l9 6)])), (cl, .inr (1, [.int n0, .ref c1, .ref c2, .ref c3, .ref c4, .ref c5, .ref c6, .ref c7])), (c1, .inl (T 0, 24, .inl f1)), (c2, .inl (T 0, 24, .inl f2)), (c3, .inl (T 0, 24, .inl f3)), (c4, .inl (T 0, 24, .inl f4)), (c5, .inl (T 0, 24, .inl f5)), (p0, .inl (T 1, 676, .inr (.inl g0))), (p1, .inl (T 1, 676, .inr (.inl g1))), (p4, .inl (T 0, 672, .inl g4))]) hD hS hA [0, 1, 2, 3, 4, 5, 6, 7, 8, 9, 10] rfl
        refine va_calli (va_runV (As := [.int z_1, .int x2, .int x3]) (rest := []) ⟨hx, hb, hml, hown, hts⟩ (hrec _ h0 la cl p0 p1 p4 n l9 n0 c1 c2 c3 c4 c5 c6 c7 f1 f2 f3 f4 f5 g0 g1 g4 z_1 x2 x3 (by omega) (by omega) (by omega) hok (by omega) hmm hlq (by omega)) (cwV 3 hts gX11_picked_X11_settle rfl rfl rfl hv_X11_settle ⟨(show _ ≤ (2 * d + 7 : Nat) from by (try dsimp only); omega), (show _ ≤ (64 * d + 280 : Nat) from by (try dsimp only); omega)⟩) (pWk_V (q := (RX11, TX11, 6)) (ci := 8) (q0 := 0) hP hE hD hV hS hFc rfl rfl [0, 1, 2, 3, 4, 5, 6, 7, 8, 9, 10] (by decide +kernel) rfl rfl) rfl rfl hl.1 rfl (lv_room (Nat.le_of_ble_eq_true rfl)) dX11_picked_127 ⟨Nat.le_of_ble_eq_true rfl, Nat.le_of_ble_eq_true rfl⟩) hS (fun q _ h => hFc q h) hFc (fun r_8 u_9 t H1 locs ht hvm hr_8 hB hz1 hk1 hS => ?_)
        obtain ⟨f_10, f_11, f_12⟩ := u_9
        obtain ⟨hqr_8, hsl_r_8, hfo_r_8, hstr_8⟩ := hr_8
        have hqr_8 : 0 ≤ r_8.toInt ∧ r_8.toInt < 672 := hqr_8
        have hsl_r_8 : r_8.toNatClampNeg = slN z_1 x2 x3 := hsl_r_8
        have hfo_r_8 : f_12 (slN z_1 x2 x3) = n := hfo_r_8
        have hsr_8 : stW (VALW l9 f1 f2 f3 f4 f5) n0 n (rgW z_1 x2) g0 g1 g4 f_10 f_11 f_12 := hstr_8
        have hst : stW (VALW l9 f1 f2 f3 f4 f5) n0 n (rgP x1) g0 g1 g4 f_10 f_11 f_12 := hst.tr hsr_8 (fun j9 h9 => rgp_c (by omega) h9)
        have hmm : memW (VALW l9 f1 f2 f3 f4 f5) n0 n f_10 f_11 f_12 := hst.1
        have hv_r_8 : (f_10 (r_8.toNatClampNeg), f_11 (r_8.toNatClampNeg)) = (VALW l9 f1 f2 f3 f4 f5) z_1 x2 x3 := hst.val (by omega) (by omega) (by first | (rw [ti_0]; omega) | omega) hsl_r_8 hfo_r_8
        have hb_r_8 : 0 ≤ (f_11 (r_8.toNatClampNeg)).toInt := val_nn (VAL_low hlq.1 hlq.2 31 _ _ _) hv_r_8
        obtain ⟨hP1, hD1⟩ := hB
        rw [ht] at hP1
        obtain ⟨hP, hD⟩ := va_repl [(h0, .inr (8, [.ref la, .ref cl, .ref p0, .ref p1, .ref p4, .int n])), (la, .inr (5, [.int (l9 0), .int (l9 1), .int (l9 2), .int (l9 3), .int (l9 4), .int (l9 5), .int (l9 6)])), (cl, .inr (1, [.int n0, .ref c1, .ref c2, .ref c3, .ref c4, .ref c5, .ref c6, .ref c7])), (c1, .inl (T 0, 24, .inl f1)), (c2, .inl (T 0, 24, .inl f2)), (c3, .inl (T 0, 24, .inl f3)), (c4, .inl (T 0, 24, .inl f4)), (c5, .inl (T 0, 24, .inl f5)), (p0, .inl (T 1, 676, .inr (.inl f_10))), (p1, .inl (T 1, 676, .inr (.inl f_11))), (p4, .inl (T 0, 672, .inl f_12))] hP hD [0, 1, 2, 3, 4, 5, 6, 7, 8, 9, 10] [0, 1, 2, 3, 4, 5, 6, 7, 8, 9, 10] rfl (by decide +kernel) rfl rfl rfl hk1 hP1
        clear hP1 hD1 hFc
        generalize H1 = H at hP hS ⊢
        refine lv_istore (lv' := [(7, .int r_8), (6, .ref (ad 6)), (5, .int z_2), (4, .int z_1), (0, .ref h0), (1, .int x1), (2, .int x2), (3, .int x3)]) hx hb dX11_picked_130 hl (by decide +kernel) rfl (fun ls hl => ?_)
        refine lv_aload_n hx hb dX11_picked_132 rfl (lv_at hl 4 rfl) ?_
        refine lv_iload hx hb dX11_picked_133 (lv_at hl 2 rfl) ?_
        refine lv_iload_n hx hb dX11_picked_135 rfl (lv_at hl 6 rfl) ?_
        refine lv_iload_n hx hb dX11_picked_136 rfl (lv_at hl 7 rfl) ?_
        have hFc := va_free (wc := [(h0, .inr (8, [.ref la, .ref cl, .ref p0, .ref p1, .ref p4, .int n])), (la, .inr (5, [.int (l9 0), .int (l9 1), .int (l9 2), .int (l9 3), .int (l9 4), .int (l9 5), .int (l9 6)])), (cl, .inr (1, [.int n0, .ref c1, .ref c2, .ref c3, .ref c4, .ref c5, .ref c6, .ref c7])), (c1, .inl (T 0, 24, .inl f1)), (c2, .inl (T 0, 24, .inl f2)), (c3, .inl (T 0, 24, .inl f3)), (c4, .inl (T 0, 24, .inl f4)), (c5, .inl (T 0, 24, .inl f5)), (p0, .inl (T 1, 676, .inr (.inl f_10))), (p1, .inl (T 1, 676, .inr (.inl f_11))), (p4, .inl (T 0, 672, .inl f_12))]) hD hS hA [0, 1, 2, 3, 4, 5, 6, 7, 8, 9, 10] rfl
        refine va_calli (va_runV (As := [.int z_2, .int x2, .int x3]) (rest := []) ⟨hx, hb, hml, hown, hts⟩ (hrec _ h0 la cl p0 p1 p4 n l9 n0 c1 c2 c3 c4 c5 c6 c7 f1 f2 f3 f4 f5 f_10 f_11 f_12 z_2 x2 x3 (by omega) (by omega) (by omega) hok (by omega) hmm hlq (by omega)) (cwV 3 hts gX11_picked_X11_settle rfl rfl rfl hv_X11_settle ⟨(show _ ≤ (2 * d + 7 : Nat) from by (try dsimp only); omega), (show _ ≤ (64 * d + 280 : Nat) from by (try dsimp only); omega)⟩) (pWk_V (q := (RX11, TX11, 6)) (ci := 8) (q0 := 0) hP hE hD hV hS hFc rfl rfl [0, 1, 2, 3, 4, 5, 6, 7, 8, 9, 10] (by decide +kernel) rfl rfl) rfl rfl hl.1 rfl (lv_room (Nat.le_of_ble_eq_true rfl)) dX11_picked_137 ⟨Nat.le_of_ble_eq_true rfl, Nat.le_of_ble_eq_true rfl⟩) hS (fun q _ h => hFc q h) hFc (fun r_13 u_14 t H1 locs ht hvm hr_13 hB hz1 hk1 hS => ?_)
        obtain ⟨f_15, f_16, f_17⟩ := u_14
        obtain ⟨hqr_13, hsl_r_13, hfo_r_13, hstr_13⟩ := hr_13
        have hqr_13 : 0 ≤ r_13.toInt ∧ r_13.toInt < 672 := hqr_13
        have hsl_r_13 : r_13.toNatClampNeg = slN z_2 x2 x3 := hsl_r_13
        have hfo_r_13 : f_17 (slN z_2 x2 x3) = n := hfo_r_13
        have hsr_13 : stW (VALW l9 f1 f2 f3 f4 f5) n0 n (rgW z_2 x2) f_10 f_11 f_12 f_15 f_16 f_17 := hstr_13
        have hst : stW (VALW l9 f1 f2 f3 f4 f5) n0 n (rgP x1) g0 g1 g4 f_15 f_16 f_17 := hst.tr hsr_13 (fun j9 h9 => rgp_c (by omega) h9)
        have hmm : memW (VALW l9 f1 f2 f3 f4 f5) n0 n f_15 f_16 f_17 := hst.1
        have hfo_r_8 : f_17 (slN z_1 x2 x3) = n := hsr_13.2.1 _ (slN_lt (by omega) (by omega) (by omega)) hfo_r_8
        have hv_r_8 : (f_15 (r_8.toNatClampNeg), f_16 (r_8.toNatClampNeg)) = (VALW l9 f1 f2 f3 f4 f5) z_1 x2 x3 := hst.val (by omega) (by omega) (by omega) hsl_r_8 hfo_r_8
        have hb_r_8 : 0 ≤ (f_16 (r_8.toNatClampNeg)).toInt := val_nn (VAL_low hlq.1 hlq.2 31 _ _ _) hv_r_8
        have hv_r_13 : (f_15 (r_13.toNatClampNeg), f_16 (r_13.toNatClampNeg)) = (VALW l9 f1 f2 f3 f4 f5) z_2 x2 x3 := hst.val (by omega) (by omega) (by first | (rw [ti_0]; omega) | omega) hsl_r_13 hfo_r_13
        have hb_r_13 : 0 ≤ (f_16 (r_13.toNatClampNeg)).toInt := val_nn (VAL_low hlq.1 hlq.2 31 _ _ _) hv_r_13
        obtain ⟨hP1, hD1⟩ := hB
        rw [ht] at hP1
        obtain ⟨hP, hD⟩ := va_repl [(h0, .inr (8, [.ref la, .ref cl, .ref p0, .ref p1, .ref p4, .int n])), (la, .inr (5, [.int (l9 0), .int (l9 1), .int (l9 2), .int (l9 3), .int (l9 4), .int (l9 5), .int (l9 6)])), (cl, .inr (1, [.int n0, .ref c1, .ref c2, .ref c3, .ref c4, .ref c5, .ref c6, .ref c7])), (c1, .inl (T 0, 24, .inl f1)), (c2, .inl (T 0, 24, .inl f2)), (c3, .inl (T 0, 24, .inl f3)), (c4, .inl (T 0, 24, .inl f4)), (c5, .inl (T 0, 24, .inl f5)), (p0, .inl (T 1, 676, .inr (.inl f_15))), (p1, .inl (T 1, 676, .inr (.inl f_16))), (p4, .inl (T 0, 672, .inl f_17))] hP hD [0, 1, 2, 3, 4, 5, 6, 7, 8, 9, 10] [0, 1, 2, 3, 4, 5, 6, 7, 8, 9, 10] rfl (by decide +kernel) rfl rfl rfl hk1 hP1
        clear hP1 hD1 hFc
        generalize H1 = H at hP hS ⊢
        refine lv_istore (lv' := [(8, .int r_13), (7, .int r_8), (6, .ref (ad 6)), (5, .int z_2), (4, .int z_1), (0, .ref h0), (1, .int x1), (2, .int x2), (3, .int x3)]) hx hb dX11_picked_140 hl (by decide +kernel) rfl (fun ls hl => ?_)
        refine lv_aload_n hx hb dX11_picked_142 rfl (lv_at hl 5 rfl) ?_
        refine lv_iload hx hb dX11_picked_143 (lv_at hl 1 rfl) ?_
        refine vp_callSi (W.runV (As := [.int r_8]) (rest := []) ⟨hx, hb, hml, hown, hts⟩ (c_X11_isMuch l D T h0 [.ref la, .ref cl, .ref p0, .ref p1, .ref p4, .int n] p1 f_16 r_8 rfl (by first | decide | omega)) (cwV 1 hts gX11_picked_X11_isMuch rfl rfl rfl hv_X11_isMuch ⟨(show _ ≤ (2 * d + 7 : Nat) from by (try dsimp only); omega), (show _ ≤ (64 * d + 280 : Nat) from by (try dsimp only); omega)⟩) (pR_V (q := (RX11, TX11, 6)) (ci := 8) (q0 := 0) hP hE rfl rfl [0, 9] rfl) rfl rfl hl.1 rfl (lv_room (Nat.le_of_ble_eq_true rfl)) dX11_picked_145 ⟨Nat.le_of_ble_eq_true rfl, Nat.le_of_ble_eq_true rfl⟩) (fun r_18 hr_18 => ?_)
        rcases bool_post hr_18 with ⟨c_19, rfl⟩ | ⟨c_19, rfl⟩
        · refine lv_if_ne (tgt := 160) hx hb dX11_picked_148 (by decide +kernel) (fun _ => ?_) (fun c9 => absurd c9 (by decide +kernel))
          refine lv_bipush (v := (-5)) hx hb dX11_picked_160 (by decide +kernel) ?_
          exact W.iret hx hb hr (fun t ht hW => ⟨⟨_, (f_15, f_16, f_17), rfl, ⟨(Or.inl (by decide +kernel)), (show (-5 : Int32) = pickW l9 f1 f2 f3 f4 f5 (VALW l9 f1 f2 f3 f4 f5) x1 x2 x3 from (pk_m (l := l9) (fk := f1) (fn := f2) (fc := f3) (fd := f4) (fe := f5) (V := (VALW l9 f1 f2 f3 f4 f5)) (x := x1) (t := x2) (k := x3) (by omega) (by omega) (show ¬ (f5 ((f3 (x1.toNatClampNeg)).toNatClampNeg)).toInt < x2.toInt from by rw [← ez_1, ← ez_4]; omega) (fun h9 => by rcases h9 with h9 | h9 <;> first | omega | exact absurd h9 (show ¬ (f5 ((f4 (x1.toNatClampNeg)).toNatClampNeg)).toInt < x2.toInt from by rw [← ez_2, ← ez_6]; omega)) (by rw [(show (VALW l9 f1 f2 f3 f4 f5) (f3 (x1.toNatClampNeg)) x2 x3 = (f_15 (r_8.toNatClampNeg), f_16 (r_8.toNatClampNeg)) from by rw [← ez_1]; exact hv_r_8.symm), (show (VALW l9 f1 f2 f3 f4 f5) (f4 (x1.toNatClampNeg)) x2 x3 = (f_15 (r_13.toNatClampNeg), f_16 (r_13.toNatClampNeg)) from by rw [← ez_2]; exact hv_r_13.symm)]; first | exact Or.inl (show (f_16 (r_8.toNatClampNeg)).toInt = 0 from by omega) | exact Or.inr (show (f_16 (r_13.toNatClampNeg)).toInt = 0 from by omega))).symm), hst⟩, by rw [ht]; exact hP.sub [0, 1, 2, 3, 4, 5, 6, 7, 8, 9, 10] rfl, hD.sub [0, 1, 2, 3, 4, 5, 6, 7, 8, 9, 10] (by decide +kernel) rfl⟩, hS.F ht⟩) hS.2.2 dX11_picked_162
        · refine lv_if_ne (tgt := 160) hx hb dX11_picked_148 (by decide +kernel) (fun c9 => absurd c9 (by decide +kernel)) (fun _ => ?_)
          refine lv_aload_n hx hb dX11_picked_151 rfl (lv_at hl 5 rfl) ?_
          refine lv_iload hx hb dX11_picked_152 (lv_at hl 0 rfl) ?_
          refine vp_callSi (W.runV (As := [.int r_13]) (rest := []) ⟨hx, hb, hml, hown, hts⟩ (c_X11_isMuch l D T h0 [.ref la, .ref cl, .ref p0, .ref p1, .ref p4, .int n] p1 f_16 r_13 rfl (by first | decide | omega)) (cwV 1 hts gX11_picked_X11_isMuch rfl rfl rfl hv_X11_isMuch ⟨(show _ ≤ (2 * d + 7 : Nat) from by (try dsimp only); omega), (show _ ≤ (64 * d + 280 : Nat) from by (try dsimp only); omega)⟩) (pR_V (q := (RX11, TX11, 6)) (ci := 8) (q0 := 0) hP hE rfl rfl [0, 9] rfl) rfl rfl hl.1 rfl (lv_room (Nat.le_of_ble_eq_true rfl)) dX11_picked_154 ⟨Nat.le_of_ble_eq_true rfl, Nat.le_of_ble_eq_true rfl⟩) (fun r_20 hr_20 => ?_)
          rcases bool_post hr_20 with ⟨c_21, rfl⟩ | ⟨c_21, rfl⟩
          · refine lv_if_eq (tgt := 163) hx hb dX11_picked_157 (by decide +kernel) (fun c9 => absurd c9 (by decide +kernel)) (fun _ => ?_)
            refine lv_bipush (v := (-5)) hx hb dX11_picked_160 (by decide +kernel) ?_
            exact W.iret hx hb hr (fun t ht hW => ⟨⟨_, (f_15, f_16, f_17), rfl, ⟨(Or.inl (by decide +kernel)), (show (-5 : Int32) = pickW l9 f1 f2 f3 f4 f5 (VALW l9 f1 f2 f3 f4 f5) x1 x2 x3 from (pk_m (l := l9) (fk := f1) (fn := f2) (fc := f3) (fd := f4) (fe := f5) (V := (VALW l9 f1 f2 f3 f4 f5)) (x := x1) (t := x2) (k := x3) (by omega) (by omega) (show ¬ (f5 ((f3 (x1.toNatClampNeg)).toNatClampNeg)).toInt < x2.toInt from by rw [← ez_1, ← ez_4]; omega) (fun h9 => by rcases h9 with h9 | h9 <;> first | omega | exact absurd h9 (show ¬ (f5 ((f4 (x1.toNatClampNeg)).toNatClampNeg)).toInt < x2.toInt from by rw [← ez_2, ← ez_6]; omega)) (by rw [(show (VALW l9 f1 f2 f3 f4 f5) (f3 (x1.toNatClampNeg)) x2 x3 = (f_15 (r_8.toNatClampNeg), f_16 (r_8.toNatClampNeg)) from by rw [← ez_1]; exact hv_r_8.symm), (show (VALW l9 f1 f2 f3 f4 f5) (f4 (x1.toNatClampNeg)) x2 x3 = (f_15 (r_13.toNatClampNeg), f_16 (r_13.toNatClampNeg)) from by rw [← ez_2]; exact hv_r_13.symm)]; first | exact Or.inl (show (f_16 (r_8.toNatClampNeg)).toInt = 0 from by omega) | exact Or.inr (show (f_16 (r_13.toNatClampNeg)).toInt = 0 from by omega))).symm), hst⟩, by rw [ht]; exact hP.sub [0, 1, 2, 3, 4, 5, 6, 7, 8, 9, 10] rfl, hD.sub [0, 1, 2, 3, 4, 5, 6, 7, 8, 9, 10] (by decide +kernel) rfl⟩, hS.F ht⟩) hS.2.2 dX11_picked_162
          · refine lv_if_eq (tgt := 163) hx hb dX11_picked_157 (by decide +kernel) (fun _ => ?_) (fun c9 => absurd c9 (by decide +kernel))
            refine lv_aload_n hx hb dX11_picked_163 rfl (lv_at hl 5 rfl) ?_
            refine lv_iload hx hb dX11_picked_164 (lv_at hl 0 rfl) ?_
            refine lv_iload hx hb dX11_picked_166 (lv_at hl 1 rfl) ?_
            refine vp_callSi (W.runV (As := [.int r_13, .int r_8]) (rest := []) ⟨hx, hb, hml, hown, hts⟩ (c_X11_order l D T h0 [.ref la, .ref cl, .ref p0, .ref p1, .ref p4, .int n] p1 f_16 p0 f_15 r_13 r_8 rfl rfl (by first | decide | omega) (by first | decide | omega) (by first | omega | assumption | decide) (by first | omega | assumption | decide)) (cwV 2 hts gX11_picked_X11_order rfl rfl rfl hv_X11_order ⟨(show _ ≤ (2 * d + 7 : Nat) from by (try dsimp only); omega), (show _ ≤ (64 * d + 280 : Nat) from by (try dsimp only); omega)⟩) (pR_V (q := (RX11, TX11, 6)) (ci := 8) (q0 := 0) hP hE rfl rfl [0, 9, 8] rfl) rfl rfl hl.1 rfl (lv_room (Nat.le_of_ble_eq_true rfl)) dX11_picked_168 ⟨Nat.le_of_ble_eq_true rfl, Nat.le_of_ble_eq_true rfl⟩) (fun r_22 hr_22 => ?_)
            refine lv_istore (lv' := [(9, .int r_22), (8, .int r_13), (7, .int r_8), (6, .ref (ad 6)), (5, .int z_2), (4, .int z_1), (0, .ref h0), (1, .int x1), (2, .int x2), (3, .int x3)]) hx hb dX11_picked_171 hl (by decide +kernel) rfl (fun ls hl => ?_)
            refine lv_aload hx hb dX11_picked_173 (lv_at hl 3 rfl) ?_
            refine va_gets (v := .ref (ad 6)) hx hb (hV.1.1.1 6 (by decide +kernel)).1 hS hown (hts (.fieldLink RX11 126 "ClauseBook$Kind" "BETTER" "LClauseBook$Kind;") (List.mem_of_getElem? (i := 10) rfl)) (fun _ h9 => h9) dX11_picked_175 ?_
            refine lv_acmp_ne (rx := some (ad 6)) (ry := some (ad 6)) (tgt := 189) hx hb dX11_picked_178 (by decide +kernel) (fun c9 => absurd c9 (not_not_intro rfl)) (fun _ => ?_)
            refine lv_iload hx hb dX11_picked_181 (lv_at hl 0 rfl) ?_
            refine lv_if_le (tgt := 199) hx hb dX11_picked_183 (by decide +kernel) (fun c_23 => ?_) (fun c_23 => ?_)
            · rw [fa_le] at c_23
              try rw [ti_0] at c_23
              refine lv_iload hx hb dX11_picked_199 (lv_at hl 5 rfl) ?_
              exact W.iret hx hb hr (fun t ht hW => ⟨⟨_, (f_15, f_16, f_17), rfl, ⟨(Or.inr (by omega)), (show z_1 = pickW l9 f1 f2 f3 f4 f5 (VALW l9 f1 f2 f3 f4 f5) x1 x2 x3 from (ez_1.trans (pk_n (l := l9) (fk := f1) (fn := f2) (fc := f3) (fd := f4) (fe := f5) (V := (VALW l9 f1 f2 f3 f4 f5)) (x := x1) (t := x2) (k := x3) (by omega) (by omega) (show ¬ (f5 ((f3 (x1.toNatClampNeg)).toNatClampNeg)).toInt < x2.toInt from by rw [← ez_1, ← ez_4]; omega) (fun h9 => by rcases h9 with h9 | h9 <;> first | omega | exact absurd h9 (show ¬ (f5 ((f4 (x1.toNatClampNeg)).toNatClampNeg)).toInt < x2.toInt from by rw [← ez_2, ← ez_6]; omega)) (by rw [(show (VALW l9 f1 f2 f3 f4 f5) (f3 (x1.toNatClampNeg)) x2 x3 = (f_15 (r_8.toNatClampNeg), f_16 (r_8.toNatClampNeg)) from by rw [← ez_1]; exact hv_r_8.symm), (show (VALW l9 f1 f2 f3 f4 f5) (f4 (x1.toNatClampNeg)) x2 x3 = (f_15 (r_13.toNatClampNeg), f_16 (r_13.toNatClampNeg)) from by rw [← ez_2]; exact hv_r_13.symm)]; intro h9; rcases h9 with h9 | h9 <;> first | exact absurd (show (f_16 (r_8.toNatClampNeg)).toInt = 0 from h9) (by omega) | exact absurd (show (f_16 (r_13.toNatClampNeg)).toInt = 0 from h9) (by omega)) (by rw [(show (VALW l9 f1 f2 f3 f4 f5) (f3 (x1.toNatClampNeg)) x2 x3 = (f_15 (r_8.toNatClampNeg), f_16 (r_8.toNatClampNeg)) from by rw [← ez_1]; exact hv_r_8.symm), (show (VALW l9 f1 f2 f3 f4 f5) (f4 (x1.toNatClampNeg)) x2 x3 = (f_15 (r_13.toNatClampNeg), f_16 (r_13.toNatClampNeg)) from by rw [← ez_2]; exact hv_r_13.symm)]; intro h9; rcases h9 with ⟨h8, h9⟩ | ⟨h8, h9⟩ <;> first | omega | (unfold cmpP at h9; rw [← hr_22] at h9; omega))).symm)), hst⟩, by rw [ht]; exact hP.sub [0, 1, 2, 3, 4, 5, 6, 7, 8, 9, 10] rfl, hD.sub [0, 1, 2, 3, 4, 5, 6, 7, 8, 9, 10] (by decide +kernel) rfl⟩, hS.F ht⟩) hS.2.2 dX11_picked_201
            · rw [fa_le] at c_23
              try rw [ti_0] at c_23
              refine lv_goto (tgt := 194) hx hb dX11_picked_186 (by decide +kernel) ?_
              refine lv_iload hx hb dX11_picked_194 (lv_at hl 4 rfl) ?_
              refine lv_goto (tgt := 201) hx hb dX11_picked_196 (by decide +kernel) ?_
              exact W.iret hx hb hr (fun t ht hW => ⟨⟨_, (f_15, f_16, f_17), rfl, ⟨(Or.inr (by omega)), (show z_2 = pickW l9 f1 f2 f3 f4 f5 (VALW l9 f1 f2 f3 f4 f5) x1 x2 x3 from (ez_2.trans (pk_y (l := l9) (fk := f1) (fn := f2) (fc := f3) (fd := f4) (fe := f5) (V := (VALW l9 f1 f2 f3 f4 f5)) (x := x1) (t := x2) (k := x3) (by omega) (by omega) (show ¬ (f5 ((f3 (x1.toNatClampNeg)).toNatClampNeg)).toInt < x2.toInt from by rw [← ez_1, ← ez_4]; omega) (fun h9 => by rcases h9 with h9 | h9 <;> first | omega | exact absurd h9 (show ¬ (f5 ((f4 (x1.toNatClampNeg)).toNatClampNeg)).toInt < x2.toInt from by rw [← ez_2, ← ez_6]; omega)) (by rw [(show (VALW l9 f1 f2 f3 f4 f5) (f3 (x1.toNatClampNeg)) x2 x3 = (f_15 (r_8.toNatClampNeg), f_16 (r_8.toNatClampNeg)) from by rw [← ez_1]; exact hv_r_8.symm), (show (VALW l9 f1 f2 f3 f4 f5) (f4 (x1.toNatClampNeg)) x2 x3 = (f_15 (r_13.toNatClampNeg), f_16 (r_13.toNatClampNeg)) from by rw [← ez_2]; exact hv_r_13.symm)]; intro h9; rcases h9 with h9 | h9 <;> first | exact absurd (show (f_16 (r_8.toNatClampNeg)).toInt = 0 from h9) (by omega) | exact absurd (show (f_16 (r_13.toNatClampNeg)).toInt = 0 from h9) (by omega)) (by rw [(show (VALW l9 f1 f2 f3 f4 f5) (f3 (x1.toNatClampNeg)) x2 x3 = (f_15 (r_8.toNatClampNeg), f_16 (r_8.toNatClampNeg)) from by rw [← ez_1]; exact hv_r_8.symm), (show (VALW l9 f1 f2 f3 f4 f5) (f4 (x1.toNatClampNeg)) x2 x3 = (f_15 (r_13.toNatClampNeg), f_16 (r_13.toNatClampNeg)) from by rw [← ez_2]; exact hv_r_13.symm)]; first | exact Or.inl ⟨by omega, (by unfold cmpP; rw [← hr_22]; omega)⟩ | exact Or.inr ⟨by omega, (by unfold cmpP; rw [← hr_22]; omega)⟩)).symm)), hst⟩, by rw [ht]; exact hP.sub [0, 1, 2, 3, 4, 5, 6, 7, 8, 9, 10] rfl, hD.sub [0, 1, 2, 3, 4, 5, 6, 7, 8, 9, 10] (by decide +kernel) rfl⟩, hS.F ht⟩) hS.2.2 dX11_picked_201
      · rw [fa_le] at c_7
        refine lv_iload hx hb dX11_picked_119 (lv_at hl 2 rfl) ?_
        exact W.iret hx hb hr (fun t ht hW => ⟨⟨_, (g0, g1, g4), rfl, ⟨(Or.inr (by omega)), (show z_1 = pickW l9 f1 f2 f3 f4 f5 (VALW l9 f1 f2 f3 f4 f5) x1 x2 x3 from (ez_1.trans (pk_d (l := l9) (fk := f1) (fn := f2) (fc := f3) (fd := f4) (fe := f5) (V := (VALW l9 f1 f2 f3 f4 f5)) (x := x1) (t := x2) (k := x3) (by omega) (by omega) (show ¬ (f5 ((f3 (x1.toNatClampNeg)).toNatClampNeg)).toInt < x2.toInt from by rw [← ez_1, ← ez_4]; omega) (by first | exact Or.inl (by omega) | exact Or.inr (show (f5 ((f4 (x1.toNatClampNeg)).toNatClampNeg)).toInt < x2.toInt from by rw [← ez_2, ← ez_6]; omega))).symm)), hst⟩, by rw [ht]; exact hP.sub [0, 1, 2, 3, 4, 5, 6, 7, 8, 9, 10] rfl, hD.sub [0, 1, 2, 3, 4, 5, 6, 7, 8, 9, 10] (by decide +kernel) rfl⟩, hS.F ht⟩) hS.2.2 dX11_picked_121
    · rw [fa_le] at c_5
      refine lv_iload hx hb dX11_picked_94 (lv_at hl 1 rfl) ?_
      exact W.iret hx hb hr (fun t ht hW => ⟨⟨_, (g0, g1, g4), rfl, ⟨(Or.inr (by omega)), (show z_2 = pickW l9 f1 f2 f3 f4 f5 (VALW l9 f1 f2 f3 f4 f5) x1 x2 x3 from (ez_2.trans (pk_c (l := l9) (fk := f1) (fn := f2) (fc := f3) (fd := f4) (fe := f5) (V := (VALW l9 f1 f2 f3 f4 f5)) (x := x1) (t := x2) (k := x3) (by omega) (by omega) (show (f5 ((f3 (x1.toNatClampNeg)).toNatClampNeg)).toInt < x2.toInt from by rw [← ez_1, ← ez_4]; omega)).symm)), hst⟩, by rw [ht]; exact hP.sub [0, 1, 2, 3, 4, 5, 6, 7, 8, 9, 10] rfl, hD.sub [0, 1, 2, 3, 4, 5, 6, 7, 8, 9, 10] (by decide +kernel) rfl⟩, hS.F ht⟩) hS.2.2 dX11_picked_96
  · refine W.eq (g2 := F0 m 30 ls [.ref (ad 7)]) (by rw [hk9]) ?_
    have hc9 : 0 ≤ z_1.toInt ∧ z_1.toInt < x1.toInt := by
      have h := (hok _ (in24 (x := x1) (by omega)).1).2.1 (by rw [hk9]; decide)
      have h2 := (in24 (x := x1) (by omega)).2
      rw [ez_1]
      omega
    have hd9 : 0 ≤ (f4 (x1.toNatClampNeg)).toInt ∧ (f4 (x1.toNatClampNeg)).toInt < x1.toInt := by
      have h := (hok _ (in24 (x := x1) (by omega)).1).2.2.1 (by rw [hk9]; decide)
      have h2 := (in24 (x := x1) (by omega)).2
      omega
    have hd8 : 0 ≤ z_2.toInt ∧ z_2.toInt < x1.toInt := by rw [ez_2]; exact hd9
    refine lv_astore (lv' := [(6, .ref (ad 7)), (5, .int z_2), (4, .int z_1), (0, .ref h0), (1, .int x1), (2, .int x2), (3, .int x3)]) hx hb dX11_picked_30 hl (by decide +kernel) rfl (fun ls hl => ?_)
    refine lv_aload hx hb dX11_picked_32 (lv_at hl 0 rfl) ?_
    refine va_gets (v := .ref (ad 8)) hx hb (hV.1.1.1 8 (by decide +kernel)).1 hS hown (hts (.fieldLink RX11 117 "ClauseBook$Kind" "UNTIL" "LClauseBook$Kind;") (List.mem_of_getElem? (i := 4) rfl)) (fun _ h9 => h9) dX11_picked_34 ?_
    refine lv_acmp_ne (rx := some (ad 7)) (ry := some (ad 8)) (tgt := 43) hx hb dX11_picked_37 (by decide +kernel) (fun _ => ?_) (fun c9 => absurd c9 (fun h => absurd (hV.1.1.2 7 8 (by decide +kernel) (by decide +kernel) (Option.some.inj h)) (by decide +kernel)))
    refine lv_aload hx hb dX11_picked_43 (lv_at hl 0 rfl) ?_
    refine va_gets (v := .ref (ad 12)) hx hb (hV.1.1.1 12 (by decide +kernel)).1 hS hown (hts (.fieldLink RX11 120 "ClauseBook$Kind" "WHERE" "LClauseBook$Kind;") (List.mem_of_getElem? (i := 5) rfl)) (fun _ h9 => h9) dX11_picked_45 ?_
    refine lv_acmp_ne (rx := some (ad 7)) (ry := some (ad 12)) (tgt := 80) hx hb dX11_picked_48 (by decide +kernel) (fun _ => ?_) (fun c9 => absurd c9 (fun h => absurd (hV.1.1.2 7 12 (by decide +kernel) (by decide +kernel) (Option.some.inj h)) (by decide +kernel)))
    refine lv_iload_n hx hb dX11_picked_80 rfl (lv_at hl 5 rfl) ?_
    refine lv_aload_n hx hb dX11_picked_81 rfl (lv_at hl 3 rfl) ?_
    refine va_get (D := D) (ci := 8) (v := .ref cl) (C := RX11) (T := TX11) (N := 6) hx hb hts in_X11_picked_X11 hown hE.1 hP 0 rfl rfl 1 (by decide +kernel) (hts (.fieldLink RX11 30 "ClauseBook$Worth" "clauses" "LClauseBook$Clauses;") (List.mem_of_getElem? (i := 1) rfl)) (fun _ h9 => h9) rfl dX11_picked_82 ?_
    refine va_get (D := D) (ci := 1) (v := .ref c5) (C := RX2) (T := TX2) (N := 8) hx hb hts in_X11_picked_X2 hown hE.1 hP 2 rfl rfl 5 (by decide +kernel) (hts (.fieldLink RX11 45 "ClauseBook$Clauses" "end" "[I") (List.mem_of_getElem? (i := 8) rfl)) (fun _ h9 => h9) rfl dX11_picked_85 ?_
    refine lv_iload hx hb dX11_picked_88 (lv_at hl 2 rfl) ?_
    refine va_iald hx hb hE.1 hP 7 0 rfl rfl (by rw [vp_in_iff]; first | omega | (subst_vars; omega)) dX11_picked_90 ?_
    refine lv_topi (fun z_24 ez_24 => ?_)
    refine lv_icmp_le (tgt := 97) hx hb dX11_picked_91 (by decide +kernel) (fun c_25 => ?_) (fun c_25 => ?_)
    · rw [fa_le] at c_25
      refine lv_aload hx hb dX11_picked_97 (lv_at hl 0 rfl) ?_
      refine va_gets (v := .ref (ad 9)) hx hb (hV.1.1.1 9 (by decide +kernel)).1 hS hown (hts (.fieldLink RX11 123 "ClauseBook$Kind" "THEN" "LClauseBook$Kind;") (List.mem_of_getElem? (i := 9) rfl)) (fun _ h9 => h9) dX11_picked_99 ?_
      refine lv_acmp_eq (rx := some (ad 7)) (ry := some (ad 9)) (tgt := 119) hx hb dX11_picked_102 (by decide +kernel) (fun c9 => absurd c9 (fun h => absurd (hV.1.1.2 7 9 (by decide +kernel) (by decide +kernel) (Option.some.inj h)) (by decide +kernel))) (fun _ => ?_)
      refine lv_iload_n hx hb dX11_picked_105 rfl (lv_at hl 5 rfl) ?_
      refine lv_aload_n hx hb dX11_picked_106 rfl (lv_at hl 3 rfl) ?_
      refine va_get (D := D) (ci := 8) (v := .ref cl) (C := RX11) (T := TX11) (N := 6) hx hb hts in_X11_picked_X11 hown hE.1 hP 0 rfl rfl 1 (by decide +kernel) (hts (.fieldLink RX11 30 "ClauseBook$Worth" "clauses" "LClauseBook$Clauses;") (List.mem_of_getElem? (i := 1) rfl)) (fun _ h9 => h9) rfl dX11_picked_107 ?_
      refine va_get (D := D) (ci := 1) (v := .ref c5) (C := RX2) (T := TX2) (N := 8) hx hb hts in_X11_picked_X2 hown hE.1 hP 2 rfl rfl 5 (by decide +kernel) (hts (.fieldLink RX11 45 "ClauseBook$Clauses" "end" "[I") (List.mem_of_getElem? (i := 8) rfl)) (fun _ h9 => h9) rfl dX11_picked_110 ?_
      refine lv_iload hx hb dX11_picked_113 (lv_at hl 1 rfl) ?_
      refine va_iald hx hb hE.1 hP 7 0 rfl rfl (by rw [vp_in_iff]; first | omega | (subst_vars; omega)) dX11_picked_115 ?_
      refine lv_topi (fun z_26 ez_26 => ?_)
      refine lv_icmp_le (tgt := 122) hx hb dX11_picked_116 (by decide +kernel) (fun c_27 => ?_) (fun c_27 => ?_)
      · rw [fa_le] at c_27
        refine lv_aload_n hx hb dX11_picked_122 rfl (lv_at hl 3 rfl) ?_
        refine lv_iload hx hb dX11_picked_123 (lv_at hl 2 rfl) ?_
        refine lv_iload_n hx hb dX11_picked_125 rfl (lv_at hl 5 rfl) ?_
        refine lv_iload_n hx hb dX11_picked_126 rfl (lv_at hl 6 rfl) ?_
        have hFc := va_free (wc := [(h0, .inr (8, [.ref la, .ref cl, .ref p0, .ref p1, .ref p4, .int n])), (la, .inr (5, [.int (l9 0), .int (l9 1), .int (l9 2), .int (l9 3), .int (l9 4), .int (l9 5), .int (l9 6)])), (cl, .inr (1, [.int n0, .ref c1, .ref c2, .ref c3, .ref c4, .ref c5, .ref c6, .ref c7])), (c1, .inl (T 0, 24, .inl f1)), (c2, .inl (T 0, 24, .inl f2)), (c3, .inl (T 0, 24, .inl f3)), (c4, .inl (T 0, 24, .inl f4)), (c5, .inl (T 0, 24, .inl f5)), (p0, .inl (T 1, 676, .inr (.inl g0))), (p1, .inl (T 1, 676, .inr (.inl g1))), (p4, .inl (T 0, 672, .inl g4))]) hD hS hA [0, 1, 2, 3, 4, 5, 6, 7, 8, 9, 10] rfl
        refine va_calli (va_runV (As := [.int z_1, .int x2, .int x3]) (rest := []) ⟨hx, hb, hml, hown, hts⟩ (hrec _ h0 la cl p0 p1 p4 n l9 n0 c1 c2 c3 c4 c5 c6 c7 f1 f2 f3 f4 f5 g0 g1 g4 z_1 x2 x3 (by omega) (by omega) (by omega) hok (by omega) hmm hlq (by omega)) (cwV 3 hts gX11_picked_X11_settle rfl rfl rfl hv_X11_settle ⟨(show _ ≤ (2 * d + 7 : Nat) from by (try dsimp only); omega), (show _ ≤ (64 * d + 280 : Nat) from by (try dsimp only); omega)⟩) (pWk_V (q := (RX11, TX11, 6)) (ci := 8) (q0 := 0) hP hE hD hV hS hFc rfl rfl [0, 1, 2, 3, 4, 5, 6, 7, 8, 9, 10] (by decide +kernel) rfl rfl) rfl rfl hl.1 rfl (lv_room (Nat.le_of_ble_eq_true rfl)) dX11_picked_127 ⟨Nat.le_of_ble_eq_true rfl, Nat.le_of_ble_eq_true rfl⟩) hS (fun q _ h => hFc q h) hFc (fun r_28 u_29 t H1 locs ht hvm hr_28 hB hz1 hk1 hS => ?_)
        obtain ⟨f_30, f_31, f_32⟩ := u_29
        obtain ⟨hqr_28, hsl_r_28, hfo_r_28, hstr_28⟩ := hr_28
        have hqr_28 : 0 ≤ r_28.toInt ∧ r_28.toInt < 672 := hqr_28
        have hsl_r_28 : r_28.toNatClampNeg = slN z_1 x2 x3 := hsl_r_28
        have hfo_r_28 : f_32 (slN z_1 x2 x3) = n := hfo_r_28
        have hsr_28 : stW (VALW l9 f1 f2 f3 f4 f5) n0 n (rgW z_1 x2) g0 g1 g4 f_30 f_31 f_32 := hstr_28
        have hst : stW (VALW l9 f1 f2 f3 f4 f5) n0 n (rgP x1) g0 g1 g4 f_30 f_31 f_32 := hst.tr hsr_28 (fun j9 h9 => rgp_c (by omega) h9)
        have hmm : memW (VALW l9 f1 f2 f3 f4 f5) n0 n f_30 f_31 f_32 := hst.1
        have hv_r_28 : (f_30 (r_28.toNatClampNeg), f_31 (r_28.toNatClampNeg)) = (VALW l9 f1 f2 f3 f4 f5) z_1 x2 x3 := hst.val (by omega) (by omega) (by first | (rw [ti_0]; omega) | omega) hsl_r_28 hfo_r_28
        have hb_r_28 : 0 ≤ (f_31 (r_28.toNatClampNeg)).toInt := val_nn (VAL_low hlq.1 hlq.2 31 _ _ _) hv_r_28
        obtain ⟨hP1, hD1⟩ := hB
        rw [ht] at hP1
        obtain ⟨hP, hD⟩ := va_repl [(h0, .inr (8, [.ref la, .ref cl, .ref p0, .ref p1, .ref p4, .int n])), (la, .inr (5, [.int (l9 0), .int (l9 1), .int (l9 2), .int (l9 3), .int (l9 4), .int (l9 5), .int (l9 6)])), (cl, .inr (1, [.int n0, .ref c1, .ref c2, .ref c3, .ref c4, .ref c5, .ref c6, .ref c7])), (c1, .inl (T 0, 24, .inl f1)), (c2, .inl (T 0, 24, .inl f2)), (c3, .inl (T 0, 24, .inl f3)), (c4, .inl (T 0, 24, .inl f4)), (c5, .inl (T 0, 24, .inl f5)), (p0, .inl (T 1, 676, .inr (.inl f_30))), (p1, .inl (T 1, 676, .inr (.inl f_31))), (p4, .inl (T 0, 672, .inl f_32))] hP hD [0, 1, 2, 3, 4, 5, 6, 7, 8, 9, 10] [0, 1, 2, 3, 4, 5, 6, 7, 8, 9, 10] rfl (by decide +kernel) rfl rfl rfl hk1 hP1
        clear hP1 hD1 hFc
        generalize H1 = H at hP hS ⊢
        refine lv_istore (lv' := [(7, .int r_28), (6, .ref (ad 7)), (5, .int z_2), (4, .int z_1), (0, .ref h0), (1, .int x1), (2, .int x2), (3, .int x3)]) hx hb dX11_picked_130 hl (by decide +kernel) rfl (fun ls hl => ?_)
        refine lv_aload_n hx hb dX11_picked_132 rfl (lv_at hl 4 rfl) ?_
        refine lv_iload hx hb dX11_picked_133 (lv_at hl 2 rfl) ?_
        refine lv_iload_n hx hb dX11_picked_135 rfl (lv_at hl 6 rfl) ?_
        refine lv_iload_n hx hb dX11_picked_136 rfl (lv_at hl 7 rfl) ?_
        have hFc := va_free (wc := [(h0, .inr (8, [.ref la, .ref cl, .ref p0, .ref p1, .ref p4, .int n])), (la, .inr (5, [.int (l9 0), .int (l9 1), .int (l9 2), .int (l9 3), .int (l9 4), .int (l9 5), .int (l9 6)])), (cl, .inr (1, [.int n0, .ref c1, .ref c2, .ref c3, .ref c4, .ref c5, .ref c6, .ref c7])), (c1, .inl (T 0, 24, .inl f1)), (c2, .inl (T 0, 24, .inl f2)), (c3, .inl (T 0, 24, .inl f3)), (c4, .inl (T 0, 24, .inl f4)), (c5, .inl (T 0, 24, .inl f5)), (p0, .inl (T 1, 676, .inr (.inl f_30))), (p1, .inl (T 1, 676, .inr (.inl f_31))), (p4, .inl (T 0, 672, .inl f_32))]) hD hS hA [0, 1, 2, 3, 4, 5, 6, 7, 8, 9, 10] rfl
        refine va_calli (va_runV (As := [.int z_2, .int x2, .int x3]) (rest := []) ⟨hx, hb, hml, hown, hts⟩ (hrec _ h0 la cl p0 p1 p4 n l9 n0 c1 c2 c3 c4 c5 c6 c7 f1 f2 f3 f4 f5 f_30 f_31 f_32 z_2 x2 x3 (by omega) (by omega) (by omega) hok (by omega) hmm hlq (by omega)) (cwV 3 hts gX11_picked_X11_settle rfl rfl rfl hv_X11_settle ⟨(show _ ≤ (2 * d + 7 : Nat) from by (try dsimp only); omega), (show _ ≤ (64 * d + 280 : Nat) from by (try dsimp only); omega)⟩) (pWk_V (q := (RX11, TX11, 6)) (ci := 8) (q0 := 0) hP hE hD hV hS hFc rfl rfl [0, 1, 2, 3, 4, 5, 6, 7, 8, 9, 10] (by decide +kernel) rfl rfl) rfl rfl hl.1 rfl (lv_room (Nat.le_of_ble_eq_true rfl)) dX11_picked_137 ⟨Nat.le_of_ble_eq_true rfl, Nat.le_of_ble_eq_true rfl⟩) hS (fun q _ h => hFc q h) hFc (fun r_33 u_34 t H1 locs ht hvm hr_33 hB hz1 hk1 hS => ?_)
        obtain ⟨f_35, f_36, f_37⟩ := u_34
        obtain ⟨hqr_33, hsl_r_33, hfo_r_33, hstr_33⟩ := hr_33
        have hqr_33 : 0 ≤ r_33.toInt ∧ r_33.toInt < 672 := hqr_33
        have hsl_r_33 : r_33.toNatClampNeg = slN z_2 x2 x3 := hsl_r_33
        have hfo_r_33 : f_37 (slN z_2 x2 x3) = n := hfo_r_33
        have hsr_33 : stW (VALW l9 f1 f2 f3 f4 f5) n0 n (rgW z_2 x2) f_30 f_31 f_32 f_35 f_36 f_37 := hstr_33
        have hst : stW (VALW l9 f1 f2 f3 f4 f5) n0 n (rgP x1) g0 g1 g4 f_35 f_36 f_37 := hst.tr hsr_33 (fun j9 h9 => rgp_c (by omega) h9)
        have hmm : memW (VALW l9 f1 f2 f3 f4 f5) n0 n f_35 f_36 f_37 := hst.1
        have hfo_r_28 : f_37 (slN z_1 x2 x3) = n := hsr_33.2.1 _ (slN_lt (by omega) (by omega) (by omega)) hfo_r_28
        have hv_r_28 : (f_35 (r_28.toNatClampNeg), f_36 (r_28.toNatClampNeg)) = (VALW l9 f1 f2 f3 f4 f5) z_1 x2 x3 := hst.val (by omega) (by omega) (by omega) hsl_r_28 hfo_r_28
        have hb_r_28 : 0 ≤ (f_36 (r_28.toNatClampNeg)).toInt := val_nn (VAL_low hlq.1 hlq.2 31 _ _ _) hv_r_28
        have hv_r_33 : (f_35 (r_33.toNatClampNeg), f_36 (r_33.toNatClampNeg)) = (VALW l9 f1 f2 f3 f4 f5) z_2 x2 x3 := hst.val (by omega) (by omega) (by first | (rw [ti_0]; omega) | omega) hsl_r_33 hfo_r_33
        have hb_r_33 : 0 ≤ (f_36 (r_33.toNatClampNeg)).toInt := val_nn (VAL_low hlq.1 hlq.2 31 _ _ _) hv_r_33
        obtain ⟨hP1, hD1⟩ := hB
        rw [ht] at hP1
        obtain ⟨hP, hD⟩ := va_repl [(h0, .inr (8, [.ref la, .ref cl, .ref p0, .ref p1, .ref p4, .int n])), (la, .inr (5, [.int (l9 0), .int (l9 1), .int (l9 2), .int (l9 3), .int (l9 4), .int (l9 5), .int (l9 6)])), (cl, .inr (1, [.int n0, .ref c1, .ref c2, .ref c3, .ref c4, .ref c5, .ref c6, .ref c7])), (c1, .inl (T 0, 24, .inl f1)), (c2, .inl (T 0, 24, .inl f2)), (c3, .inl (T 0, 24, .inl f3)), (c4, .inl (T 0, 24, .inl f4)), (c5, .inl (T 0, 24, .inl f5)), (p0, .inl (T 1, 676, .inr (.inl f_35))), (p1, .inl (T 1, 676, .inr (.inl f_36))), (p4, .inl (T 0, 672, .inl f_37))] hP hD [0, 1, 2, 3, 4, 5, 6, 7, 8, 9, 10] [0, 1, 2, 3, 4, 5, 6, 7, 8, 9, 10] rfl (by decide +kernel) rfl rfl rfl hk1 hP1
        clear hP1 hD1 hFc
        generalize H1 = H at hP hS ⊢
        refine lv_istore (lv' := [(8, .int r_33), (7, .int r_28), (6, .ref (ad 7)), (5, .int z_2), (4, .int z_1), (0, .ref h0), (1, .int x1), (2, .int x2), (3, .int x3)]) hx hb dX11_picked_140 hl (by decide +kernel) rfl (fun ls hl => ?_)
        refine lv_aload_n hx hb dX11_picked_142 rfl (lv_at hl 5 rfl) ?_
        refine lv_iload hx hb dX11_picked_143 (lv_at hl 1 rfl) ?_
        refine vp_callSi (W.runV (As := [.int r_28]) (rest := []) ⟨hx, hb, hml, hown, hts⟩ (c_X11_isMuch l D T h0 [.ref la, .ref cl, .ref p0, .ref p1, .ref p4, .int n] p1 f_36 r_28 rfl (by first | decide | omega)) (cwV 1 hts gX11_picked_X11_isMuch rfl rfl rfl hv_X11_isMuch ⟨(show _ ≤ (2 * d + 7 : Nat) from by (try dsimp only); omega), (show _ ≤ (64 * d + 280 : Nat) from by (try dsimp only); omega)⟩) (pR_V (q := (RX11, TX11, 6)) (ci := 8) (q0 := 0) hP hE rfl rfl [0, 9] rfl) rfl rfl hl.1 rfl (lv_room (Nat.le_of_ble_eq_true rfl)) dX11_picked_145 ⟨Nat.le_of_ble_eq_true rfl, Nat.le_of_ble_eq_true rfl⟩) (fun r_38 hr_38 => ?_)
        rcases bool_post hr_38 with ⟨c_39, rfl⟩ | ⟨c_39, rfl⟩
        · refine lv_if_ne (tgt := 160) hx hb dX11_picked_148 (by decide +kernel) (fun _ => ?_) (fun c9 => absurd c9 (by decide +kernel))
          refine lv_bipush (v := (-5)) hx hb dX11_picked_160 (by decide +kernel) ?_
          exact W.iret hx hb hr (fun t ht hW => ⟨⟨_, (f_35, f_36, f_37), rfl, ⟨(Or.inl (by decide +kernel)), (show (-5 : Int32) = pickW l9 f1 f2 f3 f4 f5 (VALW l9 f1 f2 f3 f4 f5) x1 x2 x3 from (pk_m (l := l9) (fk := f1) (fn := f2) (fc := f3) (fd := f4) (fe := f5) (V := (VALW l9 f1 f2 f3 f4 f5)) (x := x1) (t := x2) (k := x3) (by omega) (by omega) (show ¬ (f5 ((f3 (x1.toNatClampNeg)).toNatClampNeg)).toInt < x2.toInt from by rw [← ez_1, ← ez_24]; omega) (fun h9 => by rcases h9 with h9 | h9 <;> first | omega | exact absurd h9 (show ¬ (f5 ((f4 (x1.toNatClampNeg)).toNatClampNeg)).toInt < x2.toInt from by rw [← ez_2, ← ez_26]; omega)) (by rw [(show (VALW l9 f1 f2 f3 f4 f5) (f3 (x1.toNatClampNeg)) x2 x3 = (f_35 (r_28.toNatClampNeg), f_36 (r_28.toNatClampNeg)) from by rw [← ez_1]; exact hv_r_28.symm), (show (VALW l9 f1 f2 f3 f4 f5) (f4 (x1.toNatClampNeg)) x2 x3 = (f_35 (r_33.toNatClampNeg), f_36 (r_33.toNatClampNeg)) from by rw [← ez_2]; exact hv_r_33.symm)]; first | exact Or.inl (show (f_36 (r_28.toNatClampNeg)).toInt = 0 from by omega) | exact Or.inr (show (f_36 (r_33.toNatClampNeg)).toInt = 0 from by omega))).symm), hst⟩, by rw [ht]; exact hP.sub [0, 1, 2, 3, 4, 5, 6, 7, 8, 9, 10] rfl, hD.sub [0, 1, 2, 3, 4, 5, 6, 7, 8, 9, 10] (by decide +kernel) rfl⟩, hS.F ht⟩) hS.2.2 dX11_picked_162
        · refine lv_if_ne (tgt := 160) hx hb dX11_picked_148 (by decide +kernel) (fun c9 => absurd c9 (by decide +kernel)) (fun _ => ?_)
          refine lv_aload_n hx hb dX11_picked_151 rfl (lv_at hl 5 rfl) ?_
          refine lv_iload hx hb dX11_picked_152 (lv_at hl 0 rfl) ?_
          refine vp_callSi (W.runV (As := [.int r_33]) (rest := []) ⟨hx, hb, hml, hown, hts⟩ (c_X11_isMuch l D T h0 [.ref la, .ref cl, .ref p0, .ref p1, .ref p4, .int n] p1 f_36 r_33 rfl (by first | decide | omega)) (cwV 1 hts gX11_picked_X11_isMuch rfl rfl rfl hv_X11_isMuch ⟨(show _ ≤ (2 * d + 7 : Nat) from by (try dsimp only); omega), (show _ ≤ (64 * d + 280 : Nat) from by (try dsimp only); omega)⟩) (pR_V (q := (RX11, TX11, 6)) (ci := 8) (q0 := 0) hP hE rfl rfl [0, 9] rfl) rfl rfl hl.1 rfl (lv_room (Nat.le_of_ble_eq_true rfl)) dX11_picked_154 ⟨Nat.le_of_ble_eq_true rfl, Nat.le_of_ble_eq_true rfl⟩) (fun r_40 hr_40 => ?_)
          rcases bool_post hr_40 with ⟨c_41, rfl⟩ | ⟨c_41, rfl⟩
          · refine lv_if_eq (tgt := 163) hx hb dX11_picked_157 (by decide +kernel) (fun c9 => absurd c9 (by decide +kernel)) (fun _ => ?_)
            refine lv_bipush (v := (-5)) hx hb dX11_picked_160 (by decide +kernel) ?_
            exact W.iret hx hb hr (fun t ht hW => ⟨⟨_, (f_35, f_36, f_37), rfl, ⟨(Or.inl (by decide +kernel)), (show (-5 : Int32) = pickW l9 f1 f2 f3 f4 f5 (VALW l9 f1 f2 f3 f4 f5) x1 x2 x3 from (pk_m (l := l9) (fk := f1) (fn := f2) (fc := f3) (fd := f4) (fe := f5) (V := (VALW l9 f1 f2 f3 f4 f5)) (x := x1) (t := x2) (k := x3) (by omega) (by omega) (show ¬ (f5 ((f3 (x1.toNatClampNeg)).toNatClampNeg)).toInt < x2.toInt from by rw [← ez_1, ← ez_24]; omega) (fun h9 => by rcases h9 with h9 | h9 <;> first | omega | exact absurd h9 (show ¬ (f5 ((f4 (x1.toNatClampNeg)).toNatClampNeg)).toInt < x2.toInt from by rw [← ez_2, ← ez_26]; omega)) (by rw [(show (VALW l9 f1 f2 f3 f4 f5) (f3 (x1.toNatClampNeg)) x2 x3 = (f_35 (r_28.toNatClampNeg), f_36 (r_28.toNatClampNeg)) from by rw [← ez_1]; exact hv_r_28.symm), (show (VALW l9 f1 f2 f3 f4 f5) (f4 (x1.toNatClampNeg)) x2 x3 = (f_35 (r_33.toNatClampNeg), f_36 (r_33.toNatClampNeg)) from by rw [← ez_2]; exact hv_r_33.symm)]; first | exact Or.inl (show (f_36 (r_28.toNatClampNeg)).toInt = 0 from by omega) | exact Or.inr (show (f_36 (r_33.toNatClampNeg)).toInt = 0 from by omega))).symm), hst⟩, by rw [ht]; exact hP.sub [0, 1, 2, 3, 4, 5, 6, 7, 8, 9, 10] rfl, hD.sub [0, 1, 2, 3, 4, 5, 6, 7, 8, 9, 10] (by decide +kernel) rfl⟩, hS.F ht⟩) hS.2.2 dX11_picked_162
          · refine lv_if_eq (tgt := 163) hx hb dX11_picked_157 (by decide +kernel) (fun _ => ?_) (fun c9 => absurd c9 (by decide +kernel))
            refine lv_aload_n hx hb dX11_picked_163 rfl (lv_at hl 5 rfl) ?_
            refine lv_iload hx hb dX11_picked_164 (lv_at hl 0 rfl) ?_
            refine lv_iload hx hb dX11_picked_166 (lv_at hl 1 rfl) ?_
            refine vp_callSi (W.runV (As := [.int r_33, .int r_28]) (rest := []) ⟨hx, hb, hml, hown, hts⟩ (c_X11_order l D T h0 [.ref la, .ref cl, .ref p0, .ref p1, .ref p4, .int n] p1 f_36 p0 f_35 r_33 r_28 rfl rfl (by first | decide | omega) (by first | decide | omega) (by first | omega | assumption | decide) (by first | omega | assumption | decide)) (cwV 2 hts gX11_picked_X11_order rfl rfl rfl hv_X11_order ⟨(show _ ≤ (2 * d + 7 : Nat) from by (try dsimp only); omega), (show _ ≤ (64 * d + 280 : Nat) from by (try dsimp only); omega)⟩) (pR_V (q := (RX11, TX11, 6)) (ci := 8) (q0 := 0) hP hE rfl rfl [0, 9, 8] rfl) rfl rfl hl.1 rfl (lv_room (Nat.le_of_ble_eq_true rfl)) dX11_picked_168 ⟨Nat.le_of_ble_eq_true rfl, Nat.le_of_ble_eq_true rfl⟩) (fun r_42 hr_42 => ?_)
            refine lv_istore (lv' := [(9, .int r_42), (8, .int r_33), (7, .int r_28), (6, .ref (ad 7)), (5, .int z_2), (4, .int z_1), (0, .ref h0), (1, .int x1), (2, .int x2), (3, .int x3)]) hx hb dX11_picked_171 hl (by decide +kernel) rfl (fun ls hl => ?_)
            refine lv_aload hx hb dX11_picked_173 (lv_at hl 3 rfl) ?_
            refine va_gets (v := .ref (ad 6)) hx hb (hV.1.1.1 6 (by decide +kernel)).1 hS hown (hts (.fieldLink RX11 126 "ClauseBook$Kind" "BETTER" "LClauseBook$Kind;") (List.mem_of_getElem? (i := 10) rfl)) (fun _ h9 => h9) dX11_picked_175 ?_
            refine lv_acmp_ne (rx := some (ad 7)) (ry := some (ad 6)) (tgt := 189) hx hb dX11_picked_178 (by decide +kernel) (fun _ => ?_) (fun c9 => absurd c9 (fun h => absurd (hV.1.1.2 7 6 (by decide +kernel) (by decide +kernel) (Option.some.inj h)) (by decide +kernel)))
            refine lv_iload hx hb dX11_picked_189 (lv_at hl 0 rfl) ?_
            refine lv_if_ge (tgt := 199) hx hb dX11_picked_191 (by decide +kernel) (fun c_43 => ?_) (fun c_43 => ?_)
            · rw [fa_le] at c_43
              try rw [ti_0] at c_43
              refine lv_iload hx hb dX11_picked_199 (lv_at hl 5 rfl) ?_
              exact W.iret hx hb hr (fun t ht hW => ⟨⟨_, (f_35, f_36, f_37), rfl, ⟨(Or.inr (by omega)), (show z_1 = pickW l9 f1 f2 f3 f4 f5 (VALW l9 f1 f2 f3 f4 f5) x1 x2 x3 from (ez_1.trans (pk_n (l := l9) (fk := f1) (fn := f2) (fc := f3) (fd := f4) (fe := f5) (V := (VALW l9 f1 f2 f3 f4 f5)) (x := x1) (t := x2) (k := x3) (by omega) (by omega) (show ¬ (f5 ((f3 (x1.toNatClampNeg)).toNatClampNeg)).toInt < x2.toInt from by rw [← ez_1, ← ez_24]; omega) (fun h9 => by rcases h9 with h9 | h9 <;> first | omega | exact absurd h9 (show ¬ (f5 ((f4 (x1.toNatClampNeg)).toNatClampNeg)).toInt < x2.toInt from by rw [← ez_2, ← ez_26]; omega)) (by rw [(show (VALW l9 f1 f2 f3 f4 f5) (f3 (x1.toNatClampNeg)) x2 x3 = (f_35 (r_28.toNatClampNeg), f_36 (r_28.toNatClampNeg)) from by rw [← ez_1]; exact hv_r_28.symm), (show (VALW l9 f1 f2 f3 f4 f5) (f4 (x1.toNatClampNeg)) x2 x3 = (f_35 (r_33.toNatClampNeg), f_36 (r_33.toNatClampNeg)) from by rw [← ez_2]; exact hv_r_33.symm)]; intro h9; rcases h9 with h9 | h9 <;> first | exact absurd (show (f_36 (r_28.toNatClampNeg)).toInt = 0 from h9) (by omega) | exact absurd (show (f_36 (r_33.toNatClampNeg)).toInt = 0 from h9) (by omega)) (by rw [(show (VALW l9 f1 f2 f3 f4 f5) (f3 (x1.toNatClampNeg)) x2 x3 = (f_35 (r_28.toNatClampNeg), f_36 (r_28.toNatClampNeg)) from by rw [← ez_1]; exact hv_r_28.symm), (show (VALW l9 f1 f2 f3 f4 f5) (f4 (x1.toNatClampNeg)) x2 x3 = (f_35 (r_33.toNatClampNeg), f_36 (r_33.toNatClampNeg)) from by rw [← ez_2]; exact hv_r_33.symm)]; intro h9; rcases h9 with ⟨h8, h9⟩ | ⟨h8, h9⟩ <;> first | omega | (unfold cmpP at h9; rw [← hr_42] at h9; omega))).symm)), hst⟩, by rw [ht]; exact hP.sub [0, 1, 2, 3, 4, 5, 6, 7, 8, 9, 10] rfl, hD.sub [0, 1, 2, 3, 4, 5, 6, 7, 8, 9, 10] (by decide +kernel) rfl⟩, hS.F ht⟩) hS.2.2 dX11_picked_201
            · rw [fa_le] at c_43
              try rw [ti_0] at c_43
              refine lv_iload hx hb dX11_picked_194 (lv_at hl 4 rfl) ?_
              refine lv_goto (tgt := 201) hx hb dX11_picked_196 (by decide +kernel) ?_
              exact W.iret hx hb hr (fun t ht hW => ⟨⟨_, (f_35, f_36, f_37), rfl, ⟨(Or.inr (by omega)), (show z_2 = pickW l9 f1 f2 f3 f4 f5 (VALW l9 f1 f2 f3 f4 f5) x1 x2 x3 from (ez_2.trans (pk_y (l := l9) (fk := f1) (fn := f2) (fc := f3) (fd := f4) (fe := f5) (V := (VALW l9 f1 f2 f3 f4 f5)) (x := x1) (t := x2) (k := x3) (by omega) (by omega) (show ¬ (f5 ((f3 (x1.toNatClampNeg)).toNatClampNeg)).toInt < x2.toInt from by rw [← ez_1, ← ez_24]; omega) (fun h9 => by rcases h9 with h9 | h9 <;> first | omega | exact absurd h9 (show ¬ (f5 ((f4 (x1.toNatClampNeg)).toNatClampNeg)).toInt < x2.toInt from by rw [← ez_2, ← ez_26]; omega)) (by rw [(show (VALW l9 f1 f2 f3 f4 f5) (f3 (x1.toNatClampNeg)) x2 x3 = (f_35 (r_28.toNatClampNeg), f_36 (r_28.toNatClampNeg)) from by rw [← ez_1]; exact hv_r_28.symm), (show (VALW l9 f1 f2 f3 f4 f5) (f4 (x1.toNatClampNeg)) x2 x3 = (f_35 (r_33.toNatClampNeg), f_36 (r_33.toNatClampNeg)) from by rw [← ez_2]; exact hv_r_33.symm)]; intro h9; rcases h9 with h9 | h9 <;> first | exact absurd (show (f_36 (r_28.toNatClampNeg)).toInt = 0 from h9) (by omega) | exact absurd (show (f_36 (r_33.toNatClampNeg)).toInt = 0 from h9) (by omega)) (by rw [(show (VALW l9 f1 f2 f3 f4 f5) (f3 (x1.toNatClampNeg)) x2 x3 = (f_35 (r_28.toNatClampNeg), f_36 (r_28.toNatClampNeg)) from by rw [← ez_1]; exact hv_r_28.symm), (show (VALW l9 f1 f2 f3 f4 f5) (f4 (x1.toNatClampNeg)) x2 x3 = (f_35 (r_33.toNatClampNeg), f_36 (r_33.toNatClampNeg)) from by rw [← ez_2]; exact hv_r_33.symm)]; first | exact Or.inl ⟨by omega, (by unfold cmpP; rw [← hr_42]; omega)⟩ | exact Or.inr ⟨by omega, (by unfold cmpP; rw [← hr_42]; omega)⟩)).symm)), hst⟩, by rw [ht]; exact hP.sub [0, 1, 2, 3, 4, 5, 6, 7, 8, 9, 10] rfl, hD.sub [0, 1, 2, 3, 4, 5, 6, 7, 8, 9, 10] (by decide +kernel) rfl⟩, hS.F ht⟩) hS.2.2 dX11_picked_201
      · rw [fa_le] at c_27
        refine lv_iload hx hb dX11_picked_119 (lv_at hl 2 rfl) ?_
        exact W.iret hx hb hr (fun t ht hW => ⟨⟨_, (g0, g1, g4), rfl, ⟨(Or.inr (by omega)), (show z_1 = pickW l9 f1 f2 f3 f4 f5 (VALW l9 f1 f2 f3 f4 f5) x1 x2 x3 from (ez_1.trans (pk_d (l := l9) (fk := f1) (fn := f2) (fc := f3) (fd := f4) (fe := f5) (V := (VALW l9 f1 f2 f3 f4 f5)) (x := x1) (t := x2) (k := x3) (by omega) (by omega) (show ¬ (f5 ((f3 (x1.toNatClampNeg)).toNatClampNeg)).toInt < x2.toInt from by rw [← ez_1, ← ez_24]; omega) (by first | exact Or.inl (by omega) | exact Or.inr (show (f5 ((f4 (x1.toNatClampNeg)).toNatClampNeg)).toInt < x2.toInt from by rw [← ez_2, ← ez_26]; omega))).symm)), hst⟩, by rw [ht]; exact hP.sub [0, 1, 2, 3, 4, 5, 6, 7, 8, 9, 10] rfl, hD.sub [0, 1, 2, 3, 4, 5, 6, 7, 8, 9, 10] (by decide +kernel) rfl⟩, hS.F ht⟩) hS.2.2 dX11_picked_121
    · rw [fa_le] at c_25
      refine lv_iload hx hb dX11_picked_94 (lv_at hl 1 rfl) ?_
      exact W.iret hx hb hr (fun t ht hW => ⟨⟨_, (g0, g1, g4), rfl, ⟨(Or.inr (by omega)), (show z_2 = pickW l9 f1 f2 f3 f4 f5 (VALW l9 f1 f2 f3 f4 f5) x1 x2 x3 from (ez_2.trans (pk_c (l := l9) (fk := f1) (fn := f2) (fc := f3) (fd := f4) (fe := f5) (V := (VALW l9 f1 f2 f3 f4 f5)) (x := x1) (t := x2) (k := x3) (by omega) (by omega) (show (f5 ((f3 (x1.toNatClampNeg)).toNatClampNeg)).toInt < x2.toInt from by rw [← ez_1, ← ez_24]; omega)).symm)), hst⟩, by rw [ht]; exact hP.sub [0, 1, 2, 3, 4, 5, 6, 7, 8, 9, 10] rfl, hD.sub [0, 1, 2, 3, 4, 5, 6, 7, 8, 9, 10] (by decide +kernel) rfl⟩, hS.F ht⟩) hS.2.2 dX11_picked_96
  · refine W.eq (g2 := F0 m 30 ls [.ref (ad 8)]) (by rw [hk9]) ?_
    have hc9 : 0 ≤ z_1.toInt ∧ z_1.toInt < x1.toInt := by
      have h := (hok _ (in24 (x := x1) (by omega)).1).2.1 (by rw [hk9]; decide)
      have h2 := (in24 (x := x1) (by omega)).2
      rw [ez_1]
      omega
    refine lv_astore (lv' := [(6, .ref (ad 8)), (5, .int z_2), (4, .int z_1), (0, .ref h0), (1, .int x1), (2, .int x2), (3, .int x3)]) hx hb dX11_picked_30 hl (by decide +kernel) rfl (fun ls hl => ?_)
    refine lv_aload hx hb dX11_picked_32 (lv_at hl 0 rfl) ?_
    refine va_gets (v := .ref (ad 8)) hx hb (hV.1.1.1 8 (by decide +kernel)).1 hS hown (hts (.fieldLink RX11 117 "ClauseBook$Kind" "UNTIL" "LClauseBook$Kind;") (List.mem_of_getElem? (i := 4) rfl)) (fun _ h9 => h9) dX11_picked_34 ?_
    refine lv_acmp_ne (rx := some (ad 8)) (ry := some (ad 8)) (tgt := 43) hx hb dX11_picked_37 (by decide +kernel) (fun c9 => absurd c9 (not_not_intro rfl)) (fun _ => ?_)
    refine lv_iload hx hb dX11_picked_40 (lv_at hl 2 rfl) ?_
    exact W.iret hx hb hr (fun t ht hW => ⟨⟨_, (g0, g1, g4), rfl, ⟨(Or.inr (by omega)), (show z_1 = pickW l9 f1 f2 f3 f4 f5 (VALW l9 f1 f2 f3 f4 f5) x1 x2 x3 from (ez_1.trans (pk_8 (l := l9) (fk := f1) (fn := f2) (fc := f3) (fd := f4) (fe := f5) (V := (VALW l9 f1 f2 f3 f4 f5)) (x := x1) (t := x2) (k := x3) hk9).symm)), hst⟩, by rw [ht]; exact hP.sub [0, 1, 2, 3, 4, 5, 6, 7, 8, 9, 10] rfl, hD.sub [0, 1, 2, 3, 4, 5, 6, 7, 8, 9, 10] (by decide +kernel) rfl⟩, hS.F ht⟩) hS.2.2 dX11_picked_42
  · refine W.eq (g2 := F0 m 30 ls [.ref (ad 9)]) (by rw [hk9]) ?_
    have hc9 : 0 ≤ z_1.toInt ∧ z_1.toInt < x1.toInt := by
      have h := (hok _ (in24 (x := x1) (by omega)).1).2.1 (by rw [hk9]; decide)
      have h2 := (in24 (x := x1) (by omega)).2
      rw [ez_1]
      omega
    have hd9 : 0 ≤ (f4 (x1.toNatClampNeg)).toInt ∧ (f4 (x1.toNatClampNeg)).toInt < x1.toInt := by
      have h := (hok _ (in24 (x := x1) (by omega)).1).2.2.1 (by rw [hk9]; decide)
      have h2 := (in24 (x := x1) (by omega)).2
      omega
    have hd8 : 0 ≤ z_2.toInt ∧ z_2.toInt < x1.toInt := by rw [ez_2]; exact hd9
    refine lv_astore (lv' := [(6, .ref (ad 9)), (5, .int z_2), (4, .int z_1), (0, .ref h0), (1, .int x1), (2, .int x2), (3, .int x3)]) hx hb dX11_picked_30 hl (by decide +kernel) rfl (fun ls hl => ?_)
    refine lv_aload hx hb dX11_picked_32 (lv_at hl 0 rfl) ?_
    refine va_gets (v := .ref (ad 8)) hx hb (hV.1.1.1 8 (by decide +kernel)).1 hS hown (hts (.fieldLink RX11 117 "ClauseBook$Kind" "UNTIL" "LClauseBook$Kind;") (List.mem_of_getElem? (i := 4) rfl)) (fun _ h9 => h9) dX11_picked_34 ?_
    refine lv_acmp_ne (rx := some (ad 9)) (ry := some (ad 8)) (tgt := 43) hx hb dX11_picked_37 (by decide +kernel) (fun _ => ?_) (fun c9 => absurd c9 (fun h => absurd (hV.1.1.2 9 8 (by decide +kernel) (by decide +kernel) (Option.some.inj h)) (by decide +kernel)))
    refine lv_aload hx hb dX11_picked_43 (lv_at hl 0 rfl) ?_
    refine va_gets (v := .ref (ad 12)) hx hb (hV.1.1.1 12 (by decide +kernel)).1 hS hown (hts (.fieldLink RX11 120 "ClauseBook$Kind" "WHERE" "LClauseBook$Kind;") (List.mem_of_getElem? (i := 5) rfl)) (fun _ h9 => h9) dX11_picked_45 ?_
    refine lv_acmp_ne (rx := some (ad 9)) (ry := some (ad 12)) (tgt := 80) hx hb dX11_picked_48 (by decide +kernel) (fun _ => ?_) (fun c9 => absurd c9 (fun h => absurd (hV.1.1.2 9 12 (by decide +kernel) (by decide +kernel) (Option.some.inj h)) (by decide +kernel)))
    refine lv_iload_n hx hb dX11_picked_80 rfl (lv_at hl 5 rfl) ?_
    refine lv_aload_n hx hb dX11_picked_81 rfl (lv_at hl 3 rfl) ?_
    refine va_get (D := D) (ci := 8) (v := .ref cl) (C := RX11) (T := TX11) (N := 6) hx hb hts in_X11_picked_X11 hown hE.1 hP 0 rfl rfl 1 (by decide +kernel) (hts (.fieldLink RX11 30 "ClauseBook$Worth" "clauses" "LClauseBook$Clauses;") (List.mem_of_getElem? (i := 1) rfl)) (fun _ h9 => h9) rfl dX11_picked_82 ?_
    refine va_get (D := D) (ci := 1) (v := .ref c5) (C := RX2) (T := TX2) (N := 8) hx hb hts in_X11_picked_X2 hown hE.1 hP 2 rfl rfl 5 (by decide +kernel) (hts (.fieldLink RX11 45 "ClauseBook$Clauses" "end" "[I") (List.mem_of_getElem? (i := 8) rfl)) (fun _ h9 => h9) rfl dX11_picked_85 ?_
    refine lv_iload hx hb dX11_picked_88 (lv_at hl 2 rfl) ?_
    refine va_iald hx hb hE.1 hP 7 0 rfl rfl (by rw [vp_in_iff]; first | omega | (subst_vars; omega)) dX11_picked_90 ?_
    refine lv_topi (fun z_44 ez_44 => ?_)
    refine lv_icmp_le (tgt := 97) hx hb dX11_picked_91 (by decide +kernel) (fun c_45 => ?_) (fun c_45 => ?_)
    · rw [fa_le] at c_45
      refine lv_aload hx hb dX11_picked_97 (lv_at hl 0 rfl) ?_
      refine va_gets (v := .ref (ad 9)) hx hb (hV.1.1.1 9 (by decide +kernel)).1 hS hown (hts (.fieldLink RX11 123 "ClauseBook$Kind" "THEN" "LClauseBook$Kind;") (List.mem_of_getElem? (i := 9) rfl)) (fun _ h9 => h9) dX11_picked_99 ?_
      refine lv_acmp_eq (rx := some (ad 9)) (ry := some (ad 9)) (tgt := 119) hx hb dX11_picked_102 (by decide +kernel) (fun _ => ?_) (fun c9 => absurd c9 (not_not_intro rfl))
      refine lv_iload hx hb dX11_picked_119 (lv_at hl 2 rfl) ?_
      exact W.iret hx hb hr (fun t ht hW => ⟨⟨_, (g0, g1, g4), rfl, ⟨(Or.inr (by omega)), (show z_1 = pickW l9 f1 f2 f3 f4 f5 (VALW l9 f1 f2 f3 f4 f5) x1 x2 x3 from (ez_1.trans (pk_d (l := l9) (fk := f1) (fn := f2) (fc := f3) (fd := f4) (fe := f5) (V := (VALW l9 f1 f2 f3 f4 f5)) (x := x1) (t := x2) (k := x3) (by omega) (by omega) (show ¬ (f5 ((f3 (x1.toNatClampNeg)).toNatClampNeg)).toInt < x2.toInt from by rw [← ez_1, ← ez_44]; omega) (by first | exact Or.inl (by omega) | exact Or.inr (by omega))).symm)), hst⟩, by rw [ht]; exact hP.sub [0, 1, 2, 3, 4, 5, 6, 7, 8, 9, 10] rfl, hD.sub [0, 1, 2, 3, 4, 5, 6, 7, 8, 9, 10] (by decide +kernel) rfl⟩, hS.F ht⟩) hS.2.2 dX11_picked_121
    · rw [fa_le] at c_45
      refine lv_iload hx hb dX11_picked_94 (lv_at hl 1 rfl) ?_
      exact W.iret hx hb hr (fun t ht hW => ⟨⟨_, (g0, g1, g4), rfl, ⟨(Or.inr (by omega)), (show z_2 = pickW l9 f1 f2 f3 f4 f5 (VALW l9 f1 f2 f3 f4 f5) x1 x2 x3 from (ez_2.trans (pk_c (l := l9) (fk := f1) (fn := f2) (fc := f3) (fd := f4) (fe := f5) (V := (VALW l9 f1 f2 f3 f4 f5)) (x := x1) (t := x2) (k := x3) (by omega) (by omega) (show (f5 ((f3 (x1.toNatClampNeg)).toNatClampNeg)).toInt < x2.toInt from by rw [← ez_1, ← ez_44]; omega)).symm)), hst⟩, by rw [ht]; exact hP.sub [0, 1, 2, 3, 4, 5, 6, 7, 8, 9, 10] rfl, hD.sub [0, 1, 2, 3, 4, 5, 6, 7, 8, 9, 10] (by decide +kernel) rfl⟩, hS.F ht⟩) hS.2.2 dX11_picked_96
  · refine W.eq (g2 := F0 m 30 ls [.ref (ad 12)]) (by rw [hk9]) ?_
    have hc9 : 0 ≤ z_1.toInt ∧ z_1.toInt < x1.toInt := by
      have h := (hok _ (in24 (x := x1) (by omega)).1).2.1 (by rw [hk9]; decide)
      have h2 := (in24 (x := x1) (by omega)).2
      rw [ez_1]
      omega
    have hd9 : 0 ≤ (f4 (x1.toNatClampNeg)).toInt ∧ (f4 (x1.toNatClampNeg)).toInt < x1.toInt := by
      have h := (hok _ (in24 (x := x1) (by omega)).1).2.2.1 (by rw [hk9]; decide)
      have h2 := (in24 (x := x1) (by omega)).2
      omega
    have hd8 : 0 ≤ z_2.toInt ∧ z_2.toInt < x1.toInt := by rw [ez_2]; exact hd9
    refine lv_astore (lv' := [(6, .ref (ad 12)), (5, .int z_2), (4, .int z_1), (0, .ref h0), (1, .int x1), (2, .int x2), (3, .int x3)]) hx hb dX11_picked_30 hl (by decide +kernel) rfl (fun ls hl => ?_)
    refine lv_aload hx hb dX11_picked_32 (lv_at hl 0 rfl) ?_
    refine va_gets (v := .ref (ad 8)) hx hb (hV.1.1.1 8 (by decide +kernel)).1 hS hown (hts (.fieldLink RX11 117 "ClauseBook$Kind" "UNTIL" "LClauseBook$Kind;") (List.mem_of_getElem? (i := 4) rfl)) (fun _ h9 => h9) dX11_picked_34 ?_
    refine lv_acmp_ne (rx := some (ad 12)) (ry := some (ad 8)) (tgt := 43) hx hb dX11_picked_37 (by decide +kernel) (fun _ => ?_) (fun c9 => absurd c9 (fun h => absurd (hV.1.1.2 12 8 (by decide +kernel) (by decide +kernel) (Option.some.inj h)) (by decide +kernel)))
    refine lv_aload hx hb dX11_picked_43 (lv_at hl 0 rfl) ?_
    refine va_gets (v := .ref (ad 12)) hx hb (hV.1.1.1 12 (by decide +kernel)).1 hS hown (hts (.fieldLink RX11 120 "ClauseBook$Kind" "WHERE" "LClauseBook$Kind;") (List.mem_of_getElem? (i := 5) rfl)) (fun _ h9 => h9) dX11_picked_45 ?_
    refine lv_acmp_ne (rx := some (ad 12)) (ry := some (ad 12)) (tgt := 80) hx hb dX11_picked_48 (by decide +kernel) (fun c9 => absurd c9 (not_not_intro rfl)) (fun _ => ?_)
    refine lv_aload_n hx hb dX11_picked_51 rfl (lv_at hl 3 rfl) ?_
    refine va_get (D := D) (ci := 8) (v := .ref la) (C := RX11) (T := TX11) (N := 6) hx hb hts in_X11_picked_X11 hown hE.1 hP 0 rfl rfl 0 (by decide +kernel) (hts (.fieldLink RX11 26 "ClauseBook$Worth" "lattice" "LClauseBook$Lattice;") (List.mem_of_getElem? (i := 6) rfl)) (fun _ h9 => h9) rfl dX11_picked_52 ?_
    refine lv_iload_n hx hb dX11_picked_55 rfl (lv_at hl 5 rfl) ?_
    refine lv_iload_n hx hb dX11_picked_56 rfl (lv_at hl 6 rfl) ?_
    refine vp_callSi (W.runV (As := [.int x2, .int x3]) (rest := []) ⟨hx, hb, hml, hown, hts⟩ (c_X8_priceAt l D T la [.int (l9 0), .int (l9 1), .int (l9 2), .int (l9 3), .int (l9 4), .int (l9 5), .int (l9 6)] x2 x3 (l9 0) (l9 1) (l9 2) rfl rfl rfl) (cwV 2 hts gX11_picked_X8_priceAt rfl rfl rfl hv_X8_priceAt ⟨(show _ ≤ (2 * d + 7 : Nat) from by (try dsimp only); omega), (show _ ≤ (64 * d + 280 : Nat) from by (try dsimp only); omega)⟩) (pR_V (q := (RX8, TX8, 7)) (ci := 5) (q0 := 1) hP hE rfl rfl [1] rfl) rfl rfl hl.1 rfl (lv_room (Nat.le_of_ble_eq_true rfl)) dX11_picked_57 ⟨Nat.le_of_ble_eq_true rfl, Nat.le_of_ble_eq_true rfl⟩) (fun r_46 hr_46 => ?_)
    refine lv_aload_n hx hb dX11_picked_60 rfl (lv_at hl 3 rfl) ?_
    refine va_get (D := D) (ci := 8) (v := .ref cl) (C := RX11) (T := TX11) (N := 6) hx hb hts in_X11_picked_X11 hown hE.1 hP 0 rfl rfl 1 (by decide +kernel) (hts (.fieldLink RX11 30 "ClauseBook$Worth" "clauses" "LClauseBook$Clauses;") (List.mem_of_getElem? (i := 1) rfl)) (fun _ h9 => h9) rfl dX11_picked_61 ?_
    refine va_get (D := D) (ci := 1) (v := .ref c2) (C := RX2) (T := TX2) (N := 8) hx hb hts in_X11_picked_X2 hown hE.1 hP 2 rfl rfl 2 (by decide +kernel) (hts (.fieldLink RX11 81 "ClauseBook$Clauses" "n" "[I") (List.mem_of_getElem? (i := 7) rfl)) (fun _ h9 => h9) rfl dX11_picked_64 ?_
    refine lv_iload_n hx hb dX11_picked_67 rfl (lv_at hl 4 rfl) ?_
    refine va_iald hx hb hE.1 hP 4 0 rfl rfl (by rw [vp_in_iff]; first | omega | (subst_vars; omega)) dX11_picked_68 ?_
    refine lv_topi (fun z_47 ez_47 => ?_)
    refine lv_icmp_lt (tgt := 77) hx hb dX11_picked_69 (by decide +kernel) (fun c_48 => ?_) (fun c_48 => ?_)
    · rw [fa_lt] at c_48
      refine lv_iload hx hb dX11_picked_77 (lv_at hl 1 rfl) ?_
      exact W.iret hx hb hr (fun t ht hW => ⟨⟨_, (g0, g1, g4), rfl, ⟨(Or.inr (by omega)), (show z_2 = pickW l9 f1 f2 f3 f4 f5 (VALW l9 f1 f2 f3 f4 f5) x1 x2 x3 from (ez_2.trans (pk_12n (l := l9) (fk := f1) (fn := f2) (fc := f3) (fd := f4) (fe := f5) (V := (VALW l9 f1 f2 f3 f4 f5)) (x := x1) (t := x2) (k := x3) hk9 (show ¬ (f2 (x1.toNatClampNeg)).toInt ≤ (prW l9 x2 x3).toInt from by unfold prW; rw [← hr_46, ← ez_47]; omega)).symm)), hst⟩, by rw [ht]; exact hP.sub [0, 1, 2, 3, 4, 5, 6, 7, 8, 9, 10] rfl, hD.sub [0, 1, 2, 3, 4, 5, 6, 7, 8, 9, 10] (by decide +kernel) rfl⟩, hS.F ht⟩) hS.2.2 dX11_picked_79
    · rw [fa_lt] at c_48
      refine lv_iload hx hb dX11_picked_72 (lv_at hl 2 rfl) ?_
      refine lv_goto (tgt := 79) hx hb dX11_picked_74 (by decide +kernel) ?_
      exact W.iret hx hb hr (fun t ht hW => ⟨⟨_, (g0, g1, g4), rfl, ⟨(Or.inr (by omega)), (show z_1 = pickW l9 f1 f2 f3 f4 f5 (VALW l9 f1 f2 f3 f4 f5) x1 x2 x3 from (ez_1.trans (pk_12y (l := l9) (fk := f1) (fn := f2) (fc := f3) (fd := f4) (fe := f5) (V := (VALW l9 f1 f2 f3 f4 f5)) (x := x1) (t := x2) (k := x3) hk9 (show (f2 (x1.toNatClampNeg)).toInt ≤ (prW l9 x2 x3).toInt from by unfold prW; rw [← hr_46, ← ez_47]; omega)).symm)), hst⟩, by rw [ht]; exact hP.sub [0, 1, 2, 3, 4, 5, 6, 7, 8, 9, 10] rfl, hD.sub [0, 1, 2, 3, 4, 5, 6, 7, 8, 9, 10] (by decide +kernel) rfl⟩, hS.F ht⟩) hS.2.2 dX11_picked_79
theorem dX11_average_0 : decode cX11_average 0 = .ok (.aload_n 0, 1) := by decide +kernel
theorem dX11_average_1 : decode cX11_average 1 = .ok (.iload_n 2, 1) := by decide +kernel
theorem dX11_average_100 : decode cX11_average 100 = .ok (.aload_n 0, 1) := by decide +kernel
theorem dX11_average_101 : decode cX11_average 101 = .ok (.getfield 26, 3) := by decide +kernel
theorem dX11_average_104 : decode cX11_average 104 = .ok (.getfield 132, 3) := by decide +kernel
theorem dX11_average_107 : decode cX11_average 107 = .ok (.imul, 1) := by decide +kernel
theorem dX11_average_108 : decode cX11_average 108 = .ok (.i2l, 1) := by decide +kernel
theorem dX11_average_109 : decode cX11_average 109 = .ok (.invokevirtual 141, 3) := by decide +kernel
theorem dX11_average_112 : decode cX11_average 112 = .ok (.aload_n 0, 1) := by decide +kernel
theorem dX11_average_113 : decode cX11_average 113 = .ok (.iload_n 1, 1) := by decide +kernel
theorem dX11_average_114 : decode cX11_average 114 = .ok (.iload_n 1, 1) := by decide +kernel
theorem dX11_average_115 : decode cX11_average 115 = .ok (.aload_n 0, 1) := by decide +kernel
theorem dX11_average_116 : decode cX11_average 116 = .ok (.getfield 11, 3) := by decide +kernel
theorem dX11_average_119 : decode cX11_average 119 = .ok (.sipush 675, 3) := by decide +kernel
theorem dX11_average_12 : decode cX11_average 12 = .ok (.istore 5, 2) := by decide +kernel
theorem dX11_average_122 : decode cX11_average 122 = .ok (.laload, 1) := by decide +kernel
theorem dX11_average_123 : decode cX11_average 123 = .ok (.aload_n 0, 1) := by decide +kernel
theorem dX11_average_124 : decode cX11_average 124 = .ok (.getfield 15, 3) := by decide +kernel
theorem dX11_average_127 : decode cX11_average 127 = .ok (.sipush 675, 3) := by decide +kernel
theorem dX11_average_130 : decode cX11_average 130 = .ok (.laload, 1) := by decide +kernel
theorem dX11_average_131 : decode cX11_average 131 = .ok (.invokevirtual 77, 3) := by decide +kernel
theorem dX11_average_134 : decode cX11_average 134 = .ok (.return_, 1) := by decide +kernel
theorem dX11_average_14 : decode cX11_average 14 = .ok (.aload_n 0, 1) := by decide +kernel
theorem dX11_average_15 : decode cX11_average 15 = .ok (.iload_n 2, 1) := by decide +kernel
theorem dX11_average_16 : decode cX11_average 16 = .ok (.iload_n 3, 1) := by decide +kernel
theorem dX11_average_17 : decode cX11_average 17 = .ok (.iconst 1, 1) := by decide +kernel
theorem dX11_average_18 : decode cX11_average 18 = .ok (.iadd, 1) := by decide +kernel
theorem dX11_average_19 : decode cX11_average 19 = .ok (.iload 4, 2) := by decide +kernel
theorem dX11_average_2 : decode cX11_average 2 = .ok (.iload_n 3, 1) := by decide +kernel
theorem dX11_average_21 : decode cX11_average 21 = .ok (.invokevirtual 71, 3) := by decide +kernel
theorem dX11_average_24 : decode cX11_average 24 = .ok (.istore 6, 2) := by decide +kernel
theorem dX11_average_26 : decode cX11_average 26 = .ok (.aload_n 0, 1) := by decide +kernel
theorem dX11_average_27 : decode cX11_average 27 = .ok (.sipush 672, 3) := by decide +kernel
theorem dX11_average_3 : decode cX11_average 3 = .ok (.iconst 1, 1) := by decide +kernel
theorem dX11_average_30 : decode cX11_average 30 = .ok (.iload 5, 2) := by decide +kernel
theorem dX11_average_32 : decode cX11_average 32 = .ok (.aload_n 0, 1) := by decide +kernel
theorem dX11_average_33 : decode cX11_average 33 = .ok (.getfield 26, 3) := by decide +kernel
theorem dX11_average_36 : decode cX11_average 36 = .ok (.getfield 129, 3) := by decide +kernel
theorem dX11_average_39 : decode cX11_average 39 = .ok (.i2l, 1) := by decide +kernel
theorem dX11_average_4 : decode cX11_average 4 = .ok (.iadd, 1) := by decide +kernel
theorem dX11_average_40 : decode cX11_average 40 = .ok (.lconst 1, 1) := by decide +kernel
theorem dX11_average_41 : decode cX11_average 41 = .ok (.invokevirtual 77, 3) := by decide +kernel
theorem dX11_average_44 : decode cX11_average 44 = .ok (.aload_n 0, 1) := by decide +kernel
theorem dX11_average_45 : decode cX11_average 45 = .ok (.sipush 673, 3) := by decide +kernel
theorem dX11_average_48 : decode cX11_average 48 = .ok (.iload 6, 2) := by decide +kernel
theorem dX11_average_5 : decode cX11_average 5 = .ok (.iload 4, 2) := by decide +kernel
theorem dX11_average_50 : decode cX11_average 50 = .ok (.aload_n 0, 1) := by decide +kernel
theorem dX11_average_51 : decode cX11_average 51 = .ok (.getfield 26, 3) := by decide +kernel
theorem dX11_average_54 : decode cX11_average 54 = .ok (.getfield 132, 3) := by decide +kernel
theorem dX11_average_57 : decode cX11_average 57 = .ok (.aload_n 0, 1) := by decide +kernel
theorem dX11_average_58 : decode cX11_average 58 = .ok (.getfield 26, 3) := by decide +kernel
theorem dX11_average_61 : decode cX11_average 61 = .ok (.getfield 129, 3) := by decide +kernel
theorem dX11_average_64 : decode cX11_average 64 = .ok (.isub, 1) := by decide +kernel
theorem dX11_average_65 : decode cX11_average 65 = .ok (.i2l, 1) := by decide +kernel
theorem dX11_average_66 : decode cX11_average 66 = .ok (.lconst 1, 1) := by decide +kernel
theorem dX11_average_67 : decode cX11_average 67 = .ok (.invokevirtual 77, 3) := by decide +kernel
theorem dX11_average_7 : decode cX11_average 7 = .ok (.iconst 1, 1) := by decide +kernel
theorem dX11_average_70 : decode cX11_average 70 = .ok (.aload_n 0, 1) := by decide +kernel
theorem dX11_average_71 : decode cX11_average 71 = .ok (.iload_n 1, 1) := by decide +kernel
theorem dX11_average_72 : decode cX11_average 72 = .ok (.sipush 672, 3) := by decide +kernel
theorem dX11_average_75 : decode cX11_average 75 = .ok (.sipush 673, 3) := by decide +kernel
theorem dX11_average_78 : decode cX11_average 78 = .ok (.invokevirtual 93, 3) := by decide +kernel
theorem dX11_average_8 : decode cX11_average 8 = .ok (.iadd, 1) := by decide +kernel
theorem dX11_average_81 : decode cX11_average 81 = .ok (.aload_n 0, 1) := by decide +kernel
theorem dX11_average_82 : decode cX11_average 82 = .ok (.sipush 675, 3) := by decide +kernel
theorem dX11_average_85 : decode cX11_average 85 = .ok (.aload_n 0, 1) := by decide +kernel
theorem dX11_average_86 : decode cX11_average 86 = .ok (.getfield 26, 3) := by decide +kernel
theorem dX11_average_89 : decode cX11_average 89 = .ok (.getfield 135, 3) := by decide +kernel
theorem dX11_average_9 : decode cX11_average 9 = .ok (.invokevirtual 71, 3) := by decide +kernel
theorem dX11_average_92 : decode cX11_average 92 = .ok (.i2l, 1) := by decide +kernel
theorem dX11_average_93 : decode cX11_average 93 = .ok (.aload_n 0, 1) := by decide +kernel
theorem dX11_average_94 : decode cX11_average 94 = .ok (.getfield 26, 3) := by decide +kernel
theorem dX11_average_97 : decode cX11_average 97 = .ok (.getfield 138, 3) := by decide +kernel
set_option maxRecDepth 20000 in
theorem ggX11_average_X11_multiply : GoodIn wsX11_average wsX11_multiply := goodIn_r _ [15, 6, 7, 16, 17, 11, 18, 19, 20, 21, 22, 23, 24, 25, 26, 27, 28, 29, 30, 31, 32, 106, 107, 108, 109, 110, 111] rfl (by decide +kernel)
set_option maxRecDepth 20000 in
theorem ggX11_average_X11_plus : GoodIn wsX11_average wsX11_plus := goodIn_r _ [36, 6, 7, 16, 17, 11, 18, 19, 20, 37, 38, 39, 25, 26, 27, 28, 29, 30, 31, 32, 21, 22, 23, 24, 106, 107, 108, 109, 110, 111] rfl (by decide +kernel)
set_option maxRecDepth 20000 in
theorem ggX11_average_X11_reduce : GoodIn wsX11_average wsX11_reduce := goodIn_r _ [28, 6, 7, 29, 30, 31, 32, 106, 107, 108, 109, 110, 111] rfl (by decide +kernel)
set_option maxRecDepth 20000 in
theorem ggX11_average_X11_settle : GoodIn wsX11_average wsX11_settle := goodIn_r _ [79, 80, 81, 41, 42, 47, 82, 83, 19, 46, 1, 43, 84, 50, 51, 52, 53, 54, 55, 85, 86, 87, 88, 89, 90, 91, 21, 22, 23, 11, 24, 6, 7, 8, 9, 10, 12, 13, 14, 15, 16, 17, 18, 20, 25, 26, 27, 28, 29, 30, 31, 32, 56, 57, 58, 59, 60, 61, 62, 63, 33, 34, 35, 36, 37, 38, 39, 92, 93, 94, 95, 96, 97, 98, 99, 100, 101, 102, 64, 65, 66, 67, 68, 69, 70, 71, 72, 73, 74, 75, 76, 77, 78, 103, 104, 105, 0, 2, 3, 4, 5, 40, 44, 45, 48, 49, 106, 107, 108, 109, 110, 111, 112, 113, 114, 115, 116, 117, 118, 119, 120, 121, 122, 123, 124, 125, 126] rfl (by decide +kernel)
set_option maxRecDepth 20000 in
theorem gX11_average_X11_multiply : GoodIn wsX11_average (wsV RX11 77 RX11 yX11_multiply wsX11_multiply) := goodIn_app (goodIn_r _ [12, 13, 14, 11] rfl (by decide +kernel)) ggX11_average_X11_multiply
set_option maxRecDepth 20000 in
theorem gX11_average_X11_plus : GoodIn wsX11_average (wsV RX11 93 RX11 yX11_plus wsX11_plus) := goodIn_app (goodIn_r _ [33, 34, 35, 11] rfl (by decide +kernel)) ggX11_average_X11_plus
set_option maxRecDepth 20000 in
theorem gX11_average_X11_reduce : GoodIn wsX11_average (wsV RX11 141 RX11 yX11_reduce wsX11_reduce) := goodIn_app (goodIn_r _ [25, 26, 27, 11] rfl (by decide +kernel)) ggX11_average_X11_reduce
set_option maxRecDepth 20000 in
theorem gX11_average_X11_settle : GoodIn wsX11_average (wsV RX11 71 RX11 yX11_settle wsX11_settle) := goodIn_app (goodIn_r _ [8, 9, 10, 11] rfl (by decide +kernel)) ggX11_average_X11_settle
theorem hv_X11_multiply : yX11_multiply.cls = RX11 ∧ yX11_multiply.cls ≠ "java/lang/invoke/MethodHandle" ∧ yX11_multiply.cls ≠ "java/lang/invoke/VarHandle" ∧ (parseMethodDescriptor yX11_multiply.desc).map (fun d => d.parameters.length) = some 4 := by decide +kernel
theorem hv_X11_plus : yX11_plus.cls = RX11 ∧ yX11_plus.cls ≠ "java/lang/invoke/MethodHandle" ∧ yX11_plus.cls ≠ "java/lang/invoke/VarHandle" ∧ (parseMethodDescriptor yX11_plus.desc).map (fun d => d.parameters.length) = some 3 := by decide +kernel
set_option maxRecDepth 20000 in
theorem in_X11_average_X11 : ∀ w ∈ wsX110, w ∈ wsX11_average := sub_r [106, 107, 108, 109, 110, 111] rfl
set_option maxRecDepth 20000 in
theorem in_X11_average_X8 : ∀ w ∈ wsX80, w ∈ wsX11_average := sub_r [112, 113, 114, 115, 116, 117, 118] rfl
set_option maxHeartbeats 4000000 in
set_option maxRecDepth 100000 in
theorem s_X11_average (l : Launch) (D : va_G) (T : Nat → ClassId) (ad sa av : Nat → Nat) (ta : Nat) (sz : Nat) (h0 : Nat) (la : Nat) (cl : Nat) (p0 : Nat) (p1 : Nat) (p4 : Nat) (n : Int32) (l9 : Nat → Int32) (n0 : Int32) (c1 : Nat) (c2 : Nat) (c3 : Nat) (c4 : Nat) (c5 : Nat) (c6 : Nat) (c7 : Nat) (f1 : Nat → Int32) (f2 : Nat → Int32) (f3 : Nat → Int32) (f4 : Nat → Int32) (f5 : Nat → Int32) (g0 : Nat → Int64) (g1 : Nat → Int64) (g4 : Nat → Int32) (d : Nat) (x1 : Int32) (x2 : Int32) (x3 : Int32) (x4 : Int32) (hx1 : 0 ≤ x1.toInt ∧ x1.toInt < 676) (hx : 0 ≤ x2.toInt ∧ x2.toInt < 24) (hd : 0 ≤ x3.toInt ∧ x3.toInt ≤ 5) (hsp : 0 ≤ x4.toInt ∧ x4.toInt ≤ x3.toInt) (hok : okC f1 f3 f4 f5) (hxn : x2.toInt < n0.toInt) (hmm : memW (VALW l9 f1 f2 f3 f4 f5) n0 n g0 g1 g4) (hlq : (1 ≤ (l9 4).toInt ∧ (l9 4).toInt ≤ 9) ∧ 1 ≤ (l9 6).toInt ∧ (l9 6).toInt ≤ 9) (hni : x1.toInt ≠ 672 ∧ x1.toInt ≠ 673 ∧ x1.toInt ≠ 675) (hnf0 : x1.toNatClampNeg < 672 → g4 (x1.toNatClampNeg) ≠ n ∧ ¬ rgW x2 (x3 + 1) (x1.toNatClampNeg)) (hdep : x2.toInt + (6 - x3.toInt) < d + 1) (hrec : cS_settle l D T ad sa av ta d) : Met l yX11_average wsX11_average ({ frames := 2 * d + 7, cells := 0, slots := 0, locals := 64 * d + 280 }) (pWk [.ref h0, .int x1, .int x2, .int x3, .int x4] D T [(h0, .inr (8, [.ref la, .ref cl, .ref p0, .ref p1, .ref p4, .int n])), (la, .inr (5, [.int (l9 0), .int (l9 1), .int (l9 2), .int (l9 3), .int (l9 4), .int (l9 5), .int (l9 6)])), (cl, .inr (1, [.int n0, .ref c1, .ref c2, .ref c3, .ref c4, .ref c5, .ref c6, .ref c7])), (c1, .inl (T 0, 24, .inl f1)), (c2, .inl (T 0, 24, .inl f2)), (c3, .inl (T 0, 24, .inl f3)), (c4, .inl (T 0, 24, .inl f4)), (c5, .inl (T 0, 24, .inl f5)), (p0, .inl (T 1, 676, .inr (.inl g0))), (p1, .inl (T 1, 676, .inr (.inl g1))), (p4, .inl (T 0, 672, .inl g4))] sz ad sa av ta) (va_Qv (fun (u : (Nat → Int64) × (Nat → Int64) × (Nat → Int32)) => stW (VALW l9 f1 f2 f3 f4 f5) n0 n (rgA x1 x2 x3) g0 g1 g4 u.1 u.2.1 u.2.2 ∧ (u.1 (x1.toNatClampNeg), u.2.1 (x1.toNatClampNeg)) = avgW l9 (VALW l9 f1 f2 f3 f4 f5) x2 x3 x4 ∧ (x1.toNatClampNeg < 672 → u.2.2 (x1.toNatClampNeg) = g4 (x1.toNatClampNeg))) (bW D (va_A [(h0, .inr (8, [.ref la, .ref cl, .ref p0, .ref p1, .ref p4, .int n])), (la, .inr (5, [.int (l9 0), .int (l9 1), .int (l9 2), .int (l9 3), .int (l9 4), .int (l9 5), .int (l9 6)])), (cl, .inr (1, [.int n0, .ref c1, .ref c2, .ref c3, .ref c4, .ref c5, .ref c6, .ref c7])), (c1, .inl (T 0, 24, .inl f1)), (c2, .inl (T 0, 24, .inl f2)), (c3, .inl (T 0, 24, .inl f3)), (c4, .inl (T 0, 24, .inl f4)), (c5, .inl (T 0, 24, .inl f5)), (p0, .inl (T 1, 676, .inr (.inl g0))), (p1, .inl (T 1, 676, .inr (.inl g1))), (p4, .inl (T 0, 672, .inl g4))] sz) (fun (u : (Nat → Int64) × (Nat → Int64) × (Nat → Int32)) => [(h0, .inr (8, [.ref la, .ref cl, .ref p0, .ref p1, .ref p4, .int n])), (la, .inr (5, [.int (l9 0), .int (l9 1), .int (l9 2), .int (l9 3), .int (l9 4), .int (l9 5), .int (l9 6)])), (cl, .inr (1, [.int n0, .ref c1, .ref c2, .ref c3, .ref c4, .ref c5, .ref c6, .ref c7])), (c1, .inl (T 0, 24, .inl f1)), (c2, .inl (T 0, 24, .inl f2)), (c3, .inl (T 0, 24, .inl f3)), (c4, .inl (T 0, 24, .inl f4)), (c5, .inl (T 0, 24, .inl f5)), (p0, .inl (T 1, 676, .inr (.inl u.1))), (p1, .inl (T 1, 676, .inr (.inl u.2.1))), (p4, .inl (T 0, 672, .inl u.2.2))])) (va_A [(h0, .inr (8, [.ref la, .ref cl, .ref p0, .ref p1, .ref p4, .int n])), (la, .inr (5, [.int (l9 0), .int (l9 1), .int (l9 2), .int (l9 3), .int (l9 4), .int (l9 5), .int (l9 6)])), (cl, .inr (1, [.int n0, .ref c1, .ref c2, .ref c3, .ref c4, .ref c5, .ref c6, .ref c7])), (c1, .inl (T 0, 24, .inl f1)), (c2, .inl (T 0, 24, .inl f2)), (c3, .inl (T 0, 24, .inl f3)), (c4, .inl (T 0, 24, .inl f4)), (c5, .inl (T 0, 24, .inl f5)), (p0, .inl (T 1, 676, .inr (.inl g0))), (p1, .inl (T 1, 676, .inr (.inl g1))), (p4, .inl (T 0, 672, .inl g4))] sz)) 0 0 (va_A [(h0, .inr (8, [.ref la, .ref cl, .ref p0, .ref p1, .ref p4, .int n])), (la, .inr (5, [.int (l9 0), .int (l9 1), .int (l9 2), .int (l9 3), .int (l9 4), .int (l9 5), .int (l9 6)])), (cl, .inr (1, [.int n0, .ref c1, .ref c2, .ref c3, .ref c4, .ref c5, .ref c6, .ref c7])), (c1, .inl (T 0, 24, .inl f1)), (c2, .inl (T 0, 24, .inl f2)), (c3, .inl (T 0, 24, .inl f3)), (c4, .inl (T 0, 24, .inl f4)), (c5, .inl (T 0, 24, .inl f5)), (p0, .inl (T 1, 676, .inr (.inl g0))), (p1, .inl (T 1, 676, .inr (.inl g1))), (p4, .inl (T 0, 672, .inl g4))] sz) := by
  refine Met.ofW (cc := cX11_average) (maxL := 7) (ret := none) (by decide +kernel) rfl ?_
  intro p e s m args below meth c s₁ B hml hv
  obtain ⟨rfl, hsz, hP, hE, hD0, hV⟩ := hv
  have hx := B.exec
  have hb := B.bytes
  have hr := B.returns
  have hts := atoms_spec (ws := wsX11_average) B.pre
  have hown : s.vm.findClass RX11 = some m.cls := findClass_of_methodNamed B.named
  have hlocks := B.notSynchronized
  subst hsz
  have hD := hD0.self (sz := s.heap.size)
  generalize hAe : va_A [(h0, .inr (8, [.ref la, .ref cl, .ref p0, .ref p1, .ref p4, .int n])), (la, .inr (5, [.int (l9 0), .int (l9 1), .int (l9 2), .int (l9 3), .int (l9 4), .int (l9 5), .int (l9 6)])), (cl, .inr (1, [.int n0, .ref c1, .ref c2, .ref c3, .ref c4, .ref c5, .ref c6, .ref c7])), (c1, .inl (T 0, 24, .inl f1)), (c2, .inl (T 0, 24, .inl f2)), (c3, .inl (T 0, 24, .inl f3)), (c4, .inl (T 0, 24, .inl f4)), (c5, .inl (T 0, 24, .inl f5)), (p0, .inl (T 1, 676, .inr (.inl g0))), (p1, .inl (T 1, 676, .inr (.inl g1))), (p4, .inl (T 0, 672, .inl g4))] s.heap.size = A at hD hV ⊢
  have hA : ∀ q : Nat, s.heap.size ≤ q → A q := fun q h => by rw [← hAe]; exact Or.inr h
  have hS : va_S A s.heap s.heap [] := va_S.rf
  have hP : va_P D vwCl [(h0, .inr (8, [.ref la, .ref cl, .ref p0, .ref p1, .ref p4, .int n])), (la, .inr (5, [.int (l9 0), .int (l9 1), .int (l9 2), .int (l9 3), .int (l9 4), .int (l9 5), .int (l9 6)])), (cl, .inr (1, [.int n0, .ref c1, .ref c2, .ref c3, .ref c4, .ref c5, .ref c6, .ref c7])), (c1, .inl (T 0, 24, .inl f1)), (c2, .inl (T 0, 24, .inl f2)), (c3, .inl (T 0, 24, .inl f3)), (c4, .inl (T 0, 24, .inl f4)), (c5, .inl (T 0, 24, .inl f5)), (p0, .inl (T 1, 676, .inr (.inl g0))), (p1, .inl (T 1, 676, .inr (.inl g1))), (p4, .inl (T 0, 672, .inl g4))] s.heap := hP
  have hl := lv_entry ([.ref h0, .int x1, .int x2, .int x3, .int x4]) (n := 7) (Nat.le_of_ble_eq_true rfl)
  rw [lg_entry_eq]
  generalize (lg_sl ([.ref h0, .int x1, .int x2, .int x3, .int x4]) ++ List.replicate (7 - (lg_sl ([.ref h0, .int x1, .int x2, .int x3, .int x4])).length) Slot.unset).toArray = ls at hl ⊢
  have hl : lv_has ls 7 [(0, .ref h0), (1, .int x1), (2, .int x2), (3, .int x3), (4, .int x4)] := hl
  clear hD0
  have hi1 := inc1 (i := x3) (n := 6) (by omega) (by decide +kernel)
  have hi2 := inc1 (i := x4) (n := 6) (by omega) (by decide +kernel)
  have hst : stW (VALW l9 f1 f2 f3 f4 f5) n0 n (rgA x1 x2 x3) g0 g1 g4 g0 g1 g4 := stW_rf hmm
  have hg4 : x1.toNatClampNeg < 672 → g4 (x1.toNatClampNeg) = g4 (x1.toNatClampNeg) := fun _ => rfl
  have hnf : x1.toNatClampNeg < 672 → g4 (x1.toNatClampNeg) ≠ n := fun h9 => (hnf0 h9).1
  refine lv_aload_n hx hb dX11_average_0 rfl (lv_at hl 0 rfl) ?_
  refine lv_iload_n hx hb dX11_average_1 rfl (lv_at hl 2 rfl) ?_
  refine lv_iload_n hx hb dX11_average_2 rfl (lv_at hl 3 rfl) ?_
  refine lv_iconst (v := 1) hx hb dX11_average_3 (by decide +kernel) ?_
  refine lv_iadd hx hb dX11_average_4 ?_
  refine lv_iload hx hb dX11_average_5 (lv_at hl 4 rfl) ?_
  refine lv_iconst (v := 1) hx hb dX11_average_7 (by decide +kernel) ?_
  refine lv_iadd hx hb dX11_average_8 ?_
  have hFc := va_free (wc := [(h0, .inr (8, [.ref la, .ref cl, .ref p0, .ref p1, .ref p4, .int n])), (la, .inr (5, [.int (l9 0), .int (l9 1), .int (l9 2), .int (l9 3), .int (l9 4), .int (l9 5), .int (l9 6)])), (cl, .inr (1, [.int n0, .ref c1, .ref c2, .ref c3, .ref c4, .ref c5, .ref c6, .ref c7])), (c1, .inl (T 0, 24, .inl f1)), (c2, .inl (T 0, 24, .inl f2)), (c3, .inl (T 0, 24, .inl f3)), (c4, .inl (T 0, 24, .inl f4)), (c5, .inl (T 0, 24, .inl f5)), (p0, .inl (T 1, 676, .inr (.inl g0))), (p1, .inl (T 1, 676, .inr (.inl g1))), (p4, .inl (T 0, 672, .inl g4))]) hD hS hA [0, 1, 2, 3, 4, 5, 6, 7, 8, 9, 10] rfl
  refine va_calli (va_runV (As := [.int x2, .int (x3 + 1), .int (x4 + 1)]) (rest := []) ⟨hx, hb, hml, hown, hts⟩ (hrec _ h0 la cl p0 p1 p4 n l9 n0 c1 c2 c3 c4 c5 c6 c7 f1 f2 f3 f4 f5 g0 g1 g4 x2 (x3 + 1) (x4 + 1) (by omega) (by omega) (by omega) hok (by omega) hmm hlq (by omega)) (cwV 3 hts gX11_average_X11_settle rfl rfl rfl hv_X11_settle ⟨(show _ ≤ (2 * d + 7 : Nat) from by (try dsimp only); omega), (show _ ≤ (64 * d + 280 : Nat) from by (try dsimp only); omega)⟩) (pWk_V (q := (RX11, TX11, 6)) (ci := 8) (q0 := 0) hP hE hD hV hS hFc rfl rfl [0, 1, 2, 3, 4, 5, 6, 7, 8, 9, 10] (by decide +kernel) rfl rfl) rfl rfl hl.1 rfl (lv_room (Nat.le_of_ble_eq_true rfl)) dX11_average_9 ⟨Nat.le_of_ble_eq_true rfl, Nat.le_of_ble_eq_true rfl⟩) hS (fun q _ h => hFc q h) hFc (fun r_1 u_2 t H1 locs ht hvm hr_1 hB hz1 hk1 hS => ?_)
  obtain ⟨f_3, f_4, f_5⟩ := u_2
  obtain ⟨hqr_1, hsl_r_1, hfo_r_1, hstr_1⟩ := hr_1
  have hqr_1 : 0 ≤ r_1.toInt ∧ r_1.toInt < 672 := hqr_1
  have hsl_r_1 : r_1.toNatClampNeg = slN x2 (x3 + 1) (x4 + 1) := hsl_r_1
  have hfo_r_1 : f_5 (slN x2 (x3 + 1) (x4 + 1)) = n := hfo_r_1
  have hsr_1 : stW (VALW l9 f1 f2 f3 f4 f5) n0 n (rgW x2 (x3 + 1)) g0 g1 g4 f_3 f_4 f_5 := hstr_1
  have hg9 : x1.toNatClampNeg < 672 → f_5 (x1.toNatClampNeg) = g4 (x1.toNatClampNeg) := fun h9 => (hsr_1.2.2.2 _ h9 (hnf0 h9).2).2.2
  have hg4 : x1.toNatClampNeg < 672 → f_5 (x1.toNatClampNeg) = g4 (x1.toNatClampNeg) := fun h9 => (hg9 h9).trans (hg4 h9)
  have hnf : x1.toNatClampNeg < 672 → f_5 (x1.toNatClampNeg) ≠ n := fun h9 => by rw [hg9 h9]; exact hnf h9
  have hst : stW (VALW l9 f1 f2 f3 f4 f5) n0 n (rgA x1 x2 x3) g0 g1 g4 f_3 f_4 f_5 := hst.tr hsr_1 (fun j9 h9 => Or.inr h9)
  have hmm : memW (VALW l9 f1 f2 f3 f4 f5) n0 n f_3 f_4 f_5 := hst.1
  have hv_r_1 : (f_3 (r_1.toNatClampNeg), f_4 (r_1.toNatClampNeg)) = (VALW l9 f1 f2 f3 f4 f5) x2 (x3 + 1) (x4 + 1) := hst.val (by omega) (by omega) (by first | (rw [ti_0]; omega) | omega) hsl_r_1 hfo_r_1
  have hb_r_1 : 0 ≤ (f_4 (r_1.toNatClampNeg)).toInt := val_nn (VAL_low hlq.1 hlq.2 31 _ _ _) hv_r_1
  obtain ⟨hP1, hD1⟩ := hB
  rw [ht] at hP1
  obtain ⟨hP, hD⟩ := va_repl [(h0, .inr (8, [.ref la, .ref cl, .ref p0, .ref p1, .ref p4, .int n])), (la, .inr (5, [.int (l9 0), .int (l9 1), .int (l9 2), .int (l9 3), .int (l9 4), .int (l9 5), .int (l9 6)])), (cl, .inr (1, [.int n0, .ref c1, .ref c2, .ref c3, .ref c4, .ref c5, .ref c6, .ref c7])), (c1, .inl (T 0, 24, .inl f1)), (c2, .inl (T 0, 24, .inl f2)), (c3, .inl (T 0, 24, .inl f3)), (c4, .inl (T 0, 24, .inl f4)), (c5, .inl (T 0, 24, .inl f5)), (p0, .inl (T 1, 676, .inr (.inl f_3))), (p1, .inl (T 1, 676, .inr (.inl f_4))), (p4, .inl (T 0, 672, .inl f_5))] hP hD [0, 1, 2, 3, 4, 5, 6, 7, 8, 9, 10] [0, 1, 2, 3, 4, 5, 6, 7, 8, 9, 10] rfl (by decide +kernel) rfl rfl rfl hk1 hP1
  clear hP1 hD1 hFc
  generalize H1 = H at hP hS ⊢
  refine lv_istore (lv' := [(5, .int r_1), (0, .ref h0), (1, .int x1), (2, .int x2), (3, .int x3), (4, .int x4)]) hx hb dX11_average_12 hl (by decide +kernel) rfl (fun ls hl => ?_)
  refine lv_aload_n hx hb dX11_average_14 rfl (lv_at hl 1 rfl) ?_
  refine lv_iload_n hx hb dX11_average_15 rfl (lv_at hl 3 rfl) ?_
  refine lv_iload_n hx hb dX11_average_16 rfl (lv_at hl 4 rfl) ?_
  refine lv_iconst (v := 1) hx hb dX11_average_17 (by decide +kernel) ?_
  refine lv_iadd hx hb dX11_average_18 ?_
  refine lv_iload hx hb dX11_average_19 (lv_at hl 5 rfl) ?_
  have hFc := va_free (wc := [(h0, .inr (8, [.ref la, .ref cl, .ref p0, .ref p1, .ref p4, .int n])), (la, .inr (5, [.int (l9 0), .int (l9 1), .int (l9 2), .int (l9 3), .int (l9 4), .int (l9 5), .int (l9 6)])), (cl, .inr (1, [.int n0, .ref c1, .ref c2, .ref c3, .ref c4, .ref c5, .ref c6, .ref c7])), (c1, .inl (T 0, 24, .inl f1)), (c2, .inl (T 0, 24, .inl f2)), (c3, .inl (T 0, 24, .inl f3)), (c4, .inl (T 0, 24, .inl f4)), (c5, .inl (T 0, 24, .inl f5)), (p0, .inl (T 1, 676, .inr (.inl f_3))), (p1, .inl (T 1, 676, .inr (.inl f_4))), (p4, .inl (T 0, 672, .inl f_5))]) hD hS hA [0, 1, 2, 3, 4, 5, 6, 7, 8, 9, 10] rfl
  refine va_calli (va_runV (As := [.int x2, .int (x3 + 1), .int x4]) (rest := []) ⟨hx, hb, hml, hown, hts⟩ (hrec _ h0 la cl p0 p1 p4 n l9 n0 c1 c2 c3 c4 c5 c6 c7 f1 f2 f3 f4 f5 f_3 f_4 f_5 x2 (x3 + 1) x4 (by omega) (by omega) (by omega) hok (by omega) hmm hlq (by omega)) (cwV 3 hts gX11_average_X11_settle rfl rfl rfl hv_X11_settle ⟨(show _ ≤ (2 * d + 7 : Nat) from by (try dsimp only); omega), (show _ ≤ (64 * d + 280 : Nat) from by (try dsimp only); omega)⟩) (pWk_V (q := (RX11, TX11, 6)) (ci := 8) (q0 := 0) hP hE hD hV hS hFc rfl rfl [0, 1, 2, 3, 4, 5, 6, 7, 8, 9, 10] (by decide +kernel) rfl rfl) rfl rfl hl.1 rfl (lv_room (Nat.le_of_ble_eq_true rfl)) dX11_average_21 ⟨Nat.le_of_ble_eq_true rfl, Nat.le_of_ble_eq_true rfl⟩) hS (fun q _ h => hFc q h) hFc (fun r_6 u_7 t H1 locs ht hvm hr_6 hB hz1 hk1 hS => ?_)
  obtain ⟨f_8, f_9, f_10⟩ := u_7
  obtain ⟨hqr_6, hsl_r_6, hfo_r_6, hstr_6⟩ := hr_6
  have hqr_6 : 0 ≤ r_6.toInt ∧ r_6.toInt < 672 := hqr_6
  have hsl_r_6 : r_6.toNatClampNeg = slN x2 (x3 + 1) x4 := hsl_r_6
  have hfo_r_6 : f_10 (slN x2 (x3 + 1) x4) = n := hfo_r_6
  have hsr_6 : stW (VALW l9 f1 f2 f3 f4 f5) n0 n (rgW x2 (x3 + 1)) f_3 f_4 f_5 f_8 f_9 f_10 := hstr_6
  have hg9 : x1.toNatClampNeg < 672 → f_10 (x1.toNatClampNeg) = f_5 (x1.toNatClampNeg) := fun h9 => (hsr_6.2.2.2 _ h9 (hnf0 h9).2).2.2
  have hg4 : x1.toNatClampNeg < 672 → f_10 (x1.toNatClampNeg) = g4 (x1.toNatClampNeg) := fun h9 => (hg9 h9).trans (hg4 h9)
  have hnf : x1.toNatClampNeg < 672 → f_10 (x1.toNatClampNeg) ≠ n := fun h9 => by rw [hg9 h9]; exact hnf h9
  have hst : stW (VALW l9 f1 f2 f3 f4 f5) n0 n (rgA x1 x2 x3) g0 g1 g4 f_8 f_9 f_10 := hst.tr hsr_6 (fun j9 h9 => Or.inr h9)
  have hmm : memW (VALW l9 f1 f2 f3 f4 f5) n0 n f_8 f_9 f_10 := hst.1
  have hfo_r_1 : f_10 (slN x2 (x3 + 1) (x4 + 1)) = n := hsr_6.2.1 _ (slN_lt (by omega) (by omega) (by omega)) hfo_r_1
  have hv_r_1 : (f_8 (r_1.toNatClampNeg), f_9 (r_1.toNatClampNeg)) = (VALW l9 f1 f2 f3 f4 f5) x2 (x3 + 1) (x4 + 1) := hst.val (by omega) (by omega) (by omega) hsl_r_1 hfo_r_1
  have hb_r_1 : 0 ≤ (f_9 (r_1.toNatClampNeg)).toInt := val_nn (VAL_low hlq.1 hlq.2 31 _ _ _) hv_r_1
  have hv_r_6 : (f_8 (r_6.toNatClampNeg), f_9 (r_6.toNatClampNeg)) = (VALW l9 f1 f2 f3 f4 f5) x2 (x3 + 1) x4 := hst.val (by omega) (by omega) (by first | (rw [ti_0]; omega) | omega) hsl_r_6 hfo_r_6
  have hb_r_6 : 0 ≤ (f_9 (r_6.toNatClampNeg)).toInt := val_nn (VAL_low hlq.1 hlq.2 31 _ _ _) hv_r_6
  obtain ⟨hP1, hD1⟩ := hB
  rw [ht] at hP1
  obtain ⟨hP, hD⟩ := va_repl [(h0, .inr (8, [.ref la, .ref cl, .ref p0, .ref p1, .ref p4, .int n])), (la, .inr (5, [.int (l9 0), .int (l9 1), .int (l9 2), .int (l9 3), .int (l9 4), .int (l9 5), .int (l9 6)])), (cl, .inr (1, [.int n0, .ref c1, .ref c2, .ref c3, .ref c4, .ref c5, .ref c6, .ref c7])), (c1, .inl (T 0, 24, .inl f1)), (c2, .inl (T 0, 24, .inl f2)), (c3, .inl (T 0, 24, .inl f3)), (c4, .inl (T 0, 24, .inl f4)), (c5, .inl (T 0, 24, .inl f5)), (p0, .inl (T 1, 676, .inr (.inl f_8))), (p1, .inl (T 1, 676, .inr (.inl f_9))), (p4, .inl (T 0, 672, .inl f_10))] hP hD [0, 1, 2, 3, 4, 5, 6, 7, 8, 9, 10] [0, 1, 2, 3, 4, 5, 6, 7, 8, 9, 10] rfl (by decide +kernel) rfl rfl rfl hk1 hP1
  clear hP1 hD1 hFc
  generalize H1 = H at hP hS ⊢
  refine lv_istore (lv' := [(6, .int r_6), (5, .int r_1), (0, .ref h0), (1, .int x1), (2, .int x2), (3, .int x3), (4, .int x4)]) hx hb dX11_average_24 hl (by decide +kernel) rfl (fun ls hl => ?_)
  refine lv_aload_n hx hb dX11_average_26 rfl (lv_at hl 2 rfl) ?_
  refine lv_sipush (v := 672) hx hb dX11_average_27 (by decide +kernel) ?_
  refine lv_iload hx hb dX11_average_30 (lv_at hl 1 rfl) ?_
  refine lv_aload_n hx hb dX11_average_32 rfl (lv_at hl 2 rfl) ?_
  refine va_get (D := D) (ci := 8) (v := .ref la) (C := RX11) (T := TX11) (N := 6) hx hb hts in_X11_average_X11 hown hE.1 hP 0 rfl rfl 0 (by decide +kernel) (hts (.fieldLink RX11 26 "ClauseBook$Worth" "lattice" "LClauseBook$Lattice;") (List.mem_of_getElem? (i := 1) rfl)) (fun _ h9 => h9) rfl dX11_average_33 ?_
  refine va_get (D := D) (ci := 5) (v := .int (l9 3)) (C := RX8) (T := TX8) (N := 7) hx hb hts in_X11_average_X8 hown hE.1 hP 1 rfl rfl 3 (by decide +kernel) (hts (.fieldLink RX11 129 "ClauseBook$Lattice" "p" "I") (List.mem_of_getElem? (i := 2) rfl)) (fun _ h9 => h9) rfl dX11_average_36 ?_
  refine lv_i2l hx hb dX11_average_39 rfl ?_
  refine lv_lconst (v := 1) hx hb dX11_average_40 (by decide +kernel) ?_
  have hFc := va_free (wc := [(h0, .inr (8, [.ref la, .ref cl, .ref p0, .ref p1, .ref p4, .int n])), (p0, .inl (T 1, 676, .inr (.inl f_8))), (p1, .inl (T 1, 676, .inr (.inl f_9)))]) hD hS hA [0, 8, 9] rfl
  refine va_callv (va_runV (As := [.int 672, .int r_1, .long ((l9 3).toInt64), .long 1]) (rest := []) ⟨hx, hb, hml, hown, hts⟩ (c_X11_multiply l D T _ h0 p0 p1 (.ref la) (.ref cl) (.ref p4) n f_8 f_9 672 r_1 ((l9 3).toInt64) 1 (by first | decide | omega) (by first | decide | omega) (by first | omega | assumption | decide) (by first | omega | assumption | decide)) (cwV 4 hts gX11_average_X11_multiply rfl rfl rfl hv_X11_multiply ⟨(show _ ≤ (2 * d + 7 : Nat) from by (try dsimp only); omega), (show _ ≤ (64 * d + 280 : Nat) from by (try dsimp only); omega)⟩) (pW_V (q := (RX11, TX11, 6)) (ci := 8) (q0 := 0) hP hE hD rfl rfl [0, 8, 9] (by decide +kernel) rfl rfl) rfl rfl hl.1 rfl (lv_room (Nat.le_of_ble_eq_true rfl)) dX11_average_41 ⟨Nat.le_of_ble_eq_true rfl, Nat.le_of_ble_eq_true rfl⟩) hS (fun q _ h => hFc q h) hFc (fun u_12 t H1 locs ht hvm hr_11 hB hz1 hk1 hS => ?_)
  obtain ⟨f_13, f_14⟩ := u_12
  have hrd1 : f_13 = vp_updL f_8 ((672 : Int32).toNatClampNeg) (mulW ((f_8 (r_1.toNatClampNeg)), (f_9 (r_1.toNatClampNeg))) ((l9 3).toInt64) (1 : Int64)).1 := hr_11.1
  have hrd2 : f_14 = vp_updL f_9 ((672 : Int32).toNatClampNeg) (mulW ((f_8 (r_1.toNatClampNeg)), (f_9 (r_1.toNatClampNeg))) ((l9 3).toInt64) (1 : Int64)).2 := hr_11.2
  have hnw9 : (f_13 ((672 : Int32).toNatClampNeg), f_14 ((672 : Int32).toNatClampNeg)) = mulW ((VALW l9 f1 f2 f3 f4 f5) x2 (x3 + 1) (x4 + 1)) ((l9 3).toInt64) (1 : Int64) := by rw [put_at (q := mulW ((f_8 (r_1.toNatClampNeg)), (f_9 (r_1.toNatClampNeg))) ((l9 3).toInt64) (1 : Int64)) hrd1 hrd2, hv_r_1]
  have hp_672 := hnw9
  have hst : stW (VALW l9 f1 f2 f3 f4 f5) n0 n (rgA x1 x2 x3) g0 g1 g4 f_13 f_14 f_10 := by rw [hrd1, hrd2]; exact hst.put (fun h9 => absurd h9 (by decide +kernel))
  have hmm : memW (VALW l9 f1 f2 f3 f4 f5) n0 n f_13 f_14 f_10 := hst.1
  have hv_r_1 : (f_13 (r_1.toNatClampNeg), f_14 (r_1.toNatClampNeg)) = (VALW l9 f1 f2 f3 f4 f5) x2 (x3 + 1) (x4 + 1) := hst.val (by omega) (by omega) (by omega) hsl_r_1 hfo_r_1
  have hb_r_1 : 0 ≤ (f_14 (r_1.toNatClampNeg)).toInt := val_nn (VAL_low hlq.1 hlq.2 31 _ _ _) hv_r_1
  have hv_r_6 : (f_13 (r_6.toNatClampNeg), f_14 (r_6.toNatClampNeg)) = (VALW l9 f1 f2 f3 f4 f5) x2 (x3 + 1) x4 := hst.val (by omega) (by omega) (by omega) hsl_r_6 hfo_r_6
  have hb_r_6 : 0 ≤ (f_14 (r_6.toNatClampNeg)).toInt := val_nn (VAL_low hlq.1 hlq.2 31 _ _ _) hv_r_6
  obtain ⟨hP1, hD1⟩ := hB
  rw [ht] at hP1
  obtain ⟨hP, hD⟩ := va_repl [(h0, .inr (8, [.ref la, .ref cl, .ref p0, .ref p1, .ref p4, .int n])), (la, .inr (5, [.int (l9 0), .int (l9 1), .int (l9 2), .int (l9 3), .int (l9 4), .int (l9 5), .int (l9 6)])), (cl, .inr (1, [.int n0, .ref c1, .ref c2, .ref c3, .ref c4, .ref c5, .ref c6, .ref c7])), (c1, .inl (T 0, 24, .inl f1)), (c2, .inl (T 0, 24, .inl f2)), (c3, .inl (T 0, 24, .inl f3)), (c4, .inl (T 0, 24, .inl f4)), (c5, .inl (T 0, 24, .inl f5)), (p0, .inl (T 1, 676, .inr (.inl f_13))), (p1, .inl (T 1, 676, .inr (.inl f_14))), (p4, .inl (T 0, 672, .inl f_10))] hP hD [0, 8, 9] [0, 8, 9] rfl (by decide +kernel) rfl rfl rfl hk1 hP1
  clear hP1 hD1 hFc
  generalize H1 = H at hP hS ⊢
  refine lv_aload_n hx hb dX11_average_44 rfl (lv_at hl 2 rfl) ?_
  refine lv_sipush (v := 673) hx hb dX11_average_45 (by decide +kernel) ?_
  refine lv_iload hx hb dX11_average_48 (lv_at hl 0 rfl) ?_
  refine lv_aload_n hx hb dX11_average_50 rfl (lv_at hl 2 rfl) ?_
  refine va_get (D := D) (ci := 8) (v := .ref la) (C := RX11) (T := TX11) (N := 6) hx hb hts in_X11_average_X11 hown hE.1 hP 0 rfl rfl 0 (by decide +kernel) (hts (.fieldLink RX11 26 "ClauseBook$Worth" "lattice" "LClauseBook$Lattice;") (List.mem_of_getElem? (i := 1) rfl)) (fun _ h9 => h9) rfl dX11_average_51 ?_
  refine va_get (D := D) (ci := 5) (v := .int (l9 4)) (C := RX8) (T := TX8) (N := 7) hx hb hts in_X11_average_X8 hown hE.1 hP 1 rfl rfl 4 (by decide +kernel) (hts (.fieldLink RX11 132 "ClauseBook$Lattice" "q" "I") (List.mem_of_getElem? (i := 3) rfl)) (fun _ h9 => h9) rfl dX11_average_54 ?_
  refine lv_aload_n hx hb dX11_average_57 rfl (lv_at hl 2 rfl) ?_
  refine va_get (D := D) (ci := 8) (v := .ref la) (C := RX11) (T := TX11) (N := 6) hx hb hts in_X11_average_X11 hown hE.1 hP 0 rfl rfl 0 (by decide +kernel) (hts (.fieldLink RX11 26 "ClauseBook$Worth" "lattice" "LClauseBook$Lattice;") (List.mem_of_getElem? (i := 1) rfl)) (fun _ h9 => h9) rfl dX11_average_58 ?_
  refine va_get (D := D) (ci := 5) (v := .int (l9 3)) (C := RX8) (T := TX8) (N := 7) hx hb hts in_X11_average_X8 hown hE.1 hP 1 rfl rfl 3 (by decide +kernel) (hts (.fieldLink RX11 129 "ClauseBook$Lattice" "p" "I") (List.mem_of_getElem? (i := 2) rfl)) (fun _ h9 => h9) rfl dX11_average_61 ?_
  refine lv_isub hx hb dX11_average_64 ?_
  refine lv_i2l hx hb dX11_average_65 rfl ?_
  refine lv_lconst (v := 1) hx hb dX11_average_66 (by decide +kernel) ?_
  have hFc := va_free (wc := [(h0, .inr (8, [.ref la, .ref cl, .ref p0, .ref p1, .ref p4, .int n])), (p0, .inl (T 1, 676, .inr (.inl f_13))), (p1, .inl (T 1, 676, .inr (.inl f_14)))]) hD hS hA [0, 8, 9] rfl
  refine va_callv (va_runV (As := [.int 673, .int r_6, .long (((l9 4) - (l9 3)).toInt64), .long 1]) (rest := []) ⟨hx, hb, hml, hown, hts⟩ (c_X11_multiply l D T _ h0 p0 p1 (.ref la) (.ref cl) (.ref p4) n f_13 f_14 673 r_6 (((l9 4) - (l9 3)).toInt64) 1 (by first | decide | omega) (by first | decide | omega) (by first | omega | assumption | decide) (by first | omega | assumption | decide)) (cwV 4 hts gX11_average_X11_multiply rfl rfl rfl hv_X11_multiply ⟨(show _ ≤ (2 * d + 7 : Nat) from by (try dsimp only); omega), (show _ ≤ (64 * d + 280 : Nat) from by (try dsimp only); omega)⟩) (pW_V (q := (RX11, TX11, 6)) (ci := 8) (q0 := 0) hP hE hD rfl rfl [0, 8, 9] (by decide +kernel) rfl rfl) rfl rfl hl.1 rfl (lv_room (Nat.le_of_ble_eq_true rfl)) dX11_average_67 ⟨Nat.le_of_ble_eq_true rfl, Nat.le_of_ble_eq_true rfl⟩) hS (fun q _ h => hFc q h) hFc (fun u_16 t H1 locs ht hvm hr_15 hB hz1 hk1 hS => ?_)
  obtain ⟨f_17, f_18⟩ := u_16
  have hrd1 : f_17 = vp_updL f_13 ((673 : Int32).toNatClampNeg) (mulW ((f_13 (r_6.toNatClampNeg)), (f_14 (r_6.toNatClampNeg))) (((l9 4) - (l9 3)).toInt64) (1 : Int64)).1 := hr_15.1
  have hrd2 : f_18 = vp_updL f_14 ((673 : Int32).toNatClampNeg) (mulW ((f_13 (r_6.toNatClampNeg)), (f_14 (r_6.toNatClampNeg))) (((l9 4) - (l9 3)).toInt64) (1 : Int64)).2 := hr_15.2
  have hnw9 : (f_17 ((673 : Int32).toNatClampNeg), f_18 ((673 : Int32).toNatClampNeg)) = mulW ((VALW l9 f1 f2 f3 f4 f5) x2 (x3 + 1) x4) (((l9 4) - (l9 3)).toInt64) (1 : Int64) := by rw [put_at (q := mulW ((f_13 (r_6.toNatClampNeg)), (f_14 (r_6.toNatClampNeg))) (((l9 4) - (l9 3)).toInt64) (1 : Int64)) hrd1 hrd2, hv_r_6]
  have hp_672 : (f_17 ((672 : Int32).toNatClampNeg), f_18 ((672 : Int32).toNatClampNeg)) = mulW ((VALW l9 f1 f2 f3 f4 f5) x2 (x3 + 1) (x4 + 1)) ((l9 3).toInt64) (1 : Int64) := (put_ne (q := mulW ((f_13 (r_6.toNatClampNeg)), (f_14 (r_6.toNatClampNeg))) (((l9 4) - (l9 3)).toInt64) (1 : Int64)) hrd1 hrd2 (by decide +kernel)).trans hp_672
  have hp_673 := hnw9
  have hst : stW (VALW l9 f1 f2 f3 f4 f5) n0 n (rgA x1 x2 x3) g0 g1 g4 f_17 f_18 f_10 := by rw [hrd1, hrd2]; exact hst.put (fun h9 => absurd h9 (by decide +kernel))
  have hmm : memW (VALW l9 f1 f2 f3 f4 f5) n0 n f_17 f_18 f_10 := hst.1
  have hv_r_1 : (f_17 (r_1.toNatClampNeg), f_18 (r_1.toNatClampNeg)) = (VALW l9 f1 f2 f3 f4 f5) x2 (x3 + 1) (x4 + 1) := hst.val (by omega) (by omega) (by omega) hsl_r_1 hfo_r_1
  have hb_r_1 : 0 ≤ (f_18 (r_1.toNatClampNeg)).toInt := val_nn (VAL_low hlq.1 hlq.2 31 _ _ _) hv_r_1
  have hv_r_6 : (f_17 (r_6.toNatClampNeg), f_18 (r_6.toNatClampNeg)) = (VALW l9 f1 f2 f3 f4 f5) x2 (x3 + 1) x4 := hst.val (by omega) (by omega) (by omega) hsl_r_6 hfo_r_6
  have hb_r_6 : 0 ≤ (f_18 (r_6.toNatClampNeg)).toInt := val_nn (VAL_low hlq.1 hlq.2 31 _ _ _) hv_r_6
  obtain ⟨hP1, hD1⟩ := hB
  rw [ht] at hP1
  obtain ⟨hP, hD⟩ := va_repl [(h0, .inr (8, [.ref la, .ref cl, .ref p0, .ref p1, .ref p4, .int n])), (la, .inr (5, [.int (l9 0), .int (l9 1), .int (l9 2), .int (l9 3), .int (l9 4), .int (l9 5), .int (l9 6)])), (cl, .inr (1, [.int n0, .ref c1, .ref c2, .ref c3, .ref c4, .ref c5, .ref c6, .ref c7])), (c1, .inl (T 0, 24, .inl f1)), (c2, .inl (T 0, 24, .inl f2)), (c3, .inl (T 0, 24, .inl f3)), (c4, .inl (T 0, 24, .inl f4)), (c5, .inl (T 0, 24, .inl f5)), (p0, .inl (T 1, 676, .inr (.inl f_17))), (p1, .inl (T 1, 676, .inr (.inl f_18))), (p4, .inl (T 0, 672, .inl f_10))] hP hD [0, 8, 9] [0, 8, 9] rfl (by decide +kernel) rfl rfl rfl hk1 hP1
  clear hP1 hD1 hFc
  generalize H1 = H at hP hS ⊢
  refine lv_aload_n hx hb dX11_average_70 rfl (lv_at hl 2 rfl) ?_
  refine lv_iload_n hx hb dX11_average_71 rfl (lv_at hl 3 rfl) ?_
  refine lv_sipush (v := 672) hx hb dX11_average_72 (by decide +kernel) ?_
  refine lv_sipush (v := 673) hx hb dX11_average_75 (by decide +kernel) ?_
  have hb672 : 0 ≤ (f_18 ((672 : Int32).toNatClampNeg)).toInt := val_nn (mulW_low (VAL_low hlq.1 hlq.2 31 _ _ _) (by decide +kernel)) hp_672
  have hb673 : 0 ≤ (f_18 ((673 : Int32).toNatClampNeg)).toInt := val_nn (mulW_low (VAL_low hlq.1 hlq.2 31 _ _ _) (by decide +kernel)) hp_673
  have hFc := va_free (wc := [(h0, .inr (8, [.ref la, .ref cl, .ref p0, .ref p1, .ref p4, .int n])), (p0, .inl (T 1, 676, .inr (.inl f_17))), (p1, .inl (T 1, 676, .inr (.inl f_18)))]) hD hS hA [0, 8, 9] rfl
  refine va_callv (va_runV (As := [.int x1, .int 672, .int 673]) (rest := []) ⟨hx, hb, hml, hown, hts⟩ (c_X11_plus l D T _ h0 p0 p1 (.ref la) (.ref cl) (.ref p4) n f_17 f_18 x1 672 673 (by first | decide | omega) (by first | decide | omega) (by first | decide | omega) (by first | omega | assumption | decide) (by first | omega | assumption | decide)) (cwV 3 hts gX11_average_X11_plus rfl rfl rfl hv_X11_plus ⟨(show _ ≤ (2 * d + 7 : Nat) from by (try dsimp only); omega), (show _ ≤ (64 * d + 280 : Nat) from by (try dsimp only); omega)⟩) (pW_V (q := (RX11, TX11, 6)) (ci := 8) (q0 := 0) hP hE hD rfl rfl [0, 8, 9] (by decide +kernel) rfl rfl) rfl rfl hl.1 rfl (lv_room (Nat.le_of_ble_eq_true rfl)) dX11_average_78 ⟨Nat.le_of_ble_eq_true rfl, Nat.le_of_ble_eq_true rfl⟩) hS (fun q _ h => hFc q h) hFc (fun u_20 t H1 locs ht hvm hr_19 hB hz1 hk1 hS => ?_)
  obtain ⟨f_21, f_22⟩ := u_20
  have hrd1 : f_21 = vp_updL f_17 (x1.toNatClampNeg) (addW ((f_17 ((672 : Int32).toNatClampNeg)), (f_18 ((672 : Int32).toNatClampNeg))) ((f_17 ((673 : Int32).toNatClampNeg)), (f_18 ((673 : Int32).toNatClampNeg)))).1 := hr_19.1
  have hrd2 : f_22 = vp_updL f_18 (x1.toNatClampNeg) (addW ((f_17 ((672 : Int32).toNatClampNeg)), (f_18 ((672 : Int32).toNatClampNeg))) ((f_17 ((673 : Int32).toNatClampNeg)), (f_18 ((673 : Int32).toNatClampNeg)))).2 := hr_19.2
  have hnw9 : (f_21 (x1.toNatClampNeg), f_22 (x1.toNatClampNeg)) = addW (mulW ((VALW l9 f1 f2 f3 f4 f5) x2 (x3 + 1) (x4 + 1)) ((l9 3).toInt64) (1 : Int64)) (mulW ((VALW l9 f1 f2 f3 f4 f5) x2 (x3 + 1) x4) (((l9 4) - (l9 3)).toInt64) (1 : Int64)) := by rw [put_at (q := addW ((f_17 ((672 : Int32).toNatClampNeg)), (f_18 ((672 : Int32).toNatClampNeg))) ((f_17 ((673 : Int32).toNatClampNeg)), (f_18 ((673 : Int32).toNatClampNeg)))) hrd1 hrd2, hp_672, hp_673]
  have hp_672 : (f_21 ((672 : Int32).toNatClampNeg), f_22 ((672 : Int32).toNatClampNeg)) = mulW ((VALW l9 f1 f2 f3 f4 f5) x2 (x3 + 1) (x4 + 1)) ((l9 3).toInt64) (1 : Int64) := (put_ne (q := addW ((f_17 ((672 : Int32).toNatClampNeg)), (f_18 ((672 : Int32).toNatClampNeg))) ((f_17 ((673 : Int32).toNatClampNeg)), (f_18 ((673 : Int32).toNatClampNeg)))) hrd1 hrd2 (by have h9 : (672 : Int32).toNatClampNeg = 672 := (by decide +kernel); have h8 := tn (x := x1) (by omega); omega)).trans hp_672
  have hp_673 : (f_21 ((673 : Int32).toNatClampNeg), f_22 ((673 : Int32).toNatClampNeg)) = mulW ((VALW l9 f1 f2 f3 f4 f5) x2 (x3 + 1) x4) (((l9 4) - (l9 3)).toInt64) (1 : Int64) := (put_ne (q := addW ((f_17 ((672 : Int32).toNatClampNeg)), (f_18 ((672 : Int32).toNatClampNeg))) ((f_17 ((673 : Int32).toNatClampNeg)), (f_18 ((673 : Int32).toNatClampNeg)))) hrd1 hrd2 (by have h9 : (673 : Int32).toNatClampNeg = 673 := (by decide +kernel); have h8 := tn (x := x1) (by omega); omega)).trans hp_673
  have hp_x1 := hnw9
  have hst : stW (VALW l9 f1 f2 f3 f4 f5) n0 n (rgA x1 x2 x3) g0 g1 g4 f_21 f_22 f_10 := by rw [hrd1, hrd2]; exact hst.put (fun h9 => ⟨Or.inl rfl, hnf h9⟩)
  have hmm : memW (VALW l9 f1 f2 f3 f4 f5) n0 n f_21 f_22 f_10 := hst.1
  have hv_r_1 : (f_21 (r_1.toNatClampNeg), f_22 (r_1.toNatClampNeg)) = (VALW l9 f1 f2 f3 f4 f5) x2 (x3 + 1) (x4 + 1) := hst.val (by omega) (by omega) (by omega) hsl_r_1 hfo_r_1
  have hb_r_1 : 0 ≤ (f_22 (r_1.toNatClampNeg)).toInt := val_nn (VAL_low hlq.1 hlq.2 31 _ _ _) hv_r_1
  have hv_r_6 : (f_21 (r_6.toNatClampNeg), f_22 (r_6.toNatClampNeg)) = (VALW l9 f1 f2 f3 f4 f5) x2 (x3 + 1) x4 := hst.val (by omega) (by omega) (by omega) hsl_r_6 hfo_r_6
  have hb_r_6 : 0 ≤ (f_22 (r_6.toNatClampNeg)).toInt := val_nn (VAL_low hlq.1 hlq.2 31 _ _ _) hv_r_6
  obtain ⟨hP1, hD1⟩ := hB
  rw [ht] at hP1
  obtain ⟨hP, hD⟩ := va_repl [(h0, .inr (8, [.ref la, .ref cl, .ref p0, .ref p1, .ref p4, .int n])), (la, .inr (5, [.int (l9 0), .int (l9 1), .int (l9 2), .int (l9 3), .int (l9 4), .int (l9 5), .int (l9 6)])), (cl, .inr (1, [.int n0, .ref c1, .ref c2, .ref c3, .ref c4, .ref c5, .ref c6, .ref c7])), (c1, .inl (T 0, 24, .inl f1)), (c2, .inl (T 0, 24, .inl f2)), (c3, .inl (T 0, 24, .inl f3)), (c4, .inl (T 0, 24, .inl f4)), (c5, .inl (T 0, 24, .inl f5)), (p0, .inl (T 1, 676, .inr (.inl f_21))), (p1, .inl (T 1, 676, .inr (.inl f_22))), (p4, .inl (T 0, 672, .inl f_10))] hP hD [0, 8, 9] [0, 8, 9] rfl (by decide +kernel) rfl rfl rfl hk1 hP1
  clear hP1 hD1 hFc
  generalize H1 = H at hP hS ⊢
  refine lv_aload_n hx hb dX11_average_81 rfl (lv_at hl 2 rfl) ?_
  refine lv_sipush (v := 675) hx hb dX11_average_82 (by decide +kernel) ?_
  refine lv_aload_n hx hb dX11_average_85 rfl (lv_at hl 2 rfl) ?_
  refine va_get (D := D) (ci := 8) (v := .ref la) (C := RX11) (T := TX11) (N := 6) hx hb hts in_X11_average_X11 hown hE.1 hP 0 rfl rfl 0 (by decide +kernel) (hts (.fieldLink RX11 26 "ClauseBook$Worth" "lattice" "LClauseBook$Lattice;") (List.mem_of_getElem? (i := 1) rfl)) (fun _ h9 => h9) rfl dX11_average_86 ?_
  refine va_get (D := D) (ci := 5) (v := .int (l9 5)) (C := RX8) (T := TX8) (N := 7) hx hb hts in_X11_average_X8 hown hE.1 hP 1 rfl rfl 5 (by decide +kernel) (hts (.fieldLink RX11 135 "ClauseBook$Lattice" "a" "I") (List.mem_of_getElem? (i := 4) rfl)) (fun _ h9 => h9) rfl dX11_average_89 ?_
  refine lv_i2l hx hb dX11_average_92 rfl ?_
  refine lv_aload_n hx hb dX11_average_93 rfl (lv_at hl 2 rfl) ?_
  refine va_get (D := D) (ci := 8) (v := .ref la) (C := RX11) (T := TX11) (N := 6) hx hb hts in_X11_average_X11 hown hE.1 hP 0 rfl rfl 0 (by decide +kernel) (hts (.fieldLink RX11 26 "ClauseBook$Worth" "lattice" "LClauseBook$Lattice;") (List.mem_of_getElem? (i := 1) rfl)) (fun _ h9 => h9) rfl dX11_average_94 ?_
  refine va_get (D := D) (ci := 5) (v := .int (l9 6)) (C := RX8) (T := TX8) (N := 7) hx hb hts in_X11_average_X8 hown hE.1 hP 1 rfl rfl 6 (by decide +kernel) (hts (.fieldLink RX11 138 "ClauseBook$Lattice" "b" "I") (List.mem_of_getElem? (i := 5) rfl)) (fun _ h9 => h9) rfl dX11_average_97 ?_
  refine lv_aload_n hx hb dX11_average_100 rfl (lv_at hl 2 rfl) ?_
  refine va_get (D := D) (ci := 8) (v := .ref la) (C := RX11) (T := TX11) (N := 6) hx hb hts in_X11_average_X11 hown hE.1 hP 0 rfl rfl 0 (by decide +kernel) (hts (.fieldLink RX11 26 "ClauseBook$Worth" "lattice" "LClauseBook$Lattice;") (List.mem_of_getElem? (i := 1) rfl)) (fun _ h9 => h9) rfl dX11_average_101 ?_
  refine va_get (D := D) (ci := 5) (v := .int (l9 4)) (C := RX8) (T := TX8) (N := 7) hx hb hts in_X11_average_X8 hown hE.1 hP 1 rfl rfl 4 (by decide +kernel) (hts (.fieldLink RX11 132 "ClauseBook$Lattice" "q" "I") (List.mem_of_getElem? (i := 3) rfl)) (fun _ h9 => h9) rfl dX11_average_104 ?_
  refine lv_imul hx hb dX11_average_107 ?_
  refine lv_i2l hx hb dX11_average_108 rfl ?_
  have hFc := va_free (wc := [(h0, .inr (8, [.ref la, .ref cl, .ref p0, .ref p1, .ref p4, .int n])), (p0, .inl (T 1, 676, .inr (.inl f_21))), (p1, .inl (T 1, 676, .inr (.inl f_22)))]) hD hS hA [0, 8, 9] rfl
  refine va_callv (va_runV (As := [.int 675, .long ((l9 5).toInt64), .long (((l9 6) * (l9 4)).toInt64)]) (rest := []) ⟨hx, hb, hml, hown, hts⟩ (c_X11_reduce l D T _ h0 p0 p1 (.ref la) (.ref cl) (.ref p4) n f_21 f_22 675 ((l9 5).toInt64) (((l9 6) * (l9 4)).toInt64) (by first | decide | omega) (wt_den hlq.1 hlq.2)) (cwV 3 hts gX11_average_X11_reduce rfl rfl rfl hv_X11_reduce ⟨(show _ ≤ (2 * d + 7 : Nat) from by (try dsimp only); omega), (show _ ≤ (64 * d + 280 : Nat) from by (try dsimp only); omega)⟩) (pW_V (q := (RX11, TX11, 6)) (ci := 8) (q0 := 0) hP hE hD rfl rfl [0, 8, 9] (by decide +kernel) rfl rfl) rfl rfl hl.1 rfl (lv_room (Nat.le_of_ble_eq_true rfl)) dX11_average_109 ⟨Nat.le_of_ble_eq_true rfl, Nat.le_of_ble_eq_true rfl⟩) hS (fun q _ h => hFc q h) hFc (fun u_24 t H1 locs ht hvm hr_23 hB hz1 hk1 hS => ?_)
  obtain ⟨f_25, f_26⟩ := u_24
  have hrd1 : f_25 = vp_updL f_21 ((675 : Int32).toNatClampNeg) (redW ((l9 5).toInt64) (((l9 6) * (l9 4)).toInt64)).1 := hr_23.1
  have hrd2 : f_26 = vp_updL f_22 ((675 : Int32).toNatClampNeg) (redW ((l9 5).toInt64) (((l9 6) * (l9 4)).toInt64)).2 := hr_23.2
  have hnw9 : (f_25 ((675 : Int32).toNatClampNeg), f_26 ((675 : Int32).toNatClampNeg)) = redW ((l9 5).toInt64) (((l9 6) * (l9 4)).toInt64) := by rw [put_at (q := redW ((l9 5).toInt64) (((l9 6) * (l9 4)).toInt64)) hrd1 hrd2]
  have hp_672 : (f_25 ((672 : Int32).toNatClampNeg), f_26 ((672 : Int32).toNatClampNeg)) = mulW ((VALW l9 f1 f2 f3 f4 f5) x2 (x3 + 1) (x4 + 1)) ((l9 3).toInt64) (1 : Int64) := (put_ne (q := redW ((l9 5).toInt64) (((l9 6) * (l9 4)).toInt64)) hrd1 hrd2 (by decide +kernel)).trans hp_672
  have hp_673 : (f_25 ((673 : Int32).toNatClampNeg), f_26 ((673 : Int32).toNatClampNeg)) = mulW ((VALW l9 f1 f2 f3 f4 f5) x2 (x3 + 1) x4) (((l9 4) - (l9 3)).toInt64) (1 : Int64) := (put_ne (q := redW ((l9 5).toInt64) (((l9 6) * (l9 4)).toInt64)) hrd1 hrd2 (by decide +kernel)).trans hp_673
  have hp_x1 : (f_25 (x1.toNatClampNeg), f_26 (x1.toNatClampNeg)) = addW (mulW ((VALW l9 f1 f2 f3 f4 f5) x2 (x3 + 1) (x4 + 1)) ((l9 3).toInt64) (1 : Int64)) (mulW ((VALW l9 f1 f2 f3 f4 f5) x2 (x3 + 1) x4) (((l9 4) - (l9 3)).toInt64) (1 : Int64)) := (put_ne (q := redW ((l9 5).toInt64) (((l9 6) * (l9 4)).toInt64)) hrd1 hrd2 (by have h9 : (675 : Int32).toNatClampNeg = 675 := (by decide +kernel); have h8 := tn (x := x1) (by omega); omega)).trans hp_x1
  have hp_675 := hnw9
  have hst : stW (VALW l9 f1 f2 f3 f4 f5) n0 n (rgA x1 x2 x3) g0 g1 g4 f_25 f_26 f_10 := by rw [hrd1, hrd2]; exact hst.put (fun h9 => absurd h9 (by decide +kernel))
  have hmm : memW (VALW l9 f1 f2 f3 f4 f5) n0 n f_25 f_26 f_10 := hst.1
  have hv_r_1 : (f_25 (r_1.toNatClampNeg), f_26 (r_1.toNatClampNeg)) = (VALW l9 f1 f2 f3 f4 f5) x2 (x3 + 1) (x4 + 1) := hst.val (by omega) (by omega) (by omega) hsl_r_1 hfo_r_1
  have hb_r_1 : 0 ≤ (f_26 (r_1.toNatClampNeg)).toInt := val_nn (VAL_low hlq.1 hlq.2 31 _ _ _) hv_r_1
  have hv_r_6 : (f_25 (r_6.toNatClampNeg), f_26 (r_6.toNatClampNeg)) = (VALW l9 f1 f2 f3 f4 f5) x2 (x3 + 1) x4 := hst.val (by omega) (by omega) (by omega) hsl_r_6 hfo_r_6
  have hb_r_6 : 0 ≤ (f_26 (r_6.toNatClampNeg)).toInt := val_nn (VAL_low hlq.1 hlq.2 31 _ _ _) hv_r_6
  obtain ⟨hP1, hD1⟩ := hB
  rw [ht] at hP1
  obtain ⟨hP, hD⟩ := va_repl [(h0, .inr (8, [.ref la, .ref cl, .ref p0, .ref p1, .ref p4, .int n])), (la, .inr (5, [.int (l9 0), .int (l9 1), .int (l9 2), .int (l9 3), .int (l9 4), .int (l9 5), .int (l9 6)])), (cl, .inr (1, [.int n0, .ref c1, .ref c2, .ref c3, .ref c4, .ref c5, .ref c6, .ref c7])), (c1, .inl (T 0, 24, .inl f1)), (c2, .inl (T 0, 24, .inl f2)), (c3, .inl (T 0, 24, .inl f3)), (c4, .inl (T 0, 24, .inl f4)), (c5, .inl (T 0, 24, .inl f5)), (p0, .inl (T 1, 676, .inr (.inl f_25))), (p1, .inl (T 1, 676, .inr (.inl f_26))), (p4, .inl (T 0, 672, .inl f_10))] hP hD [0, 8, 9] [0, 8, 9] rfl (by decide +kernel) rfl rfl rfl hk1 hP1
  clear hP1 hD1 hFc
  generalize H1 = H at hP hS ⊢
  refine lv_aload_n hx hb dX11_average_112 rfl (lv_at hl 2 rfl) ?_
  refine lv_iload_n hx hb dX11_average_113 rfl (lv_at hl 3 rfl) ?_
  refine lv_iload_n hx hb dX11_average_114 rfl (lv_at hl 3 rfl) ?_
  refine lv_aload_n hx hb dX11_average_115 rfl (lv_at hl 2 rfl) ?_
  refine va_get (D := D) (ci := 8) (v := .ref p0) (C := RX11) (T := TX11) (N := 6) hx hb hts in_X11_average_X11 hown hE.1 hP 0 rfl rfl 2 (by decide +kernel) (hts (.fieldLink RX11 11 "ClauseBook$Worth" "above" "[J") (List.mem_of_getElem? (i := 6) rfl)) (fun _ h9 => h9) rfl dX11_average_116 ?_
  refine lv_sipush (v := 675) hx hb dX11_average_119 (by decide +kernel) ?_
  refine va_lald hx hb hE.1 hP 8 1 rfl rfl (by unfold vp_in; decide) dX11_average_122 ?_
  refine lv_topl (fun z_27 ez_27 => ?_)
  have hwz1 : z_27 = (wtW l9).1 := by rw [ez_27]; exact congrArg Prod.fst hp_675
  refine lv_aload_n hx hb dX11_average_123 rfl (lv_at hl 2 rfl) ?_
  refine va_get (D := D) (ci := 8) (v := .ref p1) (C := RX11) (T := TX11) (N := 6) hx hb hts in_X11_average_X11 hown hE.1 hP 0 rfl rfl 3 (by decide +kernel) (hts (.fieldLink RX11 15 "ClauseBook$Worth" "below" "[J") (List.mem_of_getElem? (i := 7) rfl)) (fun _ h9 => h9) rfl dX11_average_124 ?_
  refine lv_sipush (v := 675) hx hb dX11_average_127 (by decide +kernel) ?_
  refine va_lald hx hb hE.1 hP 9 1 rfl rfl (by unfold vp_in; decide) dX11_average_130 ?_
  refine lv_topl (fun z_28 ez_28 => ?_)
  have hwz2 : z_28 = (wtW l9).2 := by rw [ez_28]; exact congrArg Prod.snd hp_675
  have hw9 : 1 ≤ z_28.toInt := by rw [hwz2]; exact wt_pos hlq.1 hlq.2
  have hbx : 0 ≤ (f_26 (x1.toNatClampNeg)).toInt := val_nn (addW_low (mulW_low (VAL_low hlq.1 hlq.2 31 _ _ _) (by decide +kernel)) (mulW_low (VAL_low hlq.1 hlq.2 31 _ _ _) (by decide +kernel))) hp_x1
  have hFc := va_free (wc := [(h0, .inr (8, [.ref la, .ref cl, .ref p0, .ref p1, .ref p4, .int n])), (p0, .inl (T 1, 676, .inr (.inl f_25))), (p1, .inl (T 1, 676, .inr (.inl f_26)))]) hD hS hA [0, 8, 9] rfl
  refine va_callv (va_runV (As := [.int x1, .int x1, .long z_27, .long z_28]) (rest := []) ⟨hx, hb, hml, hown, hts⟩ (c_X11_multiply l D T _ h0 p0 p1 (.ref la) (.ref cl) (.ref p4) n f_25 f_26 x1 x1 z_27 z_28 (by first | decide | omega) (by first | decide | omega) (by first | omega | assumption | decide) (by first | omega | assumption | decide)) (cwV 4 hts gX11_average_X11_multiply rfl rfl rfl hv_X11_multiply ⟨(show _ ≤ (2 * d + 7 : Nat) from by (try dsimp only); omega), (show _ ≤ (64 * d + 280 : Nat) from by (try dsimp only); omega)⟩) (pW_V (q := (RX11, TX11, 6)) (ci := 8) (q0 := 0) hP hE hD rfl rfl [0, 8, 9] (by decide +kernel) rfl rfl) rfl rfl hl.1 rfl (lv_room (Nat.le_of_ble_eq_true rfl)) dX11_average_131 ⟨Nat.le_of_ble_eq_true rfl, Nat.le_of_ble_eq_true rfl⟩) hS (fun q _ h => hFc q h) hFc (fun u_30 t H1 locs ht hvm hr_29 hB hz1 hk1 hS => ?_)
  obtain ⟨f_31, f_32⟩ := u_30
  have hrd1 : f_31 = vp_updL f_25 (x1.toNatClampNeg) (mulW ((f_25 (x1.toNatClampNeg)), (f_26 (x1.toNatClampNeg))) z_27 z_28).1 := hr_29.1
  have hrd2 : f_32 = vp_updL f_26 (x1.toNatClampNeg) (mulW ((f_25 (x1.toNatClampNeg)), (f_26 (x1.toNatClampNeg))) z_27 z_28).2 := hr_29.2
  have hnw9 : (f_31 (x1.toNatClampNeg), f_32 (x1.toNatClampNeg)) = mulW (addW (mulW ((VALW l9 f1 f2 f3 f4 f5) x2 (x3 + 1) (x4 + 1)) ((l9 3).toInt64) (1 : Int64)) (mulW ((VALW l9 f1 f2 f3 f4 f5) x2 (x3 + 1) x4) (((l9 4) - (l9 3)).toInt64) (1 : Int64))) z_27 z_28 := by rw [put_at (q := mulW ((f_25 (x1.toNatClampNeg)), (f_26 (x1.toNatClampNeg))) z_27 z_28) hrd1 hrd2, hp_x1]
  have hp_672 : (f_31 ((672 : Int32).toNatClampNeg), f_32 ((672 : Int32).toNatClampNeg)) = mulW ((VALW l9 f1 f2 f3 f4 f5) x2 (x3 + 1) (x4 + 1)) ((l9 3).toInt64) (1 : Int64) := (put_ne (q := mulW ((f_25 (x1.toNatClampNeg)), (f_26 (x1.toNatClampNeg))) z_27 z_28) hrd1 hrd2 (by have h9 : (672 : Int32).toNatClampNeg = 672 := (by decide +kernel); have h8 := tn (x := x1) (by omega); omega)).trans hp_672
  have hp_673 : (f_31 ((673 : Int32).toNatClampNeg), f_32 ((673 : Int32).toNatClampNeg)) = mulW ((VALW l9 f1 f2 f3 f4 f5) x2 (x3 + 1) x4) (((l9 4) - (l9 3)).toInt64) (1 : Int64) := (put_ne (q := mulW ((f_25 (x1.toNatClampNeg)), (f_26 (x1.toNatClampNeg))) z_27 z_28) hrd1 hrd2 (by have h9 : (673 : Int32).toNatClampNeg = 673 := (by decide +kernel); have h8 := tn (x := x1) (by omega); omega)).trans hp_673
  have hp_675 : (f_31 ((675 : Int32).toNatClampNeg), f_32 ((675 : Int32).toNatClampNeg)) = redW ((l9 5).toInt64) (((l9 6) * (l9 4)).toInt64) := (put_ne (q := mulW ((f_25 (x1.toNatClampNeg)), (f_26 (x1.toNatClampNeg))) z_27 z_28) hrd1 hrd2 (by have h9 : (675 : Int32).toNatClampNeg = 675 := (by decide +kernel); have h8 := tn (x := x1) (by omega); omega)).trans hp_675
  have hp_x1 := hnw9
  have hst : stW (VALW l9 f1 f2 f3 f4 f5) n0 n (rgA x1 x2 x3) g0 g1 g4 f_31 f_32 f_10 := by rw [hrd1, hrd2]; exact hst.put (fun h9 => ⟨Or.inl rfl, hnf h9⟩)
  have hmm : memW (VALW l9 f1 f2 f3 f4 f5) n0 n f_31 f_32 f_10 := hst.1
  have hv_r_1 : (f_31 (r_1.toNatClampNeg), f_32 (r_1.toNatClampNeg)) = (VALW l9 f1 f2 f3 f4 f5) x2 (x3 + 1) (x4 + 1) := hst.val (by omega) (by omega) (by omega) hsl_r_1 hfo_r_1
  have hb_r_1 : 0 ≤ (f_32 (r_1.toNatClampNeg)).toInt := val_nn (VAL_low hlq.1 hlq.2 31 _ _ _) hv_r_1
  have hv_r_6 : (f_31 (r_6.toNatClampNeg), f_32 (r_6.toNatClampNeg)) = (VALW l9 f1 f2 f3 f4 f5) x2 (x3 + 1) x4 := hst.val (by omega) (by omega) (by omega) hsl_r_6 hfo_r_6
  have hb_r_6 : 0 ≤ (f_32 (r_6.toNatClampNeg)).toInt := val_nn (VAL_low hlq.1 hlq.2 31 _ _ _) hv_r_6
  obtain ⟨hP1, hD1⟩ := hB
  rw [ht] at hP1
  obtain ⟨hP, hD⟩ := va_repl [(h0, .inr (8, [.ref la, .ref cl, .ref p0, .ref p1, .ref p4, .int n])), (la, .inr (5, [.int (l9 0), .int (l9 1), .int (l9 2), .int (l9 3), .int (l9 4), .int (l9 5), .int (l9 6)])), (cl, .inr (1, [.int n0, .ref c1, .ref c2, .ref c3, .ref c4, .ref c5, .ref c6, .ref c7])), (c1, .inl (T 0, 24, .inl f1)), (c2, .inl (T 0, 24, .inl f2)), (c3, .inl (T 0, 24, .inl f3)), (c4, .inl (T 0, 24, .inl f4)), (c5, .inl (T 0, 24, .inl f5)), (p0, .inl (T 1, 676, .inr (.inl f_31))), (p1, .inl (T 1, 676, .inr (.inl f_32))), (p4, .inl (T 0, 672, .inl f_10))] hP hD [0, 8, 9] [0, 8, 9] rfl (by decide +kernel) rfl rfl rfl hk1 hP1
  clear hP1 hD1 hFc
  generalize H1 = H at hP hS ⊢
  exact W.vret hx hb hr (fun t ht hW => ⟨⟨(f_31, f_32, f_10), rfl, ⟨hst, (by rw [hp_x1, hwz1, hwz2]; rfl), hg4⟩, by rw [ht]; exact hP.sub [0, 1, 2, 3, 4, 5, 6, 7, 8, 9, 10] rfl, hD.sub [0, 1, 2, 3, 4, 5, 6, 7, 8, 9, 10] (by decide +kernel) rfl⟩, hS.F ht⟩) hS.2.2 dX11_average_134
end
