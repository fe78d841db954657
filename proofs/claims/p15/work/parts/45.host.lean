theorem loopRD {p : Program} {l : Launch} {e : Env} {R : Room} {s : State} {m : MethodId} {args : Array Value} {below : List Frame} {meth : Method} {c : Code} {H : Heap} {locs : List Loc} {cells slots : Nat} {Q : State → Prop} {pc : Nat} {cs : List Choice} {σ : Type} (I : σ → Array Slot → Prop) (μ : σ → Nat) (step : ∀ (x : σ) (ls : Array Slot) (d0 : Drawn), s.drawn.sameBut d0 cs → I x ls → (∀ (y : σ) (ls' : Array Slot) (d1 : Drawn), s.drawn.sameBut d1 cs → I y ls' → μ y < μ x → W p l e R (s.setDrawn d1) m args below meth c H locs cells slots Q (F0 m pc ls' [])) → W p l e R (s.setDrawn d0) m args below meth c H locs cells slots Q (F0 m pc ls [])) (x : σ) (ls : Array Slot) (d0 : Drawn) (hd : s.drawn.sameBut d0 cs) (h : I x ls) : W p l e R (s.setDrawn d0) m args below meth c H locs cells slots Q (F0 m pc ls []) := by
  have key : ∀ (n : Nat) (x : σ) (ls : Array Slot) (d0 : Drawn), s.drawn.sameBut d0 cs → μ x < n → I x ls → W p l e R (s.setDrawn d0) m args below meth c H locs cells slots Q (F0 m pc ls []) := by
    intro n
    induction n with
    | zero => intro x ls d0 hd h; exact absurd h (Nat.not_lt_zero _)
    | succ n ih => intro x ls d0 hd h hI; exact step x ls d0 hd hI (fun y ls' d1 hd1 hy hlt => ih y ls' d1 hd1 (by omega) hy)
  exact key _ x ls d0 hd (Nat.lt_succ_self _) h
theorem ti_2200 : (2200 : Int32).toInt = 2200 := by decide
theorem dX5_isNegative_0 : decode cX5_isNegative 0 = .ok (.dload_n 0, 1) := by decide +kernel
theorem dX5_isNegative_1 : decode cX5_isNegative 1 = .ok (.dconst 0, 1) := by decide +kernel
theorem dX5_isNegative_12 : decode cX5_isNegative 12 = .ok (.dconst 1, 1) := by decide +kernel
theorem dX5_isNegative_13 : decode cX5_isNegative 13 = .ok (.dload_n 0, 1) := by decide +kernel
theorem dX5_isNegative_14 : decode cX5_isNegative 14 = .ok (.ddiv, 1) := by decide +kernel
theorem dX5_isNegative_15 : decode cX5_isNegative 15 = .ok (.dconst 0, 1) := by decide +kernel
theorem dX5_isNegative_16 : decode cX5_isNegative 16 = .ok (.dcmp .g, 1) := by decide +kernel
theorem dX5_isNegative_17 : decode cX5_isNegative 17 = .ok (.ifCond .ge 7, 3) := by decide +kernel
theorem dX5_isNegative_2 : decode cX5_isNegative 2 = .ok (.dcmp .g, 1) := by decide +kernel
theorem dX5_isNegative_20 : decode cX5_isNegative 20 = .ok (.iconst 1, 1) := by decide +kernel
theorem dX5_isNegative_21 : decode cX5_isNegative 21 = .ok (.goto 4, 3) := by decide +kernel
theorem dX5_isNegative_24 : decode cX5_isNegative 24 = .ok (.iconst 0, 1) := by decide +kernel
theorem dX5_isNegative_25 : decode cX5_isNegative 25 = .ok (.ireturn, 1) := by decide +kernel
theorem dX5_isNegative_3 : decode cX5_isNegative 3 = .ok (.ifCond .lt 17, 3) := by decide +kernel
theorem dX5_isNegative_6 : decode cX5_isNegative 6 = .ok (.dload_n 0, 1) := by decide +kernel
theorem dX5_isNegative_7 : decode cX5_isNegative 7 = .ok (.dconst 0, 1) := by decide +kernel
theorem dX5_isNegative_8 : decode cX5_isNegative 8 = .ok (.dcmp .l, 1) := by decide +kernel
theorem dX5_isNegative_9 : decode cX5_isNegative 9 = .ok (.ifCond .ne 15, 3) := by decide +kernel
set_option maxHeartbeats 4000000 in
set_option maxRecDepth 100000 in
theorem c_X5_isNegative (l : Launch) (D : va_G) (T : Nat → ClassId) (sz : Nat) (x0 : UInt64)  : MetD lw_cs l yX5_isNegative wsX5_isNegative ({ frames := 0, cells := 0, slots := 0, locals := 0 }) (pW [.double x0] D T [] sz) (va_Qi (fun (r : Int32) (u : Unit) => True) (bW D (va_A [] sz) (fun (u : Unit) => ([] : va_W))) (va_A [] sz)) 0 0 (va_A [] sz) := by
  refine MetD.ofW (cc := cX5_isNegative) (maxL := 2) (ret := (some .boolean)) (by decide +kernel) rfl ?_
  intro p e s m args below meth c s₁ B hml hv hd0
  obtain ⟨rfl, hsz, hP, hE0, hD0⟩ := hv
  have hx := B.exec
  have hb := B.bytes
  have hr := B.returns
  have hts0 := atoms_spec (ws := wsX5_isNegative) B.pre
  have hown0 : s.vm.findClass RX5 = some m.cls := findClass_of_methodNamed B.named
  have hlocks := B.notSynchronized
  subst hsz
  have hD := hD0.self (sz := s.heap.size)
  generalize hAe : va_A [] s.heap.size = A at hD ⊢
  have hA : ∀ q : Nat, s.heap.size ≤ q → A q := fun q h => by rw [← hAe]; exact Or.inr h
  have hS : va_S A s.heap s.heap [] := va_S.rf
  have hP : va_P D vwCl [] s.heap := hP
  have hl := lv_entry ([.double x0]) (n := 2) (Nat.le_of_ble_eq_true rfl)
  rw [lg_entry_eq]
  generalize (lg_sl ([.double x0]) ++ List.replicate (2 - (lg_sl ([.double x0])).length) Slot.unset).toArray = ls at hl ⊢
  have hl : lv_has ls 2 [(0, .double x0)] := hl
  clear hD0
  have hts := dr_words hts0 s.drawn
  have hE : ekK D T (s.setDrawn s.drawn) := ekK.same (u := s) rfl hE0
  have hown : (s.setDrawn s.drawn).vm.findClass RX5 = some m.cls := hown0
  refine lv_dload_n hx hb dX5_isNegative_0 rfl (lv_at hl 0 rfl) ?_
  refine lv_dconst0 hx hb dX5_isNegative_1 ?_
  refine lv_dcmp hx hb dX5_isNegative_2 ?_
  refine lv_topi (fun z_1 ez_1 => ?_)
  refine lv_if_lt (tgt := 20) hx hb dX5_isNegative_3 (by decide +kernel) (fun c_2 => ?_) (fun c_2 => ?_)
  · rw [fa_lt] at c_2
    try rw [ti_0] at c_2
    refine lv_iconst (v := 1) hx hb dX5_isNegative_20 (by decide +kernel) ?_
    refine lv_goto (tgt := 25) hx hb dX5_isNegative_21 (by decide +kernel) ?_
    refine W.endD hd0 ?_
    exact W.zret hx hb hr rfl (fun t ht hW => ⟨⟨_, (), rfl, trivial, by rw [ht]; exact hP.sub [] rfl, hD.sub [] (by decide +kernel) rfl⟩, hS.F ht⟩) hS.2.2 dX5_isNegative_25
  · rw [fa_lt] at c_2
    try rw [ti_0] at c_2
    refine lv_dload_n hx hb dX5_isNegative_6 rfl (lv_at hl 0 rfl) ?_
    refine lv_dconst0 hx hb dX5_isNegative_7 ?_
    refine lv_dcmp hx hb dX5_isNegative_8 ?_
    refine lv_topi (fun z_3 ez_3 => ?_)
    refine lv_if_ne (tgt := 24) hx hb dX5_isNegative_9 (by decide +kernel) (fun c_4 => ?_) (fun c_4 => ?_)
    · rw [fa_eq] at c_4
      try rw [ti_0] at c_4
      refine lv_iconst (v := 0) hx hb dX5_isNegative_24 (by decide +kernel) ?_
      refine W.endD hd0 ?_
      exact W.zret hx hb hr rfl (fun t ht hW => ⟨⟨_, (), rfl, trivial, by rw [ht]; exact hP.sub [] rfl, hD.sub [] (by decide +kernel) rfl⟩, hS.F ht⟩) hS.2.2 dX5_isNegative_25
    · rw [fa_eq] at c_4
      try rw [ti_0] at c_4
      refine lv_dconst1 hx hb dX5_isNegative_12 ?_
      refine lv_dload_n hx hb dX5_isNegative_13 rfl (lv_at hl 0 rfl) ?_
      refine lv_ddiv_any hd0 lw_bits hx hb dX5_isNegative_14 (fun r_5 d_6 _ hd_6 => ?_)
      have hts := dr_words hts0 d_6
      have hE : ekK D T (s.setDrawn d_6) := ekK.same (u := s) rfl hE0
      have hown : (s.setDrawn d_6).vm.findClass RX5 = some m.cls := hown0
      refine lv_dconst0 hx hb dX5_isNegative_15 ?_
      refine lv_dcmp hx hb dX5_isNegative_16 ?_
      refine lv_topi (fun z_7 ez_7 => ?_)
      refine lv_if_ge (tgt := 24) hx hb dX5_isNegative_17 (by decide +kernel) (fun c_8 => ?_) (fun c_8 => ?_)
      · rw [fa_le] at c_8
        try rw [ti_0] at c_8
        refine lv_iconst (v := 0) hx hb dX5_isNegative_24 (by decide +kernel) ?_
        refine W.endD hd_6 ?_
        exact W.zret hx hb hr rfl (fun t ht hW => ⟨⟨_, (), rfl, trivial, by rw [ht]; exact hP.sub [] rfl, hD.sub [] (by decide +kernel) rfl⟩, hS.F ht⟩) hS.2.2 dX5_isNegative_25
      · rw [fa_le] at c_8
        try rw [ti_0] at c_8
        refine lv_iconst (v := 1) hx hb dX5_isNegative_20 (by decide +kernel) ?_
        refine lv_goto (tgt := 25) hx hb dX5_isNegative_21 (by decide +kernel) ?_
        refine W.endD hd_6 ?_
        exact W.zret hx hb hr rfl (fun t ht hW => ⟨⟨_, (), rfl, trivial, by rw [ht]; exact hP.sub [] rfl, hD.sub [] (by decide +kernel) rfl⟩, hS.F ht⟩) hS.2.2 dX5_isNegative_25
theorem dX5_packed_0 : decode cX5_packed 0 = .ok (.dload_n 0, 1) := by decide +kernel
theorem dX5_packed_1 : decode cX5_packed 1 = .ok (.dconst 0, 1) := by decide +kernel
theorem dX5_packed_101 : decode cX5_packed 101 = .ok (.goto (-35), 3) := by decide +kernel
theorem dX5_packed_104 : decode cX5_packed 104 = .ok (.dload 4, 2) := by decide +kernel
theorem dX5_packed_106 : decode cX5_packed 106 = .ok (.lconst 1, 1) := by decide +kernel
theorem dX5_packed_107 : decode cX5_packed 107 = .ok (.iload_n 2, 1) := by decide +kernel
theorem dX5_packed_108 : decode cX5_packed 108 = .ok (.lshl, 1) := by decide +kernel
theorem dX5_packed_109 : decode cX5_packed 109 = .ok (.l2d, 1) := by decide +kernel
theorem dX5_packed_11 : decode cX5_packed 11 = .ok (.dload_n 0, 1) := by decide +kernel
theorem dX5_packed_110 : decode cX5_packed 110 = .ok (.dmul, 1) := by decide +kernel
theorem dX5_packed_111 : decode cX5_packed 111 = .ok (.d2l, 1) := by decide +kernel
theorem dX5_packed_112 : decode cX5_packed 112 = .ok (.lstore 7, 2) := by decide +kernel
theorem dX5_packed_114 : decode cX5_packed 114 = .ok (.iload 6, 2) := by decide +kernel
theorem dX5_packed_116 : decode cX5_packed 116 = .ok (.iload_n 3, 1) := by decide +kernel
theorem dX5_packed_117 : decode cX5_packed 117 = .ok (.isub, 1) := by decide +kernel
theorem dX5_packed_118 : decode cX5_packed 118 = .ok (.i2l, 1) := by decide +kernel
theorem dX5_packed_119 : decode cX5_packed 119 = .ok (.iload_n 2, 1) := by decide +kernel
theorem dX5_packed_12 : decode cX5_packed 12 = .ok (.dstore 4, 2) := by decide +kernel
theorem dX5_packed_120 : decode cX5_packed 120 = .ok (.lshl, 1) := by decide +kernel
theorem dX5_packed_121 : decode cX5_packed 121 = .ok (.lload 7, 2) := by decide +kernel
theorem dX5_packed_123 : decode cX5_packed 123 = .ok (.ladd, 1) := by decide +kernel
theorem dX5_packed_124 : decode cX5_packed 124 = .ok (.lreturn, 1) := by decide +kernel
theorem dX5_packed_14 : decode cX5_packed 14 = .ok (.dload 4, 2) := by decide +kernel
theorem dX5_packed_16 : decode cX5_packed 16 = .ok (.dconst 0, 1) := by decide +kernel
theorem dX5_packed_17 : decode cX5_packed 17 = .ok (.dcmp .l, 1) := by decide +kernel
theorem dX5_packed_18 : decode cX5_packed 18 = .ok (.ifCond .ne 5, 3) := by decide +kernel
theorem dX5_packed_2 : decode cX5_packed 2 = .ok (.dcmp .g, 1) := by decide +kernel
theorem dX5_packed_21 : decode cX5_packed 21 = .ok (.lconst 0, 1) := by decide +kernel
theorem dX5_packed_22 : decode cX5_packed 22 = .ok (.lreturn, 1) := by decide +kernel
theorem dX5_packed_23 : decode cX5_packed 23 = .ok (.iconst 0, 1) := by decide +kernel
theorem dX5_packed_24 : decode cX5_packed 24 = .ok (.istore 6, 2) := by decide +kernel
theorem dX5_packed_26 : decode cX5_packed 26 = .ok (.iconst 0, 1) := by decide +kernel
theorem dX5_packed_27 : decode cX5_packed 27 = .ok (.istore 7, 2) := by decide +kernel
theorem dX5_packed_29 : decode cX5_packed 29 = .ok (.iload 7, 2) := by decide +kernel
theorem dX5_packed_3 : decode cX5_packed 3 = .ok (.ifCond .ge 8, 3) := by decide +kernel
theorem dX5_packed_31 : decode cX5_packed 31 = .ok (.sipush 2200, 3) := by decide +kernel
theorem dX5_packed_34 : decode cX5_packed 34 = .ok (.if_icmp .ge 29, 3) := by decide +kernel
theorem dX5_packed_37 : decode cX5_packed 37 = .ok (.dload 4, 2) := by decide +kernel
theorem dX5_packed_39 : decode cX5_packed 39 = .ok (.ldc2_w 24, 3) := by decide +kernel
theorem dX5_packed_42 : decode cX5_packed 42 = .ok (.dcmp .l, 1) := by decide +kernel
theorem dX5_packed_43 : decode cX5_packed 43 = .ok (.ifCond .lt 20, 3) := by decide +kernel
theorem dX5_packed_46 : decode cX5_packed 46 = .ok (.dload 4, 2) := by decide +kernel
theorem dX5_packed_48 : decode cX5_packed 48 = .ok (.ldc2_w 24, 3) := by decide +kernel
theorem dX5_packed_51 : decode cX5_packed 51 = .ok (.ddiv, 1) := by decide +kernel
theorem dX5_packed_52 : decode cX5_packed 52 = .ok (.dstore 4, 2) := by decide +kernel
theorem dX5_packed_54 : decode cX5_packed 54 = .ok (.iinc 6 1, 3) := by decide +kernel
theorem dX5_packed_57 : decode cX5_packed 57 = .ok (.iinc 7 1, 3) := by decide +kernel
theorem dX5_packed_6 : decode cX5_packed 6 = .ok (.dload_n 0, 1) := by decide +kernel
theorem dX5_packed_60 : decode cX5_packed 60 = .ok (.goto (-31), 3) := by decide +kernel
theorem dX5_packed_63 : decode cX5_packed 63 = .ok (.iconst 0, 1) := by decide +kernel
theorem dX5_packed_64 : decode cX5_packed 64 = .ok (.istore 7, 2) := by decide +kernel
theorem dX5_packed_66 : decode cX5_packed 66 = .ok (.iload 7, 2) := by decide +kernel
theorem dX5_packed_68 : decode cX5_packed 68 = .ok (.sipush 2200, 3) := by decide +kernel
theorem dX5_packed_7 : decode cX5_packed 7 = .ok (.dneg, 1) := by decide +kernel
theorem dX5_packed_71 : decode cX5_packed 71 = .ok (.if_icmp .ge 33, 3) := by decide +kernel
theorem dX5_packed_74 : decode cX5_packed 74 = .ok (.dload 4, 2) := by decide +kernel
theorem dX5_packed_76 : decode cX5_packed 76 = .ok (.dconst 1, 1) := by decide +kernel
theorem dX5_packed_77 : decode cX5_packed 77 = .ok (.dcmp .g, 1) := by decide +kernel
theorem dX5_packed_78 : decode cX5_packed 78 = .ok (.ifCond .ge 26, 3) := by decide +kernel
theorem dX5_packed_8 : decode cX5_packed 8 = .ok (.goto 4, 3) := by decide +kernel
theorem dX5_packed_81 : decode cX5_packed 81 = .ok (.iload 6, 2) := by decide +kernel
theorem dX5_packed_83 : decode cX5_packed 83 = .ok (.iload_n 3, 1) := by decide +kernel
theorem dX5_packed_84 : decode cX5_packed 84 = .ok (.if_icmp .le 20, 3) := by decide +kernel
theorem dX5_packed_87 : decode cX5_packed 87 = .ok (.dload 4, 2) := by decide +kernel
theorem dX5_packed_89 : decode cX5_packed 89 = .ok (.ldc2_w 24, 3) := by decide +kernel
theorem dX5_packed_92 : decode cX5_packed 92 = .ok (.dmul, 1) := by decide +kernel
theorem dX5_packed_93 : decode cX5_packed 93 = .ok (.dstore 4, 2) := by decide +kernel
theorem dX5_packed_95 : decode cX5_packed 95 = .ok (.iinc 6 (-1), 3) := by decide +kernel
theorem dX5_packed_98 : decode cX5_packed 98 = .ok (.iinc 7 1, 3) := by decide +kernel
set_option maxHeartbeats 4000000 in
set_option maxRecDepth 100000 in
theorem c_X5_packed (l : Launch) (D : va_G) (T : Nat → ClassId) (sz : Nat) (x0 : UInt64) (x1 : Int32) (x2 : Int32)  : MetD lw_cs l yX5_packed wsX5_packed ({ frames := 0, cells := 0, slots := 0, locals := 0 }) (pW [.double x0, .int x1, .int x2] D T [] sz) (va_Ql (fun (r : Int64) (u : Unit) => True) (bW D (va_A [] sz) (fun (u : Unit) => ([] : va_W))) (va_A [] sz)) 0 0 (va_A [] sz) := by
  refine MetD.ofW (cc := cX5_packed) (maxL := 9) (ret := (some .long)) (by decide +kernel) rfl ?_
  intro p e s m args below meth c s₁ B hml hv hd0
  obtain ⟨rfl, hsz, hP, hE0, hD0⟩ := hv
  have hx := B.exec
  have hb := B.bytes
  have hr := B.returns
  have hts0 := atoms_spec (ws := wsX5_packed) B.pre
  have hown0 : s.vm.findClass RX5 = some m.cls := findClass_of_methodNamed B.named
  have hlocks := B.notSynchronized
  subst hsz
  have hD := hD0.self (sz := s.heap.size)
  generalize hAe : va_A [] s.heap.size = A at hD ⊢
  have hA : ∀ q : Nat, s.heap.size ≤ q → A q := fun q h => by rw [← hAe]; exact Or.inr h
  have hS : va_S A s.heap s.heap [] := va_S.rf
  have hP : va_P D vwCl [] s.heap := hP
  have hl := lv_entry ([.double x0, .int x1, .int x2]) (n := 9) (Nat.le_of_ble_eq_true rfl)
  rw [lg_entry_eq]
  generalize (lg_sl ([.double x0, .int x1, .int x2]) ++ List.replicate (9 - (lg_sl ([.double x0, .int x1, .int x2])).length) Slot.unset).toArray = ls at hl ⊢
  have hl : lv_has ls 9 [(0, .double x0), (2, .int x1), (3, .int x2)] := hl
  clear hD0
  have hts := dr_words hts0 s.drawn
  have hE : ekK D T (s.setDrawn s.drawn) := ekK.same (u := s) rfl hE0
  have hown : (s.setDrawn s.drawn).vm.findClass RX5 = some m.cls := hown0
  refine lv_dload_n hx hb dX5_packed_0 rfl (lv_at hl 0 rfl) ?_
  refine lv_dconst0 hx hb dX5_packed_1 ?_
  refine lv_dcmp hx hb dX5_packed_2 ?_
  refine lv_topi (fun z_1 ez_1 => ?_)
  refine lv_if_ge (tgt := 11) hx hb dX5_packed_3 (by decide +kernel) (fun c_2 => ?_) (fun c_2 => ?_)
  · rw [fa_le] at c_2
    try rw [ti_0] at c_2
    refine lv_dload_n hx hb dX5_packed_11 rfl (lv_at hl 0 rfl) ?_
    refine lv_dstore (lv' := [(4, .double x0), (0, .double x0), (2, .int x1), (3, .int x2)]) hx hb dX5_packed_12 hl (by decide +kernel) rfl (fun ls hl => ?_)
    refine lv_dload hx hb dX5_packed_14 (lv_at hl 0 rfl) ?_
    refine lv_dconst0 hx hb dX5_packed_16 ?_
    refine lv_dcmp hx hb dX5_packed_17 ?_
    refine lv_topi (fun z_3 ez_3 => ?_)
    refine lv_if_ne (tgt := 23) hx hb dX5_packed_18 (by decide +kernel) (fun c_4 => ?_) (fun c_4 => ?_)
    · rw [fa_eq] at c_4
      try rw [ti_0] at c_4
      refine lv_iconst (v := 0) hx hb dX5_packed_23 (by decide +kernel) ?_
      refine lv_istore (lv' := [(6, .int 0), (4, .double x0), (0, .double x0), (2, .int x1), (3, .int x2)]) hx hb dX5_packed_24 hl (by decide +kernel) rfl (fun ls hl => ?_)
      refine lv_iconst (v := 0) hx hb dX5_packed_26 (by decide +kernel) ?_
      refine lv_istore (lv' := [(7, .int 0), (6, .int 0), (4, .double x0), (0, .double x0), (2, .int x1), (3, .int x2)]) hx hb dX5_packed_27 hl (by decide +kernel) rfl (fun ls hl => ?_)
      refine loopRD (cs := lw_cs) (σ := (Int32) × (Int32) × (UInt64)) (fun x9 ls => lv_has ls 9 [(7, .int x9.1), (6, .int x9.2.1), (4, .double x9.2.2), (0, .double x0), (2, .int x1), (3, .int x2)] ∧ (True)) (fun x9 => (2200 - x9.1.toInt).toNat) (fun x9 ls d_5 hd_5 hI ih => ?_) (0, 0, x0) ls _ hd0 ⟨lv_sub hl [0, 1, 2, 3, 4, 5] rfl, trivial⟩
      obtain ⟨ii, ex, mm⟩ := x9
      obtain ⟨hl, hinv⟩ := hI
      have hl : lv_has ls 9 [(7, .int ii), (6, .int ex), (4, .double mm), (0, .double x0), (2, .int x1), (3, .int x2)] := hl
      have hinv : True := hinv
      have hts := dr_words hts0 d_5
      have hE : ekK D T (s.setDrawn d_5) := ekK.same (u := s) rfl hE0
      have hown : (s.setDrawn d_5).vm.findClass RX5 = some m.cls := hown0
      refine lv_iload hx hb dX5_packed_29 (lv_at hl 0 rfl) ?_
      refine lv_sipush (v := 2200) hx hb dX5_packed_31 (by decide +kernel) ?_
      refine lv_icmp_ge (tgt := 63) hx hb dX5_packed_34 (by decide +kernel) (fun c_6 => ?_) (fun c_6 => ?_)
      · rw [fa_le] at c_6
        try rw [ti_2200] at c_6
        refine lv_iconst (v := 0) hx hb dX5_packed_63 (by decide +kernel) ?_
        refine lv_istore (lv' := [(7, .int 0), (6, .int ex), (4, .double mm), (0, .double x0), (2, .int x1), (3, .int x2)]) hx hb dX5_packed_64 hl (by decide +kernel) rfl (fun ls hl => ?_)
        refine loopRD (cs := lw_cs) (σ := (Int32) × (Int32) × (UInt64)) (fun x9 ls => lv_has ls 9 [(7, .int x9.1), (6, .int x9.2.1), (4, .double x9.2.2), (0, .double x0), (2, .int x1), (3, .int x2)] ∧ (True)) (fun x9 => (2200 - x9.1.toInt).toNat) (fun x9 ls d_7 hd_7 hI ih => ?_) (0, ex, mm) ls _ hd_5 ⟨lv_sub hl [0, 1, 2, 3, 4, 5] rfl, trivial⟩
        obtain ⟨ii, ex, mm⟩ := x9
        obtain ⟨hl, hinv⟩ := hI
        have hl : lv_has ls 9 [(7, .int ii), (6, .int ex), (4, .double mm), (0, .double x0), (2, .int x1), (3, .int x2)] := hl
        have hinv : True := hinv
        have hts := dr_words hts0 d_7
        have hE : ekK D T (s.setDrawn d_7) := ekK.same (u := s) rfl hE0
        have hown : (s.setDrawn d_7).vm.findClass RX5 = some m.cls := hown0
        refine lv_iload hx hb dX5_packed_66 (lv_at hl 0 rfl) ?_
        refine lv_sipush (v := 2200) hx hb dX5_packed_68 (by decide +kernel) ?_
        refine lv_icmp_ge (tgt := 104) hx hb dX5_packed_71 (by decide +kernel) (fun c_8 => ?_) (fun c_8 => ?_)
        · rw [fa_le] at c_8
          try rw [ti_2200] at c_8
          refine lv_dload hx hb dX5_packed_104 (lv_at hl 2 rfl) ?_
          refine lv_lconst (v := 1) hx hb dX5_packed_106 (by decide +kernel) ?_
          refine lv_iload_n hx hb dX5_packed_107 rfl (lv_at hl 4 rfl) ?_
          refine lv_lshl (v := (1 <<< ((x1 : Int32).toInt64 &&& 63))) hx hb dX5_packed_108 rfl ?_
          refine lv_l2d hx hb dX5_packed_109 ?_
          refine lv_dmul_any hd_7 lw_bits hx hb dX5_packed_110 (fun r_9 d_10 _ hd_10 => ?_)
          have hts := dr_words hts0 d_10
          have hE : ekK D T (s.setDrawn d_10) := ekK.same (u := s) rfl hE0
          have hown : (s.setDrawn d_10).vm.findClass RX5 = some m.cls := hown0
          refine lv_d2l hx hb dX5_packed_111 ?_
          refine lv_topl (fun z_11 ez_11 => ?_)
          refine lv_lstore (lv' := [(7, .long z_11), (6, .int ex), (4, .double mm), (0, .double x0), (2, .int x1), (3, .int x2)]) hx hb dX5_packed_112 hl (by decide +kernel) rfl (fun ls hl => ?_)
          refine lv_iload hx hb dX5_packed_114 (lv_at hl 1 rfl) ?_
          refine lv_iload_n hx hb dX5_packed_116 rfl (lv_at hl 5 rfl) ?_
          refine lv_isub hx hb dX5_packed_117 ?_
          refine lv_i2l hx hb dX5_packed_118 rfl ?_
          refine lv_iload_n hx hb dX5_packed_119 rfl (lv_at hl 4 rfl) ?_
          refine lv_lshl (v := (((ex - x2).toInt64) <<< ((x1 : Int32).toInt64 &&& 63))) hx hb dX5_packed_120 rfl ?_
          refine lv_lload hx hb dX5_packed_121 (lv_at hl 0 rfl) ?_
          refine lv_ladd hx hb dX5_packed_123 ?_
          refine W.endD hd_10 ?_
          exact W.lret hx hb hr (fun t ht hW => ⟨⟨_, (), rfl, trivial, by rw [ht]; exact hP.sub [] rfl, hD.sub [] (by decide +kernel) rfl⟩, hS.F ht⟩) hS.2.2 dX5_packed_124
        · rw [fa_le] at c_8
          try rw [ti_2200] at c_8
          refine lv_dload hx hb dX5_packed_74 (lv_at hl 2 rfl) ?_
          refine lv_dconst1 hx hb dX5_packed_76 ?_
          refine lv_dcmp hx hb dX5_packed_77 ?_
          refine lv_topi (fun z_12 ez_12 => ?_)
          refine lv_if_ge (tgt := 104) hx hb dX5_packed_78 (by decide +kernel) (fun c_13 => ?_) (fun c_13 => ?_)
          · rw [fa_le] at c_13
            try rw [ti_0] at c_13
            refine lv_dload hx hb dX5_packed_104 (lv_at hl 2 rfl) ?_
            refine lv_lconst (v := 1) hx hb dX5_packed_106 (by decide +kernel) ?_
            refine lv_iload_n hx hb dX5_packed_107 rfl (lv_at hl 4 rfl) ?_
            refine lv_lshl (v := (1 <<< ((x1 : Int32).toInt64 &&& 63))) hx hb dX5_packed_108 rfl ?_
            refine lv_l2d hx hb dX5_packed_109 ?_
            refine lv_dmul_any hd_7 lw_bits hx hb dX5_packed_110 (fun r_14 d_15 _ hd_15 => ?_)
            have hts := dr_words hts0 d_15
            have hE : ekK D T (s.setDrawn d_15) := ekK.same (u := s) rfl hE0
            have hown : (s.setDrawn d_15).vm.findClass RX5 = some m.cls := hown0
            refine lv_d2l hx hb dX5_packed_111 ?_
            refine lv_topl (fun z_16 ez_16 => ?_)
            refine lv_lstore (lv' := [(7, .long z_16), (6, .int ex), (4, .double mm), (0, .double x0), (2, .int x1), (3, .int x2)]) hx hb dX5_packed_112 hl (by decide +kernel) rfl (fun ls hl => ?_)
            refine lv_iload hx hb dX5_packed_114 (lv_at hl 1 rfl) ?_
            refine lv_iload_n hx hb dX5_packed_116 rfl (lv_at hl 5 rfl) ?_
            refine lv_isub hx hb dX5_packed_117 ?_
            refine lv_i2l hx hb dX5_packed_118 rfl ?_
            refine lv_iload_n hx hb dX5_packed_119 rfl (lv_at hl 4 rfl) ?_
            refine lv_lshl (v := (((ex - x2).toInt64) <<< ((x1 : Int32).toInt64 &&& 63))) hx hb dX5_packed_120 rfl ?_
            refine lv_lload hx hb dX5_packed_121 (lv_at hl 0 rfl) ?_
            refine lv_ladd hx hb dX5_packed_123 ?_
            refine W.endD hd_15 ?_
            exact W.lret hx hb hr (fun t ht hW => ⟨⟨_, (), rfl, trivial, by rw [ht]; exact hP.sub [] rfl, hD.sub [] (by decide +kernel) rfl⟩, hS.F ht⟩) hS.2.2 dX5_packed_124
          · rw [fa_le] at c_13
            try rw [ti_0] at c_13
            refine lv_iload hx hb dX5_packed_81 (lv_at hl 1 rfl) ?_
            refine lv_iload_n hx hb dX5_packed_83 rfl (lv_at hl 5 rfl) ?_
            refine lv_icmp_le (tgt := 104) hx hb dX5_packed_84 (by decide +kernel) (fun c_17 => ?_) (fun c_17 => ?_)
            · rw [fa_le] at c_17
              refine lv_dload hx hb dX5_packed_104 (lv_at hl 2 rfl) ?_
              refine lv_lconst (v := 1) hx hb dX5_packed_106 (by decide +kernel) ?_
              refine lv_iload_n hx hb dX5_packed_107 rfl (lv_at hl 4 rfl) ?_
              refine lv_lshl (v := (1 <<< ((x1 : Int32).toInt64 &&& 63))) hx hb dX5_packed_108 rfl ?_
              refine lv_l2d hx hb dX5_packed_109 ?_
              refine lv_dmul_any hd_7 lw_bits hx hb dX5_packed_110 (fun r_18 d_19 _ hd_19 => ?_)
              have hts := dr_words hts0 d_19
              have hE : ekK D T (s.setDrawn d_19) := ekK.same (u := s) rfl hE0
              have hown : (s.setDrawn d_19).vm.findClass RX5 = some m.cls := hown0
              refine lv_d2l hx hb dX5_packed_111 ?_
              refine lv_topl (fun z_20 ez_20 => ?_)
              refine lv_lstore (lv' := [(7, .long z_20), (6, .int ex), (4, .double mm), (0, .double x0), (2, .int x1), (3, .int x2)]) hx hb dX5_packed_112 hl (by decide +kernel) rfl (fun ls hl => ?_)
              refine lv_iload hx hb dX5_packed_114 (lv_at hl 1 rfl) ?_
              refine lv_iload_n hx hb dX5_packed_116 rfl (lv_at hl 5 rfl) ?_
              refine lv_isub hx hb dX5_packed_117 ?_
              refine lv_i2l hx hb dX5_packed_118 rfl ?_
              refine lv_iload_n hx hb dX5_packed_119 rfl (lv_at hl 4 rfl) ?_
              refine lv_lshl (v := (((ex - x2).toInt64) <<< ((x1 : Int32).toInt64 &&& 63))) hx hb dX5_packed_120 rfl ?_
              refine lv_lload hx hb dX5_packed_121 (lv_at hl 0 rfl) ?_
              refine lv_ladd hx hb dX5_packed_123 ?_
              refine W.endD hd_19 ?_
              exact W.lret hx hb hr (fun t ht hW => ⟨⟨_, (), rfl, trivial, by rw [ht]; exact hP.sub [] rfl, hD.sub [] (by decide +kernel) rfl⟩, hS.F ht⟩) hS.2.2 dX5_packed_124
            · rw [fa_le] at c_17
              refine lv_dload hx hb dX5_packed_87 (lv_at hl 2 rfl) ?_
              refine lv_ldc2d (v := 4611686018427387904) hx hb hown (hts (.constantDouble RX5 24 (4611686018427387904)) (List.mem_of_getElem? (i := 1) rfl)) dX5_packed_89 ?_
              refine lv_dmul_any hd_7 lw_bits hx hb dX5_packed_92 (fun r_21 d_22 _ hd_22 => ?_)
              have hts := dr_words hts0 d_22
              have hE : ekK D T (s.setDrawn d_22) := ekK.same (u := s) rfl hE0
              have hown : (s.setDrawn d_22).vm.findClass RX5 = some m.cls := hown0
              refine lv_dstore (lv' := [(4, .double r_21), (7, .int ii), (6, .int ex), (0, .double x0), (2, .int x1), (3, .int x2)]) hx hb dX5_packed_93 hl (by decide +kernel) rfl (fun ls hl => ?_)
              obtain ⟨z_23, ez_23⟩ : ∃ y : Int32, y = ex + (-1) := ⟨_, rfl⟩
              refine lv_iinc (v := z_23) (lv' := [(6, .int z_23), (4, .double r_21), (7, .int ii), (0, .double x0), (2, .int x1), (3, .int x2)]) hx hb dX5_packed_95 hl (k := 2) rfl (by rw [ez_23]; rfl) (by decide +kernel) rfl (fun ls hl => ?_)
              obtain ⟨z_24, ez_24⟩ : ∃ y : Int32, y = ii + 1 := ⟨_, rfl⟩
              refine lv_iinc (v := z_24) (lv' := [(7, .int z_24), (6, .int z_23), (4, .double r_21), (0, .double x0), (2, .int x1), (3, .int x2)]) hx hb dX5_packed_98 hl (k := 2) rfl (by rw [ez_24]; rfl) (by decide +kernel) rfl (fun ls hl => ?_)
              refine lv_goto (tgt := 66) hx hb dX5_packed_101 (by decide +kernel) ?_
              exact ih (z_24, z_23, r_21) ls _ hd_22 ⟨lv_sub hl [0, 1, 2, 3, 4, 5] rfl, trivial⟩ (by subst_vars; (try dsimp only); rw [inc1 (i := ii) (n := 3000) (by omega) (by decide +kernel)]; omega)
      · rw [fa_le] at c_6
        try rw [ti_2200] at c_6
        refine lv_dload hx hb dX5_packed_37 (lv_at hl 2 rfl) ?_
        refine lv_ldc2d (v := 4611686018427387904) hx hb hown (hts (.constantDouble RX5 24 (4611686018427387904)) (List.mem_of_getElem? (i := 1) rfl)) dX5_packed_39 ?_
        refine lv_dcmp hx hb dX5_packed_42 ?_
        refine lv_topi (fun z_25 ez_25 => ?_)
        refine lv_if_lt (tgt := 63) hx hb dX5_packed_43 (by decide +kernel) (fun c_26 => ?_) (fun c_26 => ?_)
        · rw [fa_lt] at c_26
          try rw [ti_0] at c_26
          refine lv_iconst (v := 0) hx hb dX5_packed_63 (by decide +kernel) ?_
          refine lv_istore (lv' := [(7, .int 0), (6, .int ex), (4, .double mm), (0, .double x0), (2, .int x1), (3, .int x2)]) hx hb dX5_packed_64 hl (by decide +kernel) rfl (fun ls hl => ?_)
          refine loopRD (cs := lw_cs) (σ := (Int32) × (Int32) × (UInt64)) (fun x9 ls => lv_has ls 9 [(7, .int x9.1), (6, .int x9.2.1), (4, .double x9.2.2), (0, .double x0), (2, .int x1), (3, .int x2)] ∧ (True)) (fun x9 => (2200 - x9.1.toInt).toNat) (fun x9 ls d_27 hd_27 hI ih => ?_) (0, ex, mm) ls _ hd_5 ⟨lv_sub hl [0, 1, 2, 3, 4, 5] rfl, trivial⟩
          obtain ⟨ii, ex, mm⟩ := x9
          obtain ⟨hl, hinv⟩ := hI
          have hl : lv_has ls 9 [(7, .int ii), (6, .int ex), (4, .double mm), (0, .double x0), (2, .int x1), (3, .int x2)] := hl
          have hinv : True := hinv
          have hts := dr_words hts0 d_27
          have hE : ekK D T (s.setDrawn d_27) := ekK.same (u := s) rfl hE0
          have hown : (s.setDrawn d_27).vm.findClass RX5 = some m.cls := hown0
          refine lv_iload hx hb dX5_packed_66 (lv_at hl 0 rfl) ?_
          refine lv_sipush (v := 2200) hx hb dX5_packed_68 (by decide +kernel) ?_
          refine lv_icmp_ge (tgt := 104) hx hb dX5_packed_71 (by decide +kernel) (fun c_28 => ?_) (fun c_28 => ?_)
          · rw [fa_le] at c_28
            try rw [ti_2200] at c_28
            refine lv_dload hx hb dX5_packed_104 (lv_at hl 2 rfl) ?_
            refine lv_lconst (v := 1) hx hb dX5_packed_106 (by decide +kernel) ?_
            refine lv_iload_n hx hb dX5_packed_107 rfl (lv_at hl 4 rfl) ?_
            refine lv_lshl (v := (1 <<< ((x1 : Int32).toInt64 &&& 63))) hx hb dX5_packed_108 rfl ?_
            refine lv_l2d hx hb dX5_packed_109 ?_
            refine lv_dmul_any hd_27 lw_bits hx hb dX5_packed_110 (fun r_29 d_30 _ hd_30 => ?_)
            have hts := dr_words hts0 d_30
            have hE : ekK D T (s.setDrawn d_30) := ekK.same (u := s) rfl hE0
            have hown : (s.setDrawn d_30).vm.findClass RX5 = some m.cls := hown0
            refine lv_d2l hx hb dX5_packed_111 ?_
            refine lv_topl (fun z_31 ez_31 => ?_)
            refine lv_lstore (lv' := [(7, .long z_31), (6, .int ex), (4, .double mm), (0, .double x0), (2, .int x1), (3, .int x2)]) hx hb dX5_packed_112 hl (by decide +kernel) rfl (fun ls hl => ?_)
            refine lv_iload hx hb dX5_packed_114 (lv_at hl 1 rfl) ?_
            refine lv_iload_n hx hb dX5_packed_116 rfl (lv_at hl 5 rfl) ?_
            refine lv_isub hx hb dX5_packed_117 ?_
            refine lv_i2l hx hb dX5_packed_118 rfl ?_
            refine lv_iload_n hx hb dX5_packed_119 rfl (lv_at hl 4 rfl) ?_
            refine lv_lshl (v := (((ex - x2).toInt64) <<< ((x1 : Int32).toInt64 &&& 63))) hx hb dX5_packed_120 rfl ?_
            refine lv_lload hx hb dX5_packed_121 (lv_at hl 0 rfl) ?_
            refine lv_ladd hx hb dX5_packed_123 ?_
            refine W.endD hd_30 ?_
            exact W.lret hx hb hr (fun t ht hW => ⟨⟨_, (), rfl, trivial, by rw [ht]; exact hP.sub [] rfl, hD.sub [] (by decide +kernel) rfl⟩, hS.F ht⟩) hS.2.2 dX5_packed_124
          · rw [fa_le] at c_28
            try rw [ti_2200] at c_28
            refine lv_dload hx hb dX5_packed_74 (lv_at hl 2 rfl) ?_
            refine lv_dconst1 hx hb dX5_packed_76 ?_
            refine lv_dcmp hx hb dX5_packed_77 ?_
            refine lv_topi (fun z_32 ez_32 => ?_)
            refine lv_if_ge (tgt := 104) hx hb dX5_packed_78 (by decide +kernel) (fun c_33 => ?_) (fun c_33 => ?_)
            · rw [fa_le] at c_33
              try rw [ti_0] at c_33
              refine lv_dload hx hb dX5_packed_104 (lv_at hl 2 rfl) ?_
              refine lv_lconst (v := 1) hx hb dX5_packed_106 (by decide +kernel) ?_
              refine lv_iload_n hx hb dX5_packed_107 rfl (lv_at hl 4 rfl) ?_
              refine lv_lshl (v := (1 <<< ((x1 : Int32).toInt64 &&& 63))) hx hb dX5_packed_108 rfl ?_
              refine lv_l2d hx hb dX5_packed_109 ?_
              refine lv_dmul_any hd_27 lw_bits hx hb dX5_packed_110 (fun r_34 d_35 _ hd_35 => ?_)
              have hts := dr_words hts0 d_35
              have hE : ekK D T (s.setDrawn d_35) := ekK.same (u := s) rfl hE0
              have hown : (s.setDrawn d_35).vm.findClass RX5 = some m.cls := hown0
              refine lv_d2l hx hb dX5_packed_111 ?_
              refine lv_topl (fun z_36 ez_36 => ?_)
              refine lv_lstore (lv' := [(7, .long z_36), (6, .int ex), (4, .double mm), (0, .double x0), (2, .int x1), (3, .int x2)]) hx hb dX5_packed_112 hl (by decide +kernel) rfl (fun ls hl => ?_)
              refine lv_iload hx hb dX5_packed_114 (lv_at hl 1 rfl) ?_
              refine lv_iload_n hx hb dX5_packed_116 rfl (lv_at hl 5 rfl) ?_
              refine lv_isub hx hb dX5_packed_117 ?_
              refine lv_i2l hx hb dX5_packed_118 rfl ?_
              refine lv_iload_n hx hb dX5_packed_119 rfl (lv_at hl 4 rfl) ?_
              refine lv_lshl (v := (((ex - x2).toInt64) <<< ((x1 : Int32).toInt64 &&& 63))) hx hb dX5_packed_120 rfl ?_
              refine lv_lload hx hb dX5_packed_121 (lv_at hl 0 rfl) ?_
              refine lv_ladd hx hb dX5_packed_123 ?_
              refine W.endD hd_35 ?_
              exact W.lret hx hb hr (fun t ht hW => ⟨⟨_, (), rfl, trivial, by rw [ht]; exact hP.sub [] rfl, hD.sub [] (by decide +kernel) rfl⟩, hS.F ht⟩) hS.2.2 dX5_packed_124
            · rw [fa_le] at c_33
              try rw [ti_0] at c_33
              refine lv_iload hx hb dX5_packed_81 (lv_at hl 1 rfl) ?_
              refine lv_iload_n hx hb dX5_packed_83 rfl (lv_at hl 5 rfl) ?_
              refine lv_icmp_le (tgt := 104) hx hb dX5_packed_84 (by decide +kernel) (fun c_37 => ?_) (fun c_37 => ?_)
              · rw [fa_le] at c_37
                refine lv_dload hx hb dX5_packed_104 (lv_at hl 2 rfl) ?_
                refine lv_lconst (v := 1) hx hb dX5_packed_106 (by decide +kernel) ?_
                refine lv_iload_n hx hb dX5_packed_107 rfl (lv_at hl 4 rfl) ?_
                refine lv_lshl (v := (1 <<< ((x1 : Int32).toInt64 &&& 63))) hx hb dX5_packed_108 rfl ?_
                refine lv_l2d hx hb dX5_packed_109 ?_
                refine lv_dmul_any hd_27 lw_bits hx hb dX5_packed_110 (fun r_38 d_39 _ hd_39 => ?_)
                have hts := dr_words hts0 d_39
                have hE : ekK D T (s.setDrawn d_39) := ekK.same (u := s) rfl hE0
                have hown : (s.setDrawn d_39).vm.findClass RX5 = some m.cls := hown0
                refine lv_d2l hx hb dX5_packed_111 ?_
                refine lv_topl (fun z_40 ez_40 => ?_)
                refine lv_lstore (lv' := [(7, .long z_40), (6, .int ex), (4, .double mm), (0, .double x0), (2, .int x1), (3, .int x2)]) hx hb dX5_packed_112 hl (by decide +kernel) rfl (fun ls hl => ?_)
                refine lv_iload hx hb dX5_packed_114 (lv_at hl 1 rfl) ?_
                refine lv_iload_n hx hb dX5_packed_116 rfl (lv_at hl 5 rfl) ?_
                refine lv_isub hx hb dX5_packed_117 ?_
                refine lv_i2l hx hb dX5_packed_118 rfl ?_
                refine lv_iload_n hx hb dX5_packed_119 rfl (lv_at hl 4 rfl) ?_
                refine lv_lshl (v := (((ex - x2).toInt64) <<< ((x1 : Int32).toInt64 &&& 63))) hx hb dX5_packed_120 rfl ?_
                refine lv_lload hx hb dX5_packed_121 (lv_at hl 0 rfl) ?_
                refine lv_ladd hx hb dX5_packed_123 ?_
                refine W.endD hd_39 ?_
                exact W.lret hx hb hr (fun t ht hW => ⟨⟨_, (), rfl, trivial, by rw [ht]; exact hP.sub [] rfl, hD.sub [] (by decide +kernel) rfl⟩, hS.F ht⟩) hS.2.2 dX5_packed_124
              · rw [fa_le] at c_37
                refine lv_dload hx hb dX5_packed_87 (lv_at hl 2 rfl) ?_
                refine lv_ldc2d (v := 4611686018427387904) hx hb hown (hts (.constantDouble RX5 24 (4611686018427387904)) (List.mem_of_getElem? (i := 1) rfl)) dX5_packed_89 ?_
                refine lv_dmul_any hd_27 lw_bits hx hb dX5_packed_92 (fun r_41 d_42 _ hd_42 => ?_)
                have hts := dr_words hts0 d_42
                have hE : ekK D T (s.setDrawn d_42) := ekK.same (u := s) rfl hE0
                have hown : (s.setDrawn d_42).vm.findClass RX5 = some m.cls := hown0
                refine lv_dstore (lv' := [(4, .double r_41), (7, .int ii), (6, .int ex), (0, .double x0), (2, .int x1), (3, .int x2)]) hx hb dX5_packed_93 hl (by decide +kernel) rfl (fun ls hl => ?_)
                obtain ⟨z_43, ez_43⟩ : ∃ y : Int32, y = ex + (-1) := ⟨_, rfl⟩
                refine lv_iinc (v := z_43) (lv' := [(6, .int z_43), (4, .double r_41), (7, .int ii), (0, .double x0), (2, .int x1), (3, .int x2)]) hx hb dX5_packed_95 hl (k := 2) rfl (by rw [ez_43]; rfl) (by decide +kernel) rfl (fun ls hl => ?_)
                obtain ⟨z_44, ez_44⟩ : ∃ y : Int32, y = ii + 1 := ⟨_, rfl⟩
                refine lv_iinc (v := z_44) (lv' := [(7, .int z_44), (6, .int z_43), (4, .double r_41), (0, .double x0), (2, .int x1), (3, .int x2)]) hx hb dX5_packed_98 hl (k := 2) rfl (by rw [ez_44]; rfl) (by decide +kernel) rfl (fun ls hl => ?_)
                refine lv_goto (tgt := 66) hx hb dX5_packed_101 (by decide +kernel) ?_
                exact ih (z_44, z_43, r_41) ls _ hd_42 ⟨lv_sub hl [0, 1, 2, 3, 4, 5] rfl, trivial⟩ (by subst_vars; (try dsimp only); rw [inc1 (i := ii) (n := 3000) (by omega) (by decide +kernel)]; omega)
        · rw [fa_lt] at c_26
          try rw [ti_0] at c_26
          refine lv_dload hx hb dX5_packed_46 (lv_at hl 2 rfl) ?_
          refine lv_ldc2d (v := 4611686018427387904) hx hb hown (hts (.constantDouble RX5 24 (4611686018427387904)) (List.mem_of_getElem? (i := 1) rfl)) dX5_packed_48 ?_
          refine lv_ddiv_any hd_5 lw_bits hx hb dX5_packed_51 (fun r_45 d_46 _ hd_46 => ?_)
          have hts := dr_words hts0 d_46
          have hE : ekK D T (s.setDrawn d_46) := ekK.same (u := s) rfl hE0
          have hown : (s.setDrawn d_46).vm.findClass RX5 = some m.cls := hown0
          refine lv_dstore (lv' := [(4, .double r_45), (7, .int ii), (6, .int ex), (0, .double x0), (2, .int x1), (3, .int x2)]) hx hb dX5_packed_52 hl (by decide +kernel) rfl (fun ls hl => ?_)
          obtain ⟨z_47, ez_47⟩ : ∃ y : Int32, y = ex + 1 := ⟨_, rfl⟩
          refine lv_iinc (v := z_47) (lv' := [(6, .int z_47), (4, .double r_45), (7, .int ii), (0, .double x0), (2, .int x1), (3, .int x2)]) hx hb dX5_packed_54 hl (k := 2) rfl (by rw [ez_47]; rfl) (by decide +kernel) rfl (fun ls hl => ?_)
          obtain ⟨z_48, ez_48⟩ : ∃ y : Int32, y = ii + 1 := ⟨_, rfl⟩
          refine lv_iinc (v := z_48) (lv' := [(7, .int z_48), (6, .int z_47), (4, .double r_45), (0, .double x0), (2, .int x1), (3, .int x2)]) hx hb dX5_packed_57 hl (k := 2) rfl (by rw [ez_48]; rfl) (by decide +kernel) rfl (fun ls hl => ?_)
          refine lv_goto (tgt := 29) hx hb dX5_packed_60 (by decide +kernel) ?_
          exact ih (z_48, z_47, r_45) ls _ hd_46 ⟨lv_sub hl [0, 1, 2, 3, 4, 5] rfl, trivial⟩ (by subst_vars; (try dsimp only); rw [inc1 (i := ii) (n := 3000) (by omega) (by decide +kernel)]; omega)
    · rw [fa_eq] at c_4
      try rw [ti_0] at c_4
      refine lv_lconst (v := 0) hx hb dX5_packed_21 (by decide +kernel) ?_
      refine W.endD hd0 ?_
      exact W.lret hx hb hr (fun t ht hW => ⟨⟨_, (), rfl, trivial, by rw [ht]; exact hP.sub [] rfl, hD.sub [] (by decide +kernel) rfl⟩, hS.F ht⟩) hS.2.2 dX5_packed_22
  · rw [fa_le] at c_2
    try rw [ti_0] at c_2
    refine lv_dload_n hx hb dX5_packed_6 rfl (lv_at hl 0 rfl) ?_
    refine lv_dneg hx hb dX5_packed_7 ?_
    obtain ⟨z_49, ez_49⟩ : ∃ y : UInt64, y = (FP.dneg x0) := ⟨_, rfl⟩
    refine W.eq (g2 := F0 m 8 ls [.double z_49]) (by rw [ez_49]) ?_
    clear ez_49
    refine lv_goto (tgt := 12) hx hb dX5_packed_8 (by decide +kernel) ?_
    refine lv_dstore (lv' := [(4, .double z_49), (0, .double x0), (2, .int x1), (3, .int x2)]) hx hb dX5_packed_12 hl (by decide +kernel) rfl (fun ls hl => ?_)
    refine lv_dload hx hb dX5_packed_14 (lv_at hl 0 rfl) ?_
    refine lv_dconst0 hx hb dX5_packed_16 ?_
    refine lv_dcmp hx hb dX5_packed_17 ?_
    refine lv_topi (fun z_50 ez_50 => ?_)
    refine lv_if_ne (tgt := 23) hx hb dX5_packed_18 (by decide +kernel) (fun c_51 => ?_) (fun c_51 => ?_)
    · rw [fa_eq] at c_51
      try rw [ti_0] at c_51
      refine lv_iconst (v := 0) hx hb dX5_packed_23 (by decide +kernel) ?_
      refine lv_istore (lv' := [(6, .int 0), (4, .double z_49), (0, .double x0), (2, .int x1), (3, .int x2)]) hx hb dX5_packed_24 hl (by decide +kernel) rfl (fun ls hl => ?_)
      refine lv_iconst (v := 0) hx hb dX5_packed_26 (by decide +kernel) ?_
      refine lv_istore (lv' := [(7, .int 0), (6, .int 0), (4, .double z_49), (0, .double x0), (2, .int x1), (3, .int x2)]) hx hb dX5_packed_27 hl (by decide +kernel) rfl (fun ls hl => ?_)
      refine loopRD (cs := lw_cs) (σ := (Int32) × (Int32) × (UInt64)) (fun x9 ls => lv_has ls 9 [(7, .int x9.1), (6, .int x9.2.1), (4, .double x9.2.2), (0, .double x0), (2, .int x1), (3, .int x2)] ∧ (True)) (fun x9 => (2200 - x9.1.toInt).toNat) (fun x9 ls d_52 hd_52 hI ih => ?_) (0, 0, z_49) ls _ hd0 ⟨lv_sub hl [0, 1, 2, 3, 4, 5] rfl, trivial⟩
      obtain ⟨ii, ex, mm⟩ := x9
      obtain ⟨hl, hinv⟩ := hI
      have hl : lv_has ls 9 [(7, .int ii), (6, .int ex), (4, .double mm), (0, .double x0), (2, .int x1), (3, .int x2)] := hl
      have hinv : True := hinv
      have hts := dr_words hts0 d_52
      have hE : ekK D T (s.setDrawn d_52) := ekK.same (u := s) rfl hE0
      have hown : (s.setDrawn d_52).vm.findClass RX5 = some m.cls := hown0
      refine lv_iload hx hb dX5_packed_29 (lv_at hl 0 rfl) ?_
      refine lv_sipush (v := 2200) hx hb dX5_packed_31 (by decide +kernel) ?_
      refine lv_icmp_ge (tgt := 63) hx hb dX5_packed_34 (by decide +kernel) (fun c_53 => ?_) (fun c_53 => ?_)
      · rw [fa_le] at c_53
        try rw [ti_2200] at c_53
        refine lv_iconst (v := 0) hx hb dX5_packed_63 (by decide +kernel) ?_
        refine lv_istore (lv' := [(7, .int 0), (6, .int ex), (4, .double mm), (0, .double x0), (2, .int x1), (3, .int x2)]) hx hb dX5_packed_64 hl (by decide +kernel) rfl (fun ls hl => ?_)
        refine loopRD (cs := lw_cs) (σ := (Int32) × (Int32) × (UInt64)) (fun x9 ls => lv_has ls 9 [(7, .int x9.1), (6, .int x9.2.1), (4, .double x9.2.2), (0, .double x0), (2, .int x1), (3, .int x2)] ∧ (True)) (fun x9 => (2200 - x9.1.toInt).toNat) (fun x9 ls d_54 hd_54 hI ih => ?_) (0, ex, mm) ls _ hd_52 ⟨lv_sub hl [0, 1, 2, 3, 4, 5] rfl, trivial⟩
        obtain ⟨ii, ex, mm⟩ := x9
        obtain ⟨hl, hinv⟩ := hI
        have hl : lv_has ls 9 [(7, .int ii), (6, .int ex), (4, .double mm), (0, .double x0), (2, .int x1), (3, .int x2)] := hl
        have hinv : True := hinv
        have hts := dr_words hts0 d_54
        have hE : ekK D T (s.setDrawn d_54) := ekK.same (u := s) rfl hE0
        have hown : (s.setDrawn d_54).vm.findClass RX5 = some m.cls := hown0
        refine lv_iload hx hb dX5_packed_66 (lv_at hl 0 rfl) ?_
        refine lv_sipush (v := 2200) hx hb dX5_packed_68 (by decide +kernel) ?_
        refine lv_icmp_ge (tgt := 104) hx hb dX5_packed_71 (by decide +kernel) (fun c_55 => ?_) (fun c_55 => ?_)
        · rw [fa_le] at c_55
          try rw [ti_2200] at c_55
          refine lv_dload hx hb dX5_packed_104 (lv_at hl 2 rfl) ?_
          refine lv_lconst (v := 1) hx hb dX5_packed_106 (by decide +kernel) ?_
          refine lv_iload_n hx hb dX5_packed_107 rfl (lv_at hl 4 rfl) ?_
          refine lv_lshl (v := (1 <<< ((x1 : Int32).toInt64 &&& 63))) hx hb dX5_packed_108 rfl ?_
          refine lv_l2d hx hb dX5_packed_109 ?_
          refine lv_dmul_any hd_54 lw_bits hx hb dX5_packed_110 (fun r_56 d_57 _ hd_57 => ?_)
          have hts := dr_words hts0 d_57
          have hE : ekK D T (s.setDrawn d_57) := ekK.same (u := s) rfl hE0
          have hown : (s.setDrawn d_57).vm.findClass RX5 = some m.cls := hown0
          refine lv_d2l hx hb dX5_packed_111 ?_
          refine lv_topl (fun z_58 ez_58 => ?_)
          refine lv_lstore (lv' := [(7, .long z_58), (6, .int ex), (4, .double mm), (0, .double x0), (2, .int x1), (3, .int x2)]) hx hb dX5_packed_112 hl (by decide +kernel) rfl (fun ls hl => ?_)
          refine lv_iload hx hb dX5_packed_114 (lv_at hl 1 rfl) ?_
          refine lv_iload_n hx hb dX5_packed_116 rfl (lv_at hl 5 rfl) ?_
          refine lv_isub hx hb dX5_packed_117 ?_
          refine lv_i2l hx hb dX5_packed_118 rfl ?_
          refine lv_iload_n hx hb dX5_packed_119 rfl (lv_at hl 4 rfl) ?_
          refine lv_lshl (v := (((ex - x2).toInt64) <<< ((x1 : Int32).toInt64 &&& 63))) hx hb dX5_packed_120 rfl ?_
          refine lv_lload hx hb dX5_packed_121 (lv_at hl 0 rfl) ?_
          refine lv_ladd hx hb dX5_packed_123 ?_
          refine W.endD hd_57 ?_
          exact W.lret hx hb hr (fun t ht hW => ⟨⟨_, (), rfl, trivial, by rw [ht]; exact hP.sub [] rfl, hD.sub [] (by decide +kernel) rfl⟩, hS.F ht⟩) hS.2.2 dX5_packed_124
        · rw [fa_le] at c_55
          try rw [ti_2200] at c_55
          refine lv_dload hx hb dX5_packed_74 (lv_at hl 2 rfl) ?_
          refine lv_dconst1 hx hb dX5_packed_76 ?_
          refine lv_dcmp hx hb dX5_packed_77 ?_
          refine lv_topi (fun z_59 ez_59 => ?_)
          refine lv_if_ge (tgt := 104) hx hb dX5_packed_78 (by decide +kernel) (fun c_60 => ?_) (fun c_60 => ?_)
          · rw [fa_le] at c_60
            try rw [ti_0] at c_60
            refine lv_dload hx hb dX5_packed_104 (lv_at hl 2 rfl) ?_
            refine lv_lconst (v := 1) hx hb dX5_packed_106 (by decide +kernel) ?_
            refine lv_iload_n hx hb dX5_packed_107 rfl (lv_at hl 4 rfl) ?_
            refine lv_lshl (v := (1 <<< ((x1 : Int32).toInt64 &&& 63))) hx hb dX5_packed_108 rfl ?_
            refine lv_l2d hx hb dX5_packed_109 ?_
            refine lv_dmul_any hd_54 lw_bits hx hb dX5_packed_110 (fun r_61 d_62 _ hd_62 => ?_)
            have hts := dr_words hts0 d_62
            have hE : ekK D T (s.setDrawn d_62) := ekK.same (u := s) rfl hE0
            have hown : (s.setDrawn d_62).vm.findClass RX5 = some m.cls := hown0
            refine lv_d2l hx hb dX5_packed_111 ?_
            refine lv_topl (fun z_63 ez_63 => ?_)
            refine lv_lstore (lv' := [(7, .long z_63), (6, .int ex), (4, .double mm), (0, .double x0), (2, .int x1), (3, .int x2)]) hx hb dX5_packed_112 hl (by decide +kernel) rfl (fun ls hl => ?_)
            refine lv_iload hx hb dX5_packed_114 (lv_at hl 1 rfl) ?_
            refine lv_iload_n hx hb dX5_packed_116 rfl (lv_at hl 5 rfl) ?_
            refine lv_isub hx hb dX5_packed_117 ?_
            refine lv_i2l hx hb dX5_packed_118 rfl ?_
            refine lv_iload_n hx hb dX5_packed_119 rfl (lv_at hl 4 rfl) ?_
            refine lv_lshl (v := (((ex - x2).toInt64) <<< ((x1 : Int32).toInt64 &&& 63))) hx hb dX5_packed_120 rfl ?_
            refine lv_lload hx hb dX5_packed_121 (lv_at hl 0 rfl) ?_
            refine lv_ladd hx hb dX5_packed_123 ?_
            refine W.endD hd_62 ?_
            exact W.lret hx hb hr (fun t ht hW => ⟨⟨_, (), rfl, trivial, by rw [ht]; exact hP.sub [] rfl, hD.sub [] (by decide +kernel) rfl⟩, hS.F ht⟩) hS.2.2 dX5_packed_124
          · rw [fa_le] at c_60
            try rw [ti_0] at c_60
            refine lv_iload hx hb dX5_packed_81 (lv_at hl 1 rfl) ?_
            refine lv_iload_n hx hb dX5_packed_83 rfl (lv_at hl 5 rfl) ?_
            refine lv_icmp_le (tgt := 104) hx hb dX5_packed_84 (by decide +kernel) (fun c_64 => ?_) (fun c_64 => ?_)
            · rw [fa_le] at c_64
              refine lv_dload hx hb dX5_packed_104 (lv_at hl 2 rfl) ?_
              refine lv_lconst (v := 1) hx hb dX5_packed_106 (by decide +kernel) ?_
              refine lv_iload_n hx hb dX5_packed_107 rfl (lv_at hl 4 rfl) ?_
              refine lv_lshl (v := (1 <<< ((x1 : Int32).toInt64 &&& 63))) hx hb dX5_packed_108 rfl ?_
              refine lv_l2d hx hb dX5_packed_109 ?_
              refine lv_dmul_any hd_54 lw_bits hx hb dX5_packed_110 (fun r_65 d_66 _ hd_66 => ?_)
              have hts := dr_words hts0 d_66
              have hE : ekK D T (s.setDrawn d_66) := ekK.same (u := s) rfl hE0
              have hown : (s.setDrawn d_66).vm.findClass RX5 = some m.cls := hown0
              refine lv_d2l hx hb dX5_packed_111 ?_
              refine lv_topl (fun z_67 ez_67 => ?_)
              refine lv_lstore (lv' := [(7, .long z_67), (6, .int ex), (4, .double mm), (0, .double x0), (2, .int x1), (3, .int x2)]) hx hb dX5_packed_112 hl (by decide +kernel) rfl (fun ls hl => ?_)
              refine lv_iload hx hb dX5_packed_114 (lv_at hl 1 rfl) ?_
              refine lv_iload_n hx hb dX5_packed_116 rfl (lv_at hl 5 rfl) ?_
              refine lv_isub hx hb dX5_packed_117 ?_
              refine lv_i2l hx hb dX5_packed_118 rfl ?_
              refine lv_iload_n hx hb dX5_packed_119 rfl (lv_at hl 4 rfl) ?_
              refine lv_lshl (v := (((ex - x2).toInt64) <<< ((x1 : Int32).toInt64 &&& 63))) hx hb dX5_packed_120 rfl ?_
              refine lv_lload hx hb dX5_packed_121 (lv_at hl 0 rfl) ?_
              refine lv_ladd hx hb dX5_packed_123 ?_
              refine W.endD hd_66 ?_
              exact W.lret hx hb hr (fun t ht hW => ⟨⟨_, (), rfl, trivial, by rw [ht]; exact hP.sub [] rfl, hD.sub [] (by decide +kernel) rfl⟩, hS.F ht⟩) hS.2.2 dX5_packed_124
            · rw [fa_le] at c_64
              refine lv_dload hx hb dX5_packed_87 (lv_at hl 2 rfl) ?_
              refine lv_ldc2d (v := 4611686018427387904) hx hb hown (hts (.constantDouble RX5 24 (4611686018427387904)) (List.mem_of_getElem? (i := 1) rfl)) dX5_packed_89 ?_
              refine lv_dmul_any hd_54 lw_bits hx hb dX5_packed_92 (fun r_68 d_69 _ hd_69 => ?_)
              have hts := dr_words hts0 d_69
              have hE : ekK D T (s.setDrawn d_69) := ekK.same (u := s) rfl hE0
              have hown : (s.setDrawn d_69).vm.findClass RX5 = some m.cls := hown0
              refine lv_dstore (lv' := [(4, .double r_68), (7, .int ii), (6, .int ex), (0, .double x0), (2, .int x1), (3, .int x2)]) hx hb dX5_packed_93 hl (by decide +kernel) rfl (fun ls hl => ?_)
              obtain ⟨z_70, ez_70⟩ : ∃ y : Int32, y = ex + (-1) := ⟨_, rfl⟩
              refine lv_iinc (v := z_70) (lv' := [(6, .int z_70), (4, .double r_68), (7, .int ii), (0, .double x0), (2, .int x1), (3, .int x2)]) hx hb dX5_packed_95 hl (k := 2) rfl (by rw [ez_70]; rfl) (by decide +kernel) rfl (fun ls hl => ?_)
              obtain ⟨z_71, ez_71⟩ : ∃ y : Int32, y = ii + 1 := ⟨_, rfl⟩
              refine lv_iinc (v := z_71) (lv' := [(7, .int z_71), (6, .int z_70), (4, .double r_68), (0, .double x0), (2, .int x1), (3, .int x2)]) hx hb dX5_packed_98 hl (k := 2) rfl (by rw [ez_71]; rfl) (by decide +kernel) rfl (fun ls hl => ?_)
              refine lv_goto (tgt := 66) hx hb dX5_packed_101 (by decide +kernel) ?_
              exact ih (z_71, z_70, r_68) ls _ hd_69 ⟨lv_sub hl [0, 1, 2, 3, 4, 5] rfl, trivial⟩ (by subst_vars; (try dsimp only); rw [inc1 (i := ii) (n := 3000) (by omega) (by decide +kernel)]; omega)
      · rw [fa_le] at c_53
        try rw [ti_2200] at c_53
        refine lv_dload hx hb dX5_packed_37 (lv_at hl 2 rfl) ?_
        refine lv_ldc2d (v := 4611686018427387904) hx hb hown (hts (.constantDouble RX5 24 (4611686018427387904)) (List.mem_of_getElem? (i := 1) rfl)) dX5_packed_39 ?_
        refine lv_dcmp hx hb dX5_packed_42 ?_
        refine lv_topi (fun z_72 ez_72 => ?_)
        refine lv_if_lt (tgt := 63) hx hb dX5_packed_43 (by decide +kernel) (fun c_73 => ?_) (fun c_73 => ?_)
        · rw [fa_lt] at c_73
          try rw [ti_0] at c_73
          refine lv_iconst (v := 0) hx hb dX5_packed_63 (by decide +kernel) ?_
          refine lv_istore (lv' := [(7, .int 0), (6, .int ex), (4, .double mm), (0, .double x0), (2, .int x1), (3, .int x2)]) hx hb dX5_packed_64 hl (by decide +kernel) rfl (fun ls hl => ?_)
          refine loopRD (cs := lw_cs) (σ := (Int32) × (Int32) × (UInt64)) (fun x9 ls => lv_has ls 9 [(7, .int x9.1), (6, .int x9.2.1), (4, .double x9.2.2), (0, .double x0), (2, .int x1), (3, .int x2)] ∧ (True)) (fun x9 => (2200 - x9.1.toInt).toNat) (fun x9 ls d_74 hd_74 hI ih => ?_) (0, ex, mm) ls _ hd_52 ⟨lv_sub hl [0, 1, 2, 3, 4, 5] rfl, trivial⟩
          obtain ⟨ii, ex, mm⟩ := x9
          obtain ⟨hl, hinv⟩ := hI
          have hl : lv_has ls 9 [(7, .int ii), (6, .int ex), (4, .double mm), (0, .double x0), (2, .int x1), (3, .int x2)] := hl
          have hinv : True := hinv
          have hts := dr_words hts0 d_74
          have hE : ekK D T (s.setDrawn d_74) := ekK.same (u := s) rfl hE0
          have hown : (s.setDrawn d_74).vm.findClass RX5 = some m.cls := hown0
          refine lv_iload hx hb dX5_packed_66 (lv_at hl 0 rfl) ?_
          refine lv_sipush (v := 2200) hx hb dX5_packed_68 (by decide +kernel) ?_
          refine lv_icmp_ge (tgt := 104) hx hb dX5_packed_71 (by decide +kernel) (fun c_75 => ?_) (fun c_75 => ?_)
          · rw [fa_le] at c_75
            try rw [ti_2200] at c_75
            refine lv_dload hx hb dX5_packed_104 (lv_at hl 2 rfl) ?_
            refine lv_lconst (v := 1) hx hb dX5_packed_106 (by decide +kernel) ?_
            refine lv_iload_n hx hb dX5_packed_107 rfl (lv_at hl 4 rfl) ?_
            refine lv_lshl (v := (1 <<< ((x1 : Int32).toInt64 &&& 63))) hx hb dX5_packed_108 rfl ?_
            refine lv_l2d hx hb dX5_packed_109 ?_
            refine lv_dmul_any hd_74 lw_bits hx hb dX5_packed_110 (fun r_76 d_77 _ hd_77 => ?_)
            have hts := dr_words hts0 d_77
            have hE : ekK D T (s.setDrawn d_77) := ekK.same (u := s) rfl hE0
            have hown : (s.setDrawn d_77).vm.findClass RX5 = some m.cls := hown0
            refine lv_d2l hx hb dX5_packed_111 ?_
            refine lv_topl (fun z_78 ez_78 => ?_)
            refine lv_lstore (lv' := [(7, .long z_78), (6, .int ex), (4, .double mm), (0, .double x0), (2, .int x1), (3, .int x2)]) hx hb dX5_packed_112 hl (by decide +kernel) rfl (fun ls hl => ?_)
            refine lv_iload hx hb dX5_packed_114 (lv_at hl 1 rfl) ?_
            refine lv_iload_n hx hb dX5_packed_116 rfl (lv_at hl 5 rfl) ?_
            refine lv_isub hx hb dX5_packed_117 ?_
            refine lv_i2l hx hb dX5_packed_118 rfl ?_
            refine lv_iload_n hx hb dX5_packed_119 rfl (lv_at hl 4 rfl) ?_
            refine lv_lshl (v := (((ex - x2).toInt64) <<< ((x1 : Int32).toInt64 &&& 63))) hx hb dX5_packed_120 rfl ?_
            refine lv_lload hx hb dX5_packed_121 (lv_at hl 0 rfl) ?_
            refine lv_ladd hx hb dX5_packed_123 ?_
            refine W.endD hd_77 ?_
            exact W.lret hx hb hr (fun t ht hW => ⟨⟨_, (), rfl, trivial, by rw [ht]; exact hP.sub [] rfl, hD.sub [] (by decide +kernel) rfl⟩, hS.F ht⟩) hS.2.2 dX5_packed_124
          · rw [fa_le] at c_75
            try rw [ti_2200] at c_75
            refine lv_dload hx hb dX5_packed_74 (lv_at hl 2 rfl) ?_
            refine lv_dconst1 hx hb dX5_packed_76 ?_
            refine lv_dcmp hx hb dX5_packed_77 ?_
            refine lv_topi (fun z_79 ez_79 => ?_)
            refine lv_if_ge (tgt := 104) hx hb dX5_packed_78 (by decide +kernel) (fun c_80 => ?_) (fun c_80 => ?_)
            · rw [fa_le] at c_80
              try rw [ti_0] at c_80
              refine lv_dload hx hb dX5_packed_104 (lv_at hl 2 rfl) ?_
              refine lv_lconst (v := 1) hx hb dX5_packed_106 (by decide +kernel) ?_
              refine lv_iload_n hx hb dX5_packed_107 rfl (lv_at hl 4 rfl) ?_
              refine lv_lshl (v := (1 <<< ((x1 : Int32).toInt64 &&& 63))) hx hb dX5_packed_108 rfl ?_
              refine lv_l2d hx hb dX5_packed_109 ?_
              refine lv_dmul_any hd_74 lw_bits hx hb dX5_packed_110 (fun r_81 d_82 _ hd_82 => ?_)
              have hts := dr_words hts0 d_82
              have hE : ekK D T (s.setDrawn d_82) := ekK.same (u := s) rfl hE0
              have hown : (s.setDrawn d_82).vm.findClass RX5 = some m.cls := hown0
              refine lv_d2l hx hb dX5_packed_111 ?_
              refine lv_topl (fun z_83 ez_83 => ?_)
              refine lv_lstore (lv' := [(7, .long z_83), (6, .int ex), (4, .double mm), (0, .double x0), (2, .int x1), (3, .int x2)]) hx hb dX5_packed_112 hl (by decide +kernel) rfl (fun ls hl => ?_)
              refine lv_iload hx hb dX5_packed_114 (lv_at hl 1 rfl) ?_
              refine lv_iload_n hx hb dX5_packed_116 rfl (lv_at hl 5 rfl) ?_
              refine lv_isub hx hb dX5_packed_117 ?_
              refine lv_i2l hx hb dX5_packed_118 rfl ?_
              refine lv_iload_n hx hb dX5_packed_119 rfl (lv_at hl 4 rfl) ?_
              refine lv_lshl (v := (((ex - x2).toInt64) <<< ((x1 : Int32).toInt64 &&& 63))) hx hb dX5_packed_120 rfl ?_
              refine lv_lload hx hb dX5_packed_121 (lv_at hl 0 rfl) ?_
              refine lv_ladd hx hb dX5_packed_123 ?_
              refine W.endD hd_82 ?_
              exact W.lret hx hb hr (fun t ht hW => ⟨⟨_, (), rfl, trivial, by rw [ht]; exact hP.sub [] rfl, hD.sub [] (by decide +kernel) rfl⟩, hS.F ht⟩) hS.2.2 dX5_packed_124
            · rw [fa_le] at c_80
              try rw [ti_0] at c_80
              refine lv_iload hx hb dX5_packed_81 (lv_at hl 1 rfl) ?_
              refine lv_iload_n hx hb dX5_packed_83 rfl (lv_at hl 5 rfl) ?_
              refine lv_icmp_le (tgt := 104) hx hb dX5_packed_84 (by decide +kernel) (fun c_84 => ?_) (fun c_84 => ?_)
              · rw [fa_le] at c_84
                refine lv_dload hx hb dX5_packed_104 (lv_at hl 2 rfl) ?_
                refine lv_lconst (v := 1) hx hb dX5_packed_106 (by decide +kernel) ?_
                refine lv_iload_n hx hb dX5_packed_107 rfl (lv_at hl 4 rfl) ?_
                refine lv_lshl (v := (1 <<< ((x1 : Int32).toInt64 &&& 63))) hx hb dX5_packed_108 rfl ?_
                refine lv_l2d hx hb dX5_packed_109 ?_
                refine lv_dmul_any hd_74 lw_bits hx hb dX5_packed_110 (fun r_85 d_86 _ hd_86 => ?_)
                have hts := dr_words hts0 d_86
                have hE : ekK D T (s.setDrawn d_86) := ekK.same (u := s) rfl hE0
                have hown : (s.setDrawn d_86).vm.findClass RX5 = some m.cls := hown0
                refine lv_d2l hx hb dX5_packed_111 ?_
                refine lv_topl (fun z_87 ez_87 => ?_)
                refine lv_lstore (lv' := [(7, .long z_87), (6, .int ex), (4, .double mm), (0, .double x0), (2, .int x1), (3, .int x2)]) hx hb dX5_packed_112 hl (by decide +kernel) rfl (fun ls hl => ?_)
                refine lv_iload hx hb dX5_packed_114 (lv_at hl 1 rfl) ?_
                refine lv_iload_n hx hb dX5_packed_116 rfl (lv_at hl 5 rfl) ?_
                refine lv_isub hx hb dX5_packed_117 ?_
                refine lv_i2l hx hb dX5_packed_118 rfl ?_
                refine lv_iload_n hx hb dX5_packed_119 rfl (lv_at hl 4 rfl) ?_
                refine lv_lshl (v := (((ex - x2).toInt64) <<< ((x1 : Int32).toInt64 &&& 63))) hx hb dX5_packed_120 rfl ?_
                refine lv_lload hx hb dX5_packed_121 (lv_at hl 0 rfl) ?_
                refine lv_ladd hx hb dX5_packed_123 ?_
                refine W.endD hd_86 ?_
                exact W.lret hx hb hr (fun t ht hW => ⟨⟨_, (), rfl, trivial, by rw [ht]; exact hP.sub [] rfl, hD.sub [] (by decide +kernel) rfl⟩, hS.F ht⟩) hS.2.2 dX5_packed_124
              · rw [fa_le] at c_84
                refine lv_dload hx hb dX5_packed_87 (lv_at hl 2 rfl) ?_
                refine lv_ldc2d (v := 4611686018427387904) hx hb hown (hts (.constantDouble RX5 24 (4611686018427387904)) (List.mem_of_getElem? (i := 1) rfl)) dX5_packed_89 ?_
                refine lv_dmul_any hd_74 lw_bits hx hb dX5_packed_92 (fun r_88 d_89 _ hd_89 => ?_)
                have hts := dr_words hts0 d_89
                have hE : ekK D T (s.setDrawn d_89) := ekK.same (u := s) rfl hE0
                have hown : (s.setDrawn d_89).vm.findClass RX5 = some m.cls := hown0
                refine lv_dstore (lv' := [(4, .double r_88), (7, .int ii), (6, .int ex), (0, .double x0), (2, .int x1), (3, .int x2)]) hx hb dX5_packed_93 hl (by decide +kernel) rfl (fun ls hl => ?_)
                obtain ⟨z_90, ez_90⟩ : ∃ y : Int32, y = ex + (-1) := ⟨_, rfl⟩
                refine lv_iinc (v := z_90) (lv' := [(6, .int z_90), (4, .double r_88), (7, .int ii), (0, .double x0), (2, .int x1), (3, .int x2)]) hx hb dX5_packed_95 hl (k := 2) rfl (by rw [ez_90]; rfl) (by decide +kernel) rfl (fun ls hl => ?_)
                obtain ⟨z_91, ez_91⟩ : ∃ y : Int32, y = ii + 1 := ⟨_, rfl⟩
                refine lv_iinc (v := z_91) (lv' := [(7, .int z_91), (6, .int z_90), (4, .double r_88), (0, .double x0), (2, .int x1), (3, .int x2)]) hx hb dX5_packed_98 hl (k := 2) rfl (by rw [ez_91]; rfl) (by decide +kernel) rfl (fun ls hl => ?_)
                refine lv_goto (tgt := 66) hx hb dX5_packed_101 (by decide +kernel) ?_
                exact ih (z_91, z_90, r_88) ls _ hd_89 ⟨lv_sub hl [0, 1, 2, 3, 4, 5] rfl, trivial⟩ (by subst_vars; (try dsimp only); rw [inc1 (i := ii) (n := 3000) (by omega) (by decide +kernel)]; omega)
        · rw [fa_lt] at c_73
          try rw [ti_0] at c_73
          refine lv_dload hx hb dX5_packed_46 (lv_at hl 2 rfl) ?_
          refine lv_ldc2d (v := 4611686018427387904) hx hb hown (hts (.constantDouble RX5 24 (4611686018427387904)) (List.mem_of_getElem? (i := 1) rfl)) dX5_packed_48 ?_
          refine lv_ddiv_any hd_52 lw_bits hx hb dX5_packed_51 (fun r_92 d_93 _ hd_93 => ?_)
          have hts := dr_words hts0 d_93
          have hE : ekK D T (s.setDrawn d_93) := ekK.same (u := s) rfl hE0
          have hown : (s.setDrawn d_93).vm.findClass RX5 = some m.cls := hown0
          refine lv_dstore (lv' := [(4, .double r_92), (7, .int ii), (6, .int ex), (0, .double x0), (2, .int x1), (3, .int x2)]) hx hb dX5_packed_52 hl (by decide +kernel) rfl (fun ls hl => ?_)
          obtain ⟨z_94, ez_94⟩ : ∃ y : Int32, y = ex + 1 := ⟨_, rfl⟩
          refine lv_iinc (v := z_94) (lv' := [(6, .int z_94), (4, .double r_92), (7, .int ii), (0, .double x0), (2, .int x1), (3, .int x2)]) hx hb dX5_packed_54 hl (k := 2) rfl (by rw [ez_94]; rfl) (by decide +kernel) rfl (fun ls hl => ?_)
          obtain ⟨z_95, ez_95⟩ : ∃ y : Int32, y = ii + 1 := ⟨_, rfl⟩
          refine lv_iinc (v := z_95) (lv' := [(7, .int z_95), (6, .int z_94), (4, .double r_92), (0, .double x0), (2, .int x1), (3, .int x2)]) hx hb dX5_packed_57 hl (k := 2) rfl (by rw [ez_95]; rfl) (by decide +kernel) rfl (fun ls hl => ?_)
          refine lv_goto (tgt := 29) hx hb dX5_packed_60 (by decide +kernel) ?_
          exact ih (z_95, z_94, r_92) ls _ hd_93 ⟨lv_sub hl [0, 1, 2, 3, 4, 5] rfl, trivial⟩ (by subst_vars; (try dsimp only); rw [inc1 (i := ii) (n := 3000) (by omega) (by decide +kernel)]; omega)
    · rw [fa_eq] at c_51
      try rw [ti_0] at c_51
      refine lv_lconst (v := 0) hx hb dX5_packed_21 (by decide +kernel) ?_
      refine W.endD hd0 ?_
      exact W.lret hx hb hr (fun t ht hW => ⟨⟨_, (), rfl, trivial, by rw [ht]; exact hP.sub [] rfl, hD.sub [] (by decide +kernel) rfl⟩, hS.F ht⟩) hS.2.2 dX5_packed_22
theorem dX5_remainder_0 : decode cX5_remainder 0 = .ok (.dload_n 0, 1) := by decide +kernel
theorem dX5_remainder_1 : decode cX5_remainder 1 = .ok (.dconst 0, 1) := by decide +kernel
theorem dX5_remainder_100 : decode cX5_remainder 100 = .ok (.dconst 0, 1) := by decide +kernel
theorem dX5_remainder_101 : decode cX5_remainder 101 = .ok (.dcmp .g, 1) := by decide +kernel
theorem dX5_remainder_102 : decode cX5_remainder 102 = .ok (.ifCond .ge 9, 3) := by decide +kernel
theorem dX5_remainder_105 : decode cX5_remainder 105 = .ok (.dload 4, 2) := by decide +kernel
theorem dX5_remainder_107 : decode cX5_remainder 107 = .ok (.dneg, 1) := by decide +kernel
theorem dX5_remainder_108 : decode cX5_remainder 108 = .ok (.goto 5, 3) := by decide +kernel
theorem dX5_remainder_11 : decode cX5_remainder 11 = .ok (.dload_n 0, 1) := by decide +kernel
theorem dX5_remainder_111 : decode cX5_remainder 111 = .ok (.dload 4, 2) := by decide +kernel
theorem dX5_remainder_113 : decode cX5_remainder 113 = .ok (.dreturn, 1) := by decide +kernel
theorem dX5_remainder_12 : decode cX5_remainder 12 = .ok (.dstore 4, 2) := by decide +kernel
theorem dX5_remainder_14 : decode cX5_remainder 14 = .ok (.dload_n 2, 1) := by decide +kernel
theorem dX5_remainder_15 : decode cX5_remainder 15 = .ok (.dstore 6, 2) := by decide +kernel
theorem dX5_remainder_17 : decode cX5_remainder 17 = .ok (.iconst 0, 1) := by decide +kernel
theorem dX5_remainder_18 : decode cX5_remainder 18 = .ok (.istore 8, 2) := by decide +kernel
theorem dX5_remainder_2 : decode cX5_remainder 2 = .ok (.dcmp .g, 1) := by decide +kernel
theorem dX5_remainder_20 : decode cX5_remainder 20 = .ok (.iconst 0, 1) := by decide +kernel
theorem dX5_remainder_21 : decode cX5_remainder 21 = .ok (.istore 9, 2) := by decide +kernel
theorem dX5_remainder_23 : decode cX5_remainder 23 = .ok (.iload 9, 2) := by decide +kernel
theorem dX5_remainder_25 : decode cX5_remainder 25 = .ok (.sipush 2200, 3) := by decide +kernel
theorem dX5_remainder_28 : decode cX5_remainder 28 = .ok (.if_icmp .ge 32, 3) := by decide +kernel
theorem dX5_remainder_3 : decode cX5_remainder 3 = .ok (.ifCond .ge 8, 3) := by decide +kernel
theorem dX5_remainder_31 : decode cX5_remainder 31 = .ok (.dload 6, 2) := by decide +kernel
theorem dX5_remainder_33 : decode cX5_remainder 33 = .ok (.dload 4, 2) := by decide +kernel
theorem dX5_remainder_35 : decode cX5_remainder 35 = .ok (.ldc2_w 24, 3) := by decide +kernel
theorem dX5_remainder_38 : decode cX5_remainder 38 = .ok (.ddiv, 1) := by decide +kernel
theorem dX5_remainder_39 : decode cX5_remainder 39 = .ok (.dcmp .g, 1) := by decide +kernel
theorem dX5_remainder_40 : decode cX5_remainder 40 = .ok (.ifCond .gt 20, 3) := by decide +kernel
theorem dX5_remainder_43 : decode cX5_remainder 43 = .ok (.dload 6, 2) := by decide +kernel
theorem dX5_remainder_45 : decode cX5_remainder 45 = .ok (.ldc2_w 24, 3) := by decide +kernel
theorem dX5_remainder_48 : decode cX5_remainder 48 = .ok (.dmul, 1) := by decide +kernel
theorem dX5_remainder_49 : decode cX5_remainder 49 = .ok (.dstore 6, 2) := by decide +kernel
theorem dX5_remainder_51 : decode cX5_remainder 51 = .ok (.iinc 8 1, 3) := by decide +kernel
theorem dX5_remainder_54 : decode cX5_remainder 54 = .ok (.iinc 9 1, 3) := by decide +kernel
theorem dX5_remainder_57 : decode cX5_remainder 57 = .ok (.goto (-34), 3) := by decide +kernel
theorem dX5_remainder_6 : decode cX5_remainder 6 = .ok (.dload_n 0, 1) := by decide +kernel
theorem dX5_remainder_60 : decode cX5_remainder 60 = .ok (.iconst 0, 1) := by decide +kernel
theorem dX5_remainder_61 : decode cX5_remainder 61 = .ok (.istore 9, 2) := by decide +kernel
theorem dX5_remainder_63 : decode cX5_remainder 63 = .ok (.iload 9, 2) := by decide +kernel
theorem dX5_remainder_65 : decode cX5_remainder 65 = .ok (.iload 8, 2) := by decide +kernel
theorem dX5_remainder_67 : decode cX5_remainder 67 = .ok (.if_icmp .gt 32, 3) := by decide +kernel
theorem dX5_remainder_7 : decode cX5_remainder 7 = .ok (.dneg, 1) := by decide +kernel
theorem dX5_remainder_70 : decode cX5_remainder 70 = .ok (.dload 4, 2) := by decide +kernel
theorem dX5_remainder_72 : decode cX5_remainder 72 = .ok (.dload 6, 2) := by decide +kernel
theorem dX5_remainder_74 : decode cX5_remainder 74 = .ok (.dcmp .l, 1) := by decide +kernel
theorem dX5_remainder_75 : decode cX5_remainder 75 = .ok (.ifCond .lt 10, 3) := by decide +kernel
theorem dX5_remainder_78 : decode cX5_remainder 78 = .ok (.dload 4, 2) := by decide +kernel
theorem dX5_remainder_8 : decode cX5_remainder 8 = .ok (.goto 4, 3) := by decide +kernel
theorem dX5_remainder_80 : decode cX5_remainder 80 = .ok (.dload 6, 2) := by decide +kernel
theorem dX5_remainder_82 : decode cX5_remainder 82 = .ok (.dsub, 1) := by decide +kernel
theorem dX5_remainder_83 : decode cX5_remainder 83 = .ok (.dstore 4, 2) := by decide +kernel
theorem dX5_remainder_85 : decode cX5_remainder 85 = .ok (.dload 6, 2) := by decide +kernel
theorem dX5_remainder_87 : decode cX5_remainder 87 = .ok (.ldc2_w 24, 3) := by decide +kernel
theorem dX5_remainder_90 : decode cX5_remainder 90 = .ok (.ddiv, 1) := by decide +kernel
theorem dX5_remainder_91 : decode cX5_remainder 91 = .ok (.dstore 6, 2) := by decide +kernel
theorem dX5_remainder_93 : decode cX5_remainder 93 = .ok (.iinc 9 1, 3) := by decide +kernel
theorem dX5_remainder_96 : decode cX5_remainder 96 = .ok (.goto (-33), 3) := by decide +kernel
theorem dX5_remainder_99 : decode cX5_remainder 99 = .ok (.dload_n 0, 1) := by decide +kernel
set_option maxHeartbeats 4000000 in
set_option maxRecDepth 100000 in
theorem c_X5_remainder (l : Launch) (D : va_G) (T : Nat → ClassId) (sz : Nat) (x0 : UInt64) (x1 : UInt64)  : MetD lw_cs l yX5_remainder wsX5_remainder ({ frames := 0, cells := 0, slots := 0, locals := 0 }) (pW [.double x0, .double x1] D T [] sz) (va_Qd (fun (r : UInt64) (u : Unit) => True) (bW D (va_A [] sz) (fun (u : Unit) => ([] : va_W))) (va_A [] sz)) 0 0 (va_A [] sz) := by
  refine MetD.ofW (cc := cX5_remainder) (maxL := 10) (ret := (some .double)) (by decide +kernel) rfl ?_
  intro p e s m args below meth c s₁ B hml hv hd0
  obtain ⟨rfl, hsz, hP, hE0, hD0⟩ := hv
  have hx := B.exec
  have hb := B.bytes
  have hr := B.returns
  have hts0 := atoms_spec (ws := wsX5_remainder) B.pre
  have hown0 : s.vm.findClass RX5 = some m.cls := findClass_of_methodNamed B.named
  have hlocks := B.notSynchronized
  subst hsz
  have hD := hD0.self (sz := s.heap.size)
  generalize hAe : va_A [] s.heap.size = A at hD ⊢
  have hA : ∀ q : Nat, s.heap.size ≤ q → A q := fun q h => by rw [← hAe]; exact Or.inr h
  have hS : va_S A s.heap s.heap [] := va_S.rf
  have hP : va_P D vwCl [] s.heap := hP
  have hl := lv_entry ([.double x0, .double x1]) (n := 10) (Nat.le_of_ble_eq_true rfl)
  rw [lg_entry_eq]
  generalize (lg_sl ([.double x0, .double x1]) ++ List.replicate (10 - (lg_sl ([.double x0, .double x1])).length) Slot.unset).toArray = ls at hl ⊢
  have hl : lv_has ls 10 [(0, .double x0), (2, .double x1)] := hl
  clear hD0
  have hts := dr_words hts0 s.drawn
  have hE : ekK D T (s.setDrawn s.drawn) := ekK.same (u := s) rfl hE0
  have hown : (s.setDrawn s.drawn).vm.findClass RX5 = some m.cls := hown0
  refine lv_dload_n hx hb dX5_remainder_0 rfl (lv_at hl 0 rfl) ?_
  refine lv_dconst0 hx hb dX5_remainder_1 ?_
  refine lv_dcmp hx hb dX5_remainder_2 ?_
  refine lv_topi (fun z_1 ez_1 => ?_)
  refine lv_if_ge (tgt := 11) hx hb dX5_remainder_3 (by decide +kernel) (fun c_2 => ?_) (fun c_2 => ?_)
  · rw [fa_le] at c_2
    try rw [ti_0] at c_2
    refine lv_dload_n hx hb dX5_remainder_11 rfl (lv_at hl 0 rfl) ?_
    refine lv_dstore (lv' := [(4, .double x0), (0, .double x0), (2, .double x1)]) hx hb dX5_remainder_12 hl (by decide +kernel) rfl (fun ls hl => ?_)
    refine lv_dload_n hx hb dX5_remainder_14 rfl (lv_at hl 2 rfl) ?_
    refine lv_dstore (lv' := [(6, .double x1), (4, .double x0), (0, .double x0), (2, .double x1)]) hx hb dX5_remainder_15 hl (by decide +kernel) rfl (fun ls hl => ?_)
    refine lv_iconst (v := 0) hx hb dX5_remainder_17 (by decide +kernel) ?_
    refine lv_istore (lv' := [(8, .int 0), (6, .double x1), (4, .double x0), (0, .double x0), (2, .double x1)]) hx hb dX5_remainder_18 hl (by decide +kernel) rfl (fun ls hl => ?_)
    refine lv_iconst (v := 0) hx hb dX5_remainder_20 (by decide +kernel) ?_
    refine lv_istore (lv' := [(9, .int 0), (8, .int 0), (6, .double x1), (4, .double x0), (0, .double x0), (2, .double x1)]) hx hb dX5_remainder_21 hl (by decide +kernel) rfl (fun ls hl => ?_)
    refine loopRD (cs := lw_cs) (σ := (Int32) × (Int32) × (UInt64) × (UInt64)) (fun x9 ls => lv_has ls 10 [(9, .int x9.1), (8, .int x9.2.1), (6, .double x9.2.2.1), (4, .double x9.2.2.2), (0, .double x0), (2, .double x1)] ∧ (0 ≤ x9.1.toInt ∧ x9.1.toInt ≤ 2200 ∧ x9.2.1.toInt = x9.1.toInt)) (fun x9 => (2200 - x9.1.toInt).toNat) (fun x9 ls d_3 hd_3 hI ih => ?_) (0, 0, x1, x0) ls _ hd0 ⟨lv_sub hl [0, 1, 2, 3, 4, 5] rfl, (by (try dsimp only); decide)⟩
    obtain ⟨ii, dc, sp, lf⟩ := x9
    obtain ⟨hl, hinv⟩ := hI
    have hl : lv_has ls 10 [(9, .int ii), (8, .int dc), (6, .double sp), (4, .double lf), (0, .double x0), (2, .double x1)] := hl
    have hinv : 0 ≤ ii.toInt ∧ ii.toInt ≤ 2200 ∧ dc.toInt = ii.toInt := hinv
    have hts := dr_words hts0 d_3
    have hE : ekK D T (s.setDrawn d_3) := ekK.same (u := s) rfl hE0
    have hown : (s.setDrawn d_3).vm.findClass RX5 = some m.cls := hown0
    refine lv_iload hx hb dX5_remainder_23 (lv_at hl 0 rfl) ?_
    refine lv_sipush (v := 2200) hx hb dX5_remainder_25 (by decide +kernel) ?_
    refine lv_icmp_ge (tgt := 60) hx hb dX5_remainder_28 (by decide +kernel) (fun c_4 => ?_) (fun c_4 => ?_)
    · rw [fa_le] at c_4
      try rw [ti_2200] at c_4
      refine lv_iconst (v := 0) hx hb dX5_remainder_60 (by decide +kernel) ?_
      refine lv_istore (lv' := [(9, .int 0), (8, .int dc), (6, .double sp), (4, .double lf), (0, .double x0), (2, .double x1)]) hx hb dX5_remainder_61 hl (by decide +kernel) rfl (fun ls hl => ?_)
      refine loopRD (cs := lw_cs) (σ := (Int32) × (UInt64) × (UInt64)) (fun x9 ls => lv_has ls 10 [(9, .int x9.1), (8, .int dc), (6, .double x9.2.1), (4, .double x9.2.2), (0, .double x0), (2, .double x1)] ∧ (True)) (fun x9 => (2300 - x9.1.toInt).toNat) (fun x9 ls d_5 hd_5 hI ih => ?_) (0, sp, lf) ls _ hd_3 ⟨lv_sub hl [0, 1, 2, 3, 4, 5] rfl, trivial⟩
      obtain ⟨kk, sq, lq⟩ := x9
      obtain ⟨hl, hinv⟩ := hI
      have hl : lv_has ls 10 [(9, .int kk), (8, .int dc), (6, .double sq), (4, .double lq), (0, .double x0), (2, .double x1)] := hl
      have hinv : True := hinv
      have hts := dr_words hts0 d_5
      have hE : ekK D T (s.setDrawn d_5) := ekK.same (u := s) rfl hE0
      have hown : (s.setDrawn d_5).vm.findClass RX5 = some m.cls := hown0
      refine lv_iload hx hb dX5_remainder_63 (lv_at hl 0 rfl) ?_
      refine lv_iload hx hb dX5_remainder_65 (lv_at hl 1 rfl) ?_
      refine lv_icmp_gt (tgt := 99) hx hb dX5_remainder_67 (by decide +kernel) (fun c_6 => ?_) (fun c_6 => ?_)
      · rw [fa_lt] at c_6
        refine lv_dload_n hx hb dX5_remainder_99 rfl (lv_at hl 4 rfl) ?_
        refine lv_dconst0 hx hb dX5_remainder_100 ?_
        refine lv_dcmp hx hb dX5_remainder_101 ?_
        refine lv_topi (fun z_7 ez_7 => ?_)
        refine lv_if_ge (tgt := 111) hx hb dX5_remainder_102 (by decide +kernel) (fun c_8 => ?_) (fun c_8 => ?_)
        · rw [fa_le] at c_8
          try rw [ti_0] at c_8
          refine lv_dload hx hb dX5_remainder_111 (lv_at hl 3 rfl) ?_
          refine W.endD hd_5 ?_
          exact W.dret hx hb hr (fun t ht hW => ⟨⟨_, (), rfl, trivial, by rw [ht]; exact hP.sub [] rfl, hD.sub [] (by decide +kernel) rfl⟩, hS.F ht⟩) hS.2.2 dX5_remainder_113
        · rw [fa_le] at c_8
          try rw [ti_0] at c_8
          refine lv_dload hx hb dX5_remainder_105 (lv_at hl 3 rfl) ?_
          refine lv_dneg hx hb dX5_remainder_107 ?_
          obtain ⟨z_9, ez_9⟩ : ∃ y : UInt64, y = (FP.dneg lq) := ⟨_, rfl⟩
          refine W.eq (g2 := F0 m 108 ls [.double z_9]) (by rw [ez_9]) ?_
          clear ez_9
          refine lv_goto (tgt := 113) hx hb dX5_remainder_108 (by decide +kernel) ?_
          refine W.endD hd_5 ?_
          exact W.dret hx hb hr (fun t ht hW => ⟨⟨_, (), rfl, trivial, by rw [ht]; exact hP.sub [] rfl, hD.sub [] (by decide +kernel) rfl⟩, hS.F ht⟩) hS.2.2 dX5_remainder_113
      · rw [fa_lt] at c_6
        refine lv_dload hx hb dX5_remainder_70 (lv_at hl 3 rfl) ?_
        refine lv_dload hx hb dX5_remainder_72 (lv_at hl 2 rfl) ?_
        refine lv_dcmp hx hb dX5_remainder_74 ?_
        refine lv_topi (fun z_10 ez_10 => ?_)
        refine lv_if_lt (tgt := 85) hx hb dX5_remainder_75 (by decide +kernel) (fun c_11 => ?_) (fun c_11 => ?_)
        · rw [fa_lt] at c_11
          try rw [ti_0] at c_11
          refine lv_dload hx hb dX5_remainder_85 (lv_at hl 2 rfl) ?_
          refine lv_ldc2d (v := 4611686018427387904) hx hb hown (hts (.constantDouble RX5 24 (4611686018427387904)) (List.mem_of_getElem? (i := 1) rfl)) dX5_remainder_87 ?_
          refine lv_ddiv_any hd_5 lw_bits hx hb dX5_remainder_90 (fun r_12 d_13 _ hd_13 => ?_)
          have hts := dr_words hts0 d_13
          have hE : ekK D T (s.setDrawn d_13) := ekK.same (u := s) rfl hE0
          have hown : (s.setDrawn d_13).vm.findClass RX5 = some m.cls := hown0
          refine lv_dstore (lv' := [(6, .double r_12), (9, .int kk), (8, .int dc), (4, .double lq), (0, .double x0), (2, .double x1)]) hx hb dX5_remainder_91 hl (by decide +kernel) rfl (fun ls hl => ?_)
          obtain ⟨z_14, ez_14⟩ : ∃ y : Int32, y = kk + 1 := ⟨_, rfl⟩
          refine lv_iinc (v := z_14) (lv' := [(9, .int z_14), (6, .double r_12), (8, .int dc), (4, .double lq), (0, .double x0), (2, .double x1)]) hx hb dX5_remainder_93 hl (k := 1) rfl (by rw [ez_14]; rfl) (by decide +kernel) rfl (fun ls hl => ?_)
          refine lv_goto (tgt := 63) hx hb dX5_remainder_96 (by decide +kernel) ?_
          exact ih (z_14, r_12, lq) ls _ hd_13 ⟨lv_sub hl [0, 2, 1, 3, 4, 5] rfl, trivial⟩ (by subst_vars; (try dsimp only); rw [inc1 (i := kk) (n := 3000) (by omega) (by decide +kernel)]; omega)
        · rw [fa_lt] at c_11
          try rw [ti_0] at c_11
          refine lv_dload hx hb dX5_remainder_78 (lv_at hl 3 rfl) ?_
          refine lv_dload hx hb dX5_remainder_80 (lv_at hl 2 rfl) ?_
          refine lv_dsub_any hd_5 lw_bits hx hb dX5_remainder_82 (fun r_15 d_16 _ hd_16 => ?_)
          have hts := dr_words hts0 d_16
          have hE : ekK D T (s.setDrawn d_16) := ekK.same (u := s) rfl hE0
          have hown : (s.setDrawn d_16).vm.findClass RX5 = some m.cls := hown0
          refine lv_dstore (lv' := [(4, .double r_15), (9, .int kk), (8, .int dc), (6, .double sq), (0, .double x0), (2, .double x1)]) hx hb dX5_remainder_83 hl (by decide +kernel) rfl (fun ls hl => ?_)
          refine lv_dload hx hb dX5_remainder_85 (lv_at hl 3 rfl) ?_
          refine lv_ldc2d (v := 4611686018427387904) hx hb hown (hts (.constantDouble RX5 24 (4611686018427387904)) (List.mem_of_getElem? (i := 1) rfl)) dX5_remainder_87 ?_
          refine lv_ddiv_any hd_16 lw_bits hx hb dX5_remainder_90 (fun r_17 d_18 _ hd_18 => ?_)
          have hts := dr_words hts0 d_18
          have hE : ekK D T (s.setDrawn d_18) := ekK.same (u := s) rfl hE0
          have hown : (s.setDrawn d_18).vm.findClass RX5 = some m.cls := hown0
          refine lv_dstore (lv' := [(6, .double r_17), (4, .double r_15), (9, .int kk), (8, .int dc), (0, .double x0), (2, .double x1)]) hx hb dX5_remainder_91 hl (by decide +kernel) rfl (fun ls hl => ?_)
          obtain ⟨z_19, ez_19⟩ : ∃ y : Int32, y = kk + 1 := ⟨_, rfl⟩
          refine lv_iinc (v := z_19) (lv' := [(9, .int z_19), (6, .double r_17), (4, .double r_15), (8, .int dc), (0, .double x0), (2, .double x1)]) hx hb dX5_remainder_93 hl (k := 2) rfl (by rw [ez_19]; rfl) (by decide +kernel) rfl (fun ls hl => ?_)
          refine lv_goto (tgt := 63) hx hb dX5_remainder_96 (by decide +kernel) ?_
          exact ih (z_19, r_17, r_15) ls _ hd_18 ⟨lv_sub hl [0, 3, 1, 2, 4, 5] rfl, trivial⟩ (by subst_vars; (try dsimp only); rw [inc1 (i := kk) (n := 3000) (by omega) (by decide +kernel)]; omega)
    · rw [fa_le] at c_4
      try rw [ti_2200] at c_4
      refine lv_dload hx hb dX5_remainder_31 (lv_at hl 2 rfl) ?_
      refine lv_dload hx hb dX5_remainder_33 (lv_at hl 3 rfl) ?_
      refine lv_ldc2d (v := 4611686018427387904) hx hb hown (hts (.constantDouble RX5 24 (4611686018427387904)) (List.mem_of_getElem? (i := 1) rfl)) dX5_remainder_35 ?_
      refine lv_ddiv_any hd_3 lw_bits hx hb dX5_remainder_38 (fun r_20 d_21 _ hd_21 => ?_)
      have hts := dr_words hts0 d_21
      have hE : ekK D T (s.setDrawn d_21) := ekK.same (u := s) rfl hE0
      have hown : (s.setDrawn d_21).vm.findClass RX5 = some m.cls := hown0
      refine lv_dcmp hx hb dX5_remainder_39 ?_
      refine lv_topi (fun z_22 ez_22 => ?_)
      refine lv_if_gt (tgt := 60) hx hb dX5_remainder_40 (by decide +kernel) (fun c_23 => ?_) (fun c_23 => ?_)
      · rw [fa_lt] at c_23
        try rw [ti_0] at c_23
        refine lv_iconst (v := 0) hx hb dX5_remainder_60 (by decide +kernel) ?_
        refine lv_istore (lv' := [(9, .int 0), (8, .int dc), (6, .double sp), (4, .double lf), (0, .double x0), (2, .double x1)]) hx hb dX5_remainder_61 hl (by decide +kernel) rfl (fun ls hl => ?_)
        refine loopRD (cs := lw_cs) (σ := (Int32) × (UInt64) × (UInt64)) (fun x9 ls => lv_has ls 10 [(9, .int x9.1), (8, .int dc), (6, .double x9.2.1), (4, .double x9.2.2), (0, .double x0), (2, .double x1)] ∧ (True)) (fun x9 => (2300 - x9.1.toInt).toNat) (fun x9 ls d_24 hd_24 hI ih => ?_) (0, sp, lf) ls _ hd_21 ⟨lv_sub hl [0, 1, 2, 3, 4, 5] rfl, trivial⟩
        obtain ⟨kk, sq, lq⟩ := x9
        obtain ⟨hl, hinv⟩ := hI
        have hl : lv_has ls 10 [(9, .int kk), (8, .int dc), (6, .double sq), (4, .double lq), (0, .double x0), (2, .double x1)] := hl
        have hinv : True := hinv
        have hts := dr_words hts0 d_24
        have hE : ekK D T (s.setDrawn d_24) := ekK.same (u := s) rfl hE0
        have hown : (s.setDrawn d_24).vm.findClass RX5 = some m.cls := hown0
        refine lv_iload hx hb dX5_remainder_63 (lv_at hl 0 rfl) ?_
        refine lv_iload hx hb dX5_remainder_65 (lv_at hl 1 rfl) ?_
        refine lv_icmp_gt (tgt := 99) hx hb dX5_remainder_67 (by decide +kernel) (fun c_25 => ?_) (fun c_25 => ?_)
        · rw [fa_lt] at c_25
          refine lv_dload_n hx hb dX5_remainder_99 rfl (lv_at hl 4 rfl) ?_
          refine lv_dconst0 hx hb dX5_remainder_100 ?_
          refine lv_dcmp hx hb dX5_remainder_101 ?_
          refine lv_topi (fun z_26 ez_26 => ?_)
          refine lv_if_ge (tgt := 111) hx hb dX5_remainder_102 (by decide +kernel) (fun c_27 => ?_) (fun c_27 => ?_)
          · rw [fa_le] at c_27
            try rw [ti_0] at c_27
            refine lv_dload hx hb dX5_remainder_111 (lv_at hl 3 rfl) ?_
            refine W.endD hd_24 ?_
            exact W.dret hx hb hr (fun t ht hW => ⟨⟨_, (), rfl, trivial, by rw [ht]; exact hP.sub [] rfl, hD.sub [] (by decide +kernel) rfl⟩, hS.F ht⟩) hS.2.2 dX5_remainder_113
          · rw [fa_le] at c_27
            try rw [ti_0] at c_27
            refine lv_dload hx hb dX5_remainder_105 (lv_at hl 3 rfl) ?_
            refine lv_dneg hx hb dX5_remainder_107 ?_
            obtain ⟨z_28, ez_28⟩ : ∃ y : UInt64, y = (FP.dneg lq) := ⟨_, rfl⟩
            refine W.eq (g2 := F0 m 108 ls [.double z_28]) (by rw [ez_28]) ?_
            clear ez_28
            refine lv_goto (tgt := 113) hx hb dX5_remainder_108 (by decide +kernel) ?_
            refine W.endD hd_24 ?_
            exact W.dret hx hb hr (fun t ht hW => ⟨⟨_, (), rfl, trivial, by rw [ht]; exact hP.sub [] rfl, hD.sub [] (by decide +kernel) rfl⟩, hS.F ht⟩) hS.2.2 dX5_remainder_113
        · rw [fa_lt] at c_25
          refine lv_dload hx hb dX5_remainder_70 (lv_at hl 3 rfl) ?_
          refine lv_dload hx hb dX5_remainder_72 (lv_at hl 2 rfl) ?_
          refine lv_dcmp hx hb dX5_remainder_74 ?_
          refine lv_topi (fun z_29 ez_29 => ?_)
          refine lv_if_lt (tgt := 85) hx hb dX5_remainder_75 (by decide +kernel) (fun c_30 => ?_) (fun c_30 => ?_)
          · rw [fa_lt] at c_30
            try rw [ti_0] at c_30
            refine lv_dload hx hb dX5_remainder_85 (lv_at hl 2 rfl) ?_
            refine lv_ldc2d (v := 4611686018427387904) hx hb hown (hts (.constantDouble RX5 24 (4611686018427387904)) (List.mem_of_getElem? (i := 1) rfl)) dX5_remainder_87 ?_
            refine lv_ddiv_any hd_24 lw_bits hx hb dX5_remainder_90 (fun r_31 d_32 _ hd_32 => ?_)
            have hts := dr_words hts0 d_32
            have hE : ekK D T (s.setDrawn d_32) := ekK.same (u := s) rfl hE0
            have hown : (s.setDrawn d_32).vm.findClass RX5 = some m.cls := hown0
            refine lv_dstore (lv' := [(6, .double r_31), (9, .int kk), (8, .int dc), (4, .double lq), (0, .double x0), (2, .double x1)]) hx hb dX5_remainder_91 hl (by decide +kernel) rfl (fun ls hl => ?_)
            obtain ⟨z_33, ez_33⟩ : ∃ y : Int32, y = kk + 1 := ⟨_, rfl⟩
            refine lv_iinc (v := z_33) (lv' := [(9, .int z_33), (6, .double r_31), (8, .int dc), (4, .double lq), (0, .double x0), (2, .double x1)]) hx hb dX5_remainder_93 hl (k := 1) rfl (by rw [ez_33]; rfl) (by decide +kernel) rfl (fun ls hl => ?_)
            refine lv_goto (tgt := 63) hx hb dX5_remainder_96 (by decide +kernel) ?_
            exact ih (z_33, r_31, lq) ls _ hd_32 ⟨lv_sub hl [0, 2, 1, 3, 4, 5] rfl, trivial⟩ (by subst_vars; (try dsimp only); rw [inc1 (i := kk) (n := 3000) (by omega) (by decide +kernel)]; omega)
          · rw [fa_lt] at c_30
            try rw [ti_0] at c_30
            refine lv_dload hx hb dX5_remainder_78 (lv_at hl 3 rfl) ?_
            refine lv_dload hx hb dX5_remainder_80 (lv_at hl 2 rfl) ?_
            refine lv_dsub_any hd_24 lw_bits hx hb dX5_remainder_82 (fun r_34 d_35 _ hd_35 => ?_)
            have hts := dr_words hts0 d_35
            have hE : ekK D T (s.setDrawn d_35) := ekK.same (u := s) rfl hE0
            have hown : (s.setDrawn d_35).vm.findClass RX5 = some m.cls := hown0
            refine lv_dstore (lv' := [(4, .double r_34), (9, .int kk), (8, .int dc), (6, .double sq), (0, .double x0), (2, .double x1)]) hx hb dX5_remainder_83 hl (by decide +kernel) rfl (fun ls hl => ?_)
            refine lv_dload hx hb dX5_remainder_85 (lv_at hl 3 rfl) ?_
            refine lv_ldc2d (v := 4611686018427387904) hx hb hown (hts (.constantDouble RX5 24 (4611686018427387904)) (List.mem_of_getElem? (i := 1) rfl)) dX5_remainder_87 ?_
            refine lv_ddiv_any hd_35 lw_bits hx hb dX5_remainder_90 (fun r_36 d_37 _ hd_37 => ?_)
            have hts := dr_words hts0 d_37
            have hE : ekK D T (s.setDrawn d_37) := ekK.same (u := s) rfl hE0
            have hown : (s.setDrawn d_37).vm.findClass RX5 = some m.cls := hown0
            refine lv_dstore (lv' := [(6, .double r_36), (4, .double r_34), (9, .int kk), (8, .int dc), (0, .double x0), (2, .double x1)]) hx hb dX5_remainder_91 hl (by decide +kernel) rfl (fun ls hl => ?_)
            obtain ⟨z_38, ez_38⟩ : ∃ y : Int32, y = kk + 1 := ⟨_, rfl⟩
            refine lv_iinc (v := z_38) (lv' := [(9, .int z_38), (6, .double r_36), (4, .double r_34), (8, .int dc), (0, .double x0), (2, .double x1)]) hx hb dX5_remainder_93 hl (k := 2) rfl (by rw [ez_38]; rfl) (by decide +kernel) rfl (fun ls hl => ?_)
            refine lv_goto (tgt := 63) hx hb dX5_remainder_96 (by decide +kernel) ?_
            exact ih (z_38, r_36, r_34) ls _ hd_37 ⟨lv_sub hl [0, 3, 1, 2, 4, 5] rfl, trivial⟩ (by subst_vars; (try dsimp only); rw [inc1 (i := kk) (n := 3000) (by omega) (by decide +kernel)]; omega)
      · rw [fa_lt] at c_23
        try rw [ti_0] at c_23
        refine lv_dload hx hb dX5_remainder_43 (lv_at hl 2 rfl) ?_
        refine lv_ldc2d (v := 4611686018427387904) hx hb hown (hts (.constantDouble RX5 24 (4611686018427387904)) (List.mem_of_getElem? (i := 1) rfl)) dX5_remainder_45 ?_
        refine lv_dmul_any hd_21 lw_bits hx hb dX5_remainder_48 (fun r_39 d_40 _ hd_40 => ?_)
        have hts := dr_words hts0 d_40
        have hE : ekK D T (s.setDrawn d_40) := ekK.same (u := s) rfl hE0
        have hown : (s.setDrawn d_40).vm.findClass RX5 = some m.cls := hown0
        refine lv_dstore (lv' := [(6, .double r_39), (9, .int ii), (8, .int dc), (4, .double lf), (0, .double x0), (2, .double x1)]) hx hb dX5_remainder_49 hl (by decide +kernel) rfl (fun ls hl => ?_)
        obtain ⟨z_41, ez_41⟩ : ∃ y : Int32, y = dc + 1 := ⟨_, rfl⟩
        refine lv_iinc (v := z_41) (lv' := [(8, .int z_41), (6, .double r_39), (9, .int ii), (4, .double lf), (0, .double x0), (2, .double x1)]) hx hb dX5_remainder_51 hl (k := 2) rfl (by rw [ez_41]; rfl) (by decide +kernel) rfl (fun ls hl => ?_)
        obtain ⟨z_42, ez_42⟩ : ∃ y : Int32, y = ii + 1 := ⟨_, rfl⟩
        refine lv_iinc (v := z_42) (lv' := [(9, .int z_42), (8, .int z_41), (6, .double r_39), (4, .double lf), (0, .double x0), (2, .double x1)]) hx hb dX5_remainder_54 hl (k := 2) rfl (by rw [ez_42]; rfl) (by decide +kernel) rfl (fun ls hl => ?_)
        refine lv_goto (tgt := 23) hx hb dX5_remainder_57 (by decide +kernel) ?_
        exact ih (z_42, z_41, r_39, lf) ls _ hd_40 ⟨lv_sub hl [0, 1, 2, 3, 4, 5] rfl, (by subst_vars; (try dsimp only); rw [inc1 (i := ii) (n := 3000) (by omega) (by decide +kernel), inc1 (i := dc) (n := 3000) (by omega) (by decide +kernel)]; omega)⟩ (by subst_vars; (try dsimp only); rw [inc1 (i := ii) (n := 3000) (by omega) (by decide +kernel)]; omega)
  · rw [fa_le] at c_2
    try rw [ti_0] at c_2
    refine lv_dload_n hx hb dX5_remainder_6 rfl (lv_at hl 0 rfl) ?_
    refine lv_dneg hx hb dX5_remainder_7 ?_
    obtain ⟨z_43, ez_43⟩ : ∃ y : UInt64, y = (FP.dneg x0) := ⟨_, rfl⟩
    refine W.eq (g2 := F0 m 8 ls [.double z_43]) (by rw [ez_43]) ?_
    clear ez_43
    refine lv_goto (tgt := 12) hx hb dX5_remainder_8 (by decide +kernel) ?_
    refine lv_dstore (lv' := [(4, .double z_43), (0, .double x0), (2, .double x1)]) hx hb dX5_remainder_12 hl (by decide +kernel) rfl (fun ls hl => ?_)
    refine lv_dload_n hx hb dX5_remainder_14 rfl (lv_at hl 2 rfl) ?_
    refine lv_dstore (lv' := [(6, .double x1), (4, .double z_43), (0, .double x0), (2, .double x1)]) hx hb dX5_remainder_15 hl (by decide +kernel) rfl (fun ls hl => ?_)
    refine lv_iconst (v := 0) hx hb dX5_remainder_17 (by decide +kernel) ?_
    refine lv_istore (lv' := [(8, .int 0), (6, .double x1), (4, .double z_43), (0, .double x0), (2, .double x1)]) hx hb dX5_remainder_18 hl (by decide +kernel) rfl (fun ls hl => ?_)
    refine lv_iconst (v := 0) hx hb dX5_remainder_20 (by decide +kernel) ?_
    refine lv_istore (lv' := [(9, .int 0), (8, .int 0), (6, .double x1), (4, .double z_43), (0, .double x0), (2, .double x1)]) hx hb dX5_remainder_21 hl (by decide +kernel) rfl (fun ls hl => ?_)
    refine loopRD (cs := lw_cs) (σ := (Int32) × (Int32) × (UInt64) × (UInt64)) (fun x9 ls => lv_has ls 10 [(9, .int x9.1), (8, .int x9.2.1), (6, .double x9.2.2.1), (4, .double x9.2.2.2), (0, .double x0), (2, .double x1)] ∧ (0 ≤ x9.1.toInt ∧ x9.1.toInt ≤ 2200 ∧ x9.2.1.toInt = x9.1.toInt)) (fun x9 => (2200 - x9.1.toInt).toNat) (fun x9 ls d_44 hd_44 hI ih => ?_) (0, 0, x1, z_43) ls _ hd0 ⟨lv_sub hl [0, 1, 2, 3, 4, 5] rfl, (by (try dsimp only); decide)⟩
    obtain ⟨ii, dc, sp, lf⟩ := x9
    obtain ⟨hl, hinv⟩ := hI
    have hl : lv_has ls 10 [(9, .int ii), (8, .int dc), (6, .double sp), (4, .double lf), (0, .double x0), (2, .double x1)] := hl
    have hinv : 0 ≤ ii.toInt ∧ ii.toInt ≤ 2200 ∧ dc.toInt = ii.toInt := hinv
    have hts := dr_words hts0 d_44
    have hE : ekK D T (s.setDrawn d_44) := ekK.same (u := s) rfl hE0
    have hown : (s.setDrawn d_44).vm.findClass RX5 = some m.cls := hown0
    refine lv_iload hx hb dX5_remainder_23 (lv_at hl 0 rfl) ?_
    refine lv_sipush (v := 2200) hx hb dX5_remainder_25 (by decide +kernel) ?_
    refine lv_icmp_ge (tgt := 60) hx hb dX5_remainder_28 (by decide +kernel) (fun c_45 => ?_) (fun c_45 => ?_)
    · rw [fa_le] at c_45
      try rw [ti_2200] at c_45
      refine lv_iconst (v := 0) hx hb dX5_remainder_60 (by decide +kernel) ?_
      refine lv_istore (lv' := [(9, .int 0), (8, .int dc), (6, .double sp), (4, .double lf), (0, .double x0), (2, .double x1)]) hx hb dX5_remainder_61 hl (by decide +kernel) rfl (fun ls hl => ?_)
      refine loopRD (cs := lw_cs) (σ := (Int32) × (UInt64) × (UInt64)) (fun x9 ls => lv_has ls 10 [(9, .int x9.1), (8, .int dc), (6, .double x9.2.1), (4, .double x9.2.2), (0, .double x0), (2, .double x1)] ∧ (True)) (fun x9 => (2300 - x9.1.toInt).toNat) (fun x9 ls d_46 hd_46 hI ih => ?_) (0, sp, lf) ls _ hd_44 ⟨lv_sub hl [0, 1, 2, 3, 4, 5] rfl, trivial⟩
      obtain ⟨kk, sq, lq⟩ := x9
      obtain ⟨hl, hinv⟩ := hI
      have hl : lv_has ls 10 [(9, .int kk), (8, .int dc), (6, .double sq), (4, .double lq), (0, .double x0), (2, .double x1)] := hl
      have hinv : True := hinv
      have hts := dr_words hts0 d_46
      have hE : ekK D T (s.setDrawn d_46) := ekK.same (u := s) rfl hE0
      have hown : (s.setDrawn d_46).vm.findClass RX5 = some m.cls := hown0
      refine lv_iload hx hb dX5_remainder_63 (lv_at hl 0 rfl) ?_
      refine lv_iload hx hb dX5_remainder_65 (lv_at hl 1 rfl) ?_
      refine lv_icmp_gt (tgt := 99) hx hb dX5_remainder_67 (by decide +kernel) (fun c_47 => ?_) (fun c_47 => ?_)
      · rw [fa_lt] at c_47
        refine lv_dload_n hx hb dX5_remainder_99 rfl (lv_at hl 4 rfl) ?_
        refine lv_dconst0 hx hb dX5_remainder_100 ?_
        refine lv_dcmp hx hb dX5_remainder_101 ?_
        refine lv_topi (fun z_48 ez_48 => ?_)
        refine lv_if_ge (tgt := 111) hx hb dX5_remainder_102 (by decide +kernel) (fun c_49 => ?_) (fun c_49 => ?_)
        · rw [fa_le] at c_49
          try rw [ti_0] at c_49
          refine lv_dload hx hb dX5_remainder_111 (lv_at hl 3 rfl) ?_
          refine W.endD hd_46 ?_
          exact W.dret hx hb hr (fun t ht hW => ⟨⟨_, (), rfl, trivial, by rw [ht]; exact hP.sub [] rfl, hD.sub [] (by decide +kernel) rfl⟩, hS.F ht⟩) hS.2.2 dX5_remainder_113
        · rw [fa_le] at c_49
          try rw [ti_0] at c_49
          refine lv_dload hx hb dX5_remainder_105 (lv_at hl 3 rfl) ?_
          refine lv_dneg hx hb dX5_remainder_107 ?_
          obtain ⟨z_50, ez_50⟩ : ∃ y : UInt64, y = (FP.dneg lq) := ⟨_, rfl⟩
          refine W.eq (g2 := F0 m 108 ls [.double z_50]) (by rw [ez_50]) ?_
          clear ez_50
          refine lv_goto (tgt := 113) hx hb dX5_remainder_108 (by decide +kernel) ?_
          refine W.endD hd_46 ?_
          exact W.dret hx hb hr (fun t ht hW => ⟨⟨_, (), rfl, trivial, by rw [ht]; exact hP.sub [] rfl, hD.sub [] (by decide +kernel) rfl⟩, hS.F ht⟩) hS.2.2 dX5_remainder_113
      · rw [fa_lt] at c_47
        refine lv_dload hx hb dX5_remainder_70 (lv_at hl 3 rfl) ?_
        refine lv_dload hx hb dX5_remainder_72 (lv_at hl 2 rfl) ?_
        refine lv_dcmp hx hb dX5_remainder_74 ?_
        refine lv_topi (fun z_51 ez_51 => ?_)
        refine lv_if_lt (tgt := 85) hx hb dX5_remainder_75 (by decide +kernel) (fun c_52 => ?_) (fun c_52 => ?_)
        · rw [fa_lt] at c_52
          try rw [ti_0] at c_52
          refine lv_dload hx hb dX5_remainder_85 (lv_at hl 2 rfl) ?_
          refine lv_ldc2d (v := 4611686018427387904) hx hb hown (hts (.constantDouble RX5 24 (4611686018427387904)) (List.mem_of_getElem? (i := 1) rfl)) dX5_remainder_87 ?_
          refine lv_ddiv_any hd_46 lw_bits hx hb dX5_remainder_90 (fun r_53 d_54 _ hd_54 => ?_)
          have hts := dr_words hts0 d_54
          have hE : ekK D T (s.setDrawn d_54) := ekK.same (u := s) rfl hE0
          have hown : (s.setDrawn d_54).vm.findClass RX5 = some m.cls := hown0
          refine lv_dstore (lv' := [(6, .double r_53), (9, .int kk), (8, .int dc), (4, .double lq), (0, .double x0), (2, .double x1)]) hx hb dX5_remainder_91 hl (by decide +kernel) rfl (fun ls hl => ?_)
          obtain ⟨z_55, ez_55⟩ : ∃ y : Int32, y = kk + 1 := ⟨_, rfl⟩
          refine lv_iinc (v := z_55) (lv' := [(9, .int z_55), (6, .double r_53), (8, .int dc), (4, .double lq), (0, .double x0), (2, .double x1)]) hx hb dX5_remainder_93 hl (k := 1) rfl (by rw [ez_55]; rfl) (by decide +kernel) rfl (fun ls hl => ?_)
          refine lv_goto (tgt := 63) hx hb dX5_remainder_96 (by decide +kernel) ?_
          exact ih (z_55, r_53, lq) ls _ hd_54 ⟨lv_sub hl [0, 2, 1, 3, 4, 5] rfl, trivial⟩ (by subst_vars; (try dsimp only); rw [inc1 (i := kk) (n := 3000) (by omega) (by decide +kernel)]; omega)
        · rw [fa_lt] at c_52
          try rw [ti_0] at c_52
          refine lv_dload hx hb dX5_remainder_78 (lv_at hl 3 rfl) ?_
          refine lv_dload hx hb dX5_remainder_80 (lv_at hl 2 rfl) ?_
          refine lv_dsub_any hd_46 lw_bits hx hb dX5_remainder_82 (fun r_56 d_57 _ hd_57 => ?_)
          have hts := dr_words hts0 d_57
          have hE : ekK D T (s.setDrawn d_57) := ekK.same (u := s) rfl hE0
          have hown : (s.setDrawn d_57).vm.findClass RX5 = some m.cls := hown0
          refine lv_dstore (lv' := [(4, .double r_56), (9, .int kk), (8, .int dc), (6, .double sq), (0, .double x0), (2, .double x1)]) hx hb dX5_remainder_83 hl (by decide +kernel) rfl (fun ls hl => ?_)
          refine lv_dload hx hb dX5_remainder_85 (lv_at hl 3 rfl) ?_
          refine lv_ldc2d (v := 4611686018427387904) hx hb hown (hts (.constantDouble RX5 24 (4611686018427387904)) (List.mem_of_getElem? (i := 1) rfl)) dX5_remainder_87 ?_
          refine lv_ddiv_any hd_57 lw_bits hx hb dX5_remainder_90 (fun r_58 d_59 _ hd_59 => ?_)
          have hts := dr_words hts0 d_59
          have hE : ekK D T (s.setDrawn d_59) := ekK.same (u := s) rfl hE0
          have hown : (s.setDrawn d_59).vm.findClass RX5 = some m.cls := hown0
          refine lv_dstore (lv' := [(6, .double r_58), (4, .double r_56), (9, .int kk), (8, .int dc), (0, .double x0), (2, .double x1)]) hx hb dX5_remainder_91 hl (by decide +kernel) rfl (fun ls hl => ?_)
          obtain ⟨z_60, ez_60⟩ : ∃ y : Int32, y = kk + 1 := ⟨_, rfl⟩
          refine lv_iinc (v := z_60) (lv' := [(9, .int z_60), (6, .double r_58), (4, .double r_56), (8, .int dc), (0, .double x0), (2, .double x1)]) hx hb dX5_remainder_93 hl (k := 2) rfl (by rw [ez_60]; rfl) (by decide +kernel) rfl (fun ls hl => ?_)
          refine lv_goto (tgt := 63) hx hb dX5_remainder_96 (by decide +kernel) ?_
          exact ih (z_60, r_58, r_56) ls _ hd_59 ⟨lv_sub hl [0, 3, 1, 2, 4, 5] rfl, trivial⟩ (by subst_vars; (try dsimp only); rw [inc1 (i := kk) (n := 3000) (by omega) (by decide +kernel)]; omega)
    · rw [fa_le] at c_45
      try rw [ti_2200] at c_45
      refine lv_dload hx hb dX5_remainder_31 (lv_at hl 2 rfl) ?_
      refine lv_dload hx hb dX5_remainder_33 (lv_at hl 3 rfl) ?_
      refine lv_ldc2d (v := 4611686018427387904) hx hb hown (hts (.constantDouble RX5 24 (4611686018427387904)) (List.mem_of_getElem? (i := 1) rfl)) dX5_remainder_35 ?_
      refine lv_ddiv_any hd_44 lw_bits hx hb dX5_remainder_38 (fun r_61 d_62 _ hd_62 => ?_)
      have hts := dr_words hts0 d_62
      have hE : ekK D T (s.setDrawn d_62) := ekK.same (u := s) rfl hE0
      have hown : (s.setDrawn d_62).vm.findClass RX5 = some m.cls := hown0
      refine lv_dcmp hx hb dX5_remainder_39 ?_
      refine lv_topi (fun z_63 ez_63 => ?_)
      refine lv_if_gt (tgt := 60) hx hb dX5_remainder_40 (by decide +kernel) (fun c_64 => ?_) (fun c_64 => ?_)
      · rw [fa_lt] at c_64
        try rw [ti_0] at c_64
        refine lv_iconst (v := 0) hx hb dX5_remainder_60 (by decide +kernel) ?_
        refine lv_istore (lv' := [(9, .int 0), (8, .int dc), (6, .double sp), (4, .double lf), (0, .double x0), (2, .double x1)]) hx hb dX5_remainder_61 hl (by decide +kernel) rfl (fun ls hl => ?_)
        refine loopRD (cs := lw_cs) (σ := (Int32) × (UInt64) × (UInt64)) (fun x9 ls => lv_has ls 10 [(9, .int x9.1), (8, .int dc), (6, .double x9.2.1), (4, .double x9.2.2), (0, .double x0), (2, .double x1)] ∧ (True)) (fun x9 => (2300 - x9.1.toInt).toNat) (fun x9 ls d_65 hd_65 hI ih => ?_) (0, sp, lf) ls _ hd_62 ⟨lv_sub hl [0, 1, 2, 3, 4, 5] rfl, trivial⟩
        obtain ⟨kk, sq, lq⟩ := x9
        obtain ⟨hl, hinv⟩ := hI
        have hl : lv_has ls 10 [(9, .int kk), (8, .int dc), (6, .double sq), (4, .double lq), (0, .double x0), (2, .double x1)] := hl
        have hinv : True := hinv
        have hts := dr_words hts0 d_65
        have hE : ekK D T (s.setDrawn d_65) := ekK.same (u := s) rfl hE0
        have hown : (s.setDrawn d_65).vm.findClass RX5 = some m.cls := hown0
        refine lv_iload hx hb dX5_remainder_63 (lv_at hl 0 rfl) ?_
        refine lv_iload hx hb dX5_remainder_65 (lv_at hl 1 rfl) ?_
        refine lv_icmp_gt (tgt := 99) hx hb dX5_remainder_67 (by decide +kernel) (fun c_66 => ?_) (fun c_66 => ?_)
        · rw [fa_lt] at c_66
          refine lv_dload_n hx hb dX5_remainder_99 rfl (lv_at hl 4 rfl) ?_
          refine lv_dconst0 hx hb dX5_remainder_100 ?_
          refine lv_dcmp hx hb dX5_remainder_101 ?_
          refine lv_topi (fun z_67 ez_67 => ?_)
          refine lv_if_ge (tgt := 111) hx hb dX5_remainder_102 (by decide +kernel) (fun c_68 => ?_) (fun c_68 => ?_)
          · rw [fa_le] at c_68
            try rw [ti_0] at c_68
            refine lv_dload hx hb dX5_remainder_111 (lv_at hl 3 rfl) ?_
            refine W.endD hd_65 ?_
            exact W.dret hx hb hr (fun t ht hW => ⟨⟨_, (), rfl, trivial, by rw [ht]; exact hP.sub [] rfl, hD.sub [] (by decide +kernel) rfl⟩, hS.F ht⟩) hS.2.2 dX5_remainder_113
          · rw [fa_le] at c_68
            try rw [ti_0] at c_68
            refine lv_dload hx hb dX5_remainder_105 (lv_at hl 3 rfl) ?_
            refine lv_dneg hx hb dX5_remainder_107 ?_
            obtain ⟨z_69, ez_69⟩ : ∃ y : UInt64, y = (FP.dneg lq) := ⟨_, rfl⟩
            refine W.eq (g2 := F0 m 108 ls [.double z_69]) (by rw [ez_69]) ?_
            clear ez_69
            refine lv_goto (tgt := 113) hx hb dX5_remainder_108 (by decide +kernel) ?_
            refine W.endD hd_65 ?_
            exact W.dret hx hb hr (fun t ht hW => ⟨⟨_, (), rfl, trivial, by rw [ht]; exact hP.sub [] rfl, hD.sub [] (by decide +kernel) rfl⟩, hS.F ht⟩) hS.2.2 dX5_remainder_113
        · rw [fa_lt] at c_66
          refine lv_dload hx hb dX5_remainder_70 (lv_at hl 3 rfl) ?_
          refine lv_dload hx hb dX5_remainder_72 (lv_at hl 2 rfl) ?_
          refine lv_dcmp hx hb dX5_remainder_74 ?_
          refine lv_topi (fun z_70 ez_70 => ?_)
          refine lv_if_lt (tgt := 85) hx hb dX5_remainder_75 (by decide +kernel) (fun c_71 => ?_) (fun c_71 => ?_)
          · rw [fa_lt] at c_71
            try rw [ti_0] at c_71
            refine lv_dload hx hb dX5_remainder_85 (lv_at hl 2 rfl) ?_
            refine lv_ldc2d (v := 4611686018427387904) hx hb hown (hts (.constantDouble RX5 24 (4611686018427387904)) (List.mem_of_getElem? (i := 1) rfl)) dX5_remainder_87 ?_
            refine lv_ddiv_any hd_65 lw_bits hx hb dX5_remainder_90 (fun r_72 d_73 _ hd_73 => ?_)
            have hts := dr_words hts0 d_73
            have hE : ekK D T (s.setDrawn d_73) := ekK.same (u := s) rfl hE0
            have hown : (s.setDrawn d_73).vm.findClass RX5 = some m.cls := hown0
            refine lv_dstore (lv' := [(6, .double r_72), (9, .int kk), (8, .int dc), (4, .double lq), (0, .double x0), (2, .double x1)]) hx hb dX5_remainder_91 hl (by decide +kernel) rfl (fun ls hl => ?_)
            obtain ⟨z_74, ez_74⟩ : ∃ y : Int32, y = kk + 1 := ⟨_, rfl⟩
            refine lv_iinc (v := z_74) (lv' := [(9, .int z_74), (6, .double r_72), (8, .int dc), (4, .double lq), (0, .double x0), (2, .double x1)]) hx hb dX5_remainder_93 hl (k := 1) rfl (by rw [ez_74]; rfl) (by decide +kernel) rfl (fun ls hl => ?_)
            refine lv_goto (tgt := 63) hx hb dX5_remainder_96 (by decide +kernel) ?_
            exact ih (z_74, r_72, lq) ls _ hd_73 ⟨lv_sub hl [0, 2, 1, 3, 4, 5] rfl, trivial⟩ (by subst_vars; (try dsimp only); rw [inc1 (i := kk) (n := 3000) (by omega) (by decide +kernel)]; omega)
          · rw [fa_lt] at c_71
            try rw [ti_0] at c_71
            refine lv_dload hx hb dX5_remainder_78 (lv_at hl 3 rfl) ?_
            refine lv_dload hx hb dX5_remainder_80 (lv_at hl 2 rfl) ?_
            refine lv_dsub_any hd_65 lw_bits hx hb dX5_remainder_82 (fun r_75 d_76 _ hd_76 => ?_)
            have hts := dr_words hts0 d_76
            have hE : ekK D T (s.setDrawn d_76) := ekK.same (u := s) rfl hE0
            have hown : (s.setDrawn d_76).vm.findClass RX5 = some m.cls := hown0
            refine lv_dstore (lv' := [(4, .double r_75), (9, .int kk), (8, .int dc), (6, .double sq), (0, .double x0), (2, .double x1)]) hx hb dX5_remainder_83 hl (by decide +kernel) rfl (fun ls hl => ?_)
            refine lv_dload hx hb dX5_remainder_85 (lv_at hl 3 rfl) ?_
            refine lv_ldc2d (v := 4611686018427387904) hx hb hown (hts (.constantDouble RX5 24 (4611686018427387904)) (List.mem_of_getElem? (i := 1) rfl)) dX5_remainder_87 ?_
            refine lv_ddiv_any hd_76 lw_bits hx hb dX5_remainder_90 (fun r_77 d_78 _ hd_78 => ?_)
            have hts := dr_words hts0 d_78
            have hE : ekK D T (s.setDrawn d_78) := ekK.same (u := s) rfl hE0
            have hown : (s.setDrawn d_78).vm.findClass RX5 = some m.cls := hown0
            refine lv_dstore (lv' := [(6, .double r_77), (4, .double r_75), (9, .int kk), (8, .int dc), (0, .double x0), (2, .double x1)]) hx hb dX5_remainder_91 hl (by decide +kernel) rfl (fun ls hl => ?_)
            obtain ⟨z_79, ez_79⟩ : ∃ y : Int32, y = kk + 1 := ⟨_, rfl⟩
            refine lv_iinc (v := z_79) (lv' := [(9, .int z_79), (6, .double r_77), (4, .double r_75), (8, .int dc), (0, .double x0), (2, .double x1)]) hx hb dX5_remainder_93 hl (k := 2) rfl (by rw [ez_79]; rfl) (by decide +kernel) rfl (fun ls hl => ?_)
            refine lv_goto (tgt := 63) hx hb dX5_remainder_96 (by decide +kernel) ?_
            exact ih (z_79, r_77, r_75) ls _ hd_78 ⟨lv_sub hl [0, 3, 1, 2, 4, 5] rfl, trivial⟩ (by subst_vars; (try dsimp only); rw [inc1 (i := kk) (n := 3000) (by omega) (by decide +kernel)]; omega)
      · rw [fa_lt] at c_64
        try rw [ti_0] at c_64
        refine lv_dload hx hb dX5_remainder_43 (lv_at hl 2 rfl) ?_
        refine lv_ldc2d (v := 4611686018427387904) hx hb hown (hts (.constantDouble RX5 24 (4611686018427387904)) (List.mem_of_getElem? (i := 1) rfl)) dX5_remainder_45 ?_
        refine lv_dmul_any hd_62 lw_bits hx hb dX5_remainder_48 (fun r_80 d_81 _ hd_81 => ?_)
        have hts := dr_words hts0 d_81
        have hE : ekK D T (s.setDrawn d_81) := ekK.same (u := s) rfl hE0
        have hown : (s.setDrawn d_81).vm.findClass RX5 = some m.cls := hown0
        refine lv_dstore (lv' := [(6, .double r_80), (9, .int ii), (8, .int dc), (4, .double lf), (0, .double x0), (2, .double x1)]) hx hb dX5_remainder_49 hl (by decide +kernel) rfl (fun ls hl => ?_)
        obtain ⟨z_82, ez_82⟩ : ∃ y : Int32, y = dc + 1 := ⟨_, rfl⟩
        refine lv_iinc (v := z_82) (lv' := [(8, .int z_82), (6, .double r_80), (9, .int ii), (4, .double lf), (0, .double x0), (2, .double x1)]) hx hb dX5_remainder_51 hl (k := 2) rfl (by rw [ez_82]; rfl) (by decide +kernel) rfl (fun ls hl => ?_)
        obtain ⟨z_83, ez_83⟩ : ∃ y : Int32, y = ii + 1 := ⟨_, rfl⟩
        refine lv_iinc (v := z_83) (lv' := [(9, .int z_83), (8, .int z_82), (6, .double r_80), (4, .double lf), (0, .double x0), (2, .double x1)]) hx hb dX5_remainder_54 hl (k := 2) rfl (by rw [ez_83]; rfl) (by decide +kernel) rfl (fun ls hl => ?_)
        refine lv_goto (tgt := 23) hx hb dX5_remainder_57 (by decide +kernel) ?_
        exact ih (z_83, z_82, r_80, lf) ls _ hd_81 ⟨lv_sub hl [0, 1, 2, 3, 4, 5] rfl, (by subst_vars; (try dsimp only); rw [inc1 (i := ii) (n := 3000) (by omega) (by decide +kernel), inc1 (i := dc) (n := 3000) (by omega) (by decide +kernel)]; omega)⟩ (by subst_vars; (try dsimp only); rw [inc1 (i := ii) (n := 3000) (by omega) (by decide +kernel)]; omega)
theorem dX5_doubleBits_0 : decode cX5_doubleBits 0 = .ok (.dload_n 0, 1) := by decide +kernel
theorem dX5_doubleBits_1 : decode cX5_doubleBits 1 = .ok (.bipush 52, 2) := by decide +kernel
theorem dX5_doubleBits_10 : decode cX5_doubleBits 10 = .ok (.dload_n 0, 1) := by decide +kernel
theorem dX5_doubleBits_11 : decode cX5_doubleBits 11 = .ok (.invokestatic 13, 3) := by decide +kernel
theorem dX5_doubleBits_14 : decode cX5_doubleBits 14 = .ok (.ifCond .eq 11, 3) := by decide +kernel
theorem dX5_doubleBits_17 : decode cX5_doubleBits 17 = .ok (.lload_n 2, 1) := by decide +kernel
theorem dX5_doubleBits_18 : decode cX5_doubleBits 18 = .ok (.ldc2_w 19, 3) := by decide +kernel
theorem dX5_doubleBits_21 : decode cX5_doubleBits 21 = .ok (.lor, 1) := by decide +kernel
theorem dX5_doubleBits_22 : decode cX5_doubleBits 22 = .ok (.goto 4, 3) := by decide +kernel
theorem dX5_doubleBits_25 : decode cX5_doubleBits 25 = .ok (.lload_n 2, 1) := by decide +kernel
theorem dX5_doubleBits_26 : decode cX5_doubleBits 26 = .ok (.lreturn, 1) := by decide +kernel
theorem dX5_doubleBits_3 : decode cX5_doubleBits 3 = .ok (.sipush (-1022), 3) := by decide +kernel
theorem dX5_doubleBits_6 : decode cX5_doubleBits 6 = .ok (.invokestatic 9, 3) := by decide +kernel
theorem dX5_doubleBits_9 : decode cX5_doubleBits 9 = .ok (.lstore_n 2, 1) := by decide +kernel
set_option maxRecDepth 20000 in
theorem ggX5_doubleBits_X5_isNegative : GoodIn wsX5_doubleBits wsX5_isNegative := goodIn_r _ [9] rfl (by decide +kernel)
set_option maxRecDepth 20000 in
theorem ggX5_doubleBits_X5_packed : GoodIn wsX5_doubleBits wsX5_packed := goodIn_r _ [5, 6] rfl (by decide +kernel)
set_option maxRecDepth 20000 in
theorem gX5_doubleBits_X5_isNegative : GoodIn wsX5_doubleBits (va_wsS RX5 13 yX5_isNegative wsX5_isNegative) := goodIn_app (goodIn_of _ (by decide +kernel)) ggX5_doubleBits_X5_isNegative
set_option maxRecDepth 20000 in
theorem gX5_doubleBits_X5_packed : GoodIn wsX5_doubleBits (va_wsS RX5 9 yX5_packed wsX5_packed) := goodIn_app (goodIn_of _ (by decide +kernel)) ggX5_doubleBits_X5_packed
theorem hs_X5_isNegative : yX5_isNegative.cls ≠ "java/lang/invoke/MethodHandle" ∧ yX5_isNegative.cls ≠ "java/lang/invoke/VarHandle" ∧ (parseMethodDescriptor yX5_isNegative.desc).map (fun d => d.parameters.length) = some 1 := by decide +kernel
theorem hs_X5_packed : yX5_packed.cls ≠ "java/lang/invoke/MethodHandle" ∧ yX5_packed.cls ≠ "java/lang/invoke/VarHandle" ∧ (parseMethodDescriptor yX5_packed.desc).map (fun d => d.parameters.length) = some 3 := by decide +kernel
set_option maxHeartbeats 4000000 in
set_option maxRecDepth 100000 in
theorem c_X5_doubleBits (l : Launch) (D : va_G) (T : Nat → ClassId) (sz : Nat) (x0 : UInt64)  : MetD lw_cs l yX5_doubleBits wsX5_doubleBits ({ frames := 1, cells := 0, slots := 0, locals := 28 }) (pW [.double x0] D T [] sz) (va_Ql (fun (r : Int64) (u : Unit) => True) (bW D (va_A [] sz) (fun (u : Unit) => ([] : va_W))) (va_A [] sz)) 0 0 (va_A [] sz) := by
  refine MetD.ofW (cc := cX5_doubleBits) (maxL := 4) (ret := (some .long)) (by decide +kernel) rfl ?_
  intro p e s m args below meth c s₁ B hml hv hd0
  obtain ⟨rfl, hsz, hP, hE0, hD0⟩ := hv
  have hx := B.exec
  have hb := B.bytes
  have hr := B.returns
  have hts0 := atoms_spec (ws := wsX5_doubleBits) B.pre
  have hown0 : s.vm.findClass RX5 = some m.cls := findClass_of_methodNamed B.named
  have hlocks := B.notSynchronized
  subst hsz
  have hD := hD0.self (sz := s.heap.size)
  generalize hAe : va_A [] s.heap.size = A at hD ⊢
  have hA : ∀ q : Nat, s.heap.size ≤ q → A q := fun q h => by rw [← hAe]; exact Or.inr h
  have hS : va_S A s.heap s.heap [] := va_S.rf
  have hP : va_P D vwCl [] s.heap := hP
  have hl := lv_entry ([.double x0]) (n := 4) (Nat.le_of_ble_eq_true rfl)
  rw [lg_entry_eq]
  generalize (lg_sl ([.double x0]) ++ List.replicate (4 - (lg_sl ([.double x0])).length) Slot.unset).toArray = ls at hl ⊢
  have hl : lv_has ls 4 [(0, .double x0)] := hl
  clear hD0
  have hts := dr_words hts0 s.drawn
  have hE : ekK D T (s.setDrawn s.drawn) := ekK.same (u := s) rfl hE0
  have hown : (s.setDrawn s.drawn).vm.findClass RX5 = some m.cls := hown0
  refine lv_dload_n hx hb dX5_doubleBits_0 rfl (lv_at hl 0 rfl) ?_
  refine lv_bipush (v := 52) hx hb dX5_doubleBits_1 (by decide +kernel) ?_
  refine lv_sipush (v := (-1022)) hx hb dX5_doubleBits_3 (by decide +kernel) ?_
  have hFc := va_free (wc := []) hD hS hA [] rfl
  refine va_calllD hd0 (va_runS_D (As := [.double x0, .int 52, .int (-1022)]) (rest := []) ⟨hx, hb, hml, hown, hts⟩ (c_X5_packed l D T _ x0 52 (-1022)) (va_cwS 3 hts gX5_doubleBits_X5_packed rfl rfl rfl hs_X5_packed ⟨Nat.le_of_ble_eq_true rfl, Nat.le_of_ble_eq_true rfl⟩) (pW_S hP hE hD [] (by decide +kernel) rfl rfl) rfl rfl hl.1 rfl (lv_room (Nat.le_of_ble_eq_true rfl)) dX5_doubleBits_6 ⟨Nat.le_of_ble_eq_true rfl, Nat.le_of_ble_eq_true rfl⟩) hS (fun q _ h => hFc q h) hFc (fun r_1 u_2 t H1 locs ht hvm hr_1 hB hz1 hk1 hS d_3 hd_3 => ?_)
  have hts := dr_words hts0 d_3
  have hE : ekK D T (s.setDrawn d_3) := ekK.same (u := s) rfl hE0
  have hown : (s.setDrawn d_3).vm.findClass RX5 = some m.cls := hown0
  obtain ⟨hP1, hD1⟩ := hB
  rw [ht] at hP1
  obtain ⟨hP, hD⟩ := va_repl [] hP hD [] [] rfl (by decide +kernel) rfl rfl rfl hk1 hP1
  clear hP1 hD1 hFc
  generalize H1 = H at hP hS ⊢
  refine lv_lstore_n (lv' := [(2, .long r_1), (0, .double x0)]) hx hb dX5_doubleBits_9 rfl hl (by decide +kernel) rfl (fun ls hl => ?_)
  refine lv_dload_n hx hb dX5_doubleBits_10 rfl (lv_at hl 1 rfl) ?_
  have hFc := va_free (wc := []) hD hS hA [] rfl
  refine va_calliD hd_3 (va_runS_D (As := [.double x0]) (rest := []) ⟨hx, hb, hml, hown, hts⟩ (c_X5_isNegative l D T _ x0) (va_cwS 1 hts gX5_doubleBits_X5_isNegative rfl rfl rfl hs_X5_isNegative ⟨Nat.le_of_ble_eq_true rfl, Nat.le_of_ble_eq_true rfl⟩) (pW_S hP hE hD [] (by decide +kernel) rfl rfl) rfl rfl hl.1 rfl (lv_room (Nat.le_of_ble_eq_true rfl)) dX5_doubleBits_11 ⟨Nat.le_of_ble_eq_true rfl, Nat.le_of_ble_eq_true rfl⟩) hS (fun q _ h => hFc q h) hFc (fun r_4 u_5 t H1 locs ht hvm hr_4 hB hz1 hk1 hS d_6 hd_6 => ?_)
  have hts := dr_words hts0 d_6
  have hE : ekK D T (s.setDrawn d_6) := ekK.same (u := s) rfl hE0
  have hown : (s.setDrawn d_6).vm.findClass RX5 = some m.cls := hown0
  obtain ⟨hP1, hD1⟩ := hB
  rw [ht] at hP1
  obtain ⟨hP, hD⟩ := va_repl [] hP hD [] [] rfl (by decide +kernel) rfl rfl rfl hk1 hP1
  clear hP1 hD1 hFc
  generalize H1 = H at hP hS ⊢
  refine lv_if_eq (tgt := 25) hx hb dX5_doubleBits_14 (by decide +kernel) (fun c_7 => ?_) (fun c_7 => ?_)
  · rw [fa_eq] at c_7
    try rw [ti_0] at c_7
    refine lv_lload_n hx hb dX5_doubleBits_25 rfl (lv_at hl 0 rfl) ?_
    refine W.endD hd_6 ?_
    exact W.lret hx hb hr (fun t ht hW => ⟨⟨_, (), rfl, trivial, by rw [ht]; exact hP.sub [] rfl, hD.sub [] (by decide +kernel) rfl⟩, hS.F ht⟩) hS.2.2 dX5_doubleBits_26
  · rw [fa_eq] at c_7
    try rw [ti_0] at c_7
    refine lv_lload_n hx hb dX5_doubleBits_17 rfl (lv_at hl 0 rfl) ?_
    refine lv_ldc2 (v := (-9223372036854775808)) hx hb hown (hts (.constantLong RX5 19 (-9223372036854775808)) (List.mem_of_getElem? (i := 1) rfl)) dX5_doubleBits_18 ?_
    refine lv_lor hx hb dX5_doubleBits_21 ?_
    refine lv_goto (tgt := 26) hx hb dX5_doubleBits_22 (by decide +kernel) ?_
    refine W.endD hd_6 ?_
    exact W.lret hx hb hr (fun t ht hW => ⟨⟨_, (), rfl, trivial, by rw [ht]; exact hP.sub [] rfl, hD.sub [] (by decide +kernel) rfl⟩, hS.F ht⟩) hS.2.2 dX5_doubleBits_26
theorem dX5_floatBits_0 : decode cX5_floatBits 0 = .ok (.fload_n 0, 1) := by decide +kernel
theorem dX5_floatBits_1 : decode cX5_floatBits 1 = .ok (.f2d, 1) := by decide +kernel
theorem dX5_floatBits_10 : decode cX5_floatBits 10 = .ok (.istore_n 1, 1) := by decide +kernel
theorem dX5_floatBits_11 : decode cX5_floatBits 11 = .ok (.fload_n 0, 1) := by decide +kernel
theorem dX5_floatBits_12 : decode cX5_floatBits 12 = .ok (.f2d, 1) := by decide +kernel
theorem dX5_floatBits_13 : decode cX5_floatBits 13 = .ok (.invokestatic 13, 3) := by decide +kernel
theorem dX5_floatBits_16 : decode cX5_floatBits 16 = .ok (.ifCond .eq 10, 3) := by decide +kernel
theorem dX5_floatBits_19 : decode cX5_floatBits 19 = .ok (.iload_n 1, 1) := by decide +kernel
theorem dX5_floatBits_2 : decode cX5_floatBits 2 = .ok (.bipush 23, 2) := by decide +kernel
theorem dX5_floatBits_20 : decode cX5_floatBits 20 = .ok (.ldc 23, 2) := by decide +kernel
theorem dX5_floatBits_22 : decode cX5_floatBits 22 = .ok (.ior, 1) := by decide +kernel
theorem dX5_floatBits_23 : decode cX5_floatBits 23 = .ok (.goto 4, 3) := by decide +kernel
theorem dX5_floatBits_26 : decode cX5_floatBits 26 = .ok (.iload_n 1, 1) := by decide +kernel
theorem dX5_floatBits_27 : decode cX5_floatBits 27 = .ok (.ireturn, 1) := by decide +kernel
theorem dX5_floatBits_4 : decode cX5_floatBits 4 = .ok (.bipush (-126), 2) := by decide +kernel
theorem dX5_floatBits_6 : decode cX5_floatBits 6 = .ok (.invokestatic 9, 3) := by decide +kernel
theorem dX5_floatBits_9 : decode cX5_floatBits 9 = .ok (.l2i, 1) := by decide +kernel
set_option maxRecDepth 20000 in
theorem ggX5_floatBits_X5_isNegative : GoodIn wsX5_floatBits wsX5_isNegative := goodIn_r _ [9] rfl (by decide +kernel)
set_option maxRecDepth 20000 in
theorem ggX5_floatBits_X5_packed : GoodIn wsX5_floatBits wsX5_packed := goodIn_r _ [5, 6] rfl (by decide +kernel)
set_option maxRecDepth 20000 in
theorem gX5_floatBits_X5_isNegative : GoodIn wsX5_floatBits (va_wsS RX5 13 yX5_isNegative wsX5_isNegative) := goodIn_app (goodIn_of _ (by decide +kernel)) ggX5_floatBits_X5_isNegative
set_option maxRecDepth 20000 in
theorem gX5_floatBits_X5_packed : GoodIn wsX5_floatBits (va_wsS RX5 9 yX5_packed wsX5_packed) := goodIn_app (goodIn_of _ (by decide +kernel)) ggX5_floatBits_X5_packed
set_option maxHeartbeats 4000000 in
set_option maxRecDepth 100000 in
theorem c_X5_floatBits (l : Launch) (D : va_G) (T : Nat → ClassId) (sz : Nat) (x0 : UInt32)  : MetD lw_cs l yX5_floatBits wsX5_floatBits ({ frames := 1, cells := 0, slots := 0, locals := 28 }) (pW [.float x0] D T [] sz) (va_Qi (fun (r : Int32) (u : Unit) => True) (bW D (va_A [] sz) (fun (u : Unit) => ([] : va_W))) (va_A [] sz)) 0 0 (va_A [] sz) := by
  refine MetD.ofW (cc := cX5_floatBits) (maxL := 2) (ret := (some .int)) (by decide +kernel) rfl ?_
  intro p e s m args below meth c s₁ B hml hv hd0
  obtain ⟨rfl, hsz, hP, hE0, hD0⟩ := hv
  have hx := B.exec
  have hb := B.bytes
  have hr := B.returns
  have hts0 := atoms_spec (ws := wsX5_floatBits) B.pre
  have hown0 : s.vm.findClass RX5 = some m.cls := findClass_of_methodNamed B.named
  have hlocks := B.notSynchronized
  subst hsz
  have hD := hD0.self (sz := s.heap.size)
  generalize hAe : va_A [] s.heap.size = A at hD ⊢
  have hA : ∀ q : Nat, s.heap.size ≤ q → A q := fun q h => by rw [← hAe]; exact Or.inr h
  have hS : va_S A s.heap s.heap [] := va_S.rf
  have hP : va_P D vwCl [] s.heap := hP
  have hl := lv_entry ([.float x0]) (n := 2) (Nat.le_of_ble_eq_true rfl)
  rw [lg_entry_eq]
  generalize (lg_sl ([.float x0]) ++ List.replicate (2 - (lg_sl ([.float x0])).length) Slot.unset).toArray = ls at hl ⊢
  have hl : lv_has ls 2 [(0, .float x0)] := hl
  clear hD0
  have hts := dr_words hts0 s.drawn
  have hE : ekK D T (s.setDrawn s.drawn) := ekK.same (u := s) rfl hE0
  have hown : (s.setDrawn s.drawn).vm.findClass RX5 = some m.cls := hown0
  refine lv_fload_n hx hb dX5_floatBits_0 rfl (lv_at hl 0 rfl) ?_
  refine lv_f2d_any hd0 lw_bits hx hb dX5_floatBits_1 (fun r_1 d_2 _ hd_2 => ?_)
  have hts := dr_words hts0 d_2
  have hE : ekK D T (s.setDrawn d_2) := ekK.same (u := s) rfl hE0
  have hown : (s.setDrawn d_2).vm.findClass RX5 = some m.cls := hown0
  refine lv_bipush (v := 23) hx hb dX5_floatBits_2 (by decide +kernel) ?_
  refine lv_bipush (v := (-126)) hx hb dX5_floatBits_4 (by decide +kernel) ?_
  have hFc := va_free (wc := []) hD hS hA [] rfl
  refine va_calllD hd_2 (va_runS_D (As := [.double r_1, .int 23, .int (-126)]) (rest := []) ⟨hx, hb, hml, hown, hts⟩ (c_X5_packed l D T _ r_1 23 (-126)) (va_cwS 3 hts gX5_floatBits_X5_packed rfl rfl rfl hs_X5_packed ⟨Nat.le_of_ble_eq_true rfl, Nat.le_of_ble_eq_true rfl⟩) (pW_S hP hE hD [] (by decide +kernel) rfl rfl) rfl rfl hl.1 rfl (lv_room (Nat.le_of_ble_eq_true rfl)) dX5_floatBits_6 ⟨Nat.le_of_ble_eq_true rfl, Nat.le_of_ble_eq_true rfl⟩) hS (fun q _ h => hFc q h) hFc (fun r_3 u_4 t H1 locs ht hvm hr_3 hB hz1 hk1 hS d_5 hd_5 => ?_)
  have hts := dr_words hts0 d_5
  have hE : ekK D T (s.setDrawn d_5) := ekK.same (u := s) rfl hE0
  have hown : (s.setDrawn d_5).vm.findClass RX5 = some m.cls := hown0
  obtain ⟨hP1, hD1⟩ := hB
  rw [ht] at hP1
  obtain ⟨hP, hD⟩ := va_repl [] hP hD [] [] rfl (by decide +kernel) rfl rfl rfl hk1 hP1
  clear hP1 hD1 hFc
  generalize H1 = H at hP hS ⊢
  refine lv_l2i hx hb dX5_floatBits_9 rfl ?_
  refine lv_istore_n (lv' := [(1, .int (r_3.toInt32)), (0, .float x0)]) hx hb dX5_floatBits_10 rfl hl (by decide +kernel) rfl (fun ls hl => ?_)
  refine lv_fload_n hx hb dX5_floatBits_11 rfl (lv_at hl 1 rfl) ?_
  refine lv_f2d_any hd_5 lw_bits hx hb dX5_floatBits_12 (fun r_6 d_7 _ hd_7 => ?_)
  have hts := dr_words hts0 d_7
  have hE : ekK D T (s.setDrawn d_7) := ekK.same (u := s) rfl hE0
  have hown : (s.setDrawn d_7).vm.findClass RX5 = some m.cls := hown0
  have hFc := va_free (wc := []) hD hS hA [] rfl
  refine va_calliD hd_7 (va_runS_D (As := [.double r_6]) (rest := []) ⟨hx, hb, hml, hown, hts⟩ (c_X5_isNegative l D T _ r_6) (va_cwS 1 hts gX5_floatBits_X5_isNegative rfl rfl rfl hs_X5_isNegative ⟨Nat.le_of_ble_eq_true rfl, Nat.le_of_ble_eq_true rfl⟩) (pW_S hP hE hD [] (by decide +kernel) rfl rfl) rfl rfl hl.1 rfl (lv_room (Nat.le_of_ble_eq_true rfl)) dX5_floatBits_13 ⟨Nat.le_of_ble_eq_true rfl, Nat.le_of_ble_eq_true rfl⟩) hS (fun q _ h => hFc q h) hFc (fun r_8 u_9 t H1 locs ht hvm hr_8 hB hz1 hk1 hS d_10 hd_10 => ?_)
  have hts := dr_words hts0 d_10
  have hE : ekK D T (s.setDrawn d_10) := ekK.same (u := s) rfl hE0
  have hown : (s.setDrawn d_10).vm.findClass RX5 = some m.cls := hown0
  obtain ⟨hP1, hD1⟩ := hB
  rw [ht] at hP1
  obtain ⟨hP, hD⟩ := va_repl [] hP hD [] [] rfl (by decide +kernel) rfl rfl rfl hk1 hP1
  clear hP1 hD1 hFc
  generalize H1 = H at hP hS ⊢
  refine lv_if_eq (tgt := 26) hx hb dX5_floatBits_16 (by decide +kernel) (fun c_11 => ?_) (fun c_11 => ?_)
  · rw [fa_eq] at c_11
    try rw [ti_0] at c_11
    refine lv_iload_n hx hb dX5_floatBits_26 rfl (lv_at hl 0 rfl) ?_
    refine W.endD hd_10 ?_
    exact W.iret hx hb hr (fun t ht hW => ⟨⟨_, (), rfl, trivial, by rw [ht]; exact hP.sub [] rfl, hD.sub [] (by decide +kernel) rfl⟩, hS.F ht⟩) hS.2.2 dX5_floatBits_27
  · rw [fa_eq] at c_11
    try rw [ti_0] at c_11
    refine lv_iload_n hx hb dX5_floatBits_19 rfl (lv_at hl 0 rfl) ?_
    refine lv_ldc (v := (-2147483648)) hx hb hown (hts (.constant RX5 23 (-2147483648)) (List.mem_of_getElem? (i := 1) rfl)) dX5_floatBits_20 ?_
    refine lv_ior hx hb dX5_floatBits_22 ?_
    refine lv_goto (tgt := 27) hx hb dX5_floatBits_23 (by decide +kernel) ?_
    refine W.endD hd_10 ?_
    exact W.iret hx hb hr (fun t ht hW => ⟨⟨_, (), rfl, trivial, by rw [ht]; exact hP.sub [] rfl, hD.sub [] (by decide +kernel) rfl⟩, hS.F ht⟩) hS.2.2 dX5_floatBits_27
