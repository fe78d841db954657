section
theorem cp_le {x y : Int32} {k : Nat} (hx : 0 ≤ x.toInt) (hy : 0 ≤ y.toInt) (h : x.toInt + y.toInt ≤ k) : x.toNatClampNeg + y.toNatClampNeg ≤ k := by
  obtain ⟨i, hi, e⟩ := nI_of (x := x) (by rw [fa_lt, ti_0]; omega)
  obtain ⟨j, hj, e2⟩ := nI_of (x := y) (by rw [fa_lt, ti_0]; omega)
  subst e
  subst e2
  rw [nI_clamp hi, nI_clamp hj]
  rw [nI_toInt hi, nI_toInt hj] at h
  omega
theorem dX9_hasRun_0 : decode cX9_hasRun 0 = .ok (.iload_n 2, 1) := by decide +kernel
theorem dX9_hasRun_1 : decode cX9_hasRun 1 = .ok (.ifCond .lt 29, 3) := by decide +kernel
theorem dX9_hasRun_12 : decode cX9_hasRun 12 = .ok (.iload_n 1, 1) := by decide +kernel
theorem dX9_hasRun_13 : decode cX9_hasRun 13 = .ok (.ifCond .lt 17, 3) := by decide +kernel
theorem dX9_hasRun_16 : decode cX9_hasRun 16 = .ok (.iload_n 1, 1) := by decide +kernel
theorem dX9_hasRun_17 : decode cX9_hasRun 17 = .ok (.aload_n 0, 1) := by decide +kernel
theorem dX9_hasRun_18 : decode cX9_hasRun 18 = .ok (.getfield 15, 3) := by decide +kernel
theorem dX9_hasRun_21 : decode cX9_hasRun 21 = .ok (.iload_n 2, 1) := by decide +kernel
theorem dX9_hasRun_22 : decode cX9_hasRun 22 = .ok (.isub, 1) := by decide +kernel
theorem dX9_hasRun_23 : decode cX9_hasRun 23 = .ok (.if_icmp .gt 7, 3) := by decide +kernel
theorem dX9_hasRun_26 : decode cX9_hasRun 26 = .ok (.iconst 1, 1) := by decide +kernel
theorem dX9_hasRun_27 : decode cX9_hasRun 27 = .ok (.goto 4, 3) := by decide +kernel
theorem dX9_hasRun_30 : decode cX9_hasRun 30 = .ok (.iconst 0, 1) := by decide +kernel
theorem dX9_hasRun_31 : decode cX9_hasRun 31 = .ok (.ireturn, 1) := by decide +kernel
theorem dX9_hasRun_4 : decode cX9_hasRun 4 = .ok (.iload_n 2, 1) := by decide +kernel
theorem dX9_hasRun_5 : decode cX9_hasRun 5 = .ok (.aload_n 0, 1) := by decide +kernel
theorem dX9_hasRun_6 : decode cX9_hasRun 6 = .ok (.getfield 15, 3) := by decide +kernel
theorem dX9_hasRun_9 : decode cX9_hasRun 9 = .ok (.if_icmp .gt 21, 3) := by decide +kernel
set_option maxRecDepth 20000 in
theorem in_X9_hasRun_X9 : ∀ w ∈ wsX90, w ∈ wsX9_hasRun := sub_r [2, 3, 4, 5, 6, 7] rfl
set_option maxHeartbeats 4000000 in
set_option maxRecDepth 100000 in
theorem c_X9_hasRun (l : Launch) (D : va_G) (T : Nat → ClassId) (h0 : Nat) (fs0 : List Value) (x1 : Int32) (x2 : Int32) (n : Int32) (e0_1 : fs0[1]? = some (.int n)) (hn : 0 ≤ n.toInt ∧ n.toInt ≤ 30) : Met l yX9_hasRun wsX9_hasRun ({ frames := 0, cells := 0, slots := 0, locals := 0 }) (pR [.ref h0, .int x1, .int x2] D T [(h0, .inr (6, fs0))]) (vp_Si (fun r => r = if (0 ≤ x2.toInt ∧ x2.toInt ≤ n.toInt) ∧ 0 ≤ x1.toInt ∧ x1.toInt ≤ n.toInt - x2.toInt then 1 else 0)) 0 0 (fun _ => False) := by
  refine Met.ofW (cc := cX9_hasRun) (maxL := 3) (ret := (some .boolean)) (by decide +kernel) rfl ?_
  intro p e s m args below meth c s₁ B hml hv
  obtain ⟨rfl, hP, hE⟩ := hv
  have hx := B.exec
  have hb := B.bytes
  have hr := B.returns
  have hts := atoms_spec (ws := wsX9_hasRun) B.pre
  have hown : s.vm.findClass RX9 = some m.cls := findClass_of_methodNamed B.named
  have hlocks := B.notSynchronized
  have hP : va_P D vwCl [(h0, .inr (6, fs0))] s.heap := hP
  have hl := lv_entry ([.ref h0, .int x1, .int x2]) (n := 3) (Nat.le_of_ble_eq_true rfl)
  rw [lg_entry_eq]
  generalize (lg_sl ([.ref h0, .int x1, .int x2]) ++ List.replicate (3 - (lg_sl ([.ref h0, .int x1, .int x2])).length) Slot.unset).toArray = ls at hl ⊢
  have hl : lv_has ls 3 [(0, .ref h0), (1, .int x1), (2, .int x2)] := hl
  refine lv_iload_n hx hb dX9_hasRun_0 rfl (lv_at hl 2 rfl) ?_
  refine lv_if_lt (tgt := 30) hx hb dX9_hasRun_1 (by decide +kernel) (fun c_1 => ?_) (fun c_1 => ?_)
  · rw [fa_lt] at c_1
    try rw [ti_0] at c_1
    refine lv_iconst (v := 0) hx hb dX9_hasRun_30 (by decide +kernel) ?_
    exact W.zret hx hb hr rfl (fun t ht hW => ⟨_, rfl, (by exact (if_neg (by omega)).symm), ht⟩) (fun _ h => by cases h) dX9_hasRun_31
  · rw [fa_lt] at c_1
    try rw [ti_0] at c_1
    refine lv_iload_n hx hb dX9_hasRun_4 rfl (lv_at hl 2 rfl) ?_
    refine lv_aload_n hx hb dX9_hasRun_5 rfl (lv_at hl 0 rfl) ?_
    refine va_get (D := D) (ci := 6) (v := .int n) (C := RX9) (T := TX9) (N := 6) hx hb hts in_X9_hasRun_X9 hown hE.1 hP 0 rfl rfl 1 (by decide +kernel) (hts (.fieldLink RX9 15 "ClauseBook$Sheet" "size" "I") (List.mem_of_getElem? (i := 1) rfl)) (fun _ h9 => h9) e0_1 dX9_hasRun_6 ?_
    refine lv_icmp_gt (tgt := 30) hx hb dX9_hasRun_9 (by decide +kernel) (fun c_2 => ?_) (fun c_2 => ?_)
    · rw [fa_lt] at c_2
      refine lv_iconst (v := 0) hx hb dX9_hasRun_30 (by decide +kernel) ?_
      exact W.zret hx hb hr rfl (fun t ht hW => ⟨_, rfl, (by exact (if_neg (by omega)).symm), ht⟩) (fun _ h => by cases h) dX9_hasRun_31
    · rw [fa_lt] at c_2
      refine lv_iload_n hx hb dX9_hasRun_12 rfl (lv_at hl 1 rfl) ?_
      refine lv_if_lt (tgt := 30) hx hb dX9_hasRun_13 (by decide +kernel) (fun c_3 => ?_) (fun c_3 => ?_)
      · rw [fa_lt] at c_3
        try rw [ti_0] at c_3
        refine lv_iconst (v := 0) hx hb dX9_hasRun_30 (by decide +kernel) ?_
        exact W.zret hx hb hr rfl (fun t ht hW => ⟨_, rfl, (by exact (if_neg (by omega)).symm), ht⟩) (fun _ h => by cases h) dX9_hasRun_31
      · rw [fa_lt] at c_3
        try rw [ti_0] at c_3
        refine lv_iload_n hx hb dX9_hasRun_16 rfl (lv_at hl 1 rfl) ?_
        refine lv_aload_n hx hb dX9_hasRun_17 rfl (lv_at hl 0 rfl) ?_
        refine va_get (D := D) (ci := 6) (v := .int n) (C := RX9) (T := TX9) (N := 6) hx hb hts in_X9_hasRun_X9 hown hE.1 hP 0 rfl rfl 1 (by decide +kernel) (hts (.fieldLink RX9 15 "ClauseBook$Sheet" "size" "I") (List.mem_of_getElem? (i := 1) rfl)) (fun _ h9 => h9) e0_1 dX9_hasRun_18 ?_
        refine lv_iload_n hx hb dX9_hasRun_21 rfl (lv_at hl 2 rfl) ?_
        have hsb : (n - x2).toInt = n.toInt - x2.toInt := fb_subI (by omega) (by omega)
        refine lv_isub hx hb dX9_hasRun_22 ?_
        refine lv_icmp_gt (tgt := 30) hx hb dX9_hasRun_23 (by decide +kernel) (fun c_4 => ?_) (fun c_4 => ?_)
        · rw [fa_lt] at c_4
          refine lv_iconst (v := 0) hx hb dX9_hasRun_30 (by decide +kernel) ?_
          exact W.zret hx hb hr rfl (fun t ht hW => ⟨_, rfl, (by exact (if_neg (by omega)).symm), ht⟩) (fun _ h => by cases h) dX9_hasRun_31
        · rw [fa_lt] at c_4
          refine lv_iconst (v := 1) hx hb dX9_hasRun_26 (by decide +kernel) ?_
          refine lv_goto (tgt := 31) hx hb dX9_hasRun_27 (by decide +kernel) ?_
          exact W.zret hx hb hr rfl (fun t ht hW => ⟨_, rfl, (by exact (if_pos (by omega)).symm), ht⟩) (fun _ h => by cases h) dX9_hasRun_31
theorem dX9_moveFrom_0 : decode cX9_moveFrom 0 = .ok (.aload_n 0, 1) := by decide +kernel
theorem dX9_moveFrom_1 : decode cX9_moveFrom 1 = .ok (.getfield 9, 3) := by decide +kernel
theorem dX9_moveFrom_101 : decode cX9_moveFrom 101 = .ok (.return_, 1) := by decide +kernel
theorem dX9_moveFrom_32 : decode cX9_moveFrom 32 = .ok (.aload_n 1, 1) := by decide +kernel
theorem dX9_moveFrom_33 : decode cX9_moveFrom 33 = .ok (.getfield 18, 3) := by decide +kernel
theorem dX9_moveFrom_36 : decode cX9_moveFrom 36 = .ok (.iload_n 2, 1) := by decide +kernel
theorem dX9_moveFrom_37 : decode cX9_moveFrom 37 = .ok (.aload_n 0, 1) := by decide +kernel
theorem dX9_moveFrom_38 : decode cX9_moveFrom 38 = .ok (.getfield 18, 3) := by decide +kernel
theorem dX9_moveFrom_4 : decode cX9_moveFrom 4 = .ok (.tableswitch 82 0 2 #[28, 46, 64], 28) := by decide +kernel
theorem dX9_moveFrom_41 : decode cX9_moveFrom 41 = .ok (.iload_n 3, 1) := by decide +kernel
theorem dX9_moveFrom_42 : decode cX9_moveFrom 42 = .ok (.iload 4, 2) := by decide +kernel
theorem dX9_moveFrom_44 : decode cX9_moveFrom 44 = .ok (.invokestatic 52, 3) := by decide +kernel
theorem dX9_moveFrom_47 : decode cX9_moveFrom 47 = .ok (.goto 54, 3) := by decide +kernel
theorem dX9_moveFrom_50 : decode cX9_moveFrom 50 = .ok (.aload_n 1, 1) := by decide +kernel
theorem dX9_moveFrom_51 : decode cX9_moveFrom 51 = .ok (.getfield 22, 3) := by decide +kernel
theorem dX9_moveFrom_54 : decode cX9_moveFrom 54 = .ok (.iload_n 2, 1) := by decide +kernel
theorem dX9_moveFrom_55 : decode cX9_moveFrom 55 = .ok (.aload_n 0, 1) := by decide +kernel
theorem dX9_moveFrom_56 : decode cX9_moveFrom 56 = .ok (.getfield 22, 3) := by decide +kernel
theorem dX9_moveFrom_59 : decode cX9_moveFrom 59 = .ok (.iload_n 3, 1) := by decide +kernel
theorem dX9_moveFrom_60 : decode cX9_moveFrom 60 = .ok (.iload 4, 2) := by decide +kernel
theorem dX9_moveFrom_62 : decode cX9_moveFrom 62 = .ok (.invokestatic 52, 3) := by decide +kernel
theorem dX9_moveFrom_65 : decode cX9_moveFrom 65 = .ok (.goto 36, 3) := by decide +kernel
theorem dX9_moveFrom_68 : decode cX9_moveFrom 68 = .ok (.aload_n 1, 1) := by decide +kernel
theorem dX9_moveFrom_69 : decode cX9_moveFrom 69 = .ok (.getfield 26, 3) := by decide +kernel
theorem dX9_moveFrom_72 : decode cX9_moveFrom 72 = .ok (.iload_n 2, 1) := by decide +kernel
theorem dX9_moveFrom_73 : decode cX9_moveFrom 73 = .ok (.aload_n 0, 1) := by decide +kernel
theorem dX9_moveFrom_74 : decode cX9_moveFrom 74 = .ok (.getfield 26, 3) := by decide +kernel
theorem dX9_moveFrom_77 : decode cX9_moveFrom 77 = .ok (.iload_n 3, 1) := by decide +kernel
theorem dX9_moveFrom_78 : decode cX9_moveFrom 78 = .ok (.iload 4, 2) := by decide +kernel
theorem dX9_moveFrom_80 : decode cX9_moveFrom 80 = .ok (.invokestatic 52, 3) := by decide +kernel
theorem dX9_moveFrom_83 : decode cX9_moveFrom 83 = .ok (.goto 18, 3) := by decide +kernel
theorem dX9_moveFrom_86 : decode cX9_moveFrom 86 = .ok (.aload_n 1, 1) := by decide +kernel
theorem dX9_moveFrom_87 : decode cX9_moveFrom 87 = .ok (.getfield 30, 3) := by decide +kernel
theorem dX9_moveFrom_90 : decode cX9_moveFrom 90 = .ok (.iload_n 2, 1) := by decide +kernel
theorem dX9_moveFrom_91 : decode cX9_moveFrom 91 = .ok (.aload_n 0, 1) := by decide +kernel
theorem dX9_moveFrom_92 : decode cX9_moveFrom 92 = .ok (.getfield 30, 3) := by decide +kernel
theorem dX9_moveFrom_95 : decode cX9_moveFrom 95 = .ok (.iload_n 3, 1) := by decide +kernel
theorem dX9_moveFrom_96 : decode cX9_moveFrom 96 = .ok (.iload 4, 2) := by decide +kernel
theorem dX9_moveFrom_98 : decode cX9_moveFrom 98 = .ok (.invokestatic 52, 3) := by decide +kernel
set_option maxRecDepth 20000 in
theorem in_X9_moveFrom_X9 : ∀ w ∈ wsX90, w ∈ wsX9_moveFrom := sub_r [10, 11, 12, 13, 14, 15] rfl
set_option maxHeartbeats 4000000 in
set_option maxRecDepth 100000 in
theorem c_X9_moveFrom (l : Launch) (D : va_G) (T : Nat → ClassId) (sz : Nat) (h0 : Nat) (so : Int32) (sn : Int32) (s0 : Nat) (s1 : Nat) (s2 : Nat) (s3 : Nat) (f0 : Nat → Int32) (f1 : Nat → Int64) (f2 : Nat → UInt32) (f3 : Nat → UInt64) (o1 : Nat) (so2 : Int32) (sn2 : Int32) (q0 : Nat) (q1 : Nat) (q2 : Nat) (q3 : Nat) (g0 : Nat → Int32) (g1 : Nat → Int64) (g2 : Nat → UInt32) (g3 : Nat → UInt64) (x2 : Int32) (x3 : Int32) (x4 : Int32) (hi9 : 0 ≤ x2.toInt ∧ 0 ≤ x3.toInt ∧ 0 ≤ x4.toInt) (hj9 : x2.toInt + x4.toInt ≤ 30 ∧ x3.toInt + x4.toInt ≤ 30) : Met l yX9_moveFrom wsX9_moveFrom ({ frames := 1, cells := 0, slots := 0, locals := 80 }) (pW [.ref h0, .ref o1, .int x2, .int x3, .int x4] D T [(h0, .inr (6, [.int so, .int sn, .ref s0, .ref s1, .ref s2, .ref s3])), (s0, .inl (T 0, 30, .inl f0)), (s1, .inl (T 1, 30, .inr (.inl f1))), (s2, .inl (T 2, 30, .inr (.inr (.inl f2)))), (s3, .inl (T 3, 30, .inr (.inr (.inr (.inl f3))))), (o1, .inr (6, [.int so2, .int sn2, .ref q0, .ref q1, .ref q2, .ref q3])), (q0, .inl (T 0, 30, .inl g0)), (q1, .inl (T 1, 30, .inr (.inl g1))), (q2, .inl (T 2, 30, .inr (.inr (.inl g2)))), (q3, .inl (T 3, 30, .inr (.inr (.inr (.inl g3)))))] sz) (va_Qv (fun (u : (Nat → Int32) × (Nat → Int64) × (Nat → UInt32) × (Nat → UInt64)) => True) (bW D (va_A [(h0, .inr (6, [.int so, .int sn, .ref s0, .ref s1, .ref s2, .ref s3])), (s0, .inl (T 0, 30, .inl f0)), (s1, .inl (T 1, 30, .inr (.inl f1))), (s2, .inl (T 2, 30, .inr (.inr (.inl f2)))), (s3, .inl (T 3, 30, .inr (.inr (.inr (.inl f3))))), (o1, .inr (6, [.int so2, .int sn2, .ref q0, .ref q1, .ref q2, .ref q3])), (q0, .inl (T 0, 30, .inl g0)), (q1, .inl (T 1, 30, .inr (.inl g1))), (q2, .inl (T 2, 30, .inr (.inr (.inl g2)))), (q3, .inl (T 3, 30, .inr (.inr (.inr (.inl g3)))))] sz) (fun (u : (Nat → Int32) × (Nat → Int64) × (Nat → UInt32) × (Nat → UInt64)) => [(h0, .inr (6, [.int so, .int sn, .ref s0, .ref s1, .ref s2, .ref s3])), (s0, .inl (T 0, 30, .inl u.1)), (s1, .inl (T 1, 30, .inr (.inl u.2.1))), (s2, .inl (T 2, 30, .inr (.inr (.inl u.2.2.1)))), (s3, .inl (T 3, 30, .inr (.inr (.inr (.inl u.2.2.2))))), (o1, .inr (6, [.int so2, .int sn2, .ref q0, .ref q1, .ref q2, .ref q3])), (q0, .inl (T 0, 30, .inl g0)), (q1, .inl (T 1, 30, .inr (.inl g1))), (q2, .inl (T 2, 30, .inr (.inr (.inl g2)))), (q3, .inl (T 3, 30, .inr (.inr (.inr (.inl g3)))))])) (va_A [(h0, .inr (6, [.int so, .int sn, .ref s0, .ref s1, .ref s2, .ref s3])), (s0, .inl (T 0, 30, .inl f0)), (s1, .inl (T 1, 30, .inr (.inl f1))), (s2, .inl (T 2, 30, .inr (.inr (.inl f2)))), (s3, .inl (T 3, 30, .inr (.inr (.inr (.inl f3))))), (o1, .inr (6, [.int so2, .int sn2, .ref q0, .ref q1, .ref q2, .ref q3])), (q0, .inl (T 0, 30, .inl g0)), (q1, .inl (T 1, 30, .inr (.inl g1))), (q2, .inl (T 2, 30, .inr (.inr (.inl g2)))), (q3, .inl (T 3, 30, .inr (.inr (.inr (.inl g3)))))] sz)) 0 0 (va_A [(h0, .inr (6, [.int so, .int sn, .ref s0, .ref s1, .ref s2, .ref s3])), (s0, .inl (T 0, 30, .inl f0)), (s1, .inl (T 1, 30, .inr (.inl f1))), (s2, .inl (T 2, 30, .inr (.inr (.inl f2)))), (s3, .inl (T 3, 30, .inr (.inr (.inr (.inl f3))))), (o1, .inr (6, [.int so2, .int sn2, .ref q0, .ref q1, .ref q2, .ref q3])), (q0, .inl (T 0, 30, .inl g0)), (q1, .inl (T 1, 30, .inr (.inl g1))), (q2, .inl (T 2, 30, .inr (.inr (.inl g2)))), (q3, .inl (T 3, 30, .inr (.inr (.inr (.inl g3)))))] sz) := by
  refine Met.ofW (cc := cX9_moveFrom) (maxL := 5) (ret := none) (by decide +kernel) rfl ?_
  intro p e s m args below meth c s₁ B hml hv
  obtain ⟨rfl, hsz, hP, hE, hD0⟩ := hv
  have hx := B.exec
  have hb := B.bytes
  have hr := B.returns
  have hts := atoms_spec (ws := wsX9_moveFrom) B.pre
  have hown : s.vm.findClass RX9 = some m.cls := findClass_of_methodNamed B.named
  have hlocks := B.notSynchronized
  subst hsz
  have hD := hD0.self (sz := s.heap.size)
  generalize hAe : va_A [(h0, .inr (6, [.int so, .int sn, .ref s0, .ref s1, .ref s2, .ref s3])), (s0, .inl (T 0, 30, .inl f0)), (s1, .inl (T 1, 30, .inr (.inl f1))), (s2, .inl (T 2, 30, .inr (.inr (.inl f2)))), (s3, .inl (T 3, 30, .inr (.inr (.inr (.inl f3))))), (o1, .inr (6, [.int so2, .int sn2, .ref q0, .ref q1, .ref q2, .ref q3])), (q0, .inl (T 0, 30, .inl g0)), (q1, .inl (T 1, 30, .inr (.inl g1))), (q2, .inl (T 2, 30, .inr (.inr (.inl g2)))), (q3, .inl (T 3, 30, .inr (.inr (.inr (.inl g3)))))] s.heap.size = A at hD ⊢
  have hA : ∀ q : Nat, s.heap.size ≤ q → A q := fun q h => by rw [← hAe]; exact Or.inr h
  have hS : va_S A s.heap s.heap [] := va_S.rf
  have hP : va_P D vwCl [(h0, .inr (6, [.int so, .int sn, .ref s0, .ref s1, .ref s2, .ref s3])), (s0, .inl (T 0, 30, .inl f0)), (s1, .inl (T 1, 30, .inr (.inl f1))), (s2, .inl (T 2, 30, .inr (.inr (.inl f2)))), (s3, .inl (T 3, 30, .inr (.inr (.inr (.inl f3))))), (o1, .inr (6, [.int so2, .int sn2, .ref q0, .ref q1, .ref q2, .ref q3])), (q0, .inl (T 0, 30, .inl g0)), (q1, .inl (T 1, 30, .inr (.inl g1))), (q2, .inl (T 2, 30, .inr (.inr (.inl g2)))), (q3, .inl (T 3, 30, .inr (.inr (.inr (.inl g3)))))] s.heap := hP
  have hl := lv_entry ([.ref h0, .ref o1, .int x2, .int x3, .int x4]) (n := 5) (Nat.le_of_ble_eq_true rfl)
  rw [lg_entry_eq]
  generalize (lg_sl ([.ref h0, .ref o1, .int x2, .int x3, .int x4]) ++ List.replicate (5 - (lg_sl ([.ref h0, .ref o1, .int x2, .int x3, .int x4])).length) Slot.unset).toArray = ls at hl ⊢
  have hl : lv_has ls 5 [(0, .ref h0), (1, .ref o1), (2, .int x2), (3, .int x3), (4, .int x4)] := hl
  clear hD0
  refine lv_aload_n hx hb dX9_moveFrom_0 rfl (lv_at hl 0 rfl) ?_
  refine va_get (D := D) (ci := 6) (v := .int so) (C := RX9) (T := TX9) (N := 6) hx hb hts in_X9_moveFrom_X9 hown hE.1 hP 0 rfl rfl 0 (by decide +kernel) (hts (.fieldLink RX9 9 "ClauseBook$Sheet" "sort" "I") (List.mem_of_getElem? (i := 1) rfl)) (fun _ h9 => h9) rfl dX9_moveFrom_1 ?_
  by_cases k_1 : so = 0
  · obtain rfl := k_1
    refine lv_tableIn (off := 28) (tgt := 32) hx hb dX9_moveFrom_4 (by decide +kernel) (by decide +kernel) (by decide +kernel) (by decide +kernel) ?_
    refine lv_aload_n hx hb dX9_moveFrom_32 rfl (lv_at hl 1 rfl) ?_
    refine va_get (D := D) (ci := 6) (v := .ref q0) (C := RX9) (T := TX9) (N := 6) hx hb hts in_X9_moveFrom_X9 hown hE.1 hP 5 rfl rfl 2 (by decide +kernel) (hts (.fieldLink RX9 18 "ClauseBook$Sheet" "ints" "[I") (List.mem_of_getElem? (i := 2) rfl)) (fun _ h9 => h9) rfl dX9_moveFrom_33 ?_
    refine lv_iload_n hx hb dX9_moveFrom_36 rfl (lv_at hl 2 rfl) ?_
    refine lv_aload_n hx hb dX9_moveFrom_37 rfl (lv_at hl 0 rfl) ?_
    refine va_get (D := D) (ci := 6) (v := .ref s0) (C := RX9) (T := TX9) (N := 6) hx hb hts in_X9_moveFrom_X9 hown hE.1 hP 0 rfl rfl 2 (by decide +kernel) (hts (.fieldLink RX9 18 "ClauseBook$Sheet" "ints" "[I") (List.mem_of_getElem? (i := 2) rfl)) (fun _ h9 => h9) rfl dX9_moveFrom_38 ?_
    refine lv_iload_n hx hb dX9_moveFrom_41 rfl (lv_at hl 3 rfl) ?_
    refine lv_iload hx hb dX9_moveFrom_42 (lv_at hl 4 rfl) ?_
    refine va_copyi (ty := .int) hx hb (hml.trans hl.1.symm) hown (hts (.methodLink RX9 52 arraycopyName) (List.mem_of_getElem? (i := 3) rfl)) (hts (.native arraycopyName) (List.mem_of_getElem? (i := 4) rfl)) (hts (.static arraycopyName) (List.mem_of_getElem? (i := 5) rfl)) (hts (.initialized "java/lang/System") (List.mem_of_getElem? (i := 6) rfl)) hE.1 hP hD hS 6 1 0 0 rfl rfl rfl rfl rfl (by rw [fa_lt, ti_0]; omega) (by rw [fa_lt, ti_0]; omega) (by rw [fa_lt, ti_0]; omega) (cp_le (by omega) (by omega) (by omega)) (cp_le (by omega) (by omega) (by omega)) (fun _ _ => rfl) (Nat.le_of_ble_eq_true rfl) (Nat.le_of_ble_eq_true rfl) dX9_moveFrom_44 (fun H locs hP hD hS => ?_)
    obtain ⟨hP, hD⟩ := wPD [(h0, .inr (6, [.int 0, .int sn, .ref s0, .ref s1, .ref s2, .ref s3])), (s0, .inl (T 0, 30, .inl (va_cpy g0 f0 x2.toNatClampNeg x3.toNatClampNeg x4.toNatClampNeg))), (s1, .inl (T 1, 30, .inr (.inl f1))), (s2, .inl (T 2, 30, .inr (.inr (.inl f2)))), (s3, .inl (T 3, 30, .inr (.inr (.inr (.inl f3))))), (o1, .inr (6, [.int so2, .int sn2, .ref q0, .ref q1, .ref q2, .ref q3])), (q0, .inl (T 0, 30, .inl g0)), (q1, .inl (T 1, 30, .inr (.inl g1))), (q2, .inl (T 2, 30, .inr (.inr (.inl g2)))), (q3, .inl (T 3, 30, .inr (.inr (.inr (.inl g3)))))] hP hD rfl
    refine lv_goto (tgt := 101) hx hb dX9_moveFrom_47 (by decide +kernel) ?_
    exact W.vret hx hb hr (fun t ht hW => ⟨⟨((va_cpy g0 f0 x2.toNatClampNeg x3.toNatClampNeg x4.toNatClampNeg), f1, f2, f3), rfl, trivial, by rw [ht]; exact hP.sub [0, 1, 2, 3, 4, 5, 6, 7, 8, 9] rfl, hD.sub [0, 1, 2, 3, 4, 5, 6, 7, 8, 9] (by decide +kernel) rfl⟩, hS.F ht⟩) hS.2.2 dX9_moveFrom_101
  by_cases k_2 : so = 1
  · obtain rfl := k_2
    refine lv_tableIn (off := 46) (tgt := 50) hx hb dX9_moveFrom_4 (by decide +kernel) (by decide +kernel) (by decide +kernel) (by decide +kernel) ?_
    refine lv_aload_n hx hb dX9_moveFrom_50 rfl (lv_at hl 1 rfl) ?_
    refine va_get (D := D) (ci := 6) (v := .ref q1) (C := RX9) (T := TX9) (N := 6) hx hb hts in_X9_moveFrom_X9 hown hE.1 hP 5 rfl rfl 3 (by decide +kernel) (hts (.fieldLink RX9 22 "ClauseBook$Sheet" "longs" "[J") (List.mem_of_getElem? (i := 7) rfl)) (fun _ h9 => h9) rfl dX9_moveFrom_51 ?_
    refine lv_iload_n hx hb dX9_moveFrom_54 rfl (lv_at hl 2 rfl) ?_
    refine lv_aload_n hx hb dX9_moveFrom_55 rfl (lv_at hl 0 rfl) ?_
    refine va_get (D := D) (ci := 6) (v := .ref s1) (C := RX9) (T := TX9) (N := 6) hx hb hts in_X9_moveFrom_X9 hown hE.1 hP 0 rfl rfl 3 (by decide +kernel) (hts (.fieldLink RX9 22 "ClauseBook$Sheet" "longs" "[J") (List.mem_of_getElem? (i := 7) rfl)) (fun _ h9 => h9) rfl dX9_moveFrom_56 ?_
    refine lv_iload_n hx hb dX9_moveFrom_59 rfl (lv_at hl 3 rfl) ?_
    refine lv_iload hx hb dX9_moveFrom_60 (lv_at hl 4 rfl) ?_
    refine va_copyl (ty := .long) hx hb (hml.trans hl.1.symm) hown (hts (.methodLink RX9 52 arraycopyName) (List.mem_of_getElem? (i := 3) rfl)) (hts (.native arraycopyName) (List.mem_of_getElem? (i := 4) rfl)) (hts (.static arraycopyName) (List.mem_of_getElem? (i := 5) rfl)) (hts (.initialized "java/lang/System") (List.mem_of_getElem? (i := 6) rfl)) hE.1 hP hD hS 7 2 1 1 rfl rfl rfl rfl rfl (by rw [fa_lt, ti_0]; omega) (by rw [fa_lt, ti_0]; omega) (by rw [fa_lt, ti_0]; omega) (cp_le (by omega) (by omega) (by omega)) (cp_le (by omega) (by omega) (by omega)) (fun _ _ => rfl) (Nat.le_of_ble_eq_true rfl) (Nat.le_of_ble_eq_true rfl) dX9_moveFrom_62 (fun H locs hP hD hS => ?_)
    obtain ⟨hP, hD⟩ := wPD [(h0, .inr (6, [.int 1, .int sn, .ref s0, .ref s1, .ref s2, .ref s3])), (s0, .inl (T 0, 30, .inl f0)), (s1, .inl (T 1, 30, .inr (.inl (va_cpy g1 f1 x2.toNatClampNeg x3.toNatClampNeg x4.toNatClampNeg)))), (s2, .inl (T 2, 30, .inr (.inr (.inl f2)))), (s3, .inl (T 3, 30, .inr (.inr (.inr (.inl f3))))), (o1, .inr (6, [.int so2, .int sn2, .ref q0, .ref q1, .ref q2, .ref q3])), (q0, .inl (T 0, 30, .inl g0)), (q1, .inl (T 1, 30, .inr (.inl g1))), (q2, .inl (T 2, 30, .inr (.inr (.inl g2)))), (q3, .inl (T 3, 30, .inr (.inr (.inr (.inl g3)))))] hP hD rfl
    refine lv_goto (tgt := 101) hx hb dX9_moveFrom_65 (by decide +kernel) ?_
    exact W.vret hx hb hr (fun t ht hW => ⟨⟨(f0, (va_cpy g1 f1 x2.toNatClampNeg x3.toNatClampNeg x4.toNatClampNeg), f2, f3), rfl, trivial, by rw [ht]; exact hP.sub [0, 1, 2, 3, 4, 5, 6, 7, 8, 9] rfl, hD.sub [0, 1, 2, 3, 4, 5, 6, 7, 8, 9] (by decide +kernel) rfl⟩, hS.F ht⟩) hS.2.2 dX9_moveFrom_101
  by_cases k_3 : so = 2
  · obtain rfl := k_3
    refine lv_tableIn (off := 64) (tgt := 68) hx hb dX9_moveFrom_4 (by decide +kernel) (by decide +kernel) (by decide +kernel) (by decide +kernel) ?_
    refine lv_aload_n hx hb dX9_moveFrom_68 rfl (lv_at hl 1 rfl) ?_
    refine va_get (D := D) (ci := 6) (v := .ref q2) (C := RX9) (T := TX9) (N := 6) hx hb hts in_X9_moveFrom_X9 hown hE.1 hP 5 rfl rfl 4 (by decide +kernel) (hts (.fieldLink RX9 26 "ClauseBook$Sheet" "floats" "[F") (List.mem_of_getElem? (i := 8) rfl)) (fun _ h9 => h9) rfl dX9_moveFrom_69 ?_
    refine lv_iload_n hx hb dX9_moveFrom_72 rfl (lv_at hl 2 rfl) ?_
    refine lv_aload_n hx hb dX9_moveFrom_73 rfl (lv_at hl 0 rfl) ?_
    refine va_get (D := D) (ci := 6) (v := .ref s2) (C := RX9) (T := TX9) (N := 6) hx hb hts in_X9_moveFrom_X9 hown hE.1 hP 0 rfl rfl 4 (by decide +kernel) (hts (.fieldLink RX9 26 "ClauseBook$Sheet" "floats" "[F") (List.mem_of_getElem? (i := 8) rfl)) (fun _ h9 => h9) rfl dX9_moveFrom_74 ?_
    refine lv_iload_n hx hb dX9_moveFrom_77 rfl (lv_at hl 3 rfl) ?_
    refine lv_iload hx hb dX9_moveFrom_78 (lv_at hl 4 rfl) ?_
    refine va_copyf (ty := .float) hx hb (hml.trans hl.1.symm) hown (hts (.methodLink RX9 52 arraycopyName) (List.mem_of_getElem? (i := 3) rfl)) (hts (.native arraycopyName) (List.mem_of_getElem? (i := 4) rfl)) (hts (.static arraycopyName) (List.mem_of_getElem? (i := 5) rfl)) (hts (.initialized "java/lang/System") (List.mem_of_getElem? (i := 6) rfl)) hE.1 hP hD hS 8 3 2 2 rfl rfl rfl rfl rfl (by rw [fa_lt, ti_0]; omega) (by rw [fa_lt, ti_0]; omega) (by rw [fa_lt, ti_0]; omega) (cp_le (by omega) (by omega) (by omega)) (cp_le (by omega) (by omega) (by omega)) (fun _ _ => rfl) (Nat.le_of_ble_eq_true rfl) (Nat.le_of_ble_eq_true rfl) dX9_moveFrom_80 (fun H locs hP hD hS => ?_)
    obtain ⟨hP, hD⟩ := wPD [(h0, .inr (6, [.int 2, .int sn, .ref s0, .ref s1, .ref s2, .ref s3])), (s0, .inl (T 0, 30, .inl f0)), (s1, .inl (T 1, 30, .inr (.inl f1))), (s2, .inl (T 2, 30, .inr (.inr (.inl (va_cpy g2 f2 x2.toNatClampNeg x3.toNatClampNeg x4.toNatClampNeg))))), (s3, .inl (T 3, 30, .inr (.inr (.inr (.inl f3))))), (o1, .inr (6, [.int so2, .int sn2, .ref q0, .ref q1, .ref q2, .ref q3])), (q0, .inl (T 0, 30, .inl g0)), (q1, .inl (T 1, 30, .inr (.inl g1))), (q2, .inl (T 2, 30, .inr (.inr (.inl g2)))), (q3, .inl (T 3, 30, .inr (.inr (.inr (.inl g3)))))] hP hD rfl
    refine lv_goto (tgt := 101) hx hb dX9_moveFrom_83 (by decide +kernel) ?_
    exact W.vret hx hb hr (fun t ht hW => ⟨⟨(f0, f1, (va_cpy g2 f2 x2.toNatClampNeg x3.toNatClampNeg x4.toNatClampNeg), f3), rfl, trivial, by rw [ht]; exact hP.sub [0, 1, 2, 3, 4, 5, 6, 7, 8, 9] rfl, hD.sub [0, 1, 2, 3, 4, 5, 6, 7, 8, 9] (by decide +kernel) rfl⟩, hS.F ht⟩) hS.2.2 dX9_moveFrom_101
  rw [fa_eq] at k_1 k_2 k_3
  try simp only [ti_0, ti_1, ti_2] at k_1 k_2 k_3
  refine lv_tableOut (tgt := 86) hx hb dX9_moveFrom_4 (by omega) (by decide +kernel) ?_
  refine lv_aload_n hx hb dX9_moveFrom_86 rfl (lv_at hl 1 rfl) ?_
  refine va_get (D := D) (ci := 6) (v := .ref q3) (C := RX9) (T := TX9) (N := 6) hx hb hts in_X9_moveFrom_X9 hown hE.1 hP 5 rfl rfl 5 (by decide +kernel) (hts (.fieldLink RX9 30 "ClauseBook$Sheet" "doubles" "[D") (List.mem_of_getElem? (i := 9) rfl)) (fun _ h9 => h9) rfl dX9_moveFrom_87 ?_
  refine lv_iload_n hx hb dX9_moveFrom_90 rfl (lv_at hl 2 rfl) ?_
  refine lv_aload_n hx hb dX9_moveFrom_91 rfl (lv_at hl 0 rfl) ?_
  refine va_get (D := D) (ci := 6) (v := .ref s3) (C := RX9) (T := TX9) (N := 6) hx hb hts in_X9_moveFrom_X9 hown hE.1 hP 0 rfl rfl 5 (by decide +kernel) (hts (.fieldLink RX9 30 "ClauseBook$Sheet" "doubles" "[D") (List.mem_of_getElem? (i := 9) rfl)) (fun _ h9 => h9) rfl dX9_moveFrom_92 ?_
  refine lv_iload_n hx hb dX9_moveFrom_95 rfl (lv_at hl 3 rfl) ?_
  refine lv_iload hx hb dX9_moveFrom_96 (lv_at hl 4 rfl) ?_
  refine va_copyd (ty := .double) hx hb (hml.trans hl.1.symm) hown (hts (.methodLink RX9 52 arraycopyName) (List.mem_of_getElem? (i := 3) rfl)) (hts (.native arraycopyName) (List.mem_of_getElem? (i := 4) rfl)) (hts (.static arraycopyName) (List.mem_of_getElem? (i := 5) rfl)) (hts (.initialized "java/lang/System") (List.mem_of_getElem? (i := 6) rfl)) hE.1 hP hD hS 9 4 3 3 rfl rfl rfl rfl rfl (by rw [fa_lt, ti_0]; omega) (by rw [fa_lt, ti_0]; omega) (by rw [fa_lt, ti_0]; omega) (cp_le (by omega) (by omega) (by omega)) (cp_le (by omega) (by omega) (by omega)) (fun _ _ => rfl) (Nat.le_of_ble_eq_true rfl) (Nat.le_of_ble_eq_true rfl) dX9_moveFrom_98 (fun H locs hP hD hS => ?_)
  obtain ⟨hP, hD⟩ := wPD [(h0, .inr (6, [.int so, .int sn, .ref s0, .ref s1, .ref s2, .ref s3])), (s0, .inl (T 0, 30, .inl f0)), (s1, .inl (T 1, 30, .inr (.inl f1))), (s2, .inl (T 2, 30, .inr (.inr (.inl f2)))), (s3, .inl (T 3, 30, .inr (.inr (.inr (.inl (va_cpy g3 f3 x2.toNatClampNeg x3.toNatClampNeg x4.toNatClampNeg)))))), (o1, .inr (6, [.int so2, .int sn2, .ref q0, .ref q1, .ref q2, .ref q3])), (q0, .inl (T 0, 30, .inl g0)), (q1, .inl (T 1, 30, .inr (.inl g1))), (q2, .inl (T 2, 30, .inr (.inr (.inl g2)))), (q3, .inl (T 3, 30, .inr (.inr (.inr (.inl g3)))))] hP hD rfl
  exact W.vret hx hb hr (fun t ht hW => ⟨⟨(f0, f1, f2, (va_cpy g3 f3 x2.toNatClampNeg x3.toNatClampNeg x4.toNatClampNeg)), rfl, trivial, by rw [ht]; exact hP.sub [0, 1, 2, 3, 4, 5, 6, 7, 8, 9] rfl, hD.sub [0, 1, 2, 3, 4, 5, 6, 7, 8, 9] (by decide +kernel) rfl⟩, hS.F ht⟩) hS.2.2 dX9_moveFrom_101
set_option maxHeartbeats 4000000 in
set_option maxRecDepth 100000 in
theorem c_X9_moveFrom_same (l : Launch) (D : va_G) (T : Nat → ClassId) (sz : Nat) (h0 : Nat) (so : Int32) (sn : Int32) (s0 : Nat) (s1 : Nat) (s2 : Nat) (s3 : Nat) (f0 : Nat → Int32) (f1 : Nat → Int64) (f2 : Nat → UInt32) (f3 : Nat → UInt64) (x2 : Int32) (x3 : Int32) (x4 : Int32) (hi9 : 0 ≤ x2.toInt ∧ 0 ≤ x3.toInt ∧ 0 ≤ x4.toInt) (hj9 : x2.toInt + x4.toInt ≤ 30 ∧ x3.toInt + x4.toInt ≤ 30) : Met l yX9_moveFrom wsX9_moveFrom ({ frames := 1, cells := 0, slots := 0, locals := 80 }) (pW [.ref h0, .ref h0, .int x2, .int x3, .int x4] D T [(h0, .inr (6, [.int so, .int sn, .ref s0, .ref s1, .ref s2, .ref s3])), (s0, .inl (T 0, 30, .inl f0)), (s1, .inl (T 1, 30, .inr (.inl f1))), (s2, .inl (T 2, 30, .inr (.inr (.inl f2)))), (s3, .inl (T 3, 30, .inr (.inr (.inr (.inl f3)))))] sz) (va_Qv (fun (u : (Nat → Int32) × (Nat → Int64) × (Nat → UInt32) × (Nat → UInt64)) => True) (bW D (va_A [(h0, .inr (6, [.int so, .int sn, .ref s0, .ref s1, .ref s2, .ref s3])), (s0, .inl (T 0, 30, .inl f0)), (s1, .inl (T 1, 30, .inr (.inl f1))), (s2, .inl (T 2, 30, .inr (.inr (.inl f2)))), (s3, .inl (T 3, 30, .inr (.inr (.inr (.inl f3)))))] sz) (fun (u : (Nat → Int32) × (Nat → Int64) × (Nat → UInt32) × (Nat → UInt64)) => [(h0, .inr (6, [.int so, .int sn, .ref s0, .ref s1, .ref s2, .ref s3])), (s0, .inl (T 0, 30, .inl u.1)), (s1, .inl (T 1, 30, .inr (.inl u.2.1))), (s2, .inl (T 2, 30, .inr (.inr (.inl u.2.2.1)))), (s3, .inl (T 3, 30, .inr (.inr (.inr (.inl u.2.2.2)))))])) (va_A [(h0, .inr (6, [.int so, .int sn, .ref s0, .ref s1, .ref s2, .ref s3])), (s0, .inl (T 0, 30, .inl f0)), (s1, .inl (T 1, 30, .inr (.inl f1))), (s2, .inl (T 2, 30, .inr (.inr (.inl f2)))), (s3, .inl (T 3, 30, .inr (.inr (.inr (.inl f3)))))] sz)) 0 0 (va_A [(h0, .inr (6, [.int so, .int sn, .ref s0, .ref s1, .ref s2, .ref s3])), (s0, .inl (T 0, 30, .inl f0)), (s1, .inl (T 1, 30, .inr (.inl f1))), (s2, .inl (T 2, 30, .inr (.inr (.inl f2)))), (s3, .inl (T 3, 30, .inr (.inr (.inr (.inl f3)))))] sz) := by
  refine Met.ofW (cc := cX9_moveFrom) (maxL := 5) (ret := none) (by decide +kernel) rfl ?_
  intro p e s m args below meth c s₁ B hml hv
  obtain ⟨rfl, hsz, hP, hE, hD0⟩ := hv
  have hx := B.exec
  have hb := B.bytes
  have hr := B.returns
  have hts := atoms_spec (ws := wsX9_moveFrom) B.pre
  have hown : s.vm.findClass RX9 = some m.cls := findClass_of_methodNamed B.named
  have hlocks := B.notSynchronized
  subst hsz
  have hD := hD0.self (sz := s.heap.size)
  generalize hAe : va_A [(h0, .inr (6, [.int so, .int sn, .ref s0, .ref s1, .ref s2, .ref s3])), (s0, .inl (T 0, 30, .inl f0)), (s1, .inl (T 1, 30, .inr (.inl f1))), (s2, .inl (T 2, 30, .inr (.inr (.inl f2)))), (s3, .inl (T 3, 30, .inr (.inr (.inr (.inl f3)))))] s.heap.size = A at hD ⊢
  have hA : ∀ q : Nat, s.heap.size ≤ q → A q := fun q h => by rw [← hAe]; exact Or.inr h
  have hS : va_S A s.heap s.heap [] := va_S.rf
  have hP : va_P D vwCl [(h0, .inr (6, [.int so, .int sn, .ref s0, .ref s1, .ref s2, .ref s3])), (s0, .inl (T 0, 30, .inl f0)), (s1, .inl (T 1, 30, .inr (.inl f1))), (s2, .inl (T 2, 30, .inr (.inr (.inl f2)))), (s3, .inl (T 3, 30, .inr (.inr (.inr (.inl f3)))))] s.heap := hP
  have hl := lv_entry ([.ref h0, .ref h0, .int x2, .int x3, .int x4]) (n := 5) (Nat.le_of_ble_eq_true rfl)
  rw [lg_entry_eq]
  generalize (lg_sl ([.ref h0, .ref h0, .int x2, .int x3, .int x4]) ++ List.replicate (5 - (lg_sl ([.ref h0, .ref h0, .int x2, .int x3, .int x4])).length) Slot.unset).toArray = ls at hl ⊢
  have hl : lv_has ls 5 [(0, .ref h0), (1, .ref h0), (2, .int x2), (3, .int x3), (4, .int x4)] := hl
  clear hD0
  refine lv_aload_n hx hb dX9_moveFrom_0 rfl (lv_at hl 0 rfl) ?_
  refine va_get (D := D) (ci := 6) (v := .int so) (C := RX9) (T := TX9) (N := 6) hx hb hts in_X9_moveFrom_X9 hown hE.1 hP 0 rfl rfl 0 (by decide +kernel) (hts (.fieldLink RX9 9 "ClauseBook$Sheet" "sort" "I") (List.mem_of_getElem? (i := 1) rfl)) (fun _ h9 => h9) rfl dX9_moveFrom_1 ?_
  by_cases k_1 : so = 0
  · obtain rfl := k_1
    refine lv_tableIn (off := 28) (tgt := 32) hx hb dX9_moveFrom_4 (by decide +kernel) (by decide +kernel) (by decide +kernel) (by decide +kernel) ?_
    refine lv_aload_n hx hb dX9_moveFrom_32 rfl (lv_at hl 1 rfl) ?_
    refine va_get (D := D) (ci := 6) (v := .ref s0) (C := RX9) (T := TX9) (N := 6) hx hb hts in_X9_moveFrom_X9 hown hE.1 hP 0 rfl rfl 2 (by decide +kernel) (hts (.fieldLink RX9 18 "ClauseBook$Sheet" "ints" "[I") (List.mem_of_getElem? (i := 2) rfl)) (fun _ h9 => h9) rfl dX9_moveFrom_33 ?_
    refine lv_iload_n hx hb dX9_moveFrom_36 rfl (lv_at hl 2 rfl) ?_
    refine lv_aload_n hx hb dX9_moveFrom_37 rfl (lv_at hl 0 rfl) ?_
    refine va_get (D := D) (ci := 6) (v := .ref s0) (C := RX9) (T := TX9) (N := 6) hx hb hts in_X9_moveFrom_X9 hown hE.1 hP 0 rfl rfl 2 (by decide +kernel) (hts (.fieldLink RX9 18 "ClauseBook$Sheet" "ints" "[I") (List.mem_of_getElem? (i := 2) rfl)) (fun _ h9 => h9) rfl dX9_moveFrom_38 ?_
    refine lv_iload_n hx hb dX9_moveFrom_41 rfl (lv_at hl 3 rfl) ?_
    refine lv_iload hx hb dX9_moveFrom_42 (lv_at hl 4 rfl) ?_
    refine va_copyi (ty := .int) hx hb (hml.trans hl.1.symm) hown (hts (.methodLink RX9 52 arraycopyName) (List.mem_of_getElem? (i := 3) rfl)) (hts (.native arraycopyName) (List.mem_of_getElem? (i := 4) rfl)) (hts (.static arraycopyName) (List.mem_of_getElem? (i := 5) rfl)) (hts (.initialized "java/lang/System") (List.mem_of_getElem? (i := 6) rfl)) hE.1 hP hD hS 1 1 0 0 rfl rfl rfl rfl rfl (by rw [fa_lt, ti_0]; omega) (by rw [fa_lt, ti_0]; omega) (by rw [fa_lt, ti_0]; omega) (cp_le (by omega) (by omega) (by omega)) (cp_le (by omega) (by omega) (by omega)) (fun _ _ => rfl) (Nat.le_of_ble_eq_true rfl) (Nat.le_of_ble_eq_true rfl) dX9_moveFrom_44 (fun H locs hP hD hS => ?_)
    obtain ⟨hP, hD⟩ := wPD [(h0, .inr (6, [.int 0, .int sn, .ref s0, .ref s1, .ref s2, .ref s3])), (s0, .inl (T 0, 30, .inl (va_cpy f0 f0 x2.toNatClampNeg x3.toNatClampNeg x4.toNatClampNeg))), (s1, .inl (T 1, 30, .inr (.inl f1))), (s2, .inl (T 2, 30, .inr (.inr (.inl f2)))), (s3, .inl (T 3, 30, .inr (.inr (.inr (.inl f3)))))] hP hD rfl
    refine lv_goto (tgt := 101) hx hb dX9_moveFrom_47 (by decide +kernel) ?_
    exact W.vret hx hb hr (fun t ht hW => ⟨⟨((va_cpy f0 f0 x2.toNatClampNeg x3.toNatClampNeg x4.toNatClampNeg), f1, f2, f3), rfl, trivial, by rw [ht]; exact hP.sub [0, 1, 2, 3, 4] rfl, hD.sub [0, 1, 2, 3, 4] (by decide +kernel) rfl⟩, hS.F ht⟩) hS.2.2 dX9_moveFrom_101
  by_cases k_2 : so = 1
  · obtain rfl := k_2
    refine lv_tableIn (off := 46) (tgt := 50) hx hb dX9_moveFrom_4 (by decide +kernel) (by decide +kernel) (by decide +kernel) (by decide +kernel) ?_
    refine lv_aload_n hx hb dX9_moveFrom_50 rfl (lv_at hl 1 rfl) ?_
    refine va_get (D := D) (ci := 6) (v := .ref s1) (C := RX9) (T := TX9) (N := 6) hx hb hts in_X9_moveFrom_X9 hown hE.1 hP 0 rfl rfl 3 (by decide +kernel) (hts (.fieldLink RX9 22 "ClauseBook$Sheet" "longs" "[J") (List.mem_of_getElem? (i := 7) rfl)) (fun _ h9 => h9) rfl dX9_moveFrom_51 ?_
    refine lv_iload_n hx hb dX9_moveFrom_54 rfl (lv_at hl 2 rfl) ?_
    refine lv_aload_n hx hb dX9_moveFrom_55 rfl (lv_at hl 0 rfl) ?_
    refine va_get (D := D) (ci := 6) (v := .ref s1) (C := RX9) (T := TX9) (N := 6) hx hb hts in_X9_moveFrom_X9 hown hE.1 hP 0 rfl rfl 3 (by decide +kernel) (hts (.fieldLink RX9 22 "ClauseBook$Sheet" "longs" "[J") (List.mem_of_getElem? (i := 7) rfl)) (fun _ h9 => h9) rfl dX9_moveFrom_56 ?_
    refine lv_iload_n hx hb dX9_moveFrom_59 rfl (lv_at hl 3 rfl) ?_
    refine lv_iload hx hb dX9_moveFrom_60 (lv_at hl 4 rfl) ?_
    refine va_copyl (ty := .long) hx hb (hml.trans hl.1.symm) hown (hts (.methodLink RX9 52 arraycopyName) (List.mem_of_getElem? (i := 3) rfl)) (hts (.native arraycopyName) (List.mem_of_getElem? (i := 4) rfl)) (hts (.static arraycopyName) (List.mem_of_getElem? (i := 5) rfl)) (hts (.initialized "java/lang/System") (List.mem_of_getElem? (i := 6) rfl)) hE.1 hP hD hS 2 2 1 1 rfl rfl rfl rfl rfl (by rw [fa_lt, ti_0]; omega) (by rw [fa_lt, ti_0]; omega) (by rw [fa_lt, ti_0]; omega) (cp_le (by omega) (by omega) (by omega)) (cp_le (by omega) (by omega) (by omega)) (fun _ _ => rfl) (Nat.le_of_ble_eq_true rfl) (Nat.le_of_ble_eq_true rfl) dX9_moveFrom_62 (fun H locs hP hD hS => ?_)
    obtain ⟨hP, hD⟩ := wPD [(h0, .inr (6, [.int 1, .int sn, .ref s0, .ref s1, .ref s2, .ref s3])), (s0, .inl (T 0, 30, .inl f0)), (s1, .inl (T 1, 30, .inr (.inl (va_cpy f1 f1 x2.toNatClampNeg x3.toNatClampNeg x4.toNatClampNeg)))), (s2, .inl (T 2, 30, .inr (.inr (.inl f2)))), (s3, .inl (T 3, 30, .inr (.inr (.inr (.inl f3)))))] hP hD rfl
    refine lv_goto (tgt := 101) hx hb dX9_moveFrom_65 (by decide +kernel) ?_
    exact W.vret hx hb hr (fun t ht hW => ⟨⟨(f0, (va_cpy f1 f1 x2.toNatClampNeg x3.toNatClampNeg x4.toNatClampNeg), f2, f3), rfl, trivial, by rw [ht]; exact hP.sub [0, 1, 2, 3, 4] rfl, hD.sub [0, 1, 2, 3, 4] (by decide +kernel) rfl⟩, hS.F ht⟩) hS.2.2 dX9_moveFrom_101
  by_cases k_3 : so = 2
  · obtain rfl := k_3
    refine lv_tableIn (off := 64) (tgt := 68) hx hb dX9_moveFrom_4 (by decide +kernel) (by decide +kernel) (by decide +kernel) (by decide +kernel) ?_
    refine lv_aload_n hx hb dX9_moveFrom_68 rfl (lv_at hl 1 rfl) ?_
    refine va_get (D := D) (ci := 6) (v := .ref s2) (C := RX9) (T := TX9) (N := 6) hx hb hts in_X9_moveFrom_X9 hown hE.1 hP 0 rfl rfl 4 (by decide +kernel) (hts (.fieldLink RX9 26 "ClauseBook$Sheet" "floats" "[F") (List.mem_of_getElem? (i := 8) rfl)) (fun _ h9 => h9) rfl dX9_moveFrom_69 ?_
    refine lv_iload_n hx hb dX9_moveFrom_72 rfl (lv_at hl 2 rfl) ?_
    refine lv_aload_n hx hb dX9_moveFrom_73 rfl (lv_at hl 0 rfl) ?_
    refine va_get (D := D) (ci := 6) (v := .ref s2) (C := RX9) (T := TX9) (N := 6) hx hb hts in_X9_moveFrom_X9 hown hE.1 hP 0 rfl rfl 4 (by decide +kernel) (hts (.fieldLink RX9 26 "ClauseBook$Sheet" "floats" "[F") (List.mem_of_getElem? (i := 8) rfl)) (fun _ h9 => h9) rfl dX9_moveFrom_74 ?_
    refine lv_iload_n hx hb dX9_moveFrom_77 rfl (lv_at hl 3 rfl) ?_
    refine lv_iload hx hb dX9_moveFrom_78 (lv_at hl 4 rfl) ?_
    refine va_copyf (ty := .float) hx hb (hml.trans hl.1.symm) hown (hts (.methodLink RX9 52 arraycopyName) (List.mem_of_getElem? (i := 3) rfl)) (hts (.native arraycopyName) (List.mem_of_getElem? (i := 4) rfl)) (hts (.static arraycopyName) (List.mem_of_getElem? (i := 5) rfl)) (hts (.initialized "java/lang/System") (List.mem_of_getElem? (i := 6) rfl)) hE.1 hP hD hS 3 3 2 2 rfl rfl rfl rfl rfl (by rw [fa_lt, ti_0]; omega) (by rw [fa_lt, ti_0]; omega) (by rw [fa_lt, ti_0]; omega) (cp_le (by omega) (by omega) (by omega)) (cp_le (by omega) (by omega) (by omega)) (fun _ _ => rfl) (Nat.le_of_ble_eq_true rfl) (Nat.le_of_ble_eq_true rfl) dX9_moveFrom_80 (fun H locs hP hD hS => ?_)
    obtain ⟨hP, hD⟩ := wPD [(h0, .inr (6, [.int 2, .int sn, .ref s0, .ref s1, .ref s2, .ref s3])), (s0, .inl (T 0, 30, .inl f0)), (s1, .inl (T 1, 30, .inr (.inl f1))), (s2, .inl (T 2, 30, .inr (.inr (.inl (va_cpy f2 f2 x2.toNatClampNeg x3.toNatClampNeg x4.toNatClampNeg))))), (s3, .inl (T 3, 30, .inr (.inr (.inr (.inl f3)))))] hP hD rfl
    refine lv_goto (tgt := 101) hx hb dX9_moveFrom_83 (by decide +kernel) ?_
    exact W.vret hx hb hr (fun t ht hW => ⟨⟨(f0, f1, (va_cpy f2 f2 x2.toNatClampNeg x3.toNatClampNeg x4.toNatClampNeg), f3), rfl, trivial, by rw [ht]; exact hP.sub [0, 1, 2, 3, 4] rfl, hD.sub [0, 1, 2, 3, 4] (by decide +kernel) rfl⟩, hS.F ht⟩) hS.2.2 dX9_moveFrom_101
  rw [fa_eq] at k_1 k_2 k_3
  try simp only [ti_0, ti_1, ti_2] at k_1 k_2 k_3
  refine lv_tableOut (tgt := 86) hx hb dX9_moveFrom_4 (by omega) (by decide +kernel) ?_
  refine lv_aload_n hx hb dX9_moveFrom_86 rfl (lv_at hl 1 rfl) ?_
  refine va_get (D := D) (ci := 6) (v := .ref s3) (C := RX9) (T := TX9) (N := 6) hx hb hts in_X9_moveFrom_X9 hown hE.1 hP 0 rfl rfl 5 (by decide +kernel) (hts (.fieldLink RX9 30 "ClauseBook$Sheet" "doubles" "[D") (List.mem_of_getElem? (i := 9) rfl)) (fun _ h9 => h9) rfl dX9_moveFrom_87 ?_
  refine lv_iload_n hx hb dX9_moveFrom_90 rfl (lv_at hl 2 rfl) ?_
  refine lv_aload_n hx hb dX9_moveFrom_91 rfl (lv_at hl 0 rfl) ?_
  refine va_get (D := D) (ci := 6) (v := .ref s3) (C := RX9) (T := TX9) (N := 6) hx hb hts in_X9_moveFrom_X9 hown hE.1 hP 0 rfl rfl 5 (by decide +kernel) (hts (.fieldLink RX9 30 "ClauseBook$Sheet" "doubles" "[D") (List.mem_of_getElem? (i := 9) rfl)) (fun _ h9 => h9) rfl dX9_moveFrom_92 ?_
  refine lv_iload_n hx hb dX9_moveFrom_95 rfl (lv_at hl 3 rfl) ?_
  refine lv_iload hx hb dX9_moveFrom_96 (lv_at hl 4 rfl) ?_
  refine va_copyd (ty := .double) hx hb (hml.trans hl.1.symm) hown (hts (.methodLink RX9 52 arraycopyName) (List.mem_of_getElem? (i := 3) rfl)) (hts (.native arraycopyName) (List.mem_of_getElem? (i := 4) rfl)) (hts (.static arraycopyName) (List.mem_of_getElem? (i := 5) rfl)) (hts (.initialized "java/lang/System") (List.mem_of_getElem? (i := 6) rfl)) hE.1 hP hD hS 4 4 3 3 rfl rfl rfl rfl rfl (by rw [fa_lt, ti_0]; omega) (by rw [fa_lt, ti_0]; omega) (by rw [fa_lt, ti_0]; omega) (cp_le (by omega) (by omega) (by omega)) (cp_le (by omega) (by omega) (by omega)) (fun _ _ => rfl) (Nat.le_of_ble_eq_true rfl) (Nat.le_of_ble_eq_true rfl) dX9_moveFrom_98 (fun H locs hP hD hS => ?_)
  obtain ⟨hP, hD⟩ := wPD [(h0, .inr (6, [.int so, .int sn, .ref s0, .ref s1, .ref s2, .ref s3])), (s0, .inl (T 0, 30, .inl f0)), (s1, .inl (T 1, 30, .inr (.inl f1))), (s2, .inl (T 2, 30, .inr (.inr (.inl f2)))), (s3, .inl (T 3, 30, .inr (.inr (.inr (.inl (va_cpy f3 f3 x2.toNatClampNeg x3.toNatClampNeg x4.toNatClampNeg))))))] hP hD rfl
  exact W.vret hx hb hr (fun t ht hW => ⟨⟨(f0, f1, f2, (va_cpy f3 f3 x2.toNatClampNeg x3.toNatClampNeg x4.toNatClampNeg)), rfl, trivial, by rw [ht]; exact hP.sub [0, 1, 2, 3, 4] rfl, hD.sub [0, 1, 2, 3, 4] (by decide +kernel) rfl⟩, hS.F ht⟩) hS.2.2 dX9_moveFrom_101
theorem dX12_copy_0 : decode cX12_copy 0 = .ok (.iload_n 1, 1) := by decide +kernel
theorem dX12_copy_1 : decode cX12_copy 1 = .ok (.iconst 0, 1) := by decide +kernel
theorem dX12_copy_10 : decode cX12_copy 10 = .ok (.iconst 0, 1) := by decide +kernel
theorem dX12_copy_100 : decode cX12_copy 100 = .ok (.aload 7, 2) := by decide +kernel
theorem dX12_copy_102 : decode cX12_copy 102 = .ok (.aload 6, 2) := by decide +kernel
theorem dX12_copy_104 : decode cX12_copy 104 = .ok (.iload_n 2, 1) := by decide +kernel
theorem dX12_copy_105 : decode cX12_copy 105 = .ok (.iload 4, 2) := by decide +kernel
theorem dX12_copy_107 : decode cX12_copy 107 = .ok (.iload 5, 2) := by decide +kernel
theorem dX12_copy_109 : decode cX12_copy 109 = .ok (.invokevirtual 348, 3) := by decide +kernel
theorem dX12_copy_11 : decode cX12_copy 11 = .ok (.iconst 3, 1) := by decide +kernel
theorem dX12_copy_112 : decode cX12_copy 112 = .ok (.iload 5, 2) := by decide +kernel
theorem dX12_copy_114 : decode cX12_copy 114 = .ok (.ireturn, 1) := by decide +kernel
theorem dX12_copy_12 : decode cX12_copy 12 = .ok (.invokestatic 77, 3) := by decide +kernel
theorem dX12_copy_15 : decode cX12_copy 15 = .ok (.ifCond .ne 6, 3) := by decide +kernel
theorem dX12_copy_18 : decode cX12_copy 18 = .ok (.bipush (-2), 2) := by decide +kernel
theorem dX12_copy_2 : decode cX12_copy 2 = .ok (.iconst 3, 1) := by decide +kernel
theorem dX12_copy_20 : decode cX12_copy 20 = .ok (.ireturn, 1) := by decide +kernel
theorem dX12_copy_21 : decode cX12_copy 21 = .ok (.aload_n 0, 1) := by decide +kernel
theorem dX12_copy_22 : decode cX12_copy 22 = .ok (.getfield 65, 3) := by decide +kernel
theorem dX12_copy_25 : decode cX12_copy 25 = .ok (.iload_n 1, 1) := by decide +kernel
theorem dX12_copy_26 : decode cX12_copy 26 = .ok (.aaload, 1) := by decide +kernel
theorem dX12_copy_27 : decode cX12_copy 27 = .ok (.astore 6, 2) := by decide +kernel
theorem dX12_copy_29 : decode cX12_copy 29 = .ok (.aload_n 0, 1) := by decide +kernel
theorem dX12_copy_3 : decode cX12_copy 3 = .ok (.invokestatic 77, 3) := by decide +kernel
theorem dX12_copy_30 : decode cX12_copy 30 = .ok (.getfield 65, 3) := by decide +kernel
theorem dX12_copy_33 : decode cX12_copy 33 = .ok (.iload_n 3, 1) := by decide +kernel
theorem dX12_copy_34 : decode cX12_copy 34 = .ok (.aaload, 1) := by decide +kernel
theorem dX12_copy_35 : decode cX12_copy 35 = .ok (.astore 7, 2) := by decide +kernel
theorem dX12_copy_37 : decode cX12_copy 37 = .ok (.aload 6, 2) := by decide +kernel
theorem dX12_copy_39 : decode cX12_copy 39 = .ok (.getfield 277, 3) := by decide +kernel
theorem dX12_copy_42 : decode cX12_copy 42 = .ok (.iconst (-1), 1) := by decide +kernel
theorem dX12_copy_43 : decode cX12_copy 43 = .ok (.if_icmp .eq 12, 3) := by decide +kernel
theorem dX12_copy_46 : decode cX12_copy 46 = .ok (.aload 7, 2) := by decide +kernel
theorem dX12_copy_48 : decode cX12_copy 48 = .ok (.getfield 277, 3) := by decide +kernel
theorem dX12_copy_51 : decode cX12_copy 51 = .ok (.iconst (-1), 1) := by decide +kernel
theorem dX12_copy_52 : decode cX12_copy 52 = .ok (.if_icmp .ne 6, 3) := by decide +kernel
theorem dX12_copy_55 : decode cX12_copy 55 = .ok (.bipush (-11), 2) := by decide +kernel
theorem dX12_copy_57 : decode cX12_copy 57 = .ok (.ireturn, 1) := by decide +kernel
theorem dX12_copy_58 : decode cX12_copy 58 = .ok (.aload 6, 2) := by decide +kernel
theorem dX12_copy_6 : decode cX12_copy 6 = .ok (.ifCond .eq 12, 3) := by decide +kernel
theorem dX12_copy_60 : decode cX12_copy 60 = .ok (.getfield 277, 3) := by decide +kernel
theorem dX12_copy_63 : decode cX12_copy 63 = .ok (.aload 7, 2) := by decide +kernel
theorem dX12_copy_65 : decode cX12_copy 65 = .ok (.getfield 277, 3) := by decide +kernel
theorem dX12_copy_68 : decode cX12_copy 68 = .ok (.if_icmp .eq 6, 3) := by decide +kernel
theorem dX12_copy_71 : decode cX12_copy 71 = .ok (.bipush (-13), 2) := by decide +kernel
theorem dX12_copy_73 : decode cX12_copy 73 = .ok (.ireturn, 1) := by decide +kernel
theorem dX12_copy_74 : decode cX12_copy 74 = .ok (.aload 6, 2) := by decide +kernel
theorem dX12_copy_76 : decode cX12_copy 76 = .ok (.iload_n 2, 1) := by decide +kernel
theorem dX12_copy_77 : decode cX12_copy 77 = .ok (.iload 5, 2) := by decide +kernel
theorem dX12_copy_79 : decode cX12_copy 79 = .ok (.invokevirtual 345, 3) := by decide +kernel
theorem dX12_copy_82 : decode cX12_copy 82 = .ok (.ifCond .eq 15, 3) := by decide +kernel
theorem dX12_copy_85 : decode cX12_copy 85 = .ok (.aload 7, 2) := by decide +kernel
theorem dX12_copy_87 : decode cX12_copy 87 = .ok (.iload 4, 2) := by decide +kernel
theorem dX12_copy_89 : decode cX12_copy 89 = .ok (.iload 5, 2) := by decide +kernel
theorem dX12_copy_9 : decode cX12_copy 9 = .ok (.iload_n 3, 1) := by decide +kernel
theorem dX12_copy_91 : decode cX12_copy 91 = .ok (.invokevirtual 345, 3) := by decide +kernel
theorem dX12_copy_94 : decode cX12_copy 94 = .ok (.ifCond .ne 6, 3) := by decide +kernel
theorem dX12_copy_97 : decode cX12_copy 97 = .ok (.bipush (-12), 2) := by decide +kernel
theorem dX12_copy_99 : decode cX12_copy 99 = .ok (.ireturn, 1) := by decide +kernel
set_option maxRecDepth 20000 in
theorem ggX12_copy_X12_within : GoodIn wsX12_copy wsX12_within := goodIn_r _ [6] rfl (by decide +kernel)
set_option maxRecDepth 20000 in
theorem ggX12_copy_X9_hasRun : GoodIn wsX12_copy wsX9_hasRun := goodIn_r _ [11, 12, 37, 38, 39, 40, 41, 42] rfl (by decide +kernel)
set_option maxRecDepth 20000 in
theorem ggX12_copy_X9_moveFrom : GoodIn wsX12_copy wsX9_moveFrom := goodIn_r _ [16, 17, 18, 19, 20, 21, 22, 23, 24, 25, 37, 38, 39, 40, 41, 42] rfl (by decide +kernel)
set_option maxRecDepth 20000 in
theorem gX12_copy_X12_within : GoodIn wsX12_copy (va_wsS RX12 77 yX12_within wsX12_within) := goodIn_app (goodIn_of _ (by decide +kernel)) ggX12_copy_X12_within
set_option maxRecDepth 20000 in
theorem gX12_copy_X9_hasRun : GoodIn wsX12_copy (wsV RX12 345 RX9 yX9_hasRun wsX9_hasRun) := goodIn_app (goodIn_r _ [7, 8, 9, 10] rfl (by decide +kernel)) ggX12_copy_X9_hasRun
set_option maxRecDepth 20000 in
theorem gX12_copy_X9_moveFrom : GoodIn wsX12_copy (wsV RX12 348 RX9 yX9_moveFrom wsX9_moveFrom) := goodIn_app (goodIn_r _ [13, 14, 15, 10] rfl (by decide +kernel)) ggX12_copy_X9_moveFrom
theorem hv_X9_hasRun : yX9_hasRun.cls = RX9 ∧ yX9_hasRun.cls ≠ "java/lang/invoke/MethodHandle" ∧ yX9_hasRun.cls ≠ "java/lang/invoke/VarHandle" ∧ (parseMethodDescriptor yX9_hasRun.desc).map (fun d => d.parameters.length) = some 2 := by decide +kernel
theorem hv_X9_moveFrom : yX9_moveFrom.cls = RX9 ∧ yX9_moveFrom.cls ≠ "java/lang/invoke/MethodHandle" ∧ yX9_moveFrom.cls ≠ "java/lang/invoke/VarHandle" ∧ (parseMethodDescriptor yX9_moveFrom.desc).map (fun d => d.parameters.length) = some 4 := by decide +kernel
set_option maxRecDepth 20000 in
theorem in_X12_copy_X12 : ∀ w ∈ wsX120, w ∈ wsX12_copy := sub_r [26, 27, 28, 29, 30, 31, 32, 33, 34, 35, 36] rfl
set_option maxRecDepth 20000 in
theorem in_X12_copy_X9 : ∀ w ∈ wsX90, w ∈ wsX12_copy := sub_r [37, 38, 39, 40, 41, 42] rfl
set_option maxHeartbeats 4000000 in
set_option maxRecDepth 100000 in
theorem c_X12_copy (l : Launch) (D : va_G) (T : Nat → ClassId) (sz : Nat) (h0 : Nat) (h1 : Nat) (fs0 : List Value) (t0 : Nat) (t1 : Nat) (t2 : Nat) (t3 : Nat) (a00 : Nat) (a01 : Nat) (a02 : Nat) (a03 : Nat) (a10 : Nat) (a11 : Nat) (a12 : Nat) (a13 : Nat) (a20 : Nat) (a21 : Nat) (a22 : Nat) (a23 : Nat) (a30 : Nat) (a31 : Nat) (a32 : Nat) (a33 : Nat) (so : Nat → Int32) (sn : Nat → Int32) (si : Nat → Nat → Int32) (sl : Nat → Nat → Int64) (sf : Nat → Nat → UInt32) (sd : Nat → Nat → UInt64) (x1 : Int32) (x2 : Int32) (x3 : Int32) (x4 : Int32) (x5 : Int32) (e0_9 : fs0[9]? = some (.ref h1)) (hs0 : (-1 ≤ (so 0).toInt ∧ (so 0).toInt ≤ 3) ∧ 0 ≤ (sn 0).toInt ∧ (sn 0).toInt ≤ 30) (hs1 : (-1 ≤ (so 1).toInt ∧ (so 1).toInt ≤ 3) ∧ 0 ≤ (sn 1).toInt ∧ (sn 1).toInt ≤ 30) (hs2 : (-1 ≤ (so 2).toInt ∧ (so 2).toInt ≤ 3) ∧ 0 ≤ (sn 2).toInt ∧ (sn 2).toInt ≤ 30) (hs3 : (-1 ≤ (so 3).toInt ∧ (so 3).toInt ≤ 3) ∧ 0 ≤ (sn 3).toInt ∧ (sn 3).toInt ≤ 30) : Met l yX12_copy wsX12_copy ({ frames := 2, cells := 0, slots := 0, locals := 104 }) (pW [.ref h0, .int x1, .int x2, .int x3, .int x4, .int x5] D T [(h0, .inr (9, fs0)), (h1, .inl (T 6, 4, .inr (.inr (.inr (.inr (va_up (va_up (va_up (va_up (fun _ => none) 0 (some t0)) 1 (some t1)) 2 (some t2)) 3 (some t3))))))), (t0, .inr (6, [.int (so 0), .int (sn 0), .ref a00, .ref a01, .ref a02, .ref a03])), (t1, .inr (6, [.int (so 1), .int (sn 1), .ref a10, .ref a11, .ref a12, .ref a13])), (t2, .inr (6, [.int (so 2), .int (sn 2), .ref a20, .ref a21, .ref a22, .ref a23])), (t3, .inr (6, [.int (so 3), .int (sn 3), .ref a30, .ref a31, .ref a32, .ref a33])), (a00, .inl (T 0, 30, .inl (si 0))), (a01, .inl (T 1, 30, .inr (.inl (sl 0)))), (a02, .inl (T 2, 30, .inr (.inr (.inl (sf 0))))), (a03, .inl (T 3, 30, .inr (.inr (.inr (.inl (sd 0)))))), (a10, .inl (T 0, 30, .inl (si 1))), (a11, .inl (T 1, 30, .inr (.inl (sl 1)))), (a12, .inl (T 2, 30, .inr (.inr (.inl (sf 1))))), (a13, .inl (T 3, 30, .inr (.inr (.inr (.inl (sd 1)))))), (a20, .inl (T 0, 30, .inl (si 2))), (a21, .inl (T 1, 30, .inr (.inl (sl 2)))), (a22, .inl (T 2, 30, .inr (.inr (.inl (sf 2))))), (a23, .inl (T 3, 30, .inr (.inr (.inr (.inl (sd 2)))))), (a30, .inl (T 0, 30, .inl (si 3))), (a31, .inl (T 1, 30, .inr (.inl (sl 3)))), (a32, .inl (T 2, 30, .inr (.inr (.inl (sf 3))))), (a33, .inl (T 3, 30, .inr (.inr (.inr (.inl (sd 3))))))] sz) (va_Qi (fun (r : Int32) (u : (Nat → Nat → Int32) × (Nat → Nat → Int64) × (Nat → Nat → UInt32) × (Nat → Nat → UInt64)) => (¬ ((0 ≤ x1.toInt ∧ x1.toInt ≤ 3) ∧ (0 ≤ x3.toInt ∧ x3.toInt ≤ 3)) → r.toInt = -2) ∧ ((0 ≤ x1.toInt ∧ x1.toInt ≤ 3) → (0 ≤ x3.toInt ∧ x3.toInt ≤ 3) → ((so (x1.toNatClampNeg)).toInt = -1 ∨ (so (x3.toNatClampNeg)).toInt = -1 → r.toInt = -11) ∧ (¬ ((so (x1.toNatClampNeg)).toInt = -1 ∨ (so (x3.toNatClampNeg)).toInt = -1) → (¬ (so (x1.toNatClampNeg)).toInt = (so (x3.toNatClampNeg)).toInt → r.toInt = -13) ∧ ((so (x1.toNatClampNeg)).toInt = (so (x3.toNatClampNeg)).toInt → ((0 ≤ x5.toInt ∧ 0 ≤ x2.toInt ∧ 0 ≤ x4.toInt ∧ x2.toInt + x5.toInt ≤ (sn (x1.toNatClampNeg)).toInt ∧ x4.toInt + x5.toInt ≤ (sn (x3.toNatClampNeg)).toInt) → r.toInt = x5.toInt) ∧ (¬ (0 ≤ x5.toInt ∧ 0 ≤ x2.toInt ∧ 0 ≤ x4.toInt ∧ x2.toInt + x5.toInt ≤ (sn (x1.toNatClampNeg)).toInt ∧ x4.toInt + x5.toInt ≤ (sn (x3.toNatClampNeg)).toInt) → r.toInt = -12))))) (bW D (va_A [(h0, .inr (9, fs0)), (h1, .inl (T 6, 4, .inr (.inr (.inr (.inr (va_up (va_up (va_up (va_up (fun _ => none) 0 (some t0)) 1 (some t1)) 2 (some t2)) 3 (some t3))))))), (t0, .inr (6, [.int (so 0), .int (sn 0), .ref a00, .ref a01, .ref a02, .ref a03])), (t1, .inr (6, [.int (so 1), .int (sn 1), .ref a10, .ref a11, .ref a12, .ref a13])), (t2, .inr (6, [.int (so 2), .int (sn 2), .ref a20, .ref a21, .ref a22, .ref a23])), (t3, .inr (6, [.int (so 3), .int (sn 3), .ref a30, .ref a31, .ref a32, .ref a33])), (a00, .inl (T 0, 30, .inl (si 0))), (a01, .inl (T 1, 30, .inr (.inl (sl 0)))), (a02, .inl (T 2, 30, .inr (.inr (.inl (sf 0))))), (a03, .inl (T 3, 30, .inr (.inr (.inr (.inl (sd 0)))))), (a10, .inl (T 0, 30, .inl (si 1))), (a11, .inl (T 1, 30, .inr (.inl (sl 1)))), (a12, .inl (T 2, 30, .inr (.inr (.inl (sf 1))))), (a13, .inl (T 3, 30, .inr (.inr (.inr (.inl (sd 1)))))), (a20, .inl (T 0, 30, .inl (si 2))), (a21, .inl (T 1, 30, .inr (.inl (sl 2)))), (a22, .inl (T 2, 30, .inr (.inr (.inl (sf 2))))), (a23, .inl (T 3, 30, .inr (.inr (.inr (.inl (sd 2)))))), (a30, .inl (T 0, 30, .inl (si 3))), (a31, .inl (T 1, 30, .inr (.inl (sl 3)))), (a32, .inl (T 2, 30, .inr (.inr (.inl (sf 3))))), (a33, .inl (T 3, 30, .inr (.inr (.inr (.inl (sd 3))))))] sz) (fun (u : (Nat → Nat → Int32) × (Nat → Nat → Int64) × (Nat → Nat → UInt32) × (Nat → Nat → UInt64)) => [(h0, .inr (9, fs0)), (h1, .inl (T 6, 4, .inr (.inr (.inr (.inr (va_up (va_up (va_up (va_up (fun _ => none) 0 (some t0)) 1 (some t1)) 2 (some t2)) 3 (some t3))))))), (t0, .inr (6, [.int (so 0), .int (sn 0), .ref a00, .ref a01, .ref a02, .ref a03])), (t1, .inr (6, [.int (so 1), .int (sn 1), .ref a10, .ref a11, .ref a12, .ref a13])), (t2, .inr (6, [.int (so 2), .int (sn 2), .ref a20, .ref a21, .ref a22, .ref a23])), (t3, .inr (6, [.int (so 3), .int (sn 3), .ref a30, .ref a31, .ref a32, .ref a33])), (a00, .inl (T 0, 30, .inl (u.1 0))), (a01, .inl (T 1, 30, .inr (.inl (u.2.1 0)))), (a02, .inl (T 2, 30, .inr (.inr (.inl (u.2.2.1 0))))), (a03, .inl (T 3, 30, .inr (.inr (.inr (.inl (u.2.2.2 0)))))), (a10, .inl (T 0, 30, .inl (u.1 1))), (a11, .inl (T 1, 30, .inr (.inl (u.2.1 1)))), (a12, .inl (T 2, 30, .inr (.inr (.inl (u.2.2.1 1))))), (a13, .inl (T 3, 30, .inr (.inr (.inr (.inl (u.2.2.2 1)))))), (a20, .inl (T 0, 30, .inl (u.1 2))), (a21, .inl (T 1, 30, .inr (.inl (u.2.1 2)))), (a22, .inl (T 2, 30, .inr (.inr (.inl (u.2.2.1 2))))), (a23, .inl (T 3, 30, .inr (.inr (.inr (.inl (u.2.2.2 2)))))), (a30, .inl (T 0, 30, .inl (u.1 3))), (a31, .inl (T 1, 30, .inr (.inl (u.2.1 3)))), (a32, .inl (T 2, 30, .inr (.inr (.inl (u.2.2.1 3))))), (a33, .inl (T 3, 30, .inr (.inr (.inr (.inl (u.2.2.2 3))))))])) (va_A [(h0, .inr (9, fs0)), (h1, .inl (T 6, 4, .inr (.inr (.inr (.inr (va_up (va_up (va_up (va_up (fun _ => none) 0 (some t0)) 1 (some t1)) 2 (some t2)) 3 (some t3))))))), (t0, .inr (6, [.int (so 0), .int (sn 0), .ref a00, .ref a01, .ref a02, .ref a03])), (t1, .inr (6, [.int (so 1), .int (sn 1), .ref a10, .ref a11, .ref a12, .ref a13])), (t2, .inr (6, [.int (so 2), .int (sn 2), .ref a20, .ref a21, .ref a22, .ref a23])), (t3, .inr (6, [.int (so 3), .int (sn 3), .ref a30, .ref a31, .ref a32, .ref a33])), (a00, .inl (T 0, 30, .inl (si 0))), (a01, .inl (T 1, 30, .inr (.inl (sl 0)))), (a02, .inl (T 2, 30, .inr (.inr (.inl (sf 0))))), (a03, .inl (T 3, 30, .inr (.inr (.inr (.inl (sd 0)))))), (a10, .inl (T 0, 30, .inl (si 1))), (a11, .inl (T 1, 30, .inr (.inl (sl 1)))), (a12, .inl (T 2, 30, .inr (.inr (.inl (sf 1))))), (a13, .inl (T 3, 30, .inr (.inr (.inr (.inl (sd 1)))))), (a20, .inl (T 0, 30, .inl (si 2))), (a21, .inl (T 1, 30, .inr (.inl (sl 2)))), (a22, .inl (T 2, 30, .inr (.inr (.inl (sf 2))))), (a23, .inl (T 3, 30, .inr (.inr (.inr (.inl (sd 2)))))), (a30, .inl (T 0, 30, .inl (si 3))), (a31, .inl (T 1, 30, .inr (.inl (sl 3)))), (a32, .inl (T 2, 30, .inr (.inr (.inl (sf 3))))), (a33, .inl (T 3, 30, .inr (.inr (.inr (.inl (sd 3))))))] sz)) 0 0 (va_A [(h0, .inr (9, fs0)), (h1, .inl (T 6, 4, .inr (.inr (.inr (.inr (va_up (va_up (va_up (va_up (fun _ => none) 0 (some t0)) 1 (some t1)) 2 (some t2)) 3 (some t3))))))), (t0, .inr (6, [.int (so 0), .int (sn 0), .ref a00, .ref a01, .ref a02, .ref a03])), (t1, .inr (6, [.int (so 1), .int (sn 1), .ref a10, .ref a11, .ref a12, .ref a13])), (t2, .inr (6, [.int (so 2), .int (sn 2), .ref a20, .ref a21, .ref a22, .ref a23])), (t3, .inr (6, [.int (so 3), .int (sn 3), .ref a30, .ref a31, .ref a32, .ref a33])), (a00, .inl (T 0, 30, .inl (si 0))), (a01, .inl (T 1, 30, .inr (.inl (sl 0)))), (a02, .inl (T 2, 30, .inr (.inr (.inl (sf 0))))), (a03, .inl (T 3, 30, .inr (.inr (.inr (.inl (sd 0)))))), (a10, .inl (T 0, 30, .inl (si 1))), (a11, .inl (T 1, 30, .inr (.inl (sl 1)))), (a12, .inl (T 2, 30, .inr (.inr (.inl (sf 1))))), (a13, .inl (T 3, 30, .inr (.inr (.inr (.inl (sd 1)))))), (a20, .inl (T 0, 30, .inl (si 2))), (a21, .inl (T 1, 30, .inr (.inl (sl 2)))), (a22, .inl (T 2, 30, .inr (.inr (.inl (sf 2))))), (a23, .inl (T 3, 30, .inr (.inr (.inr (.inl (sd 2)))))), (a30, .inl (T 0, 30, .inl (si 3))), (a31, .inl (T 1, 30, .inr (.inl (sl 3)))), (a32, .inl (T 2, 30, .inr (.inr (.inl (sf 3))))), (a33, .inl (T 3, 30, .inr (.inr (.inr (.inl (sd 3))))))] sz) := by
  refine Met.ofW (cc := cX12_copy) (maxL := 8) (ret := (some .int)) (by decide +kernel) rfl ?_
  intro p e s m args below meth c s₁ B hml hv
  obtain ⟨rfl, hsz, hP, hE, hD0⟩ := hv
  have hx := B.exec
  have hb := B.bytes
  have hr := B.returns
  have hts := atoms_spec (ws := wsX12_copy) B.pre
  have hown : s.vm.findClass RX12 = some m.cls := findClass_of_methodNamed B.named
  have hlocks := B.notSynchronized
  subst hsz
  have hD := hD0.self (sz := s.heap.size)
  generalize hAe : va_A [(h0, .inr (9, fs0)), (h1, .inl (T 6, 4, .inr (.inr (.inr (.inr (va_up (va_up (va_up (va_up (fun _ => none) 0 (some t0)) 1 (some t1)) 2 (some t2)) 3 (some t3))))))), (t0, .inr (6, [.int (so 0), .int (sn 0), .ref a00, .ref a01, .ref a02, .ref a03])), (t1, .inr (6, [.int (so 1), .int (sn 1), .ref a10, .ref a11, .ref a12, .ref a13])), (t2, .inr (6, [.int (so 2), .int (sn 2), .ref a20, .ref a21, .ref a22, .ref a23])), (t3, .inr (6, [.int (so 3), .int (sn 3), .ref a30, .ref a31, .ref a32, .ref a33])), (a00, .inl (T 0, 30, .inl (si 0))), (a01, .inl (T 1, 30, .inr (.inl (sl 0)))), (a02, .inl (T 2, 30, .inr (.inr (.inl (sf 0))))), (a03, .inl (T 3, 30, .inr (.inr (.inr (.inl (sd 0)))))), (a10, .inl (T 0, 30, .inl (si 1))), (a11, .inl (T 1, 30, .inr (.inl (sl 1)))), (a12, .inl (T 2, 30, .inr (.inr (.inl (sf 1))))), (a13, .inl (T 3, 30, .inr (.inr (.inr (.inl (sd 1)))))), (a20, .inl (T 0, 30, .inl (si 2))), (a21, .inl (T 1, 30, .inr (.inl (sl 2)))), (a22, .inl (T 2, 30, .inr (.inr (.inl (sf 2))))), (a23, .inl (T 3, 30, .inr (.inr (.inr (.inl (sd 2)))))), (a30, .inl (T 0, 30, .inl (si 3))), (a31, .inl (T 1, 30, .inr (.inl (sl 3)))), (a32, .inl (T 2, 30, .inr (.inr (.inl (sf 3))))), (a33, .inl (T 3, 30, .inr (.inr (.inr (.inl (sd 3))))))] s.heap.size = A at hD ⊢
  have hA : ∀ q : Nat, s.heap.size ≤ q → A q := fun q h => by rw [← hAe]; exact Or.inr h
  have hS : va_S A s.heap s.heap [] := va_S.rf
  have hP : va_P D vwCl [(h0, .inr (9, fs0)), (h1, .inl (T 6, 4, .inr (.inr (.inr (.inr (va_up (va_up (va_up (va_up (fun _ => none) 0 (some t0)) 1 (some t1)) 2 (some t2)) 3 (some t3))))))), (t0, .inr (6, [.int (so 0), .int (sn 0), .ref a00, .ref a01, .ref a02, .ref a03])), (t1, .inr (6, [.int (so 1), .int (sn 1), .ref a10, .ref a11, .ref a12, .ref a13])), (t2, .inr (6, [.int (so 2), .int (sn 2), .ref a20, .ref a21, .ref a22, .ref a23])), (t3, .inr (6, [.int (so 3), .int (sn 3), .ref a30, .ref a31, .ref a32, .ref a33])), (a00, .inl (T 0, 30, .inl (si 0))), (a01, .inl (T 1, 30, .inr (.inl (sl 0)))), (a02, .inl (T 2, 30, .inr (.inr (.inl (sf 0))))), (a03, .inl (T 3, 30, .inr (.inr (.inr (.inl (sd 0)))))), (a10, .inl (T 0, 30, .inl (si 1))), (a11, .inl (T 1, 30, .inr (.inl (sl 1)))), (a12, .inl (T 2, 30, .inr (.inr (.inl (sf 1))))), (a13, .inl (T 3, 30, .inr (.inr (.inr (.inl (sd 1)))))), (a20, .inl (T 0, 30, .inl (si 2))), (a21, .inl (T 1, 30, .inr (.inl (sl 2)))), (a22, .inl (T 2, 30, .inr (.inr (.inl (sf 2))))), (a23, .inl (T 3, 30, .inr (.inr (.inr (.inl (sd 2)))))), (a30, .inl (T 0, 30, .inl (si 3))), (a31, .inl (T 1, 30, .inr (.inl (sl 3)))), (a32, .inl (T 2, 30, .inr (.inr (.inl (sf 3))))), (a33, .inl (T 3, 30, .inr (.inr (.inr (.inl (sd 3))))))] s.heap := hP
  have hl := lv_entry ([.ref h0, .int x1, .int x2, .int x3, .int x4, .int x5]) (n := 8) (Nat.le_of_ble_eq_true rfl)
  rw [lg_entry_eq]
  generalize (lg_sl ([.ref h0, .int x1, .int x2, .int x3, .int x4, .int x5]) ++ List.replicate (8 - (lg_sl ([.ref h0, .int x1, .int x2, .int x3, .int x4, .int x5])).length) Slot.unset).toArray = ls at hl ⊢
  have hl : lv_has ls 8 [(0, .ref h0), (1, .int x1), (2, .int x2), (3, .int x3), (4, .int x4), (5, .int x5)] := hl
  clear hD0
  refine lv_iload_n hx hb dX12_copy_0 rfl (lv_at hl 1 rfl) ?_
  refine lv_iconst (v := 0) hx hb dX12_copy_1 (by decide +kernel) ?_
  refine lv_iconst (v := 3) hx hb dX12_copy_2 (by decide +kernel) ?_
  refine vp_callSi (W.runS (As := [.int x1, .int 0, .int 3]) (rest := []) ⟨hx, hb, hml, hown, hts⟩ (c_X12_within l D T x1 0 3 0 3 (by decide +kernel) (by decide +kernel)) (va_cwS 3 hts gX12_copy_X12_within rfl rfl rfl hs_X12_within ⟨Nat.le_of_ble_eq_true rfl, Nat.le_of_ble_eq_true rfl⟩) (pR_S hP hE [] rfl) rfl rfl hl.1 rfl (lv_room (Nat.le_of_ble_eq_true rfl)) dX12_copy_3 ⟨Nat.le_of_ble_eq_true rfl, Nat.le_of_ble_eq_true rfl⟩) (fun r_1 hr_1 => ?_)
  rcases bool_post hr_1 with ⟨c_2, rfl⟩ | ⟨c_2, rfl⟩
  · refine lv_if_eq (tgt := 18) hx hb dX12_copy_6 (by decide +kernel) (fun c9 => absurd c9 (by decide +kernel)) (fun _ => ?_)
    refine lv_iload_n hx hb dX12_copy_9 rfl (lv_at hl 3 rfl) ?_
    refine lv_iconst (v := 0) hx hb dX12_copy_10 (by decide +kernel) ?_
    refine lv_iconst (v := 3) hx hb dX12_copy_11 (by decide +kernel) ?_
    refine vp_callSi (W.runS (As := [.int x3, .int 0, .int 3]) (rest := []) ⟨hx, hb, hml, hown, hts⟩ (c_X12_within l D T x3 0 3 0 3 (by decide +kernel) (by decide +kernel)) (va_cwS 3 hts gX12_copy_X12_within rfl rfl rfl hs_X12_within ⟨Nat.le_of_ble_eq_true rfl, Nat.le_of_ble_eq_true rfl⟩) (pR_S hP hE [] rfl) rfl rfl hl.1 rfl (lv_room (Nat.le_of_ble_eq_true rfl)) dX12_copy_12 ⟨Nat.le_of_ble_eq_true rfl, Nat.le_of_ble_eq_true rfl⟩) (fun r_3 hr_3 => ?_)
    rcases bool_post hr_3 with ⟨c_4, rfl⟩ | ⟨c_4, rfl⟩
    · refine lv_if_ne (tgt := 21) hx hb dX12_copy_15 (by decide +kernel) (fun _ => ?_) (fun c9 => absurd c9 (by decide +kernel))
      refine lv_aload_n hx hb dX12_copy_21 rfl (lv_at hl 0 rfl) ?_
      refine va_get (D := D) (ci := 9) (v := .ref h1) (C := RX12) (T := TX12) (N := 11) hx hb hts in_X12_copy_X12 hown hE.1 hP 0 rfl rfl 9 (by decide +kernel) (hts (.fieldLink RX12 65 "ClauseBook" "sheets" "[LClauseBook$Sheet;") (List.mem_of_getElem? (i := 1) rfl)) (fun _ h9 => h9) e0_9 dX12_copy_22 ?_
      refine lv_iload_n hx hb dX12_copy_25 rfl (lv_at hl 1 rfl) ?_
      rcases in4 (x := x1) (by omega) with rfl | rfl | rfl | rfl
      · refine va_aldq hx hb hE.1 hP 1 6 rfl rfl (by unfold vp_in; decide) dX12_copy_26 ?_
        refine W.eq (g2 := F0 m 27 ls [.ref t0]) rfl ?_
        refine lv_astore (lv' := [(6, .ref t0), (0, .ref h0), (1, .int 0), (2, .int x2), (3, .int x3), (4, .int x4), (5, .int x5)]) hx hb dX12_copy_27 hl (by decide +kernel) rfl (fun ls hl => ?_)
        refine lv_aload_n hx hb dX12_copy_29 rfl (lv_at hl 1 rfl) ?_
        refine va_get (D := D) (ci := 9) (v := .ref h1) (C := RX12) (T := TX12) (N := 11) hx hb hts in_X12_copy_X12 hown hE.1 hP 0 rfl rfl 9 (by decide +kernel) (hts (.fieldLink RX12 65 "ClauseBook" "sheets" "[LClauseBook$Sheet;") (List.mem_of_getElem? (i := 1) rfl)) (fun _ h9 => h9) e0_9 dX12_copy_30 ?_
        refine lv_iload_n hx hb dX12_copy_33 rfl (lv_at hl 4 rfl) ?_
        rcases in4 (x := x3) (by omega) with rfl | rfl | rfl | rfl
        · refine va_aldq hx hb hE.1 hP 1 6 rfl rfl (by unfold vp_in; decide) dX12_copy_34 ?_
          refine W.eq (g2 := F0 m 35 ls [.ref t0]) rfl ?_
          refine lv_astore (lv' := [(7, .ref t0), (6, .ref t0), (0, .ref h0), (1, .int 0), (2, .int x2), (3, .int 0), (4, .int x4), (5, .int x5)]) hx hb dX12_copy_35 hl (by decide +kernel) rfl (fun ls hl => ?_)
          refine lv_aload hx hb dX12_copy_37 (lv_at hl 1 rfl) ?_
          refine va_get (D := D) (ci := 6) (v := .int (so 0)) (C := RX9) (T := TX9) (N := 6) hx hb hts in_X12_copy_X9 hown hE.1 hP 2 rfl rfl 0 (by decide +kernel) (hts (.fieldLink RX12 277 "ClauseBook$Sheet" "sort" "I") (List.mem_of_getElem? (i := 2) rfl)) (fun _ h9 => h9) rfl dX12_copy_39 ?_
          refine lv_iconst (v := (-1)) hx hb dX12_copy_42 (by decide +kernel) ?_
          refine lv_icmp_eq (tgt := 55) hx hb dX12_copy_43 (by decide +kernel) (fun c_5 => ?_) (fun c_5 => ?_)
          · rw [fa_eq] at c_5
            try rw [ti_n1] at c_5
            refine lv_bipush (v := (-11)) hx hb dX12_copy_55 (by decide +kernel) ?_
            exact W.iret hx hb hr (fun t ht hW => ⟨⟨_, ((fun k => [(si 0), (si 1), (si 2), (si 3)].getD k (si 0)), (fun k => [(sl 0), (sl 1), (sl 2), (sl 3)].getD k (sl 0)), (fun k => [(sf 0), (sf 1), (sf 2), (sf 3)].getD k (sf 0)), (fun k => [(sd 0), (sd 1), (sd 2), (sd 3)].getD k (sd 0))), rfl, (by (try dsimp only); have h9a1 : (so ((0 : Int32).toNatClampNeg)).toInt = (so 0).toInt := rfl; have h9b1 : (sn ((0 : Int32).toNatClampNeg)).toInt = (sn 0).toInt := rfl; have h9c1 : (0 : Int32).toInt = 0 := (by decide +kernel); have h9a3 : (so ((0 : Int32).toNatClampNeg)).toInt = (so 0).toInt := rfl; have h9b3 : (sn ((0 : Int32).toNatClampNeg)).toInt = (sn 0).toInt := rfl; have h9c3 : (0 : Int32).toInt = 0 := (by decide +kernel); have h9r : ((-11) : Int32).toInt = -11 := (by decide +kernel); omega), by rw [ht]; exact hP.sub [0, 1, 2, 3, 4, 5, 6, 7, 8, 9, 10, 11, 12, 13, 14, 15, 16, 17, 18, 19, 20, 21] rfl, hD.sub [0, 1, 2, 3, 4, 5, 6, 7, 8, 9, 10, 11, 12, 13, 14, 15, 16, 17, 18, 19, 20, 21] (by decide +kernel) rfl⟩, hS.F ht⟩) hS.2.2 dX12_copy_57
          · rw [fa_eq] at c_5
            try rw [ti_n1] at c_5
            refine lv_aload hx hb dX12_copy_46 (lv_at hl 0 rfl) ?_
            refine va_get (D := D) (ci := 6) (v := .int (so 0)) (C := RX9) (T := TX9) (N := 6) hx hb hts in_X12_copy_X9 hown hE.1 hP 2 rfl rfl 0 (by decide +kernel) (hts (.fieldLink RX12 277 "ClauseBook$Sheet" "sort" "I") (List.mem_of_getElem? (i := 2) rfl)) (fun _ h9 => h9) rfl dX12_copy_48 ?_
            refine lv_iconst (v := (-1)) hx hb dX12_copy_51 (by decide +kernel) ?_
            refine lv_icmp_ne (tgt := 58) hx hb dX12_copy_52 (by decide +kernel) (fun c_6 => ?_) (fun c_6 => ?_)
            · rw [fa_eq] at c_6
              try rw [ti_n1] at c_6
              refine lv_aload hx hb dX12_copy_58 (lv_at hl 1 rfl) ?_
              refine va_get (D := D) (ci := 6) (v := .int (so 0)) (C := RX9) (T := TX9) (N := 6) hx hb hts in_X12_copy_X9 hown hE.1 hP 2 rfl rfl 0 (by decide +kernel) (hts (.fieldLink RX12 277 "ClauseBook$Sheet" "sort" "I") (List.mem_of_getElem? (i := 2) rfl)) (fun _ h9 => h9) rfl dX12_copy_60 ?_
              refine lv_aload hx hb dX12_copy_63 (lv_at hl 0 rfl) ?_
              refine va_get (D := D) (ci := 6) (v := .int (so 0)) (C := RX9) (T := TX9) (N := 6) hx hb hts in_X12_copy_X9 hown hE.1 hP 2 rfl rfl 0 (by decide +kernel) (hts (.fieldLink RX12 277 "ClauseBook$Sheet" "sort" "I") (List.mem_of_getElem? (i := 2) rfl)) (fun _ h9 => h9) rfl dX12_copy_65 ?_
              refine lv_icmp_eq (tgt := 74) hx hb dX12_copy_68 (by decide +kernel) (fun _ => ?_) (fun c9 => absurd rfl c9)
              refine lv_aload hx hb dX12_copy_74 (lv_at hl 1 rfl) ?_
              refine lv_iload_n hx hb dX12_copy_76 rfl (lv_at hl 4 rfl) ?_
              refine lv_iload hx hb dX12_copy_77 (lv_at hl 7 rfl) ?_
              refine vp_callSi (W.runV (As := [.int x2, .int x5]) (rest := []) ⟨hx, hb, hml, hown, hts⟩ (c_X9_hasRun l D T t0 [.int (so 0), .int (sn 0), .ref a00, .ref a01, .ref a02, .ref a03] x2 x5 (sn 0) rfl (by omega)) (cwV 2 hts gX12_copy_X9_hasRun rfl rfl rfl hv_X9_hasRun ⟨Nat.le_of_ble_eq_true rfl, Nat.le_of_ble_eq_true rfl⟩) (pR_V (q := (RX9, TX9, 6)) (ci := 6) (q0 := 2) hP hE rfl rfl [2] rfl) rfl rfl hl.1 rfl (lv_room (Nat.le_of_ble_eq_true rfl)) dX12_copy_79 ⟨Nat.le_of_ble_eq_true rfl, Nat.le_of_ble_eq_true rfl⟩) (fun r_7 hr_7 => ?_)
              rcases bool_post hr_7 with ⟨c_8, rfl⟩ | ⟨c_8, rfl⟩
              · refine lv_if_eq (tgt := 97) hx hb dX12_copy_82 (by decide +kernel) (fun c9 => absurd c9 (by decide +kernel)) (fun _ => ?_)
                refine lv_aload hx hb dX12_copy_85 (lv_at hl 0 rfl) ?_
                refine lv_iload hx hb dX12_copy_87 (lv_at hl 6 rfl) ?_
                refine lv_iload hx hb dX12_copy_89 (lv_at hl 7 rfl) ?_
                refine vp_callSi (W.runV (As := [.int x4, .int x5]) (rest := []) ⟨hx, hb, hml, hown, hts⟩ (c_X9_hasRun l D T t0 [.int (so 0), .int (sn 0), .ref a00, .ref a01, .ref a02, .ref a03] x4 x5 (sn 0) rfl (by omega)) (cwV 2 hts gX12_copy_X9_hasRun rfl rfl rfl hv_X9_hasRun ⟨Nat.le_of_ble_eq_true rfl, Nat.le_of_ble_eq_true rfl⟩) (pR_V (q := (RX9, TX9, 6)) (ci := 6) (q0 := 2) hP hE rfl rfl [2] rfl) rfl rfl hl.1 rfl (lv_room (Nat.le_of_ble_eq_true rfl)) dX12_copy_91 ⟨Nat.le_of_ble_eq_true rfl, Nat.le_of_ble_eq_true rfl⟩) (fun r_9 hr_9 => ?_)
                rcases bool_post hr_9 with ⟨c_10, rfl⟩ | ⟨c_10, rfl⟩
                · refine lv_if_ne (tgt := 100) hx hb dX12_copy_94 (by decide +kernel) (fun _ => ?_) (fun c9 => absurd c9 (by decide +kernel))
                  refine lv_aload hx hb dX12_copy_100 (lv_at hl 0 rfl) ?_
                  refine lv_aload hx hb dX12_copy_102 (lv_at hl 1 rfl) ?_
                  refine lv_iload_n hx hb dX12_copy_104 rfl (lv_at hl 4 rfl) ?_
                  refine lv_iload hx hb dX12_copy_105 (lv_at hl 6 rfl) ?_
                  refine lv_iload hx hb dX12_copy_107 (lv_at hl 7 rfl) ?_
                  have hFc := va_free (wc := [(t0, .inr (6, [.int (so 0), .int (sn 0), .ref a00, .ref a01, .ref a02, .ref a03])), (a00, .inl (T 0, 30, .inl (si 0))), (a01, .inl (T 1, 30, .inr (.inl (sl 0)))), (a02, .inl (T 2, 30, .inr (.inr (.inl (sf 0))))), (a03, .inl (T 3, 30, .inr (.inr (.inr (.inl (sd 0))))))]) hD hS hA [2, 6, 7, 8, 9] rfl
                  refine va_callv (va_runV (As := [.ref t0, .int x2, .int x4, .int x5]) (rest := []) ⟨hx, hb, hml, hown, hts⟩ (c_X9_moveFrom_same l D T _ t0 (so 0) (sn 0) a00 a01 a02 a03 (si 0) (sl 0) (sf 0) (sd 0) x2 x4 x5 (by omega) (by omega)) (cwV 4 hts gX12_copy_X9_moveFrom rfl rfl rfl hv_X9_moveFrom ⟨Nat.le_of_ble_eq_true rfl, Nat.le_of_ble_eq_true rfl⟩) (pW_V (q := (RX9, TX9, 6)) (ci := 6) (q0 := 2) hP hE hD rfl rfl [2, 6, 7, 8, 9] (by decide +kernel) rfl rfl) rfl rfl hl.1 rfl (lv_room (Nat.le_of_ble_eq_true rfl)) dX12_copy_109 ⟨Nat.le_of_ble_eq_true rfl, Nat.le_of_ble_eq_true rfl⟩) hS (fun q _ h => hFc q h) hFc (fun u_12 t H1 locs ht hvm hr_11 hB hz1 hk1 hS => ?_)
                  obtain ⟨f_13, f_14, f_15, f_16⟩ := u_12
                  obtain ⟨hP1, hD1⟩ := hB
                  rw [ht] at hP1
                  obtain ⟨hP, hD⟩ := va_repl [(h0, .inr (9, fs0)), (h1, .inl (T 6, 4, .inr (.inr (.inr (.inr (va_up (va_up (va_up (va_up (fun _ => none) 0 (some t0)) 1 (some t1)) 2 (some t2)) 3 (some t3))))))), (t0, .inr (6, [.int (so 0), .int (sn 0), .ref a00, .ref a01, .ref a02, .ref a03])), (t1, .inr (6, [.int (so 1), .int (sn 1), .ref a10, .ref a11, .ref a12, .ref a13])), (t2, .inr (6, [.int (so 2), .int (sn 2), .ref a20, .ref a21, .ref a22, .ref a23])), (t3, .inr (6, [.int (so 3), .int (sn 3), .ref a30, .ref a31, .ref a32, .ref a33])), (a00, .inl (T 0, 30, .inl f_13)), (a01, .inl (T 1, 30, .inr (.inl f_14))), (a02, .inl (T 2, 30, .inr (.inr (.inl f_15)))), (a03, .inl (T 3, 30, .inr (.inr (.inr (.inl f_16))))), (a10, .inl (T 0, 30, .inl (si 1))), (a11, .inl (T 1, 30, .inr (.inl (sl 1)))), (a12, .inl (T 2, 30, .inr (.inr (.inl (sf 1))))), (a13, .inl (T 3, 30, .inr (.inr (.inr (.inl (sd 1)))))), (a20, .inl (T 0, 30, .inl (si 2))), (a21, .inl (T 1, 30, .inr (.inl (sl 2)))), (a22, .inl (T 2, 30, .inr (.inr (.inl (sf 2))))), (a23, .inl (T 3, 30, .inr (.inr (.inr (.inl (sd 2)))))), (a30, .inl (T 0, 30, .inl (si 3))), (a31, .inl (T 1, 30, .inr (.inl (sl 3)))), (a32, .inl (T 2, 30, .inr (.inr (.inl (sf 3))))), (a33, .inl (T 3, 30, .inr (.inr (.inr (.inl (sd 3))))))] hP hD [2, 6, 7, 8, 9] [2, 6, 7, 8, 9] rfl (by decide +kernel) rfl rfl rfl hk1 hP1
                  clear hP1 hD1 hFc
                  generalize H1 = H at hP hS ⊢
                  refine lv_iload hx hb dX12_copy_112 (lv_at hl 7 rfl) ?_
                  exact W.iret hx hb hr (fun t ht hW => ⟨⟨_, ((fun k => [f_13, (si 1), (si 2), (si 3)].getD k f_13), (fun k => [f_14, (sl 1), (sl 2), (sl 3)].getD k f_14), (fun k => [f_15, (sf 1), (sf 2), (sf 3)].getD k f_15), (fun k => [f_16, (sd 1), (sd 2), (sd 3)].getD k f_16)), rfl, (by (try dsimp only); have h9a1 : (so ((0 : Int32).toNatClampNeg)).toInt = (so 0).toInt := rfl; have h9b1 : (sn ((0 : Int32).toNatClampNeg)).toInt = (sn 0).toInt := rfl; have h9c1 : (0 : Int32).toInt = 0 := (by decide +kernel); have h9a3 : (so ((0 : Int32).toNatClampNeg)).toInt = (so 0).toInt := rfl; have h9b3 : (sn ((0 : Int32).toNatClampNeg)).toInt = (sn 0).toInt := rfl; have h9c3 : (0 : Int32).toInt = 0 := (by decide +kernel); omega), by rw [ht]; exact hP.sub [0, 1, 2, 3, 4, 5, 6, 7, 8, 9, 10, 11, 12, 13, 14, 15, 16, 17, 18, 19, 20, 21] rfl, hD.sub [0, 1, 2, 3, 4, 5, 6, 7, 8, 9, 10, 11, 12, 13, 14, 15, 16, 17, 18, 19, 20, 21] (by decide +kernel) rfl⟩, hS.F ht⟩) hS.2.2 dX12_copy_114
                · refine lv_if_ne (tgt := 100) hx hb dX12_copy_94 (by decide +kernel) (fun c9 => absurd c9 (by decide +kernel)) (fun _ => ?_)
                  refine lv_bipush (v := (-12)) hx hb dX12_copy_97 (by decide +kernel) ?_
                  exact W.iret hx hb hr (fun t ht hW => ⟨⟨_, ((fun k => [(si 0), (si 1), (si 2), (si 3)].getD k (si 0)), (fun k => [(sl 0), (sl 1), (sl 2), (sl 3)].getD k (sl 0)), (fun k => [(sf 0), (sf 1), (sf 2), (sf 3)].getD k (sf 0)), (fun k => [(sd 0), (sd 1), (sd 2), (sd 3)].getD k (sd 0))), rfl, (by (try dsimp only); have h9a1 : (so ((0 : Int32).toNatClampNeg)).toInt = (so 0).toInt := rfl; have h9b1 : (sn ((0 : Int32).toNatClampNeg)).toInt = (sn 0).toInt := rfl; have h9c1 : (0 : Int32).toInt = 0 := (by decide +kernel); have h9a3 : (so ((0 : Int32).toNatClampNeg)).toInt = (so 0).toInt := rfl; have h9b3 : (sn ((0 : Int32).toNatClampNeg)).toInt = (sn 0).toInt := rfl; have h9c3 : (0 : Int32).toInt = 0 := (by decide +kernel); have h9r : ((-12) : Int32).toInt = -12 := (by decide +kernel); omega), by rw [ht]; exact hP.sub [0, 1, 2, 3, 4, 5, 6, 7, 8, 9, 10, 11, 12, 13, 14, 15, 16, 17, 18, 19, 20, 21] rfl, hD.sub [0, 1, 2, 3, 4, 5, 6, 7, 8, 9, 10, 11, 12, 13, 14, 15, 16, 17, 18, 19, 20, 21] (by decide +kernel) rfl⟩, hS.F ht⟩) hS.2.2 dX12_copy_99
              · refine lv_if_eq (tgt := 97) hx hb dX12_copy_82 (by decide +kernel) (fun _ => ?_) (fun c9 => absurd c9 (by decide +kernel))
                refine lv_bipush (v := (-12)) hx hb dX12_copy_97 (by decide +kernel) ?_
                exact W.iret hx hb hr (fun t ht hW => ⟨⟨_, ((fun k => [(si 0), (si 1), (si 2), (si 3)].getD k (si 0)), (fun k => [(sl 0), (sl 1), (sl 2), (sl 3)].getD k (sl 0)), (fun k => [(sf 0), (sf 1), (sf 2), (sf 3)].getD k (sf 0)), (fun k => [(sd 0), (sd 1), (sd 2), (sd 3)].getD k (sd 0))), rfl, (by (try dsimp only); have h9a1 : (so ((0 : Int32).toNatClampNeg)).toInt = (so 0).toInt := rfl; have h9b1 : (sn ((0 : Int32).toNatClampNeg)).toInt = (sn 0).toInt := rfl; have h9c1 : (0 : Int32).toInt = 0 := (by decide +kernel); have h9a3 : (so ((0 : Int32).toNatClampNeg)).toInt = (so 0).toInt := rfl; have h9b3 : (sn ((0 : Int32).toNatClampNeg)).toInt = (sn 0).toInt := rfl; have h9c3 : (0 : Int32).toInt = 0 := (by decide +kernel); have h9r : ((-12) : Int32).toInt = -12 := (by decide +kernel); omega), by rw [ht]; exact hP.sub [0, 1, 2, 3, 4, 5, 6, 7, 8, 9, 10, 11, 12, 13, 14, 15, 16, 17, 18, 19, 20, 21] rfl, hD.sub [0, 1, 2, 3, 4, 5, 6, 7, 8, 9, 10, 11, 12, 13, 14, 15, 16, 17, 18, 19, 20, 21] (by decide +kernel) rfl⟩, hS.F ht⟩) hS.2.2 dX12_copy_99
            · rw [fa_eq] at c_6
              try rw [ti_n1] at c_6
              refine lv_bipush (v := (-11)) hx hb dX12_copy_55 (by decide +kernel) ?_
              exact W.iret hx hb hr (fun t ht hW => ⟨⟨_, ((fun k => [(si 0), (si 1), (si 2), (si 3)].getD k (si 0)), (fun k => [(sl 0), (sl 1), (sl 2), (sl 3)].getD k (sl 0)), (fun k => [(sf 0), (sf 1), (sf 2), (sf 3)].getD k (sf 0)), (fun k => [(sd 0), (sd 1), (sd 2), (sd 3)].getD k (sd 0))), rfl, (by (try dsimp only); have h9a1 : (so ((0 : Int32).toNatClampNeg)).toInt = (so 0).toInt := rfl; have h9b1 : (sn ((0 : Int32).toNatClampNeg)).toInt = (sn 0).toInt := rfl; have h9c1 : (0 : Int32).toInt = 0 := (by decide +kernel); have h9a3 : (so ((0 : Int32).toNatClampNeg)).toInt = (so 0).toInt := rfl; have h9b3 : (sn ((0 : Int32).toNatClampNeg)).toInt = (sn 0).toInt := rfl; have h9c3 : (0 : Int32).toInt = 0 := (by decide +kernel); have h9r : ((-11) : Int32).toInt = -11 := (by decide +kernel); omega), by rw [ht]; exact hP.sub [0, 1, 2, 3, 4, 5, 6, 7, 8, 9, 10, 11, 12, 13, 14, 15, 16, 17, 18, 19, 20, 21] rfl, hD.sub [0, 1, 2, 3, 4, 5, 6, 7, 8, 9, 10, 11, 12, 13, 14, 15, 16, 17, 18, 19, 20, 21] (by decide +kernel) rfl⟩, hS.F ht⟩) hS.2.2 dX12_copy_57
        · refine va_aldq hx hb hE.1 hP 1 6 rfl rfl (by unfold vp_in; decide) dX12_copy_34 ?_
          refine W.eq (g2 := F0 m 35 ls [.ref t1]) rfl ?_
          refine lv_astore (lv' := [(7, .ref t1), (6, .ref t0), (0, .ref h0), (1, .int 0), (2, .int x2), (3, .int 1), (4, .int x4), (5, .int x5)]) hx hb dX12_copy_35 hl (by decide +kernel) rfl (fun ls hl => ?_)
          refine lv_aload hx hb dX12_copy_37 (lv_at hl 1 rfl) ?_
          refine va_get (D := D) (ci := 6) (v := .int (so 0)) (C := RX9) (T := TX9) (N := 6) hx hb hts in_X12_copy_X9 hown hE.1 hP 2 rfl rfl 0 (by decide +kernel) (hts (.fieldLink RX12 277 "ClauseBook$Sheet" "sort" "I") (List.mem_of_getElem? (i := 2) rfl)) (fun _ h9 => h9) rfl dX12_copy_39 ?_
          refine lv_iconst (v := (-1)) hx hb dX12_copy_42 (by decide +kernel) ?_
          refine lv_icmp_eq (tgt := 55) hx hb dX12_copy_43 (by decide +kernel) (fun c_17 => ?_) (fun c_17 => ?_)
          · rw [fa_eq] at c_17
            try rw [ti_n1] at c_17
            refine lv_bipush (v := (-11)) hx hb dX12_copy_55 (by decide +kernel) ?_
            exact W.iret hx hb hr (fun t ht hW => ⟨⟨_, ((fun k => [(si 0), (si 1), (si 2), (si 3)].getD k (si 0)), (fun k => [(sl 0), (sl 1), (sl 2), (sl 3)].getD k (sl 0)), (fun k => [(sf 0), (sf 1), (sf 2), (sf 3)].getD k (sf 0)), (fun k => [(sd 0), (sd 1), (sd 2), (sd 3)].getD k (sd 0))), rfl, (by (try dsimp only); have h9a1 : (so ((0 : Int32).toNatClampNeg)).toInt = (so 0).toInt := rfl; have h9b1 : (sn ((0 : Int32).toNatClampNeg)).toInt = (sn 0).toInt := rfl; have h9c1 : (0 : Int32).toInt = 0 := (by decide +kernel); have h9a3 : (so ((1 : Int32).toNatClampNeg)).toInt = (so 1).toInt := rfl; have h9b3 : (sn ((1 : Int32).toNatClampNeg)).toInt = (sn 1).toInt := rfl; have h9c3 : (1 : Int32).toInt = 1 := (by decide +kernel); have h9r : ((-11) : Int32).toInt = -11 := (by decide +kernel); omega), by rw [ht]; exact hP.sub [0, 1, 2, 3, 4, 5, 6, 7, 8, 9, 10, 11, 12, 13, 14, 15, 16, 17, 18, 19, 20, 21] rfl, hD.sub [0, 1, 2, 3, 4, 5, 6, 7, 8, 9, 10, 11, 12, 13, 14, 15, 16, 17, 18, 19, 20, 21] (by decide +kernel) rfl⟩, hS.F ht⟩) hS.2.2 dX12_copy_57
          · rw [fa_eq] at c_17
            try rw [ti_n1] at c_17
            refine lv_aload hx hb dX12_copy_46 (lv_at hl 0 rfl) ?_
            refine va_get (D := D) (ci := 6) (v := .int (so 1)) (C := RX9) (T := TX9) (N := 6) hx hb hts in_X12_copy_X9 hown hE.1 hP 3 rfl rfl 0 (by decide +kernel) (hts (.fieldLink RX12 277 "ClauseBook$Sheet" "sort" "I") (List.mem_of_getElem? (i := 2) rfl)) (fun _ h9 => h9) rfl dX12_copy_48 ?_
            refine lv_iconst (v := (-1)) hx hb dX12_copy_51 (by decide +kernel) ?_
            refine lv_icmp_ne (tgt := 58) hx hb dX12_copy_52 (by decide +kernel) (fun c_18 => ?_) (fun c_18 => ?_)
            · rw [fa_eq] at c_18
              try rw [ti_n1] at c_18
              refine lv_aload hx hb dX12_copy_58 (lv_at hl 1 rfl) ?_
              refine va_get (D := D) (ci := 6) (v := .int (so 0)) (C := RX9) (T := TX9) (N := 6) hx hb hts in_X12_copy_X9 hown hE.1 hP 2 rfl rfl 0 (by decide +kernel) (hts (.fieldLink RX12 277 "ClauseBook$Sheet" "sort" "I") (List.mem_of_getElem? (i := 2) rfl)) (fun _ h9 => h9) rfl dX12_copy_60 ?_
              refine lv_aload hx hb dX12_copy_63 (lv_at hl 0 rfl) ?_
              refine va_get (D := D) (ci := 6) (v := .int (so 1)) (C := RX9) (T := TX9) (N := 6) hx hb hts in_X12_copy_X9 hown hE.1 hP 3 rfl rfl 0 (by decide +kernel) (hts (.fieldLink RX12 277 "ClauseBook$Sheet" "sort" "I") (List.mem_of_getElem? (i := 2) rfl)) (fun _ h9 => h9) rfl dX12_copy_65 ?_
              refine lv_icmp_eq (tgt := 74) hx hb dX12_copy_68 (by decide +kernel) (fun c_19 => ?_) (fun c_19 => ?_)
              · rw [fa_eq] at c_19
                refine lv_aload hx hb dX12_copy_74 (lv_at hl 1 rfl) ?_
                refine lv_iload_n hx hb dX12_copy_76 rfl (lv_at hl 4 rfl) ?_
                refine lv_iload hx hb dX12_copy_77 (lv_at hl 7 rfl) ?_
                refine vp_callSi (W.runV (As := [.int x2, .int x5]) (rest := []) ⟨hx, hb, hml, hown, hts⟩ (c_X9_hasRun l D T t0 [.int (so 0), .int (sn 0), .ref a00, .ref a01, .ref a02, .ref a03] x2 x5 (sn 0) rfl (by omega)) (cwV 2 hts gX12_copy_X9_hasRun rfl rfl rfl hv_X9_hasRun ⟨Nat.le_of_ble_eq_true rfl, Nat.le_of_ble_eq_true rfl⟩) (pR_V (q := (RX9, TX9, 6)) (ci := 6) (q0 := 2) hP hE rfl rfl [2] rfl) rfl rfl hl.1 rfl (lv_room (Nat.le_of_ble_eq_true rfl)) dX12_copy_79 ⟨Nat.le_of_ble_eq_true rfl, Nat.le_of_ble_eq_true rfl⟩) (fun r_20 hr_20 => ?_)
                rcases bool_post hr_20 with ⟨c_21, rfl⟩ | ⟨c_21, rfl⟩
                · refine lv_if_eq (tgt := 97) hx hb dX12_copy_82 (by decide +kernel) (fun c9 => absurd c9 (by decide +kernel)) (fun _ => ?_)
                  refine lv_aload hx hb dX12_copy_85 (lv_at hl 0 rfl) ?_
                  refine lv_iload hx hb dX12_copy_87 (lv_at hl 6 rfl) ?_
                  refine lv_iload hx hb dX12_copy_89 (lv_at hl 7 rfl) ?_
                  refine vp_callSi (W.runV (As := [.int x4, .int x5]) (rest := []) ⟨hx, hb, hml, hown, hts⟩ (c_X9_hasRun l D T t1 [.int (so 1), .int (sn 1), .ref a10, .ref a11, .ref a12, .ref a13] x4 x5 (sn 1) rfl (by omega)) (cwV 2 hts gX12_copy_X9_hasRun rfl rfl rfl hv_X9_hasRun ⟨Nat.le_of_ble_eq_true rfl, Nat.le_of_ble_eq_true rfl⟩) (pR_V (q := (RX9, TX9, 6)) (ci := 6) (q0 := 3) hP hE rfl rfl [3] rfl) rfl rfl hl.1 rfl (lv_room (Nat.le_of_ble_eq_true rfl)) dX12_copy_91 ⟨Nat.le_of_ble_eq_true rfl, Nat.le_of_ble_eq_true rfl⟩) (fun r_22 hr_22 => ?_)
                  rcases bool_post hr_22 with ⟨c_23, rfl⟩ | ⟨c_23, rfl⟩
                  · refine lv_if_ne (tgt := 100) hx hb dX12_copy_94 (by decide +kernel) (fun _ => ?_) (fun c9 => absurd c9 (by decide +kernel))
                    refine lv_aload hx hb dX12_copy_100 (lv_at hl 0 rfl) ?_
                    refine lv_aload hx hb dX12_copy_102 (lv_at hl 1 rfl) ?_
                    refine lv_iload_n hx hb dX12_copy_104 rfl (lv_at hl 4 rfl) ?_
                    refine lv_iload hx hb dX12_copy_105 (lv_at hl 6 rfl) ?_
                    refine lv_iload hx hb dX12_copy_107 (lv_at hl 7 rfl) ?_
                    have hFc := va_free (wc := [(t1, .inr (6, [.int (so 1), .int (sn 1), .ref a10, .ref a11, .ref a12, .ref a13])), (a10, .inl (T 0, 30, .inl (si 1))), (a11, .inl (T 1, 30, .inr (.inl (sl 1)))), (a12, .inl (T 2, 30, .inr (.inr (.inl (sf 1))))), (a13, .inl (T 3, 30, .inr (.inr (.inr (.inl (sd 1)))))), (t0, .inr (6, [.int (so 0), .int (sn 0), .ref a00, .ref a01, .ref a02, .ref a03])), (a00, .inl (T 0, 30, .inl (si 0))), (a01, .inl (T 1, 30, .inr (.inl (sl 0)))), (a02, .inl (T 2, 30, .inr (.inr (.inl (sf 0))))), (a03, .inl (T 3, 30, .inr (.inr (.inr (.inl (sd 0))))))]) hD hS hA [3, 10, 11, 12, 13, 2, 6, 7, 8, 9] rfl
                    refine va_callv (va_runV (As := [.ref t0, .int x2, .int x4, .int x5]) (rest := []) ⟨hx, hb, hml, hown, hts⟩ (c_X9_moveFrom l D T _ t1 (so 1) (sn 1) a10 a11 a12 a13 (si 1) (sl 1) (sf 1) (sd 1) t0 (so 0) (sn 0) a00 a01 a02 a03 (si 0) (sl 0) (sf 0) (sd 0) x2 x4 x5 (by omega) (by omega)) (cwV 4 hts gX12_copy_X9_moveFrom rfl rfl rfl hv_X9_moveFrom ⟨Nat.le_of_ble_eq_true rfl, Nat.le_of_ble_eq_true rfl⟩) (pW_V (q := (RX9, TX9, 6)) (ci := 6) (q0 := 3) hP hE hD rfl rfl [3, 10, 11, 12, 13, 2, 6, 7, 8, 9] (by decide +kernel) rfl rfl) rfl rfl hl.1 rfl (lv_room (Nat.le_of_ble_eq_true rfl)) dX12_copy_109 ⟨Nat.le_of_ble_eq_true rfl, Nat.le_of_ble_eq_true rfl⟩) hS (fun q _ h => hFc q h) hFc (fun u_25 t H1 locs ht hvm hr_24 hB hz1 hk1 hS => ?_)
                    obtain ⟨f_26, f_27, f_28, f_29⟩ := u_25
                    obtain ⟨hP1, hD1⟩ := hB
                    rw [ht] at hP1
                    obtain ⟨hP, hD⟩ := va_repl [(h0, .inr (9, fs0)), (h1, .inl (T 6, 4, .inr (.inr (.inr (.inr (va_up (va_up (va_up (va_up (fun _ => none) 0 (some t0)) 1 (some t1)) 2 (some t2)) 3 (some t3))))))), (t0, .inr (6, [.int (so 0), .int (sn 0), .ref a00, .ref a01, .ref a02, .ref a03])), (t1, .inr (6, [.int (so 1), .int (sn 1), .ref a10, .ref a11, .ref a12, .ref a13])), (t2, .inr (6, [.int (so 2), .int (sn 2), .ref a20, .ref a21, .ref a22, .ref a23])), (t3, .inr (6, [.int (so 3), .int (sn 3), .ref a30, .ref a31, .ref a32, .ref a33])), (a00, .inl (T 0, 30, .inl (si 0))), (a01, .inl (T 1, 30, .inr (.inl (sl 0)))), (a02, .inl (T 2, 30, .inr (.inr (.inl (sf 0))))), (a03, .inl (T 3, 30, .inr (.inr (.inr (.inl (sd 0)))))), (a10, .inl (T 0, 30, .inl f_26)), (a11, .inl (T 1, 30, .inr (.inl f_27))), (a12, .inl (T 2, 30, .inr (.inr (.inl f_28)))), (a13, .inl (T 3, 30, .inr (.inr (.inr (.inl f_29))))), (a20, .inl (T 0, 30, .inl (si 2))), (a21, .inl (T 1, 30, .inr (.inl (sl 2)))), (a22, .inl (T 2, 30, .inr (.inr (.inl (sf 2))))), (a23, .inl (T 3, 30, .inr (.inr (.inr (.inl (sd 2)))))), (a30, .inl (T 0, 30, .inl (si 3))), (a31, .inl (T 1, 30, .inr (.inl (sl 3)))), (a32, .inl (T 2, 30, .inr (.inr (.inl (sf 3))))), (a33, .inl (T 3, 30, .inr (.inr (.inr (.inl (sd 3))))))] hP hD [3, 10, 11, 12, 13, 2, 6, 7, 8, 9] [2, 3, 6, 7, 8, 9, 10, 11, 12, 13] rfl (by decide +kernel) rfl rfl rfl hk1 (hP1.sub [5, 0, 6, 7, 8, 9, 1, 2, 3, 4] rfl)
                    clear hP1 hD1 hFc
                    generalize H1 = H at hP hS ⊢
                    refine lv_iload hx hb dX12_copy_112 (lv_at hl 7 rfl) ?_
                    exact W.iret hx hb hr (fun t ht hW => ⟨⟨_, ((fun k => [(si 0), f_26, (si 2), (si 3)].getD k (si 0)), (fun k => [(sl 0), f_27, (sl 2), (sl 3)].getD k (sl 0)), (fun k => [(sf 0), f_28, (sf 2), (sf 3)].getD k (sf 0)), (fun k => [(sd 0), f_29, (sd 2), (sd 3)].getD k (sd 0))), rfl, (by (try dsimp only); have h9a1 : (so ((0 : Int32).toNatClampNeg)).toInt = (so 0).toInt := rfl; have h9b1 : (sn ((0 : Int32).toNatClampNeg)).toInt = (sn 0).toInt := rfl; have h9c1 : (0 : Int32).toInt = 0 := (by decide +kernel); have h9a3 : (so ((1 : Int32).toNatClampNeg)).toInt = (so 1).toInt := rfl; have h9b3 : (sn ((1 : Int32).toNatClampNeg)).toInt = (sn 1).toInt := rfl; have h9c3 : (1 : Int32).toInt = 1 := (by decide +kernel); omega), by rw [ht]; exact hP.sub [0, 1, 2, 3, 4, 5, 6, 7, 8, 9, 10, 11, 12, 13, 14, 15, 16, 17, 18, 19, 20, 21] rfl, hD.sub [0, 1, 2, 3, 4, 5, 6, 7, 8, 9, 10, 11, 12, 13, 14, 15, 16, 17, 18, 19, 20, 21] (by decide +kernel) rfl⟩, hS.F ht⟩) hS.2.2 dX12_copy_114
                  · refine lv_if_ne (tgt := 100) hx hb dX12_copy_94 (by decide +kernel) (fun c9 => absurd c9 (by decide +kernel)) (fun _ => ?_)
                    refine lv_bipush (v := (-12)) hx hb dX12_copy_97 (by decide +kernel) ?_
                    exact W.iret hx hb hr (fun t ht hW => ⟨⟨_, ((fun k => [(si 0), (si 1), (si 2), (si 3)].getD k (si 0)), (fun k => [(sl 0), (sl 1), (sl 2), (sl 3)].getD k (sl 0)), (fun k => [(sf 0), (sf 1), (sf 2), (sf 3)].getD k (sf 0)), (fun k => [(sd 0), (sd 1), (sd 2), (sd 3)].getD k (sd 0))), rfl, (by (try dsimp only); have h9a1 : (so ((0 : Int32).toNatClampNeg)).toInt = (so 0).toInt := rfl; have h9b1 : (sn ((0 : Int32).toNatClampNeg)).toInt = (sn 0).toInt := rfl; have h9c1 : (0 : Int32).toInt = 0 := (by decide +kernel); have h9a3 : (so ((1 : Int32).toNatClampNeg)).toInt = (so 1).toInt := rfl; have h9b3 : (sn ((1 : Int32).toNatClampNeg)).toInt = (sn 1).toInt := rfl; have h9c3 : (1 : Int32).toInt = 1 := (by decide +kernel); have h9r : ((-12) : Int32).toInt = -12 := (by decide +kernel); omega), by rw [ht]; exact hP.sub [0, 1, 2, 3, 4, 5, 6, 7, 8, 9, 10, 11, 12, 13, 14, 15, 16, 17, 18, 19, 20, 21] rfl, hD.sub [0, 1, 2, 3, 4, 5, 6, 7, 8, 9, 10, 11, 12, 13, 14, 15, 16, 17, 18, 19, 20, 21] (by decide +kernel) rfl⟩, hS.F ht⟩) hS.2.2 dX12_copy_99
                · refine lv_if_eq (tgt := 97) hx hb dX12_copy_82 (by decide +kernel) (fun _ => ?_) (fun c9 => absurd c9 (by decide +kernel))
                  refine lv_bipush (v := (-12)) hx hb dX12_copy_97 (by decide +kernel) ?_
                  exact W.iret hx hb hr (fun t ht hW => ⟨⟨_, ((fun k => [(si 0), (si 1), (si 2), (si 3)].getD k (si 0)), (fun k => [(sl 0), (sl 1), (sl 2), (sl 3)].getD k (sl 0)), (fun k => [(sf 0), (sf 1), (sf 2), (sf 3)].getD k (sf 0)), (fun k => [(sd 0), (sd 1), (sd 2), (sd 3)].getD k (sd 0))), rfl, (by (try dsimp only); have h9a1 : (so ((0 : Int32).toNatClampNeg)).toInt = (so 0).toInt := rfl; have h9b1 : (sn ((0 : Int32).toNatClampNeg)).toInt = (sn 0).toInt := rfl; have h9c1 : (0 : Int32).toInt = 0 := (by decide +kernel); have h9a3 : (so ((1 : Int32).toNatClampNeg)).toInt = (so 1).toInt := rfl; have h9b3 : (sn ((1 : Int32).toNatClampNeg)).toInt = (sn 1).toInt := rfl; have h9c3 : (1 : Int32).toInt = 1 := (by decide +kernel); have h9r : ((-12) : Int32).toInt = -12 := (by decide +kernel); omega), by rw [ht]; exact hP.sub [0, 1, 2, 3, 4, 5, 6, 7, 8, 9, 10, 11, 12, 13, 14, 15, 16, 17, 18, 19, 20, 21] rfl, hD.sub [0, 1, 2, 3, 4, 5, 6, 7, 8, 9, 10, 11, 12, 13, 14, 15, 16, 17, 18, 19, 20, 21] (by decide +kernel) rfl⟩, hS.F ht⟩) hS.2.2 dX12_copy_99
              · rw [fa_eq] at c_19
                refine lv_bipush (v := (-13)) hx hb dX12_copy_71 (by decide +kernel) ?_
                exact W.iret hx hb hr (fun t ht hW => ⟨⟨_, ((fun k => [(si 0), (si 1), (si 2), (si 3)].getD k (si 0)), (fun k => [(sl 0), (sl 1), (sl 2), (sl 3)].getD k (sl 0)), (fun k => [(sf 0), (sf 1), (sf 2), (sf 3)].getD k (sf 0)), (fun k => [(sd 0), (sd 1), (sd 2), (sd 3)].getD k (sd 0))), rfl, (by (try dsimp only); have h9a1 : (so ((0 : Int32).toNatClampNeg)).toInt = (so 0).toInt := rfl; have h9b1 : (sn ((0 : Int32).toNatClampNeg)).toInt = (sn 0).toInt := rfl; have h9c1 : (0 : Int32).toInt = 0 := (by decide +kernel); have h9a3 : (so ((1 : Int32).toNatClampNeg)).toInt = (so 1).toInt := rfl; have h9b3 : (sn ((1 : Int32).toNatClampNeg)).toInt = (sn 1).toInt := rfl; have h9c3 : (1 : Int32).toInt = 1 := (by decide +kernel); have h9r : ((-13) : Int32).toInt = -13 := (by decide +kernel); omega), by rw [ht]; exact hP.sub [0, 1, 2, 3, 4, 5, 6, 7, 8, 9, 10, 11, 12, 13, 14, 15, 16, 17, 18, 19, 20, 21] rfl, hD.sub [0, 1, 2, 3, 4, 5, 6, 7, 8, 9, 10, 11, 12, 13, 14, 15, 16, 17, 18, 19, 20, 21] (by decide +kernel) rfl⟩, hS.F ht⟩) hS.2.2 dX12_copy_73
            · rw [fa_eq] at c_18
              try rw [ti_n1] at c_18
              refine lv_bipush (v := (-11)) hx hb dX12_copy_55 (by decide +kernel) ?_
              exact W.iret hx hb hr (fun t ht hW => ⟨⟨_, ((fun k => [(si 0), (si 1), (si 2), (si 3)].getD k (si 0)), (fun k => [(sl 0), (sl 1), (sl 2), (sl 3)].getD k (sl 0)), (fun k => [(sf 0), (sf 1), (sf 2), (sf 3)].getD k (sf 0)), (fun k => [(sd 0), (sd 1), (sd 2), (sd 3)].getD k (sd 0))), rfl, (by (try dsimp only); have h9a1 : (so ((0 : Int32).toNatClampNeg)).toInt = (so 0).toInt := rfl; have h9b1 : (sn ((0 : Int32).toNatClampNeg)).toInt = (sn 0).toInt := rfl; have h9c1 : (0 : Int32).toInt = 0 := (by decide +kernel); have h9a3 : (so ((1 : Int32).toNatClampNeg)).toInt = (so 1).toInt := rfl; have h9b3 : (sn ((1 : Int32).toNatClampNeg)).toInt = (sn 1).toInt := rfl; have h9c3 : (1 : Int32).toInt = 1 := (by decide +kernel); have h9r : ((-11) : Int32).toInt = -11 := (by decide +kernel); omega), by rw [ht]; exact hP.sub [0, 1, 2, 3, 4, 5, 6, 7, 8, 9, 10, 11, 12, 13, 14, 15, 16, 17, 18, 19, 20, 21] rfl, hD.sub [0, 1, 2, 3, 4, 5, 6, 7, 8, 9, 10, 11, 12, 13, 14, 15, 16, 17, 18, 19, 20, 21] (by decide +kernel) rfl⟩, hS.F ht⟩) hS.2.2 dX12_copy_57
        · refine va_aldq hx hb hE.1 hP 1 6 rfl rfl (by unfold vp_in; decide) dX12_copy_34 ?_
          refine W.eq (g2 := F0 m 35 ls [.ref t2]) rfl ?_
          refine lv_astore (lv' := [(7, .ref t2), (6, .ref t0), (0, .ref h0), (1, .int 0), (2, .int x2), (3, .int 2), (4, .int x4), (5, .int x5)]) hx hb dX12_copy_35 hl (by decide +kernel) rfl (fun ls hl => ?_)
          refine lv_aload hx hb dX12_copy_37 (lv_at hl 1 rfl) ?_
          refine va_get (D := D) (ci := 6) (v := .int (so 0)) (C := RX9) (T := TX9) (N := 6) hx hb hts in_X12_copy_X9 hown hE.1 hP 2 rfl rfl 0 (by decide +kernel) (hts (.fieldLink RX12 277 "ClauseBook$Sheet" "sort" "I") (List.mem_of_getElem? (i := 2) rfl)) (fun _ h9 => h9) rfl dX12_copy_39 ?_
          refine lv_iconst (v := (-1)) hx hb dX12_copy_42 (by decide +kernel) ?_
          refine lv_icmp_eq (tgt := 55) hx hb dX12_copy_43 (by decide +kernel) (fun c_30 => ?_) (fun c_30 => ?_)
          · rw [fa_eq] at c_30
            try rw [ti_n1] at c_30
            refine lv_bipush (v := (-11)) hx hb dX12_copy_55 (by decide +kernel) ?_
            exact W.iret hx hb hr (fun t ht hW => ⟨⟨_, ((fun k => [(si 0), (si 1), (si 2), (si 3)].getD k (si 0)), (fun k => [(sl 0), (sl 1), (sl 2), (sl 3)].getD k (sl 0)), (fun k => [(sf 0), (sf 1), (sf 2), (sf 3)].getD k (sf 0)), (fun k => [(sd 0), (sd 1), (sd 2), (sd 3)].getD k (sd 0))), rfl, (by (try dsimp only); have h9a1 : (so ((0 : Int32).toNatClampNeg)).toInt = (so 0).toInt := rfl; have h9b1 : (sn ((0 : Int32).toNatClampNeg)).toInt = (sn 0).toInt := rfl; have h9c1 : (0 : Int32).toInt = 0 := (by decide +kernel); have h9a3 : (so ((2 : Int32).toNatClampNeg)).toInt = (so 2).toInt := rfl; have h9b3 : (sn ((2 : Int32).toNatClampNeg)).toInt = (sn 2).toInt := rfl; have h9c3 : (2 : Int32).toInt = 2 := (by decide +kernel); have h9r : ((-11) : Int32).toInt = -11 := (by decide +kernel); omega), by rw [ht]; exact hP.sub [0, 1, 2, 3, 4, 5, 6, 7, 8, 9, 10, 11, 12, 13, 14, 15, 16, 17, 18, 19, 20, 21] rfl, hD.sub [0, 1, 2, 3, 4, 5, 6, 7, 8, 9, 10, 11, 12, 13, 14, 15, 16, 17, 18, 19, 20, 21] (by decide +kernel) rfl⟩, hS.F ht⟩) hS.2.2 dX12_copy_57
          · rw [fa_eq] at c_30
            try rw [ti_n1] at c_30
            refine lv_aload hx hb dX12_copy_46 (lv_at hl 0 rfl) ?_
            refine va_get (D := D) (ci := 6) (v := .int (so 2)) (C := RX9) (T := TX9) (N := 6) hx hb hts in_X12_copy_X9 hown hE.1 hP 4 rfl rfl 0 (by decide +kernel) (hts (.fieldLink RX12 277 "ClauseBook$Sheet" "sort" "I") (List.mem_of_getElem? (i := 2) rfl)) (fun _ h9 => h9) rfl dX12_copy_48 ?_
            refine lv_iconst (v := (-1)) hx hb dX12_copy_51 (by decide +kernel) ?_
            refine lv_icmp_ne (tgt := 58) hx hb dX12_copy_52 (by decide +kernel) (fun c_31 => ?_) (fun c_31 => ?_)
            · rw [fa_eq] at c_31
              try rw [ti_n1] at c_31
              refine lv_aload hx hb dX12_copy_58 (lv_at hl 1 rfl) ?_
              refine va_get (D := D) (ci := 6) (v := .int (so 0)) (C := RX9) (T := TX9) (N := 6) hx hb hts in_X12_copy_X9 hown hE.1 hP 2 rfl rfl 0 (by decide +kernel) (hts (.fieldLink RX12 277 "ClauseBook$Sheet" "sort" "I") (List.mem_of_getElem? (i := 2) rfl)) (fun _ h9 => h9) rfl dX12_copy_60 ?_
              refine lv_aload hx hb dX12_copy_63 (lv_at hl 0 rfl) ?_
              refine va_get (D := D) (ci := 6) (v := .int (so 2)) (C := RX9) (T := TX9) (N := 6) hx hb hts in_X12_copy_X9 hown hE.1 hP 4 rfl rfl 0 (by decide +kernel) (hts (.fieldLink RX12 277 "ClauseBook$Sheet" "sort" "I") (List.mem_of_getElem? (i := 2) rfl)) (fun _ h9 => h9) rfl dX12_copy_65 ?_
              refine lv_icmp_eq (tgt := 74) hx hb dX12_copy_68 (by decide +kernel) (fun c_32 => ?_) (fun c_32 => ?_)
              · rw [fa_eq] at c_32
                refine lv_aload hx hb dX12_copy_74 (lv_at hl 1 rfl) ?_
                refine lv_iload_n hx hb dX12_copy_76 rfl (lv_at hl 4 rfl) ?_
                refine lv_iload hx hb dX12_copy_77 (lv_at hl 7 rfl) ?_
                refine vp_callSi (W.runV (As := [.int x2, .int x5]) (rest := []) ⟨hx, hb, hml, hown, hts⟩ (c_X9_hasRun l D T t0 [.int (so 0), .int (sn 0), .ref a00, .ref a01, .ref a02, .ref a03] x2 x5 (sn 0) rfl (by omega)) (cwV 2 hts gX12_copy_X9_hasRun rfl rfl rfl hv_X9_hasRun ⟨Nat.le_of_ble_eq_true rfl, Nat.le_of_ble_eq_true rfl⟩) (pR_V (q := (RX9, TX9, 6)) (ci := 6) (q0 := 2) hP hE rfl rfl [2] rfl) rfl rfl hl.1 rfl (lv_room (Nat.le_of_ble_eq_true rfl)) dX12_copy_79 ⟨Nat.le_of_ble_eq_true rfl, Nat.le_of_ble_eq_true rfl⟩) (fun r_33 hr_33 => ?_)
                rcases bool_post hr_33 with ⟨c_34, rfl⟩ | ⟨c_34, rfl⟩
                · refine lv_if_eq (tgt := 97) hx hb dX12_copy_82 (by decide +kernel) (fun c9 => absurd c9 (by decide +kernel)) (fun _ => ?_)
                  refine lv_aload hx hb dX12_copy_85 (lv_at hl 0 rfl) ?_
                  refine lv_iload hx hb dX12_copy_87 (lv_at hl 6 rfl) ?_
                  refine lv_iload hx hb dX12_copy_89 (lv_at hl 7 rfl) ?_
                  refine vp_callSi (W.runV (As := [.int x4, .int x5]) (rest := []) ⟨hx, hb, hml, hown, hts⟩ (c_X9_hasRun l D T t2 [.int (so 2), .int (sn 2), .ref a20, .ref a21, .ref a22, .ref a23] x4 x5 (sn 2) rfl (by omega)) (cwV 2 hts gX12_copy_X9_hasRun rfl rfl rfl hv_X9_hasRun ⟨Nat.le_of_ble_eq_true rfl, Nat.le_of_ble_eq_true rfl⟩) (pR_V (q := (RX9, TX9, 6)) (ci := 6) (q0 := 4) hP hE rfl rfl [4] rfl) rfl rfl hl.1 rfl (lv_room (Nat.le_of_ble_eq_true rfl)) dX12_copy_91 ⟨Nat.le_of_ble_eq_true rfl, Nat.le_of_ble_eq_true rfl⟩) (fun r_35 hr_35 => ?_)
                  rcases bool_post hr_35 with ⟨c_36, rfl⟩ | ⟨c_36, rfl⟩
                  · refine lv_if_ne (tgt := 100) hx hb dX12_copy_94 (by decide +kernel) (fun _ => ?_) (fun c9 => absurd c9 (by decide +kernel))
                    refine lv_aload hx hb dX12_copy_100 (lv_at hl 0 rfl) ?_
                    refine lv_aload hx hb dX12_copy_102 (lv_at hl 1 rfl) ?_
                    refine lv_iload_n hx hb dX12_copy_104 rfl (lv_at hl 4 rfl) ?_
                    refine lv_iload hx hb dX12_copy_105 (lv_at hl 6 rfl) ?_
                    refine lv_iload hx hb dX12_copy_107 (lv_at hl 7 rfl) ?_
                    have hFc := va_free (wc := [(t2, .inr (6, [.int (so 2), .int (sn 2), .ref a20, .ref a21, .ref a22, .ref a23])), (a20, .inl (T 0, 30, .inl (si 2))), (a21, .inl (T 1, 30, .inr (.inl (sl 2)))), (a22, .inl (T 2, 30, .inr (.inr (.inl (sf 2))))), (a23, .inl (T 3, 30, .inr (.inr (.inr (.inl (sd 2)))))), (t0, .inr (6, [.int (so 0), .int (sn 0), .ref a00, .ref a01, .ref a02, .ref a03])), (a00, .inl (T 0, 30, .inl (si 0))), (a01, .inl (T 1, 30, .inr (.inl (sl 0)))), (a02, .inl (T 2, 30, .inr (.inr (.inl (sf 0))))), (a03, .inl (T 3, 30, .inr (.inr (.inr (.inl (sd 0))))))]) hD hS hA [4, 14, 15, 16, 17, 2, 6, 7, 8, 9] rfl
                    refine va_callv (va_runV (As := [.ref t0, .int x2, .int x4, .int x5]) (rest := []) ⟨hx, hb, hml, hown, hts⟩ (c_X9_moveFrom l D T _ t2 (so 2) (sn 2) a20 a21 a22 a23 (si 2) (sl 2) (sf 2) (sd 2) t0 (so 0) (sn 0) a00 a01 a02 a03 (si 0) (sl 0) (sf 0) (sd 0) x2 x4 x5 (by omega) (by omega)) (cwV 4 hts gX12_copy_X9_moveFrom rfl rfl rfl hv_X9_moveFrom ⟨Nat.le_of_ble_eq_true rfl, Nat.le_of_ble_eq_true rfl⟩) (pW_V (q := (RX9, TX9, 6)) (ci := 6) (q0 := 4) hP hE hD rfl rfl [4, 14, 15, 16, 17, 2, 6, 7, 8, 9] (by decide +kernel) rfl rfl) rfl rfl hl.1 rfl (lv_room (Nat.le_of_ble_eq_true rfl)) dX12_copy_109 ⟨Nat.le_of_ble_eq_true rfl, Nat.le_of_ble_eq_true rfl⟩) hS (fun q _ h => hFc q h) hFc (fun u_38 t H1 locs ht hvm hr_37 hB hz1 hk1 hS => ?_)
                    obtain ⟨f_39, f_40, f_41, f_42⟩ := u_38
                    obtain ⟨hP1, hD1⟩ := hB
                    rw [ht] at hP1
                    obtain ⟨hP, hD⟩ := va_repl [(h0, .inr (9, fs0)), (h1, .inl (T 6, 4, .inr (.inr (.inr (.inr (va_up (va_up (va_up (va_up (fun _ => none) 0 (some t0)) 1 (some t1)) 2 (some t2)) 3 (some t3))))))), (t0, .inr (6, [.int (so 0), .int (sn 0), .ref a00, .ref a01, .ref a02, .ref a03])), (t1, .inr (6, [.int (so 1), .int (sn 1), .ref a10, .ref a11, .ref a12, .ref a13])), (t2, .inr (6, [.int (so 2), .int (sn 2), .ref a20, .ref a21, .ref a22, .ref a23])), (t3, .inr (6, [.int (so 3), .int (sn 3), .ref a30, .ref a31, .ref a32, .ref a33])), (a00, .inl (T 0, 30, .inl (si 0))), (a01, .inl (T 1, 30, .inr (.inl (sl 0)))), (a02, .inl (T 2, 30, .inr (.inr (.inl (sf 0))))), (a03, .inl (T 3, 30, .inr (.inr (.inr (.inl (sd 0)))))), (a10, .inl (T 0, 30, .inl (si 1))), (a11, .inl (T 1, 30, .inr (.inl (sl 1)))), (a12, .inl (T 2, 30, .inr (.inr (.inl (sf 1))))), (a13, .inl (T 3, 30, .inr (.inr (.inr (.inl (sd 1)))))), (a20, .inl (T 0, 30, .inl f_39)), (a21, .inl (T 1, 30, .inr (.inl f_40))), (a22, .inl (T 2, 30, .inr (.inr (.inl f_41)))), (a23, .inl (T 3, 30, .inr (.inr (.inr (.inl f_42))))), (a30, .inl (T 0, 30, .inl (si 3))), (a31, .inl (T 1, 30, .inr (.inl (sl 3)))), (a32, .inl (T 2, 30, .inr (.inr (.inl (sf 3))))), (a33, .inl (T 3, 30, .inr (.inr (.inr (.inl (sd 3))))))] hP hD [4, 14, 15, 16, 17, 2, 6, 7, 8, 9] [2, 4, 6, 7, 8, 9, 14, 15, 16, 17] rfl (by decide +kernel) rfl rfl rfl hk1 (hP1.sub [5, 0, 6, 7, 8, 9, 1, 2, 3, 4] rfl)
                    clear hP1 hD1 hFc
                    generalize H1 = H at hP hS ⊢
                    refine lv_iload hx hb dX12_copy_112 (lv_at hl 7 rfl) ?_
                    exact W.iret hx hb hr (fun t ht hW => ⟨⟨_, ((fun k => [(si 0), (si 1), f_39, (si 3)].getD k (si 0)), (fun k => [(sl 0), (sl 1), f_40, (sl 3)].getD k (sl 0)), (fun k => [(sf 0), (sf 1), f_41, (sf 3)].getD k (sf 0)), (fun k => [(sd 0), (sd 1), f_42, (sd 3)].getD k (sd 0))), rfl, (by (try dsimp only); have h9a1 : (so ((0 : Int32).toNatClampNeg)).toInt = (so 0).toInt := rfl; have h9b1 : (sn ((0 : Int32).toNatClampNeg)).toInt = (sn 0).toInt := rfl; have h9c1 : (0 : Int32).toInt = 0 := (by decide +kernel); have h9a3 : (so ((2 : Int32).toNatClampNeg)).toInt = (so 2).toInt := rfl; have h9b3 : (sn ((2 : Int32).toNatClampNeg)).toInt = (sn 2).toInt := rfl; have h9c3 : (2 : Int32).toInt = 2 := (by decide +kernel); omega), by rw [ht]; exact hP.sub [0, 1, 2, 3, 4, 5, 6, 7, 8, 9, 10, 11, 12, 13, 14, 15, 16, 17, 18, 19, 20, 21] rfl, hD.sub [0, 1, 2, 3, 4, 5, 6, 7, 8, 9, 10, 11, 12, 13, 14, 15, 16, 17, 18, 19, 20, 21] (by decide +kernel) rfl⟩, hS.F ht⟩) hS.2.2 dX12_copy_114
                  · refine lv_if_ne (tgt := 100) hx hb dX12_copy_94 (by decide +kernel) (fun c9 => absurd c9 (by decide +kernel)) (fun _ => ?_)
                    refine lv_bipush (v := (-12)) hx hb dX12_copy_97 (by decide +kernel) ?_
                    exact W.iret hx hb hr (fun t ht hW => ⟨⟨_, ((fun k => [(si 0), (si 1), (si 2), (si 3)].getD k (si 0)), (fun k => [(sl 0), (sl 1), (sl 2), (sl 3)].getD k (sl 0)), (fun k => [(sf 0), (sf 1), (sf 2), (sf 3)].getD k (sf 0)), (fun k => [(sd 0), (sd 1), (sd 2), (sd 3)].getD k (sd 0))), rfl, (by (try dsimp only); have h9a1 : (so ((0 : Int32).toNatClampNeg)).toInt = (so 0).toInt := rfl; have h9b1 : (sn ((0 : Int32).toNatClampNeg)).toInt = (sn 0).toInt := rfl; have h9c1 : (0 : Int32).toInt = 0 := (by decide +kernel); have h9a3 : (so ((2 : Int32).toNatClampNeg)).toInt = (so 2).toInt := rfl; have h9b3 : (sn ((2 : Int32).toNatClampNeg)).toInt = (sn 2).toInt := rfl; have h9c3 : (2 : Int32).toInt = 2 := (by decide +kernel); have h9r : ((-12) : Int32).toInt = -12 := (by decide +kernel); omega), by rw [ht]; exact hP.sub [0, 1, 2, 3, 4, 5, 6, 7, 8, 9, 10, 11, 12, 13, 14, 15, 16, 17, 18, 19, 20, 21] rfl, hD.sub [0, 1, 2, 3, 4, 5, 6, 7, 8, 9, 10, 11, 12, 13, 14, 15, 16, 17, 18, 19, 20, 21] (by decide +kernel) rfl⟩, hS.F ht⟩) hS.2.2 dX12_copy_99
                · refine lv_if_eq (tgt := 97) hx hb dX12_copy_82 (by decide +kernel) (fun _ => ?_) (fun c9 => absurd c9 (by decide +kernel))
                  refine lv_bipush (v := (-12)) hx hb dX12_copy_97 (by decide +kernel) ?_
                  exact W.iret hx hb hr (fun t ht hW => ⟨⟨_, ((fun k => [(si 0), (si 1), (si 2), (si 3)].getD k (si 0)), (fun k => [(sl 0), (sl 1), (sl 2), (sl 3)].getD k (sl 0)), (fun k => [(sf 0), (sf 1), (sf 2), (sf 3)].getD k (sf 0)), (fun k => [(sd 0), (sd 1), (sd 2), (sd 3)].getD k (sd 0))), rfl, (by (try dsimp only); have h9a1 : (so ((0 : Int32).toNatClampNeg)).toInt = (so 0).toInt := rfl; have h9b1 : (sn ((0 : Int32).toNatClampNeg)).toInt = (sn 0).toInt := rfl; have h9c1 : (0 : Int32).toInt = 0 := (by decide +kernel); have h9a3 : (so ((2 : Int32).toNatClampNeg)).toInt = (so 2).toInt := rfl; have h9b3 : (sn ((2 : Int32).toNatClampNeg)).toInt = (sn 2).toInt := rfl; have h9c3 : (2 : Int32).toInt = 2 := (by decide +kernel); have h9r : ((-12) : Int32).toInt = -12 := (by decide +kernel); omega), by rw [ht]; exact hP.sub [0, 1, 2, 3, 4, 5, 6, 7, 8, 9, 10, 11, 12, 13, 14, 15, 16, 17, 18, 19, 20, 21] rfl, hD.sub [0, 1, 2, 3, 4, 5, 6, 7, 8, 9, 10, 11, 12, 13, 14, 15, 16, 17, 18, 19, 20, 21] (by decide +kernel) rfl⟩, hS.F ht⟩) hS.2.2 dX12_copy_99
              · rw [fa_eq] at c_32
                refine lv_bipush (v := (-13)) hx hb dX12_copy_71 (by decide +kernel) ?_
                exact W.iret hx hb hr (fun t ht hW => ⟨⟨_, ((fun k => [(si 0), (si 1), (si 2), (si 3)].getD k (si 0)), (fun k => [(sl 0), (sl 1), (sl 2), (sl 3)].getD k (sl 0)), (fun k => [(sf 0), (sf 1), (sf 2), (sf 3)].getD k (sf 0)), (fun k => [(sd 0), (sd 1), (sd 2), (sd 3)].getD k (sd 0))), rfl, (by (try dsimp only); have h9a1 : (so ((0 : Int32).toNatClampNeg)).toInt = (so 0).toInt := rfl; have h9b1 : (sn ((0 : Int32).toNatClampNeg)).toInt = (sn 0).toInt := rfl; have h9c1 : (0 : Int32).toInt = 0 := (by decide +kernel); have h9a3 : (so ((2 : Int32).toNatClampNeg)).toInt = (so 2).toInt := rfl; have h9b3 : (sn ((2 : Int32).toNatClampNeg)).toInt = (sn 2).toInt := rfl; have h9c3 : (2 : Int32).toInt = 2 := (by decide +kernel); have h9r : ((-13) : Int32).toInt = -13 := (by decide +kernel); omega), by rw [ht]; exact hP.sub [0, 1, 2, 3, 4, 5, 6, 7, 8, 9, 10, 11, 12, 13, 14, 15, 16, 17, 18, 19, 20, 21] rfl, hD.sub [0, 1, 2, 3, 4, 5, 6, 7, 8, 9, 10, 11, 12, 13, 14, 15, 16, 17, 18, 19, 20, 21] (by decide +kernel) rfl⟩, hS.F ht⟩) hS.2.2 dX12_copy_73
            · rw [fa_eq] at c_31
              try rw [ti_n1] at c_31
              refine lv_bipush (v := (-11)) hx hb dX12_copy_55 (by decide +kernel) ?_
              exact W.iret hx hb hr (fun t ht hW => ⟨⟨_, ((fun k => [(si 0), (si 1), (si 2), (si 3)].getD k (si 0)), (fun k => [(sl 0), (sl 1), (sl 2), (sl 3)].getD k (sl 0)), (fun k => [(sf 0), (sf 1), (sf 2), (sf 3)].getD k (sf 0)), (fun k => [(sd 0), (sd 1), (sd 2), (sd 3)].getD k (sd 0))), rfl, (by (try dsimp only); have h9a1 : (so ((0 : Int32).toNatClampNeg)).toInt = (so 0).toInt := rfl; have h9b1 : (sn ((0 : Int32).toNatClampNeg)).toInt = (sn 0).toInt := rfl; have h9c1 : (0 : Int32).toInt = 0 := (by decide +kernel); have h9a3 : (so ((2 : Int32).toNatClampNeg)).toInt = (so 2).toInt := rfl; have h9b3 : (sn ((2 : Int32).toNatClampNeg)).toInt = (sn 2).toInt := rfl; have h9c3 : (2 : Int32).toInt = 2 := (by decide +kernel); have h9r : ((-11) : Int32).toInt = -11 := (by decide +kernel); omega), by rw [ht]; exact hP.sub [0, 1, 2, 3, 4, 5, 6, 7, 8, 9, 10, 11, 12, 13, 14, 15, 16, 17, 18, 19, 20, 21] rfl, hD.sub [0, 1, 2, 3, 4, 5, 6, 7, 8, 9, 10, 11, 12, 13, 14, 15, 16, 17, 18, 19, 20, 21] (by decide +kernel) rfl⟩, hS.F ht⟩) hS.2.2 dX12_copy_57
        · refine va_aldq hx hb hE.1 hP 1 6 rfl rfl (by unfold vp_in; decide) dX12_copy_34 ?_
          refine W.eq (g2 := F0 m 35 ls [.ref t3]) rfl ?_
          refine lv_astore (lv' := [(7, .ref t3), (6, .ref t0), (0, .ref h0), (1, .int 0), (2, .int x2), (3, .int 3), (4, .int x4), (5, .int x5)]) hx hb dX12_copy_35 hl (by decide +kernel) rfl (fun ls hl => ?_)
          refine lv_aload hx hb dX12_copy_37 (lv_at hl 1 rfl) ?_
          refine va_get (D := D) (ci := 6) (v := .int (so 0)) (C := RX9) (T := TX9) (N := 6) hx hb hts in_X12_copy_X9 hown hE.1 hP 2 rfl rfl 0 (by decide +kernel) (hts (.fieldLink RX12 277 "ClauseBook$Sheet" "sort" "I") (List.mem_of_getElem? (i := 2) rfl)) (fun _ h9 => h9) rfl dX12_copy_39 ?_
          refine lv_iconst (v := (-1)) hx hb dX12_copy_42 (by decide +kernel) ?_
          refine lv_icmp_eq (tgt := 55) hx hb dX12_copy_43 (by decide +kernel) (fun c_43 => ?_) (fun c_43 => ?_)
          · rw [fa_eq] at c_43
            try rw [ti_n1] at c_43
            refine lv_bipush (v := (-11)) hx hb dX12_copy_55 (by decide +kernel) ?_
            exact W.iret hx hb hr (fun t ht hW => ⟨⟨_, ((fun k => [(si 0), (si 1), (si 2), (si 3)].getD k (si 0)), (fun k => [(sl 0), (sl 1), (sl 2), (sl 3)].getD k (sl 0)), (fun k => [(sf 0), (sf 1), (sf 2), (sf 3)].getD k (sf 0)), (fun k => [(sd 0), (sd 1), (sd 2), (sd 3)].getD k (sd 0))), rfl, (by (try dsimp only); have h9a1 : (so ((0 : Int32).toNatClampNeg)).toInt = (so 0).toInt := rfl; have h9b1 : (sn ((0 : Int32).toNatClampNeg)).toInt = (sn 0).toInt := rfl; have h9c1 : (0 : Int32).toInt = 0 := (by decide +kernel); have h9a3 : (so ((3 : Int32).toNatClampNeg)).toInt = (so 3).toInt := rfl; have h9b3 : (sn ((3 : Int32).toNatClampNeg)).toInt = (sn 3).toInt := rfl; have h9c3 : (3 : Int32).toInt = 3 := (by decide +kernel); have h9r : ((-11) : Int32).toInt = -11 := (by decide +kernel); omega), by rw [ht]; exact hP.sub [0, 1, 2, 3, 4, 5, 6, 7, 8, 9, 10, 11, 12, 13, 14, 15, 16, 17, 18, 19, 20, 21] rfl, hD.sub [0, 1, 2, 3, 4, 5, 6, 7, 8, 9, 10, 11, 12, 13, 14, 15, 16, 17, 18, 19, 20, 21] (by decide +kernel) rfl⟩, hS.F ht⟩) hS.2.2 dX12_copy_57
          · rw [fa_eq] at c_43
            try rw [ti_n1] at c_43
            refine lv_aload hx hb dX12_copy_46 (lv_at hl 0 rfl) ?_
            refine va_get (D := D) (ci := 6) (v := .int (so 3)) (C := RX9) (T := TX9) (N := 6) hx hb hts in_X12_copy_X9 hown hE.1 hP 5 rfl rfl 0 (by decide +kernel) (hts (.fieldLink RX12 277 "ClauseBook$Sheet" "sort" "I") (List.mem_of_getElem? (i := 2) rfl)) (fun _ h9 => h9) rfl dX12_copy_48 ?_
            refine lv_iconst (v := (-1)) hx hb dX12_copy_51 (by decide +kernel) ?_
            refine lv_icmp_ne (tgt := 58) hx hb dX12_copy_52 (by decide +kernel) (fun c_44 => ?_) (fun c_44 => ?_)
            · rw [fa_eq] at c_44
              try rw [ti_n1] at c_44
              refine lv_aload hx hb dX12_copy_58 (lv_at hl 1 rfl) ?_
              refine va_get (D := D) (ci := 6) (v := .int (so 0)) (C := RX9) (T := TX9) (N := 6) hx hb hts in_X12_copy_X9 hown hE.1 hP 2 rfl rfl 0 (by decide +kernel) (hts (.fieldLink RX12 277 "ClauseBook$Sheet" "sort" "I") (List.mem_of_getElem? (i := 2) rfl)) (fun _ h9 => h9) rfl dX12_copy_60 ?_
              refine lv_aload hx hb dX12_copy_63 (lv_at hl 0 rfl) ?_
              refine va_get (D := D) (ci := 6) (v := .int (so 3)) (C := RX9) (T := TX9) (N := 6) hx hb hts in_X12_copy_X9 hown hE.1 hP 5 rfl rfl 0 (by decide +kernel) (hts (.fieldLink RX12 277 "ClauseBook$Sheet" "sort" "I") (List.mem_of_getElem? (i := 2) rfl)) (fun _ h9 => h9) rfl dX12_copy_65 ?_
              refine lv_icmp_eq (tgt := 74) hx hb dX12_copy_68 (by decide +kernel) (fun c_45 => ?_) (fun c_45 => ?_)
              · rw [fa_eq] at c_45
                refine lv_aload hx hb dX12_copy_74 (lv_at hl 1 rfl) ?_
                refine lv_iload_n hx hb dX12_copy_76 rfl (lv_at hl 4 rfl) ?_
                refine lv_iload hx hb dX12_copy_77 (lv_at hl 7 rfl) ?_
                refine vp_callSi (W.runV (As := [.int x2, .int x5]) (rest := []) ⟨hx, hb, hml, hown, hts⟩ (c_X9_hasRun l D T t0 [.int (so 0), .int (sn 0), .ref a00, .ref a01, .ref a02, .ref a03] x2 x5 (sn 0) rfl (by omega)) (cwV 2 hts gX12_copy_X9_hasRun rfl rfl rfl hv_X9_hasRun ⟨Nat.le_of_ble_eq_true rfl, Nat.le_of_ble_eq_true rfl⟩) (pR_V (q := (RX9, TX9, 6)) (ci := 6) (q0 := 2) hP hE rfl rfl [2] rfl) rfl rfl hl.1 rfl (lv_room (Nat.le_of_ble_eq_true rfl)) dX12_copy_79 ⟨Nat.le_of_ble_eq_true rfl, Nat.le_of_ble_eq_true rfl⟩) (fun r_46 hr_46 => ?_)
                rcases bool_post hr_46 with ⟨c_47, rfl⟩ | ⟨c_47, rfl⟩
                · refine lv_if_eq (tgt := 97) hx hb dX12_copy_82 (by decide +kernel) (fun c9 => absurd c9 (by decide +kernel)) (fun _ => ?_)
                  refine lv_aload hx hb dX12_copy_85 (lv_at hl 0 rfl) ?_
                  refine lv_iload hx hb dX12_copy_87 (lv_at hl 6 rfl) ?_
                  refine lv_iload hx hb dX12_copy_89 (lv_at hl 7 rfl) ?_
                  refine vp_callSi (W.runV (As := [.int x4, .int x5]) (rest := []) ⟨hx, hb, hml, hown, hts⟩ (c_X9_hasRun l D T t3 [.int (so 3), .int (sn 3), .ref a30, .ref a31, .ref a32, .ref a33] x4 x5 (sn 3) rfl (by omega)) (cwV 2 hts gX12_copy_X9_hasRun rfl rfl rfl hv_X9_hasRun ⟨Nat.le_of_ble_eq_true rfl, Nat.le_of_ble_eq_true rfl⟩) (pR_V (q := (RX9, TX9, 6)) (ci := 6) (q0 := 5) hP hE rfl rfl [5] rfl) rfl rfl hl.1 rfl (lv_room (Nat.le_of_ble_eq_true rfl)) dX12_copy_91 ⟨Nat.le_of_ble_eq_true rfl, Nat.le_of_ble_eq_true rfl⟩) (fun r_48 hr_48 => ?_)
                  rcases bool_post hr_48 with ⟨c_49, rfl⟩ | ⟨c_49, rfl⟩
                  · refine lv_if_ne (tgt := 100) hx hb dX12_copy_94 (by decide +kernel) (fun _ => ?_) (fun c9 => absurd c9 (by decide +kernel))
                    refine lv_aload hx hb dX12_copy_100 (lv_at hl 0 rfl) ?_
                    refine lv_aload hx hb dX12_copy_102 (lv_at hl 1 rfl) ?_
                    refine lv_iload_n hx hb dX12_copy_104 rfl (lv_at hl 4 rfl) ?_
                    refine lv_iload hx hb dX12_copy_105 (lv_at hl 6 rfl) ?_
                    refine lv_iload hx hb dX12_copy_107 (lv_at hl 7 rfl) ?_
                    have hFc := va_free (wc := [(t3, .inr (6, [.int (so 3), .int (sn 3), .ref a30, .ref a31, .ref a32, .ref a33])), (a30, .inl (T 0, 30, .inl (si 3))), (a31, .inl (T 1, 30, .inr (.inl (sl 3)))), (a32, .inl (T 2, 30, .inr (.inr (.inl (sf 3))))), (a33, .inl (T 3, 30, .inr (.inr (.inr (.inl (sd 3)))))), (t0, .inr (6, [.int (so 0), .int (sn 0), .ref a00, .ref a01, .ref a02, .ref a03])), (a00, .inl (T 0, 30, .inl (si 0))), (a01, .inl (T 1, 30, .inr (.inl (sl 0)))), (a02, .inl (T 2, 30, .inr (.inr (.inl (sf 0))))), (a03, .inl (T 3, 30, .inr (.inr (.inr (.inl (sd 0))))))]) hD hS hA [5, 18, 19, 20, 21, 2, 6, 7, 8, 9] rfl
                    refine va_callv (va_runV (As := [.ref t0, .int x2, .int x4, .int x5]) (rest := []) ⟨hx, hb, hml, hown, hts⟩ (c_X9_moveFrom l D T _ t3 (so 3) (sn 3) a30 a31 a32 a33 (si 3) (sl 3) (sf 3) (sd 3) t0 (so 0) (sn 0) a00 a01 a02 a03 (si 0) (sl 0) (sf 0) (sd 0) x2 x4 x5 (by omega) (by omega)) (cwV 4 hts gX12_copy_X9_moveFrom rfl rfl rfl hv_X9_moveFrom ⟨Nat.le_of_ble_eq_true rfl, Nat.le_of_ble_eq_true rfl⟩) (pW_V (q := (RX9, TX9, 6)) (ci := 6) (q0 := 5) hP hE hD rfl rfl [5, 18, 19, 20, 21, 2, 6, 7, 8, 9] (by decide +kernel) rfl rfl) rfl rfl hl.1 rfl (lv_room (Nat.le_of_ble_eq_true rfl)) dX12_copy_109 ⟨Nat.le_of_ble_eq_true rfl, Nat.le_of_ble_eq_true rfl⟩) hS (fun q _ h => hFc q h) hFc (fun u_51 t H1 locs ht hvm hr_50 hB hz1 hk1 hS => ?_)
                    obtain ⟨f_52, f_53, f_54, f_55⟩ := u_51
                    obtain ⟨hP1, hD1⟩ := hB
                    rw [ht] at hP1
                    obtain ⟨hP, hD⟩ := va_repl [(h0, .inr (9, fs0)), (h1, .inl (T 6, 4, .inr (.inr (.inr (.inr (va_up (va_up (va_up (va_up (fun _ => none) 0 (some t0)) 1 (some t1)) 2 (some t2)) 3 (some t3))))))), (t0, .inr (6, [.int (so 0), .int (sn 0), .ref a00, .ref a01, .ref a02, .ref a03])), (t1, .inr (6, [.int (so 1), .int (sn 1), .ref a10, .ref a11, .ref a12, .ref a13])), (t2, .inr (6, [.int (so 2), .int (sn 2), .ref a20, .ref a21, .ref a22, .ref a23])), (t3, .inr (6, [.int (so 3), .int (sn 3), .ref a30, .ref a31, .ref a32, .ref a33])), (a00, .inl (T 0, 30, .inl (si 0))), (a01, .inl (T 1, 30, .inr (.inl (sl 0)))), (a02, .inl (T 2, 30, .inr (.inr (.inl (sf 0))))), (a03, .inl (T 3, 30, .inr (.inr (.inr (.inl (sd 0)))))), (a10, .inl (T 0, 30, .inl (si 1))), (a11, .inl (T 1, 30, .inr (.inl (sl 1)))), (a12, .inl (T 2, 30, .inr (.inr (.inl (sf 1))))), (a13, .inl (T 3, 30, .inr (.inr (.inr (.inl (sd 1)))))), (a20, .inl (T 0, 30, .inl (si 2))), (a21, .inl (T 1, 30, .inr (.inl (sl 2)))), (a22, .inl (T 2, 30, .inr (.inr (.inl (sf 2))))), (a23, .inl (T 3, 30, .inr (.inr (.inr (.inl (sd 2)))))), (a30, .inl (T 0, 30, .inl f_52)), (a31, .inl (T 1, 30, .inr (.inl f_53))), (a32, .inl (T 2, 30, .inr (.inr (.inl f_54)))), (a33, .inl (T 3, 30, .inr (.inr (.inr (.inl f_55)))))] hP hD [5, 18, 19, 20, 21, 2, 6, 7, 8, 9] [2, 5, 6, 7, 8, 9, 18, 19, 20, 21] rfl (by decide +kernel) rfl rfl rfl hk1 (hP1.sub [5, 0, 6, 7, 8, 9, 1, 2, 3, 4] rfl)
                    clear hP1 hD1 hFc
                    generalize H1 = H at hP hS ⊢
                    refine lv_iload hx hb dX12_copy_112 (lv_at hl 7 rfl) ?_
                    exact W.iret hx hb hr (fun t ht hW => ⟨⟨_, ((fun k => [(si 0), (si 1), (si 2), f_52].getD k (si 0)), (fun k => [(sl 0), (sl 1), (sl 2), f_53].getD k (sl 0)), (fun k => [(sf 0), (sf 1), (sf 2), f_54].getD k (sf 0)), (fun k => [(sd 0), (sd 1), (sd 2), f_55].getD k (sd 0))), rfl, (by (try dsimp only); have h9a1 : (so ((0 : Int32).toNatClampNeg)).toInt = (so 0).toInt := rfl; have h9b1 : (sn ((0 : Int32).toNatClampNeg)).toInt = (sn 0).toInt := rfl; have h9c1 : (0 : Int32).toInt = 0 := (by decide +kernel); have h9a3 : (so ((3 : Int32).toNatClampNeg)).toInt = (so 3).toInt := rfl; have h9b3 : (sn ((3 : Int32).toNatClampNeg)).toInt = (sn 3).toInt := rfl; have h9c3 : (3 : Int32).toInt = 3 := (by decide +kernel); omega), by rw [ht]; exact hP.sub [0, 1, 2, 3, 4, 5, 6, 7, 8, 9, 10, 11, 12, 13, 14, 15, 16, 17, 18, 19, 20, 21] rfl, hD.sub [0, 1, 2, 3, 4, 5, 6, 7, 8, 9, 10, 11, 12, 13, 14, 15, 16, 17, 18, 19, 20, 21] (by decide +kernel) rfl⟩, hS.F ht⟩) hS.2.2 dX12_copy_114
                  · refine lv_if_ne (tgt := 100) hx hb dX12_copy_94 (by decide +kernel) (fun c9 => absurd c9 (by decide +kernel)) (fun _ => ?_)
                    refine lv_bipush (v := (-12)) hx hb dX12_copy_97 (by decide +kernel) ?_
                    exact W.iret hx hb hr (fun t ht hW => ⟨⟨_, ((fun k => [(si 0), (si 1), (si 2), (si 3)].getD k (si 0)), (fun k => [(sl 0), (sl 1), (sl 2), (sl 3)].getD k (sl 0)), (fun k => [(sf 0), (sf 1), (sf 2), (sf 3)].getD k (sf 0)), (fun k => [(sd 0), (sd 1), (sd 2), (sd 3)].getD k (sd 0))), rfl, (by (try dsimp only); have h9a1 : (so ((0 : Int32).toNatClampNeg)).toInt = (so 0).toInt := rfl; have h9b1 : (sn ((0 : Int32).toNatClampNeg)).toInt = (sn 0).toInt := rfl; have h9c1 : (0 : Int32).toInt = 0 := (by decide +kernel); have h9a3 : (so ((3 : Int32).toNatClampNeg)).toInt = (so 3).toInt := rfl; have h9b3 : (sn ((3 : Int32).toNatClampNeg)).toInt = (sn 3).toInt := rfl; have h9c3 : (3 : Int32).toInt = 3 := (by decide +kernel); have h9r : ((-12) : Int32).toInt = -12 := (by decide +kernel); omega), by rw [ht]; exact hP.sub [0, 1, 2, 3, 4, 5, 6, 7, 8, 9, 10, 11, 12, 13, 14, 15, 16, 17, 18, 19, 20, 21] rfl, hD.sub [0, 1, 2, 3, 4, 5, 6, 7, 8, 9, 10, 11, 12, 13, 14, 15, 16, 17, 18, 19, 20, 21] (by decide +kernel) rfl⟩, hS.F ht⟩) hS.2.2 dX12_copy_99
                · refine lv_if_eq (tgt := 97) hx hb dX12_copy_82 (by decide +kernel) (fun _ => ?_) (fun c9 => absurd c9 (by decide +kernel))
                  refine lv_bipush (v := (-12)) hx hb dX12_copy_97 (by decide +kernel) ?_
                  exact W.iret hx hb hr (fun t ht hW => ⟨⟨_, ((fun k => [(si 0), (si 1), (si 2), (si 3)].getD k (si 0)), (fun k => [(sl 0), (sl 1), (sl 2), (sl 3)].getD k (sl 0)), (fun k => [(sf 0), (sf 1), (sf 2), (sf 3)].getD k (sf 0)), (fun k => [(sd 0), (sd 1), (sd 2), (sd 3)].getD k (sd 0))), rfl, (by (try dsimp only); have h9a1 : (so ((0 : Int32).toNatClampNeg)).toInt = (so 0).toInt := rfl; have h9b1 : (sn ((0 : Int32).toNatClampNeg)).toInt = (sn 0).toInt := rfl; have h9c1 : (0 : Int32).toInt = 0 := (by decide +kernel); have h9a3 : (so ((3 : Int32).toNatClampNeg)).toInt = (so 3).toInt := rfl; have h9b3 : (sn ((3 : Int32).toNatClampNeg)).toInt = (sn 3).toInt := rfl; have h9c3 : (3 : Int32).toInt = 3 := (by decide +kernel); have h9r : ((-12) : Int32).toInt = -12 := (by decide +kernel); omega), by rw [ht]; exact hP.sub [0, 1, 2, 3, 4, 5, 6, 7, 8, 9, 10, 11, 12, 13, 14, 15, 16, 17, 18, 19, 20, 21] rfl, hD.sub [0, 1, 2, 3, 4, 5, 6, 7, 8, 9, 10, 11, 12, 13, 14, 15, 16, 17, 18, 19, 20, 21] (by decide +kernel) rfl⟩, hS.F ht⟩) hS.2.2 dX12_copy_99
              · rw [fa_eq] at c_45
                refine lv_bipush (v := (-13)) hx hb dX12_copy_71 (by decide +kernel) ?_
                exact W.iret hx hb hr (fun t ht hW => ⟨⟨_, ((fun k => [(si 0), (si 1), (si 2), (si 3)].getD k (si 0)), (fun k => [(sl 0), (sl 1), (sl 2), (sl 3)].getD k (sl 0)), (fun k => [(sf 0), (sf 1), (sf 2), (sf 3)].getD k (sf 0)), (fun k => [(sd 0), (sd 1), (sd 2), (sd 3)].getD k (sd 0))), rfl, (by (try dsimp only); have h9a1 : (so ((0 : Int32).toNatClampNeg)).toInt = (so 0).toInt := rfl; have h9b1 : (sn ((0 : Int32).toNatClampNeg)).toInt = (sn 0).toInt := rfl; have h9c1 : (0 : Int32).toInt = 0 := (by decide +kernel); have h9a3 : (so ((3 : Int32).toNatClampNeg)).toInt = (so 3).toInt := rfl; have h9b3 : (sn ((3 : Int32).toNatClampNeg)).toInt = (sn 3).toInt := rfl; have h9c3 : (3 : Int32).toInt = 3 := (by decide +kernel); have h9r : ((-13) : Int32).toInt = -13 := (by decide +kernel); omega), by rw [ht]; exact hP.sub [0, 1, 2, 3, 4, 5, 6, 7, 8, 9, 10, 11, 12, 13, 14, 15, 16, 17, 18, 19, 20, 21] rfl, hD.sub [0, 1, 2, 3, 4, 5, 6, 7, 8, 9, 10, 11, 12, 13, 14, 15, 16, 17, 18, 19, 20, 21] (by decide +kernel) rfl⟩, hS.F ht⟩) hS.2.2 dX12_copy_73
            · rw [fa_eq] at c_44
              try rw [ti_n1] at c_44
              refine lv_bipush (v := (-11)) hx hb dX12_copy_55 (by decide +kernel) ?_
              exact W.iret hx hb hr (fun t ht hW => ⟨⟨_, ((fun k => [(si 0), (si 1), (si 2), (si 3)].getD k (si 0)), (fun k => [(sl 0), (sl 1), (sl 2), (sl 3)].getD k (sl 0)), (fun k => [(sf 0), (sf 1), (sf 2), (sf 3)].getD k (sf 0)), (fun k => [(sd 0), (sd 1), (sd 2), (sd 3)].getD k (sd 0))), rfl, (by (try dsimp only); have h9a1 : (so ((0 : Int32).toNatClampNeg)).toInt = (so 0).toInt := rfl; have h9b1 : (sn ((0 : Int32).toNatClampNeg)).toInt = (sn 0).toInt := rfl; have h9c1 : (0 : Int32).toInt = 0 := (by decide +kernel); have h9a3 : (so ((3 : Int32).toNatClampNeg)).toInt = (so 3).toInt := rfl; have h9b3 : (sn ((3 : Int32).toNatClampNeg)).toInt = (sn 3).toInt := rfl; have h9c3 : (3 : Int32).toInt = 3 := (by decide +kernel); have h9r : ((-11) : Int32).toInt = -11 := (by decide +kernel); omega), by rw [ht]; exact hP.sub [0, 1, 2, 3, 4, 5, 6, 7, 8, 9, 10, 11, 12, 13, 14, 15, 16, 17, 18, 19, 20, 21] rfl, hD.sub [0, 1, 2, 3, 4, 5, 6, 7, 8, 9, 10, 11, 12, 13, 14, 15, 16, 17, 18, 19, 20, 21] (by decide +kernel) rfl⟩, hS.F ht⟩) hS.2.2 dX12_copy_57
      · refine va_aldq hx hb hE.1 hP 1 6 rfl rfl (by unfold vp_in; decide) dX12_copy_26 ?_
        refine W.eq (g2 := F0 m 27 ls [.ref t1]) rfl ?_
        refine lv_astore (lv' := [(6, .ref t1), (0, .ref h0), (1, .int 1), (2, .int x2), (3, .int x3), (4, .int x4), (5, .int x5)]) hx hb dX12_copy_27 hl (by decide +kernel) rfl (fun ls hl => ?_)
        refine lv_aload_n hx hb dX12_copy_29 rfl (lv_at hl 1 rfl) ?_
        refine va_get (D := D) (ci := 9) (v := .ref h1) (C := RX12) (T := TX12) (N := 11) hx hb hts in_X12_copy_X12 hown hE.1 hP 0 rfl rfl 9 (by decide +kernel) (hts (.fieldLink RX12 65 "ClauseBook" "sheets" "[LClauseBook$Sheet;") (List.mem_of_getElem? (i := 1) rfl)) (fun _ h9 => h9) e0_9 dX12_copy_30 ?_
        refine lv_iload_n hx hb dX12_copy_33 rfl (lv_at hl 4 rfl) ?_
        rcases in4 (x := x3) (by omega) with rfl | rfl | rfl | rfl
        · refine va_aldq hx hb hE.1 hP 1 6 rfl rfl (by unfold vp_in; decide) dX12_copy_34 ?_
          refine W.eq (g2 := F0 m 35 ls [.ref t0]) rfl ?_
          refine lv_astore (lv' := [(7, .ref t0), (6, .ref t1), (0, .ref h0), (1, .int 1), (2, .int x2), (3, .int 0), (4, .int x4), (5, .int x5)]) hx hb dX12_copy_35 hl (by decide +kernel) rfl (fun ls hl => ?_)
          refine lv_aload hx hb dX12_copy_37 (lv_at hl 1 rfl) ?_
          refine va_get (D := D) (ci := 6) (v := .int (so 1)) (C := RX9) (T := TX9) (N := 6) hx hb hts in_X12_copy_X9 hown hE.1 hP 3 rfl rfl 0 (by decide +kernel) (hts (.fieldLink RX12 277 "ClauseBook$Sheet" "sort" "I") (List.mem_of_getElem? (i := 2) rfl)) (fun _ h9 => h9) rfl dX12_copy_39 ?_
          refine lv_iconst (v := (-1)) hx hb dX12_copy_42 (by decide +kernel) ?_
          refine lv_icmp_eq (tgt := 55) hx hb dX12_copy_43 (by decide +kernel) (fun c_56 => ?_) (fun c_56 => ?_)
          · rw [fa_eq] at c_56
            try rw [ti_n1] at c_56
            refine lv_bipush (v := (-11)) hx hb dX12_copy_55 (by decide +kernel) ?_
            exact W.iret hx hb hr (fun t ht hW => ⟨⟨_, ((fun k => [(si 0), (si 1), (si 2), (si 3)].getD k (si 0)), (fun k => [(sl 0), (sl 1), (sl 2), (sl 3)].getD k (sl 0)), (fun k => [(sf 0), (sf 1), (sf 2), (sf 3)].getD k (sf 0)), (fun k => [(sd 0), (sd 1), (sd 2), (sd 3)].getD k (sd 0))), rfl, (by (try dsimp only); have h9a1 : (so ((1 : Int32).toNatClampNeg)).toInt = (so 1).toInt := rfl; have h9b1 : (sn ((1 : Int32).toNatClampNeg)).toInt = (sn 1).toInt := rfl; have h9c1 : (1 : Int32).toInt = 1 := (by decide +kernel); have h9a3 : (so ((0 : Int32).toNatClampNeg)).toInt = (so 0).toInt := rfl; have h9b3 : (sn ((0 : Int32).toNatClampNeg)).toInt = (sn 0).toInt := rfl; have h9c3 : (0 : Int32).toInt = 0 := (by decide +kernel); have h9r : ((-11) : Int32).toInt = -11 := (by decide +kernel); omega), by rw [ht]; exact hP.sub [0, 1, 2, 3, 4, 5, 6, 7, 8, 9, 10, 11, 12, 13, 14, 15, 16, 17, 18, 19, 20, 21] rfl, hD.sub [0, 1, 2, 3, 4, 5, 6, 7, 8, 9, 10, 11, 12, 13, 14, 15, 16, 17, 18, 19, 20, 21] (by decide +kernel) rfl⟩, hS.F ht⟩) hS.2.2 dX12_copy_57
          · rw [fa_eq] at c_56
            try rw [ti_n1] at c_56
            refine lv_aload hx hb dX12_copy_46 (lv_at hl 0 rfl) ?_
            refine va_get (D := D) (ci := 6) (v := .int (so 0)) (C := RX9) (T := TX9) (N := 6) hx hb hts in_X12_copy_X9 hown hE.1 hP 2 rfl rfl 0 (by decide +kernel) (hts (.fieldLink RX12 277 "ClauseBook$Sheet" "sort" "I") (List.mem_of_getElem? (i := 2) rfl)) (fun _ h9 => h9) rfl dX12_copy_48 ?_
            refine lv_iconst (v := (-1)) hx hb dX12_copy_51 (by decide +kernel) ?_
            refine lv_icmp_ne (tgt := 58) hx hb dX12_copy_52 (by decide +kernel) (fun c_57 => ?_) (fun c_57 => ?_)
            · rw [fa_eq] at c_57
              try rw [ti_n1] at c_57
              refine lv_aload hx hb dX12_copy_58 (lv_at hl 1 rfl) ?_
              refine va_get (D := D) (ci := 6) (v := .int (so 1)) (C := RX9) (T := TX9) (N := 6) hx hb hts in_X12_copy_X9 hown hE.1 hP 3 rfl rfl 0 (by decide +kernel) (hts (.fieldLink RX12 277 "ClauseBook$Sheet" "sort" "I") (List.mem_of_getElem? (i := 2) rfl)) (fun _ h9 => h9) rfl dX12_copy_60 ?_
              refine lv_aload hx hb dX12_copy_63 (lv_at hl 0 rfl) ?_
              refine va_get (D := D) (ci := 6) (v := .int (so 0)) (C := RX9) (T := TX9) (N := 6) hx hb hts in_X12_copy_X9 hown hE.1 hP 2 rfl rfl 0 (by decide +kernel) (hts (.fieldLink RX12 277 "ClauseBook$Sheet" "sort" "I") (List.mem_of_getElem? (i := 2) rfl)) (fun _ h9 => h9) rfl dX12_copy_65 ?_
              refine lv_icmp_eq (tgt := 74) hx hb dX12_copy_68 (by decide +kernel) (fun c_58 => ?_) (fun c_58 => ?_)
              · rw [fa_eq] at c_58
                refine lv_aload hx hb dX12_copy_74 (lv_at hl 1 rfl) ?_
                refine lv_iload_n hx hb dX12_copy_76 rfl (lv_at hl 4 rfl) ?_
                refine lv_iload hx hb dX12_copy_77 (lv_at hl 7 rfl) ?_
                refine vp_callSi (W.runV (As := [.int x2, .int x5]) (rest := []) ⟨hx, hb, hml, hown, hts⟩ (c_X9_hasRun l D T t1 [.int (so 1), .int (sn 1), .ref a10, .ref a11, .ref a12, .ref a13] x2 x5 (sn 1) rfl (by omega)) (cwV 2 hts gX12_copy_X9_hasRun rfl rfl rfl hv_X9_hasRun ⟨Nat.le_of_ble_eq_true rfl, Nat.le_of_ble_eq_true rfl⟩) (pR_V (q := (RX9, TX9, 6)) (ci := 6) (q0 := 3) hP hE rfl rfl [3] rfl) rfl rfl hl.1 rfl (lv_room (Nat.le_of_ble_eq_true rfl)) dX12_copy_79 ⟨Nat.le_of_ble_eq_true rfl, Nat.le_of_ble_eq_true rfl⟩) (fun r_59 hr_59 => ?_)
                rcases bool_post hr_59 with ⟨c_60, rfl⟩ | ⟨c_60, rfl⟩
                · refine lv_if_eq (tgt := 97) hx hb dX12_copy_82 (by decide +kernel) (fun c9 => absurd c9 (by decide +kernel)) (fun _ => ?_)
                  refine lv_aload hx hb dX12_copy_85 (lv_at hl 0 rfl) ?_
                  refine lv_iload hx hb dX12_copy_87 (lv_at hl 6 rfl) ?_
                  refine lv_iload hx hb dX12_copy_89 (lv_at hl 7 rfl) ?_
                  refine vp_callSi (W.runV (As := [.int x4, .int x5]) (rest := []) ⟨hx, hb, hml, hown, hts⟩ (c_X9_hasRun l D T t0 [.int (so 0), .int (sn 0), .ref a00, .ref a01, .ref a02, .ref a03] x4 x5 (sn 0) rfl (by omega)) (cwV 2 hts gX12_copy_X9_hasRun rfl rfl rfl hv_X9_hasRun ⟨Nat.le_of_ble_eq_true rfl, Nat.le_of_ble_eq_true rfl⟩) (pR_V (q := (RX9, TX9, 6)) (ci := 6) (q0 := 2) hP hE rfl rfl [2] rfl) rfl rfl hl.1 rfl (lv_room (Nat.le_of_ble_eq_true rfl)) dX12_copy_91 ⟨Nat.le_of_ble_eq_true rfl, Nat.le_of_ble_eq_true rfl⟩) (fun r_61 hr_61 => ?_)
                  rcases bool_post hr_61 with ⟨c_62, rfl⟩ | ⟨c_62, rfl⟩
                  · refine lv_if_ne (tgt := 100) hx hb dX12_copy_94 (by decide +kernel) (fun _ => ?_) (fun c9 => absurd c9 (by decide +kernel))
                    refine lv_aload hx hb dX12_copy_100 (lv_at hl 0 rfl) ?_
                    refine lv_aload hx hb dX12_copy_102 (lv_at hl 1 rfl) ?_
                    refine lv_iload_n hx hb dX12_copy_104 rfl (lv_at hl 4 rfl) ?_
                    refine lv_iload hx hb dX12_copy_105 (lv_at hl 6 rfl) ?_
                    refine lv_iload hx hb dX12_copy_107 (lv_at hl 7 rfl) ?_
                    have hFc := va_free (wc := [(t0, .inr (6, [.int (so 0), .int (sn 0), .ref a00, .ref a01, .ref a02, .ref a03])), (a00, .inl (T 0, 30, .inl (si 0))), (a01, .inl (T 1, 30, .inr (.inl (sl 0)))), (a02, .inl (T 2, 30, .inr (.inr (.inl (sf 0))))), (a03, .inl (T 3, 30, .inr (.inr (.inr (.inl (sd 0)))))), (t1, .inr (6, [.int (so 1), .int (sn 1), .ref a10, .ref a11, .ref a12, .ref a13])), (a10, .inl (T 0, 30, .inl (si 1))), (a11, .inl (T 1, 30, .inr (.inl (sl 1)))), (a12, .inl (T 2, 30, .inr (.inr (.inl (sf 1))))), (a13, .inl (T 3, 30, .inr (.inr (.inr (.inl (sd 1))))))]) hD hS hA [2, 6, 7, 8, 9, 3, 10, 11, 12, 13] rfl
                    refine va_callv (va_runV (As := [.ref t1, .int x2, .int x4, .int x5]) (rest := []) ⟨hx, hb, hml, hown, hts⟩ (c_X9_moveFrom l D T _ t0 (so 0) (sn 0) a00 a01 a02 a03 (si 0) (sl 0) (sf 0) (sd 0) t1 (so 1) (sn 1) a10 a11 a12 a13 (si 1) (sl 1) (sf 1) (sd 1) x2 x4 x5 (by omega) (by omega)) (cwV 4 hts gX12_copy_X9_moveFrom rfl rfl rfl hv_X9_moveFrom ⟨Nat.le_of_ble_eq_true rfl, Nat.le_of_ble_eq_true rfl⟩) (pW_V (q := (RX9, TX9, 6)) (ci := 6) (q0 := 2) hP hE hD rfl rfl [2, 6, 7, 8, 9, 3, 10, 11, 12, 13] (by decide +kernel) rfl rfl) rfl rfl hl.1 rfl (lv_room (Nat.le_of_ble_eq_true rfl)) dX12_copy_109 ⟨Nat.le_of_ble_eq_true rfl, Nat.le_of_ble_eq_true rfl⟩) hS (fun q _ h => hFc q h) hFc (fun u_64 t H1 locs ht hvm hr_63 hB hz1 hk1 hS => ?_)
                    obtain ⟨f_65, f_66, f_67, f_68⟩ := u_64
                    obtain ⟨hP1, hD1⟩ := hB
                    rw [ht] at hP1
                    obtain ⟨hP, hD⟩ := va_repl [(h0, .inr (9, fs0)), (h1, .inl (T 6, 4, .inr (.inr (.inr (.inr (va_up (va_up (va_up (va_up (fun _ => none) 0 (some t0)) 1 (some t1)) 2 (some t2)) 3 (some t3))))))), (t0, .inr (6, [.int (so 0), .int (sn 0), .ref a00, .ref a01, .ref a02, .ref a03])), (t1, .inr (6, [.int (so 1), .int (sn 1), .ref a10, .ref a11, .ref a12, .ref a13])), (t2, .inr (6, [.int (so 2), .int (sn 2), .ref a20, .ref a21, .ref a22, .ref a23])), (t3, .inr (6, [.int (so 3), .int (sn 3), .ref a30, .ref a31, .ref a32, .ref a33])), (a00, .inl (T 0, 30, .inl f_65)), (a01, .inl (T 1, 30, .inr (.inl f_66))), (a02, .inl (T 2, 30, .inr (.inr (.inl f_67)))), (a03, .inl (T 3, 30, .inr (.inr (.inr (.inl f_68))))), (a10, .inl (T 0, 30, .inl (si 1))), (a11, .inl (T 1, 30, .inr (.inl (sl 1)))), (a12, .inl (T 2, 30, .inr (.inr (.inl (sf 1))))), (a13, .inl (T 3, 30, .inr (.inr (.inr (.inl (sd 1)))))), (a20, .inl (T 0, 30, .inl (si 2))), (a21, .inl (T 1, 30, .inr (.inl (sl 2)))), (a22, .inl (T 2, 30, .inr (.inr (.inl (sf 2))))), (a23, .inl (T 3, 30, .inr (.inr (.inr (.inl (sd 2)))))), (a30, .inl (T 0, 30, .inl (si 3))), (a31, .inl (T 1, 30, .inr (.inl (sl 3)))), (a32, .inl (T 2, 30, .inr (.inr (.inl (sf 3))))), (a33, .inl (T 3, 30, .inr (.inr (.inr (.inl (sd 3))))))] hP hD [2, 6, 7, 8, 9, 3, 10, 11, 12, 13] [2, 3, 6, 7, 8, 9, 10, 11, 12, 13] rfl (by decide +kernel) rfl rfl rfl hk1 (hP1.sub [0, 5, 1, 2, 3, 4, 6, 7, 8, 9] rfl)
                    clear hP1 hD1 hFc
                    generalize H1 = H at hP hS ⊢
                    refine lv_iload hx hb dX12_copy_112 (lv_at hl 7 rfl) ?_
                    exact W.iret hx hb hr (fun t ht hW => ⟨⟨_, ((fun k => [f_65, (si 1), (si 2), (si 3)].getD k f_65), (fun k => [f_66, (sl 1), (sl 2), (sl 3)].getD k f_66), (fun k => [f_67, (sf 1), (sf 2), (sf 3)].getD k f_67), (fun k => [f_68, (sd 1), (sd 2), (sd 3)].getD k f_68)), rfl, (by (try dsimp only); have h9a1 : (so ((1 : Int32).toNatClampNeg)).toInt = (so 1).toInt := rfl; have h9b1 : (sn ((1 : Int32).toNatClampNeg)).toInt = (sn 1).toInt := rfl; have h9c1 : (1 : Int32).toInt = 1 := (by decide +kernel); have h9a3 : (so ((0 : Int32).toNatClampNeg)).toInt = (so 0).toInt := rfl; have h9b3 : (sn ((0 : Int32).toNatClampNeg)).toInt = (sn 0).toInt := rfl; have h9c3 : (0 : Int32).toInt = 0 := (by decide +kernel); omega), by rw [ht]; exact hP.sub [0, 1, 2, 3, 4, 5, 6, 7, 8, 9, 10, 11, 12, 13, 14, 15, 16, 17, 18, 19, 20, 21] rfl, hD.sub [0, 1, 2, 3, 4, 5, 6, 7, 8, 9, 10, 11, 12, 13, 14, 15, 16, 17, 18, 19, 20, 21] (by decide +kernel) rfl⟩, hS.F ht⟩) hS.2.2 dX12_copy_114
                  · refine lv_if_ne (tgt := 100) hx hb dX12_copy_94 (by decide +kernel) (fun c9 => absurd c9 (by decide +kernel)) (fun _ => ?_)
                    refine lv_bipush (v := (-12)) hx hb dX12_copy_97 (by decide +kernel) ?_
                    exact W.iret hx hb hr (fun t ht hW => ⟨⟨_, ((fun k => [(si 0), (si 1), (si 2), (si 3)].getD k (si 0)), (fun k => [(sl 0), (sl 1), (sl 2), (sl 3)].getD k (sl 0)), (fun k => [(sf 0), (sf 1), (sf 2), (sf 3)].getD k (sf 0)), (fun k => [(sd 0), (sd 1), (sd 2), (sd 3)].getD k (sd 0))), rfl, (by (try dsimp only); have h9a1 : (so ((1 : Int32).toNatClampNeg)).toInt = (so 1).toInt := rfl; have h9b1 : (sn ((1 : Int32).toNatClampNeg)).toInt = (sn 1).toInt := rfl; have h9c1 : (1 : Int32).toInt = 1 := (by decide +kernel); have h9a3 : (so ((0 : Int32).toNatClampNeg)).toInt = (so 0).toInt := rfl; have h9b3 : (sn ((0 : Int32).toNatClampNeg)).toInt = (sn 0).toInt := rfl; have h9c3 : (0 : Int32).toInt = 0 := (by decide +kernel); have h9r : ((-12) : Int32).toInt = -12 := (by decide +kernel); omega), by rw [ht]; exact hP.sub [0, 1, 2, 3, 4, 5, 6, 7, 8, 9, 10, 11, 12, 13, 14, 15, 16, 17, 18, 19, 20, 21] rfl, hD.sub [0, 1, 2, 3, 4, 5, 6, 7, 8, 9, 10, 11, 12, 13, 14, 15, 16, 17, 18, 19, 20, 21] (by decide +kernel) rfl⟩, hS.F ht⟩) hS.2.2 dX12_copy_99
                · refine lv_if_eq (tgt := 97) hx hb dX12_copy_82 (by decide +kernel) (fun _ => ?_) (fun c9 => absurd c9 (by decide +kernel))
                  refine lv_bipush (v := (-12)) hx hb dX12_copy_97 (by decide +kernel) ?_
                  exact W.iret hx hb hr (fun t ht hW => ⟨⟨_, ((fun k => [(si 0), (si 1), (si 2), (si 3)].getD k (si 0)), (fun k => [(sl 0), (sl 1), (sl 2), (sl 3)].getD k (sl 0)), (fun k => [(sf 0), (sf 1), (sf 2), (sf 3)].getD k (sf 0)), (fun k => [(sd 0), (sd 1), (sd 2), (sd 3)].getD k (sd 0))), rfl, (by (try dsimp only); have h9a1 : (so ((1 : Int32).toNatClampNeg)).toInt = (so 1).toInt := rfl; have h9b1 : (sn ((1 : Int32).toNatClampNeg)).toInt = (sn 1).toInt := rfl; have h9c1 : (1 : Int32).toInt = 1 := (by decide +kernel); have h9a3 : (so ((0 : Int32).toNatClampNeg)).toInt = (so 0).toInt := rfl; have h9b3 : (sn ((0 : Int32).toNatClampNeg)).toInt = (sn 0).toInt := rfl; have h9c3 : (0 : Int32).toInt = 0 := (by decide +kernel); have h9r : ((-12) : Int32).toInt = -12 := (by decide +kernel); omega), by rw [ht]; exact hP.sub [0, 1, 2, 3, 4, 5, 6, 7, 8, 9, 10, 11, 12, 13, 14, 15, 16, 17, 18, 19, 20, 21] rfl, hD.sub [0, 1, 2, 3, 4, 5, 6, 7, 8, 9, 10, 11, 12, 13, 14, 15, 16, 17, 18, 19, 20, 21] (by decide +kernel) rfl⟩, hS.F ht⟩) hS.2.2 dX12_copy_99
              · rw [fa_eq] at c_58
                refine lv_bipush (v := (-13)) hx hb dX12_copy_71 (by decide +kernel) ?_
                exact W.iret hx hb hr (fun t ht hW => ⟨⟨_, ((fun k => [(si 0), (si 1), (si 2), (si 3)].getD k (si 0)), (fun k => [(sl 0), (sl 1), (sl 2), (sl 3)].getD k (sl 0)), (fun k => [(sf 0), (sf 1), (sf 2), (sf 3)].getD k (sf 0)), (fun k => [(sd 0), (sd 1), (sd 2), (sd 3)].getD k (sd 0))), rfl, (by (try dsimp only); have h9a1 : (so ((1 : Int32).toNatClampNeg)).toInt = (so 1).toInt := rfl; have h9b1 : (sn ((1 : Int32).toNatClampNeg)).toInt = (sn 1).toInt := rfl; have h9c1 : (1 : Int32).toInt = 1 := (by decide +kernel); have h9a3 : (so ((0 : Int32).toNatClampNeg)).toInt = (so 0).toInt := rfl; have h9b3 : (sn ((0 : Int32).toNatClampNeg)).toInt = (sn 0).toInt := rfl; have h9c3 : (0 : Int32).toInt = 0 := (by decide +kernel); have h9r : ((-13) : Int32).toInt = -13 := (by decide +kernel); omega), by rw [ht]; exact hP.sub [0, 1, 2, 3, 4, 5, 6, 7, 8, 9, 10, 11, 12, 13, 14, 15, 16, 17, 18, 19, 20, 21] rfl, hD.sub [0, 1, 2, 3, 4, 5, 6, 7, 8, 9, 10, 11, 12, 13, 14, 15, 16, 17, 18, 19, 20, 21] (by decide +kernel) rfl⟩, hS.F ht⟩) hS.2.2 dX12_copy_73
            · rw [fa_eq] at c_57
              try rw [ti_n1] at c_57
              refine lv_bipush (v := (-11)) hx hb dX12_copy_55 (by decide +kernel) ?_
              exact W.iret hx hb hr (fun t ht hW => ⟨⟨_, ((fun k => [(si 0), (si 1), (si 2), (si 3)].getD k (si 0)), (fun k => [(sl 0), (sl 1), (sl 2), (sl 3)].getD k (sl 0)), (fun k => [(sf 0), (sf 1), (sf 2), (sf 3)].getD k (sf 0)), (fun k => [(sd 0), (sd 1), (sd 2), (sd 3)].getD k (sd 0))), rfl, (by (try dsimp only); have h9a1 : (so ((1 : Int32).toNatClampNeg)).toInt = (so 1).toInt := rfl; have h9b1 : (sn ((1 : Int32).toNatClampNeg)).toInt = (sn 1).toInt := rfl; have h9c1 : (1 : Int32).toInt = 1 := (by decide +kernel); have h9a3 : (so ((0 : Int32).toNatClampNeg)).toInt = (so 0).toInt := rfl; have h9b3 : (sn ((0 : Int32).toNatClampNeg)).toInt = (sn 0).toInt := rfl; have h9c3 : (0 : Int32).toInt = 0 := (by decide +kernel); have h9r : ((-11) : Int32).toInt = -11 := (by decide +kernel); omega), by rw [ht]; exact hP.sub [0, 1, 2, 3, 4, 5, 6, 7, 8, 9, 10, 11, 12, 13, 14, 15, 16, 17, 18, 19, 20, 21] rfl, hD.sub [0, 1, 2, 3, 4, 5, 6, 7, 8, 9, 10, 11, 12, 13, 14, 15, 16, 17, 18, 19, 20, 21] (by decide +kernel) rfl⟩, hS.F ht⟩) hS.2.2 dX12_copy_57
        · refine va_aldq hx hb hE.1 hP 1 6 rfl rfl (by unfold vp_in; decide) dX12_copy_34 ?_
          refine W.eq (g2 := F0 m 35 ls [.ref t1]) rfl ?_
          refine lv_astore (lv' := [(7, .ref t1), (6, .ref t1), (0, .ref h0), (1, .int 1), (2, .int x2), (3, .int 1), (4, .int x4), (5, .int x5)]) hx hb dX12_copy_35 hl (by decide +kernel) rfl (fun ls hl => ?_)
          refine lv_aload hx hb dX12_copy_37 (lv_at hl 1 rfl) ?_
          refine va_get (D := D) (ci := 6) (v := .int (so 1)) (C := RX9) (T := TX9) (N := 6) hx hb hts in_X12_copy_X9 hown hE.1 hP 3 rfl rfl 0 (by decide +kernel) (hts (.fieldLink RX12 277 "ClauseBook$Sheet" "sort" "I") (List.mem_of_getElem? (i := 2) rfl)) (fun _ h9 => h9) rfl dX12_copy_39 ?_
          refine lv_iconst (v := (-1)) hx hb dX12_copy_42 (by decide +kernel) ?_
          refine lv_icmp_eq (tgt := 55) hx hb dX12_copy_43 (by decide +kernel) (fun c_69 => ?_) (fun c_69 => ?_)
          · rw [fa_eq] at c_69
            try rw [ti_n1] at c_69
            refine lv_bipush (v := (-11)) hx hb dX12_copy_55 (by decide +kernel) ?_
            exact W.iret hx hb hr (fun t ht hW => ⟨⟨_, ((fun k => [(si 0), (si 1), (si 2), (si 3)].getD k (si 0)), (fun k => [(sl 0), (sl 1), (sl 2), (sl 3)].getD k (sl 0)), (fun k => [(sf 0), (sf 1), (sf 2), (sf 3)].getD k (sf 0)), (fun k => [(sd 0), (sd 1), (sd 2), (sd 3)].getD k (sd 0))), rfl, (by (try dsimp only); have h9a1 : (so ((1 : Int32).toNatClampNeg)).toInt = (so 1).toInt := rfl; have h9b1 : (sn ((1 : Int32).toNatClampNeg)).toInt = (sn 1).toInt := rfl; have h9c1 : (1 : Int32).toInt = 1 := (by decide +kernel); have h9a3 : (so ((1 : Int32).toNatClampNeg)).toInt = (so 1).toInt := rfl; have h9b3 : (sn ((1 : Int32).toNatClampNeg)).toInt = (sn 1).toInt := rfl; have h9c3 : (1 : Int32).toInt = 1 := (by decide +kernel); have h9r : ((-11) : Int32).toInt = -11 := (by decide +kernel); omega), by rw [ht]; exact hP.sub [0, 1, 2, 3, 4, 5, 6, 7, 8, 9, 10, 11, 12, 13, 14, 15, 16, 17, 18, 19, 20, 21] rfl, hD.sub [0, 1, 2, 3, 4, 5, 6, 7, 8, 9, 10, 11, 12, 13, 14, 15, 16, 17, 18, 19, 20, 21] (by decide +kernel) rfl⟩, hS.F ht⟩) hS.2.2 dX12_copy_57
          · rw [fa_eq] at c_69
            try rw [ti_n1] at c_69
            refine lv_aload hx hb dX12_copy_46 (lv_at hl 0 rfl) ?_
            refine va_get (D := D) (ci := 6) (v := .int (so 1)) (C := RX9) (T := TX9) (N := 6) hx hb hts in_X12_copy_X9 hown hE.1 hP 3 rfl rfl 0 (by decide +kernel) (hts (.fieldLink RX12 277 "ClauseBook$Sheet" "sort" "I") (List.mem_of_getElem? (i := 2) rfl)) (fun _ h9 => h9) rfl dX12_copy_48 ?_
            refine lv_iconst (v := (-1)) hx hb dX12_copy_51 (by decide +kernel) ?_
            refine lv_icmp_ne (tgt := 58) hx hb dX12_copy_52 (by decide +kernel) (fun c_70 => ?_) (fun c_70 => ?_)
            · rw [fa_eq] at c_70
              try rw [ti_n1] at c_70
              refine lv_aload hx hb dX12_copy_58 (lv_at hl 1 rfl) ?_
              refine va_get (D := D) (ci := 6) (v := .int (so 1)) (C := RX9) (T := TX9) (N := 6) hx hb hts in_X12_copy_X9 hown hE.1 hP 3 rfl rfl 0 (by decide +kernel) (hts (.fieldLink RX12 277 "ClauseBook$Sheet" "sort" "I") (List.mem_of_getElem? (i := 2) rfl)) (fun _ h9 => h9) rfl dX12_copy_60 ?_
              refine lv_aload hx hb dX12_copy_63 (lv_at hl 0 rfl) ?_
              refine va_get (D := D) (ci := 6) (v := .int (so 1)) (C := RX9) (T := TX9) (N := 6) hx hb hts in_X12_copy_X9 hown hE.1 hP 3 rfl rfl 0 (by decide +kernel) (hts (.fieldLink RX12 277 "ClauseBook$Sheet" "sort" "I") (List.mem_of_getElem? (i := 2) rfl)) (fun _ h9 => h9) rfl dX12_copy_65 ?_
              refine lv_icmp_eq (tgt := 74) hx hb dX12_copy_68 (by decide +kernel) (fun _ => ?_) (fun c9 => absurd rfl c9)
              refine lv_aload hx hb dX12_copy_74 (lv_at hl 1 rfl) ?_
              refine lv_iload_n hx hb dX12_copy_76 rfl (lv_at hl 4 rfl) ?_
              refine lv_iload hx hb dX12_copy_77 (lv_at hl 7 rfl) ?_
              refine vp_callSi (W.runV (As := [.int x2, .int x5]) (rest := []) ⟨hx, hb, hml, hown, hts⟩ (c_X9_hasRun l D T t1 [.int (so 1), .int (sn 1), .ref a10, .ref a11, .ref a12, .ref a13] x2 x5 (sn 1) rfl (by omega)) (cwV 2 hts gX12_copy_X9_hasRun rfl rfl rfl hv_X9_hasRun ⟨Nat.le_of_ble_eq_true rfl, Nat.le_of_ble_eq_true rfl⟩) (pR_V (q := (RX9, TX9, 6)) (ci := 6) (q0 := 3) hP hE rfl rfl [3] rfl) rfl rfl hl.1 rfl (lv_room (Nat.le_of_ble_eq_true rfl)) dX12_copy_79 ⟨Nat.le_of_ble_eq_true rfl, Nat.le_of_ble_eq_true rfl⟩) (fun r_71 hr_71 => ?_)
              rcases bool_post hr_71 with ⟨c_72, rfl⟩ | ⟨c_72, rfl⟩
              · refine lv_if_eq (tgt := 97) hx hb dX12_copy_82 (by decide +kernel) (fun c9 => absurd c9 (by decide +kernel)) (fun _ => ?_)
                refine lv_aload hx hb dX12_copy_85 (lv_at hl 0 rfl) ?_
                refine lv_iload hx hb dX12_copy_87 (lv_at hl 6 rfl) ?_
                refine lv_iload hx hb dX12_copy_89 (lv_at hl 7 rfl) ?_
                refine vp_callSi (W.runV (As := [.int x4, .int x5]) (rest := []) ⟨hx, hb, hml, hown, hts⟩ (c_X9_hasRun l D T t1 [.int (so 1), .int (sn 1), .ref a10, .ref a11, .ref a12, .ref a13] x4 x5 (sn 1) rfl (by omega)) (cwV 2 hts gX12_copy_X9_hasRun rfl rfl rfl hv_X9_hasRun ⟨Nat.le_of_ble_eq_true rfl, Nat.le_of_ble_eq_true rfl⟩) (pR_V (q := (RX9, TX9, 6)) (ci := 6) (q0 := 3) hP hE rfl rfl [3] rfl) rfl rfl hl.1 rfl (lv_room (Nat.le_of_ble_eq_true rfl)) dX12_copy_91 ⟨Nat.le_of_ble_eq_true rfl, Nat.le_of_ble_eq_true rfl⟩) (fun r_73 hr_73 => ?_)
                rcases bool_post hr_73 with ⟨c_74, rfl⟩ | ⟨c_74, rfl⟩
                · refine lv_if_ne (tgt := 100) hx hb dX12_copy_94 (by decide +kernel) (fun _ => ?_) (fun c9 => absurd c9 (by decide +kernel))
                  refine lv_aload hx hb dX12_copy_100 (lv_at hl 0 rfl) ?_
                  refine lv_aload hx hb dX12_copy_102 (lv_at hl 1 rfl) ?_
                  refine lv_iload_n hx hb dX12_copy_104 rfl (lv_at hl 4 rfl) ?_
                  refine lv_iload hx hb dX12_copy_105 (lv_at hl 6 rfl) ?_
                  refine lv_iload hx hb dX12_copy_107 (lv_at hl 7 rfl) ?_
                  have hFc := va_free (wc := [(t1, .inr (6, [.int (so 1), .int (sn 1), .ref a10, .ref a11, .ref a12, .ref a13])), (a10, .inl (T 0, 30, .inl (si 1))), (a11, .inl (T 1, 30, .inr (.inl (sl 1)))), (a12, .inl (T 2, 30, .inr (.inr (.inl (sf 1))))), (a13, .inl (T 3, 30, .inr (.inr (.inr (.inl (sd 1))))))]) hD hS hA [3, 10, 11, 12, 13] rfl
                  refine va_callv (va_runV (As := [.ref t1, .int x2, .int x4, .int x5]) (rest := []) ⟨hx, hb, hml, hown, hts⟩ (c_X9_moveFrom_same l D T _ t1 (so 1) (sn 1) a10 a11 a12 a13 (si 1) (sl 1) (sf 1) (sd 1) x2 x4 x5 (by omega) (by omega)) (cwV 4 hts gX12_copy_X9_moveFrom rfl rfl rfl hv_X9_moveFrom ⟨Nat.le_of_ble_eq_true rfl, Nat.le_of_ble_eq_true rfl⟩) (pW_V (q := (RX9, TX9, 6)) (ci := 6) (q0 := 3) hP hE hD rfl rfl [3, 10, 11, 12, 13] (by decide +kernel) rfl rfl) rfl rfl hl.1 rfl (lv_room (Nat.le_of_ble_eq_true rfl)) dX12_copy_109 ⟨Nat.le_of_ble_eq_true rfl, Nat.le_of_ble_eq_true rfl⟩) hS (fun q _ h => hFc q h) hFc (fun u_76 t H1 locs ht hvm hr_75 hB hz1 hk1 hS => ?_)
                  obtain ⟨f_77, f_78, f_79, f_80⟩ := u_76
                  obtain ⟨hP1, hD1⟩ := hB
                  rw [ht] at hP1
                  obtain ⟨hP, hD⟩ := va_repl [(h0, .inr (9, fs0)), (h1, .inl (T 6, 4, .inr (.inr (.inr (.inr (va_up (va_up (va_up (va_up (fun _ => none) 0 (some t0)) 1 (some t1)) 2 (some t2)) 3 (some t3))))))), (t0, .inr (6, [.int (so 0), .int (sn 0), .ref a00, .ref a01, .ref a02, .ref a03])), (t1, .inr (6, [.int (so 1), .int (sn 1), .ref a10, .ref a11, .ref a12, .ref a13])), (t2, .inr (6, [.int (so 2), .int (sn 2), .ref a20, .ref a21, .ref a22, .ref a23])), (t3, .inr (6, [.int (so 3), .int (sn 3), .ref a30, .ref a31, .ref a32, .ref a33])), (a00, .inl (T 0, 30, .inl (si 0))), (a01, .inl (T 1, 30, .inr (.inl (sl 0)))), (a02, .inl (T 2, 30, .inr (.inr (.inl (sf 0))))), (a03, .inl (T 3, 30, .inr (.inr (.inr (.inl (sd 0)))))), (a10, .inl (T 0, 30, .inl f_77)), (a11, .inl (T 1, 30, .inr (.inl f_78))), (a12, .inl (T 2, 30, .inr (.inr (.inl f_79)))), (a13, .inl (T 3, 30, .inr (.inr (.inr (.inl f_80))))), (a20, .inl (T 0, 30, .inl (si 2))), (a21, .inl (T 1, 30, .inr (.inl (sl 2)))), (a22, .inl (T 2, 30, .inr (.inr (.inl (sf 2))))), (a23, .inl (T 3, 30, .inr (.inr (.inr (.inl (sd 2)))))), (a30, .inl (T 0, 30, .inl (si 3))), (a31, .inl (T 1, 30, .inr (.inl (sl 3)))), (a32, .inl (T 2, 30, .inr (.inr (.inl (sf 3))))), (a33, .inl (T 3, 30, .inr (.inr (.inr (.inl (sd 3))))))] hP hD [3, 10, 11, 12, 13] [3, 10, 11, 12, 13] rfl (by decide +kernel) rfl rfl rfl hk1 hP1
                  clear hP1 hD1 hFc
                  generalize H1 = H at hP hS ⊢
                  refine lv_iload hx hb dX12_copy_112 (lv_at hl 7 rfl) ?_
                  exact W.iret hx hb hr (fun t ht hW => ⟨⟨_, ((fun k => [(si 0), f_77, (si 2), (si 3)].getD k (si 0)), (fun k => [(sl 0), f_78, (sl 2), (sl 3)].getD k (sl 0)), (fun k => [(sf 0), f_79, (sf 2), (sf 3)].getD k (sf 0)), (fun k => [(sd 0), f_80, (sd 2), (sd 3)].getD k (sd 0))), rfl, (by (try dsimp only); have h9a1 : (so ((1 : Int32).toNatClampNeg)).toInt = (so 1).toInt := rfl; have h9b1 : (sn ((1 : Int32).toNatClampNeg)).toInt = (sn 1).toInt := rfl; have h9c1 : (1 : Int32).toInt = 1 := (by decide +kernel); have h9a3 : (so ((1 : Int32).toNatClampNeg)).toInt = (so 1).toInt := rfl; have h9b3 : (sn ((1 : Int32).toNatClampNeg)).toInt = (sn 1).toInt := rfl; have h9c3 : (1 : Int32).toInt = 1 := (by decide +kernel); omega), by rw [ht]; exact hP.sub [0, 1, 2, 3, 4, 5, 6, 7, 8, 9, 10, 11, 12, 13, 14, 15, 16, 17, 18, 19, 20, 21] rfl, hD.sub [0, 1, 2, 3, 4, 5, 6, 7, 8, 9, 10, 11, 12, 13, 14, 15, 16, 17, 18, 19, 20, 21] (by decide +kernel) rfl⟩, hS.F ht⟩) hS.2.2 dX12_copy_114
                · refine lv_if_ne (tgt := 100) hx hb dX12_copy_94 (by decide +kernel) (fun c9 => absurd c9 (by decide +kernel)) (fun _ => ?_)
                  refine lv_bipush (v := (-12)) hx hb dX12_copy_97 (by decide +kernel) ?_
                  exact W.iret hx hb hr (fun t ht hW => ⟨⟨_, ((fun k => [(si 0), (si 1), (si 2), (si 3)].getD k (si 0)), (fun k => [(sl 0), (sl 1), (sl 2), (sl 3)].getD k (sl 0)), (fun k => [(sf 0), (sf 1), (sf 2), (sf 3)].getD k (sf 0)), (fun k => [(sd 0), (sd 1), (sd 2), (sd 3)].getD k (sd 0))), rfl, (by (try dsimp only); have h9a1 : (so ((1 : Int32).toNatClampNeg)).toInt = (so 1).toInt := rfl; have h9b1 : (sn ((1 : Int32).toNatClampNeg)).toInt = (sn 1).toInt := rfl; have h9c1 : (1 : Int32).toInt = 1 := (by decide +kernel); have h9a3 : (so ((1 : Int32).toNatClampNeg)).toInt = (so 1).toInt := rfl; have h9b3 : (sn ((1 : Int32).toNatClampNeg)).toInt = (sn 1).toInt := rfl; have h9c3 : (1 : Int32).toInt = 1 := (by decide +kernel); have h9r : ((-12) : Int32).toInt = -12 := (by decide +kernel); omega), by rw [ht]; exact hP.sub [0, 1, 2, 3, 4, 5, 6, 7, 8, 9, 10, 11, 12, 13, 14, 15, 16, 17, 18, 19, 20, 21] rfl, hD.sub [0, 1, 2, 3, 4, 5, 6, 7, 8, 9, 10, 11, 12, 13, 14, 15, 16, 17, 18, 19, 20, 21] (by decide +kernel) rfl⟩, hS.F ht⟩) hS.2.2 dX12_copy_99
              · refine lv_if_eq (tgt := 97) hx hb dX12_copy_82 (by decide +kernel) (fun _ => ?_) (fun c9 => absurd c9 (by decide +kernel))
                refine lv_bipush (v := (-12)) hx hb dX12_copy_97 (by decide +kernel) ?_
                exact W.iret hx hb hr (fun t ht hW => ⟨⟨_, ((fun k => [(si 0), (si 1), (si 2), (si 3)].getD k (si 0)), (fun k => [(sl 0), (sl 1), (sl 2), (sl 3)].getD k (sl 0)), (fun k => [(sf 0), (sf 1), (sf 2), (sf 3)].getD k (sf 0)), (fun k => [(sd 0), (sd 1), (sd 2), (sd 3)].getD k (sd 0))), rfl, (by (try dsimp only); have h9a1 : (so ((1 : Int32).toNatClampNeg)).toInt = (so 1).toInt := rfl; have h9b1 : (sn ((1 : Int32).toNatClampNeg)).toInt = (sn 1).toInt := rfl; have h9c1 : (1 : Int32).toInt = 1 := (by decide +kernel); have h9a3 : (so ((1 : Int32).toNatClampNeg)).toInt = (so 1).toInt := rfl; have h9b3 : (sn ((1 : Int32).toNatClampNeg)).toInt = (sn 1).toInt := rfl; have h9c3 : (1 : Int32).toInt = 1 := (by decide +kernel); have h9r : ((-12) : Int32).toInt = -12 := (by decide +kernel); omega), by rw [ht]; exact hP.sub [0, 1, 2, 3, 4, 5, 6, 7, 8, 9, 10, 11, 12, 13, 14, 15, 16, 17, 18, 19, 20, 21] rfl, hD.sub [0, 1, 2, 3, 4, 5, 6, 7, 8, 9, 10, 11, 12, 13, 14, 15, 16, 17, 18, 19, 20, 21] (by decide +kernel) rfl⟩, hS.F ht⟩) hS.2.2 dX12_copy_99
            · rw [fa_eq] at c_70
              try rw [ti_n1] at c_70
              refine lv_bipush (v := (-11)) hx hb dX12_copy_55 (by decide +kernel) ?_
              exact W.iret hx hb hr (fun t ht hW => ⟨⟨_, ((fun k => [(si 0), (si 1), (si 2), (si 3)].getD k (si 0)), (fun k => [(sl 0), (sl 1), (sl 2), (sl 3)].getD k (sl 0)), (fun k => [(sf 0), (sf 1), (sf 2), (sf 3)].getD k (sf 0)), (fun k => [(sd 0), (sd 1), (sd 2), (sd 3)].getD k (sd 0))), rfl, (by (try dsimp only); have h9a1 : (so ((1 : Int32).toNatClampNeg)).toInt = (so 1).toInt := rfl; have h9b1 : (sn ((1 : Int32).toNatClampNeg)).toInt = (sn 1).toInt := rfl; have h9c1 : (1 : Int32).toInt = 1 := (by decide +kernel); have h9a3 : (so ((1 : Int32).toNatClampNeg)).toInt = (so 1).toInt := rfl; have h9b3 : (sn ((1 : Int32).toNatClampNeg)).toInt = (sn 1).toInt := rfl; have h9c3 : (1 : Int32).toInt = 1 := (by decide +kernel); have h9r : ((-11) : Int32).toInt = -11 := (by decide +kernel); omega), by rw [ht]; exact hP.sub [0, 1, 2, 3, 4, 5, 6, 7, 8, 9, 10, 11, 12, 13, 14, 15, 16, 17, 18, 19, 20, 21] rfl, hD.sub [0, 1, 2, 3, 4, 5, 6, 7, 8, 9, 10, 11, 12, 13, 14, 15, 16, 17, 18, 19, 20, 21] (by decide +kernel) rfl⟩, hS.F ht⟩) hS.2.2 dX12_copy_57
        · refine va_aldq hx hb hE.1 hP 1 6 rfl rfl (by unfold vp_in; decide) dX12_copy_34 ?_
          refine W.eq (g2 := F0 m 35 ls [.ref t2]) rfl ?_
          refine lv_astore (lv' := [(7, .ref t2), (6, .ref t1), (0, .ref h0), (1, .int 1), (2, .int x2), (3, .int 2), (4, .int x4), (5, .int x5)]) hx hb dX12_copy_35 hl (by decide +kernel) rfl (fun ls hl => ?_)
          refine lv_aload hx hb dX12_copy_37 (lv_at hl 1 rfl) ?_
          refine va_get (D := D) (ci := 6) (v := .int (so 1)) (C := RX9) (T := TX9) (N := 6) hx hb hts in_X12_copy_X9 hown hE.1 hP 3 rfl rfl 0 (by decide +kernel) (hts (.fieldLink RX12 277 "ClauseBook$Sheet" "sort" "I") (List.mem_of_getElem? (i := 2) rfl)) (fun _ h9 => h9) rfl dX12_copy_39 ?_
          refine lv_iconst (v := (-1)) hx hb dX12_copy_42 (by decide +kernel) ?_
          refine lv_icmp_eq (tgt := 55) hx hb dX12_copy_43 (by decide +kernel) (fun c_81 => ?_) (fun c_81 => ?_)
          · rw [fa_eq] at c_81
            try rw [ti_n1] at c_81
            refine lv_bipush (v := (-11)) hx hb dX12_copy_55 (by decide +kernel) ?_
            exact W.iret hx hb hr (fun t ht hW => ⟨⟨_, ((fun k => [(si 0), (si 1), (si 2), (si 3)].getD k (si 0)), (fun k => [(sl 0), (sl 1), (sl 2), (sl 3)].getD k (sl 0)), (fun k => [(sf 0), (sf 1), (sf 2), (sf 3)].getD k (sf 0)), (fun k => [(sd 0), (sd 1), (sd 2), (sd 3)].getD k (sd 0))), rfl, (by (try dsimp only); have h9a1 : (so ((1 : Int32).toNatClampNeg)).toInt = (so 1).toInt := rfl; have h9b1 : (sn ((1 : Int32).toNatClampNeg)).toInt = (sn 1).toInt := rfl; have h9c1 : (1 : Int32).toInt = 1 := (by decide +kernel); have h9a3 : (so ((2 : Int32).toNatClampNeg)).toInt = (so 2).toInt := rfl; have h9b3 : (sn ((2 : Int32).toNatClampNeg)).toInt = (sn 2).toInt := rfl; have h9c3 : (2 : Int32).toInt = 2 := (by decide +kernel); have h9r : ((-11) : Int32).toInt = -11 := (by decide +kernel); omega), by rw [ht]; exact hP.sub [0, 1, 2, 3, 4, 5, 6, 7, 8, 9, 10, 11, 12, 13, 14, 15, 16, 17, 18, 19, 20, 21] rfl, hD.sub [0, 1, 2, 3, 4, 5, 6, 7, 8, 9, 10, 11, 12, 13, 14, 15, 16, 17, 18, 19, 20, 21] (by decide +kernel) rfl⟩, hS.F ht⟩) hS.2.2 dX12_copy_57
          · rw [fa_eq] at c_81
            try rw [ti_n1] at c_81
            refine lv_aload hx hb dX12_copy_46 (lv_at hl 0 rfl) ?_
            refine va_get (D := D) (ci := 6) (v := .int (so 2)) (C := RX9) (T := TX9) (N := 6) hx hb hts in_X12_copy_X9 hown hE.1 hP 4 rfl rfl 0 (by decide +kernel) (hts (.fieldLink RX12 277 "ClauseBook$Sheet" "sort" "I") (List.mem_of_getElem? (i := 2) rfl)) (fun _ h9 => h9) rfl dX12_copy_48 ?_
            refine lv_iconst (v := (-1)) hx hb dX12_copy_51 (by decide +kernel) ?_
            refine lv_icmp_ne (tgt := 58) hx hb dX12_copy_52 (by decide +kernel) (fun c_82 => ?_) (fun c_82 => ?_)
            · rw [fa_eq] at c_82
              try rw [ti_n1] at c_82
              refine lv_aload hx hb dX12_copy_58 (lv_at hl 1 rfl) ?_
              refine va_get (D := D) (ci := 6) (v := .int (so 1)) (C := RX9) (T := TX9) (N := 6) hx hb hts in_X12_copy_X9 hown hE.1 hP 3 rfl rfl 0 (by decide +kernel) (hts (.fieldLink RX12 277 "ClauseBook$Sheet" "sort" "I") (List.mem_of_getElem? (i := 2) rfl)) (fun _ h9 => h9) rfl dX12_copy_60 ?_
              refine lv_aload hx hb dX12_copy_63 (lv_at hl 0 rfl) ?_
              refine va_get (D := D) (ci := 6) (v := .int (so 2)) (C := RX9) (T := TX9) (N := 6) hx hb hts in_X12_copy_X9 hown hE.1 hP 4 rfl rfl 0 (by decide +kernel) (hts (.fieldLink RX12 277 "ClauseBook$Sheet" "sort" "I") (List.mem_of_getElem? (i := 2) rfl)) (fun _ h9 => h9) rfl dX12_copy_65 ?_
              refine lv_icmp_eq (tgt := 74) hx hb dX12_copy_68 (by decide +kernel) (fun c_83 => ?_) (fun c_83 => ?_)
              · rw [fa_eq] at c_83
                refine lv_aload hx hb dX12_copy_74 (lv_at hl 1 rfl) ?_
                refine lv_iload_n hx hb dX12_copy_76 rfl (lv_at hl 4 rfl) ?_
                refine lv_iload hx hb dX12_copy_77 (lv_at hl 7 rfl) ?_
                refine vp_callSi (W.runV (As := [.int x2, .int x5]) (rest := []) ⟨hx, hb, hml, hown, hts⟩ (c_X9_hasRun l D T t1 [.int (so 1), .int (sn 1), .ref a10, .ref a11, .ref a12, .ref a13] x2 x5 (sn 1) rfl (by omega)) (cwV 2 hts gX12_copy_X9_hasRun rfl rfl rfl hv_X9_hasRun ⟨Nat.le_of_ble_eq_true rfl, Nat.le_of_ble_eq_true rfl⟩) (pR_V (q := (RX9, TX9, 6)) (ci := 6) (q0 := 3) hP hE rfl rfl [3] rfl) rfl rfl hl.1 rfl (lv_room (Nat.le_of_ble_eq_true rfl)) dX12_copy_79 ⟨Nat.le_of_ble_eq_true rfl, Nat.le_of_ble_eq_true rfl⟩) (fun r_84 hr_84 => ?_)
                rcases bool_post hr_84 with ⟨c_85, rfl⟩ | ⟨c_85, rfl⟩
                · refine lv_if_eq (tgt := 97) hx hb dX12_copy_82 (by decide +kernel) (fun c9 => absurd c9 (by decide +kernel)) (fun _ => ?_)
                  refine lv_aload hx hb dX12_copy_85 (lv_at hl 0 rfl) ?_
                  refine lv_iload hx hb dX12_copy_87 (lv_at hl 6 rfl) ?_
                  refine lv_iload hx hb dX12_copy_89 (lv_at hl 7 rfl) ?_
                  refine vp_callSi (W.runV (As := [.int x4, .int x5]) (rest := []) ⟨hx, hb, hml, hown, hts⟩ (c_X9_hasRun l D T t2 [.int (so 2), .int (sn 2), .ref a20, .ref a21, .ref a22, .ref a23] x4 x5 (sn 2) rfl (by omega)) (cwV 2 hts gX12_copy_X9_hasRun rfl rfl rfl hv_X9_hasRun ⟨Nat.le_of_ble_eq_true rfl, Nat.le_of_ble_eq_true rfl⟩) (pR_V (q := (RX9, TX9, 6)) (ci := 6) (q0 := 4) hP hE rfl rfl [4] rfl) rfl rfl hl.1 rfl (lv_room (Nat.le_of_ble_eq_true rfl)) dX12_copy_91 ⟨Nat.le_of_ble_eq_true rfl, Nat.le_of_ble_eq_true rfl⟩) (fun r_86 hr_86 => ?_)
                  rcases bool_post hr_86 with ⟨c_87, rfl⟩ | ⟨c_87, rfl⟩
                  · refine lv_if_ne (tgt := 100) hx hb dX12_copy_94 (by decide +kernel) (fun _ => ?_) (fun c9 => absurd c9 (by decide +kernel))
                    refine lv_aload hx hb dX12_copy_100 (lv_at hl 0 rfl) ?_
                    refine lv_aload hx hb dX12_copy_102 (lv_at hl 1 rfl) ?_
                    refine lv_iload_n hx hb dX12_copy_104 rfl (lv_at hl 4 rfl) ?_
                    refine lv_iload hx hb dX12_copy_105 (lv_at hl 6 rfl) ?_
                    refine lv_iload hx hb dX12_copy_107 (lv_at hl 7 rfl) ?_
                    have hFc := va_free (wc := [(t2, .inr (6, [.int (so 2), .int (sn 2), .ref a20, .ref a21, .ref a22, .ref a23])), (a20, .inl (T 0, 30, .inl (si 2))), (a21, .inl (T 1, 30, .inr (.inl (sl 2)))), (a22, .inl (T 2, 30, .inr (.inr (.inl (sf 2))))), (a23, .inl (T 3, 30, .inr (.inr (.inr (.inl (sd 2)))))), (t1, .inr (6, [.int (so 1), .int (sn 1), .ref a10, .ref a11, .ref a12, .ref a13])), (a10, .inl (T 0, 30, .inl (si 1))), (a11, .inl (T 1, 30, .inr (.inl (sl 1)))), (a12, .inl (T 2, 30, .inr (.inr (.inl (sf 1))))), (a13, .inl (T 3, 30, .inr (.inr (.inr (.inl (sd 1))))))]) hD hS hA [4, 14, 15, 16, 17, 3, 10, 11, 12, 13] rfl
                    refine va_callv (va_runV (As := [.ref t1, .int x2, .int x4, .int x5]) (rest := []) ⟨hx, hb, hml, hown, hts⟩ (c_X9_moveFrom l D T _ t2 (so 2) (sn 2) a20 a21 a22 a23 (si 2) (sl 2) (sf 2) (sd 2) t1 (so 1) (sn 1) a10 a11 a12 a13 (si 1) (sl 1) (sf 1) (sd 1) x2 x4 x5 (by omega) (by omega)) (cwV 4 hts gX12_copy_X9_moveFrom rfl rfl rfl hv_X9_moveFrom ⟨Nat.le_of_ble_eq_true rfl, Nat.le_of_ble_eq_true rfl⟩) (pW_V (q := (RX9, TX9, 6)) (ci := 6) (q0 := 4) hP hE hD rfl rfl [4, 14, 15, 16, 17, 3, 10, 11, 12, 13] (by decide +kernel) rfl rfl) rfl rfl hl.1 rfl (lv_room (Nat.le_of_ble_eq_true rfl)) dX12_copy_109 ⟨Nat.le_of_ble_eq_true rfl, Nat.le_of_ble_eq_true rfl⟩) hS (fun q _ h => hFc q h) hFc (fun u_89 t H1 locs ht hvm hr_88 hB hz1 hk1 hS => ?_)
                    obtain ⟨f_90, f_91, f_92, f_93⟩ := u_89
                    obtain ⟨hP1, hD1⟩ := hB
                    rw [ht] at hP1
                    obtain ⟨hP, hD⟩ := va_repl [(h0, .inr (9, fs0)), (h1, .inl (T 6, 4, .inr (.inr (.inr (.inr (va_up (va_up (va_up (va_up (fun _ => none) 0 (some t0)) 1 (some t1)) 2 (some t2)) 3 (some t3))))))), (t0, .inr (6, [.int (so 0), .int (sn 0), .ref a00, .ref a01, .ref a02, .ref a03])), (t1, .inr (6, [.int (so 1), .int (sn 1), .ref a10, .ref a11, .ref a12, .ref a13])), (t2, .inr (6, [.int (so 2), .int (sn 2), .ref a20, .ref a21, .ref a22, .ref a23])), (t3, .inr (6, [.int (so 3), .int (sn 3), .ref a30, .ref a31, .ref a32, .ref a33])), (a00, .inl (T 0, 30, .inl (si 0))), (a01, .inl (T 1, 30, .inr (.inl (sl 0)))), (a02, .inl (T 2, 30, .inr (.inr (.inl (sf 0))))), (a03, .inl (T 3, 30, .inr (.inr (.inr (.inl (sd 0)))))), (a10, .inl (T 0, 30, .inl (si 1))), (a11, .inl (T 1, 30, .inr (.inl (sl 1)))), (a12, .inl (T 2, 30, .inr (.inr (.inl (sf 1))))), (a13, .inl (T 3, 30, .inr (.inr (.inr (.inl (sd 1)))))), (a20, .inl (T 0, 30, .inl f_90)), (a21, .inl (T 1, 30, .inr (.inl f_91))), (a22, .inl (T 2, 30, .inr (.inr (.inl f_92)))), (a23, .inl (T 3, 30, .inr (.inr (.inr (.inl f_93))))), (a30, .inl (T 0, 30, .inl (si 3))), (a31, .inl (T 1, 30, .inr (.inl (sl 3)))), (a32, .inl (T 2, 30, .inr (.inr (.inl (sf 3))))), (a33, .inl (T 3, 30, .inr (.inr (.inr (.inl (sd 3))))))] hP hD [4, 14, 15, 16, 17, 3, 10, 11, 12, 13] [3, 4, 10, 11, 12, 13, 14, 15, 16, 17] rfl (by decide +kernel) rfl rfl rfl hk1 (hP1.sub [5, 0, 6, 7, 8, 9, 1, 2, 3, 4] rfl)
                    clear hP1 hD1 hFc
                    generalize H1 = H at hP hS ⊢
                    refine lv_iload hx hb dX12_copy_112 (lv_at hl 7 rfl) ?_
                    exact W.iret hx hb hr (fun t ht hW => ⟨⟨_, ((fun k => [(si 0), (si 1), f_90, (si 3)].getD k (si 0)), (fun k => [(sl 0), (sl 1), f_91, (sl 3)].getD k (sl 0)), (fun k => [(sf 0), (sf 1), f_92, (sf 3)].getD k (sf 0)), (fun k => [(sd 0), (sd 1), f_93, (sd 3)].getD k (sd 0))), rfl, (by (try dsimp only); have h9a1 : (so ((1 : Int32).toNatClampNeg)).toInt = (so 1).toInt := rfl; have h9b1 : (sn ((1 : Int32).toNatClampNeg)).toInt = (sn 1).toInt := rfl; have h9c1 : (1 : Int32).toInt = 1 := (by decide +kernel); have h9a3 : (so ((2 : Int32).toNatClampNeg)).toInt = (so 2).toInt := rfl; have h9b3 : (sn ((2 : Int32).toNatClampNeg)).toInt = (sn 2).toInt := rfl; have h9c3 : (2 : Int32).toInt = 2 := (by decide +kernel); omega), by rw [ht]; exact hP.sub [0, 1, 2, 3, 4, 5, 6, 7, 8, 9, 10, 11, 12, 13, 14, 15, 16, 17, 18, 19, 20, 21] rfl, hD.sub [0, 1, 2, 3, 4, 5, 6, 7, 8, 9, 10, 11, 12, 13, 14, 15, 16, 17, 18, 19, 20, 21] (by decide +kernel) rfl⟩, hS.F ht⟩) hS.2.2 dX12_copy_114
                  · refine lv_if_ne (tgt := 100) hx hb dX12_copy_94 (by decide +kernel) (fun c9 => absurd c9 (by decide +kernel)) (fun _ => ?_)
                    refine lv_bipush (v := (-12)) hx hb dX12_copy_97 (by decide +kernel) ?_
                    exact W.iret hx hb hr (fun t ht hW => ⟨⟨_, ((fun k => [(si 0), (si 1), (si 2), (si 3)].getD k (si 0)), (fun k => [(sl 0), (sl 1), (sl 2), (sl 3)].getD k (sl 0)), (fun k => [(sf 0), (sf 1), (sf 2), (sf 3)].getD k (sf 0)), (fun k => [(sd 0), (sd 1), (sd 2), (sd 3)].getD k (sd 0))), rfl, (by (try dsimp only); have h9a1 : (so ((1 : Int32).toNatClampNeg)).toInt = (so 1).toInt := rfl; have h9b1 : (sn ((1 : Int32).toNatClampNeg)).toInt = (sn 1).toInt := rfl; have h9c1 : (1 : Int32).toInt = 1 := (by decide +kernel); have h9a3 : (so ((2 : Int32).toNatClampNeg)).toInt = (so 2).toInt := rfl; have h9b3 : (sn ((2 : Int32).toNatClampNeg)).toInt = (sn 2).toInt := rfl; have h9c3 : (2 : Int32).toInt = 2 := (by decide +kernel); have h9r : ((-12) : Int32).toInt = -12 := (by decide +kernel); omega), by rw [ht]; exact hP.sub [0, 1, 2, 3, 4, 5, 6, 7, 8, 9, 10, 11, 12, 13, 14, 15, 16, 17, 18, 19, 20, 21] rfl, hD.sub [0, 1, 2, 3, 4, 5, 6, 7, 8, 9, 10, 11, 12, 13, 14, 15, 16, 17, 18, 19, 20, 21] (by decide +kernel) rfl⟩, hS.F ht⟩) hS.2.2 dX12_copy_99
                · refine lv_if_eq (tgt := 97) hx hb dX12_copy_82 (by decide +kernel) (fun _ => ?_) (fun c9 => absurd c9 (by decide +kernel))
                  refine lv_bipush (v := (-12)) hx hb dX12_copy_97 (by decide +kernel) ?_
                  exact W.iret hx hb hr (fun t ht hW => ⟨⟨_, ((fun k => [(si 0), (si 1), (si 2), (si 3)].getD k (si 0)), (fun k => [(sl 0), (sl 1), (sl 2), (sl 3)].getD k (sl 0)), (fun k => [(sf 0), (sf 1), (sf 2), (sf 3)].getD k (sf 0)), (fun k => [(sd 0), (sd 1), (sd 2), (sd 3)].getD k (sd 0))), rfl, (by (try dsimp only); have h9a1 : (so ((1 : Int32).toNatClampNeg)).toInt = (so 1).toInt := rfl; have h9b1 : (sn ((1 : Int32).toNatClampNeg)).toInt = (sn 1).toInt := rfl; have h9c1 : (1 : Int32).toInt = 1 := (by decide +kernel); have h9a3 : (so ((2 : Int32).toNatClampNeg)).toInt = (so 2).toInt := rfl; have h9b3 : (sn ((2 : Int32).toNatClampNeg)).toInt = (sn 2).toInt := rfl; have h9c3 : (2 : Int32).toInt = 2 := (by decide +kernel); have h9r : ((-12) : Int32).toInt = -12 := (by decide +kernel); omega), by rw [ht]; exact hP.sub [0, 1, 2, 3, 4, 5, 6, 7, 8, 9, 10, 11, 12, 13, 14, 15, 16, 17, 18, 19, 20, 21] rfl, hD.sub [0, 1, 2, 3, 4, 5, 6, 7, 8, 9, 10, 11, 12, 13, 14, 15, 16, 17, 18, 19, 20, 21] (by decide +kernel) rfl⟩, hS.F ht⟩) hS.2.2 dX12_copy_99
              · rw [fa_eq] at c_83
                refine lv_bipush (v := (-13)) hx hb dX12_copy_71 (by decide +kernel) ?_
                exact W.iret hx hb hr (fun t ht hW => ⟨⟨_, ((fun k => [(si 0), (si 1), (si 2), (si 3)].getD k (si 0)), (fun k => [(sl 0), (sl 1), (sl 2), (sl 3)].getD k (sl 0)), (fun k => [(sf 0), (sf 1), (sf 2), (sf 3)].getD k (sf 0)), (fun k => [(sd 0), (sd 1), (sd 2), (sd 3)].getD k (sd 0))), rfl, (by (try dsimp only); have h9a1 : (so ((1 : Int32).toNatClampNeg)).toInt = (so 1).toInt := rfl; have h9b1 : (sn ((1 : Int32).toNatClampNeg)).toInt = (sn 1).toInt := rfl; have h9c1 : (1 : Int32).toInt = 1 := (by decide +kernel); have h9a3 : (so ((2 : Int32).toNatClampNeg)).toInt = (so 2).toInt := rfl; have h9b3 : (sn ((2 : Int32).toNatClampNeg)).toInt = (sn 2).toInt := rfl; have h9c3 : (2 : Int32).toInt = 2 := (by decide +kernel); have h9r : ((-13) : Int32).toInt = -13 := (by decide +kernel); omega), by rw [ht]; exact hP.sub [0, 1, 2, 3, 4, 5, 6, 7, 8, 9, 10, 11, 12, 13, 14, 15, 16, 17, 18, 19, 20, 21] rfl, hD.sub [0, 1, 2, 3, 4, 5, 6, 7, 8, 9, 10, 11, 12, 13, 14, 15, 16, 17, 18, 19, 20, 21] (by decide +kernel) rfl⟩, hS.F ht⟩) hS.2.2 dX12_copy_73
            · rw [fa_eq] at c_82
              try rw [ti_n1] at c_82
              refine lv_bipush (v := (-11)) hx hb dX12_copy_55 (by decide +kernel) ?_
              exact W.iret hx hb hr (fun t ht hW => ⟨⟨_, ((fun k => [(si 0), (si 1), (si 2), (si 3)].getD k (si 0)), (fun k => [(sl 0), (sl 1), (sl 2), (sl 3)].getD k (sl 0)), (fun k => [(sf 0), (sf 1), (sf 2), (sf 3)].getD k (sf 0)), (fun k => [(sd 0), (sd 1), (sd 2), (sd 3)].getD k (sd 0))), rfl, (by (try dsimp only); have h9a1 : (so ((1 : Int32).toNatClampNeg)).toInt = (so 1).toInt := rfl; have h9b1 : (sn ((1 : Int32).toNatClampNeg)).toInt = (sn 1).toInt := rfl; have h9c1 : (1 : Int32).toInt = 1 := (by decide +kernel); have h9a3 : (so ((2 : Int32).toNatClampNeg)).toInt = (so 2).toInt := rfl; have h9b3 : (sn ((2 : Int32).toNatClampNeg)).toInt = (sn 2).toInt := rfl; have h9c3 : (2 : Int32).toInt = 2 := (by decide +kernel); have h9r : ((-11) : Int32).toInt = -11 := (by decide +kernel); omega), by rw [ht]; exact hP.sub [0, 1, 2, 3, 4, 5, 6, 7, 8, 9, 10, 11, 12, 13, 14, 15, 16, 17, 18, 19, 20, 21] rfl, hD.sub [0, 1, 2, 3, 4, 5, 6, 7, 8, 9, 10, 11, 12, 13, 14, 15, 16, 17, 18, 19, 20, 21] (by decide +kernel) rfl⟩, hS.F ht⟩) hS.2.2 dX12_copy_57
        · refine va_aldq hx hb hE.1 hP 1 6 rfl rfl (by unfold vp_in; decide) dX12_copy_34 ?_
          refine W.eq (g2 := F0 m 35 ls [.ref t3]) rfl ?_
          refine lv_astore (lv' := [(7, .ref t3), (6, .ref t1), (0, .ref h0), (1, .int 1), (2, .int x2), (3, .int 3), (4, .int x4), (5, .int x5)]) hx hb dX12_copy_35 hl (by decide +kernel) rfl (fun ls hl => ?_)
          refine lv_aload hx hb dX12_copy_37 (lv_at hl 1 rfl) ?_
          refine va_get (D := D) (ci := 6) (v := .int (so 1)) (C := RX9) (T := TX9) (N := 6) hx hb hts in_X12_copy_X9 hown hE.1 hP 3 rfl rfl 0 (by decide +kernel) (hts (.fieldLink RX12 277 "ClauseBook$Sheet" "sort" "I") (List.mem_of_getElem? (i := 2) rfl)) (fun _ h9 => h9) rfl dX12_copy_39 ?_
          refine lv_iconst (v := (-1)) hx hb dX12_copy_42 (by decide +kernel) ?_
          refine lv_icmp_eq (tgt := 55) hx hb dX12_copy_43 (by decide +kernel) (fun c_94 => ?_) (fun c_94 => ?_)
          · rw [fa_eq] at c_94
            try rw [ti_n1] at c_94
            refine lv_bipush (v := (-11)) hx hb dX12_copy_55 (by decide +kernel) ?_
            exact W.iret hx hb hr (fun t ht hW => ⟨⟨_, ((fun k => [(si 0), (si 1), (si 2), (si 3)].getD k (si 0)), (fun k => [(sl 0), (sl 1), (sl 2), (sl 3)].getD k (sl 0)), (fun k => [(sf 0), (sf 1), (sf 2), (sf 3)].getD k (sf 0)), (fun k => [(sd 0), (sd 1), (sd 2), (sd 3)].getD k (sd 0))), rfl, (by (try dsimp only); have h9a1 : (so ((1 : Int32).toNatClampNeg)).toInt = (so 1).toInt := rfl; have h9b1 : (sn ((1 : Int32).toNatClampNeg)).toInt = (sn 1).toInt := rfl; have h9c1 : (1 : Int32).toInt = 1 := (by decide +kernel); have h9a3 : (so ((3 : Int32).toNatClampNeg)).toInt = (so 3).toInt := rfl; have h9b3 : (sn ((3 : Int32).toNatClampNeg)).toInt = (sn 3).toInt := rfl; have h9c3 : (3 : Int32).toInt = 3 := (by decide +kernel); have h9r : ((-11) : Int32).toInt = -11 := (by decide +kernel); omega), by rw [ht]; exact hP.sub [0, 1, 2, 3, 4, 5, 6, 7, 8, 9, 10, 11, 12, 13, 14, 15, 16, 17, 18, 19, 20, 21] rfl, hD.sub [0, 1, 2, 3, 4, 5, 6, 7, 8, 9, 10, 11, 12, 13, 14, 15, 16, 17, 18, 19, 20, 21] (by decide +kernel) rfl⟩, hS.F ht⟩) hS.2.2 dX12_copy_57
          · rw [fa_eq] at c_94
            try rw [ti_n1] at c_94
            refine lv_aload hx hb dX12_copy_46 (lv_at hl 0 rfl) ?_
            refine va_get (D := D) (ci := 6) (v := .int (so 3)) (C := RX9) (T := TX9) (N := 6) hx hb hts in_X12_copy_X9 hown hE.1 hP 5 rfl rfl 0 (by decide +kernel) (hts (.fieldLink RX12 277 "ClauseBook$Sheet" "sort" "I") (List.mem_of_getElem? (i := 2) rfl)) (fun _ h9 => h9) rfl dX12_copy_48 ?_
            refine lv_iconst (v := (-1)) hx hb dX12_copy_51 (by decide +kernel) ?_
            refine lv_icmp_ne (tgt := 58) hx hb dX12_copy_52 (by decide +kernel) (fun c_95 => ?_) (fun c_95 => ?_)
            · rw [fa_eq] at c_95
              try rw [ti_n1] at c_95
              refine lv_aload hx hb dX12_copy_58 (lv_at hl 1 rfl) ?_
              refine va_get (D := D) (ci := 6) (v := .int (so 1)) (C := RX9) (T := TX9) (N := 6) hx hb hts in_X12_copy_X9 hown hE.1 hP 3 rfl rfl 0 (by decide +kernel) (hts (.fieldLink RX12 277 "ClauseBook$Sheet" "sort" "I") (List.mem_of_getElem? (i := 2) rfl)) (fun _ h9 => h9) rfl dX12_copy_60 ?_
              refine lv_aload hx hb dX12_copy_63 (lv_at hl 0 rfl) ?_
              refine va_get (D := D) (ci := 6) (v := .int (so 3)) (C := RX9) (T := TX9) (N := 6) hx hb hts in_X12_copy_X9 hown hE.1 hP 5 rfl rfl 0 (by decide +kernel) (hts (.fieldLink RX12 277 "ClauseBook$Sheet" "sort" "I") (List.mem_of_getElem? (i := 2) rfl)) (fun _ h9 => h9) rfl dX12_copy_65 ?_
              refine lv_icmp_eq (tgt := 74) hx hb dX12_copy_68 (by decide +kernel) (fun c_96 => ?_) (fun c_96 => ?_)
              · rw [fa_eq] at c_96
                refine lv_aload hx hb dX12_copy_74 (lv_at hl 1 rfl) ?_
                refine lv_iload_n hx hb dX12_copy_76 rfl (lv_at hl 4 rfl) ?_
                refine lv_iload hx hb dX12_copy_77 (lv_at hl 7 rfl) ?_
                refine vp_callSi (W.runV (As := [.int x2, .int x5]) (rest := []) ⟨hx, hb, hml, hown, hts⟩ (c_X9_hasRun l D T t1 [.int (so 1), .int (sn 1), .ref a10, .ref a11, .ref a12, .ref a13] x2 x5 (sn 1) rfl (by omega)) (cwV 2 hts gX12_copy_X9_hasRun rfl rfl rfl hv_X9_hasRun ⟨Nat.le_of_ble_eq_true rfl, Nat.le_of_ble_eq_true rfl⟩) (pR_V (q := (RX9, TX9, 6)) (ci := 6) (q0 := 3) hP hE rfl rfl [3] rfl) rfl rfl hl.1 rfl (lv_room (Nat.le_of_ble_eq_true rfl)) dX12_copy_79 ⟨Nat.le_of_ble_eq_true rfl, Nat.le_of_ble_eq_true rfl⟩) (fun r_97 hr_97 => ?_)
                rcases bool_post hr_97 with ⟨c_98, rfl⟩ | ⟨c_98, rfl⟩
                · refine lv_if_eq (tgt := 97) hx hb dX12_copy_82 (by decide +kernel) (fun c9 => absurd c9 (by decide +kernel)) (fun _ => ?_)
                  refine lv_aload hx hb dX12_copy_85 (lv_at hl 0 rfl) ?_
                  refine lv_iload hx hb dX12_copy_87 (lv_at hl 6 rfl) ?_
                  refine lv_iload hx hb dX12_copy_89 (lv_at hl 7 rfl) ?_
                  refine vp_callSi (W.runV (As := [.int x4, .int x5]) (rest := []) ⟨hx, hb, hml, hown, hts⟩ (c_X9_hasRun l D T t3 [.int (so 3), .int (sn 3), .ref a30, .ref a31, .ref a32, .ref a33] x4 x5 (sn 3) rfl (by omega)) (cwV 2 hts gX12_copy_X9_hasRun rfl rfl rfl hv_X9_hasRun ⟨Nat.le_of_ble_eq_true rfl, Nat.le_of_ble_eq_true rfl⟩) (pR_V (q := (RX9, TX9, 6)) (ci := 6) (q0 := 5) hP hE rfl rfl [5] rfl) rfl rfl hl.1 rfl (lv_room (Nat.le_of_ble_eq_true rfl)) dX12_copy_91 ⟨Nat.le_of_ble_eq_true rfl, Nat.le_of_ble_eq_true rfl⟩) (fun r_99 hr_99 => ?_)
                  rcases bool_post hr_99 with ⟨c_100, rfl⟩ | ⟨c_100, rfl⟩
                  · refine lv_if_ne (tgt := 100) hx hb dX12_copy_94 (by decide +kernel) (fun _ => ?_) (fun c9 => absurd c9 (by decide +kernel))
                    refine lv_aload hx hb dX12_copy_100 (lv_at hl 0 rfl) ?_
                    refine lv_aload hx hb dX12_copy_102 (lv_at hl 1 rfl) ?_
                    refine lv_iload_n hx hb dX12_copy_104 rfl (lv_at hl 4 rfl) ?_
                    refine lv_iload hx hb dX12_copy_105 (lv_at hl 6 rfl) ?_
                    refine lv_iload hx hb dX12_copy_107 (lv_at hl 7 rfl) ?_
                    have hFc := va_free (wc := [(t3, .inr (6, [.int (so 3), .int (sn 3), .ref a30, .ref a31, .ref a32, .ref a33])), (a30, .inl (T 0, 30, .inl (si 3))), (a31, .inl (T 1, 30, .inr (.inl (sl 3)))), (a32, .inl (T 2, 30, .inr (.inr (.inl (sf 3))))), (a33, .inl (T 3, 30, .inr (.inr (.inr (.inl (sd 3)))))), (t1, .inr (6, [.int (so 1), .int (sn 1), .ref a10, .ref a11, .ref a12, .ref a13])), (a10, .inl (T 0, 30, .inl (si 1))), (a11, .inl (T 1, 30, .inr (.inl (sl 1)))), (a12, .inl (T 2, 30, .inr (.inr (.inl (sf 1))))), (a13, .inl (T 3, 30, .inr (.inr (.inr (.inl (sd 1))))))]) hD hS hA [5, 18, 19, 20, 21, 3, 10, 11, 12, 13] rfl
                    refine va_callv (va_runV (As := [.ref t1, .int x2, .int x4, .int x5]) (rest := []) ⟨hx, hb, hml, hown, hts⟩ (c_X9_moveFrom l D T _ t3 (so 3) (sn 3) a30 a31 a32 a33 (si 3) (sl 3) (sf 3) (sd 3) t1 (so 1) (sn 1) a10 a11 a12 a13 (si 1) (sl 1) (sf 1) (sd 1) x2 x4 x5 (by omega) (by omega)) (cwV 4 hts gX12_copy_X9_moveFrom rfl rfl rfl hv_X9_moveFrom ⟨Nat.le_of_ble_eq_true rfl, Nat.le_of_ble_eq_true rfl⟩) (pW_V (q := (RX9, TX9, 6)) (ci := 6) (q0 := 5) hP hE hD rfl rfl [5, 18, 19, 20, 21, 3, 10, 11, 12, 13] (by decide +kernel) rfl rfl) rfl rfl hl.1 rfl (lv_room (Nat.le_of_ble_eq_true rfl)) dX12_copy_109 ⟨Nat.le_of_ble_eq_true rfl, Nat.le_of_ble_eq_true rfl⟩) hS (fun q _ h => hFc q h) hFc (fun u_102 t H1 locs ht hvm hr_101 hB hz1 hk1 hS => ?_)
                    obtain ⟨f_103, f_104, f_105, f_106⟩ := u_102
                    obtain ⟨hP1, hD1⟩ := hB
                    rw [ht] at hP1
                    obtain ⟨hP, hD⟩ := va_repl [(h0, .inr (9, fs0)), (h1, .inl (T 6, 4, .inr (.inr (.inr (.inr (va_up (va_up (va_up (va_up (fun _ => none) 0 (some t0)) 1 (some t1)) 2 (some t2)) 3 (some t3))))))), (t0, .inr (6, [.int (so 0), .int (sn 0), .ref a00, .ref a01, .ref a02, .ref a03])), (t1, .inr (6, [.int (so 1), .int (sn 1), .ref a10, .ref a11, .ref a12, .ref a13])), (t2, .inr (6, [.int (so 2), .int (sn 2), .ref a20, .ref a21, .ref a22, .ref a23])), (t3, .inr (6, [.int (so 3), .int (sn 3), .ref a30, .ref a31, .ref a32, .ref a33])), (a00, .inl (T 0, 30, .inl (si 0))), (a01, .inl (T 1, 30, .inr (.inl (sl 0)))), (a02, .inl (T 2, 30, .inr (.inr (.inl (sf 0))))), (a03, .inl (T 3, 30, .inr (.inr (.inr (.inl (sd 0)))))), (a10, .inl (T 0, 30, .inl (si 1))), (a11, .inl (T 1, 30, .inr (.inl (sl 1)))), (a12, .inl (T 2, 30, .inr (.inr (.inl (sf 1))))), (a13, .inl (T 3, 30, .inr (.inr (.inr (.inl (sd 1)))))), (a20, .inl (T 0, 30, .inl (si 2))), (a21, .inl (T 1, 30, .inr (.inl (sl 2)))), (a22, .inl (T 2, 30, .inr (.inr (.inl (sf 2))))), (a23, .inl (T 3, 30, .inr (.inr (.inr (.inl (sd 2)))))), (a30, .inl (T 0, 30, .inl f_103)), (a31, .inl (T 1, 30, .inr (.inl f_104))), (a32, .inl (T 2, 30, .inr (.inr (.inl f_105)))), (a33, .inl (T 3, 30, .inr (.inr (.inr (.inl f_106)))))] hP hD [5, 18, 19, 20, 21, 3, 10, 11, 12, 13] [3, 5, 10, 11, 12, 13, 18, 19, 20, 21] rfl (by decide +kernel) rfl rfl rfl hk1 (hP1.sub [5, 0, 6, 7, 8, 9, 1, 2, 3, 4] rfl)
                    clear hP1 hD1 hFc
                    generalize H1 = H at hP hS ⊢
                    refine lv_iload hx hb dX12_copy_112 (lv_at hl 7 rfl) ?_
                    exact W.iret hx hb hr (fun t ht hW => ⟨⟨_, ((fun k => [(si 0), (si 1), (si 2), f_103].getD k (si 0)), (fun k => [(sl 0), (sl 1), (sl 2), f_104].getD k (sl 0)), (fun k => [(sf 0), (sf 1), (sf 2), f_105].getD k (sf 0)), (fun k => [(sd 0), (sd 1), (sd 2), f_106].getD k (sd 0))), rfl, (by (try dsimp only); have h9a1 : (so ((1 : Int32).toNatClampNeg)).toInt = (so 1).toInt := rfl; have h9b1 : (sn ((1 : Int32).toNatClampNeg)).toInt = (sn 1).toInt := rfl; have h9c1 : (1 : Int32).toInt = 1 := (by decide +kernel); have h9a3 : (so ((3 : Int32).toNatClampNeg)).toInt = (so 3).toInt := rfl; have h9b3 : (sn ((3 : Int32).toNatClampNeg)).toInt = (sn 3).toInt := rfl; have h9c3 : (3 : Int32).toInt = 3 := (by decide +kernel); omega), by rw [ht]; exact hP.sub [0, 1, 2, 3, 4, 5, 6, 7, 8, 9, 10, 11, 12, 13, 14, 15, 16, 17, 18, 19, 20, 21] rfl, hD.sub [0, 1, 2, 3, 4, 5, 6, 7, 8, 9, 10, 11, 12, 13, 14, 15, 16, 17, 18, 19, 20, 21] (by decide +kernel) rfl⟩, hS.F ht⟩) hS.2.2 dX12_copy_114
                  · refine lv_if_ne (tgt := 100) hx hb dX12_copy_94 (by decide +kernel) (fun c9 => absurd c9 (by decide +kernel)) (fun _ => ?_)
                    refine lv_bipush (v := (-12)) hx hb dX12_copy_97 (by decide +kernel) ?_
                    exact W.iret hx hb hr (fun t ht hW => ⟨⟨_, ((fun k => [(si 0), (si 1), (si 2), (si 3)].getD k (si 0)), (fun k => [(sl 0), (sl 1), (sl 2), (sl 3)].getD k (sl 0)), (fun k => [(sf 0), (sf 1), (sf 2), (sf 3)].getD k (sf 0)), (fun k => [(sd 0), (sd 1), (sd 2), (sd 3)].getD k (sd 0))), rfl, (by (try dsimp only); have h9a1 : (so ((1 : Int32).toNatClampNeg)).toInt = (so 1).toInt := rfl; have h9b1 : (sn ((1 : Int32).toNatClampNeg)).toInt = (sn 1).toInt := rfl; have h9c1 : (1 : Int32).toInt = 1 := (by decide +kernel); have h9a3 : (so ((3 : Int32).toNatClampNeg)).toInt = (so 3).toInt := rfl; have h9b3 : (sn ((3 : Int32).toNatClampNeg)).toInt = (sn 3).toInt := rfl; have h9c3 : (3 : Int32).toInt = 3 := (by decide +kernel); have h9r : ((-12) : Int32).toInt = -12 := (by decide +kernel); omega), by rw [ht]; exact hP.sub [0, 1, 2, 3, 4, 5, 6, 7, 8, 9, 10, 11, 12, 13, 14, 15, 16, 17, 18, 19, 20, 21] rfl, hD.sub [0, 1, 2, 3, 4, 5, 6, 7, 8, 9, 10, 11, 12, 13, 14, 15, 16, 17, 18, 19, 20, 21] (by decide +kernel) rfl⟩, hS.F ht⟩) hS.2.2 dX12_copy_99
                · refine lv_if_eq (tgt := 97) hx hb dX12_copy_82 (by decide +kernel) (fun _ => ?_) (fun c9 => absurd c9 (by decide +kernel))
                  refine lv_bipush (v := (-12)) hx hb dX12_copy_97 (by decide +kernel) ?_
                  exact W.iret hx hb hr (fun t ht hW => ⟨⟨_, ((fun k => [(si 0), (si 1), (si 2), (si 3)].getD k (si 0)), (fun k => [(sl 0), (sl 1), (sl 2), (sl 3)].getD k (sl 0)), (fun k => [(sf 0), (sf 1), (sf 2), (sf 3)].getD k (sf 0)), (fun k => [(sd 0), (sd 1), (sd 2), (sd 3)].getD k (sd 0))), rfl, (by (try dsimp only); have h9a1 : (so ((1 : Int32).toNatClampNeg)).toInt = (so 1).toInt := rfl; have h9b1 : (sn ((1 : Int32).toNatClampNeg)).toInt = (sn 1).toInt := rfl; have h9c1 : (1 : Int32).toInt = 1 := (by decide +kernel); have h9a3 : (so ((3 : Int32).toNatClampNeg)).toInt = (so 3).toInt := rfl; have h9b3 : (sn ((3 : Int32).toNatClampNeg)).toInt = (sn 3).toInt := rfl; have h9c3 : (3 : Int32).toInt = 3 := (by decide +kernel); have h9r : ((-12) : Int32).toInt = -12 := (by decide +kernel); omega), by rw [ht]; exact hP.sub [0, 1, 2, 3, 4, 5, 6, 7, 8, 9, 10, 11, 12, 13, 14, 15, 16, 17, 18, 19, 20, 21] rfl, hD.sub [0, 1, 2, 3, 4, 5, 6, 7, 8, 9, 10, 11, 12, 13, 14, 15, 16, 17, 18, 19, 20, 21] (by decide +kernel) rfl⟩, hS.F ht⟩) hS.2.2 dX12_copy_99
              · rw [fa_eq] at c_96
                refine lv_bipush (v := (-13)) hx hb dX12_copy_71 (by decide +kernel) ?_
                exact W.iret hx hb hr (fun t ht hW => ⟨⟨_, ((fun k => [(si 0), (si 1), (si 2), (si 3)].getD k (si 0)), (fun k => [(sl 0), (sl 1), (sl 2), (sl 3)].getD k (sl 0)), (fun k => [(sf 0), (sf 1), (sf 2), (sf 3)].getD k (sf 0)), (fun k => [(sd 0), (sd 1), (sd 2), (sd 3)].getD k (sd 0))), rfl, (by (try dsimp only); have h9a1 : (so ((1 : Int32).toNatClampNeg)).toInt = (so 1).toInt := rfl; have h9b1 : (sn ((1 : Int32).toNatClampNeg)).toInt = (sn 1).toInt := rfl; have h9c1 : (1 : Int32).toInt = 1 := (by decide +kernel); have h9a3 : (so ((3 : Int32).toNatClampNeg)).toInt = (so 3).toInt := rfl; have h9b3 : (sn ((3 : Int32).toNatClampNeg)).toInt = (sn 3).toInt := rfl; have h9c3 : (3 : Int32).toInt = 3 := (by decide +kernel); have h9r : ((-13) : Int32).toInt = -13 := (by decide +kernel); omega), by rw [ht]; exact hP.sub [0, 1, 2, 3, 4, 5, 6, 7, 8, 9, 10, 11, 12, 13, 14, 15, 16, 17, 18, 19, 20, 21] rfl, hD.sub [0, 1, 2, 3, 4, 5, 6, 7, 8, 9, 10, 11, 12, 13, 14, 15, 16, 17, 18, 19, 20, 21] (by decide +kernel) rfl⟩, hS.F ht⟩) hS.2.2 dX12_copy_73
            · rw [fa_eq] at c_95
              try rw [ti_n1] at c_95
              refine lv_bipush (v := (-11)) hx hb dX12_copy_55 (by decide +kernel) ?_
              exact W.iret hx hb hr (fun t ht hW => ⟨⟨_, ((fun k => [(si 0), (si 1), (si 2), (si 3)].getD k (si 0)), (fun k => [(sl 0), (sl 1), (sl 2), (sl 3)].getD k (sl 0)), (fun k => [(sf 0), (sf 1), (sf 2), (sf 3)].getD k (sf 0)), (fun k => [(sd 0), (sd 1), (sd 2), (sd 3)].getD k (sd 0))), rfl, (by (try dsimp only); have h9a1 : (so ((1 : Int32).toNatClampNeg)).toInt = (so 1).toInt := rfl; have h9b1 : (sn ((1 : Int32).toNatClampNeg)).toInt = (sn 1).toInt := rfl; have h9c1 : (1 : Int32).toInt = 1 := (by decide +kernel); have h9a3 : (so ((3 : Int32).toNatClampNeg)).toInt = (so 3).toInt := rfl; have h9b3 : (sn ((3 : Int32).toNatClampNeg)).toInt = (sn 3).toInt := rfl; have h9c3 : (3 : Int32).toInt = 3 := (by decide +kernel); have h9r : ((-11) : Int32).toInt = -11 := (by decide +kernel); omega), by rw [ht]; exact hP.sub [0, 1, 2, 3, 4, 5, 6, 7, 8, 9, 10, 11, 12, 13, 14, 15, 16, 17, 18, 19, 20, 21] rfl, hD.sub [0, 1, 2, 3, 4, 5, 6, 7, 8, 9, 10, 11, 12, 13, 14, 15, 16, 17, 18, 19, 20, 21] (by decide +kernel) rfl⟩, hS.F ht⟩) hS.2.2 dX12_copy_57
      · refine va_aldq hx hb hE.1 hP 1 6 rfl rfl (by unfold vp_in; decide) dX12_copy_26 ?_
        refine W.eq (g2 := F0 m 27 ls [.ref t2]) rfl ?_
        refine lv_astore (lv' := [(6, .ref t2), (0, .ref h0), (1, .int 2), (2, .int x2), (3, .int x3), (4, .int x4), (5, .int x5)]) hx hb dX12_copy_27 hl (by decide +kernel) rfl (fun ls hl => ?_)
        refine lv_aload_n hx hb dX12_copy_29 rfl (lv_at hl 1 rfl) ?_
        refine va_get (D := D) (ci := 9) (v := .ref h1) (C := RX12) (T := TX12) (N := 11) hx hb hts in_X12_copy_X12 hown hE.1 hP 0 rfl rfl 9 (by decide +kernel) (hts (.fieldLink RX12 65 "ClauseBook" "sheets" "[LClauseBook$Sheet;") (List.mem_of_getElem? (i := 1) rfl)) (fun _ h9 => h9) e0_9 dX12_copy_30 ?_
        refine lv_iload_n hx hb dX12_copy_33 rfl (lv_at hl 4 rfl) ?_
        rcases in4 (x := x3) (by omega) with rfl | rfl | rfl | rfl
        · refine va_aldq hx hb hE.1 hP 1 6 rfl rfl (by unfold vp_in; decide) dX12_copy_34 ?_
          refine W.eq (g2 := F0 m 35 ls [.ref t0]) rfl ?_
          refine lv_astore (lv' := [(7, .ref t0), (6, .ref t2), (0, .ref h0), (1, .int 2), (2, .int x2), (3, .int 0), (4, .int x4), (5, .int x5)]) hx hb dX12_copy_35 hl (by decide +kernel) rfl (fun ls hl => ?_)
          refine lv_aload hx hb dX12_copy_37 (lv_at hl 1 rfl) ?_
          refine va_get (D := D) (ci := 6) (v := .int (so 2)) (C := RX9) (T := TX9) (N := 6) hx hb hts in_X12_copy_X9 hown hE.1 hP 4 rfl rfl 0 (by decide +kernel) (hts (.fieldLink RX12 277 "ClauseBook$Sheet" "sort" "I") (List.mem_of_getElem? (i := 2) rfl)) (fun _ h9 => h9) rfl dX12_copy_39 ?_
          refine lv_iconst (v := (-1)) hx hb dX12_copy_42 (by decide +kernel) ?_
          refine lv_icmp_eq (tgt := 55) hx hb dX12_copy_43 (by decide +kernel) (fun c_107 => ?_) (fun c_107 => ?_)
          · rw [fa_eq] at c_107
            try rw [ti_n1] at c_107
            refine lv_bipush (v := (-11)) hx hb dX12_copy_55 (by decide +kernel) ?_
            exact W.iret hx hb hr (fun t ht hW => ⟨⟨_, ((fun k => [(si 0), (si 1), (si 2), (si 3)].getD k (si 0)), (fun k => [(sl 0), (sl 1), (sl 2), (sl 3)].getD k (sl 0)), (fun k => [(sf 0), (sf 1), (sf 2), (sf 3)].getD k (sf 0)), (fun k => [(sd 0), (sd 1), (sd 2), (sd 3)].getD k (sd 0))), rfl, (by (try dsimp only); have h9a1 : (so ((2 : Int32).toNatClampNeg)).toInt = (so 2).toInt := rfl; have h9b1 : (sn ((2 : Int32).toNatClampNeg)).toInt = (sn 2).toInt := rfl; have h9c1 : (2 : Int32).toInt = 2 := (by decide +kernel); have h9a3 : (so ((0 : Int32).toNatClampNeg)).toInt = (so 0).toInt := rfl; have h9b3 : (sn ((0 : Int32).toNatClampNeg)).toInt = (sn 0).toInt := rfl; have h9c3 : (0 : Int32).toInt = 0 := (by decide +kernel); have h9r : ((-11) : Int32).toInt = -11 := (by decide +kernel); omega), by rw [ht]; exact hP.sub [0, 1, 2, 3, 4, 5, 6, 7, 8, 9, 10, 11, 12, 13, 14, 15, 16, 17, 18, 19, 20, 21] rfl, hD.sub [0, 1, 2, 3, 4, 5, 6, 7, 8, 9, 10, 11, 12, 13, 14, 15, 16, 17, 18, 19, 20, 21] (by decide +kernel) rfl⟩, hS.F ht⟩) hS.2.2 dX12_copy_57
          · rw [fa_eq] at c_107
            try rw [ti_n1] at c_107
            refine lv_aload hx hb dX12_copy_46 (lv_at hl 0 rfl) ?_
            refine va_get (D := D) (ci := 6) (v := .int (so 0)) (C := RX9) (T := TX9) (N := 6) hx hb hts in_X12_copy_X9 hown hE.1 hP 2 rfl rfl 0 (by decide +kernel) (hts (.fieldLink RX12 277 "ClauseBook$Sheet" "sort" "I") (List.mem_of_getElem? (i := 2) rfl)) (fun _ h9 => h9) rfl dX12_copy_48 ?_
            refine lv_iconst (v := (-1)) hx hb dX12_copy_51 (by decide +kernel) ?_
            refine lv_icmp_ne (tgt := 58) hx hb dX12_copy_52 (by decide +kernel) (fun c_108 => ?_) (fun c_108 => ?_)
            · rw [fa_eq] at c_108
              try rw [ti_n1] at c_108
              refine lv_aload hx hb dX12_copy_58 (lv_at hl 1 rfl) ?_
              refine va_get (D := D) (ci := 6) (v := .int (so 2)) (C := RX9) (T := TX9) (N := 6) hx hb hts in_X12_copy_X9 hown hE.1 hP 4 rfl rfl 0 (by decide +kernel) (hts (.fieldLink RX12 277 "ClauseBook$Sheet" "sort" "I") (List.mem_of_getElem? (i := 2) rfl)) (fun _ h9 => h9) rfl dX12_copy_60 ?_
              refine lv_aload hx hb dX12_copy_63 (lv_at hl 0 rfl) ?_
              refine va_get (D := D) (ci := 6) (v := .int (so 0)) (C := RX9) (T := TX9) (N := 6) hx hb hts in_X12_copy_X9 hown hE.1 hP 2 rfl rfl 0 (by decide +kernel) (hts (.fieldLink RX12 277 "ClauseBook$Sheet" "sort" "I") (List.mem_of_getElem? (i := 2) rfl)) (fun _ h9 => h9) rfl dX12_copy_65 ?_
              refine lv_icmp_eq (tgt := 74) hx hb dX12_copy_68 (by decide +kernel) (fun c_109 => ?_) (fun c_109 => ?_)
              · rw [fa_eq] at c_109
                refine lv_aload hx hb dX12_copy_74 (lv_at hl 1 rfl) ?_
                refine lv_iload_n hx hb dX12_copy_76 rfl (lv_at hl 4 rfl) ?_
                refine lv_iload hx hb dX12_copy_77 (lv_at hl 7 rfl) ?_
                refine vp_callSi (W.runV (As := [.int x2, .int x5]) (rest := []) ⟨hx, hb, hml, hown, hts⟩ (c_X9_hasRun l D T t2 [.int (so 2), .int (sn 2), .ref a20, .ref a21, .ref a22, .ref a23] x2 x5 (sn 2) rfl (by omega)) (cwV 2 hts gX12_copy_X9_hasRun rfl rfl rfl hv_X9_hasRun ⟨Nat.le_of_ble_eq_true rfl, Nat.le_of_ble_eq_true rfl⟩) (pR_V (q := (RX9, TX9, 6)) (ci := 6) (q0 := 4) hP hE rfl rfl [4] rfl) rfl rfl hl.1 rfl (lv_room (Nat.le_of_ble_eq_true rfl)) dX12_copy_79 ⟨Nat.le_of_ble_eq_true rfl, Nat.le_of_ble_eq_true rfl⟩) (fun r_110 hr_110 => ?_)
                rcases bool_post hr_110 with ⟨c_111, rfl⟩ | ⟨c_111, rfl⟩
                · refine lv_if_eq (tgt := 97) hx hb dX12_copy_82 (by decide +kernel) (fun c9 => absurd c9 (by decide +kernel)) (fun _ => ?_)
                  refine lv_aload hx hb dX12_copy_85 (lv_at hl 0 rfl) ?_
                  refine lv_iload hx hb dX12_copy_87 (lv_at hl 6 rfl) ?_
                  refine lv_iload hx hb dX12_copy_89 (lv_at hl 7 rfl) ?_
                  refine vp_callSi (W.runV (As := [.int x4, .int x5]) (rest := []) ⟨hx, hb, hml, hown, hts⟩ (c_X9_hasRun l D T t0 [.int (so 0), .int (sn 0), .ref a00, .ref a01, .ref a02, .ref a03] x4 x5 (sn 0) rfl (by omega)) (cwV 2 hts gX12_copy_X9_hasRun rfl rfl rfl hv_X9_hasRun ⟨Nat.le_of_ble_eq_true rfl, Nat.le_of_ble_eq_true rfl⟩) (pR_V (q := (RX9, TX9, 6)) (ci := 6) (q0 := 2) hP hE rfl rfl [2] rfl) rfl rfl hl.1 rfl (lv_room (Nat.le_of_ble_eq_true rfl)) dX12_copy_91 ⟨Nat.le_of_ble_eq_true rfl, Nat.le_of_ble_eq_true rfl⟩) (fun r_112 hr_112 => ?_)
                  rcases bool_post hr_112 with ⟨c_113, rfl⟩ | ⟨c_113, rfl⟩
                  · refine lv_if_ne (tgt := 100) hx hb dX12_copy_94 (by decide +kernel) (fun _ => ?_) (fun c9 => absurd c9 (by decide +kernel))
                    refine lv_aload hx hb dX12_copy_100 (lv_at hl 0 rfl) ?_
                    refine lv_aload hx hb dX12_copy_102 (lv_at hl 1 rfl) ?_
                    refine lv_iload_n hx hb dX12_copy_104 rfl (lv_at hl 4 rfl) ?_
                    refine lv_iload hx hb dX12_copy_105 (lv_at hl 6 rfl) ?_
                    refine lv_iload hx hb dX12_copy_107 (lv_at hl 7 rfl) ?_
                    have hFc := va_free (wc := [(t0, .inr (6, [.int (so 0), .int (sn 0), .ref a00, .ref a01, .ref a02, .ref a03])), (a00, .inl (T 0, 30, .inl (si 0))), (a01, .inl (T 1, 30, .inr (.inl (sl 0)))), (a02, .inl (T 2, 30, .inr (.inr (.inl (sf 0))))), (a03, .inl (T 3, 30, .inr (.inr (.inr (.inl (sd 0)))))), (t2, .inr (6, [.int (so 2), .int (sn 2), .ref a20, .ref a21, .ref a22, .ref a23])), (a20, .inl (T 0, 30, .inl (si 2))), (a21, .inl (T 1, 30, .inr (.inl (sl 2)))), (a22, .inl (T 2, 30, .inr (.inr (.inl (sf 2))))), (a23, .inl (T 3, 30, .inr (.inr (.inr (.inl (sd 2))))))]) hD hS hA [2, 6, 7, 8, 9, 4, 14, 15, 16, 17] rfl
                    refine va_callv (va_runV (As := [.ref t2, .int x2, .int x4, .int x5]) (rest := []) ⟨hx, hb, hml, hown, hts⟩ (c_X9_moveFrom l D T _ t0 (so 0) (sn 0) a00 a01 a02 a03 (si 0) (sl 0) (sf 0) (sd 0) t2 (so 2) (sn 2) a20 a21 a22 a23 (si 2) (sl 2) (sf 2) (sd 2) x2 x4 x5 (by omega) (by omega)) (cwV 4 hts gX12_copy_X9_moveFrom rfl rfl rfl hv_X9_moveFrom ⟨Nat.le_of_ble_eq_true rfl, Nat.le_of_ble_eq_true rfl⟩) (pW_V (q := (RX9, TX9, 6)) (ci := 6) (q0 := 2) hP hE hD rfl rfl [2, 6, 7, 8, 9, 4, 14, 15, 16, 17] (by decide +kernel) rfl rfl) rfl rfl hl.1 rfl (lv_room (Nat.le_of_ble_eq_true rfl)) dX12_copy_109 ⟨Nat.le_of_ble_eq_true rfl, Nat.le_of_ble_eq_true rfl⟩) hS (fun q _ h => hFc q h) hFc (fun u_115 t H1 locs ht hvm hr_114 hB hz1 hk1 hS => ?_)
                    obtain ⟨f_116, f_117, f_118, f_119⟩ := u_115
                    obtain ⟨hP1, hD1⟩ := hB
                    rw [ht] at hP1
                    obtain ⟨hP, hD⟩ := va_repl [(h0, .inr (9, fs0)), (h1, .inl (T 6, 4, .inr (.inr (.inr (.inr (va_up (va_up (va_up (va_up (fun _ => none) 0 (some t0)) 1 (some t1)) 2 (some t2)) 3 (some t3))))))), (t0, .inr (6, [.int (so 0), .int (sn 0), .ref a00, .ref a01, .ref a02, .ref a03])), (t1, .inr (6, [.int (so 1), .int (sn 1), .ref a10, .ref a11, .ref a12, .ref a13])), (t2, .inr (6, [.int (so 2), .int (sn 2), .ref a20, .ref a21, .ref a22, .ref a23])), (t3, .inr (6, [.int (so 3), .int (sn 3), .ref a30, .ref a31, .ref a32, .ref a33])), (a00, .inl (T 0, 30, .inl f_116)), (a01, .inl (T 1, 30, .inr (.inl f_117))), (a02, .inl (T 2, 30, .inr (.inr (.inl f_118)))), (a03, .inl (T 3, 30, .inr (.inr (.inr (.inl f_119))))), (a10, .inl (T 0, 30, .inl (si 1))), (a11, .inl (T 1, 30, .inr (.inl (sl 1)))), (a12, .inl (T 2, 30, .inr (.inr (.inl (sf 1))))), (a13, .inl (T 3, 30, .inr (.inr (.inr (.inl (sd 1)))))), (a20, .inl (T 0, 30, .inl (si 2))), (a21, .inl (T 1, 30, .inr (.inl (sl 2)))), (a22, .inl (T 2, 30, .inr (.inr (.inl (sf 2))))), (a23, .inl (T 3, 30, .inr (.inr (.inr (.inl (sd 2)))))), (a30, .inl (T 0, 30, .inl (si 3))), (a31, .inl (T 1, 30, .inr (.inl (sl 3)))), (a32, .inl (T 2, 30, .inr (.inr (.inl (sf 3))))), (a33, .inl (T 3, 30, .inr (.inr (.inr (.inl (sd 3))))))] hP hD [2, 6, 7, 8, 9, 4, 14, 15, 16, 17] [2, 4, 6, 7, 8, 9, 14, 15, 16, 17] rfl (by decide +kernel) rfl rfl rfl hk1 (hP1.sub [0, 5, 1, 2, 3, 4, 6, 7, 8, 9] rfl)
                    clear hP1 hD1 hFc
                    generalize H1 = H at hP hS ⊢
                    refine lv_iload hx hb dX12_copy_112 (lv_at hl 7 rfl) ?_
                    exact W.iret hx hb hr (fun t ht hW => ⟨⟨_, ((fun k => [f_116, (si 1), (si 2), (si 3)].getD k f_116), (fun k => [f_117, (sl 1), (sl 2), (sl 3)].getD k f_117), (fun k => [f_118, (sf 1), (sf 2), (sf 3)].getD k f_118), (fun k => [f_119, (sd 1), (sd 2), (sd 3)].getD k f_119)), rfl, (by (try dsimp only); have h9a1 : (so ((2 : Int32).toNatClampNeg)).toInt = (so 2).toInt := rfl; have h9b1 : (sn ((2 : Int32).toNatClampNeg)).toInt = (sn 2).toInt := rfl; have h9c1 : (2 : Int32).toInt = 2 := (by decide +kernel); have h9a3 : (so ((0 : Int32).toNatClampNeg)).toInt = (so 0).toInt := rfl; have h9b3 : (sn ((0 : Int32).toNatClampNeg)).toInt = (sn 0).toInt := rfl; have h9c3 : (0 : Int32).toInt = 0 := (by decide +kernel); omega), by rw [ht]; exact hP.sub [0, 1, 2, 3, 4, 5, 6, 7, 8, 9, 10, 11, 12, 13, 14, 15, 16, 17, 18, 19, 20, 21] rfl, hD.sub [0, 1, 2, 3, 4, 5, 6, 7, 8, 9, 10, 11, 12, 13, 14, 15, 16, 17, 18, 19, 20, 21] (by decide +kernel) rfl⟩, hS.F ht⟩) hS.2.2 dX12_copy_114
                  · refine lv_if_ne (tgt := 100) hx hb dX12_copy_94 (by decide +kernel) (fun c9 => absurd c9 (by decide +kernel)) (fun _ => ?_)
                    refine lv_bipush (v := (-12)) hx hb dX12_copy_97 (by decide +kernel) ?_
                    exact W.iret hx hb hr (fun t ht hW => ⟨⟨_, ((fun k => [(si 0), (si 1), (si 2), (si 3)].getD k (si 0)), (fun k => [(sl 0), (sl 1), (sl 2), (sl 3)].getD k (sl 0)), (fun k => [(sf 0), (sf 1), (sf 2), (sf 3)].getD k (sf 0)), (fun k => [(sd 0), (sd 1), (sd 2), (sd 3)].getD k (sd 0))), rfl, (by (try dsimp only); have h9a1 : (so ((2 : Int32).toNatClampNeg)).toInt = (so 2).toInt := rfl; have h9b1 : (sn ((2 : Int32).toNatClampNeg)).toInt = (sn 2).toInt := rfl; have h9c1 : (2 : Int32).toInt = 2 := (by decide +kernel); have h9a3 : (so ((0 : Int32).toNatClampNeg)).toInt = (so 0).toInt := rfl; have h9b3 : (sn ((0 : Int32).toNatClampNeg)).toInt = (sn 0).toInt := rfl; have h9c3 : (0 : Int32).toInt = 0 := (by decide +kernel); have h9r : ((-12) : Int32).toInt = -12 := (by decide +kernel); omega), by rw [ht]; exact hP.sub [0, 1, 2, 3, 4, 5, 6, 7, 8, 9, 10, 11, 12, 13, 14, 15, 16, 17, 18, 19, 20, 21] rfl, hD.sub [0, 1, 2, 3, 4, 5, 6, 7, 8, 9, 10, 11, 12, 13, 14, 15, 16, 17, 18, 19, 20, 21] (by decide +kernel) rfl⟩, hS.F ht⟩) hS.2.2 dX12_copy_99
                · refine lv_if_eq (tgt := 97) hx hb dX12_copy_82 (by decide +kernel) (fun _ => ?_) (fun c9 => absurd c9 (by decide +kernel))
                  refine lv_bipush (v := (-12)) hx hb dX12_copy_97 (by decide +kernel) ?_
                  exact W.iret hx hb hr (fun t ht hW => ⟨⟨_, ((fun k => [(si 0), (si 1), (si 2), (si 3)].getD k (si 0)), (fun k => [(sl 0), (sl 1), (sl 2), (sl 3)].getD k (sl 0)), (fun k => [(sf 0), (sf 1), (sf 2), (sf 3)].getD k (sf 0)), (fun k => [(sd 0), (sd 1), (sd 2), (sd 3)].getD k (sd 0))), rfl, (by (try dsimp only); have h9a1 : (so ((2 : Int32).toNatClampNeg)).toInt = (so 2).toInt := rfl; have h9b1 : (sn ((2 : Int32).toNatClampNeg)).toInt = (sn 2).toInt := rfl; have h9c1 : (2 : Int32).toInt = 2 := (by decide +kernel); have h9a3 : (so ((0 : Int32).toNatClampNeg)).toInt = (so 0).toInt := rfl; have h9b3 : (sn ((0 : Int32).toNatClampNeg)).toInt = (sn 0).toInt := rfl; have h9c3 : (0 : Int32).toInt = 0 := (by decide +kernel); have h9r : ((-12) : Int32).toInt = -12 := (by decide +kernel); omega), by rw [ht]; exact hP.sub [0, 1, 2, 3, 4, 5, 6, 7, 8, 9, 10, 11, 12, 13, 14, 15, 16, 17, 18, 19, 20, 21] rfl, hD.sub [0, 1, 2, 3, 4, 5, 6, 7, 8, 9, 10, 11, 12, 13, 14, 15, 16, 17, 18, 19, 20, 21] (by decide +kernel) rfl⟩, hS.F ht⟩) hS.2.2 dX12_copy_99
              · rw [fa_eq] at c_109
                refine lv_bipush (v := (-13)) hx hb dX12_copy_71 (by decide +kernel) ?_
                exact W.iret hx hb hr (fun t ht hW => ⟨⟨_, ((fun k => [(si 0), (si 1), (si 2), (si 3)].getD k (si 0)), (fun k => [(sl 0), (sl 1), (sl 2), (sl 3)].getD k (sl 0)), (fun k => [(sf 0), (sf 1), (sf 2), (sf 3)].getD k (sf 0)), (fun k => [(sd 0), (sd 1), (sd 2), (sd 3)].getD k (sd 0))), rfl, (by (try dsimp only); have h9a1 : (so ((2 : Int32).toNatClampNeg)).toInt = (so 2).toInt := rfl; have h9b1 : (sn ((2 : Int32).toNatClampNeg)).toInt = (sn 2).toInt := rfl; have h9c1 : (2 : Int32).toInt = 2 := (by decide +kernel); have h9a3 : (so ((0 : Int32).toNatClampNeg)).toInt = (so 0).toInt := rfl; have h9b3 : (sn ((0 : Int32).toNatClampNeg)).toInt = (sn 0).toInt := rfl; have h9c3 : (0 : Int32).toInt = 0 := (by decide +kernel); have h9r : ((-13) : Int32).toInt = -13 := (by decide +kernel); omega), by rw [ht]; exact hP.sub [0, 1, 2, 3, 4, 5, 6, 7, 8, 9, 10, 11, 12, 13, 14, 15, 16, 17, 18, 19, 20, 21] rfl, hD.sub [0, 1, 2, 3, 4, 5, 6, 7, 8, 9, 10, 11, 12, 13, 14, 15, 16, 17, 18, 19, 20, 21] (by decide +kernel) rfl⟩, hS.F ht⟩) hS.2.2 dX12_copy_73
            · rw [fa_eq] at c_108
              try rw [ti_n1] at c_108
              refine lv_bipush (v := (-11)) hx hb dX12_copy_55 (by decide +kernel) ?_
              exact W.iret hx hb hr (fun t ht hW => ⟨⟨_, ((fun k => [(si 0), (si 1), (si 2), (si 3)].getD k (si 0)), (fun k => [(sl 0), (sl 1), (sl 2), (sl 3)].getD k (sl 0)), (fun k => [(sf 0), (sf 1), (sf 2), (sf 3)].getD k (sf 0)), (fun k => [(sd 0), (sd 1), (sd 2), (sd 3)].getD k (sd 0))), rfl, (by (try dsimp only); have h9a1 : (so ((2 : Int32).toNatClampNeg)).toInt = (so 2).toInt := rfl; have h9b1 : (sn ((2 : Int32).toNatClampNeg)).toInt = (sn 2).toInt := rfl; have h9c1 : (2 : Int32).toInt = 2 := (by decide +kernel); have h9a3 : (so ((0 : Int32).toNatClampNeg)).toInt = (so 0).toInt := rfl; have h9b3 : (sn ((0 : Int32).toNatClampNeg)).toInt = (sn 0).toInt := rfl; have h9c3 : (0 : Int32).toInt = 0 := (by decide +kernel); have h9r : ((-11) : Int32).toInt = -11 := (by decide +kernel); omega), by rw [ht]; exact hP.sub [0, 1, 2, 3, 4, 5, 6, 7, 8, 9, 10, 11, 12, 13, 14, 15, 16, 17, 18, 19, 20, 21] rfl, hD.sub [0, 1, 2, 3, 4, 5, 6, 7, 8, 9, 10, 11, 12, 13, 14, 15, 16, 17, 18, 19, 20, 21] (by decide +kernel) rfl⟩, hS.F ht⟩) hS.2.2 dX12_copy_57
        · refine va_aldq hx hb hE.1 hP 1 6 rfl rfl (by unfold vp_in; decide) dX12_copy_34 ?_
          refine W.eq (g2 := F0 m 35 ls [.ref t1]) rfl ?_
          refine lv_astore (lv' := [(7, .ref t1), (6, .ref t2), (0, .ref h0), (1, .int 2), (2, .int x2), (3, .int 1), (4, .int x4), (5, .int x5)]) hx hb dX12_copy_35 hl (by decide +kernel) rfl (fun ls hl => ?_)
          refine lv_aload hx hb dX12_copy_37 (lv_at hl 1 rfl) ?_
          refine va_get (D := D) (ci := 6) (v := .int (so 2)) (C := RX9) (T := TX9) (N := 6) hx hb hts in_X12_copy_X9 hown hE.1 hP 4 rfl rfl 0 (by decide +kernel) (hts (.fieldLink RX12 277 "ClauseBook$Sheet" "sort" "I") (List.mem_of_getElem? (i := 2) rfl)) (fun _ h9 => h9) rfl dX12_copy_39 ?_
          refine lv_iconst (v := (-1)) hx hb dX12_copy_42 (by decide +kernel) ?_
          refine lv_icmp_eq (tgt := 55) hx hb dX12_copy_43 (by decide +kernel) (fun c_120 => ?_) (fun c_120 => ?_)
          · rw [fa_eq] at c_120
            try rw [ti_n1] at c_120
            refine lv_bipush (v := (-11)) hx hb dX12_copy_55 (by decide +kernel) ?_
            exact W.iret hx hb hr (fun t ht hW => ⟨⟨_, ((fun k => [(si 0), (si 1), (si 2), (si 3)].getD k (si 0)), (fun k => [(sl 0), (sl 1), (sl 2), (sl 3)].getD k (sl 0)), (fun k => [(sf 0), (sf 1), (sf 2), (sf 3)].getD k (sf 0)), (fun k => [(sd 0), (sd 1), (sd 2), (sd 3)].getD k (sd 0))), rfl, (by (try dsimp only); have h9a1 : (so ((2 : Int32).toNatClampNeg)).toInt = (so 2).toInt := rfl; have h9b1 : (sn ((2 : Int32).toNatClampNeg)).toInt = (sn 2).toInt := rfl; have h9c1 : (2 : Int32).toInt = 2 := (by decide +kernel); have h9a3 : (so ((1 : Int32).toNatClampNeg)).toInt = (so 1).toInt := rfl; have h9b3 : (sn ((1 : Int32).toNatClampNeg)).toInt = (sn 1).toInt := rfl; have h9c3 : (1 : Int32).toInt = 1 := (by decide +kernel); have h9r : ((-11) : Int32).toInt = -11 := (by decide +kernel); omega), by rw [ht]; exact hP.sub [0, 1, 2, 3, 4, 5, 6, 7, 8, 9, 10, 11, 12, 13, 14, 15, 16, 17, 18, 19, 20, 21] rfl, hD.sub [0, 1, 2, 3, 4, 5, 6, 7, 8, 9, 10, 11, 12, 13, 14, 15, 16, 17, 18, 19, 20, 21] (by decide +kernel) rfl⟩, hS.F ht⟩) hS.2.2 dX12_copy_57
          · rw [fa_eq] at c_120
            try rw [ti_n1] at c_120
            refine lv_aload hx hb dX12_copy_46 (lv_at hl 0 rfl) ?_
            refine va_get (D := D) (ci := 6) (v := .int (so 1)) (C := RX9) (T := TX9) (N := 6) hx hb hts in_X12_copy_X9 hown hE.1 hP 3 rfl rfl 0 (by decide +kernel) (hts (.fieldLink RX12 277 "ClauseBook$Sheet" "sort" "I") (List.mem_of_getElem? (i := 2) rfl)) (fun _ h9 => h9) rfl dX12_copy_48 ?_
            refine lv_iconst (v := (-1)) hx hb dX12_copy_51 (by decide +kernel) ?_
            refine lv_icmp_ne (tgt := 58) hx hb dX12_copy_52 (by decide +kernel) (fun c_121 => ?_) (fun c_121 => ?_)
            · rw [fa_eq] at c_121
              try rw [ti_n1] at c_121
              refine lv_aload hx hb dX12_copy_58 (lv_at hl 1 rfl) ?_
              refine va_get (D := D) (ci := 6) (v := .int (so 2)) (C := RX9) (T := TX9) (N := 6) hx hb hts in_X12_copy_X9 hown hE.1 hP 4 rfl rfl 0 (by decide +kernel) (hts (.fieldLink RX12 277 "ClauseBook$Sheet" "sort" "I") (List.mem_of_getElem? (i := 2) rfl)) (fun _ h9 => h9) rfl dX12_copy_60 ?_
              refine lv_aload hx hb dX12_copy_63 (lv_at hl 0 rfl) ?_
              refine va_get (D := D) (ci := 6) (v := .int (so 1)) (C := RX9) (T := TX9) (N := 6) hx hb hts in_X12_copy_X9 hown hE.1 hP 3 rfl rfl 0 (by decide +kernel) (hts (.fieldLink RX12 277 "ClauseBook$Sheet" "sort" "I") (List.mem_of_getElem? (i := 2) rfl)) (fun _ h9 => h9) rfl dX12_copy_65 ?_
              refine lv_icmp_eq (tgt := 74) hx hb dX12_copy_68 (by decide +kernel) (fun c_122 => ?_) (fun c_122 => ?_)
              · rw [fa_eq] at c_122
                refine lv_aload hx hb dX12_copy_74 (lv_at hl 1 rfl) ?_
                refine lv_iload_n hx hb dX12_copy_76 rfl (lv_at hl 4 rfl) ?_
                refine lv_iload hx hb dX12_copy_77 (lv_at hl 7 rfl) ?_
                refine vp_callSi (W.runV (As := [.int x2, .int x5]) (rest := []) ⟨hx, hb, hml, hown, hts⟩ (c_X9_hasRun l D T t2 [.int (so 2), .int (sn 2), .ref a20, .ref a21, .ref a22, .ref a23] x2 x5 (sn 2) rfl (by omega)) (cwV 2 hts gX12_copy_X9_hasRun rfl rfl rfl hv_X9_hasRun ⟨Nat.le_of_ble_eq_true rfl, Nat.le_of_ble_eq_true rfl⟩) (pR_V (q := (RX9, TX9, 6)) (ci := 6) (q0 := 4) hP hE rfl rfl [4] rfl) rfl rfl hl.1 rfl (lv_room (Nat.le_of_ble_eq_true rfl)) dX12_copy_79 ⟨Nat.le_of_ble_eq_true rfl, Nat.le_of_ble_eq_true rfl⟩) (fun r_123 hr_123 => ?_)
                rcases bool_post hr_123 with ⟨c_124, rfl⟩ | ⟨c_124, rfl⟩
                · refine lv_if_eq (tgt := 97) hx hb dX12_copy_82 (by decide +kernel) (fun c9 => absurd c9 (by decide +kernel)) (fun _ => ?_)
                  refine lv_aload hx hb dX12_copy_85 (lv_at hl 0 rfl) ?_
                  refine lv_iload hx hb dX12_copy_87 (lv_at hl 6 rfl) ?_
                  refine lv_iload hx hb dX12_copy_89 (lv_at hl 7 rfl) ?_
                  refine vp_callSi (W.runV (As := [.int x4, .int x5]) (rest := []) ⟨hx, hb, hml, hown, hts⟩ (c_X9_hasRun l D T t1 [.int (so 1), .int (sn 1), .ref a10, .ref a11, .ref a12, .ref a13] x4 x5 (sn 1) rfl (by omega)) (cwV 2 hts gX12_copy_X9_hasRun rfl rfl rfl hv_X9_hasRun ⟨Nat.le_of_ble_eq_true rfl, Nat.le_of_ble_eq_true rfl⟩) (pR_V (q := (RX9, TX9, 6)) (ci := 6) (q0 := 3) hP hE rfl rfl [3] rfl) rfl rfl hl.1 rfl (lv_room (Nat.le_of_ble_eq_true rfl)) dX12_copy_91 ⟨Nat.le_of_ble_eq_true rfl, Nat.le_of_ble_eq_true rfl⟩) (fun r_125 hr_125 => ?_)
                  rcases bool_post hr_125 with ⟨c_126, rfl⟩ | ⟨c_126, rfl⟩
                  · refine lv_if_ne (tgt := 100) hx hb dX12_copy_94 (by decide +kernel) (fun _ => ?_) (fun c9 => absurd c9 (by decide +kernel))
                    refine lv_aload hx hb dX12_copy_100 (lv_at hl 0 rfl) ?_
                    refine lv_aload hx hb dX12_copy_102 (lv_at hl 1 rfl) ?_
                    refine lv_iload_n hx hb dX12_copy_104 rfl (lv_at hl 4 rfl) ?_
                    refine lv_iload hx hb dX12_copy_105 (lv_at hl 6 rfl) ?_
                    refine lv_iload hx hb dX12_copy_107 (lv_at hl 7 rfl) ?_
                    have hFc := va_free (wc := [(t1, .inr (6, [.int (so 1), .int (sn 1), .ref a10, .ref a11, .ref a12, .ref a13])), (a10, .inl (T 0, 30, .inl (si 1))), (a11, .inl (T 1, 30, .inr (.inl (sl 1)))), (a12, .inl (T 2, 30, .inr (.inr (.inl (sf 1))))), (a13, .inl (T 3, 30, .inr (.inr (.inr (.inl (sd 1)))))), (t2, .inr (6, [.int (so 2), .int (sn 2), .ref a20, .ref a21, .ref a22, .ref a23])), (a20, .inl (T 0, 30, .inl (si 2))), (a21, .inl (T 1, 30, .inr (.inl (sl 2)))), (a22, .inl (T 2, 30, .inr (.inr (.inl (sf 2))))), (a23, .inl (T 3, 30, .inr (.inr (.inr (.inl (sd 2))))))]) hD hS hA [3, 10, 11, 12, 13, 4, 14, 15, 16, 17] rfl
                    refine va_callv (va_runV (As := [.ref t2, .int x2, .int x4, .int x5]) (rest := []) ⟨hx, hb, hml, hown, hts⟩ (c_X9_moveFrom l D T _ t1 (so 1) (sn 1) a10 a11 a12 a13 (si 1) (sl 1) (sf 1) (sd 1) t2 (so 2) (sn 2) a20 a21 a22 a23 (si 2) (sl 2) (sf 2) (sd 2) x2 x4 x5 (by omega) (by omega)) (cwV 4 hts gX12_copy_X9_moveFrom rfl rfl rfl hv_X9_moveFrom ⟨Nat.le_of_ble_eq_true rfl, Nat.le_of_ble_eq_true rfl⟩) (pW_V (q := (RX9, TX9, 6)) (ci := 6) (q0 := 3) hP hE hD rfl rfl [3, 10, 11, 12, 13, 4, 14, 15, 16, 17] (by decide +kernel) rfl rfl) rfl rfl hl.1 rfl (lv_room (Nat.le_of_ble_eq_true rfl)) dX12_copy_109 ⟨Nat.le_of_ble_eq_true rfl, Nat.le_of_ble_eq_true rfl⟩) hS (fun q _ h => hFc q h) hFc (fun u_128 t H1 locs ht hvm hr_127 hB hz1 hk1 hS => ?_)
                    obtain ⟨f_129, f_130, f_131, f_132⟩ := u_128
                    obtain ⟨hP1, hD1⟩ := hB
                    rw [ht] at hP1
                    obtain ⟨hP, hD⟩ := va_repl [(h0, .inr (9, fs0)), (h1, .inl (T 6, 4, .inr (.inr (.inr (.inr (va_up (va_up (va_up (va_up (fun _ => none) 0 (some t0)) 1 (some t1)) 2 (some t2)) 3 (some t3))))))), (t0, .inr (6, [.int (so 0), .int (sn 0), .ref a00, .ref a01, .ref a02, .ref a03])), (t1, .inr (6, [.int (so 1), .int (sn 1), .ref a10, .ref a11, .ref a12, .ref a13])), (t2, .inr (6, [.int (so 2), .int (sn 2), .ref a20, .ref a21, .ref a22, .ref a23])), (t3, .inr (6, [.int (so 3), .int (sn 3), .ref a30, .ref a31, .ref a32, .ref a33])), (a00, .inl (T 0, 30, .inl (si 0))), (a01, .inl (T 1, 30, .inr (.inl (sl 0)))), (a02, .inl (T 2, 30, .inr (.inr (.inl (sf 0))))), (a03, .inl (T 3, 30, .inr (.inr (.inr (.inl (sd 0)))))), (a10, .inl (T 0, 30, .inl f_129)), (a11, .inl (T 1, 30, .inr (.inl f_130))), (a12, .inl (T 2, 30, .inr (.inr (.inl f_131)))), (a13, .inl (T 3, 30, .inr (.inr (.inr (.inl f_132))))), (a20, .inl (T 0, 30, .inl (si 2))), (a21, .inl (T 1, 30, .inr (.inl (sl 2)))), (a22, .inl (T 2, 30, .inr (.inr (.inl (sf 2))))), (a23, .inl (T 3, 30, .inr (.inr (.inr (.inl (sd 2)))))), (a30, .inl (T 0, 30, .inl (si 3))), (a31, .inl (T 1, 30, .inr (.inl (sl 3)))), (a32, .inl (T 2, 30, .inr (.inr (.inl (sf 3))))), (a33, .inl (T 3, 30, .inr (.inr (.inr (.inl (sd 3))))))] hP hD [3, 10, 11, 12, 13, 4, 14, 15, 16, 17] [3, 4, 10, 11, 12, 13, 14, 15, 16, 17] rfl (by decide +kernel) rfl rfl rfl hk1 (hP1.sub [0, 5, 1, 2, 3, 4, 6, 7, 8, 9] rfl)
                    clear hP1 hD1 hFc
                    generalize H1 = H at hP hS ⊢
                    refine lv_iload hx hb dX12_copy_112 (lv_at hl 7 rfl) ?_
                    exact W.iret hx hb hr (fun t ht hW => ⟨⟨_, ((fun k => [(si 0), f_129, (si 2), (si 3)].getD k (si 0)), (fun k => [(sl 0), f_130, (sl 2), (sl 3)].getD k (sl 0)), (fun k => [(sf 0), f_131, (sf 2), (sf 3)].getD k (sf 0)), (fun k => [(sd 0), f_132, (sd 2), (sd 3)].getD k (sd 0))), rfl, (by (try dsimp only); have h9a1 : (so ((2 : Int32).toNatClampNeg)).toInt = (so 2).toInt := rfl; have h9b1 : (sn ((2 : Int32).toNatClampNeg)).toInt = (sn 2).toInt := rfl; have h9c1 : (2 : Int32).toInt = 2 := (by decide +kernel); have h9a3 : (so ((1 : Int32).toNatClampNeg)).toInt = (so 1).toInt := rfl; have h9b3 : (sn ((1 : Int32).toNatClampNeg)).toInt = (sn 1).toInt := rfl; have h9c3 : (1 : Int32).toInt = 1 := (by decide +kernel); omega), by rw [ht]; exact hP.sub [0, 1, 2, 3, 4, 5, 6, 7, 8, 9, 10, 11, 12, 13, 14, 15, 16, 17, 18, 19, 20, 21] rfl, hD.sub [0, 1, 2, 3, 4, 5, 6, 7, 8, 9, 10, 11, 12, 13, 14, 15, 16, 17, 18, 19, 20, 21] (by decide +kernel) rfl⟩, hS.F ht⟩) hS.2.2 dX12_copy_114
                  · refine lv_if_ne (tgt := 100) hx hb dX12_copy_94 (by decide +kernel) (fun c9 => absurd c9 (by decide +kernel)) (fun _ => ?_)
                    refine lv_bipush (v := (-12)) hx hb dX12_copy_97 (by decide +kernel) ?_
                    exact W.iret hx hb hr (fun t ht hW => ⟨⟨_, ((fun k => [(si 0), (si 1), (si 2), (si 3)].getD k (si 0)), (fun k => [(sl 0), (sl 1), (sl 2), (sl 3)].getD k (sl 0)), (fun k => [(sf 0), (sf 1), (sf 2), (sf 3)].getD k (sf 0)), (fun k => [(sd 0), (sd 1), (sd 2), (sd 3)].getD k (sd 0))), rfl, (by (try dsimp only); have h9a1 : (so ((2 : Int32).toNatClampNeg)).toInt = (so 2).toInt := rfl; have h9b1 : (sn ((2 : Int32).toNatClampNeg)).toInt = (sn 2).toInt := rfl; have h9c1 : (2 : Int32).toInt = 2 := (by decide +kernel); have h9a3 : (so ((1 : Int32).toNatClampNeg)).toInt = (so 1).toInt := rfl; have h9b3 : (sn ((1 : Int32).toNatClampNeg)).toInt = (sn 1).toInt := rfl; have h9c3 : (1 : Int32).toInt = 1 := (by decide +kernel); have h9r : ((-12) : Int32).toInt = -12 := (by decide +kernel); omega), by rw [ht]; exact hP.sub [0, 1, 2, 3, 4, 5, 6, 7, 8, 9, 10, 11, 12, 13, 14, 15, 16, 17, 18, 19, 20, 21] rfl, hD.sub [0, 1, 2, 3, 4, 5, 6, 7, 8, 9, 10, 11, 12, 13, 14, 15, 16, 17, 18, 19, 20, 21] (by decide +kernel) rfl⟩, hS.F ht⟩) hS.2.2 dX12_copy_99
                · refine lv_if_eq (tgt := 97) hx hb dX12_copy_82 (by decide +kernel) (fun _ => ?_) (fun c9 => absurd c9 (by decide +kernel))
                  refine lv_bipush (v := (-12)) hx hb dX12_copy_97 (by decide +kernel) ?_
                  exact W.iret hx hb hr (fun t ht hW => ⟨⟨_, ((fun k => [(si 0), (si 1), (si 2), (si 3)].getD k (si 0)), (fun k => [(sl 0), (sl 1), (sl 2), (sl 3)].getD k (sl 0)), (fun k => [(sf 0), (sf 1), (sf 2), (sf 3)].getD k (sf 0)), (fun k => [(sd 0), (sd 1), (sd 2), (sd 3)].getD k (sd 0))), rfl, (by (try dsimp only); have h9a1 : (so ((2 : Int32).toNatClampNeg)).toInt = (so 2).toInt := rfl; have h9b1 : (sn ((2 : Int32).toNatClampNeg)).toInt = (sn 2).toInt := rfl; have h9c1 : (2 : Int32).toInt = 2 := (by decide +kernel); have h9a3 : (so ((1 : Int32).toNatClampNeg)).toInt = (so 1).toInt := rfl; have h9b3 : (sn ((1 : Int32).toNatClampNeg)).toInt = (sn 1).toInt := rfl; have h9c3 : (1 : Int32).toInt = 1 := (by decide +kernel); have h9r : ((-12) : Int32).toInt = -12 := (by decide +kernel); omega), by rw [ht]; exact hP.sub [0, 1, 2, 3, 4, 5, 6, 7, 8, 9, 10, 11, 12, 13, 14, 15, 16, 17, 18, 19, 20, 21] rfl, hD.sub [0, 1, 2, 3, 4, 5, 6, 7, 8, 9, 10, 11, 12, 13, 14, 15, 16, 17, 18, 19, 20, 21] (by decide +kernel) rfl⟩, hS.F ht⟩) hS.2.2 dX12_copy_99
              · rw [fa_eq] at c_122
                refine lv_bipush (v := (-13)) hx hb dX12_copy_71 (by decide +kernel) ?_
                exact W.iret hx hb hr (fun t ht hW => ⟨⟨_, ((fun k => [(si 0), (si 1), (si 2), (si 3)].getD k (si 0)), (fun k => [(sl 0), (sl 1), (sl 2), (sl 3)].getD k (sl 0)), (fun k => [(sf 0), (sf 1), (sf 2), (sf 3)].getD k (sf 0)), (fun k => [(sd 0), (sd 1), (sd 2), (sd 3)].getD k (sd 0))), rfl, (by (try dsimp only); have h9a1 : (so ((2 : Int32).toNatClampNeg)).toInt = (so 2).toInt := rfl; have h9b1 : (sn ((2 : Int32).toNatClampNeg)).toInt = (sn 2).toInt := rfl; have h9c1 : (2 : Int32).toInt = 2 := (by decide +kernel); have h9a3 : (so ((1 : Int32).toNatClampNeg)).toInt = (so 1).toInt := rfl; have h9b3 : (sn ((1 : Int32).toNatClampNeg)).toInt = (sn 1).toInt := rfl; have h9c3 : (1 : Int32).toInt = 1 := (by decide +kernel); have h9r : ((-13) : Int32).toInt = -13 := (by decide +kernel); omega), by rw [ht]; exact hP.sub [0, 1, 2, 3, 4, 5, 6, 7, 8, 9, 10, 11, 12, 13, 14, 15, 16, 17, 18, 19, 20, 21] rfl, hD.sub [0, 1, 2, 3, 4, 5, 6, 7, 8, 9, 10, 11, 12, 13, 14, 15, 16, 17, 18, 19, 20, 21] (by decide +kernel) rfl⟩, hS.F ht⟩) hS.2.2 dX12_copy_73
            · rw [fa_eq] at c_121
              try rw [ti_n1] at c_121
              refine lv_bipush (v := (-11)) hx hb dX12_copy_55 (by decide +kernel) ?_
              exact W.iret hx hb hr (fun t ht hW => ⟨⟨_, ((fun k => [(si 0), (si 1), (si 2), (si 3)].getD k (si 0)), (fun k => [(sl 0), (sl 1), (sl 2), (sl 3)].getD k (sl 0)), (fun k => [(sf 0), (sf 1), (sf 2), (sf 3)].getD k (sf 0)), (fun k => [(sd 0), (sd 1), (sd 2), (sd 3)].getD k (sd 0))), rfl, (by (try dsimp only); have h9a1 : (so ((2 : Int32).toNatClampNeg)).toInt = (so 2).toInt := rfl; have h9b1 : (sn ((2 : Int32).toNatClampNeg)).toInt = (sn 2).toInt := rfl; have h9c1 : (2 : Int32).toInt = 2 := (by decide +kernel); have h9a3 : (so ((1 : Int32).toNatClampNeg)).toInt = (so 1).toInt := rfl; have h9b3 : (sn ((1 : Int32).toNatClampNeg)).toInt = (sn 1).toInt := rfl; have h9c3 : (1 : Int32).toInt = 1 := (by decide +kernel); have h9r : ((-11) : Int32).toInt = -11 := (by decide +kernel); omega), by rw [ht]; exact hP.sub [0, 1, 2, 3, 4, 5, 6, 7, 8, 9, 10, 11, 12, 13, 14, 15, 16, 17, 18, 19, 20, 21] rfl, hD.sub [0, 1, 2, 3, 4, 5, 6, 7, 8, 9, 10, 11, 12, 13, 14, 15, 16, 17, 18, 19, 20, 21] (by decide +kernel) rfl⟩, hS.F ht⟩) hS.2.2 dX12_copy_57
        · refine va_aldq hx hb hE.1 hP 1 6 rfl rfl (by unfold vp_in; decide) dX12_copy_34 ?_
          refine W.eq (g2 := F0 m 35 ls [.ref t2]) rfl ?_
          refine lv_astore (lv' := [(7, .ref t2), (6, .ref t2), (0, .ref h0), (1, .int 2), (2, .int x2), (3, .int 2), (4, .int x4), (5, .int x5)]) hx hb dX12_copy_35 hl (by decide +kernel) rfl (fun ls hl => ?_)
          refine lv_aload hx hb dX12_copy_37 (lv_at hl 1 rfl) ?_
          refine va_get (D := D) (ci := 6) (v := .int (so 2)) (C := RX9) (T := TX9) (N := 6) hx hb hts in_X12_copy_X9 hown hE.1 hP 4 rfl rfl 0 (by decide +kernel) (hts (.fieldLink RX12 277 "ClauseBook$Sheet" "sort" "I") (List.mem_of_getElem? (i := 2) rfl)) (fun _ h9 => h9) rfl dX12_copy_39 ?_
          refine lv_iconst (v := (-1)) hx hb dX12_copy_42 (by decide +kernel) ?_
          refine lv_icmp_eq (tgt := 55) hx hb dX12_copy_43 (by decide +kernel) (fun c_133 => ?_) (fun c_133 => ?_)
          · rw [fa_eq] at c_133
            try rw [ti_n1] at c_133
            refine lv_bipush (v := (-11)) hx hb dX12_copy_55 (by decide +kernel) ?_
            exact W.iret hx hb hr (fun t ht hW => ⟨⟨_, ((fun k => [(si 0), (si 1), (si 2), (si 3)].getD k (si 0)), (fun k => [(sl 0), (sl 1), (sl 2), (sl 3)].getD k (sl 0)), (fun k => [(sf 0), (sf 1), (sf 2), (sf 3)].getD k (sf 0)), (fun k => [(sd 0), (sd 1), (sd 2), (sd 3)].getD k (sd 0))), rfl, (by (try dsimp only); have h9a1 : (so ((2 : Int32).toNatClampNeg)).toInt = (so 2).toInt := rfl; have h9b1 : (sn ((2 : Int32).toNatClampNeg)).toInt = (sn 2).toInt := rfl; have h9c1 : (2 : Int32).toInt = 2 := (by decide +kernel); have h9a3 : (so ((2 : Int32).toNatClampNeg)).toInt = (so 2).toInt := rfl; have h9b3 : (sn ((2 : Int32).toNatClampNeg)).toInt = (sn 2).toInt := rfl; have h9c3 : (2 : Int32).toInt = 2 := (by decide +kernel); have h9r : ((-11) : Int32).toInt = -11 := (by decide +kernel); omega), by rw [ht]; exact hP.sub [0, 1, 2, 3, 4, 5, 6, 7, 8, 9, 10, 11, 12, 13, 14, 15, 16, 17, 18, 19, 20, 21] rfl, hD.sub [0, 1, 2, 3, 4, 5, 6, 7, 8, 9, 10, 11, 12, 13, 14, 15, 16, 17, 18, 19, 20, 21] (by decide +kernel) rfl⟩, hS.F ht⟩) hS.2.2 dX12_copy_57
          · rw [fa_eq] at c_133
            try rw [ti_n1] at c_133
            refine lv_aload hx hb dX12_copy_46 (lv_at hl 0 rfl) ?_
            refine va_get (D := D) (ci := 6) (v := .int (so 2)) (C := RX9) (T := TX9) (N := 6) hx hb hts in_X12_copy_X9 hown hE.1 hP 4 rfl rfl 0 (by decide +kernel) (hts (.fieldLink RX12 277 "ClauseBook$Sheet" "sort" "I") (List.mem_of_getElem? (i := 2) rfl)) (fun _ h9 => h9) rfl dX12_copy_48 ?_
            refine lv_iconst (v := (-1)) hx hb dX12_copy_51 (by decide +kernel) ?_
            refine lv_icmp_ne (tgt := 58) hx hb dX12_copy_52 (by decide +kernel) (fun c_134 => ?_) (fun c_134 => ?_)
            · rw [fa_eq] at c_134
              try rw [ti_n1] at c_134
              refine lv_aload hx hb dX12_copy_58 (lv_at hl 1 rfl) ?_
              refine va_get (D := D) (ci := 6) (v := .int (so 2)) (C := RX9) (T := TX9) (N := 6) hx hb hts in_X12_copy_X9 hown hE.1 hP 4 rfl rfl 0 (by decide +kernel) (hts (.fieldLink RX12 277 "ClauseBook$Sheet" "sort" "I") (List.mem_of_getElem? (i := 2) rfl)) (fun _ h9 => h9) rfl dX12_copy_60 ?_
              refine lv_aload hx hb dX12_copy_63 (lv_at hl 0 rfl) ?_
              refine va_get (D := D) (ci := 6) (v := .int (so 2)) (C := RX9) (T := TX9) (N := 6) hx hb hts in_X12_copy_X9 hown hE.1 hP 4 rfl rfl 0 (by decide +kernel) (hts (.fieldLink RX12 277 "ClauseBook$Sheet" "sort" "I") (List.mem_of_getElem? (i := 2) rfl)) (fun _ h9 => h9) rfl dX12_copy_65 ?_
              refine lv_icmp_eq (tgt := 74) hx hb dX12_copy_68 (by decide +kernel) (fun _ => ?_) (fun c9 => absurd rfl c9)
              refine lv_aload hx hb dX12_copy_74 (lv_at hl 1 rfl) ?_
              refine lv_iload_n hx hb dX12_copy_76 rfl (lv_at hl 4 rfl) ?_
              refine lv_iload hx hb dX12_copy_77 (lv_at hl 7 rfl) ?_
              refine vp_callSi (W.runV (As := [.int x2, .int x5]) (rest := []) ⟨hx, hb, hml, hown, hts⟩ (c_X9_hasRun l D T t2 [.int (so 2), .int (sn 2), .ref a20, .ref a21, .ref a22, .ref a23] x2 x5 (sn 2) rfl (by omega)) (cwV 2 hts gX12_copy_X9_hasRun rfl rfl rfl hv_X9_hasRun ⟨Nat.le_of_ble_eq_true rfl, Nat.le_of_ble_eq_true rfl⟩) (pR_V (q := (RX9, TX9, 6)) (ci := 6) (q0 := 4) hP hE rfl rfl [4] rfl) rfl rfl hl.1 rfl (lv_room (Nat.le_of_ble_eq_true rfl)) dX12_copy_79 ⟨Nat.le_of_ble_eq_true rfl, Nat.le_of_ble_eq_true rfl⟩) (fun r_135 hr_135 => ?_)
              rcases bool_post hr_135 with ⟨c_136, rfl⟩ | ⟨c_136, rfl⟩
              · refine lv_if_eq (tgt := 97) hx hb dX12_copy_82 (by decide +kernel) (fun c9 => absurd c9 (by decide +kernel)) (fun _ => ?_)
                refine lv_aload hx hb dX12_copy_85 (lv_at hl 0 rfl) ?_
                refine lv_iload hx hb dX12_copy_87 (lv_at hl 6 rfl) ?_
                refine lv_iload hx hb dX12_copy_89 (lv_at hl 7 rfl) ?_
                refine vp_callSi (W.runV (As := [.int x4, .int x5]) (rest := []) ⟨hx, hb, hml, hown, hts⟩ (c_X9_hasRun l D T t2 [.int (so 2), .int (sn 2), .ref a20, .ref a21, .ref a22, .ref a23] x4 x5 (sn 2) rfl (by omega)) (cwV 2 hts gX12_copy_X9_hasRun rfl rfl rfl hv_X9_hasRun ⟨Nat.le_of_ble_eq_true rfl, Nat.le_of_ble_eq_true rfl⟩) (pR_V (q := (RX9, TX9, 6)) (ci := 6) (q0 := 4) hP hE rfl rfl [4] rfl) rfl rfl hl.1 rfl (lv_room (Nat.le_of_ble_eq_true rfl)) dX12_copy_91 ⟨Nat.le_of_ble_eq_true rfl, Nat.le_of_ble_eq_true rfl⟩) (fun r_137 hr_137 => ?_)
                rcases bool_post hr_137 with ⟨c_138, rfl⟩ | ⟨c_138, rfl⟩
                · refine lv_if_ne (tgt := 100) hx hb dX12_copy_94 (by decide +kernel) (fun _ => ?_) (fun c9 => absurd c9 (by decide +kernel))
                  refine lv_aload hx hb dX12_copy_100 (lv_at hl 0 rfl) ?_
                  refine lv_aload hx hb dX12_copy_102 (lv_at hl 1 rfl) ?_
                  refine lv_iload_n hx hb dX12_copy_104 rfl (lv_at hl 4 rfl) ?_
                  refine lv_iload hx hb dX12_copy_105 (lv_at hl 6 rfl) ?_
                  refine lv_iload hx hb dX12_copy_107 (lv_at hl 7 rfl) ?_
                  have hFc := va_free (wc := [(t2, .inr (6, [.int (so 2), .int (sn 2), .ref a20, .ref a21, .ref a22, .ref a23])), (a20, .inl (T 0, 30, .inl (si 2))), (a21, .inl (T 1, 30, .inr (.inl (sl 2)))), (a22, .inl (T 2, 30, .inr (.inr (.inl (sf 2))))), (a23, .inl (T 3, 30, .inr (.inr (.inr (.inl (sd 2))))))]) hD hS hA [4, 14, 15, 16, 17] rfl
                  refine va_callv (va_runV (As := [.ref t2, .int x2, .int x4, .int x5]) (rest := []) ⟨hx, hb, hml, hown, hts⟩ (c_X9_moveFrom_same l D T _ t2 (so 2) (sn 2) a20 a21 a22 a23 (si 2) (sl 2) (sf 2) (sd 2) x2 x4 x5 (by omega) (by omega)) (cwV 4 hts gX12_copy_X9_moveFrom rfl rfl rfl hv_X9_moveFrom ⟨Nat.le_of_ble_eq_true rfl, Nat.le_of_ble_eq_true rfl⟩) (pW_V (q := (RX9, TX9, 6)) (ci := 6) (q0 := 4) hP hE hD rfl rfl [4, 14, 15, 16, 17] (by decide +kernel) rfl rfl) rfl rfl hl.1 rfl (lv_room (Nat.le_of_ble_eq_true rfl)) dX12_copy_109 ⟨Nat.le_of_ble_eq_true rfl, Nat.le_of_ble_eq_true rfl⟩) hS (fun q _ h => hFc q h) hFc (fun u_140 t H1 locs ht hvm hr_139 hB hz1 hk1 hS => ?_)
                  obtain ⟨f_141, f_142, f_143, f_144⟩ := u_140
                  obtain ⟨hP1, hD1⟩ := hB
                  rw [ht] at hP1
                  obtain ⟨hP, hD⟩ := va_repl [(h0, .inr (9, fs0)), (h1, .inl (T 6, 4, .inr (.inr (.inr (.inr (va_up (va_up (va_up (va_up (fun _ => none) 0 (some t0)) 1 (some t1)) 2 (some t2)) 3 (some t3))))))), (t0, .inr (6, [.int (so 0), .int (sn 0), .ref a00, .ref a01, .ref a02, .ref a03])), (t1, .inr (6, [.int (so 1), .int (sn 1), .ref a10, .ref a11, .ref a12, .ref a13])), (t2, .inr (6, [.int (so 2), .int (sn 2), .ref a20, .ref a21, .ref a22, .ref a23])), (t3, .inr (6, [.int (so 3), .int (sn 3), .ref a30, .ref a31, .ref a32, .ref a33])), (a00, .inl (T 0, 30, .inl (si 0))), (a01, .inl (T 1, 30, .inr (.inl (sl 0)))), (a02, .inl (T 2, 30, .inr (.inr (.inl (sf 0))))), (a03, .inl (T 3, 30, .inr (.inr (.inr (.inl (sd 0)))))), (a10, .inl (T 0, 30, .inl (si 1))), (a11, .inl (T 1, 30, .inr (.inl (sl 1)))), (a12, .inl (T 2, 30, .inr (.inr (.inl (sf 1))))), (a13, .inl (T 3, 30, .inr (.inr (.inr (.inl (sd 1)))))), (a20, .inl (T 0, 30, .inl f_141)), (a21, .inl (T 1, 30, .inr (.inl f_142))), (a22, .inl (T 2, 30, .inr (.inr (.inl f_143)))), (a23, .inl (T 3, 30, .inr (.inr (.inr (.inl f_144))))), (a30, .inl (T 0, 30, .inl (si 3))), (a31, .inl (T 1, 30, .inr (.inl (sl 3)))), (a32, .inl (T 2, 30, .inr (.inr (.inl (sf 3))))), (a33, .inl (T 3, 30, .inr (.inr (.inr (.inl (sd 3))))))] hP hD [4, 14, 15, 16, 17] [4, 14, 15, 16, 17] rfl (by decide +kernel) rfl rfl rfl hk1 hP1
                  clear hP1 hD1 hFc
                  generalize H1 = H at hP hS ⊢
                  refine lv_iload hx hb dX12_copy_112 (lv_at hl 7 rfl) ?_
                  exact W.iret hx hb hr (fun t ht hW => ⟨⟨_, ((fun k => [(si 0), (si 1), f_141, (si 3)].getD k (si 0)), (fun k => [(sl 0), (sl 1), f_142, (sl 3)].getD k (sl 0)), (fun k => [(sf 0), (sf 1), f_143, (sf 3)].getD k (sf 0)), (fun k => [(sd 0), (sd 1), f_144, (sd 3)].getD k (sd 0))), rfl, (by (try dsimp only); have h9a1 : (so ((2 : Int32).toNatClampNeg)).toInt = (so 2).toInt := rfl; have h9b1 : (sn ((2 : Int32).toNatClampNeg)).toInt = (sn 2).toInt := rfl; have h9c1 : (2 : Int32).toInt = 2 := (by decide +kernel); have h9a3 : (so ((2 : Int32).toNatClampNeg)).toInt = (so 2).toInt := rfl; have h9b3 : (sn ((2 : Int32).toNatClampNeg)).toInt = (sn 2).toInt := rfl; have h9c3 : (2 : Int32).toInt = 2 := (by decide +kernel); omega), by rw [ht]; exact hP.sub [0, 1, 2, 3, 4, 5, 6, 7, 8, 9, 10, 11, 12, 13, 14, 15, 16, 17, 18, 19, 20, 21] rfl, hD.sub [0, 1, 2, 3, 4, 5, 6, 7, 8, 9, 10, 11, 12, 13, 14, 15, 16, 17, 18, 19, 20, 21] (by decide +kernel) rfl⟩, hS.F ht⟩) hS.2.2 dX12_copy_114
                · refine lv_if_ne (tgt := 100) hx hb dX12_copy_94 (by decide +kernel) (fun c9 => absurd c9 (by decide +kernel)) (fun _ => ?_)
                  refine lv_bipush (v := (-12)) hx hb dX12_copy_97 (by decide +kernel) ?_
                  exact W.iret hx hb hr (fun t ht hW => ⟨⟨_, ((fun k => [(si 0), (si 1), (si 2), (si 3)].getD k (si 0)), (fun k => [(sl 0), (sl 1), (sl 2), (sl 3)].getD k (sl 0)), (fun k => [(sf 0), (sf 1), (sf 2), (sf 3)].getD k (sf 0)), (fun k => [(sd 0), (sd 1), (sd 2), (sd 3)].getD k (sd 0))), rfl, (by (try dsimp only); have h9a1 : (so ((2 : Int32).toNatClampNeg)).toInt = (so 2).toInt := rfl; have h9b1 : (sn ((2 : Int32).toNatClampNeg)).toInt = (sn 2).toInt := rfl; have h9c1 : (2 : Int32).toInt = 2 := (by decide +kernel); have h9a3 : (so ((2 : Int32).toNatClampNeg)).toInt = (so 2).toInt := rfl; have h9b3 : (sn ((2 : Int32).toNatClampNeg)).toInt = (sn 2).toInt := rfl; have h9c3 : (2 : Int32).toInt = 2 := (by decide +kernel); have h9r : ((-12) : Int32).toInt = -12 := (by decide +kernel); omega), by rw [ht]; exact hP.sub [0, 1, 2, 3, 4, 5, 6, 7, 8, 9, 10, 11, 12, 13, 14, 15, 16, 17, 18, 19, 20, 21] rfl, hD.sub [0, 1, 2, 3, 4, 5, 6, 7, 8, 9, 10, 11, 12, 13, 14, 15, 16, 17, 18, 19, 20, 21] (by decide +kernel) rfl⟩, hS.F ht⟩) hS.2.2 dX12_copy_99
              · refine lv_if_eq (tgt := 97) hx hb dX12_copy_82 (by decide +kernel) (fun _ => ?_) (fun c9 => absurd c9 (by decide +kernel))
                refine lv_bipush (v := (-12)) hx hb dX12_copy_97 (by decide +kernel) ?_
                exact W.iret hx hb hr (fun t ht hW => ⟨⟨_, ((fun k => [(si 0), (si 1), (si 2), (si 3)].getD k (si 0)), (fun k => [(sl 0), (sl 1), (sl 2), (sl 3)].getD k (sl 0)), (fun k => [(sf 0), (sf 1), (sf 2), (sf 3)].getD k (sf 0)), (fun k => [(sd 0), (sd 1), (sd 2), (sd 3)].getD k (sd 0))), rfl, (by (try dsimp only); have h9a1 : (so ((2 : Int32).toNatClampNeg)).toInt = (so 2).toInt := rfl; have h9b1 : (sn ((2 : Int32).toNatClampNeg)).toInt = (sn 2).toInt := rfl; have h9c1 : (2 : Int32).toInt = 2 := (by decide +kernel); have h9a3 : (so ((2 : Int32).toNatClampNeg)).toInt = (so 2).toInt := rfl; have h9b3 : (sn ((2 : Int32).toNatClampNeg)).toInt = (sn 2).toInt := rfl; have h9c3 : (2 : Int32).toInt = 2 := (by decide +kernel); have h9r : ((-12) : Int32).toInt = -12 := (by decide +kernel); omega), by rw [ht]; exact hP.sub [0, 1, 2, 3, 4, 5, 6, 7, 8, 9, 10, 11, 12, 13, 14, 15, 16, 17, 18, 19, 20, 21] rfl, hD.sub [0, 1, 2, 3, 4, 5, 6, 7, 8, 9, 10, 11, 12, 13, 14, 15, 16, 17, 18, 19, 20, 21] (by decide +kernel) rfl⟩, hS.F ht⟩) hS.2.2 dX12_copy_99
            · rw [fa_eq] at c_134
              try rw [ti_n1] at c_134
              refine lv_bipush (v := (-11)) hx hb dX12_copy_55 (by decide +kernel) ?_
              exact W.iret hx hb hr (fun t ht hW => ⟨⟨_, ((fun k => [(si 0), (si 1), (si 2), (si 3)].getD k (si 0)), (fun k => [(sl 0), (sl 1), (sl 2), (sl 3)].getD k (sl 0)), (fun k => [(sf 0), (sf 1), (sf 2), (sf 3)].getD k (sf 0)), (fun k => [(sd 0), (sd 1), (sd 2), (sd 3)].getD k (sd 0))), rfl, (by (try dsimp only); have h9a1 : (so ((2 : Int32).toNatClampNeg)).toInt = (so 2).toInt := rfl; have h9b1 : (sn ((2 : Int32).toNatClampNeg)).toInt = (sn 2).toInt := rfl; have h9c1 : (2 : Int32).toInt = 2 := (by decide +kernel); have h9a3 : (so ((2 : Int32).toNatClampNeg)).toInt = (so 2).toInt := rfl; have h9b3 : (sn ((2 : Int32).toNatClampNeg)).toInt = (sn 2).toInt := rfl; have h9c3 : (2 : Int32).toInt = 2 := (by decide +kernel); have h9r : ((-11) : Int32).toInt = -11 := (by decide +kernel); omega), by rw [ht]; exact hP.sub [0, 1, 2, 3, 4, 5, 6, 7, 8, 9, 10, 11, 12, 13, 14, 15, 16, 17, 18, 19, 20, 21] rfl, hD.sub [0, 1, 2, 3, 4, 5, 6, 7, 8, 9, 10, 11, 12, 13, 14, 15, 16, 17, 18, 19, 20, 21] (by decide +kernel) rfl⟩, hS.F ht⟩) hS.2.2 dX12_copy_57
        · refine va_aldq hx hb hE.1 hP 1 6 rfl rfl (by unfold vp_in; decide) dX12_copy_34 ?_
          refine W.eq (g2 := F0 m 35 ls [.ref t3]) rfl ?_
          refine lv_astore (lv' := [(7, .ref t3), (6, .ref t2), (0, .ref h0), (1, .int 2), (2, .int x2), (3, .int 3), (4, .int x4), (5, .int x5)]) hx hb dX12_copy_35 hl (by decide +kernel) rfl (fun ls hl => ?_)
          refine lv_aload hx hb dX12_copy_37 (lv_at hl 1 rfl) ?_
          refine va_get (D := D) (ci := 6) (v := .int (so 2)) (C := RX9) (T := TX9) (N := 6) hx hb hts in_X12_copy_X9 hown hE.1 hP 4 rfl rfl 0 (by decide +kernel) (hts (.fieldLink RX12 277 "ClauseBook$Sheet" "sort" "I") (List.mem_of_getElem? (i := 2) rfl)) (fun _ h9 => h9) rfl dX12_copy_39 ?_
          refine lv_iconst (v := (-1)) hx hb dX12_copy_42 (by decide +kernel) ?_
          refine lv_icmp_eq (tgt := 55) hx hb dX12_copy_43 (by decide +kernel) (fun c_145 => ?_) (fun c_145 => ?_)
          · rw [fa_eq] at c_145
            try rw [ti_n1] at c_145
            refine lv_bipush (v := (-11)) hx hb dX12_copy_55 (by decide +kernel) ?_
            exact W.iret hx hb hr (fun t ht hW => ⟨⟨_, ((fun k => [(si 0), (si 1), (si 2), (si 3)].getD k (si 0)), (fun k => [(sl 0), (sl 1), (sl 2), (sl 3)].getD k (sl 0)), (fun k => [(sf 0), (sf 1), (sf 2), (sf 3)].getD k (sf 0)), (fun k => [(sd 0), (sd 1), (sd 2), (sd 3)].getD k (sd 0))), rfl, (by (try dsimp only); have h9a1 : (so ((2 : Int32).toNatClampNeg)).toInt = (so 2).toInt := rfl; have h9b1 : (sn ((2 : Int32).toNatClampNeg)).toInt = (sn 2).toInt := rfl; have h9c1 : (2 : Int32).toInt = 2 := (by decide +kernel); have h9a3 : (so ((3 : Int32).toNatClampNeg)).toInt = (so 3).toInt := rfl; have h9b3 : (sn ((3 : Int32).toNatClampNeg)).toInt = (sn 3).toInt := rfl; have h9c3 : (3 : Int32).toInt = 3 := (by decide +kernel); have h9r : ((-11) : Int32).toInt = -11 := (by decide +kernel); omega), by rw [ht]; exact hP.sub [0, 1, 2, 3, 4, 5, 6, 7, 8, 9, 10, 11, 12, 13, 14, 15, 16, 17, 18, 19, 20, 21] rfl, hD.sub [0, 1, 2, 3, 4, 5, 6, 7, 8, 9, 10, 11, 12, 13, 14, 15, 16, 17, 18, 19, 20, 21] (by decide +kernel) rfl⟩, hS.F ht⟩) hS.2.2 dX12_copy_57
          · rw [fa_eq] at c_145
            try rw [ti_n1] at c_145
            refine lv_aload hx hb dX12_copy_46 (lv_at hl 0 rfl) ?_
            refine va_get (D := D) (ci := 6) (v := .int (so 3)) (C := RX9) (T := TX9) (N := 6) hx hb hts in_X12_copy_X9 hown hE.1 hP 5 rfl rfl 0 (by decide +kernel) (hts (.fieldLink RX12 277 "ClauseBook$Sheet" "sort" "I") (List.mem_of_getElem? (i := 2) rfl)) (fun _ h9 => h9) rfl dX12_copy_48 ?_
            refine lv_iconst (v := (-1)) hx hb dX12_copy_51 (by decide +kernel) ?_
            refine lv_icmp_ne (tgt := 58) hx hb dX12_copy_52 (by decide +kernel) (fun c_146 => ?_) (fun c_146 => ?_)
            · rw [fa_eq] at c_146
              try rw [ti_n1] at c_146
              refine lv_aload hx hb dX12_copy_58 (lv_at hl 1 rfl) ?_
              refine va_get (D := D) (ci := 6) (v := .int (so 2)) (C := RX9) (T := TX9) (N := 6) hx hb hts in_X12_copy_X9 hown hE.1 hP 4 rfl rfl 0 (by decide +kernel) (hts (.fieldLink RX12 277 "ClauseBook$Sheet" "sort" "I") (List.mem_of_getElem? (i := 2) rfl)) (fun _ h9 => h9) rfl dX12_copy_60 ?_
              refine lv_aload hx hb dX12_copy_63 (lv_at hl 0 rfl) ?_
              refine va_get (D := D) (ci := 6) (v := .int (so 3)) (C := RX9) (T := TX9) (N := 6) hx hb hts in_X12_copy_X9 hown hE.1 hP 5 rfl rfl 0 (by decide +kernel) (hts (.fieldLink RX12 277 "ClauseBook$Sheet" "sort" "I") (List.mem_of_getElem? (i := 2) rfl)) (fun _ h9 => h9) rfl dX12_copy_65 ?_
              refine lv_icmp_eq (tgt := 74) hx hb dX12_copy_68 (by decide +kernel) (fun c_147 => ?_) (fun c_147 => ?_)
              · rw [fa_eq] at c_147
                refine lv_aload hx hb dX12_copy_74 (lv_at hl 1 rfl) ?_
                refine lv_iload_n hx hb dX12_copy_76 rfl (lv_at hl 4 rfl) ?_
                refine lv_iload hx hb dX12_copy_77 (lv_at hl 7 rfl) ?_
                refine vp_callSi (W.runV (As := [.int x2, .int x5]) (rest := []) ⟨hx, hb, hml, hown, hts⟩ (c_X9_hasRun l D T t2 [.int (so 2), .int (sn 2), .ref a20, .ref a21, .ref a22, .ref a23] x2 x5 (sn 2) rfl (by omega)) (cwV 2 hts gX12_copy_X9_hasRun rfl rfl rfl hv_X9_hasRun ⟨Nat.le_of_ble_eq_true rfl, Nat.le_of_ble_eq_true rfl⟩) (pR_V (q := (RX9, TX9, 6)) (ci := 6) (q0 := 4) hP hE rfl rfl [4] rfl) rfl rfl hl.1 rfl (lv_room (Nat.le_of_ble_eq_true rfl)) dX12_copy_79 ⟨Nat.le_of_ble_eq_true rfl, Nat.le_of_ble_eq_true rfl⟩) (fun r_148 hr_148 => ?_)
                rcases bool_post hr_148 with ⟨c_149, rfl⟩ | ⟨c_149, rfl⟩
                · refine lv_if_eq (tgt := 97) hx hb dX12_copy_82 (by decide +kernel) (fun c9 => absurd c9 (by decide +kernel)) (fun _ => ?_)
                  refine lv_aload hx hb dX12_copy_85 (lv_at hl 0 rfl) ?_
                  refine lv_iload hx hb dX12_copy_87 (lv_at hl 6 rfl) ?_
                  refine lv_iload hx hb dX12_copy_89 (lv_at hl 7 rfl) ?_
                  refine vp_callSi (W.runV (As := [.int x4, .int x5]) (rest := []) ⟨hx, hb, hml, hown, hts⟩ (c_X9_hasRun l D T t3 [.int (so 3), .int (sn 3), .ref a30, .ref a31, .ref a32, .ref a33] x4 x5 (sn 3) rfl (by omega)) (cwV 2 hts gX12_copy_X9_hasRun rfl rfl rfl hv_X9_hasRun ⟨Nat.le_of_ble_eq_true rfl, Nat.le_of_ble_eq_true rfl⟩) (pR_V (q := (RX9, TX9, 6)) (ci := 6) (q0 := 5) hP hE rfl rfl [5] rfl) rfl rfl hl.1 rfl (lv_room (Nat.le_of_ble_eq_true rfl)) dX12_copy_91 ⟨Nat.le_of_ble_eq_true rfl, Nat.le_of_ble_eq_true rfl⟩) (fun r_150 hr_150 => ?_)
                  rcases bool_post hr_150 with ⟨c_151, rfl⟩ | ⟨c_151, rfl⟩
                  · refine lv_if_ne (tgt := 100) hx hb dX12_copy_94 (by decide +kernel) (fun _ => ?_) (fun c9 => absurd c9 (by decide +kernel))
                    refine lv_aload hx hb dX12_copy_100 (lv_at hl 0 rfl) ?_
                    refine lv_aload hx hb dX12_copy_102 (lv_at hl 1 rfl) ?_
                    refine lv_iload_n hx hb dX12_copy_104 rfl (lv_at hl 4 rfl) ?_
                    refine lv_iload hx hb dX12_copy_105 (lv_at hl 6 rfl) ?_
                    refine lv_iload hx hb dX12_copy_107 (lv_at hl 7 rfl) ?_
                    have hFc := va_free (wc := [(t3, .inr (6, [.int (so 3), .int (sn 3), .ref a30, .ref a31, .ref a32, .ref a33])), (a30, .inl (T 0, 30, .inl (si 3))), (a31, .inl (T 1, 30, .inr (.inl (sl 3)))), (a32, .inl (T 2, 30, .inr (.inr (.inl (sf 3))))), (a33, .inl (T 3, 30, .inr (.inr (.inr (.inl (sd 3)))))), (t2, .inr (6, [.int (so 2), .int (sn 2), .ref a20, .ref a21, .ref a22, .ref a23])), (a20, .inl (T 0, 30, .inl (si 2))), (a21, .inl (T 1, 30, .inr (.inl (sl 2)))), (a22, .inl (T 2, 30, .inr (.inr (.inl (sf 2))))), (a23, .inl (T 3, 30, .inr (.inr (.inr (.inl (sd 2))))))]) hD hS hA [5, 18, 19, 20, 21, 4, 14, 15, 16, 17] rfl
                    refine va_callv (va_runV (As := [.ref t2, .int x2, .int x4, .int x5]) (rest := []) ⟨hx, hb, hml, hown, hts⟩ (c_X9_moveFrom l D T _ t3 (so 3) (sn 3) a30 a31 a32 a33 (si 3) (sl 3) (sf 3) (sd 3) t2 (so 2) (sn 2) a20 a21 a22 a23 (si 2) (sl 2) (sf 2) (sd 2) x2 x4 x5 (by omega) (by omega)) (cwV 4 hts gX12_copy_X9_moveFrom rfl rfl rfl hv_X9_moveFrom ⟨Nat.le_of_ble_eq_true rfl, Nat.le_of_ble_eq_true rfl⟩) (pW_V (q := (RX9, TX9, 6)) (ci := 6) (q0 := 5) hP hE hD rfl rfl [5, 18, 19, 20, 21, 4, 14, 15, 16, 17] (by decide +kernel) rfl rfl) rfl rfl hl.1 rfl (lv_room (Nat.le_of_ble_eq_true rfl)) dX12_copy_109 ⟨Nat.le_of_ble_eq_true rfl, Nat.le_of_ble_eq_true rfl⟩) hS (fun q _ h => hFc q h) hFc (fun u_153 t H1 locs ht hvm hr_152 hB hz1 hk1 hS => ?_)
                    obtain ⟨f_154, f_155, f_156, f_157⟩ := u_153
                    obtain ⟨hP1, hD1⟩ := hB
                    rw [ht] at hP1
                    obtain ⟨hP, hD⟩ := va_repl [(h0, .inr (9, fs0)), (h1, .inl (T 6, 4, .inr (.inr (.inr (.inr (va_up (va_up (va_up (va_up (fun _ => none) 0 (some t0)) 1 (some t1)) 2 (some t2)) 3 (some t3))))))), (t0, .inr (6, [.int (so 0), .int (sn 0), .ref a00, .ref a01, .ref a02, .ref a03])), (t1, .inr (6, [.int (so 1), .int (sn 1), .ref a10, .ref a11, .ref a12, .ref a13])), (t2, .inr (6, [.int (so 2), .int (sn 2), .ref a20, .ref a21, .ref a22, .ref a23])), (t3, .inr (6, [.int (so 3), .int (sn 3), .ref a30, .ref a31, .ref a32, .ref a33])), (a00, .inl (T 0, 30, .inl (si 0))), (a01, .inl (T 1, 30, .inr (.inl (sl 0)))), (a02, .inl (T 2, 30, .inr (.inr (.inl (sf 0))))), (a03, .inl (T 3, 30, .inr (.inr (.inr (.inl (sd 0)))))), (a10, .inl (T 0, 30, .inl (si 1))), (a11, .inl (T 1, 30, .inr (.inl (sl 1)))), (a12, .inl (T 2, 30, .inr (.inr (.inl (sf 1))))), (a13, .inl (T 3, 30, .inr (.inr (.inr (.inl (sd 1)))))), (a20, .inl (T 0, 30, .inl (si 2))), (a21, .inl (T 1, 30, .inr (.inl (sl 2)))), (a22, .inl (T 2, 30, .inr (.inr (.inl (sf 2))))), (a23, .inl (T 3, 30, .inr (.inr (.inr (.inl (sd 2)))))), (a30, .inl (T 0, 30, .inl f_154)), (a31, .inl (T 1, 30, .inr (.inl f_155))), (a32, .inl (T 2, 30, .inr (.inr (.inl f_156)))), (a33, .inl (T 3, 30, .inr (.inr (.inr (.inl f_157)))))] hP hD [5, 18, 19, 20, 21, 4, 14, 15, 16, 17] [4, 5, 14, 15, 16, 17, 18, 19, 20, 21] rfl (by decide +kernel) rfl rfl rfl hk1 (hP1.sub [5, 0, 6, 7, 8, 9, 1, 2, 3, 4] rfl)
                    clear hP1 hD1 hFc
                    generalize H1 = H at hP hS ⊢
                    refine lv_iload hx hb dX12_copy_112 (lv_at hl 7 rfl) ?_
                    exact W.iret hx hb hr (fun t ht hW => ⟨⟨_, ((fun k => [(si 0), (si 1), (si 2), f_154].getD k (si 0)), (fun k => [(sl 0), (sl 1), (sl 2), f_155].getD k (sl 0)), (fun k => [(sf 0), (sf 1), (sf 2), f_156].getD k (sf 0)), (fun k => [(sd 0), (sd 1), (sd 2), f_157].getD k (sd 0))), rfl, (by (try dsimp only); have h9a1 : (so ((2 : Int32).toNatClampNeg)).toInt = (so 2).toInt := rfl; have h9b1 : (sn ((2 : Int32).toNatClampNeg)).toInt = (sn 2).toInt := rfl; have h9c1 : (2 : Int32).toInt = 2 := (by decide +kernel); have h9a3 : (so ((3 : Int32).toNatClampNeg)).toInt = (so 3).toInt := rfl; have h9b3 : (sn ((3 : Int32).toNatClampNeg)).toInt = (sn 3).toInt := rfl; have h9c3 : (3 : Int32).toInt = 3 := (by decide +kernel); omega), by rw [ht]; exact hP.sub [0, 1, 2, 3, 4, 5, 6, 7, 8, 9, 10, 11, 12, 13, 14, 15, 16, 17, 18, 19, 20, 21] rfl, hD.sub [0, 1, 2, 3, 4, 5, 6, 7, 8, 9, 10, 11, 12, 13, 14, 15, 16, 17, 18, 19, 20, 21] (by decide +kernel) rfl⟩, hS.F ht⟩) hS.2.2 dX12_copy_114
                  · refine lv_if_ne (tgt := 100) hx hb dX12_copy_94 (by decide +kernel) (fun c9 => absurd c9 (by decide +kernel)) (fun _ => ?_)
                    refine lv_bipush (v := (-12)) hx hb dX12_copy_97 (by decide +kernel) ?_
                    exact W.iret hx hb hr (fun t ht hW => ⟨⟨_, ((fun k => [(si 0), (si 1), (si 2), (si 3)].getD k (si 0)), (fun k => [(sl 0), (sl 1), (sl 2), (sl 3)].getD k (sl 0)), (fun k => [(sf 0), (sf 1), (sf 2), (sf 3)].getD k (sf 0)), (fun k => [(sd 0), (sd 1), (sd 2), (sd 3)].getD k (sd 0))), rfl, (by (try dsimp only); have h9a1 : (so ((2 : Int32).toNatClampNeg)).toInt = (so 2).toInt := rfl; have h9b1 : (sn ((2 : Int32).toNatClampNeg)).toInt = (sn 2).toInt := rfl; have h9c1 : (2 : Int32).toInt = 2 := (by decide +kernel); have h9a3 : (so ((3 : Int32).toNatClampNeg)).toInt = (so 3).toInt := rfl; have h9b3 : (sn ((3 : Int32).toNatClampNeg)).toInt = (sn 3).toInt := rfl; have h9c3 : (3 : Int32).toInt = 3 := (by decide +kernel); have h9r : ((-12) : Int32).toInt = -12 := (by decide +kernel); omega), by rw [ht]; exact hP.sub [0, 1, 2, 3, 4, 5, 6, 7, 8, 9, 10, 11, 12, 13, 14, 15, 16, 17, 18, 19, 20, 21] rfl, hD.sub [0, 1, 2, 3, 4, 5, 6, 7, 8, 9, 10, 11, 12, 13, 14, 15, 16, 17, 18, 19, 20, 21] (by decide +kernel) rfl⟩, hS.F ht⟩) hS.2.2 dX12_copy_99
                · refine lv_if_eq (tgt := 97) hx hb dX12_copy_82 (by decide +kernel) (fun _ => ?_) (fun c9 => absurd c9 (by decide +kernel))
                  refine lv_bipush (v := (-12)) hx hb dX12_copy_97 (by decide +kernel) ?_
                  exact W.iret hx hb hr (fun t ht hW => ⟨⟨_, ((fun k => [(si 0), (si 1), (si 2), (si 3)].getD k (si 0)), (fun k => [(sl 0), (sl 1), (sl 2), (sl 3)].getD k (sl 0)), (fun k => [(sf 0), (sf 1), (sf 2), (sf 3)].getD k (sf 0)), (fun k => [(sd 0), (sd 1), (sd 2), (sd 3)].getD k (sd 0))), rfl, (by (try dsimp only); have h9a1 : (so ((2 : Int32).toNatClampNeg)).toInt = (so 2).toInt := rfl; have h9b1 : (sn ((2 : Int32).toNatClampNeg)).toInt = (sn 2).toInt := rfl; have h9c1 : (2 : Int32).toInt = 2 := (by decide +kernel); have h9a3 : (so ((3 : Int32).toNatClampNeg)).toInt = (so 3).toInt := rfl; have h9b3 : (sn ((3 : Int32).toNatClampNeg)).toInt = (sn 3).toInt := rfl; have h9c3 : (3 : Int32).toInt = 3 := (by decide +kernel); have h9r : ((-12) : Int32).toInt = -12 := (by decide +kernel); omega), by rw [ht]; exact hP.sub [0, 1, 2, 3, 4, 5, 6, 7, 8, 9, 10, 11, 12, 13, 14, 15, 16, 17, 18, 19, 20, 21] rfl, hD.sub [0, 1, 2, 3, 4, 5, 6, 7, 8, 9, 10, 11, 12, 13, 14, 15, 16, 17, 18, 19, 20, 21] (by decide +kernel) rfl⟩, hS.F ht⟩) hS.2.2 dX12_copy_99
              · rw [fa_eq] at c_147
                refine lv_bipush (v := (-13)) hx hb dX12_copy_71 (by decide +kernel) ?_
                exact W.iret hx hb hr (fun t ht hW => ⟨⟨_, ((fun k => [(si 0), (si 1), (si 2), (si 3)].getD k (si 0)), (fun k => [(sl 0), (sl 1), (sl 2), (sl 3)].getD k (sl 0)), (fun k => [(sf 0), (sf 1), (sf 2), (sf 3)].getD k (sf 0)), (fun k => [(sd 0), (sd 1), (sd 2), (sd 3)].getD k (sd 0))), rfl, (by (try dsimp only); have h9a1 : (so ((2 : Int32).toNatClampNeg)).toInt = (so 2).toInt := rfl; have h9b1 : (sn ((2 : Int32).toNatClampNeg)).toInt = (sn 2).toInt := rfl; have h9c1 : (2 : Int32).toInt = 2 := (by decide +kernel); have h9a3 : (so ((3 : Int32).toNatClampNeg)).toInt = (so 3).toInt := rfl; have h9b3 : (sn ((3 : Int32).toNatClampNeg)).toInt = (sn 3).toInt := rfl; have h9c3 : (3 : Int32).toInt = 3 := (by decide +kernel); have h9r : ((-13) : Int32).toInt = -13 := (by decide +kernel); omega), by rw [ht]; exact hP.sub [0, 1, 2, 3, 4, 5, 6, 7, 8, 9, 10, 11, 12, 13, 14, 15, 16, 17, 18, 19, 20, 21] rfl, hD.sub [0, 1, 2, 3, 4, 5, 6, 7, 8, 9, 10, 11, 12, 13, 14, 15, 16, 17, 18, 19, 20, 21] (by decide +kernel) rfl⟩, hS.F ht⟩) hS.2.2 dX12_copy_73
            · rw [fa_eq] at c_146
              try rw [ti_n1] at c_146
              refine lv_bipush (v := (-11)) hx hb dX12_copy_55 (by decide +kernel) ?_
              exact W.iret hx hb hr (fun t ht hW => ⟨⟨_, ((fun k => [(si 0), (si 1), (si 2), (si 3)].getD k (si 0)), (fun k => [(sl 0), (sl 1), (sl 2), (sl 3)].getD k (sl 0)), (fun k => [(sf 0), (sf 1), (sf 2), (sf 3)].getD k (sf 0)), (fun k => [(sd 0), (sd 1), (sd 2), (sd 3)].getD k (sd 0))), rfl, (by (try dsimp only); have h9a1 : (so ((2 : Int32).toNatClampNeg)).toInt = (so 2).toInt := rfl; have h9b1 : (sn ((2 : Int32).toNatClampNeg)).toInt = (sn 2).toInt := rfl; have h9c1 : (2 : Int32).toInt = 2 := (by decide +kernel); have h9a3 : (so ((3 : Int32).toNatClampNeg)).toInt = (so 3).toInt := rfl; have h9b3 : (sn ((3 : Int32).toNatClampNeg)).toInt = (sn 3).toInt := rfl; have h9c3 : (3 : Int32).toInt = 3 := (by decide +kernel); have h9r : ((-11) : Int32).toInt = -11 := (by decide +kernel); omega), by rw [ht]; exact hP.sub [0, 1, 2, 3, 4, 5, 6, 7, 8, 9, 10, 11, 12, 13, 14, 15, 16, 17, 18, 19, 20, 21] rfl, hD.sub [0, 1, 2, 3, 4, 5, 6, 7, 8, 9, 10, 11, 12, 13, 14, 15, 16, 17, 18, 19, 20, 21] (by decide +kernel) rfl⟩, hS.F ht⟩) hS.2.2 dX12_copy_57
      · refine va_aldq hx hb hE.1 hP 1 6 rfl rfl (by unfold vp_in; decide) dX12_copy_26 ?_
        refine W.eq (g2 := F0 m 27 ls [.ref t3]) rfl ?_
        refine lv_astore (lv' := [(6, .ref t3), (0, .ref h0), (1, .int 3), (2, .int x2), (3, .int x3), (4, .int x4), (5, .int x5)]) hx hb dX12_copy_27 hl (by decide +kernel) rfl (fun ls hl => ?_)
        refine lv_aload_n hx hb dX12_copy_29 rfl (lv_at hl 1 rfl) ?_
        refine va_get (D := D) (ci := 9) (v := .ref h1) (C := RX12) (T := TX12) (N := 11) hx hb hts in_X12_copy_X12 hown hE.1 hP 0 rfl rfl 9 (by decide +kernel) (hts (.fieldLink RX12 65 "ClauseBook" "sheets" "[LClauseBook$Sheet;") (List.mem_of_getElem? (i := 1) rfl)) (fun _ h9 => h9) e0_9 dX12_copy_30 ?_
        refine lv_iload_n hx hb dX12_copy_33 rfl (lv_at hl 4 rfl) ?_
        rcases in4 (x := x3) (by omega) with rfl | rfl | rfl | rfl
        · refine va_aldq hx hb hE.1 hP 1 6 rfl rfl (by unfold vp_in; decide) dX12_copy_34 ?_
          refine W.eq (g2 := F0 m 35 ls [.ref t0]) rfl ?_
          refine lv_astore (lv' := [(7, .ref t0), (6, .ref t3), (0, .ref h0), (1, .int 3), (2, .int x2), (3, .int 0), (4, .int x4), (5, .int x5)]) hx hb dX12_copy_35 hl (by decide +kernel) rfl (fun ls hl => ?_)
          refine lv_aload hx hb dX12_copy_37 (lv_at hl 1 rfl) ?_
          refine va_get (D := D) (ci := 6) (v := .int (so 3)) (C := RX9) (T := TX9) (N := 6) hx hb hts in_X12_copy_X9 hown hE.1 hP 5 rfl rfl 0 (by decide +kernel) (hts (.fieldLink RX12 277 "ClauseBook$Sheet" "sort" "I") (List.mem_of_getElem? (i := 2) rfl)) (fun _ h9 => h9) rfl dX12_copy_39 ?_
          refine lv_iconst (v := (-1)) hx hb dX12_copy_42 (by decide +kernel) ?_
          refine lv_icmp_eq (tgt := 55) hx hb dX12_copy_43 (by decide +kernel) (fun c_158 => ?_) (fun c_158 => ?_)
          · rw [fa_eq] at c_158
            try rw [ti_n1] at c_158
            refine lv_bipush (v := (-11)) hx hb dX12_copy_55 (by decide +kernel) ?_
            exact W.iret hx hb hr (fun t ht hW => ⟨⟨_, ((fun k => [(si 0), (si 1), (si 2), (si 3)].getD k (si 0)), (fun k => [(sl 0), (sl 1), (sl 2), (sl 3)].getD k (sl 0)), (fun k => [(sf 0), (sf 1), (sf 2), (sf 3)].getD k (sf 0)), (fun k => [(sd 0), (sd 1), (sd 2), (sd 3)].getD k (sd 0))), rfl, (by (try dsimp only); have h9a1 : (so ((3 : Int32).toNatClampNeg)).toInt = (so 3).toInt := rfl; have h9b1 : (sn ((3 : Int32).toNatClampNeg)).toInt = (sn 3).toInt := rfl; have h9c1 : (3 : Int32).toInt = 3 := (by decide +kernel); have h9a3 : (so ((0 : Int32).toNatClampNeg)).toInt = (so 0).toInt := rfl; have h9b3 : (sn ((0 : Int32).toNatClampNeg)).toInt = (sn 0).toInt := rfl; have h9c3 : (0 : Int32).toInt = 0 := (by decide +kernel); have h9r : ((-11) : Int32).toInt = -11 := (by decide +kernel); omega), by rw [ht]; exact hP.sub [0, 1, 2, 3, 4, 5, 6, 7, 8, 9, 10, 11, 12, 13, 14, 15, 16, 17, 18, 19, 20, 21] rfl, hD.sub [0, 1, 2, 3, 4, 5, 6, 7, 8, 9, 10, 11, 12, 13, 14, 15, 16, 17, 18, 19, 20, 21] (by decide +kernel) rfl⟩, hS.F ht⟩) hS.2.2 dX12_copy_57
          · rw [fa_eq] at c_158
            try rw [ti_n1] at c_158
            refine lv_aload hx hb dX12_copy_46 (lv_at hl 0 rfl) ?_
            refine va_get (D := D) (ci := 6) (v := .int (so 0)) (C := RX9) (T := TX9) (N := 6) hx hb hts in_X12_copy_X9 hown hE.1 hP 2 rfl rfl 0 (by decide +kernel) (hts (.fieldLink RX12 277 "ClauseBook$Sheet" "sort" "I") (List.mem_of_getElem? (i := 2) rfl)) (fun _ h9 => h9) rfl dX12_copy_48 ?_
            refine lv_iconst (v := (-1)) hx hb dX12_copy_51 (by decide +kernel) ?_
            refine lv_icmp_ne (tgt := 58) hx hb dX12_copy_52 (by decide +kernel) (fun c_159 => ?_) (fun c_159 => ?_)
            · rw [fa_eq] at c_159
              try rw [ti_n1] at c_159
              refine lv_aload hx hb dX12_copy_58 (lv_at hl 1 rfl) ?_
              refine va_get (D := D) (ci := 6) (v := .int (so 3)) (C := RX9) (T := TX9) (N := 6) hx hb hts in_X12_copy_X9 hown hE.1 hP 5 rfl rfl 0 (by decide +kernel) (hts (.fieldLink RX12 277 "ClauseBook$Sheet" "sort" "I") (List.mem_of_getElem? (i := 2) rfl)) (fun _ h9 => h9) rfl dX12_copy_60 ?_
              refine lv_aload hx hb dX12_copy_63 (lv_at hl 0 rfl) ?_
              refine va_get (D := D) (ci := 6) (v := .int (so 0)) (C := RX9) (T := TX9) (N := 6) hx hb hts in_X12_copy_X9 hown hE.1 hP 2 rfl rfl 0 (by decide +kernel) (hts (.fieldLink RX12 277 "ClauseBook$Sheet" "sort" "I") (List.mem_of_getElem? (i := 2) rfl)) (fun _ h9 => h9) rfl dX12_copy_65 ?_
              refine lv_icmp_eq (tgt := 74) hx hb dX12_copy_68 (by decide +kernel) (fun c_160 => ?_) (fun c_160 => ?_)
              · rw [fa_eq] at c_160
                refine lv_aload hx hb dX12_copy_74 (lv_at hl 1 rfl) ?_
                refine lv_iload_n hx hb dX12_copy_76 rfl (lv_at hl 4 rfl) ?_
                refine lv_iload hx hb dX12_copy_77 (lv_at hl 7 rfl) ?_
                refine vp_callSi (W.runV (As := [.int x2, .int x5]) (rest := []) ⟨hx, hb, hml, hown, hts⟩ (c_X9_hasRun l D T t3 [.int (so 3), .int (sn 3), .ref a30, .ref a31, .ref a32, .ref a33] x2 x5 (sn 3) rfl (by omega)) (cwV 2 hts gX12_copy_X9_hasRun rfl rfl rfl hv_X9_hasRun ⟨Nat.le_of_ble_eq_true rfl, Nat.le_of_ble_eq_true rfl⟩) (pR_V (q := (RX9, TX9, 6)) (ci := 6) (q0 := 5) hP hE rfl rfl [5] rfl) rfl rfl hl.1 rfl (lv_room (Nat.le_of_ble_eq_true rfl)) dX12_copy_79 ⟨Nat.le_of_ble_eq_true rfl, Nat.le_of_ble_eq_true rfl⟩) (fun r_161 hr_161 => ?_)
                rcases bool_post hr_161 with ⟨c_162, rfl⟩ | ⟨c_162, rfl⟩
                · refine lv_if_eq (tgt := 97) hx hb dX12_copy_82 (by decide +kernel) (fun c9 => absurd c9 (by decide +kernel)) (fun _ => ?_)
                  refine lv_aload hx hb dX12_copy_85 (lv_at hl 0 rfl) ?_
                  refine lv_iload hx hb dX12_copy_87 (lv_at hl 6 rfl) ?_
                  refine lv_iload hx hb dX12_copy_89 (lv_at hl 7 rfl) ?_
                  refine vp_callSi (W.runV (As := [.int x4, .int x5]) (rest := []) ⟨hx, hb, hml, hown, hts⟩ (c_X9_hasRun l D T t0 [.int (so 0), .int (sn 0), .ref a00, .ref a01, .ref a02, .ref a03] x4 x5 (sn 0) rfl (by omega)) (cwV 2 hts gX12_copy_X9_hasRun rfl rfl rfl hv_X9_hasRun ⟨Nat.le_of_ble_eq_true rfl, Nat.le_of_ble_eq_true rfl⟩) (pR_V (q := (RX9, TX9, 6)) (ci := 6) (q0 := 2) hP hE rfl rfl [2] rfl) rfl rfl hl.1 rfl (lv_room (Nat.le_of_ble_eq_true rfl)) dX12_copy_91 ⟨Nat.le_of_ble_eq_true rfl, Nat.le_of_ble_eq_true rfl⟩) (fun r_163 hr_163 => ?_)
                  rcases bool_post hr_163 with ⟨c_164, rfl⟩ | ⟨c_164, rfl⟩
                  · refine lv_if_ne (tgt := 100) hx hb dX12_copy_94 (by decide +kernel) (fun _ => ?_) (fun c9 => absurd c9 (by decide +kernel))
                    refine lv_aload hx hb dX12_copy_100 (lv_at hl 0 rfl) ?_
                    refine lv_aload hx hb dX12_copy_102 (lv_at hl 1 rfl) ?_
                    refine lv_iload_n hx hb dX12_copy_104 rfl (lv_at hl 4 rfl) ?_
                    refine lv_iload hx hb dX12_copy_105 (lv_at hl 6 rfl) ?_
                    refine lv_iload hx hb dX12_copy_107 (lv_at hl 7 rfl) ?_
                    have hFc := va_free (wc := [(t0, .inr (6, [.int (so 0), .int (sn 0), .ref a00, .ref a01, .ref a02, .ref a03])), (a00, .inl (T 0, 30, .inl (si 0))), (a01, .inl (T 1, 30, .inr (.inl (sl 0)))), (a02, .inl (T 2, 30, .inr (.inr (.inl (sf 0))))), (a03, .inl (T 3, 30, .inr (.inr (.inr (.inl (sd 0)))))), (t3, .inr (6, [.int (so 3), .int (sn 3), .ref a30, .ref a31, .ref a32, .ref a33])), (a30, .inl (T 0, 30, .inl (si 3))), (a31, .inl (T 1, 30, .inr (.inl (sl 3)))), (a32, .inl (T 2, 30, .inr (.inr (.inl (sf 3))))), (a33, .inl (T 3, 30, .inr (.inr (.inr (.inl (sd 3))))))]) hD hS hA [2, 6, 7, 8, 9, 5, 18, 19, 20, 21] rfl
                    refine va_callv (va_runV (As := [.ref t3, .int x2, .int x4, .int x5]) (rest := []) ⟨hx, hb, hml, hown, hts⟩ (c_X9_moveFrom l D T _ t0 (so 0) (sn 0) a00 a01 a02 a03 (si 0) (sl 0) (sf 0) (sd 0) t3 (so 3) (sn 3) a30 a31 a32 a33 (si 3) (sl 3) (sf 3) (sd 3) x2 x4 x5 (by omega) (by omega)) (cwV 4 hts gX12_copy_X9_moveFrom rfl rfl rfl hv_X9_moveFrom ⟨Nat.le_of_ble_eq_true rfl, Nat.le_of_ble_eq_true rfl⟩) (pW_V (q := (RX9, TX9, 6)) (ci := 6) (q0 := 2) hP hE hD rfl rfl [2, 6, 7, 8, 9, 5, 18, 19, 20, 21] (by decide +kernel) rfl rfl) rfl rfl hl.1 rfl (lv_room (Nat.le_of_ble_eq_true rfl)) dX12_copy_109 ⟨Nat.le_of_ble_eq_true rfl, Nat.le_of_ble_eq_true rfl⟩) hS (fun q _ h => hFc q h) hFc (fun u_166 t H1 locs ht hvm hr_165 hB hz1 hk1 hS => ?_)
                    obtain ⟨f_167, f_168, f_169, f_170⟩ := u_166
                    obtain ⟨hP1, hD1⟩ := hB
                    rw [ht] at hP1
                    obtain ⟨hP, hD⟩ := va_repl [(h0, .inr (9, fs0)), (h1, .inl (T 6, 4, .inr (.inr (.inr (.inr (va_up (va_up (va_up (va_up (fun _ => none) 0 (some t0)) 1 (some t1)) 2 (some t2)) 3 (some t3))))))), (t0, .inr (6, [.int (so 0), .int (sn 0), .ref a00, .ref a01, .ref a02, .ref a03])), (t1, .inr (6, [.int (so 1), .int (sn 1), .ref a10, .ref a11, .ref a12, .ref a13])), (t2, .inr (6, [.int (so 2), .int (sn 2), .ref a20, .ref a21, .ref a22, .ref a23])), (t3, .inr (6, [.int (so 3), .int (sn 3), .ref a30, .ref a31, .ref a32, .ref a33])), (a00, .inl (T 0, 30, .inl f_167)), (a01, .inl (T 1, 30, .inr (.inl f_168))), (a02, .inl (T 2, 30, .inr (.inr (.inl f_169)))), (a03, .inl (T 3, 30, .inr (.inr (.inr (.inl f_170))))), (a10, .inl (T 0, 30, .inl (si 1))), (a11, .inl (T 1, 30, .inr (.inl (sl 1)))), (a12, .inl (T 2, 30, .inr (.inr (.inl (sf 1))))), (a13, .inl (T 3, 30, .inr (.inr (.inr (.inl (sd 1)))))), (a20, .inl (T 0, 30, .inl (si 2))), (a21, .inl (T 1, 30, .inr (.inl (sl 2)))), (a22, .inl (T 2, 30, .inr (.inr (.inl (sf 2))))), (a23, .inl (T 3, 30, .inr (.inr (.inr (.inl (sd 2)))))), (a30, .inl (T 0, 30, .inl (si 3))), (a31, .inl (T 1, 30, .inr (.inl (sl 3)))), (a32, .inl (T 2, 30, .inr (.inr (.inl (sf 3))))), (a33, .inl (T 3, 30, .inr (.inr (.inr (.inl (sd 3))))))] hP hD [2, 6, 7, 8, 9, 5, 18, 19, 20, 21] [2, 5, 6, 7, 8, 9, 18, 19, 20, 21] rfl (by decide +kernel) rfl rfl rfl hk1 (hP1.sub [0, 5, 1, 2, 3, 4, 6, 7, 8, 9] rfl)
                    clear hP1 hD1 hFc
                    generalize H1 = H at hP hS ⊢
                    refine lv_iload hx hb dX12_copy_112 (lv_at hl 7 rfl) ?_
                    exact W.iret hx hb hr (fun t ht hW => ⟨⟨_, ((fun k => [f_167, (si 1), (si 2), (si 3)].getD k f_167), (fun k => [f_168, (sl 1), (sl 2), (sl 3)].getD k f_168), (fun k => [f_169, (sf 1), (sf 2), (sf 3)].getD k f_169), (fun k => [f_170, (sd 1), (sd 2), (sd 3)].getD k f_170)), rfl, (by (try dsimp only); have h9a1 : (so ((3 : Int32).toNatClampNeg)).toInt = (so 3).toInt := rfl; have h9b1 : (sn ((3 : Int32).toNatClampNeg)).toInt = (sn 3).toInt := rfl; have h9c1 : (3 : Int32).toInt = 3 := (by decide +kernel); have h9a3 : (so ((0 : Int32).toNatClampNeg)).toInt = (so 0).toInt := rfl; have h9b3 : (sn ((0 : Int32).toNatClampNeg)).toInt = (sn 0).toInt := rfl; have h9c3 : (0 : Int32).toInt = 0 := (by decide +kernel); omega), by rw [ht]; exact hP.sub [0, 1, 2, 3, 4, 5, 6, 7, 8, 9, 10, 11, 12, 13, 14, 15, 16, 17, 18, 19, 20, 21] rfl, hD.sub [0, 1, 2, 3, 4, 5, 6, 7, 8, 9, 10, 11, 12, 13, 14, 15, 16, 17, 18, 19, 20, 21] (by decide +kernel) rfl⟩, hS.F ht⟩) hS.2.2 dX12_copy_114
                  · refine lv_if_ne (tgt := 100) hx hb dX12_copy_94 (by decide +kernel) (fun c9 => absurd c9 (by decide +kernel)) (fun _ => ?_)
                    refine lv_bipush (v := (-12)) hx hb dX12_copy_97 (by decide +kernel) ?_
                    exact W.iret hx hb hr (fun t ht hW => ⟨⟨_, ((fun k => [(si 0), (si 1), (si 2), (si 3)].getD k (si 0)), (fun k => [(sl 0), (sl 1), (sl 2), (sl 3)].getD k (sl 0)), (fun k => [(sf 0), (sf 1), (sf 2), (sf 3)].getD k (sf 0)), (fun k => [(sd 0), (sd 1), (sd 2), (sd 3)].getD k (sd 0))), rfl, (by (try dsimp only); have h9a1 : (so ((3 : Int32).toNatClampNeg)).toInt = (so 3).toInt := rfl; have h9b1 : (sn ((3 : Int32).toNatClampNeg)).toInt = (sn 3).toInt := rfl; have h9c1 : (3 : Int32).toInt = 3 := (by decide +kernel); have h9a3 : (so ((0 : Int32).toNatClampNeg)).toInt = (so 0).toInt := rfl; have h9b3 : (sn ((0 : Int32).toNatClampNeg)).toInt = (sn 0).toInt := rfl; have h9c3 : (0 : Int32).toInt = 0 := (by decide +kernel); have h9r : ((-12) : Int32).toInt = -12 := (by decide +kernel); omega), by rw [ht]; exact hP.sub [0, 1, 2, 3, 4, 5, 6, 7, 8, 9, 10, 11, 12, 13, 14, 15, 16, 17, 18, 19, 20, 21] rfl, hD.sub [0, 1, 2, 3, 4, 5, 6, 7, 8, 9, 10, 11, 12, 13, 14, 15, 16, 17, 18, 19, 20, 21] (by decide +kernel) rfl⟩, hS.F ht⟩) hS.2.2 dX12_copy_99
                · refine lv_if_eq (tgt := 97) hx hb dX12_copy_82 (by decide +kernel) (fun _ => ?_) (fun c9 => absurd c9 (by decide +kernel))
                  refine lv_bipush (v := (-12)) hx hb dX12_copy_97 (by decide +kernel) ?_
                  exact W.iret hx hb hr (fun t ht hW => ⟨⟨_, ((fun k => [(si 0), (si 1), (si 2), (si 3)].getD k (si 0)), (fun k => [(sl 0), (sl 1), (sl 2), (sl 3)].getD k (sl 0)), (fun k => [(sf 0), (sf 1), (sf 2), (sf 3)].getD k (sf 0)), (fun k => [(sd 0), (sd 1), (sd 2), (sd 3)].getD k (sd 0))), rfl, (by (try dsimp only); have h9a1 : (so ((3 : Int32).toNatClampNeg)).toInt = (so 3).toInt := rfl; have h9b1 : (sn ((3 : Int32).toNatClampNeg)).toInt = (sn 3).toInt := rfl; have h9c1 : (3 : Int32).toInt = 3 := (by decide +kernel); have h9a3 : (so ((0 : Int32).toNatClampNeg)).toInt = (so 0).toInt := rfl; have h9b3 : (sn ((0 : Int32).toNatClampNeg)).toInt = (sn 0).toInt := rfl; have h9c3 : (0 : Int32).toInt = 0 := (by decide +kernel); have h9r : ((-12) : Int32).toInt = -12 := (by decide +kernel); omega), by rw [ht]; exact hP.sub [0, 1, 2, 3, 4, 5, 6, 7, 8, 9, 10, 11, 12, 13, 14, 15, 16, 17, 18, 19, 20, 21] rfl, hD.sub [0, 1, 2, 3, 4, 5, 6, 7, 8, 9, 10, 11, 12, 13, 14, 15, 16, 17, 18, 19, 20, 21] (by decide +kernel) rfl⟩, hS.F ht⟩) hS.2.2 dX12_copy_99
              · rw [fa_eq] at c_160
                refine lv_bipush (v := (-13)) hx hb dX12_copy_71 (by decide +kernel) ?_
                exact W.iret hx hb hr (fun t ht hW => ⟨⟨_, ((fun k => [(si 0), (si 1), (si 2), (si 3)].getD k (si 0)), (fun k => [(sl 0), (sl 1), (sl 2), (sl 3)].getD k (sl 0)), (fun k => [(sf 0), (sf 1), (sf 2), (sf 3)].getD k (sf 0)), (fun k => [(sd 0), (sd 1), (sd 2), (sd 3)].getD k (sd 0))), rfl, (by (try dsimp only); have h9a1 : (so ((3 : Int32).toNatClampNeg)).toInt = (so 3).toInt := rfl; have h9b1 : (sn ((3 : Int32).toNatClampNeg)).toInt = (sn 3).toInt := rfl; have h9c1 : (3 : Int32).toInt = 3 := (by decide +kernel); have h9a3 : (so ((0 : Int32).toNatClampNeg)).toInt = (so 0).toInt := rfl; have h9b3 : (sn ((0 : Int32).toNatClampNeg)).toInt = (sn 0).toInt := rfl; have h9c3 : (0 : Int32).toInt = 0 := (by decide +kernel); have h9r : ((-13) : Int32).toInt = -13 := (by decide +kernel); omega), by rw [ht]; exact hP.sub [0, 1, 2, 3, 4, 5, 6, 7, 8, 9, 10, 11, 12, 13, 14, 15, 16, 17, 18, 19, 20, 21] rfl, hD.sub [0, 1, 2, 3, 4, 5, 6, 7, 8, 9, 10, 11, 12, 13, 14, 15, 16, 17, 18, 19, 20, 21] (by decide +kernel) rfl⟩, hS.F ht⟩) hS.2.2 dX12_copy_73
            · rw [fa_eq] at c_159
              try rw [ti_n1] at c_159
              refine lv_bipush (v := (-11)) hx hb dX12_copy_55 (by decide +kernel) ?_
              exact W.iret hx hb hr (fun t ht hW => ⟨⟨_, ((fun k => [(si 0), (si 1), (si 2), (si 3)].getD k (si 0)), (fun k => [(sl 0), (sl 1), (sl 2), (sl 3)].getD k (sl 0)), (fun k => [(sf 0), (sf 1), (sf 2), (sf 3)].getD k (sf 0)), (fun k => [(sd 0), (sd 1), (sd 2), (sd 3)].getD k (sd 0))), rfl, (by (try dsimp only); have h9a1 : (so ((3 : Int32).toNatClampNeg)).toInt = (so 3).toInt := rfl; have h9b1 : (sn ((3 : Int32).toNatClampNeg)).toInt = (sn 3).toInt := rfl; have h9c1 : (3 : Int32).toInt = 3 := (by decide +kernel); have h9a3 : (so ((0 : Int32).toNatClampNeg)).toInt = (so 0).toInt := rfl; have h9b3 : (sn ((0 : Int32).toNatClampNeg)).toInt = (sn 0).toInt := rfl; have h9c3 : (0 : Int32).toInt = 0 := (by decide +kernel); have h9r : ((-11) : Int32).toInt = -11 := (by decide +kernel); omega), by rw [ht]; exact hP.sub [0, 1, 2, 3, 4, 5, 6, 7, 8, 9, 10, 11, 12, 13, 14, 15, 16, 17, 18, 19, 20, 21] rfl, hD.sub [0, 1, 2, 3, 4, 5, 6, 7, 8, 9, 10, 11, 12, 13, 14, 15, 16, 17, 18, 19, 20, 21] (by decide +kernel) rfl⟩, hS.F ht⟩) hS.2.2 dX12_copy_57
        · refine va_aldq hx hb hE.1 hP 1 6 rfl rfl (by unfold vp_in; decide) dX12_copy_34 ?_
          refine W.eq (g2 := F0 m 35 ls [.ref t1]) rfl ?_
          refine lv_astore (lv' := [(7, .ref t1), (6, .ref t3), (0, .ref h0), (1, .int 3), (2, .int x2), (3, .int 1), (4, .int x4), (5, .int x5)]) hx hb dX12_copy_35 hl (by decide +kernel) rfl (fun ls hl => ?_)
          refine lv_aload hx hb dX12_copy_37 (lv_at hl 1 rfl) ?_
          refine va_get (D := D) (ci := 6) (v := .int (so 3)) (C := RX9) (T := TX9) (N := 6) hx hb hts in_X12_copy_X9 hown hE.1 hP 5 rfl rfl 0 (by decide +kernel) (hts (.fieldLink RX12 277 "ClauseBook$Sheet" "sort" "I") (List.mem_of_getElem? (i := 2) rfl)) (fun _ h9 => h9) rfl dX12_copy_39 ?_
          refine lv_iconst (v := (-1)) hx hb dX12_copy_42 (by decide +kernel) ?_
          refine lv_icmp_eq (tgt := 55) hx hb dX12_copy_43 (by decide +kernel) (fun c_171 => ?_) (fun c_171 => ?_)
          · rw [fa_eq] at c_171
            try rw [ti_n1] at c_171
            refine lv_bipush (v := (-11)) hx hb dX12_copy_55 (by decide +kernel) ?_
            exact W.iret hx hb hr (fun t ht hW => ⟨⟨_, ((fun k => [(si 0), (si 1), (si 2), (si 3)].getD k (si 0)), (fun k => [(sl 0), (sl 1), (sl 2), (sl 3)].getD k (sl 0)), (fun k => [(sf 0), (sf 1), (sf 2), (sf 3)].getD k (sf 0)), (fun k => [(sd 0), (sd 1), (sd 2), (sd 3)].getD k (sd 0))), rfl, (by (try dsimp only); have h9a1 : (so ((3 : Int32).toNatClampNeg)).toInt = (so 3).toInt := rfl; have h9b1 : (sn ((3 : Int32).toNatClampNeg)).toInt = (sn 3).toInt := rfl; have h9c1 : (3 : Int32).toInt = 3 := (by decide +kernel); have h9a3 : (so ((1 : Int32).toNatClampNeg)).toInt = (so 1).toInt := rfl; have h9b3 : (sn ((1 : Int32).toNatClampNeg)).toInt = (sn 1).toInt := rfl; have h9c3 : (1 : Int32).toInt = 1 := (by decide +kernel); have h9r : ((-11) : Int32).toInt = -11 := (by decide +kernel); omega), by rw [ht]; exact hP.sub [0, 1, 2, 3, 4, 5, 6, 7, 8, 9, 10, 11, 12, 13, 14, 15, 16, 17, 18, 19, 20, 21] rfl, hD.sub [0, 1, 2, 3, 4, 5, 6, 7, 8, 9, 10, 11, 12, 13, 14, 15, 16, 17, 18, 19, 20, 21] (by decide +kernel) rfl⟩, hS.F ht⟩) hS.2.2 dX12_copy_57
          · rw [fa_eq] at c_171
            try rw [ti_n1] at c_171
            refine lv_aload hx hb dX12_copy_46 (lv_at hl 0 rfl) ?_
            refine va_get (D := D) (ci := 6) (v := .int (so 1)) (C := RX9) (T := TX9) (N := 6) hx hb hts in_X12_copy_X9 hown hE.1 hP 3 rfl rfl 0 (by decide +kernel) (hts (.fieldLink RX12 277 "ClauseBook$Sheet" "sort" "I") (List.mem_of_getElem? (i := 2) rfl)) (fun _ h9 => h9) rfl dX12_copy_48 ?_
            refine lv_iconst (v := (-1)) hx hb dX12_copy_51 (by decide +kernel) ?_
            refine lv_icmp_ne (tgt := 58) hx hb dX12_copy_52 (by decide +kernel) (fun c_172 => ?_) (fun c_172 => ?_)
            · rw [fa_eq] at c_172
              try rw [ti_n1] at c_172
              refine lv_aload hx hb dX12_copy_58 (lv_at hl 1 rfl) ?_
              refine va_get (D := D) (ci := 6) (v := .int (so 3)) (C := RX9) (T := TX9) (N := 6) hx hb hts in_X12_copy_X9 hown hE.1 hP 5 rfl rfl 0 (by decide +kernel) (hts (.fieldLink RX12 277 "ClauseBook$Sheet" "sort" "I") (List.mem_of_getElem? (i := 2) rfl)) (fun _ h9 => h9) rfl dX12_copy_60 ?_
              refine lv_aload hx hb dX12_copy_63 (lv_at hl 0 rfl) ?_
              refine va_get (D := D) (ci := 6) (v := .int (so 1)) (C := RX9) (T := TX9) (N := 6) hx hb hts in_X12_copy_X9 hown hE.1 hP 3 rfl rfl 0 (by decide +kernel) (hts (.fieldLink RX12 277 "ClauseBook$Sheet" "sort" "I") (List.mem_of_getElem? (i := 2) rfl)) (fun _ h9 => h9) rfl dX12_copy_65 ?_
              refine lv_icmp_eq (tgt := 74) hx hb dX12_copy_68 (by decide +kernel) (fun c_173 => ?_) (fun c_173 => ?_)
              · rw [fa_eq] at c_173
                refine lv_aload hx hb dX12_copy_74 (lv_at hl 1 rfl) ?_
                refine lv_iload_n hx hb dX12_copy_76 rfl (lv_at hl 4 rfl) ?_
                refine lv_iload hx hb dX12_copy_77 (lv_at hl 7 rfl) ?_
                refine vp_callSi (W.runV (As := [.int x2, .int x5]) (rest := []) ⟨hx, hb, hml, hown, hts⟩ (c_X9_hasRun l D T t3 [.int (so 3), .int (sn 3), .ref a30, .ref a31, .ref a32, .ref a33] x2 x5 (sn 3) rfl (by omega)) (cwV 2 hts gX12_copy_X9_hasRun rfl rfl rfl hv_X9_hasRun ⟨Nat.le_of_ble_eq_true rfl, Nat.le_of_ble_eq_true rfl⟩) (pR_V (q := (RX9, TX9, 6)) (ci := 6) (q0 := 5) hP hE rfl rfl [5] rfl) rfl rfl hl.1 rfl (lv_room (Nat.le_of_ble_eq_true rfl)) dX12_copy_79 ⟨Nat.le_of_ble_eq_true rfl, Nat.le_of_ble_eq_true rfl⟩) (fun r_174 hr_174 => ?_)
                rcases bool_post hr_174 with ⟨c_175, rfl⟩ | ⟨c_175, rfl⟩
                · refine lv_if_eq (tgt := 97) hx hb dX12_copy_82 (by decide +kernel) (fun c9 => absurd c9 (by decide +kernel)) (fun _ => ?_)
                  refine lv_aload hx hb dX12_copy_85 (lv_at hl 0 rfl) ?_
                  refine lv_iload hx hb dX12_copy_87 (lv_at hl 6 rfl) ?_
                  refine lv_iload hx hb dX12_copy_89 (lv_at hl 7 rfl) ?_
                  refine vp_callSi (W.runV (As := [.int x4, .int x5]) (rest := []) ⟨hx, hb, hml, hown, hts⟩ (c_X9_hasRun l D T t1 [.int (so 1), .int (sn 1), .ref a10, .ref a11, .ref a12, .ref a13] x4 x5 (sn 1) rfl (by omega)) (cwV 2 hts gX12_copy_X9_hasRun rfl rfl rfl hv_X9_hasRun ⟨Nat.le_of_ble_eq_true rfl, Nat.le_of_ble_eq_true rfl⟩) (pR_V (q := (RX9, TX9, 6)) (ci := 6) (q0 := 3) hP hE rfl rfl [3] rfl) rfl rfl hl.1 rfl (lv_room (Nat.le_of_ble_eq_true rfl)) dX12_copy_91 ⟨Nat.le_of_ble_eq_true rfl, Nat.le_of_ble_eq_true rfl⟩) (fun r_176 hr_176 => ?_)
                  rcases bool_post hr_176 with ⟨c_177, rfl⟩ | ⟨c_177, rfl⟩
                  · refine lv_if_ne (tgt := 100) hx hb dX12_copy_94 (by decide +kernel) (fun _ => ?_) (fun c9 => absurd c9 (by decide +kernel))
                    refine lv_aload hx hb dX12_copy_100 (lv_at hl 0 rfl) ?_
                    refine lv_aload hx hb dX12_copy_102 (lv_at hl 1 rfl) ?_
                    refine lv_iload_n hx hb dX12_copy_104 rfl (lv_at hl 4 rfl) ?_
                    refine lv_iload hx hb dX12_copy_105 (lv_at hl 6 rfl) ?_
                    refine lv_iload hx hb dX12_copy_107 (lv_at hl 7 rfl) ?_
                    have hFc := va_free (wc := [(t1, .inr (6, [.int (so 1), .int (sn 1), .ref a10, .ref a11, .ref a12, .ref a13])), (a10, .inl (T 0, 30, .inl (si 1))), (a11, .inl (T 1, 30, .inr (.inl (sl 1)))), (a12, .inl (T 2, 30, .inr (.inr (.inl (sf 1))))), (a13, .inl (T 3, 30, .inr (.inr (.inr (.inl (sd 1)))))), (t3, .inr (6, [.int (so 3), .int (sn 3), .ref a30, .ref a31, .ref a32, .ref a33])), (a30, .inl (T 0, 30, .inl (si 3))), (a31, .inl (T 1, 30, .inr (.inl (sl 3)))), (a32, .inl (T 2, 30, .inr (.inr (.inl (sf 3))))), (a33, .inl (T 3, 30, .inr (.inr (.inr (.inl (sd 3))))))]) hD hS hA [3, 10, 11, 12, 13, 5, 18, 19, 20, 21] rfl
                    refine va_callv (va_runV (As := [.ref t3, .int x2, .int x4, .int x5]) (rest := []) ⟨hx, hb, hml, hown, hts⟩ (c_X9_moveFrom l D T _ t1 (so 1) (sn 1) a10 a11 a12 a13 (si 1) (sl 1) (sf 1) (sd 1) t3 (so 3) (sn 3) a30 a31 a32 a33 (si 3) (sl 3) (sf 3) (sd 3) x2 x4 x5 (by omega) (by omega)) (cwV 4 hts gX12_copy_X9_moveFrom rfl rfl rfl hv_X9_moveFrom ⟨Nat.le_of_ble_eq_true rfl, Nat.le_of_ble_eq_true rfl⟩) (pW_V (q := (RX9, TX9, 6)) (ci := 6) (q0 := 3) hP hE hD rfl rfl [3, 10, 11, 12, 13, 5, 18, 19, 20, 21] (by decide +kernel) rfl rfl) rfl rfl hl.1 rfl (lv_room (Nat.le_of_ble_eq_true rfl)) dX12_copy_109 ⟨Nat.le_of_ble_eq_true rfl, Nat.le_of_ble_eq_true rfl⟩) hS (fun q _ h => hFc q h) hFc (fun u_179 t H1 locs ht hvm hr_178 hB hz1 hk1 hS => ?_)
                    obtain ⟨f_180, f_181, f_182, f_183⟩ := u_179
                    obtain ⟨hP1, hD1⟩ := hB
                    rw [ht] at hP1
                    obtain ⟨hP, hD⟩ := va_repl [(h0, .inr (9, fs0)), (h1, .inl (T 6, 4, .inr (.inr (.inr (.inr (va_up (va_up (va_up (va_up (fun _ => none) 0 (some t0)) 1 (some t1)) 2 (some t2)) 3 (some t3))))))), (t0, .inr (6, [.int (so 0), .int (sn 0), .ref a00, .ref a01, .ref a02, .ref a03])), (t1, .inr (6, [.int (so 1), .int (sn 1), .ref a10, .ref a11, .ref a12, .ref a13])), (t2, .inr (6, [.int (so 2), .int (sn 2), .ref a20, .ref a21, .ref a22, .ref a23])), (t3, .inr (6, [.int (so 3), .int (sn 3), .ref a30, .ref a31, .ref a32, .ref a33])), (a00, .inl (T 0, 30, .inl (si 0))), (a01, .inl (T 1, 30, .inr (.inl (sl 0)))), (a02, .inl (T 2, 30, .inr (.inr (.inl (sf 0))))), (a03, .inl (T 3, 30, .inr (.inr (.inr (.inl (sd 0)))))), (a10, .inl (T 0, 30, .inl f_180)), (a11, .inl (T 1, 30, .inr (.inl f_181))), (a12, .inl (T 2, 30, .inr (.inr (.inl f_182)))), (a13, .inl (T 3, 30, .inr (.inr (.inr (.inl f_183))))), (a20, .inl (T 0, 30, .inl (si 2))), (a21, .inl (T 1, 30, .inr (.inl (sl 2)))), (a22, .inl (T 2, 30, .inr (.inr (.inl (sf 2))))), (a23, .inl (T 3, 30, .inr (.inr (.inr (.inl (sd 2)))))), (a30, .inl (T 0, 30, .inl (si 3))), (a31, .inl (T 1, 30, .inr (.inl (sl 3)))), (a32, .inl (T 2, 30, .inr (.inr (.inl (sf 3))))), (a33, .inl (T 3, 30, .inr (.inr (.inr (.inl (sd 3))))))] hP hD [3, 10, 11, 12, 13, 5, 18, 19, 20, 21] [3, 5, 10, 11, 12, 13, 18, 19, 20, 21] rfl (by decide +kernel) rfl rfl rfl hk1 (hP1.sub [0, 5, 1, 2, 3, 4, 6, 7, 8, 9] rfl)
                    clear hP1 hD1 hFc
                    generalize H1 = H at hP hS ⊢
                    refine lv_iload hx hb dX12_copy_112 (lv_at hl 7 rfl) ?_
                    exact W.iret hx hb hr (fun t ht hW => ⟨⟨_, ((fun k => [(si 0), f_180, (si 2), (si 3)].getD k (si 0)), (fun k => [(sl 0), f_181, (sl 2), (sl 3)].getD k (sl 0)), (fun k => [(sf 0), f_182, (sf 2), (sf 3)].getD k (sf 0)), (fun k => [(sd 0), f_183, (sd 2), (sd 3)].getD k (sd 0))), rfl, (by (try dsimp only); have h9a1 : (so ((3 : Int32).toNatClampNeg)).toInt = (so 3).toInt := rfl; have h9b1 : (sn ((3 : Int32).toNatClampNeg)).toInt = (sn 3).toInt := rfl; have h9c1 : (3 : Int32).toInt = 3 := (by decide +kernel); have h9a3 : (so ((1 : Int32).toNatClampNeg)).toInt = (so 1).toInt := rfl; have h9b3 : (sn ((1 : Int32).toNatClampNeg)).toInt = (sn 1).toInt := rfl; have h9c3 : (1 : Int32).toInt = 1 := (by decide +kernel); omega), by rw [ht]; exact hP.sub [0, 1, 2, 3, 4, 5, 6, 7, 8, 9, 10, 11, 12, 13, 14, 15, 16, 17, 18, 19, 20, 21] rfl, hD.sub [0, 1, 2, 3, 4, 5, 6, 7, 8, 9, 10, 11, 12, 13, 14, 15, 16, 17, 18, 19, 20, 21] (by decide +kernel) rfl⟩, hS.F ht⟩) hS.2.2 dX12_copy_114
                  · refine lv_if_ne (tgt := 100) hx hb dX12_copy_94 (by decide +kernel) (fun c9 => absurd c9 (by decide +kernel)) (fun _ => ?_)
                    refine lv_bipush (v := (-12)) hx hb dX12_copy_97 (by decide +kernel) ?_
                    exact W.iret hx hb hr (fun t ht hW => ⟨⟨_, ((fun k => [(si 0), (si 1), (si 2), (si 3)].getD k (si 0)), (fun k => [(sl 0), (sl 1), (sl 2), (sl 3)].getD k (sl 0)), (fun k => [(sf 0), (sf 1), (sf 2), (sf 3)].getD k (sf 0)), (fun k => [(sd 0), (sd 1), (sd 2), (sd 3)].getD k (sd 0))), rfl, (by (try dsimp only); have h9a1 : (so ((3 : Int32).toNatClampNeg)).toInt = (so 3).toInt := rfl; have h9b1 : (sn ((3 : Int32).toNatClampNeg)).toInt = (sn 3).toInt := rfl; have h9c1 : (3 : Int32).toInt = 3 := (by decide +kernel); have h9a3 : (so ((1 : Int32).toNatClampNeg)).toInt = (so 1).toInt := rfl; have h9b3 : (sn ((1 : Int32).toNatClampNeg)).toInt = (sn 1).toInt := rfl; have h9c3 : (1 : Int32).toInt = 1 := (by decide +kernel); have h9r : ((-12) : Int32).toInt = -12 := (by decide +kernel); omega), by rw [ht]; exact hP.sub [0, 1, 2, 3, 4, 5, 6, 7, 8, 9, 10, 11, 12, 13, 14, 15, 16, 17, 18, 19, 20, 21] rfl, hD.sub [0, 1, 2, 3, 4, 5, 6, 7, 8, 9, 10, 11, 12, 13, 14, 15, 16, 17, 18, 19, 20, 21] (by decide +kernel) rfl⟩, hS.F ht⟩) hS.2.2 dX12_copy_99
                · refine lv_if_eq (tgt := 97) hx hb dX12_copy_82 (by decide +kernel) (fun _ => ?_) (fun c9 => absurd c9 (by decide +kernel))
                  refine lv_bipush (v := (-12)) hx hb dX12_copy_97 (by decide +kernel) ?_
                  exact W.iret hx hb hr (fun t ht hW => ⟨⟨_, ((fun k => [(si 0), (si 1), (si 2), (si 3)].getD k (si 0)), (fun k => [(sl 0), (sl 1), (sl 2), (sl 3)].getD k (sl 0)), (fun k => [(sf 0), (sf 1), (sf 2), (sf 3)].getD k (sf 0)), (fun k => [(sd 0), (sd 1), (sd 2), (sd 3)].getD k (sd 0))), rfl, (by (try dsimp only); have h9a1 : (so ((3 : Int32).toNatClampNeg)).toInt = (so 3).toInt := rfl; have h9b1 : (sn ((3 : Int32).toNatClampNeg)).toInt = (sn 3).toInt := rfl; have h9c1 : (3 : Int32).toInt = 3 := (by decide +kernel); have h9a3 : (so ((1 : Int32).toNatClampNeg)).toInt = (so 1).toInt := rfl; have h9b3 : (sn ((1 : Int32).toNatClampNeg)).toInt = (sn 1).toInt := rfl; have h9c3 : (1 : Int32).toInt = 1 := (by decide +kernel); have h9r : ((-12) : Int32).toInt = -12 := (by decide +kernel); omega), by rw [ht]; exact hP.sub [0, 1, 2, 3, 4, 5, 6, 7, 8, 9, 10, 11, 12, 13, 14, 15, 16, 17, 18, 19, 20, 21] rfl, hD.sub [0, 1, 2, 3, 4, 5, 6, 7, 8, 9, 10, 11, 12, 13, 14, 15, 16, 17, 18, 19, 20, 21] (by decide +kernel) rfl⟩, hS.F ht⟩) hS.2.2 dX12_copy_99
              · rw [fa_eq] at c_173
                refine lv_bipush (v := (-13)) hx hb dX12_copy_71 (by decide +kernel) ?_
                exact W.iret hx hb hr (fun t ht hW => ⟨⟨_, ((fun k => [(si 0), (si 1), (si 2), (si 3)].getD k (si 0)), (fun k => [(sl 0), (sl 1), (sl 2), (sl 3)].getD k (sl 0)), (fun k => [(sf 0), (sf 1), (sf 2), (sf 3)].getD k (sf 0)), (fun k => [(sd 0), (sd 1), (sd 2), (sd 3)].getD k (sd 0))), rfl, (by (try dsimp only); have h9a1 : (so ((3 : Int32).toNatClampNeg)).toInt = (so 3).toInt := rfl; have h9b1 : (sn ((3 : Int32).toNatClampNeg)).toInt = (sn 3).toInt := rfl; have h9c1 : (3 : Int32).toInt = 3 := (by decide +kernel); have h9a3 : (so ((1 : Int32).toNatClampNeg)).toInt = (so 1).toInt := rfl; have h9b3 : (sn ((1 : Int32).toNatClampNeg)).toInt = (sn 1).toInt := rfl; have h9c3 : (1 : Int32).toInt = 1 := (by decide +kernel); have h9r : ((-13) : Int32).toInt = -13 := (by decide +kernel); omega), by rw [ht]; exact hP.sub [0, 1, 2, 3, 4, 5, 6, 7, 8, 9, 10, 11, 12, 13, 14, 15, 16, 17, 18, 19, 20, 21] rfl, hD.sub [0, 1, 2, 3, 4, 5, 6, 7, 8, 9, 10, 11, 12, 13, 14, 15, 16, 17, 18, 19, 20, 21] (by decide +kernel) rfl⟩, hS.F ht⟩) hS.2.2 dX12_copy_73
            · rw [fa_eq] at c_172
              try rw [ti_n1] at c_172
              refine lv_bipush (v := (-11)) hx hb dX12_copy_55 (by decide +kernel) ?_
              exact W.iret hx hb hr (fun t ht hW => ⟨⟨_, ((fun k => [(si 0), (si 1), (si 2), (si 3)].getD k (si 0)), (fun k => [(sl 0), (sl 1), (sl 2), (sl 3)].getD k (sl 0)), (fun k => [(sf 0), (sf 1), (sf 2), (sf 3)].getD k (sf 0)), (fun k => [(sd 0), (sd 1), (sd 2), (sd 3)].getD k (sd 0))), rfl, (by (try dsimp only); have h9a1 : (so ((3 : Int32).toNatClampNeg)).toInt = (so 3).toInt := rfl; have h9b1 : (sn ((3 : Int32).toNatClampNeg)).toInt = (sn 3).toInt := rfl; have h9c1 : (3 : Int32).toInt = 3 := (by decide +kernel); have h9a3 : (so ((1 : Int32).toNatClampNeg)).toInt = (so 1).toInt := rfl; have h9b3 : (sn ((1 : Int32).toNatClampNeg)).toInt = (sn 1).toInt := rfl; have h9c3 : (1 : Int32).toInt = 1 := (by decide +kernel); have h9r : ((-11) : Int32).toInt = -11 := (by decide +kernel); omega), by rw [ht]; exact hP.sub [0, 1, 2, 3, 4, 5, 6, 7, 8, 9, 10, 11, 12, 13, 14, 15, 16, 17, 18, 19, 20, 21] rfl, hD.sub [0, 1, 2, 3, 4, 5, 6, 7, 8, 9, 10, 11, 12, 13, 14, 15, 16, 17, 18, 19, 20, 21] (by decide +kernel) rfl⟩, hS.F ht⟩) hS.2.2 dX12_copy_57
        · refine va_aldq hx hb hE.1 hP 1 6 rfl rfl (by unfold vp_in; decide) dX12_copy_34 ?_
          refine W.eq (g2 := F0 m 35 ls [.ref t2]) rfl ?_
          refine lv_astore (lv' := [(7, .ref t2), (6, .ref t3), (0, .ref h0), (1, .int 3), (2, .int x2), (3, .int 2), (4, .int x4), (5, .int x5)]) hx hb dX12_copy_35 hl (by decide +kernel) rfl (fun ls hl => ?_)
          refine lv_aload hx hb dX12_copy_37 (lv_at hl 1 rfl) ?_
          refine va_get (D := D) (ci := 6) (v := .int (so 3)) (C := RX9) (T := TX9) (N := 6) hx hb hts in_X12_copy_X9 hown hE.1 hP 5 rfl rfl 0 (by decide +kernel) (hts (.fieldLink RX12 277 "ClauseBook$Sheet" "sort" "I") (List.mem_of_getElem? (i := 2) rfl)) (fun _ h9 => h9) rfl dX12_copy_39 ?_
          refine lv_iconst (v := (-1)) hx hb dX12_copy_42 (by decide +kernel) ?_
          refine lv_icmp_eq (tgt := 55) hx hb dX12_copy_43 (by decide +kernel) (fun c_184 => ?_) (fun c_184 => ?_)
          · rw [fa_eq] at c_184
            try rw [ti_n1] at c_184
            refine lv_bipush (v := (-11)) hx hb dX12_copy_55 (by decide +kernel) ?_
            exact W.iret hx hb hr (fun t ht hW => ⟨⟨_, ((fun k => [(si 0), (si 1), (si 2), (si 3)].getD k (si 0)), (fun k => [(sl 0), (sl 1), (sl 2), (sl 3)].getD k (sl 0)), (fun k => [(sf 0), (sf 1), (sf 2), (sf 3)].getD k (sf 0)), (fun k => [(sd 0), (sd 1), (sd 2), (sd 3)].getD k (sd 0))), rfl, (by (try dsimp only); have h9a1 : (so ((3 : Int32).toNatClampNeg)).toInt = (so 3).toInt := rfl; have h9b1 : (sn ((3 : Int32).toNatClampNeg)).toInt = (sn 3).toInt := rfl; have h9c1 : (3 : Int32).toInt = 3 := (by decide +kernel); have h9a3 : (so ((2 : Int32).toNatClampNeg)).toInt = (so 2).toInt := rfl; have h9b3 : (sn ((2 : Int32).toNatClampNeg)).toInt = (sn 2).toInt := rfl; have h9c3 : (2 : Int32).toInt = 2 := (by decide +kernel); have h9r : ((-11) : Int32).toInt = -11 := (by decide +kernel); omega), by rw [ht]; exact hP.sub [0, 1, 2, 3, 4, 5, 6, 7, 8, 9, 10, 11, 12, 13, 14, 15, 16, 17, 18, 19, 20, 21] rfl, hD.sub [0, 1, 2, 3, 4, 5, 6, 7, 8, 9, 10, 11, 12, 13, 14, 15, 16, 17, 18, 19, 20, 21] (by decide +kernel) rfl⟩, hS.F ht⟩) hS.2.2 dX12_copy_57
          · rw [fa_eq] at c_184
            try rw [ti_n1] at c_184
            refine lv_aload hx hb dX12_copy_46 (lv_at hl 0 rfl) ?_
            refine va_get (D := D) (ci := 6) (v := .int (so 2)) (C := RX9) (T := TX9) (N := 6) hx hb hts in_X12_copy_X9 hown hE.1 hP 4 rfl rfl 0 (by decide +kernel) (hts (.fieldLink RX12 277 "ClauseBook$Sheet" "sort" "I") (List.mem_of_getElem? (i := 2) rfl)) (fun _ h9 => h9) rfl dX12_copy_48 ?_
            refine lv_iconst (v := (-1)) hx hb dX12_copy_51 (by decide +kernel) ?_
            refine lv_icmp_ne (tgt := 58) hx hb dX12_copy_52 (by decide +kernel) (fun c_185 => ?_) (fun c_185 => ?_)
            · rw [fa_eq] at c_185
              try rw [ti_n1] at c_185
              refine lv_aload hx hb dX12_copy_58 (lv_at hl 1 rfl) ?_
              refine va_get (D := D) (ci := 6) (v := .int (so 3)) (C := RX9) (T := TX9) (N := 6) hx hb hts in_X12_copy_X9 hown hE.1 hP 5 rfl rfl 0 (by decide +kernel) (hts (.fieldLink RX12 277 "ClauseBook$Sheet" "sort" "I") (List.mem_of_getElem? (i := 2) rfl)) (fun _ h9 => h9) rfl dX12_copy_60 ?_
              refine lv_aload hx hb dX12_copy_63 (lv_at hl 0 rfl) ?_
              refine va_get (D := D) (ci := 6) (v := .int (so 2)) (C := RX9) (T := TX9) (N := 6) hx hb hts in_X12_copy_X9 hown hE.1 hP 4 rfl rfl 0 (by decide +kernel) (hts (.fieldLink RX12 277 "ClauseBook$Sheet" "sort" "I") (List.mem_of_getElem? (i := 2) rfl)) (fun _ h9 => h9) rfl dX12_copy_65 ?_
              refine lv_icmp_eq (tgt := 74) hx hb dX12_copy_68 (by decide +kernel) (fun c_186 => ?_) (fun c_186 => ?_)
              · rw [fa_eq] at c_186
                refine lv_aload hx hb dX12_copy_74 (lv_at hl 1 rfl) ?_
                refine lv_iload_n hx hb dX12_copy_76 rfl (lv_at hl 4 rfl) ?_
                refine lv_iload hx hb dX12_copy_77 (lv_at hl 7 rfl) ?_
                refine vp_callSi (W.runV (As := [.int x2, .int x5]) (rest := []) ⟨hx, hb, hml, hown, hts⟩ (c_X9_hasRun l D T t3 [.int (so 3), .int (sn 3), .ref a30, .ref a31, .ref a32, .ref a33] x2 x5 (sn 3) rfl (by omega)) (cwV 2 hts gX12_copy_X9_hasRun rfl rfl rfl hv_X9_hasRun ⟨Nat.le_of_ble_eq_true rfl, Nat.le_of_ble_eq_true rfl⟩) (pR_V (q := (RX9, TX9, 6)) (ci := 6) (q0 := 5) hP hE rfl rfl [5] rfl) rfl rfl hl.1 rfl (lv_room (Nat.le_of_ble_eq_true rfl)) dX12_copy_79 ⟨Nat.le_of_ble_eq_true rfl, Nat.le_of_ble_eq_true rfl⟩) (fun r_187 hr_187 => ?_)
                rcases bool_post hr_187 with ⟨c_188, rfl⟩ | ⟨c_188, rfl⟩
                · refine lv_if_eq (tgt := 97) hx hb dX12_copy_82 (by decide +kernel) (fun c9 => absurd c9 (by decide +kernel)) (fun _ => ?_)
                  refine lv_aload hx hb dX12_copy_85 (lv_at hl 0 rfl) ?_
                  refine lv_iload hx hb dX12_copy_87 (lv_at hl 6 rfl) ?_
                  refine lv_iload hx hb dX12_copy_89 (lv_at hl 7 rfl) ?_
                  refine vp_callSi (W.runV (As := [.int x4, .int x5]) (rest := []) ⟨hx, hb, hml, hown, hts⟩ (c_X9_hasRun l D T t2 [.int (so 2), .int (sn 2), .ref a20, .ref a21, .ref a22, .ref a23] x4 x5 (sn 2) rfl (by omega)) (cwV 2 hts gX12_copy_X9_hasRun rfl rfl rfl hv_X9_hasRun ⟨Nat.le_of_ble_eq_true rfl, Nat.le_of_ble_eq_true rfl⟩) (pR_V (q := (RX9, TX9, 6)) (ci := 6) (q0 := 4) hP hE rfl rfl [4] rfl) rfl rfl hl.1 rfl (lv_room (Nat.le_of_ble_eq_true rfl)) dX12_copy_91 ⟨Nat.le_of_ble_eq_true rfl, Nat.le_of_ble_eq_true rfl⟩) (fun r_189 hr_189 => ?_)
                  rcases bool_post hr_189 with ⟨c_190, rfl⟩ | ⟨c_190, rfl⟩
                  · refine lv_if_ne (tgt := 100) hx hb dX12_copy_94 (by decide +kernel) (fun _ => ?_) (fun c9 => absurd c9 (by decide +kernel))
                    refine lv_aload hx hb dX12_copy_100 (lv_at hl 0 rfl) ?_
                    refine lv_aload hx hb dX12_copy_102 (lv_at hl 1 rfl) ?_
                    refine lv_iload_n hx hb dX12_copy_104 rfl (lv_at hl 4 rfl) ?_
                    refine lv_iload hx hb dX12_copy_105 (lv_at hl 6 rfl) ?_
                    refine lv_iload hx hb dX12_copy_107 (lv_at hl 7 rfl) ?_
                    have hFc := va_free (wc := [(t2, .inr (6, [.int (so 2), .int (sn 2), .ref a20, .ref a21, .ref a22, .ref a23])), (a20, .inl (T 0, 30, .inl (si 2))), (a21, .inl (T 1, 30, .inr (.inl (sl 2)))), (a22, .inl (T 2, 30, .inr (.inr (.inl (sf 2))))), (a23, .inl (T 3, 30, .inr (.inr (.inr (.inl (sd 2)))))), (t3, .inr (6, [.int (so 3), .int (sn 3), .ref a30, .ref a31, .ref a32, .ref a33])), (a30, .inl (T 0, 30, .inl (si 3))), (a31, .inl (T 1, 30, .inr (.inl (sl 3)))), (a32, .inl (T 2, 30, .inr (.inr (.inl (sf 3))))), (a33, .inl (T 3, 30, .inr (.inr (.inr (.inl (sd 3))))))]) hD hS hA [4, 14, 15, 16, 17, 5, 18, 19, 20, 21] rfl
                    refine va_callv (va_runV (As := [.ref t3, .int x2, .int x4, .int x5]) (rest := []) ⟨hx, hb, hml, hown, hts⟩ (c_X9_moveFrom l D T _ t2 (so 2) (sn 2) a20 a21 a22 a23 (si 2) (sl 2) (sf 2) (sd 2) t3 (so 3) (sn 3) a30 a31 a32 a33 (si 3) (sl 3) (sf 3) (sd 3) x2 x4 x5 (by omega) (by omega)) (cwV 4 hts gX12_copy_X9_moveFrom rfl rfl rfl hv_X9_moveFrom ⟨Nat.le_of_ble_eq_true rfl, Nat.le_of_ble_eq_true rfl⟩) (pW_V (q := (RX9, TX9, 6)) (ci := 6) (q0 := 4) hP hE hD rfl rfl [4, 14, 15, 16, 17, 5, 18, 19, 20, 21] (by decide +kernel) rfl rfl) rfl rfl hl.1 rfl (lv_room (Nat.le_of_ble_eq_true rfl)) dX12_copy_109 ⟨Nat.le_of_ble_eq_true rfl, Nat.le_of_ble_eq_true rfl⟩) hS (fun q _ h => hFc q h) hFc (fun u_192 t H1 locs ht hvm hr_191 hB hz1 hk1 hS => ?_)
                    obtain ⟨f_193, f_194, f_195, f_196⟩ := u_192
                    obtain ⟨hP1, hD1⟩ := hB
                    rw [ht] at hP1
                    obtain ⟨hP, hD⟩ := va_repl [(h0, .inr (9, fs0)), (h1, .inl (T 6, 4, .inr (.inr (.inr (.inr (va_up (va_up (va_up (va_up (fun _ => none) 0 (some t0)) 1 (some t1)) 2 (some t2)) 3 (some t3))))))), (t0, .inr (6, [.int (so 0), .int (sn 0), .ref a00, .ref a01, .ref a02, .ref a03])), (t1, .inr (6, [.int (so 1), .int (sn 1), .ref a10, .ref a11, .ref a12, .ref a13])), (t2, .inr (6, [.int (so 2), .int (sn 2), .ref a20, .ref a21, .ref a22, .ref a23])), (t3, .inr (6, [.int (so 3), .int (sn 3), .ref a30, .ref a31, .ref a32, .ref a33])), (a00, .inl (T 0, 30, .inl (si 0))), (a01, .inl (T 1, 30, .inr (.inl (sl 0)))), (a02, .inl (T 2, 30, .inr (.inr (.inl (sf 0))))), (a03, .inl (T 3, 30, .inr (.inr (.inr (.inl (sd 0)))))), (a10, .inl (T 0, 30, .inl (si 1))), (a11, .inl (T 1, 30, .inr (.inl (sl 1)))), (a12, .inl (T 2, 30, .inr (.inr (.inl (sf 1))))), (a13, .inl (T 3, 30, .inr (.inr (.inr (.inl (sd 1)))))), (a20, .inl (T 0, 30, .inl f_193)), (a21, .inl (T 1, 30, .inr (.inl f_194))), (a22, .inl (T 2, 30, .inr (.inr (.inl f_195)))), (a23, .inl (T 3, 30, .inr (.inr (.inr (.inl f_196))))), (a30, .inl (T 0, 30, .inl (si 3))), (a31, .inl (T 1, 30, .inr (.inl (sl 3)))), (a32, .inl (T 2, 30, .inr (.inr (.inl (sf 3))))), (a33, .inl (T 3, 30, .inr (.inr (.inr (.inl (sd 3))))))] hP hD [4, 14, 15, 16, 17, 5, 18, 19, 20, 21] [4, 5, 14, 15, 16, 17, 18, 19, 20, 21] rfl (by decide +kernel) rfl rfl rfl hk1 (hP1.sub [0, 5, 1, 2, 3, 4, 6, 7, 8, 9] rfl)
                    clear hP1 hD1 hFc
                    generalize H1 = H at hP hS ⊢
                    refine lv_iload hx hb dX12_copy_112 (lv_at hl 7 rfl) ?_
                    exact W.iret hx hb hr (fun t ht hW => ⟨⟨_, ((fun k => [(si 0), (si 1), f_193, (si 3)].getD k (si 0)), (fun k => [(sl 0), (sl 1), f_194, (sl 3)].getD k (sl 0)), (fun k => [(sf 0), (sf 1), f_195, (sf 3)].getD k (sf 0)), (fun k => [(sd 0), (sd 1), f_196, (sd 3)].getD k (sd 0))), rfl, (by (try dsimp only); have h9a1 : (so ((3 : Int32).toNatClampNeg)).toInt = (so 3).toInt := rfl; have h9b1 : (sn ((3 : Int32).toNatClampNeg)).toInt = (sn 3).toInt := rfl; have h9c1 : (3 : Int32).toInt = 3 := (by decide +kernel); have h9a3 : (so ((2 : Int32).toNatClampNeg)).toInt = (so 2).toInt := rfl; have h9b3 : (sn ((2 : Int32).toNatClampNeg)).toInt = (sn 2).toInt := rfl; have h9c3 : (2 : Int32).toInt = 2 := (by decide +kernel); omega), by rw [ht]; exact hP.sub [0, 1, 2, 3, 4, 5, 6, 7, 8, 9, 10, 11, 12, 13, 14, 15, 16, 17, 18, 19, 20, 21] rfl, hD.sub [0, 1, 2, 3, 4, 5, 6, 7, 8, 9, 10, 11, 12, 13, 14, 15, 16, 17, 18, 19, 20, 21] (by decide +kernel) rfl⟩, hS.F ht⟩) hS.2.2 dX12_copy_114
                  · refine lv_if_ne (tgt := 100) hx hb dX12_copy_94 (by decide +kernel) (fun c9 => absurd c9 (by decide +kernel)) (fun _ => ?_)
                    refine lv_bipush (v := (-12)) hx hb dX12_copy_97 (by decide +kernel) ?_
                    exact W.iret hx hb hr (fun t ht hW => ⟨⟨_, ((fun k => [(si 0), (si 1), (si 2), (si 3)].getD k (si 0)), (fun k => [(sl 0), (sl 1), (sl 2), (sl 3)].getD k (sl 0)), (fun k => [(sf 0), (sf 1), (sf 2), (sf 3)].getD k (sf 0)), (fun k => [(sd 0), (sd 1), (sd 2), (sd 3)].getD k (sd 0))), rfl, (by (try dsimp only); have h9a1 : (so ((3 : Int32).toNatClampNeg)).toInt = (so 3).toInt := rfl; have h9b1 : (sn ((3 : Int32).toNatClampNeg)).toInt = (sn 3).toInt := rfl; have h9c1 : (3 : Int32).toInt = 3 := (by decide +kernel); have h9a3 : (so ((2 : Int32).toNatClampNeg)).toInt = (so 2).toInt := rfl; have h9b3 : (sn ((2 : Int32).toNatClampNeg)).toInt = (sn 2).toInt := rfl; have h9c3 : (2 : Int32).toInt = 2 := (by decide +kernel); have h9r : ((-12) : Int32).toInt = -12 := (by decide +kernel); omega), by rw [ht]; exact hP.sub [0, 1, 2, 3, 4, 5, 6, 7, 8, 9, 10, 11, 12, 13, 14, 15, 16, 17, 18, 19, 20, 21] rfl, hD.sub [0, 1, 2, 3, 4, 5, 6, 7, 8, 9, 10, 11, 12, 13, 14, 15, 16, 17, 18, 19, 20, 21] (by decide +kernel) rfl⟩, hS.F ht⟩) hS.2.2 dX12_copy_99
                · refine lv_if_eq (tgt := 97) hx hb dX12_copy_82 (by decide +kernel) (fun _ => ?_) (fun c9 => absurd c9 (by decide +kernel))
                  refine lv_bipush (v := (-12)) hx hb dX12_copy_97 (by decide +kernel) ?_
                  exact W.iret hx hb hr (fun t ht hW => ⟨⟨_, ((fun k => [(si 0), (si 1), (si 2), (si 3)].getD k (si 0)), (fun k => [(sl 0), (sl 1), (sl 2), (sl 3)].getD k (sl 0)), (fun k => [(sf 0), (sf 1), (sf 2), (sf 3)].getD k (sf 0)), (fun k => [(sd 0), (sd 1), (sd 2), (sd 3)].getD k (sd 0))), rfl, (by (try dsimp only); have h9a1 : (so ((3 : Int32).toNatClampNeg)).toInt = (so 3).toInt := rfl; have h9b1 : (sn ((3 : Int32).toNatClampNeg)).toInt = (sn 3).toInt := rfl; have h9c1 : (3 : Int32).toInt = 3 := (by decide +kernel); have h9a3 : (so ((2 : Int32).toNatClampNeg)).toInt = (so 2).toInt := rfl; have h9b3 : (sn ((2 : Int32).toNatClampNeg)).toInt = (sn 2).toInt := rfl; have h9c3 : (2 : Int32).toInt = 2 := (by decide +kernel); have h9r : ((-12) : Int32).toInt = -12 := (by decide +kernel); omega), by rw [ht]; exact hP.sub [0, 1, 2, 3, 4, 5, 6, 7, 8, 9, 10, 11, 12, 13, 14, 15, 16, 17, 18, 19, 20, 21] rfl, hD.sub [0, 1, 2, 3, 4, 5, 6, 7, 8, 9, 10, 11, 12, 13, 14, 15, 16, 17, 18, 19, 20, 21] (by decide +kernel) rfl⟩, hS.F ht⟩) hS.2.2 dX12_copy_99
              · rw [fa_eq] at c_186
                refine lv_bipush (v := (-13)) hx hb dX12_copy_71 (by decide +kernel) ?_
                exact W.iret hx hb hr (fun t ht hW => ⟨⟨_, ((fun k => [(si 0), (si 1), (si 2), (si 3)].getD k (si 0)), (fun k => [(sl 0), (sl 1), (sl 2), (sl 3)].getD k (sl 0)), (fun k => [(sf 0), (sf 1), (sf 2), (sf 3)].getD k (sf 0)), (fun k => [(sd 0), (sd 1), (sd 2), (sd 3)].getD k (sd 0))), rfl, (by (try dsimp only); have h9a1 : (so ((3 : Int32).toNatClampNeg)).toInt = (so 3).toInt := rfl; have h9b1 : (sn ((3 : Int32).toNatClampNeg)).toInt = (sn 3).toInt := rfl; have h9c1 : (3 : Int32).toInt = 3 := (by decide +kernel); have h9a3 : (so ((2 : Int32).toNatClampNeg)).toInt = (so 2).toInt := rfl; have h9b3 : (sn ((2 : Int32).toNatClampNeg)).toInt = (sn 2).toInt := rfl; have h9c3 : (2 : Int32).toInt = 2 := (by decide +kernel); have h9r : ((-13) : Int32).toInt = -13 := (by decide +kernel); omega), by rw [ht]; exact hP.sub [0, 1, 2, 3, 4, 5, 6, 7, 8, 9, 10, 11, 12, 13, 14, 15, 16, 17, 18, 19, 20, 21] rfl, hD.sub [0, 1, 2, 3, 4, 5, 6, 7, 8, 9, 10, 11, 12, 13, 14, 15, 16, 17, 18, 19, 20, 21] (by decide +kernel) rfl⟩, hS.F ht⟩) hS.2.2 dX12_copy_73
            · rw [fa_eq] at c_185
              try rw [ti_n1] at c_185
              refine lv_bipush (v := (-11)) hx hb dX12_copy_55 (by decide +kernel) ?_
              exact W.iret hx hb hr (fun t ht hW => ⟨⟨_, ((fun k => [(si 0), (si 1), (si 2), (si 3)].getD k (si 0)), (fun k => [(sl 0), (sl 1), (sl 2), (sl 3)].getD k (sl 0)), (fun k => [(sf 0), (sf 1), (sf 2), (sf 3)].getD k (sf 0)), (fun k => [(sd 0), (sd 1), (sd 2), (sd 3)].getD k (sd 0))), rfl, (by (try dsimp only); have h9a1 : (so ((3 : Int32).toNatClampNeg)).toInt = (so 3).toInt := rfl; have h9b1 : (sn ((3 : Int32).toNatClampNeg)).toInt = (sn 3).toInt := rfl; have h9c1 : (3 : Int32).toInt = 3 := (by decide +kernel); have h9a3 : (so ((2 : Int32).toNatClampNeg)).toInt = (so 2).toInt := rfl; have h9b3 : (sn ((2 : Int32).toNatClampNeg)).toInt = (sn 2).toInt := rfl; have h9c3 : (2 : Int32).toInt = 2 := (by decide +kernel); have h9r : ((-11) : Int32).toInt = -11 := (by decide +kernel); omega), by rw [ht]; exact hP.sub [0, 1, 2, 3, 4, 5, 6, 7, 8, 9, 10, 11, 12, 13, 14, 15, 16, 17, 18, 19, 20, 21] rfl, hD.sub [0, 1, 2, 3, 4, 5, 6, 7, 8, 9, 10, 11, 12, 13, 14, 15, 16, 17, 18, 19, 20, 21] (by decide +kernel) rfl⟩, hS.F ht⟩) hS.2.2 dX12_copy_57
        · refine va_aldq hx hb hE.1 hP 1 6 rfl rfl (by unfold vp_in; decide) dX12_copy_34 ?_
          refine W.eq (g2 := F0 m 35 ls [.ref t3]) rfl ?_
          refine lv_astore (lv' := [(7, .ref t3), (6, .ref t3), (0, .ref h0), (1, .int 3), (2, .int x2), (3, .int 3), (4, .int x4), (5, .int x5)]) hx hb dX12_copy_35 hl (by decide +kernel) rfl (fun ls hl => ?_)
          refine lv_aload hx hb dX12_copy_37 (lv_at hl 1 rfl) ?_
          refine va_get (D := D) (ci := 6) (v := .int (so 3)) (C := RX9) (T := TX9) (N := 6) hx hb hts in_X12_copy_X9 hown hE.1 hP 5 rfl rfl 0 (by decide +kernel) (hts (.fieldLink RX12 277 "ClauseBook$Sheet" "sort" "I") (List.mem_of_getElem? (i := 2) rfl)) (fun _ h9 => h9) rfl dX12_copy_39 ?_
          refine lv_iconst (v := (-1)) hx hb dX12_copy_42 (by decide +kernel) ?_
          refine lv_icmp_eq (tgt := 55) hx hb dX12_copy_43 (by decide +kernel) (fun c_197 => ?_) (fun c_197 => ?_)
          · rw [fa_eq] at c_197
            try rw [ti_n1] at c_197
            refine lv_bipush (v := (-11)) hx hb dX12_copy_55 (by decide +kernel) ?_
            exact W.iret hx hb hr (fun t ht hW => ⟨⟨_, ((fun k => [(si 0), (si 1), (si 2), (si 3)].getD k (si 0)), (fun k => [(sl 0), (sl 1), (sl 2), (sl 3)].getD k (sl 0)), (fun k => [(sf 0), (sf 1), (sf 2), (sf 3)].getD k (sf 0)), (fun k => [(sd 0), (sd 1), (sd 2), (sd 3)].getD k (sd 0))), rfl, (by (try dsimp only); have h9a1 : (so ((3 : Int32).toNatClampNeg)).toInt = (so 3).toInt := rfl; have h9b1 : (sn ((3 : Int32).toNatClampNeg)).toInt = (sn 3).toInt := rfl; have h9c1 : (3 : Int32).toInt = 3 := (by decide +kernel); have h9a3 : (so ((3 : Int32).toNatClampNeg)).toInt = (so 3).toInt := rfl; have h9b3 : (sn ((3 : Int32).toNatClampNeg)).toInt = (sn 3).toInt := rfl; have h9c3 : (3 : Int32).toInt = 3 := (by decide +kernel); have h9r : ((-11) : Int32).toInt = -11 := (by decide +kernel); omega), by rw [ht]; exact hP.sub [0, 1, 2, 3, 4, 5, 6, 7, 8, 9, 10, 11, 12, 13, 14, 15, 16, 17, 18, 19, 20, 21] rfl, hD.sub [0, 1, 2, 3, 4, 5, 6, 7, 8, 9, 10, 11, 12, 13, 14, 15, 16, 17, 18, 19, 20, 21] (by decide +kernel) rfl⟩, hS.F ht⟩) hS.2.2 dX12_copy_57
          · rw [fa_eq] at c_197
            try rw [ti_n1] at c_197
            refine lv_aload hx hb dX12_copy_46 (lv_at hl 0 rfl) ?_
            refine va_get (D := D) (ci := 6) (v := .int (so 3)) (C := RX9) (T := TX9) (N := 6) hx hb hts in_X12_copy_X9 hown hE.1 hP 5 rfl rfl 0 (by decide +kernel) (hts (.fieldLink RX12 277 "ClauseBook$Sheet" "sort" "I") (List.mem_of_getElem? (i := 2) rfl)) (fun _ h9 => h9) rfl dX12_copy_48 ?_
            refine lv_iconst (v := (-1)) hx hb dX12_copy_51 (by decide +kernel) ?_
            refine lv_icmp_ne (tgt := 58) hx hb dX12_copy_52 (by decide +kernel) (fun c_198 => ?_) (fun c_198 => ?_)
            · rw [fa_eq] at c_198
              try rw [ti_n1] at c_198
              refine lv_aload hx hb dX12_copy_58 (lv_at hl 1 rfl) ?_
              refine va_get (D := D) (ci := 6) (v := .int (so 3)) (C := RX9) (T := TX9) (N := 6) hx hb hts in_X12_copy_X9 hown hE.1 hP 5 rfl rfl 0 (by decide +kernel) (hts (.fieldLink RX12 277 "ClauseBook$Sheet" "sort" "I") (List.mem_of_getElem? (i := 2) rfl)) (fun _ h9 => h9) rfl dX12_copy_60 ?_
              refine lv_aload hx hb dX12_copy_63 (lv_at hl 0 rfl) ?_
              refine va_get (D := D) (ci := 6) (v := .int (so 3)) (C := RX9) (T := TX9) (N := 6) hx hb hts in_X12_copy_X9 hown hE.1 hP 5 rfl rfl 0 (by decide +kernel) (hts (.fieldLink RX12 277 "ClauseBook$Sheet" "sort" "I") (List.mem_of_getElem? (i := 2) rfl)) (fun _ h9 => h9) rfl dX12_copy_65 ?_
              refine lv_icmp_eq (tgt := 74) hx hb dX12_copy_68 (by decide +kernel) (fun _ => ?_) (fun c9 => absurd rfl c9)
              refine lv_aload hx hb dX12_copy_74 (lv_at hl 1 rfl) ?_
              refine lv_iload_n hx hb dX12_copy_76 rfl (lv_at hl 4 rfl) ?_
              refine lv_iload hx hb dX12_copy_77 (lv_at hl 7 rfl) ?_
              refine vp_callSi (W.runV (As := [.int x2, .int x5]) (rest := []) ⟨hx, hb, hml, hown, hts⟩ (c_X9_hasRun l D T t3 [.int (so 3), .int (sn 3), .ref a30, .ref a31, .ref a32, .ref a33] x2 x5 (sn 3) rfl (by omega)) (cwV 2 hts gX12_copy_X9_hasRun rfl rfl rfl hv_X9_hasRun ⟨Nat.le_of_ble_eq_true rfl, Nat.le_of_ble_eq_true rfl⟩) (pR_V (q := (RX9, TX9, 6)) (ci := 6) (q0 := 5) hP hE rfl rfl [5] rfl) rfl rfl hl.1 rfl (lv_room (Nat.le_of_ble_eq_true rfl)) dX12_copy_79 ⟨Nat.le_of_ble_eq_true rfl, Nat.le_of_ble_eq_true rfl⟩) (fun r_199 hr_199 => ?_)
              rcases bool_post hr_199 with ⟨c_200, rfl⟩ | ⟨c_200, rfl⟩
              · refine lv_if_eq (tgt := 97) hx hb dX12_copy_82 (by decide +kernel) (fun c9 => absurd c9 (by decide +kernel)) (fun _ => ?_)
                refine lv_aload hx hb dX12_copy_85 (lv_at hl 0 rfl) ?_
                refine lv_iload hx hb dX12_copy_87 (lv_at hl 6 rfl) ?_
                refine lv_iload hx hb dX12_copy_89 (lv_at hl 7 rfl) ?_
                refine vp_callSi (W.runV (As := [.int x4, .int x5]) (rest := []) ⟨hx, hb, hml, hown, hts⟩ (c_X9_hasRun l D T t3 [.int (so 3), .int (sn 3), .ref a30, .ref a31, .ref a32, .ref a33] x4 x5 (sn 3) rfl (by omega)) (cwV 2 hts gX12_copy_X9_hasRun rfl rfl rfl hv_X9_hasRun ⟨Nat.le_of_ble_eq_true rfl, Nat.le_of_ble_eq_true rfl⟩) (pR_V (q := (RX9, TX9, 6)) (ci := 6) (q0 := 5) hP hE rfl rfl [5] rfl) rfl rfl hl.1 rfl (lv_room (Nat.le_of_ble_eq_true rfl)) dX12_copy_91 ⟨Nat.le_of_ble_eq_true rfl, Nat.le_of_ble_eq_true rfl⟩) (fun r_201 hr_201 => ?_)
                rcases bool_post hr_201 with ⟨c_202, rfl⟩ | ⟨c_202, rfl⟩
                · refine lv_if_ne (tgt := 100) hx hb dX12_copy_94 (by decide +kernel) (fun _ => ?_) (fun c9 => absurd c9 (by decide +kernel))
                  refine lv_aload hx hb dX12_copy_100 (lv_at hl 0 rfl) ?_
                  refine lv_aload hx hb dX12_copy_102 (lv_at hl 1 rfl) ?_
                  refine lv_iload_n hx hb dX12_copy_104 rfl (lv_at hl 4 rfl) ?_
                  refine lv_iload hx hb dX12_copy_105 (lv_at hl 6 rfl) ?_
                  refine lv_iload hx hb dX12_copy_107 (lv_at hl 7 rfl) ?_
                  have hFc := va_free (wc := [(t3, .inr (6, [.int (so 3), .int (sn 3), .ref a30, .ref a31, .ref a32, .ref a33])), (a30, .inl (T 0, 30, .inl (si 3))), (a31, .inl (T 1, 30, .inr (.inl (sl 3)))), (a32, .inl (T 2, 30, .inr (.inr (.inl (sf 3))))), (a33, .inl (T 3, 30, .inr (.inr (.inr (.inl (sd 3))))))]) hD hS hA [5, 18, 19, 20, 21] rfl
                  refine va_callv (va_runV (As := [.ref t3, .int x2, .int x4, .int x5]) (rest := []) ⟨hx, hb, hml, hown, hts⟩ (c_X9_moveFrom_same l D T _ t3 (so 3) (sn 3) a30 a31 a32 a33 (si 3) (sl 3) (sf 3) (sd 3) x2 x4 x5 (by omega) (by omega)) (cwV 4 hts gX12_copy_X9_moveFrom rfl rfl rfl hv_X9_moveFrom ⟨Nat.le_of_ble_eq_true rfl, Nat.le_of_ble_eq_true rfl⟩) (pW_V (q := (RX9, TX9, 6)) (ci := 6) (q0 := 5) hP hE hD rfl rfl [5, 18, 19, 20, 21] (by decide +kernel) rfl rfl) rfl rfl hl.1 rfl (lv_room (Nat.le_of_ble_eq_true rfl)) dX12_copy_109 ⟨Nat.le_of_ble_eq_true rfl, Nat.le_of_ble_eq_true rfl⟩) hS (fun q _ h => hFc q h) hFc (fun u_204 t H1 locs ht hvm hr_203 hB hz1 hk1 hS => ?_)
                  obtain ⟨f_205, f_206, f_207, f_208⟩ := u_204
                  obtain ⟨hP1, hD1⟩ := hB
                  rw [ht] at hP1
                  obtain ⟨hP, hD⟩ := va_repl [(h0, .inr (9, fs0)), (h1, .inl (T 6, 4, .inr (.inr (.inr (.inr (va_up (va_up (va_up (va_up (fun _ => none) 0 (some t0)) 1 (some t1)) 2 (some t2)) 3 (some t3))))))), (t0, .inr (6, [.int (so 0), .int (sn 0), .ref a00, .ref a01, .ref a02, .ref a03])), (t1, .inr (6, [.int (so 1), .int (sn 1), .ref a10, .ref a11, .ref a12, .ref a13])), (t2, .inr (6, [.int (so 2), .int (sn 2), .ref a20, .ref a21, .ref a22, .ref a23])), (t3, .inr (6, [.int (so 3), .int (sn 3), .ref a30, .ref a31, .ref a32, .ref a33])), (a00, .inl (T 0, 30, .inl (si 0))), (a01, .inl (T 1, 30, .inr (.inl (sl 0)))), (a02, .inl (T 2, 30, .inr (.inr (.inl (sf 0))))), (a03, .inl (T 3, 30, .inr (.inr (.inr (.inl (sd 0)))))), (a10, .inl (T 0, 30, .inl (si 1))), (a11, .inl (T 1, 30, .inr (.inl (sl 1)))), (a12, .inl (T 2, 30, .inr (.inr (.inl (sf 1))))), (a13, .inl (T 3, 30, .inr (.inr (.inr (.inl (sd 1)))))), (a20, .inl (T 0, 30, .inl (si 2))), (a21, .inl (T 1, 30, .inr (.inl (sl 2)))), (a22, .inl (T 2, 30, .inr (.inr (.inl (sf 2))))), (a23, .inl (T 3, 30, .inr (.inr (.inr (.inl (sd 2)))))), (a30, .inl (T 0, 30, .inl f_205)), (a31, .inl (T 1, 30, .inr (.inl f_206))), (a32, .inl (T 2, 30, .inr (.inr (.inl f_207)))), (a33, .inl (T 3, 30, .inr (.inr (.inr (.inl f_208)))))] hP hD [5, 18, 19, 20, 21] [5, 18, 19, 20, 21] rfl (by decide +kernel) rfl rfl rfl hk1 hP1
                  clear hP1 hD1 hFc
                  generalize H1 = H at hP hS ⊢
                  refine lv_iload hx hb dX12_copy_112 (lv_at hl 7 rfl) ?_
                  exact W.iret hx hb hr (fun t ht hW => ⟨⟨_, ((fun k => [(si 0), (si 1), (si 2), f_205].getD k (si 0)), (fun k => [(sl 0), (sl 1), (sl 2), f_206].getD k (sl 0)), (fun k => [(sf 0), (sf 1), (sf 2), f_207].getD k (sf 0)), (fun k => [(sd 0), (sd 1), (sd 2), f_208].getD k (sd 0))), rfl, (by (try dsimp only); have h9a1 : (so ((3 : Int32).toNatClampNeg)).toInt = (so 3).toInt := rfl; have h9b1 : (sn ((3 : Int32).toNatClampNeg)).toInt = (sn 3).toInt := rfl; have h9c1 : (3 : Int32).toInt = 3 := (by decide +kernel); have h9a3 : (so ((3 : Int32).toNatClampNeg)).toInt = (so 3).toInt := rfl; have h9b3 : (sn ((3 : Int32).toNatClampNeg)).toInt = (sn 3).toInt := rfl; have h9c3 : (3 : Int32).toInt = 3 := (by decide +kernel); omega), by rw [ht]; exact hP.sub [0, 1, 2, 3, 4, 5, 6, 7, 8, 9, 10, 11, 12, 13, 14, 15, 16, 17, 18, 19, 20, 21] rfl, hD.sub [0, 1, 2, 3, 4, 5, 6, 7, 8, 9, 10, 11, 12, 13, 14, 15, 16, 17, 18, 19, 20, 21] (by decide +kernel) rfl⟩, hS.F ht⟩) hS.2.2 dX12_copy_114
                · refine lv_if_ne (tgt := 100) hx hb dX12_copy_94 (by decide +kernel) (fun c9 => absurd c9 (by decide +kernel)) (fun _ => ?_)
                  refine lv_bipush (v := (-12)) hx hb dX12_copy_97 (by decide +kernel) ?_
                  exact W.iret hx hb hr (fun t ht hW => ⟨⟨_, ((fun k => [(si 0), (si 1), (si 2), (si 3)].getD k (si 0)), (fun k => [(sl 0), (sl 1), (sl 2), (sl 3)].getD k (sl 0)), (fun k => [(sf 0), (sf 1), (sf 2), (sf 3)].getD k (sf 0)), (fun k => [(sd 0), (sd 1), (sd 2), (sd 3)].getD k (sd 0))), rfl, (by (try dsimp only); have h9a1 : (so ((3 : Int32).toNatClampNeg)).toInt = (so 3).toInt := rfl; have h9b1 : (sn ((3 : Int32).toNatClampNeg)).toInt = (sn 3).toInt := rfl; have h9c1 : (3 : Int32).toInt = 3 := (by decide +kernel); have h9a3 : (so ((3 : Int32).toNatClampNeg)).toInt = (so 3).toInt := rfl; have h9b3 : (sn ((3 : Int32).toNatClampNeg)).toInt = (sn 3).toInt := rfl; have h9c3 : (3 : Int32).toInt = 3 := (by decide +kernel); have h9r : ((-12) : Int32).toInt = -12 := (by decide +kernel); omega), by rw [ht]; exact hP.sub [0, 1, 2, 3, 4, 5, 6, 7, 8, 9, 10, 11, 12, 13, 14, 15, 16, 17, 18, 19, 20, 21] rfl, hD.sub [0, 1, 2, 3, 4, 5, 6, 7, 8, 9, 10, 11, 12, 13, 14, 15, 16, 17, 18, 19, 20, 21] (by decide +kernel) rfl⟩, hS.F ht⟩) hS.2.2 dX12_copy_99
              · refine lv_if_eq (tgt := 97) hx hb dX12_copy_82 (by decide +kernel) (fun _ => ?_) (fun c9 => absurd c9 (by decide +kernel))
                refine lv_bipush (v := (-12)) hx hb dX12_copy_97 (by decide +kernel) ?_
                exact W.iret hx hb hr (fun t ht hW => ⟨⟨_, ((fun k => [(si 0), (si 1), (si 2), (si 3)].getD k (si 0)), (fun k => [(sl 0), (sl 1), (sl 2), (sl 3)].getD k (sl 0)), (fun k => [(sf 0), (sf 1), (sf 2), (sf 3)].getD k (sf 0)), (fun k => [(sd 0), (sd 1), (sd 2), (sd 3)].getD k (sd 0))), rfl, (by (try dsimp only); have h9a1 : (so ((3 : Int32).toNatClampNeg)).toInt = (so 3).toInt := rfl; have h9b1 : (sn ((3 : Int32).toNatClampNeg)).toInt = (sn 3).toInt := rfl; have h9c1 : (3 : Int32).toInt = 3 := (by decide +kernel); have h9a3 : (so ((3 : Int32).toNatClampNeg)).toInt = (so 3).toInt := rfl; have h9b3 : (sn ((3 : Int32).toNatClampNeg)).toInt = (sn 3).toInt := rfl; have h9c3 : (3 : Int32).toInt = 3 := (by decide +kernel); have h9r : ((-12) : Int32).toInt = -12 := (by decide +kernel); omega), by rw [ht]; exact hP.sub [0, 1, 2, 3, 4, 5, 6, 7, 8, 9, 10, 11, 12, 13, 14, 15, 16, 17, 18, 19, 20, 21] rfl, hD.sub [0, 1, 2, 3, 4, 5, 6, 7, 8, 9, 10, 11, 12, 13, 14, 15, 16, 17, 18, 19, 20, 21] (by decide +kernel) rfl⟩, hS.F ht⟩) hS.2.2 dX12_copy_99
            · rw [fa_eq] at c_198
              try rw [ti_n1] at c_198
              refine lv_bipush (v := (-11)) hx hb dX12_copy_55 (by decide +kernel) ?_
              exact W.iret hx hb hr (fun t ht hW => ⟨⟨_, ((fun k => [(si 0), (si 1), (si 2), (si 3)].getD k (si 0)), (fun k => [(sl 0), (sl 1), (sl 2), (sl 3)].getD k (sl 0)), (fun k => [(sf 0), (sf 1), (sf 2), (sf 3)].getD k (sf 0)), (fun k => [(sd 0), (sd 1), (sd 2), (sd 3)].getD k (sd 0))), rfl, (by (try dsimp only); have h9a1 : (so ((3 : Int32).toNatClampNeg)).toInt = (so 3).toInt := rfl; have h9b1 : (sn ((3 : Int32).toNatClampNeg)).toInt = (sn 3).toInt := rfl; have h9c1 : (3 : Int32).toInt = 3 := (by decide +kernel); have h9a3 : (so ((3 : Int32).toNatClampNeg)).toInt = (so 3).toInt := rfl; have h9b3 : (sn ((3 : Int32).toNatClampNeg)).toInt = (sn 3).toInt := rfl; have h9c3 : (3 : Int32).toInt = 3 := (by decide +kernel); have h9r : ((-11) : Int32).toInt = -11 := (by decide +kernel); omega), by rw [ht]; exact hP.sub [0, 1, 2, 3, 4, 5, 6, 7, 8, 9, 10, 11, 12, 13, 14, 15, 16, 17, 18, 19, 20, 21] rfl, hD.sub [0, 1, 2, 3, 4, 5, 6, 7, 8, 9, 10, 11, 12, 13, 14, 15, 16, 17, 18, 19, 20, 21] (by decide +kernel) rfl⟩, hS.F ht⟩) hS.2.2 dX12_copy_57
    · refine lv_if_ne (tgt := 21) hx hb dX12_copy_15 (by decide +kernel) (fun c9 => absurd c9 (by decide +kernel)) (fun _ => ?_)
      refine lv_bipush (v := (-2)) hx hb dX12_copy_18 (by decide +kernel) ?_
      exact W.iret hx hb hr (fun t ht hW => ⟨⟨_, ((fun k => [(si 0), (si 1), (si 2), (si 3)].getD k (si 0)), (fun k => [(sl 0), (sl 1), (sl 2), (sl 3)].getD k (sl 0)), (fun k => [(sf 0), (sf 1), (sf 2), (sf 3)].getD k (sf 0)), (fun k => [(sd 0), (sd 1), (sd 2), (sd 3)].getD k (sd 0))), rfl, (by (try dsimp only); have h9r : ((-2) : Int32).toInt = -2 := (by decide +kernel); omega), by rw [ht]; exact hP.sub [0, 1, 2, 3, 4, 5, 6, 7, 8, 9, 10, 11, 12, 13, 14, 15, 16, 17, 18, 19, 20, 21] rfl, hD.sub [0, 1, 2, 3, 4, 5, 6, 7, 8, 9, 10, 11, 12, 13, 14, 15, 16, 17, 18, 19, 20, 21] (by decide +kernel) rfl⟩, hS.F ht⟩) hS.2.2 dX12_copy_20
  · refine lv_if_eq (tgt := 18) hx hb dX12_copy_6 (by decide +kernel) (fun _ => ?_) (fun c9 => absurd c9 (by decide +kernel))
    refine lv_bipush (v := (-2)) hx hb dX12_copy_18 (by decide +kernel) ?_
    exact W.iret hx hb hr (fun t ht hW => ⟨⟨_, ((fun k => [(si 0), (si 1), (si 2), (si 3)].getD k (si 0)), (fun k => [(sl 0), (sl 1), (sl 2), (sl 3)].getD k (sl 0)), (fun k => [(sf 0), (sf 1), (sf 2), (sf 3)].getD k (sf 0)), (fun k => [(sd 0), (sd 1), (sd 2), (sd 3)].getD k (sd 0))), rfl, (by (try dsimp only); have h9r : ((-2) : Int32).toInt = -2 := (by decide +kernel); omega), by rw [ht]; exact hP.sub [0, 1, 2, 3, 4, 5, 6, 7, 8, 9, 10, 11, 12, 13, 14, 15, 16, 17, 18, 19, 20, 21] rfl, hD.sub [0, 1, 2, 3, 4, 5, 6, 7, 8, 9, 10, 11, 12, 13, 14, 15, 16, 17, 18, 19, 20, 21] (by decide +kernel) rfl⟩, hS.F ht⟩) hS.2.2 dX12_copy_20
end
section
theorem pRk_S {As : List Value} {D : va_G} {T : Nat → ClassId} {ws wc : va_W} {s : State} {H : Heap} {A : Nat → Prop} {locs : List Loc} {ad sa av : Nat → Nat} {ta : Nat} (hP : va_P D vwCl ws H) (hE : ekK D T s) (hV : evK ad sa av ta A s s.heap) (hS : va_S A s.heap H locs) (is : List Nat) (hs : is.filterMap (fun i => ws[i]?) = wc) : PreS s H (pRk As D T wc ad sa av ta) As :=
  ⟨pRk_blind, fun U hU hW => ⟨rfl, by rw [hU]; exact hP.sub is hs, ekK.warm hW hE, by rw [hU]; exact ((hV.kept hS.2.1).warm hW).narrow (fun _ h => h.elim)⟩⟩
theorem ch_at {i : Nat} {x : Int32} (hi : i < 13) (hx : 0 ≤ x.toInt ∧ x.toInt < (ksL.getD i 0 : Nat)) : ((((ksB.getD i []).getD (x.toNatClampNeg) 0) &&& 255).toUInt32 % 65536).toInt32 = (ksB.getD i []).getD (x.toNatClampNeg) 0 ∧ narrow .char (.int ((ksB.getD i []).getD (x.toNatClampNeg) 0)) = .int ((ksB.getD i []).getD (x.toNatClampNeg) 0) := by
  have h9 := tn hx.1
  have key : ∀ a : Fin 13, ∀ b : Fin 8, ((((ksB.getD a.val []).getD b.val 0) &&& 255).toUInt32 % 65536).toInt32 = (ksB.getD a.val []).getD b.val 0 ∧ ((ksB.getD a.val []).getD b.val 0).toUInt32.toUInt16.toUInt32.toInt32 = (ksB.getD a.val []).getD b.val 0 := by decide
  have hb : ∀ a : Fin 13, ksL.getD a.val 0 < 8 := by decide
  have h8 : ksL.getD i 0 < 8 := hb ⟨i, hi⟩
  have h7 := key ⟨i, hi⟩ ⟨x.toNatClampNeg, by omega⟩
  exact ⟨h7.1, congrArg Value.int h7.2⟩
theorem dJ0_coder_7d493_0 : decode cJ0_coder_7d493 0 = .ok (.getstatic 38, 3) := by decide +kernel
theorem dJ0_coder_7d493_10 : decode cJ0_coder_7d493 10 = .ok (.goto 4, 3) := by decide +kernel
theorem dJ0_coder_7d493_14 : decode cJ0_coder_7d493 14 = .ok (.ireturn, 1) := by decide +kernel
theorem dJ0_coder_7d493_3 : decode cJ0_coder_7d493 3 = .ok (.ifCond .eq 10, 3) := by decide +kernel
theorem dJ0_coder_7d493_6 : decode cJ0_coder_7d493 6 = .ok (.aload_n 0, 1) := by decide +kernel
theorem dJ0_coder_7d493_7 : decode cJ0_coder_7d493 7 = .ok (.getfield 15, 3) := by decide +kernel
set_option maxHeartbeats 4000000 in
set_option maxRecDepth 100000 in
theorem c_J0_coder_7d493 (l : Launch) (D : va_G) (T : Nat → ClassId) (ad sa av : Nat → Nat) (ta : Nat) (i : Nat) (hi9 : i < 13) : Met l yJ0_coder_7d493 wsJ0_coder_7d493 ({ frames := 0, cells := 0, slots := 0, locals := 0 }) (pRk [.ref (sa i)] D T [] ad sa av ta) (vp_Si (fun r => r = 0)) 0 0 (fun _ => False) := by
  refine Met.ofW (cc := cJ0_coder_7d493) (maxL := 1) (ret := (some .byte)) (by decide +kernel) rfl ?_
  intro p e s m args below meth c s₁ B hml hv
  obtain ⟨rfl, hP, hE, hV⟩ := hv
  have hS : va_S (fun _ => False) s.heap s.heap [] := va_S.rf
  have hx := B.exec
  have hb := B.bytes
  have hr := B.returns
  have hts := atoms_spec (ws := wsJ0_coder_7d493) B.pre
  have hown : s.vm.findClass RJ0 = some m.cls := findClass_of_methodNamed B.named
  have hlocks := B.notSynchronized
  have hP : va_P D vwCl [] s.heap := hP
  have hl := lv_entry ([.ref (sa i)]) (n := 1) (Nat.le_of_ble_eq_true rfl)
  rw [lg_entry_eq]
  generalize (lg_sl ([.ref (sa i)]) ++ List.replicate (1 - (lg_sl ([.ref (sa i)])).length) Slot.unset).toArray = ls at hl ⊢
  have hl : lv_has ls 1 [(0, .ref (sa i))] := hl
  refine va_gets (v := .int 1) hx hb hV.2.1.2 hS hown (hts (.fieldLink RJ0 38 "java/lang/String" "COMPACT_STRINGS" "Z") (List.mem_of_getElem? (i := 1) rfl)) (fun _ h9 => h9) dJ0_coder_7d493_0 ?_
  refine lv_if_eq (tgt := 13) hx hb dJ0_coder_7d493_3 (by decide +kernel) (fun c9 => absurd c9 (by decide +kernel)) (fun _ => ?_)
  refine lv_aload_n hx hb dJ0_coder_7d493_6 rfl (lv_at hl 0 rfl) ?_
  refine vk_getf (v := .int 0) hx hb (hV.2.1.1 i hi9).2.1 hS hown (hts (.fieldLink RJ0 15 "java/lang/String" "coder" "B") (List.mem_of_getElem? (i := 2) rfl)) (fun _ h9 => h9) dJ0_coder_7d493_7 ?_
  refine lv_goto (tgt := 14) hx hb dJ0_coder_7d493_10 (by decide +kernel) ?_
  exact W.zret hx hb hr rfl (fun t ht hW => ⟨_, rfl, rfl, ht⟩) (fun _ h => by cases h) dJ0_coder_7d493_14
theorem dJ0_length_8abf5_0 : decode cJ0_length_8abf5 0 = .ok (.aload_n 0, 1) := by decide +kernel
theorem dJ0_length_8abf5_1 : decode cJ0_length_8abf5 1 = .ok (.getfield 9, 3) := by decide +kernel
theorem dJ0_length_8abf5_10 : decode cJ0_length_8abf5 10 = .ok (.ireturn, 1) := by decide +kernel
theorem dJ0_length_8abf5_4 : decode cJ0_length_8abf5 4 = .ok (.arraylength, 1) := by decide +kernel
theorem dJ0_length_8abf5_5 : decode cJ0_length_8abf5 5 = .ok (.aload_n 0, 1) := by decide +kernel
theorem dJ0_length_8abf5_6 : decode cJ0_length_8abf5 6 = .ok (.invokevirtual 335, 3) := by decide +kernel
theorem dJ0_length_8abf5_9 : decode cJ0_length_8abf5 9 = .ok (.ishr, 1) := by decide +kernel
set_option maxRecDepth 20000 in
theorem ggJ0_length_8abf5_J0_coder_7d493 : GoodIn wsJ0_length_8abf5 wsJ0_coder_7d493 := goodIn_r _ [6, 7, 8] rfl (by decide +kernel)
set_option maxRecDepth 20000 in
theorem gJ0_length_8abf5_J0_coder_7d493 : GoodIn wsJ0_length_8abf5 (wsV RJ0 335 RJ0 yJ0_coder_7d493 wsJ0_coder_7d493) := goodIn_app (goodIn_r _ [2, 3, 4, 5] rfl (by decide +kernel)) ggJ0_length_8abf5_J0_coder_7d493
theorem hv_J0_coder_7d493 : yJ0_coder_7d493.cls = RJ0 ∧ yJ0_coder_7d493.cls ≠ "java/lang/invoke/MethodHandle" ∧ yJ0_coder_7d493.cls ≠ "java/lang/invoke/VarHandle" ∧ (parseMethodDescriptor yJ0_coder_7d493.desc).map (fun d => d.parameters.length) = some 0 := by decide +kernel
set_option maxHeartbeats 4000000 in
set_option maxRecDepth 100000 in
theorem c_J0_length_8abf5 (l : Launch) (D : va_G) (T : Nat → ClassId) (ad sa av : Nat → Nat) (ta : Nat) (i : Nat) (hi9 : i < 13) : Met l yJ0_length_8abf5 wsJ0_length_8abf5 ({ frames := 1, cells := 0, slots := 0, locals := 20 }) (pRk [.ref (sa i)] D T [] ad sa av ta) (vp_Si (fun r => r = nI (ksL.getD i 0))) 0 0 (fun _ => False) := by
  refine Met.ofW (cc := cJ0_length_8abf5) (maxL := 1) (ret := (some .int)) (by decide +kernel) rfl ?_
  intro p e s m args below meth c s₁ B hml hv
  obtain ⟨rfl, hP, hE, hV⟩ := hv
  have hS : va_S (fun _ => False) s.heap s.heap [] := va_S.rf
  have hx := B.exec
  have hb := B.bytes
  have hr := B.returns
  have hts := atoms_spec (ws := wsJ0_length_8abf5) B.pre
  have hown : s.vm.findClass RJ0 = some m.cls := findClass_of_methodNamed B.named
  have hlocks := B.notSynchronized
  have hP : va_P D vwCl [] s.heap := hP
  have hl := lv_entry ([.ref (sa i)]) (n := 1) (Nat.le_of_ble_eq_true rfl)
  rw [lg_entry_eq]
  generalize (lg_sl ([.ref (sa i)]) ++ List.replicate (1 - (lg_sl ([.ref (sa i)])).length) Slot.unset).toArray = ls at hl ⊢
  have hl : lv_has ls 1 [(0, .ref (sa i))] := hl
  refine lv_aload_n hx hb dJ0_length_8abf5_0 rfl (lv_at hl 0 rfl) ?_
  refine vk_getf (v := .ref (av i)) hx hb (hV.2.1.1 i hi9).2.2.1 hS hown (hts (.fieldLink RJ0 9 "java/lang/String" "value" "[B") (List.mem_of_getElem? (i := 1) rfl)) (fun _ h9 => h9) dJ0_length_8abf5_1 ?_
  refine va_tlen (v := (nI (ksL.getD i 0))) hx hb (hV.2.1.1 i hi9).2.2.2 hS rfl dJ0_length_8abf5_4 ?_
  refine lv_aload_n hx hb dJ0_length_8abf5_5 rfl (lv_at hl 0 rfl) ?_
  refine vp_callSi (W.runV (As := []) (rest := [.int (nI (ksL.getD i 0))]) ⟨hx, hb, hml, hown, hts⟩ (c_J0_coder_7d493 l D T ad sa av ta i hi9) (cwV 0 hts gJ0_length_8abf5_J0_coder_7d493 rfl rfl rfl hv_J0_coder_7d493 ⟨Nat.le_of_ble_eq_true rfl, Nat.le_of_ble_eq_true rfl⟩) (pRk_VS (i := i) hi9 hP hE hV hS [] rfl) rfl rfl hl.1 rfl (lv_room (Nat.le_of_ble_eq_true rfl)) dJ0_length_8abf5_6 ⟨Nat.le_of_ble_eq_true rfl, Nat.le_of_ble_eq_true rfl⟩) (fun r_1 hr_1 => ?_)
  obtain rfl : r_1 = 0 := hr_1
  refine lv_ishr hx hb dJ0_length_8abf5_9 ?_
  exact W.iret hx hb hr (fun t ht hW => ⟨_, rfl, (sc_shr0 (ks_lt i hi9)), ht⟩) (fun _ h => by cases h) dJ0_length_8abf5_10
theorem dJ0_isLatin1_aae02_0 : decode cJ0_isLatin1_aae02 0 = .ok (.getstatic 38, 3) := by decide +kernel
theorem dJ0_isLatin1_aae02_10 : decode cJ0_isLatin1_aae02 10 = .ok (.ifCond .ne 7, 3) := by decide +kernel
theorem dJ0_isLatin1_aae02_13 : decode cJ0_isLatin1_aae02 13 = .ok (.iconst 1, 1) := by decide +kernel
theorem dJ0_isLatin1_aae02_14 : decode cJ0_isLatin1_aae02 14 = .ok (.goto 4, 3) := by decide +kernel
theorem dJ0_isLatin1_aae02_18 : decode cJ0_isLatin1_aae02 18 = .ok (.ireturn, 1) := by decide +kernel
theorem dJ0_isLatin1_aae02_3 : decode cJ0_isLatin1_aae02 3 = .ok (.ifCond .eq 14, 3) := by decide +kernel
theorem dJ0_isLatin1_aae02_6 : decode cJ0_isLatin1_aae02 6 = .ok (.aload_n 0, 1) := by decide +kernel
theorem dJ0_isLatin1_aae02_7 : decode cJ0_isLatin1_aae02 7 = .ok (.getfield 15, 3) := by decide +kernel
set_option maxHeartbeats 4000000 in
set_option maxRecDepth 100000 in
theorem c_J0_isLatin1_aae02 (l : Launch) (D : va_G) (T : Nat → ClassId) (ad sa av : Nat → Nat) (ta : Nat) (i : Nat) (hi9 : i < 13) : Met l yJ0_isLatin1_aae02 wsJ0_isLatin1_aae02 ({ frames := 0, cells := 0, slots := 0, locals := 0 }) (pRk [.ref (sa i)] D T [] ad sa av ta) (vp_Si (fun r => r = 1)) 0 0 (fun _ => False) := by
  refine Met.ofW (cc := cJ0_isLatin1_aae02) (maxL := 1) (ret := (some .boolean)) (by decide +kernel) rfl ?_
  intro p e s m args below meth c s₁ B hml hv
  obtain ⟨rfl, hP, hE, hV⟩ := hv
  have hS : va_S (fun _ => False) s.heap s.heap [] := va_S.rf
  have hx := B.exec
  have hb := B.bytes
  have hr := B.returns
  have hts := atoms_spec (ws := wsJ0_isLatin1_aae02) B.pre
  have hown : s.vm.findClass RJ0 = some m.cls := findClass_of_methodNamed B.named
  have hlocks := B.notSynchronized
  have hP : va_P D vwCl [] s.heap := hP
  have hl := lv_entry ([.ref (sa i)]) (n := 1) (Nat.le_of_ble_eq_true rfl)
  rw [lg_entry_eq]
  generalize (lg_sl ([.ref (sa i)]) ++ List.replicate (1 - (lg_sl ([.ref (sa i)])).length) Slot.unset).toArray = ls at hl ⊢
  have hl : lv_has ls 1 [(0, .ref (sa i))] := hl
  refine va_gets (v := .int 1) hx hb hV.2.1.2 hS hown (hts (.fieldLink RJ0 38 "java/lang/String" "COMPACT_STRINGS" "Z") (List.mem_of_getElem? (i := 1) rfl)) (fun _ h9 => h9) dJ0_isLatin1_aae02_0 ?_
  refine lv_if_eq (tgt := 17) hx hb dJ0_isLatin1_aae02_3 (by decide +kernel) (fun c9 => absurd c9 (by decide +kernel)) (fun _ => ?_)
  refine lv_aload_n hx hb dJ0_isLatin1_aae02_6 rfl (lv_at hl 0 rfl) ?_
  refine vk_getf (v := .int 0) hx hb (hV.2.1.1 i hi9).2.1 hS hown (hts (.fieldLink RJ0 15 "java/lang/String" "coder" "B") (List.mem_of_getElem? (i := 2) rfl)) (fun _ h9 => h9) dJ0_isLatin1_aae02_7 ?_
  refine lv_if_ne (tgt := 17) hx hb dJ0_isLatin1_aae02_10 (by decide +kernel) (fun c9 => absurd c9 (by decide +kernel)) (fun _ => ?_)
  refine lv_iconst (v := 1) hx hb dJ0_isLatin1_aae02_13 (by decide +kernel) ?_
  refine lv_goto (tgt := 18) hx hb dJ0_isLatin1_aae02_14 (by decide +kernel) ?_
  exact W.zret hx hb hr rfl (fun t ht hW => ⟨_, rfl, rfl, ht⟩) (fun _ h => by cases h) dJ0_isLatin1_aae02_18
theorem dJ3_checkIndex_8e157_0 : decode cJ3_checkIndex_8e157 0 = .ok (.iload_n 0, 1) := by decide +kernel
theorem dJ3_checkIndex_8e157_1 : decode cJ3_checkIndex_8e157 1 = .ok (.ifCond .lt 8, 3) := by decide +kernel
theorem dJ3_checkIndex_8e157_16 : decode cJ3_checkIndex_8e157 16 = .ok (.iload_n 0, 1) := by decide +kernel
theorem dJ3_checkIndex_8e157_17 : decode cJ3_checkIndex_8e157 17 = .ok (.ireturn, 1) := by decide +kernel
theorem dJ3_checkIndex_8e157_4 : decode cJ3_checkIndex_8e157 4 = .ok (.iload_n 0, 1) := by decide +kernel
theorem dJ3_checkIndex_8e157_5 : decode cJ3_checkIndex_8e157 5 = .ok (.iload_n 1, 1) := by decide +kernel
theorem dJ3_checkIndex_8e157_6 : decode cJ3_checkIndex_8e157 6 = .ok (.if_icmp .lt 10, 3) := by decide +kernel
set_option maxHeartbeats 4000000 in
set_option maxRecDepth 100000 in
theorem c_J3_checkIndex_8e157 (l : Launch) (D : va_G) (T : Nat → ClassId) (x0 : Int32) (x1 : Int32) (r2 : Nat) (hx : 0 ≤ x0.toInt ∧ x0.toInt < x1.toInt) : Met l yJ3_checkIndex_8e157 wsJ3_checkIndex_8e157 ({ frames := 0, cells := 0, slots := 0, locals := 0 }) (pR [.int x0, .int x1, .ref r2] D T []) (vp_Si (fun r => True)) 0 0 (fun _ => False) := by
  refine Met.ofW (cc := cJ3_checkIndex_8e157) (maxL := 3) (ret := (some .int)) (by decide +kernel) rfl ?_
  intro p e s m args below meth c s₁ B hml hv
  obtain ⟨rfl, hP, hE⟩ := hv
  have hx := B.exec
  have hb := B.bytes
  have hr := B.returns
  have hts := atoms_spec (ws := wsJ3_checkIndex_8e157) B.pre
  have hown : s.vm.findClass RJ3 = some m.cls := findClass_of_methodNamed B.named
  have hlocks := B.notSynchronized
  have hP : va_P D vwCl [] s.heap := hP
  have hl := lv_entry ([.int x0, .int x1, .ref r2]) (n := 3) (Nat.le_of_ble_eq_true rfl)
  rw [lg_entry_eq]
  generalize (lg_sl ([.int x0, .int x1, .ref r2]) ++ List.replicate (3 - (lg_sl ([.int x0, .int x1, .ref r2])).length) Slot.unset).toArray = ls at hl ⊢
  have hl : lv_has ls 3 [(0, .int x0), (1, .int x1), (2, .ref r2)] := hl
  refine lv_iload_n hx hb dJ3_checkIndex_8e157_0 rfl (lv_at hl 0 rfl) ?_
  refine lv_if_lt (tgt := 9) hx hb dJ3_checkIndex_8e157_1 (by decide +kernel) (fun c9 => absurd c9 (by rw [fa_lt, ti_0]; omega)) (fun c9 => ?_)
  refine lv_iload_n hx hb dJ3_checkIndex_8e157_4 rfl (lv_at hl 0 rfl) ?_
  refine lv_iload_n hx hb dJ3_checkIndex_8e157_5 rfl (lv_at hl 1 rfl) ?_
  refine lv_icmp_lt (tgt := 16) hx hb dJ3_checkIndex_8e157_6 (by decide +kernel) (fun c9 => ?_) (fun c9 => absurd c9 (not_not_intro (by rw [fa_lt]; omega)))
  refine lv_iload_n hx hb dJ3_checkIndex_8e157_16 rfl (lv_at hl 0 rfl) ?_
  exact W.iret hx hb hr (fun t ht hW => ⟨_, rfl, trivial, ht⟩) (fun _ h => by cases h) dJ3_checkIndex_8e157_17
set_option maxHeartbeats 4000000 in
set_option maxRecDepth 100000 in
theorem c_J3_checkIndex_null (l : Launch) (D : va_G) (T : Nat → ClassId) (x0 : Int32) (x1 : Int32) (hx : 0 ≤ x0.toInt ∧ x0.toInt < x1.toInt) : Met l yJ3_checkIndex_8e157 wsJ3_checkIndex_8e157 ({ frames := 0, cells := 0, slots := 0, locals := 0 }) (pR [.int x0, .int x1, .null] D T []) (vp_Si (fun r => True)) 0 0 (fun _ => False) := by
  refine Met.ofW (cc := cJ3_checkIndex_8e157) (maxL := 3) (ret := (some .int)) (by decide +kernel) rfl ?_
  intro p e s m args below meth c s₁ B hml hv
  obtain ⟨rfl, hP, hE⟩ := hv
  have hx := B.exec
  have hb := B.bytes
  have hr := B.returns
  have hts := atoms_spec (ws := wsJ3_checkIndex_8e157) B.pre
  have hown : s.vm.findClass RJ3 = some m.cls := findClass_of_methodNamed B.named
  have hlocks := B.notSynchronized
  have hP : va_P D vwCl [] s.heap := hP
  have hl := lv_entry ([.int x0, .int x1, .null]) (n := 3) (Nat.le_of_ble_eq_true rfl)
  rw [lg_entry_eq]
  generalize (lg_sl ([.int x0, .int x1, .null]) ++ List.replicate (3 - (lg_sl ([.int x0, .int x1, .null])).length) Slot.unset).toArray = ls at hl ⊢
  have hl : lv_has ls 3 [(0, .int x0), (1, .int x1), (2, .null)] := hl
  refine lv_iload_n hx hb dJ3_checkIndex_8e157_0 rfl (lv_at hl 0 rfl) ?_
  refine lv_if_lt (tgt := 9) hx hb dJ3_checkIndex_8e157_1 (by decide +kernel) (fun c9 => absurd c9 (by rw [fa_lt, ti_0]; omega)) (fun c9 => ?_)
  refine lv_iload_n hx hb dJ3_checkIndex_8e157_4 rfl (lv_at hl 0 rfl) ?_
  refine lv_iload_n hx hb dJ3_checkIndex_8e157_5 rfl (lv_at hl 1 rfl) ?_
  refine lv_icmp_lt (tgt := 16) hx hb dJ3_checkIndex_8e157_6 (by decide +kernel) (fun c9 => ?_) (fun c9 => absurd c9 (not_not_intro (by rw [fa_lt]; omega)))
  refine lv_iload_n hx hb dJ3_checkIndex_8e157_16 rfl (lv_at hl 0 rfl) ?_
  exact W.iret hx hb hr (fun t ht hW => ⟨_, rfl, trivial, ht⟩) (fun _ h => by cases h) dJ3_checkIndex_8e157_17
theorem dJ0_checkIndex_df160_0 : decode cJ0_checkIndex_df160 0 = .ok (.iload_n 0, 1) := by decide +kernel
theorem dJ0_checkIndex_df160_1 : decode cJ0_checkIndex_df160 1 = .ok (.iload_n 1, 1) := by decide +kernel
theorem dJ0_checkIndex_df160_2 : decode cJ0_checkIndex_df160 2 = .ok (.getstatic 1053, 3) := by decide +kernel
theorem dJ0_checkIndex_df160_5 : decode cJ0_checkIndex_df160 5 = .ok (.invokestatic 1059, 3) := by decide +kernel
theorem dJ0_checkIndex_df160_8 : decode cJ0_checkIndex_df160 8 = .ok (.pop, 1) := by decide +kernel
theorem dJ0_checkIndex_df160_9 : decode cJ0_checkIndex_df160 9 = .ok (.return_, 1) := by decide +kernel
set_option maxRecDepth 20000 in
theorem ggJ0_checkIndex_df160_J3_checkIndex_8e157 : GoodIn wsJ0_checkIndex_df160 wsJ3_checkIndex_8e157 := goodIn_r _ [5] rfl (by decide +kernel)
set_option maxRecDepth 20000 in
theorem gJ0_checkIndex_df160_J3_checkIndex_8e157 : GoodIn wsJ0_checkIndex_df160 (va_wsS RJ0 1059 yJ3_checkIndex_8e157 wsJ3_checkIndex_8e157) := goodIn_app (goodIn_of _ (by decide +kernel)) ggJ0_checkIndex_df160_J3_checkIndex_8e157
theorem hs_J3_checkIndex_8e157 : yJ3_checkIndex_8e157.cls ≠ "java/lang/invoke/MethodHandle" ∧ yJ3_checkIndex_8e157.cls ≠ "java/lang/invoke/VarHandle" ∧ (parseMethodDescriptor yJ3_checkIndex_8e157.desc).map (fun d => d.parameters.length) = some 3 := by decide +kernel
set_option maxHeartbeats 4000000 in
set_option maxRecDepth 100000 in
theorem c_J0_checkIndex_df160 (l : Launch) (D : va_G) (T : Nat → ClassId) (ad sa av : Nat → Nat) (ta : Nat) (x0 : Int32) (x1 : Int32) (hx : 0 ≤ x0.toInt ∧ x0.toInt < x1.toInt) : Met l yJ0_checkIndex_df160 wsJ0_checkIndex_df160 ({ frames := 1, cells := 0, slots := 0, locals := 22 }) (pRk [.int x0, .int x1] D T [] ad sa av ta) (va_Sv (fun r => True)) 0 0 (fun _ => False) := by
  refine Met.ofW (cc := cJ0_checkIndex_df160) (maxL := 2) (ret := none) (by decide +kernel) rfl ?_
  intro p e s m args below meth c s₁ B hml hv
  obtain ⟨rfl, hP, hE, hV⟩ := hv
  have hS : va_S (fun _ => False) s.heap s.heap [] := va_S.rf
  have hx := B.exec
  have hb := B.bytes
  have hr := B.returns
  have hts := atoms_spec (ws := wsJ0_checkIndex_df160) B.pre
  have hown : s.vm.findClass RJ0 = some m.cls := findClass_of_methodNamed B.named
  have hlocks := B.notSynchronized
  have hP : va_P D vwCl [] s.heap := hP
  have hl := lv_entry ([.int x0, .int x1]) (n := 2) (Nat.le_of_ble_eq_true rfl)
  rw [lg_entry_eq]
  generalize (lg_sl ([.int x0, .int x1]) ++ List.replicate (2 - (lg_sl ([.int x0, .int x1])).length) Slot.unset).toArray = ls at hl ⊢
  have hl : lv_has ls 2 [(0, .int x0), (1, .int x1)] := hl
  refine lv_iload_n hx hb dJ0_checkIndex_df160_0 rfl (lv_at hl 0 rfl) ?_
  refine lv_iload_n hx hb dJ0_checkIndex_df160_1 rfl (lv_at hl 1 rfl) ?_
  rcases hV.2.2.2.2.2.2 with hsio | hsio
  · refine va_gets (v := .null) hx hb hsio hS hown (hts (.fieldLink RJ0 1053 "jdk/internal/util/Preconditions" "SIOOBE_FORMATTER" "Ljava/util/function/BiFunction;") (List.mem_of_getElem? (i := 1) rfl)) (fun _ h9 => h9) dJ0_checkIndex_df160_2 ?_
    refine vp_callSi (W.runS (As := [.int x0, .int x1, .null]) (rest := []) ⟨hx, hb, hml, hown, hts⟩ (c_J3_checkIndex_null l D T x0 x1 (by omega)) (va_cwS 3 hts gJ0_checkIndex_df160_J3_checkIndex_8e157 rfl rfl rfl hs_J3_checkIndex_8e157 ⟨Nat.le_of_ble_eq_true rfl, Nat.le_of_ble_eq_true rfl⟩) (pR_S hP hE [] rfl) rfl rfl hl.1 rfl (lv_room (Nat.le_of_ble_eq_true rfl)) dJ0_checkIndex_df160_5 ⟨Nat.le_of_ble_eq_true rfl, Nat.le_of_ble_eq_true rfl⟩) (fun r_1 hr_1 => ?_)
    refine lv_pop hx hb dJ0_checkIndex_df160_8 rfl ?_
    exact W.vret hx hb hr (fun t ht hW => ⟨rfl, trivial, ht⟩) (fun _ h => by cases h) dJ0_checkIndex_df160_9
  · refine va_gets (v := .ref (av 14)) hx hb hsio hS hown (hts (.fieldLink RJ0 1053 "jdk/internal/util/Preconditions" "SIOOBE_FORMATTER" "Ljava/util/function/BiFunction;") (List.mem_of_getElem? (i := 1) rfl)) (fun _ h9 => h9) dJ0_checkIndex_df160_2 ?_
    refine vp_callSi (W.runS (As := [.int x0, .int x1, .ref (av 14)]) (rest := []) ⟨hx, hb, hml, hown, hts⟩ (c_J3_checkIndex_8e157 l D T x0 x1 (av 14) (by omega)) (va_cwS 3 hts gJ0_checkIndex_df160_J3_checkIndex_8e157 rfl rfl rfl hs_J3_checkIndex_8e157 ⟨Nat.le_of_ble_eq_true rfl, Nat.le_of_ble_eq_true rfl⟩) (pR_S hP hE [] rfl) rfl rfl hl.1 rfl (lv_room (Nat.le_of_ble_eq_true rfl)) dJ0_checkIndex_df160_5 ⟨Nat.le_of_ble_eq_true rfl, Nat.le_of_ble_eq_true rfl⟩) (fun r_2 hr_2 => ?_)
    refine lv_pop hx hb dJ0_checkIndex_df160_8 rfl ?_
    exact W.vret hx hb hr (fun t ht hW => ⟨rfl, trivial, ht⟩) (fun _ h => by cases h) dJ0_checkIndex_df160_9
theorem dJ1_charAt_3b067_0 : decode cJ1_charAt_3b067 0 = .ok (.iload_n 1, 1) := by decide +kernel
theorem dJ1_charAt_3b067_1 : decode cJ1_charAt_3b067 1 = .ok (.aload_n 0, 1) := by decide +kernel
theorem dJ1_charAt_3b067_12 : decode cJ1_charAt_3b067 12 = .ok (.iand, 1) := by decide +kernel
theorem dJ1_charAt_3b067_13 : decode cJ1_charAt_3b067 13 = .ok (.i2c, 1) := by decide +kernel
theorem dJ1_charAt_3b067_14 : decode cJ1_charAt_3b067 14 = .ok (.ireturn, 1) := by decide +kernel
theorem dJ1_charAt_3b067_2 : decode cJ1_charAt_3b067 2 = .ok (.arraylength, 1) := by decide +kernel
theorem dJ1_charAt_3b067_3 : decode cJ1_charAt_3b067 3 = .ok (.invokestatic 9, 3) := by decide +kernel
theorem dJ1_charAt_3b067_6 : decode cJ1_charAt_3b067 6 = .ok (.aload_n 0, 1) := by decide +kernel
theorem dJ1_charAt_3b067_7 : decode cJ1_charAt_3b067 7 = .ok (.iload_n 1, 1) := by decide +kernel
theorem dJ1_charAt_3b067_8 : decode cJ1_charAt_3b067 8 = .ok (.baload, 1) := by decide +kernel
theorem dJ1_charAt_3b067_9 : decode cJ1_charAt_3b067 9 = .ok (.sipush 255, 3) := by decide +kernel
set_option maxRecDepth 20000 in
theorem ggJ1_charAt_3b067_J0_checkIndex_df160 : GoodIn wsJ1_charAt_3b067 wsJ0_checkIndex_df160 := goodIn_r _ [4, 5, 6, 7, 8, 9] rfl (by decide +kernel)
set_option maxRecDepth 20000 in
theorem gJ1_charAt_3b067_J0_checkIndex_df160 : GoodIn wsJ1_charAt_3b067 (va_wsS RJ1 9 yJ0_checkIndex_df160 wsJ0_checkIndex_df160) := goodIn_app (goodIn_of _ (by decide +kernel)) ggJ1_charAt_3b067_J0_checkIndex_df160
theorem hs_J0_checkIndex_df160 : yJ0_checkIndex_df160.cls ≠ "java/lang/invoke/MethodHandle" ∧ yJ0_checkIndex_df160.cls ≠ "java/lang/invoke/VarHandle" ∧ (parseMethodDescriptor yJ0_checkIndex_df160.desc).map (fun d => d.parameters.length) = some 2 := by decide +kernel
set_option maxHeartbeats 4000000 in
set_option maxRecDepth 100000 in
theorem c_J1_charAt_3b067 (l : Launch) (D : va_G) (T : Nat → ClassId) (ad sa av : Nat → Nat) (ta : Nat) (i : Nat) (x1 : Int32) (hi9 : i < 13) (hx1 : 0 ≤ x1.toInt ∧ x1.toInt < (ksL.getD i 0 : Nat)) : Met l yJ1_charAt_3b067 wsJ1_charAt_3b067 ({ frames := 2, cells := 0, slots := 0, locals := 43 }) (pRk [.ref (av i), .int x1] D T [] ad sa av ta) (vp_Si (fun r => r = ((ksB.getD i []).getD (x1.toNatClampNeg) 0))) 0 0 (fun _ => False) := by
  refine Met.ofW (cc := cJ1_charAt_3b067) (maxL := 2) (ret := (some .char)) (by decide +kernel) rfl ?_
  intro p e s m args below meth c s₁ B hml hv
  obtain ⟨rfl, hP, hE, hV⟩ := hv
  have hS : va_S (fun _ => False) s.heap s.heap [] := va_S.rf
  have hx := B.exec
  have hb := B.bytes
  have hr := B.returns
  have hts := atoms_spec (ws := wsJ1_charAt_3b067) B.pre
  have hown : s.vm.findClass RJ1 = some m.cls := findClass_of_methodNamed B.named
  have hlocks := B.notSynchronized
  have hP : va_P D vwCl [] s.heap := hP
  have hl := lv_entry ([.ref (av i), .int x1]) (n := 2) (Nat.le_of_ble_eq_true rfl)
  rw [lg_entry_eq]
  generalize (lg_sl ([.ref (av i), .int x1]) ++ List.replicate (2 - (lg_sl ([.ref (av i), .int x1])).length) Slot.unset).toArray = ls at hl ⊢
  have hl : lv_has ls 2 [(0, .ref (av i)), (1, .int x1)] := hl
  refine lv_iload_n hx hb dJ1_charAt_3b067_0 rfl (lv_at hl 1 rfl) ?_
  refine lv_aload_n hx hb dJ1_charAt_3b067_1 rfl (lv_at hl 0 rfl) ?_
  refine va_tlen (v := (nI (ksL.getD i 0))) hx hb (hV.2.1.1 i hi9).2.2.2 hS rfl dJ1_charAt_3b067_2 ?_
  refine va_csv (W.runS (As := [.int x1, .int (nI (ksL.getD i 0))]) (rest := []) ⟨hx, hb, hml, hown, hts⟩ (c_J0_checkIndex_df160 l D T ad sa av ta x1 (nI (ksL.getD i 0)) (by rw [nI_toInt (ks_lt i hi9)]; exact hx1)) (va_cwS 2 hts gJ1_charAt_3b067_J0_checkIndex_df160 rfl rfl rfl hs_J0_checkIndex_df160 ⟨Nat.le_of_ble_eq_true rfl, Nat.le_of_ble_eq_true rfl⟩) (pRk_S hP hE hV hS [] rfl) rfl rfl hl.1 rfl (lv_room (Nat.le_of_ble_eq_true rfl)) dJ1_charAt_3b067_3 ⟨Nat.le_of_ble_eq_true rfl, Nat.le_of_ble_eq_true rfl⟩) (fun hr_1 => ?_)
  refine lv_aload_n hx hb dJ1_charAt_3b067_6 rfl (lv_at hl 0 rfl) ?_
  refine lv_iload_n hx hb dJ1_charAt_3b067_7 rfl (lv_at hl 1 rfl) ?_
  refine va_tb (v := .int ((ksB.getD i []).getD (x1.toNatClampNeg) 0)) hx hb (hV.2.1.1 i hi9).2.2.2 hS (by rw [vp_in_iff]; omega) rfl dJ1_charAt_3b067_8 ?_
  refine lv_sipush (v := 255) hx hb dJ1_charAt_3b067_9 (by decide +kernel) ?_
  refine lv_iand hx hb dJ1_charAt_3b067_12 ?_
  refine lv_i2c (v := ((ksB.getD i []).getD (x1.toNatClampNeg) 0)) hx hb dJ1_charAt_3b067_13 (ch_at hi9 hx1).1 ?_
  exact W.zret hx hb hr (ch_at hi9 hx1).2 (fun t ht hW => ⟨_, rfl, rfl, ht⟩) (fun _ h => by cases h) dJ1_charAt_3b067_14
theorem dJ0_charAt_5068e_0 : decode cJ0_charAt_5068e 0 = .ok (.aload_n 0, 1) := by decide +kernel
theorem dJ0_charAt_5068e_1 : decode cJ0_charAt_5068e 1 = .ok (.invokevirtual 492, 3) := by decide +kernel
theorem dJ0_charAt_5068e_11 : decode cJ0_charAt_5068e 11 = .ok (.iload_n 1, 1) := by decide +kernel
theorem dJ0_charAt_5068e_12 : decode cJ0_charAt_5068e 12 = .ok (.invokestatic 495, 3) := by decide +kernel
theorem dJ0_charAt_5068e_15 : decode cJ0_charAt_5068e 15 = .ok (.ireturn, 1) := by decide +kernel
theorem dJ0_charAt_5068e_4 : decode cJ0_charAt_5068e 4 = .ok (.ifCond .eq 12, 3) := by decide +kernel
theorem dJ0_charAt_5068e_7 : decode cJ0_charAt_5068e 7 = .ok (.aload_n 0, 1) := by decide +kernel
theorem dJ0_charAt_5068e_8 : decode cJ0_charAt_5068e 8 = .ok (.getfield 9, 3) := by decide +kernel
set_option maxRecDepth 20000 in
theorem ggJ0_charAt_5068e_J0_isLatin1_aae02 : GoodIn wsJ0_charAt_5068e wsJ0_isLatin1_aae02 := goodIn_r _ [6, 7, 8] rfl (by decide +kernel)
set_option maxRecDepth 20000 in
theorem ggJ0_charAt_5068e_J1_charAt_3b067 : GoodIn wsJ0_charAt_5068e wsJ1_charAt_3b067 := goodIn_r _ [12, 13, 14, 5, 15, 16, 17, 18, 19, 20] rfl (by decide +kernel)
set_option maxRecDepth 20000 in
theorem gJ0_charAt_5068e_J0_isLatin1_aae02 : GoodIn wsJ0_charAt_5068e (wsV RJ0 492 RJ0 yJ0_isLatin1_aae02 wsJ0_isLatin1_aae02) := goodIn_app (goodIn_r _ [2, 3, 4, 5] rfl (by decide +kernel)) ggJ0_charAt_5068e_J0_isLatin1_aae02
set_option maxRecDepth 20000 in
theorem gJ0_charAt_5068e_J1_charAt_3b067 : GoodIn wsJ0_charAt_5068e (va_wsS RJ0 495 yJ1_charAt_3b067 wsJ1_charAt_3b067) := goodIn_app (goodIn_of _ (by decide +kernel)) ggJ0_charAt_5068e_J1_charAt_3b067
theorem hs_J1_charAt_3b067 : yJ1_charAt_3b067.cls ≠ "java/lang/invoke/MethodHandle" ∧ yJ1_charAt_3b067.cls ≠ "java/lang/invoke/VarHandle" ∧ (parseMethodDescriptor yJ1_charAt_3b067.desc).map (fun d => d.parameters.length) = some 2 := by decide +kernel
theorem hv_J0_isLatin1_aae02 : yJ0_isLatin1_aae02.cls = RJ0 ∧ yJ0_isLatin1_aae02.cls ≠ "java/lang/invoke/MethodHandle" ∧ yJ0_isLatin1_aae02.cls ≠ "java/lang/invoke/VarHandle" ∧ (parseMethodDescriptor yJ0_isLatin1_aae02.desc).map (fun d => d.parameters.length) = some 0 := by decide +kernel
set_option maxHeartbeats 4000000 in
set_option maxRecDepth 100000 in
theorem c_J0_charAt_5068e (l : Launch) (D : va_G) (T : Nat → ClassId) (ad sa av : Nat → Nat) (ta : Nat) (i : Nat) (x1 : Int32) (hi9 : i < 13) (hx1 : 0 ≤ x1.toInt ∧ x1.toInt < (ksL.getD i 0 : Nat)) : Met l yJ0_charAt_5068e wsJ0_charAt_5068e ({ frames := 3, cells := 0, slots := 0, locals := 64 }) (pRk [.ref (sa i), .int x1] D T [] ad sa av ta) (vp_Si (fun r => r = ((ksB.getD i []).getD (x1.toNatClampNeg) 0))) 0 0 (fun _ => False) := by
  refine Met.ofW (cc := cJ0_charAt_5068e) (maxL := 2) (ret := (some .char)) (by decide +kernel) rfl ?_
  intro p e s m args below meth c s₁ B hml hv
  obtain ⟨rfl, hP, hE, hV⟩ := hv
  have hS : va_S (fun _ => False) s.heap s.heap [] := va_S.rf
  have hx := B.exec
  have hb := B.bytes
  have hr := B.returns
  have hts := atoms_spec (ws := wsJ0_charAt_5068e) B.pre
  have hown : s.vm.findClass RJ0 = some m.cls := findClass_of_methodNamed B.named
  have hlocks := B.notSynchronized
  have hP : va_P D vwCl [] s.heap := hP
  have hl := lv_entry ([.ref (sa i), .int x1]) (n := 2) (Nat.le_of_ble_eq_true rfl)
  rw [lg_entry_eq]
  generalize (lg_sl ([.ref (sa i), .int x1]) ++ List.replicate (2 - (lg_sl ([.ref (sa i), .int x1])).length) Slot.unset).toArray = ls at hl ⊢
  have hl : lv_has ls 2 [(0, .ref (sa i)), (1, .int x1)] := hl
  refine lv_aload_n hx hb dJ0_charAt_5068e_0 rfl (lv_at hl 0 rfl) ?_
  refine vp_callSi (W.runV (As := []) (rest := []) ⟨hx, hb, hml, hown, hts⟩ (c_J0_isLatin1_aae02 l D T ad sa av ta i hi9) (cwV 0 hts gJ0_charAt_5068e_J0_isLatin1_aae02 rfl rfl rfl hv_J0_isLatin1_aae02 ⟨Nat.le_of_ble_eq_true rfl, Nat.le_of_ble_eq_true rfl⟩) (pRk_VS (i := i) hi9 hP hE hV hS [] rfl) rfl rfl hl.1 rfl (lv_room (Nat.le_of_ble_eq_true rfl)) dJ0_charAt_5068e_1 ⟨Nat.le_of_ble_eq_true rfl, Nat.le_of_ble_eq_true rfl⟩) (fun r_1 hr_1 => ?_)
  obtain rfl : r_1 = 1 := hr_1
  refine lv_if_eq (tgt := 16) hx hb dJ0_charAt_5068e_4 (by decide +kernel) (fun c9 => absurd c9 (by decide +kernel)) (fun _ => ?_)
  refine lv_aload_n hx hb dJ0_charAt_5068e_7 rfl (lv_at hl 0 rfl) ?_
  refine vk_getf (v := .ref (av i)) hx hb (hV.2.1.1 i hi9).2.2.1 hS hown (hts (.fieldLink RJ0 9 "java/lang/String" "value" "[B") (List.mem_of_getElem? (i := 1) rfl)) (fun _ h9 => h9) dJ0_charAt_5068e_8 ?_
  refine lv_iload_n hx hb dJ0_charAt_5068e_11 rfl (lv_at hl 1 rfl) ?_
  refine vp_callSi (W.runS (As := [.ref (av i), .int x1]) (rest := []) ⟨hx, hb, hml, hown, hts⟩ (c_J1_charAt_3b067 l D T ad sa av ta i x1 hi9 hx1) (va_cwS 2 hts gJ0_charAt_5068e_J1_charAt_3b067 rfl rfl rfl hs_J1_charAt_3b067 ⟨Nat.le_of_ble_eq_true rfl, Nat.le_of_ble_eq_true rfl⟩) (pRk_S hP hE hV hS [] rfl) rfl rfl hl.1 rfl (lv_room (Nat.le_of_ble_eq_true rfl)) dJ0_charAt_5068e_12 ⟨Nat.le_of_ble_eq_true rfl, Nat.le_of_ble_eq_true rfl⟩) (fun r_2 hr_2 => ?_)
  obtain rfl : ((ksB.getD i []).getD (x1.toNatClampNeg) 0) = r_2 := (hr_2).symm
  exact W.zret hx hb hr (ch_at hi9 hx1).2 (fun t ht hW => ⟨_, rfl, rfl, ht⟩) (fun _ h => by cases h) dJ0_charAt_5068e_15
end
section
/-! how the class reads a text, byte by byte -/
/-- between two words -/
def scJ1 (f : Nat → Int32) (n : Nat) (room : Int) (K V : Nat → Int32) (m at' : Nat) : Prop := ∃ a0 : Nat, pthT f n room K V m a0 ∧ a0 ≤ at' ∧ ∀ j : Nat, a0 ≤ j → j < at' → isBl f j
/-- between a word and its number -/
def scJ2 (f : Nat → Int32) (n : Nat) (room : Int) (K V : Nat → Int32) (m at' : Nat) : Prop := ∃ (m' a0 p e : Nat), m = m' + 1 ∧ pthT f n room K V m' a0 ∧ 0 ≤ smT K m' ∧ (rnP (isBl f) n a0 p ∧ rnP (isLe f) n p e) ∧ (0 ≤ (K m').toInt ∧ (K m').toInt ≤ 12) ∧ wordK f p e (K m').toNatClampNeg ∧ (m' : Int) + 1 + ((1 + smT K m') + (nmT (K m').toNatClampNeg).toInt - 1) ≤ room ∧ lsT (K m').toNatClampNeg ≠ msT (K m').toNatClampNeg ∧ e ≤ at' ∧ ∀ j : Nat, e ≤ j → j < at' → isBl f j
theorem scJ1_0 {f : Nat → Int32} {n : Nat} {room : Int} {K V : Nat → Int32} : scJ1 f n room K V 0 0 := ⟨0, rfl, Nat.le_refl 0, fun j _ h => absurd h (Nat.not_lt_zero j)⟩
theorem bl_more {f : Nat → Int32} {a b : Nat} (h : ∀ j : Nat, a ≤ j → j < b → isBl f j) (hb : isBl f b) : ∀ j : Nat, a ≤ j → j < b + 1 → isBl f j := by
  intro j h1 h2
  by_cases e : j = b
  · rw [e]; exact hb
  · exact h j h1 (by omega)
theorem scJ1_bl {f : Nat → Int32} {n : Nat} {room : Int} {K V : Nat → Int32} {m a : Nat} (h : scJ1 f n room K V m a) (hb : isBl f a) : scJ1 f n room K V m (a + 1) := by
  obtain ⟨a0, h1, h2, h3⟩ := h
  exact ⟨a0, h1, by omega, bl_more h3 hb⟩
theorem scJ2_bl {f : Nat → Int32} {n : Nat} {room : Int} {K V : Nat → Int32} {m a : Nat} (h : scJ2 f n room K V m a) (hb : isBl f a) : scJ2 f n room K V m (a + 1) := by
  obtain ⟨m', a0, p, e, h1, h2, h3, h4, h5, h6, h7, h8, h9, h10⟩ := h
  exact ⟨m', a0, p, e, h1, h2, h3, h4, h5, h6, h7, h8, by omega, bl_more h10 hb⟩
theorem rn_here {P : Nat → Prop} {n a b : Nat} (hab : a ≤ b) (hbn : b ≤ n) (h : ∀ j : Nat, a ≤ j → j < b → P j) (hb : b < n → ¬ P b) : rnP P n a b := ⟨⟨hab, hbn⟩, h, hb⟩
/-- a word came, without a number -/
theorem scJ1_word {f : Nat → Int32} {n : Nat} {room : Int} {K V : Nat → Int32} {m a e : Nat} {k : Int32} (h : scJ1 f n room K V m a) (ha : a < n) (hnb : ¬ isBl f a) (hle : rnP (isLe f) n a e) (hk : 0 ≤ k.toInt ∧ k.toInt ≤ 12) (hw : wordK f a e k.toNatClampNeg) (h0 : 0 ≤ smT K m) (hro : (m : Int) + 1 + ((1 + smT K m) + (nmT k.toNatClampNeg).toInt - 1) ≤ room) (hnn : lsT k.toNatClampNeg = msT k.toNatClampNeg) : scJ1 f n room (upd K m k) (upd V m 0) (m + 1) e := by
  obtain ⟨a0, h1, h2, h3⟩ := h
  have eK : ∀ j : Nat, j < m → K j = upd K m k j ∧ V j = upd V m 0 j := fun j hj => by
    simp only [upd]
    rw [if_neg (by omega), if_neg (by omega)]
    exact ⟨rfl, rfl⟩
  refine ⟨e, ⟨a0, pthT_ext m a0 eK h1, ?_, ?_⟩, Nat.le_refl e, fun j x y => absurd y (by omega)⟩
  · rw [← smT_ext m (fun j hj => (eK j hj).1)]; exact h0
  · rw [← smT_ext m (fun j hj => (eK j hj).1), show upd K m k m = k by simp only [upd, if_pos], show upd V m 0 m = 0 by simp only [upd, if_pos]]
    exact ⟨a, e, ⟨rn_here h2 (by omega) h3 (fun _ => hnb), hle⟩, hk, hw, hro, Or.inl ⟨hnn, rfl, rfl⟩⟩
/-- a word came, its number is awaited -/
theorem scJ2_word {f : Nat → Int32} {n : Nat} {room : Int} {K V : Nat → Int32} {m a e : Nat} {k : Int32} (h : scJ1 f n room K V m a) (ha : a < n) (hnb : ¬ isBl f a) (hle : rnP (isLe f) n a e) (hk : 0 ≤ k.toInt ∧ k.toInt ≤ 12) (hw : wordK f a e k.toNatClampNeg) (h0 : 0 ≤ smT K m) (hro : (m : Int) + 1 + ((1 + smT K m) + (nmT k.toNatClampNeg).toInt - 1) ≤ room) (hnn : lsT k.toNatClampNeg ≠ msT k.toNatClampNeg) : scJ2 f n room (upd K m k) (upd V m 0) (m + 1) e := by
  obtain ⟨a0, h1, h2, h3⟩ := h
  have eK : ∀ j : Nat, j < m → K j = upd K m k j ∧ V j = upd V m 0 j := fun j hj => by
    simp only [upd]
    rw [if_neg (by omega), if_neg (by omega)]
    exact ⟨rfl, rfl⟩
  have em : upd K m k m = k := by simp only [upd, if_pos]
  refine ⟨m, a0, a, e, rfl, pthT_ext m a0 eK h1, ?_, ⟨rn_here h2 (by omega) h3 (fun _ => hnb), hle⟩, by rw [em]; exact hk, by rw [em]; exact hw, ?_, by rw [em]; exact hnn, Nat.le_refl e, fun j x y => absurd y (by omega)⟩
  · rw [← smT_ext m (fun j hj => (eK j hj).1)]; exact h0
  · rw [← smT_ext m (fun j hj => (eK j hj).1), em]; exact hro
/-- its number came -/
theorem scJ2_num {f : Nat → Int32} {n : Nat} {room : Int} {K V : Nat → Int32} {m a e : Nat} {v : Int32} (h : scJ2 f n room K V m a) (ha : a < n) (hnb : ¬ isBl f a) (hv : ∀ m' : Nat, m = m' + 1 → numK f n a (K m').toNatClampNeg e v) : scJ1 f n room K (upd V (m - 1) v) m e := by
  obtain ⟨m', a0, p, e', h1, h2, h3, h4, h5, h6, h7, h8, h9, h10⟩ := h
  subst h1
  have hm : m' + 1 - 1 = m' := by omega
  rw [hm]
  have eV : ∀ j : Nat, j < m' → K j = K j ∧ V j = upd V m' v j := fun j hj => ⟨rfl, by simp only [upd]; rw [if_neg (by omega)]⟩
  refine ⟨e, ⟨a0, pthT_ext m' a0 eV h2, h3, p, e', h4, h5, h6, h7, Or.inr ⟨h8, a, rn_here h9 (by omega) h10 (fun _ => hnb), ?_⟩⟩, Nat.le_refl e, fun j x y => absurd y (by omega)⟩
  rw [show upd V m' v m' = v by simp only [upd, if_pos]]
  exact hv m' rfl
/-- the faults -/
theorem scF_word {f : Nat → Int32} {n : Nat} {room : Int} {K V : Nat → Int32} {m a e : Nat} (h : scJ1 f n room K V m a) (ha : a ≤ n) (hnb : a < n → ¬ isBl f a) (hle : rnP (isLe f) n a e) (h0 : 0 ≤ smT K m) (hb : (∀ k : Nat, ¬ wordK f a e k) ∨ ∃ k : Nat, wordK f a e k ∧ room < (m : Int) + 1 + ((1 + smT K m) + (nmT k).toInt - 1)) : txtF f n room a := by
  obtain ⟨a0, h1, h2, h3⟩ := h
  refine ⟨K, V, m, a0, h1, Or.inl ⟨h0, a, e, ⟨rn_here h2 ha h3 hnb, hle⟩, ?_⟩⟩
  rcases hb with hb | ⟨k, hb, hc⟩
  · exact Or.inl ⟨rfl, hb⟩
  · exact Or.inr ⟨k, hb, Or.inl ⟨rfl, hc⟩⟩
theorem scF_more {f : Nat → Int32} {n : Nat} {room : Int} {K V : Nat → Int32} {m a : Nat} (h : scJ1 f n room K V m a) (ha : a < n) (hnb : ¬ isBl f a) (h0 : smT K m = -1) : txtF f n room a := by
  obtain ⟨a0, h1, h2, h3⟩ := h
  exact ⟨K, V, m, a0, h1, Or.inr ⟨h0, rn_here h2 (by omega) h3 (fun _ => hnb), ha⟩⟩
theorem scF_num {f : Nat → Int32} {n : Nat} {room : Int} {K V : Nat → Int32} {m a : Nat} (h : scJ2 f n room K V m a) (ha : a ≤ n) (hnb : a < n → ¬ isBl f a) (hv : ∀ m' : Nat, m = m' + 1 → ∀ (e : Nat) (v : Int32), ¬ numK f n a (K m').toNatClampNeg e v) : txtF f n room a := by
  obtain ⟨m', a0, p, e', h1, h2, h3, h4, h5, h6, h7, h8, h9, h10⟩ := h
  exact ⟨K, V, m', a0, h2, Or.inl ⟨h3, p, e', h4, Or.inr ⟨_, h6, Or.inr ⟨h7, h8, rn_here h9 ha h10 hnb, hv m' h1⟩⟩⟩⟩
theorem wordK_end {f : Nat → Int32} {a k : Nat} : ¬ wordK f a a k := fun h => by
  have h1 := ks_long ⟨k, h.1⟩
  have h2 := h.2.1
  have h1 : 3 ≤ ksL.getD k 0 ∧ ksL.getD k 0 ≤ 7 := h1
  omega
theorem scF_end {f : Nat → Int32} {n : Nat} {room : Int} {K V : Nat → Int32} {m : Nat} (h : scJ1 f n room K V m n) (h0 : 0 ≤ smT K m) : txtF f n room n := scF_word h (Nat.le_refl n) (fun h => absurd h (by omega)) ⟨⟨Nat.le_refl n, Nat.le_refl n⟩, fun i x y => absurd y (by omega), fun h => absurd h (by omega)⟩ h0 (Or.inl (fun k => wordK_end))
theorem numK_end {f : Nat → Int32} {n k e : Nat} {v : Int32} : ¬ numK f n n k e v := fun h => by
  have h1 := h.1.1
  have h2 := h.2.1
  have h3 : n ≤ sgS f n := by unfold sgS; split <;> omega
  omega
theorem scF_endN {f : Nat → Int32} {n : Nat} {room : Int} {K V : Nat → Int32} {m : Nat} (h : scJ2 f n room K V m n) : txtF f n room n := scF_num h (Nat.le_refl n) (fun h => absurd h (by omega)) (fun _ _ _ _ => numK_end)
theorem scK_end {f : Nat → Int32} {n : Nat} {room : Int} {K V : Nat → Int32} {m : Nat} (h : scJ1 f n room K V m n) (h0 : smT K m = -1) : txtK f n room K V m := by
  obtain ⟨a0, h1, h2, h3⟩ := h
  exact ⟨a0, h1, h0, rn_here h2 (Nat.le_refl n) h3 (fun h => absurd h (by omega))⟩
/-- what the class's numberEnd finds -/
def numE (f : Nat → Int32) (n a e : Nat) (u : Int32) : Prop := rnP (isDi f) n (sgS f a) e ∧ ((sgS f a = e ∧ u.toInt = 1000) ∨ (sgS f a < e ∧ ((1000 ≤ dvl f (sgS f a) (e - sgS f a) ∧ u.toInt = 1000) ∨ (dvl f (sgS f a) (e - sgS f a) < 1000 ∧ u.toInt = if (f a).toInt = 45 then - dvl f (sgS f a) (e - sgS f a) else dvl f (sgS f a) (e - sgS f a)))))
theorem ls_in : ∀ k : Nat, -99 ≤ (lsT k).toInt ∧ (lsT k).toInt ≤ 0 ∧ 0 ≤ (msT k).toInt ∧ (msT k).toInt ≤ 99 := by
  intro k
  rcases Nat.lt_or_ge k 13 with h | h
  · have key : ∀ j : Fin 13, -99 ≤ (lsT j.val).toInt ∧ (lsT j.val).toInt ≤ 0 ∧ 0 ≤ (msT j.val).toInt ∧ (msT j.val).toInt ≤ 99 := by decide
    exact key ⟨k, h⟩
  · have e1 : lsT k = 0 := by
      unfold lsT
      rw [List.getD, show ([0, 0, 0, -9, 0, 0, 0, 0, 0, 0, 0, 0, -99] : List Int32)[k]? = none from List.getElem?_eq_none (by simpa using h)]
      rfl
    have e2 : msT k = 0 := by
      unfold msT
      rw [List.getD, show ([0, 0, 0, 9, 0, 0, 0, 0, 6, 0, 0, 0, 99] : List Int32)[k]? = none from List.getElem?_eq_none (by simpa using h)]
      rfl
    rw [e1, e2]
    decide
theorem numE_yes {f : Nat → Int32} {n a e k : Nat} {u : Int32} (h : numE f n a e u) (hu : (lsT k).toInt ≤ u.toInt ∧ u.toInt ≤ (msT k).toInt) : numK f n a k e u := by
  obtain ⟨h1, h2⟩ := h
  have hl := ls_in k
  rcases h2 with ⟨_, h3⟩ | ⟨h3, ⟨_, h4⟩ | ⟨h4, h5⟩⟩
  · omega
  · omega
  · refine ⟨h1, h3, ?_, h5, hu⟩
    by_cases c : (f a).toInt = 45
    · rw [if_pos c] at h5; omega
    · rw [if_neg c] at h5; omega
theorem numE_no {f : Nat → Int32} {n a e k : Nat} {u : Int32} (h : numE f n a e u) (hu : ¬ ((lsT k).toInt ≤ u.toInt ∧ u.toInt ≤ (msT k).toInt)) : ∀ (e' : Nat) (v : Int32), ¬ numK f n a k e' v := by
  intro e' v g
  obtain ⟨h1, h2⟩ := h
  obtain ⟨g1, g2, g3, g4, g5⟩ := g
  have e1 := rnP_uniq h1 g1
  subst e1
  rcases h2 with ⟨h3, _⟩ | ⟨h3, ⟨h4, _⟩ | ⟨h4, h5⟩⟩
  · omega
  · omega
  · rw [← g4] at h5
    exact hu (by rw [h5]; exact g5)
/-- one more digit, as the class counts -/
theorem dvl_min {f : Nat → Int32} {s : Nat} {i i' b b' z : Int32} {s' : Int32} (hs : s = s'.toNatClampNeg) (h0 : 0 ≤ s'.toInt) (hsi : s'.toInt ≤ i.toInt) (hi : i'.toInt = i.toInt + 1) (hd : ∀ j : Nat, s ≤ j → j < i.toNatClampNeg → isDi f j) (hb : b.toInt = min (dvl f s (i.toNatClampNeg - s)) 1000) (hz : z = f i.toNatClampNeg) (hzd : 48 ≤ z.toInt ∧ z.toInt ≤ 57) (hb' : b'.toInt = min (b.toInt * 10 + z.toInt - 48) 1000) : b'.toInt = min (dvl f s (i'.toNatClampNeg - s)) 1000 := by
  have t := tn (x := i) (by omega)
  have t2 := tnS (by omega) hi
  have t3 := tn h0
  have e : i'.toNatClampNeg - s = (i.toNatClampNeg - s) + 1 := by omega
  have p := dvl_pos (f := f) (s := s) (i.toNatClampNeg - s) (fun j a b => hd j a (by omega))
  rw [e]
  show b'.toInt = min (10 * dvl f s (i.toNatClampNeg - s) + ((f (s + (i.toNatClampNeg - s))).toInt - 48)) 1000
  rw [show s + (i.toNatClampNeg - s) = i.toNatClampNeg by omega, ← hz]
  omega
theorem fb_negI {x : Int32} (h : x.toInt ≠ -2147483648) : (-x).toInt = -x.toInt := by
  have := fb_rng x
  rw [Int32.toInt_neg, fb_bmod (by omega) (by omega)]
theorem min_1000 {z x : Int32} (h : z = if (1000 : Int32) < x then 1000 else x) : z.toInt = min x.toInt 1000 := by
  have e : (1000 : Int32).toInt = 1000 := by decide
  rw [h]
  split
  · rename_i c
    rw [fa_lt, e] at c
    rw [e]
    omega
  · rename_i c
    rw [fa_lt, e] at c
    omega
theorem numE_of {f : Nat → Int32} {n a s e : Nat} {u b : Int32} (hsg : sgS f a = s) (hr : rnP (isDi f) n s e) (hb : b.toInt = min (dvl f s (e - s)) 1000) (hu : (s = e ∧ u.toInt = 1000) ∨ (s < e ∧ (((f a).toInt = 45 ∧ b.toInt ≠ 1000 ∧ u.toInt = -b.toInt) ∨ (b.toInt = 1000 ∧ u.toInt = 1000) ∨ (¬ (f a).toInt = 45 ∧ u.toInt = b.toInt)))) : numE f n a e u := by
  unfold numE
  rw [hsg]
  refine ⟨hr, ?_⟩
  rcases hu with hu | ⟨hs, hu⟩
  · exact Or.inl hu
  · refine Or.inr ⟨hs, ?_⟩
    by_cases c : 1000 ≤ dvl f s (e - s)
    · refine Or.inl ⟨c, ?_⟩
      omega
    · refine Or.inr ⟨by omega, ?_⟩
      by_cases c2 : (f a).toInt = 45
      · rw [if_pos c2]; omega
      · rw [if_neg c2]; omega
/-- where the class stands while it reads -/
def scJ (na : Int32) (f : Nat → Int32) (n : Nat) (room : Int) (K V : Nat → Int32) (m a : Nat) : Prop := (na.toInt = 0 ∧ scJ1 f n room K V m a) ∨ (¬ na.toInt = 0 ∧ scJ2 f n room K V m a)
theorem scJ.bl {na : Int32} {f : Nat → Int32} {n : Nat} {room : Int} {K V : Nat → Int32} {m : Nat} {a a' z : Int32} (h : scJ na f n room K V m a.toNatClampNeg) (h0 : 0 ≤ a.toInt) (ha : a'.toInt = a.toInt + 1) (hz : z = f a.toNatClampNeg) (hb : z.toInt = 32) : scJ na f n room K V m a'.toNatClampNeg := by
  have hb2 : isBl f a.toNatClampNeg := by unfold isBl; rw [← hz]; exact hb
  rw [tnS h0 ha]
  rcases h with ⟨h1, h2⟩ | ⟨h1, h2⟩
  · exact Or.inl ⟨h1, scJ1_bl h2 hb2⟩
  · exact Or.inr ⟨h1, scJ2_bl h2 hb2⟩
theorem scJ.end {na : Int32} {f : Nat → Int32} {n : Nat} {room : Int} {K V : Nat → Int32} {m a : Nat} (h : scJ na f n room K V m a) (ha : a = n) (h0 : na.toInt = 0 → 0 ≤ smT K m) : txtF f n room n := by
  subst ha
  rcases h with ⟨h1, h2⟩ | ⟨h1, h2⟩
  · exact scF_end h2 (h0 h1)
  · exact scF_endN h2
theorem scJ.one {na : Int32} {f : Nat → Int32} {n : Nat} {room : Int} {K V : Nat → Int32} {m a : Nat} (h : scJ na f n room K V m a) (h0 : na.toInt = 0) : scJ1 f n room K V m a := by
  rcases h with ⟨_, h2⟩ | ⟨h1, _⟩
  · exact h2
  · exact absurd h0 h1
theorem scJ.two {na : Int32} {f : Nat → Int32} {n : Nat} {room : Int} {K V : Nat → Int32} {m a : Nat} (h : scJ na f n room K V m a) (h0 : ¬ na.toInt = 0) : scJ2 f n room K V m a := by
  rcases h with ⟨h1, _⟩ | ⟨_, h2⟩
  · exact absurd h1 h0
  · exact h2
theorem scJ2.pos {f : Nat → Int32} {n : Nat} {room : Int} {K V : Nat → Int32} {m a : Nat} (h : scJ2 f n room K V m a) : 1 ≤ m := by
  obtain ⟨m', _, _, _, h1, _⟩ := h
  omega
theorem nb_of {f : Nat → Int32} {a : Nat} {z : Int32} (hz : z = f a) (hb : ¬ z.toInt = 32) : ¬ isBl f a := by
  unfold isBl
  rw [← hz]
  exact hb
/-- the class's clause of a word, behind those that it names -/
theorem bld_push {K V : Nat → Int32} {nx cn dn : Nat} {B : clsA} {n0 u0 r kz vz c d : Int32} {f1 f2 f3 f4 u1 u2 u3 u4 : Nat → Int32} (R : rlC n0 f1 f2 f3 f4 B) (hk : kz = K nx) (hv : vz = V nx) (hc : c = nI cn) (hd : d = nI dn) (hr : r = n0) (hu : u0.toInt = n0.toInt + 1) (hw : u1 = upd f1 n0.toNatClampNeg kz ∧ u2 = upd f2 n0.toNatClampNeg vz ∧ u3 = upd f3 n0.toNatClampNeg (if 1 ≤ (nmT kz.toNatClampNeg).toInt then c else -1) ∧ u4 = upd f4 n0.toNatClampNeg (if (nmT kz.toNatClampNeg).toInt = 2 then d else -1)) : r = nI B.1 ∧ rlC u0 u1 u2 u3 u4 (clsP B (K nx) (V nx) (nI cn) (nI dn)) := by
  obtain ⟨w1, w2, w3, w4⟩ := hw
  refine ⟨?_, ?_⟩
  · rw [hr, ← rlC_clamp R, nI_back (by have := R.1; omega)]
  · rw [← hk, ← hv, ← hc, ← hd, w1, w2, w3, w4]
    exact rlC_push R hu
/-- text(), in the class -/
def textC (fb : Nat → Int32) (n n0 r u0 : Int32) (f1 f2 f3 f4 u1 u2 u3 u4 : Nat → Int32) : Prop := (∃ q : Nat, txtF fb n.toNatClampNeg (24 - n0.toInt) q ∧ r.toInt = -100 - q ∧ (u0 = n0 ∧ u1 = f1 ∧ u2 = f2 ∧ u3 = f3 ∧ u4 = f4)) ∨ (∃ (K V : Nat → Int32) (m : Nat), txtK fb n.toNatClampNeg (24 - n0.toInt) K V m ∧ ∀ A : clsA, rlC n0 f1 f2 f3 f4 A → ∃ (nb rb : Nat) (B : clsA), bldR K V 0 A nb rb B ∧ nb ≤ m ∧ r = nI rb ∧ rlC u0 u1 u2 u3 u4 B)
/-- in the reference -/
def textR (fb : Nat → Int32) (n n0 r u0 : Int32) (f1 f2 f3 f4 u1 u2 u3 u4 : Nat → Int32) : Prop := (∃ q : Nat, txtF fb n.toNatClampNeg (24 - n0.toInt) q ∧ r.toInt = -100 - q ∧ u0 = n0 ∧ ∀ j : Nat, (j : Int) < n0.toInt → u1 j = f1 j ∧ u2 j = f2 j ∧ u3 j = f3 j ∧ u4 j = f4 j) ∨ (∃ (K V : Nat → Int32) (m nb rb : Nat), txtK fb n.toNatClampNeg (24 - n0.toInt) K V m ∧ bldR K V 0 (rfA n0 f1 f2 f3 f4) nb rb (rfA u0 u1 u2 u3 u4) ∧ nb ≤ m ∧ r = nI rb)
theorem text_rel {fb : Nat → Int32} {n n0 n1 r r' u0 w0 : Int32} {f1 f2 f3 f4 u1 u2 u3 u4 g1 g2 g3 g4 w1 w2 w3 w4 : Nat → Int32} (R : rlC n0 f1 f2 f3 f4 (rfA n1 g1 g2 g3 g4)) (hn : 0 ≤ n1.toInt) (C : textC fb n n0 r u0 f1 f2 f3 f4 u1 u2 u3 u4) (M : textR fb n n1 r' w0 g1 g2 g3 g4 w1 w2 w3 w4) : r = r' ∧ rlC u0 u1 u2 u3 u4 (rfA w0 w1 w2 w3 w4) := by
  have e := rlC_size R hn
  subst e
  rcases C with ⟨q, c1, c2, c3⟩ | ⟨K, V, m, c1, c2⟩
  · rcases M with ⟨q', m1, m2, m3, m4⟩ | ⟨K', V', m', nb, rb, m1, _⟩
    · have e2 := txtF_uniq c1 m1
      subst e2
      obtain ⟨rfl, rfl, rfl, rfl, rfl⟩ := c3
      subst m3
      refine ⟨Int32.toInt_inj.1 (by omega), R.1, fun j hj => ?_⟩
      have t := tn hn
      have hj : j < w0.toNatClampNeg := hj
      obtain ⟨a1, a2, a3, a4⟩ := m4 j (by omega)
      have h := R.2 j hj
      show u1 j = w1 j ∧ u2 j = w2 j ∧ u3 j = (if 1 ≤ (nmT (w1 j).toNatClampNeg).toInt then w3 j else -1) ∧ u4 j = (if (nmT (w1 j).toNatClampNeg).toInt = 2 then w4 j else -1)
      rw [a1, a2, a3, a4]
      exact h
    · exact (txtK_F m1 c1).elim
  · rcases M with ⟨q', m1, _⟩ | ⟨K', V', m', nb, rb, m1, m2, m3, m4⟩
    · exact (txtK_F c1 m1).elim
    · obtain ⟨e2, e3⟩ := txtK_uniq c1 m1
      obtain ⟨nb', rb', B, c3, c4, c5, c6⟩ := c2 _ R
      have c3' := bldR_local c3 (K' := K') (V' := V') (fun j _ hj => e3 j (by omega))
      obtain ⟨_, e5, e6⟩ := bldR_uniq c3' m2
      rw [e6] at c6
      exact ⟨by rw [c5, m4, e5], c6⟩
theorem tneq {x y : Int32} (h : 0 ≤ x.toInt) (e : y.toInt = x.toInt) : y.toNatClampNeg = x.toNatClampNeg := by
  have h1 := tn h
  have h2 := tn (x := y) (by omega)
  omega
end
