theorem dX9_store_0 : decode cX9_store 0 = .ok (.aload_n 0, 1) := by decide +kernel
theorem dX9_store_1 : decode cX9_store 1 = .ok (.getfield 9, 3) := by decide +kernel
theorem dX9_store_32 : decode cX9_store 32 = .ok (.lload_n 2, 1) := by decide +kernel
theorem dX9_store_33 : decode cX9_store 33 = .ok (.lload_n 2, 1) := by decide +kernel
theorem dX9_store_34 : decode cX9_store 34 = .ok (.l2i, 1) := by decide +kernel
theorem dX9_store_35 : decode cX9_store 35 = .ok (.i2l, 1) := by decide +kernel
theorem dX9_store_36 : decode cX9_store 36 = .ok (.lcmp, 1) := by decide +kernel
theorem dX9_store_37 : decode cX9_store 37 = .ok (.ifCond .eq 5, 3) := by decide +kernel
theorem dX9_store_4 : decode cX9_store 4 = .ok (.tableswitch 67 0 2 #[28, 48, 57], 28) := by decide +kernel
theorem dX9_store_40 : decode cX9_store 40 = .ok (.iconst 0, 1) := by decide +kernel
theorem dX9_store_41 : decode cX9_store 41 = .ok (.ireturn, 1) := by decide +kernel
theorem dX9_store_42 : decode cX9_store 42 = .ok (.aload_n 0, 1) := by decide +kernel
theorem dX9_store_43 : decode cX9_store 43 = .ok (.getfield 18, 3) := by decide +kernel
theorem dX9_store_46 : decode cX9_store 46 = .ok (.iload_n 1, 1) := by decide +kernel
theorem dX9_store_47 : decode cX9_store 47 = .ok (.lload_n 2, 1) := by decide +kernel
theorem dX9_store_48 : decode cX9_store 48 = .ok (.l2i, 1) := by decide +kernel
theorem dX9_store_49 : decode cX9_store 49 = .ok (.iastore, 1) := by decide +kernel
theorem dX9_store_50 : decode cX9_store 50 = .ok (.iconst 1, 1) := by decide +kernel
theorem dX9_store_51 : decode cX9_store 51 = .ok (.ireturn, 1) := by decide +kernel
theorem dX9_store_52 : decode cX9_store 52 = .ok (.aload_n 0, 1) := by decide +kernel
theorem dX9_store_53 : decode cX9_store 53 = .ok (.getfield 22, 3) := by decide +kernel
theorem dX9_store_56 : decode cX9_store 56 = .ok (.iload_n 1, 1) := by decide +kernel
theorem dX9_store_57 : decode cX9_store 57 = .ok (.lload_n 2, 1) := by decide +kernel
theorem dX9_store_58 : decode cX9_store 58 = .ok (.lastore, 1) := by decide +kernel
theorem dX9_store_59 : decode cX9_store 59 = .ok (.iconst 1, 1) := by decide +kernel
theorem dX9_store_60 : decode cX9_store 60 = .ok (.ireturn, 1) := by decide +kernel
theorem dX9_store_61 : decode cX9_store 61 = .ok (.aload_n 0, 1) := by decide +kernel
theorem dX9_store_62 : decode cX9_store 62 = .ok (.getfield 26, 3) := by decide +kernel
theorem dX9_store_65 : decode cX9_store 65 = .ok (.iload_n 1, 1) := by decide +kernel
theorem dX9_store_66 : decode cX9_store 66 = .ok (.lload_n 2, 1) := by decide +kernel
theorem dX9_store_67 : decode cX9_store 67 = .ok (.l2f, 1) := by decide +kernel
theorem dX9_store_68 : decode cX9_store 68 = .ok (.fastore, 1) := by decide +kernel
theorem dX9_store_69 : decode cX9_store 69 = .ok (.iconst 1, 1) := by decide +kernel
theorem dX9_store_70 : decode cX9_store 70 = .ok (.ireturn, 1) := by decide +kernel
theorem dX9_store_71 : decode cX9_store 71 = .ok (.aload_n 0, 1) := by decide +kernel
theorem dX9_store_72 : decode cX9_store 72 = .ok (.getfield 30, 3) := by decide +kernel
theorem dX9_store_75 : decode cX9_store 75 = .ok (.iload_n 1, 1) := by decide +kernel
theorem dX9_store_76 : decode cX9_store 76 = .ok (.lload_n 2, 1) := by decide +kernel
theorem dX9_store_77 : decode cX9_store 77 = .ok (.l2d, 1) := by decide +kernel
theorem dX9_store_78 : decode cX9_store 78 = .ok (.dastore, 1) := by decide +kernel
theorem dX9_store_79 : decode cX9_store 79 = .ok (.iconst 1, 1) := by decide +kernel
theorem dX9_store_80 : decode cX9_store 80 = .ok (.ireturn, 1) := by decide +kernel
set_option maxRecDepth 20000 in
theorem in_X9_store_X9 : ∀ w ∈ wsX90, w ∈ wsX9_store := sub_r [6, 7, 8, 9, 10, 11] rfl
set_option maxHeartbeats 4000000 in
set_option maxRecDepth 100000 in
theorem c_X9_store (l : Launch) (D : va_G) (T : Nat → ClassId) (sz : Nat) (h0 : Nat) (so : Int32) (sn : Int32) (s0 : Nat) (s1 : Nat) (s2 : Nat) (s3 : Nat) (f0 : Nat → Int32) (f1 : Nat → Int64) (f2 : Nat → UInt32) (f3 : Nat → UInt64) (x1 : Int32) (x2 : Int64) (hin1 : vp_in x1 30) : Met l yX9_store wsX9_store ({ frames := 0, cells := 0, slots := 0, locals := 0 }) (pW [.ref h0, .int x1, .long x2] D T [(h0, .inr (6, [.int so, .int sn, .ref s0, .ref s1, .ref s2, .ref s3])), (s0, .inl (T 0, 30, .inl f0)), (s1, .inl (T 1, 30, .inr (.inl f1))), (s2, .inl (T 2, 30, .inr (.inr (.inl f2)))), (s3, .inl (T 3, 30, .inr (.inr (.inr (.inl f3)))))] sz) (va_Qi (fun (r : Int32) (u : (Nat → Int32) × (Nat → Int64) × (Nat → UInt32) × (Nat → UInt64)) => (r = 0 ∨ r = 1) ∧ (so.toInt = 0 ∧ ¬ x2.toInt = x2.toInt32.toInt → r.toInt = 0) ∧ (¬ (so.toInt = 0 ∧ ¬ x2.toInt = x2.toInt32.toInt) → r.toInt = 1)) (bW D (va_A [(h0, .inr (6, [.int so, .int sn, .ref s0, .ref s1, .ref s2, .ref s3])), (s0, .inl (T 0, 30, .inl f0)), (s1, .inl (T 1, 30, .inr (.inl f1))), (s2, .inl (T 2, 30, .inr (.inr (.inl f2)))), (s3, .inl (T 3, 30, .inr (.inr (.inr (.inl f3)))))] sz) (fun (u : (Nat → Int32) × (Nat → Int64) × (Nat → UInt32) × (Nat → UInt64)) => [(h0, .inr (6, [.int so, .int sn, .ref s0, .ref s1, .ref s2, .ref s3])), (s0, .inl (T 0, 30, .inl u.1)), (s1, .inl (T 1, 30, .inr (.inl u.2.1))), (s2, .inl (T 2, 30, .inr (.inr (.inl u.2.2.1)))), (s3, .inl (T 3, 30, .inr (.inr (.inr (.inl u.2.2.2)))))])) (va_A [(h0, .inr (6, [.int so, .int sn, .ref s0, .ref s1, .ref s2, .ref s3])), (s0, .inl (T 0, 30, .inl f0)), (s1, .inl (T 1, 30, .inr (.inl f1))), (s2, .inl (T 2, 30, .inr (.inr (.inl f2)))), (s3, .inl (T 3, 30, .inr (.inr (.inr (.inl f3)))))] sz)) 0 0 (va_A [(h0, .inr (6, [.int so, .int sn, .ref s0, .ref s1, .ref s2, .ref s3])), (s0, .inl (T 0, 30, .inl f0)), (s1, .inl (T 1, 30, .inr (.inl f1))), (s2, .inl (T 2, 30, .inr (.inr (.inl f2)))), (s3, .inl (T 3, 30, .inr (.inr (.inr (.inl f3)))))] sz) := by
  refine Met.ofW (cc := cX9_store) (maxL := 4) (ret := (some .boolean)) (by decide +kernel) rfl ?_
  intro p e s m args below meth c s₁ B hml hv
  obtain ⟨rfl, hsz, hP, hE, hD0⟩ := hv
  have hx := B.exec
  have hb := B.bytes
  have hr := B.returns
  have hts := atoms_spec (ws := wsX9_store) B.pre
  have hown : s.vm.findClass RX9 = some m.cls := findClass_of_methodNamed B.named
  have hlocks := B.notSynchronized
  subst hsz
  have hD := hD0.self (sz := s.heap.size)
  generalize hAe : va_A [(h0, .inr (6, [.int so, .int sn, .ref s0, .ref s1, .ref s2, .ref s3])), (s0, .inl (T 0, 30, .inl f0)), (s1, .inl (T 1, 30, .inr (.inl f1))), (s2, .inl (T 2, 30, .inr (.inr (.inl f2)))), (s3, .inl (T 3, 30, .inr (.inr (.inr (.inl f3)))))] s.heap.size = A at hD ⊢
  have hA : ∀ q : Nat, s.heap.size ≤ q → A q := fun q h => by rw [← hAe]; exact Or.inr h
  have hS : va_S A s.heap s.heap [] := va_S.rf
  have hP : va_P D vwCl [(h0, .inr (6, [.int so, .int sn, .ref s0, .ref s1, .ref s2, .ref s3])), (s0, .inl (T 0, 30, .inl f0)), (s1, .inl (T 1, 30, .inr (.inl f1))), (s2, .inl (T 2, 30, .inr (.inr (.inl f2)))), (s3, .inl (T 3, 30, .inr (.inr (.inr (.inl f3)))))] s.heap := hP
  have hl := lv_entry ([.ref h0, .int x1, .long x2]) (n := 4) (Nat.le_of_ble_eq_true rfl)
  rw [lg_entry_eq]
  generalize (lg_sl ([.ref h0, .int x1, .long x2]) ++ List.replicate (4 - (lg_sl ([.ref h0, .int x1, .long x2])).length) Slot.unset).toArray = ls at hl ⊢
  have hl : lv_has ls 4 [(0, .ref h0), (1, .int x1), (2, .long x2)] := hl
  clear hD0
  refine lv_aload_n hx hb dX9_store_0 rfl (lv_at hl 0 rfl) ?_
  refine va_get (D := D) (ci := 6) (v := .int so) (C := RX9) (T := TX9) (N := 6) hx hb hts in_X9_store_X9 hown hE.1 hP 0 rfl rfl 0 (by decide +kernel) (hts (.fieldLink RX9 9 "ClauseBook$Sheet" "sort" "I") (List.mem_of_getElem? (i := 1) rfl)) (fun _ h9 => h9) rfl dX9_store_1 ?_
  by_cases k_1 : so = 0
  · obtain rfl := k_1
    refine lv_tableIn (off := 28) (tgt := 32) hx hb dX9_store_4 (by decide +kernel) (by decide +kernel) (by decide +kernel) (by decide +kernel) ?_
    refine lv_lload_n hx hb dX9_store_32 rfl (lv_at hl 2 rfl) ?_
    refine lv_lload_n hx hb dX9_store_33 rfl (lv_at hl 2 rfl) ?_
    refine lv_l2i hx hb dX9_store_34 rfl ?_
    refine lv_i2l hx hb dX9_store_35 rfl ?_
    refine W.lcmp hx hb dX9_store_36 ?_
    refine lv_if_eq (tgt := 42) hx hb dX9_store_37 (by decide +kernel) (fun c_2 => ?_) (fun c_2 => ?_)
    · rw [lcmp_eq] at c_2
      try rw [((Int32.toInt_toInt64 _).trans rfl)] at c_2
      refine lv_aload_n hx hb dX9_store_42 rfl (lv_at hl 0 rfl) ?_
      refine va_get (D := D) (ci := 6) (v := .ref s0) (C := RX9) (T := TX9) (N := 6) hx hb hts in_X9_store_X9 hown hE.1 hP 0 rfl rfl 2 (by decide +kernel) (hts (.fieldLink RX9 18 "ClauseBook$Sheet" "ints" "[I") (List.mem_of_getElem? (i := 2) rfl)) (fun _ h9 => h9) rfl dX9_store_43 ?_
      refine lv_iload_n hx hb dX9_store_46 rfl (lv_at hl 1 rfl) ?_
      refine lv_lload_n hx hb dX9_store_47 rfl (lv_at hl 2 rfl) ?_
      refine lv_l2i hx hb dX9_store_48 rfl ?_
      refine va_iast hx hb hE.1 hP hD hS 1 0 rfl rfl (by assumption) dX9_store_49 (fun H locs hP hD hS => ?_)
      obtain ⟨hP, hD⟩ := wPD [(h0, .inr (6, [.int 0, .int sn, .ref s0, .ref s1, .ref s2, .ref s3])), (s0, .inl (T 0, 30, .inl (upd f0 (x1.toNatClampNeg) (x2.toInt32)))), (s1, .inl (T 1, 30, .inr (.inl f1))), (s2, .inl (T 2, 30, .inr (.inr (.inl f2)))), (s3, .inl (T 3, 30, .inr (.inr (.inr (.inl f3)))))] hP hD rfl
      refine lv_iconst (v := 1) hx hb dX9_store_50 (by decide +kernel) ?_
      exact W.zret hx hb hr rfl (fun t ht hW => ⟨⟨_, ((upd f0 (x1.toNatClampNeg) (x2.toInt32)), f1, f2, f3), rfl, ⟨(Or.inr rfl), (by (try dsimp only); have h9r := ti_1; have h9z := ti_0; have h9o := ti_1; have h9w := ti_2; omega)⟩, by rw [ht]; exact hP.sub [0, 1, 2, 3, 4] rfl, hD.sub [0, 1, 2, 3, 4] (by decide +kernel) rfl⟩, hS.F ht⟩) hS.2.2 dX9_store_51
    · rw [lcmp_eq] at c_2
      try rw [((Int32.toInt_toInt64 _).trans rfl)] at c_2
      refine lv_iconst (v := 0) hx hb dX9_store_40 (by decide +kernel) ?_
      exact W.zret hx hb hr rfl (fun t ht hW => ⟨⟨_, (f0, f1, f2, f3), rfl, ⟨(Or.inl rfl), (by (try dsimp only); have h9r := ti_0; have h9z := ti_0; have h9o := ti_1; have h9w := ti_2; omega)⟩, by rw [ht]; exact hP.sub [0, 1, 2, 3, 4] rfl, hD.sub [0, 1, 2, 3, 4] (by decide +kernel) rfl⟩, hS.F ht⟩) hS.2.2 dX9_store_41
  by_cases k_3 : so = 1
  · obtain rfl := k_3
    refine lv_tableIn (off := 48) (tgt := 52) hx hb dX9_store_4 (by decide +kernel) (by decide +kernel) (by decide +kernel) (by decide +kernel) ?_
    refine lv_aload_n hx hb dX9_store_52 rfl (lv_at hl 0 rfl) ?_
    refine va_get (D := D) (ci := 6) (v := .ref s1) (C := RX9) (T := TX9) (N := 6) hx hb hts in_X9_store_X9 hown hE.1 hP 0 rfl rfl 3 (by decide +kernel) (hts (.fieldLink RX9 22 "ClauseBook$Sheet" "longs" "[J") (List.mem_of_getElem? (i := 3) rfl)) (fun _ h9 => h9) rfl dX9_store_53 ?_
    refine lv_iload_n hx hb dX9_store_56 rfl (lv_at hl 1 rfl) ?_
    refine lv_lload_n hx hb dX9_store_57 rfl (lv_at hl 2 rfl) ?_
    refine va_last hx hb hE.1 hP hD hS 2 1 rfl rfl (by assumption) dX9_store_58 (fun H locs hP hD hS => ?_)
    obtain ⟨hP, hD⟩ := wPD [(h0, .inr (6, [.int 1, .int sn, .ref s0, .ref s1, .ref s2, .ref s3])), (s0, .inl (T 0, 30, .inl f0)), (s1, .inl (T 1, 30, .inr (.inl (vp_updL f1 (x1.toNatClampNeg) x2)))), (s2, .inl (T 2, 30, .inr (.inr (.inl f2)))), (s3, .inl (T 3, 30, .inr (.inr (.inr (.inl f3)))))] hP hD rfl
    refine lv_iconst (v := 1) hx hb dX9_store_59 (by decide +kernel) ?_
    exact W.zret hx hb hr rfl (fun t ht hW => ⟨⟨_, (f0, (vp_updL f1 (x1.toNatClampNeg) x2), f2, f3), rfl, ⟨(Or.inr rfl), (by (try dsimp only); have h9r := ti_1; have h9z := ti_0; have h9o := ti_1; have h9w := ti_2; omega)⟩, by rw [ht]; exact hP.sub [0, 1, 2, 3, 4] rfl, hD.sub [0, 1, 2, 3, 4] (by decide +kernel) rfl⟩, hS.F ht⟩) hS.2.2 dX9_store_60
  by_cases k_4 : so = 2
  · obtain rfl := k_4
    refine lv_tableIn (off := 57) (tgt := 61) hx hb dX9_store_4 (by decide +kernel) (by decide +kernel) (by decide +kernel) (by decide +kernel) ?_
    refine lv_aload_n hx hb dX9_store_61 rfl (lv_at hl 0 rfl) ?_
    refine va_get (D := D) (ci := 6) (v := .ref s2) (C := RX9) (T := TX9) (N := 6) hx hb hts in_X9_store_X9 hown hE.1 hP 0 rfl rfl 4 (by decide +kernel) (hts (.fieldLink RX9 26 "ClauseBook$Sheet" "floats" "[F") (List.mem_of_getElem? (i := 4) rfl)) (fun _ h9 => h9) rfl dX9_store_62 ?_
    refine lv_iload_n hx hb dX9_store_65 rfl (lv_at hl 1 rfl) ?_
    refine lv_lload_n hx hb dX9_store_66 rfl (lv_at hl 2 rfl) ?_
    refine lv_l2f hx hb dX9_store_67 ?_
    refine va_fast hx hb hE.1 hP hD hS 3 2 rfl rfl (by assumption) dX9_store_68 (fun H locs hP hD hS => ?_)
    obtain ⟨hP, hD⟩ := wPD [(h0, .inr (6, [.int 2, .int sn, .ref s0, .ref s1, .ref s2, .ref s3])), (s0, .inl (T 0, 30, .inl f0)), (s1, .inl (T 1, 30, .inr (.inl f1))), (s2, .inl (T 2, 30, .inr (.inr (.inl (vf_upd f2 (x1.toNatClampNeg) (FP.l2f x2)))))), (s3, .inl (T 3, 30, .inr (.inr (.inr (.inl f3)))))] hP hD rfl
    refine lv_iconst (v := 1) hx hb dX9_store_69 (by decide +kernel) ?_
    exact W.zret hx hb hr rfl (fun t ht hW => ⟨⟨_, (f0, f1, (vf_upd f2 (x1.toNatClampNeg) (FP.l2f x2)), f3), rfl, ⟨(Or.inr rfl), (by (try dsimp only); have h9r := ti_1; have h9z := ti_0; have h9o := ti_1; have h9w := ti_2; omega)⟩, by rw [ht]; exact hP.sub [0, 1, 2, 3, 4] rfl, hD.sub [0, 1, 2, 3, 4] (by decide +kernel) rfl⟩, hS.F ht⟩) hS.2.2 dX9_store_70
  rw [fa_eq] at k_1 k_3 k_4
  try simp only [ti_0, ti_1, ti_2] at k_1 k_3 k_4
  refine lv_tableOut (tgt := 71) hx hb dX9_store_4 (by omega) (by decide +kernel) ?_
  refine lv_aload_n hx hb dX9_store_71 rfl (lv_at hl 0 rfl) ?_
  refine va_get (D := D) (ci := 6) (v := .ref s3) (C := RX9) (T := TX9) (N := 6) hx hb hts in_X9_store_X9 hown hE.1 hP 0 rfl rfl 5 (by decide +kernel) (hts (.fieldLink RX9 30 "ClauseBook$Sheet" "doubles" "[D") (List.mem_of_getElem? (i := 5) rfl)) (fun _ h9 => h9) rfl dX9_store_72 ?_
  refine lv_iload_n hx hb dX9_store_75 rfl (lv_at hl 1 rfl) ?_
  refine lv_lload_n hx hb dX9_store_76 rfl (lv_at hl 2 rfl) ?_
  refine lv_l2d hx hb dX9_store_77 ?_
  refine va_dast hx hb hE.1 hP hD hS 4 3 rfl rfl (by assumption) dX9_store_78 (fun H locs hP hD hS => ?_)
  obtain ⟨hP, hD⟩ := wPD [(h0, .inr (6, [.int so, .int sn, .ref s0, .ref s1, .ref s2, .ref s3])), (s0, .inl (T 0, 30, .inl f0)), (s1, .inl (T 1, 30, .inr (.inl f1))), (s2, .inl (T 2, 30, .inr (.inr (.inl f2)))), (s3, .inl (T 3, 30, .inr (.inr (.inr (.inl (vf_upd f3 (x1.toNatClampNeg) (FP.l2d x2)))))))] hP hD rfl
  refine lv_iconst (v := 1) hx hb dX9_store_79 (by decide +kernel) ?_
  exact W.zret hx hb hr rfl (fun t ht hW => ⟨⟨_, (f0, f1, f2, (vf_upd f3 (x1.toNatClampNeg) (FP.l2d x2))), rfl, ⟨(Or.inr rfl), (by (try dsimp only); have h9r := ti_1; have h9z := ti_0; have h9o := ti_1; have h9w := ti_2; omega)⟩, by rw [ht]; exact hP.sub [0, 1, 2, 3, 4] rfl, hD.sub [0, 1, 2, 3, 4] (by decide +kernel) rfl⟩, hS.F ht⟩) hS.2.2 dX9_store_80
theorem dX9_become_0 : decode cX9_become 0 = .ok (.aload_n 0, 1) := by decide +kernel
theorem dX9_become_1 : decode cX9_become 1 = .ok (.iload_n 1, 1) := by decide +kernel
theorem dX9_become_10 : decode cX9_become 10 = .ok (.iconst 0, 1) := by decide +kernel
theorem dX9_become_11 : decode cX9_become 11 = .ok (.istore_n 3, 1) := by decide +kernel
theorem dX9_become_12 : decode cX9_become 12 = .ok (.iload_n 3, 1) := by decide +kernel
theorem dX9_become_13 : decode cX9_become 13 = .ok (.iload_n 2, 1) := by decide +kernel
theorem dX9_become_14 : decode cX9_become 14 = .ok (.if_icmp .ge 16, 3) := by decide +kernel
theorem dX9_become_17 : decode cX9_become 17 = .ok (.aload_n 0, 1) := by decide +kernel
theorem dX9_become_18 : decode cX9_become 18 = .ok (.iload_n 3, 1) := by decide +kernel
theorem dX9_become_19 : decode cX9_become 19 = .ok (.lconst 0, 1) := by decide +kernel
theorem dX9_become_2 : decode cX9_become 2 = .ok (.putfield 9, 3) := by decide +kernel
theorem dX9_become_20 : decode cX9_become 20 = .ok (.invokevirtual 34, 3) := by decide +kernel
theorem dX9_become_23 : decode cX9_become 23 = .ok (.pop, 1) := by decide +kernel
theorem dX9_become_24 : decode cX9_become 24 = .ok (.iinc 3 1, 3) := by decide +kernel
theorem dX9_become_27 : decode cX9_become 27 = .ok (.goto (-15), 3) := by decide +kernel
theorem dX9_become_30 : decode cX9_become 30 = .ok (.return_, 1) := by decide +kernel
theorem dX9_become_5 : decode cX9_become 5 = .ok (.aload_n 0, 1) := by decide +kernel
theorem dX9_become_6 : decode cX9_become 6 = .ok (.iload_n 2, 1) := by decide +kernel
theorem dX9_become_7 : decode cX9_become 7 = .ok (.putfield 15, 3) := by decide +kernel
set_option maxRecDepth 20000 in
theorem ggX9_become_X9_store : GoodIn wsX9_become wsX9_store := goodIn_r _ [7, 1, 8, 9, 10, 11, 12, 13, 14, 15, 16, 17] rfl (by decide +kernel)
set_option maxRecDepth 20000 in
theorem gX9_become_X9_store : GoodIn wsX9_become (wsV RX9 34 RX9 yX9_store wsX9_store) := goodIn_app (goodIn_r _ [3, 4, 5, 6] rfl (by decide +kernel)) ggX9_become_X9_store
theorem hv_X9_store : yX9_store.cls = RX9 ∧ yX9_store.cls ≠ "java/lang/invoke/MethodHandle" ∧ yX9_store.cls ≠ "java/lang/invoke/VarHandle" ∧ (parseMethodDescriptor yX9_store.desc).map (fun d => d.parameters.length) = some 2 := by decide +kernel
set_option maxRecDepth 20000 in
theorem in_X9_become_X9 : ∀ w ∈ wsX90, w ∈ wsX9_become := sub_r [12, 13, 14, 15, 16, 17] rfl
set_option maxHeartbeats 4000000 in
set_option maxRecDepth 100000 in
theorem c_X9_become (l : Launch) (D : va_G) (T : Nat → ClassId) (sz : Nat) (h0 : Nat) (so : Int32) (sn : Int32) (s0 : Nat) (s1 : Nat) (s2 : Nat) (s3 : Nat) (f0 : Nat → Int32) (f1 : Nat → Int64) (f2 : Nat → UInt32) (f3 : Nat → UInt64) (x1 : Int32) (x2 : Int32) (hn : x2.toInt ≤ 30) : Met l yX9_become wsX9_become ({ frames := 1, cells := 0, slots := 0, locals := 23 }) (pW [.ref h0, .int x1, .int x2] D T [(h0, .inr (6, [.int so, .int sn, .ref s0, .ref s1, .ref s2, .ref s3])), (s0, .inl (T 0, 30, .inl f0)), (s1, .inl (T 1, 30, .inr (.inl f1))), (s2, .inl (T 2, 30, .inr (.inr (.inl f2)))), (s3, .inl (T 3, 30, .inr (.inr (.inr (.inl f3)))))] sz) (va_Qv (fun (u : (Nat → Int32) × (Nat → Int64) × (Nat → UInt32) × (Nat → UInt64)) => True) (bW D (va_A [(h0, .inr (6, [.int so, .int sn, .ref s0, .ref s1, .ref s2, .ref s3])), (s0, .inl (T 0, 30, .inl f0)), (s1, .inl (T 1, 30, .inr (.inl f1))), (s2, .inl (T 2, 30, .inr (.inr (.inl f2)))), (s3, .inl (T 3, 30, .inr (.inr (.inr (.inl f3)))))] sz) (fun (u : (Nat → Int32) × (Nat → Int64) × (Nat → UInt32) × (Nat → UInt64)) => [(h0, .inr (6, [.int x1, .int x2, .ref s0, .ref s1, .ref s2, .ref s3])), (s0, .inl (T 0, 30, .inl u.1)), (s1, .inl (T 1, 30, .inr (.inl u.2.1))), (s2, .inl (T 2, 30, .inr (.inr (.inl u.2.2.1)))), (s3, .inl (T 3, 30, .inr (.inr (.inr (.inl u.2.2.2)))))])) (va_A [(h0, .inr (6, [.int so, .int sn, .ref s0, .ref s1, .ref s2, .ref s3])), (s0, .inl (T 0, 30, .inl f0)), (s1, .inl (T 1, 30, .inr (.inl f1))), (s2, .inl (T 2, 30, .inr (.inr (.inl f2)))), (s3, .inl (T 3, 30, .inr (.inr (.inr (.inl f3)))))] sz)) 0 0 (va_A [(h0, .inr (6, [.int so, .int sn, .ref s0, .ref s1, .ref s2, .ref s3])), (s0, .inl (T 0, 30, .inl f0)), (s1, .inl (T 1, 30, .inr (.inl f1))), (s2, .inl (T 2, 30, .inr (.inr (.inl f2)))), (s3, .inl (T 3, 30, .inr (.inr (.inr (.inl f3)))))] sz) := by
  refine Met.ofW (cc := cX9_become) (maxL := 4) (ret := none) (by decide +kernel) rfl ?_
  intro p e s m args below meth c s₁ B hml hv
  obtain ⟨rfl, hsz, hP, hE, hD0⟩ := hv
  have hx := B.exec
  have hb := B.bytes
  have hr := B.returns
  have hts := atoms_spec (ws := wsX9_become) B.pre
  have hown : s.vm.findClass RX9 = some m.cls := findClass_of_methodNamed B.named
  have hlocks := B.notSynchronized
  subst hsz
  have hD := hD0.self (sz := s.heap.size)
  generalize hAe : va_A [(h0, .inr (6, [.int so, .int sn, .ref s0, .ref s1, .ref s2, .ref s3])), (s0, .inl (T 0, 30, .inl f0)), (s1, .inl (T 1, 30, .inr (.inl f1))), (s2, .inl (T 2, 30, .inr (.inr (.inl f2)))), (s3, .inl (T 3, 30, .inr (.inr (.inr (.inl f3)))))] s.heap.size = A at hD ⊢
  have hA : ∀ q : Nat, s.heap.size ≤ q → A q := fun q h => by rw [← hAe]; exact Or.inr h
  have hS : va_S A s.heap s.heap [] := va_S.rf
  have hP : va_P D vwCl [(h0, .inr (6, [.int so, .int sn, .ref s0, .ref s1, .ref s2, .ref s3])), (s0, .inl (T 0, 30, .inl f0)), (s1, .inl (T 1, 30, .inr (.inl f1))), (s2, .inl (T 2, 30, .inr (.inr (.inl f2)))), (s3, .inl (T 3, 30, .inr (.inr (.inr (.inl f3)))))] s.heap := hP
  have hl := lv_entry ([.ref h0, .int x1, .int x2]) (n := 4) (Nat.le_of_ble_eq_true rfl)
  rw [lg_entry_eq]
  generalize (lg_sl ([.ref h0, .int x1, .int x2]) ++ List.replicate (4 - (lg_sl ([.ref h0, .int x1, .int x2])).length) Slot.unset).toArray = ls at hl ⊢
  have hl : lv_has ls 4 [(0, .ref h0), (1, .int x1), (2, .int x2)] := hl
  clear hD0
  refine lv_aload_n hx hb dX9_become_0 rfl (lv_at hl 0 rfl) ?_
  refine lv_iload_n hx hb dX9_become_1 rfl (lv_at hl 1 rfl) ?_
  refine va_put (D := D) (ci := 6) (v := .int x1) (ty := .int) (C := RX9) (T := TX9) (N := 6) hx hb hts in_X9_become_X9 tyX9 tyX9_ok nmX9 hown hE.1 hP hD hS 0 rfl rfl 0 (by decide +kernel) (hts (.fieldLink RX9 9 "ClauseBook$Sheet" "sort" "I") (List.mem_of_getElem? (i := 1) rfl)) (fun _ h9 => h9) rfl (by decide +kernel) rfl rfl (Nat.le_of_ble_eq_true rfl) dX9_become_2 (fun H locs hP hD hS => ?_)
  obtain ⟨hP, hD⟩ := wPD [(h0, .inr (6, [.int x1, .int sn, .ref s0, .ref s1, .ref s2, .ref s3])), (s0, .inl (T 0, 30, .inl f0)), (s1, .inl (T 1, 30, .inr (.inl f1))), (s2, .inl (T 2, 30, .inr (.inr (.inl f2)))), (s3, .inl (T 3, 30, .inr (.inr (.inr (.inl f3)))))] hP hD rfl
  refine lv_aload_n hx hb dX9_become_5 rfl (lv_at hl 0 rfl) ?_
  refine lv_iload_n hx hb dX9_become_6 rfl (lv_at hl 2 rfl) ?_
  refine va_put (D := D) (ci := 6) (v := .int x2) (ty := .int) (C := RX9) (T := TX9) (N := 6) hx hb hts in_X9_become_X9 tyX9 tyX9_ok nmX9 hown hE.1 hP hD hS 0 rfl rfl 1 (by decide +kernel) (hts (.fieldLink RX9 15 "ClauseBook$Sheet" "size" "I") (List.mem_of_getElem? (i := 2) rfl)) (fun _ h9 => h9) rfl (by decide +kernel) rfl rfl (Nat.le_of_ble_eq_true rfl) dX9_become_7 (fun H locs hP hD hS => ?_)
  obtain ⟨hP, hD⟩ := wPD [(h0, .inr (6, [.int x1, .int x2, .ref s0, .ref s1, .ref s2, .ref s3])), (s0, .inl (T 0, 30, .inl f0)), (s1, .inl (T 1, 30, .inr (.inl f1))), (s2, .inl (T 2, 30, .inr (.inr (.inl f2)))), (s3, .inl (T 3, 30, .inr (.inr (.inr (.inl f3)))))] hP hD rfl
  refine lv_iconst (v := 0) hx hb dX9_become_10 (by decide +kernel) ?_
  refine lv_istore_n (lv' := [(3, .int 0), (0, .ref h0), (1, .int x1), (2, .int x2)]) hx hb dX9_become_11 rfl hl (by decide +kernel) rfl (fun ls hl => ?_)
  refine loopW (σ := (Int32) × (Nat → Int32) × (Nat → Int64) × (Nat → UInt32) × (Nat → UInt64)) (fun x9 ls H locs => lv_has ls 4 [(3, .int x9.1), (0, .ref h0), (1, .int x1), (2, .int x2)] ∧ va_P D vwCl [(h0, .inr (6, [.int x1, .int x2, .ref s0, .ref s1, .ref s2, .ref s3])), (s0, .inl (T 0, 30, .inl x9.2.1)), (s1, .inl (T 1, 30, .inr (.inl x9.2.2.1))), (s2, .inl (T 2, 30, .inr (.inr (.inl x9.2.2.2.1)))), (s3, .inl (T 3, 30, .inr (.inr (.inr (.inl x9.2.2.2.2)))))] H ∧ va_D A [(h0, .inr (6, [.int x1, .int x2, .ref s0, .ref s1, .ref s2, .ref s3])), (s0, .inl (T 0, 30, .inl x9.2.1)), (s1, .inl (T 1, 30, .inr (.inl x9.2.2.1))), (s2, .inl (T 2, 30, .inr (.inr (.inl x9.2.2.2.1)))), (s3, .inl (T 3, 30, .inr (.inr (.inr (.inl x9.2.2.2.2)))))] ∧ va_S A s.heap H locs ∧ (0 ≤ x9.1.toInt)) (fun x9 => (x2.toInt - x9.1.toInt).toNat) (fun x9 ls H locs hI ih => ?_) (0, f0, f1, f2, f3) ls ⟨lv_sub hl [0, 1, 2, 3] rfl, hP.sub [0, 1, 2, 3, 4] rfl, hD.sub [0, 1, 2, 3, 4] (by decide +kernel) rfl, hS, (by (try dsimp only); decide)⟩
  obtain ⟨ii, g0, g1, g2, g3⟩ := x9
  obtain ⟨hl, hP, hD, hS, hinv⟩ := hI
  have hl : lv_has ls 4 [(3, .int ii), (0, .ref h0), (1, .int x1), (2, .int x2)] := hl
  have hP : va_P D vwCl [(h0, .inr (6, [.int x1, .int x2, .ref s0, .ref s1, .ref s2, .ref s3])), (s0, .inl (T 0, 30, .inl g0)), (s1, .inl (T 1, 30, .inr (.inl g1))), (s2, .inl (T 2, 30, .inr (.inr (.inl g2)))), (s3, .inl (T 3, 30, .inr (.inr (.inr (.inl g3)))))] H := hP
  have hD : va_D A [(h0, .inr (6, [.int x1, .int x2, .ref s0, .ref s1, .ref s2, .ref s3])), (s0, .inl (T 0, 30, .inl g0)), (s1, .inl (T 1, 30, .inr (.inl g1))), (s2, .inl (T 2, 30, .inr (.inr (.inl g2)))), (s3, .inl (T 3, 30, .inr (.inr (.inr (.inl g3)))))] := hD
  have hinv : 0 ≤ ii.toInt := hinv
  refine lv_iload_n hx hb dX9_become_12 rfl (lv_at hl 0 rfl) ?_
  refine lv_iload_n hx hb dX9_become_13 rfl (lv_at hl 3 rfl) ?_
  refine lv_icmp_ge (tgt := 30) hx hb dX9_become_14 (by decide +kernel) (fun c_1 => ?_) (fun c_1 => ?_)
  · rw [fa_le] at c_1
    exact W.vret hx hb hr (fun t ht hW => ⟨⟨(g0, g1, g2, g3), rfl, trivial, by rw [ht]; exact hP.sub [0, 1, 2, 3, 4] rfl, hD.sub [0, 1, 2, 3, 4] (by decide +kernel) rfl⟩, hS.F ht⟩) hS.2.2 dX9_become_30
  · rw [fa_le] at c_1
    refine lv_aload_n hx hb dX9_become_17 rfl (lv_at hl 1 rfl) ?_
    refine lv_iload_n hx hb dX9_become_18 rfl (lv_at hl 0 rfl) ?_
    refine lv_lconst (v := 0) hx hb dX9_become_19 (by decide +kernel) ?_
    have hFc := va_free (wc := [(h0, .inr (6, [.int x1, .int x2, .ref s0, .ref s1, .ref s2, .ref s3])), (s0, .inl (T 0, 30, .inl g0)), (s1, .inl (T 1, 30, .inr (.inl g1))), (s2, .inl (T 2, 30, .inr (.inr (.inl g2)))), (s3, .inl (T 3, 30, .inr (.inr (.inr (.inl g3)))))]) hD hS hA [0, 1, 2, 3, 4] rfl
    refine va_calli (va_runV (As := [.int ii, .long 0]) (rest := []) ⟨hx, hb, hml, hown, hts⟩ (c_X9_store l D T _ h0 x1 x2 s0 s1 s2 s3 g0 g1 g2 g3 ii 0 (by rw [vp_in_iff]; omega)) (cwV 2 hts gX9_become_X9_store rfl rfl rfl hv_X9_store ⟨Nat.le_of_ble_eq_true rfl, Nat.le_of_ble_eq_true rfl⟩) (pW_V (q := (RX9, TX9, 6)) (ci := 6) (q0 := 0) hP hE hD rfl rfl [0, 1, 2, 3, 4] (by decide +kernel) rfl rfl) rfl rfl hl.1 rfl (lv_room (Nat.le_of_ble_eq_true rfl)) dX9_become_20 ⟨Nat.le_of_ble_eq_true rfl, Nat.le_of_ble_eq_true rfl⟩) hS (fun q _ h => hFc q h) hFc (fun r_2 u_3 t H1 locs ht hvm hr_2 hB hz1 hk1 hS => ?_)
    obtain ⟨f_4, f_5, f_6, f_7⟩ := u_3
    obtain ⟨hP1, hD1⟩ := hB
    rw [ht] at hP1
    obtain ⟨hP, hD⟩ := va_repl [(h0, .inr (6, [.int x1, .int x2, .ref s0, .ref s1, .ref s2, .ref s3])), (s0, .inl (T 0, 30, .inl f_4)), (s1, .inl (T 1, 30, .inr (.inl f_5))), (s2, .inl (T 2, 30, .inr (.inr (.inl f_6)))), (s3, .inl (T 3, 30, .inr (.inr (.inr (.inl f_7)))))] hP hD [0, 1, 2, 3, 4] [0, 1, 2, 3, 4] rfl (by decide +kernel) rfl rfl rfl hk1 hP1
    clear hP1 hD1 hFc
    generalize H1 = H at hP hS ⊢
    refine lv_pop hx hb dX9_become_23 rfl ?_
    obtain ⟨z_8, ez_8⟩ : ∃ y : Int32, y = ii + 1 := ⟨_, rfl⟩
    refine lv_iinc (v := z_8) (lv' := [(3, .int z_8), (0, .ref h0), (1, .int x1), (2, .int x2)]) hx hb dX9_become_24 hl (k := 0) rfl (by rw [ez_8]; rfl) (by decide +kernel) rfl (fun ls hl => ?_)
    refine lv_goto (tgt := 12) hx hb dX9_become_27 (by decide +kernel) ?_
    exact ih (z_8, f_4, f_5, f_6, f_7) ls _ _ ⟨lv_sub hl [0, 1, 2, 3] rfl, hP.sub [0, 1, 2, 3, 4] rfl, hD.sub [0, 1, 2, 3, 4] (by decide +kernel) rfl, hS, (by subst_vars; (try dsimp only); rw [inc1 (n := 30) (by omega) (by decide +kernel)]; omega)⟩ (by subst_vars; (try dsimp only); rw [inc1 (n := 30) (by omega) (by decide +kernel)]; omega)
