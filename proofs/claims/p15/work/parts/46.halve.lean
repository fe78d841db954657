theorem dX9_cutInHalf_0 : decode cX9_cutInHalf 0 = .ok (.aload_n 0, 1) := by decide +kernel
theorem dX9_cutInHalf_1 : decode cX9_cutInHalf 1 = .ok (.getfield 9, 3) := by decide +kernel
theorem dX9_cutInHalf_100 : decode cX9_cutInHalf 100 = .ok (.dastore, 1) := by decide +kernel
theorem dX9_cutInHalf_101 : decode cX9_cutInHalf 101 = .ok (.return_, 1) := by decide +kernel
theorem dX9_cutInHalf_32 : decode cX9_cutInHalf 32 = .ok (.aload_n 0, 1) := by decide +kernel
theorem dX9_cutInHalf_33 : decode cX9_cutInHalf 33 = .ok (.getfield 18, 3) := by decide +kernel
theorem dX9_cutInHalf_36 : decode cX9_cutInHalf 36 = .ok (.iload_n 1, 1) := by decide +kernel
theorem dX9_cutInHalf_37 : decode cX9_cutInHalf 37 = .ok (.aload_n 0, 1) := by decide +kernel
theorem dX9_cutInHalf_38 : decode cX9_cutInHalf 38 = .ok (.getfield 18, 3) := by decide +kernel
theorem dX9_cutInHalf_4 : decode cX9_cutInHalf 4 = .ok (.tableswitch 81 0 2 #[28, 45, 64], 28) := by decide +kernel
theorem dX9_cutInHalf_41 : decode cX9_cutInHalf 41 = .ok (.iload_n 1, 1) := by decide +kernel
theorem dX9_cutInHalf_42 : decode cX9_cutInHalf 42 = .ok (.iaload, 1) := by decide +kernel
theorem dX9_cutInHalf_43 : decode cX9_cutInHalf 43 = .ok (.iconst 2, 1) := by decide +kernel
theorem dX9_cutInHalf_44 : decode cX9_cutInHalf 44 = .ok (.idiv, 1) := by decide +kernel
theorem dX9_cutInHalf_45 : decode cX9_cutInHalf 45 = .ok (.iastore, 1) := by decide +kernel
theorem dX9_cutInHalf_46 : decode cX9_cutInHalf 46 = .ok (.goto 55, 3) := by decide +kernel
theorem dX9_cutInHalf_49 : decode cX9_cutInHalf 49 = .ok (.aload_n 0, 1) := by decide +kernel
theorem dX9_cutInHalf_50 : decode cX9_cutInHalf 50 = .ok (.getfield 22, 3) := by decide +kernel
theorem dX9_cutInHalf_53 : decode cX9_cutInHalf 53 = .ok (.iload_n 1, 1) := by decide +kernel
theorem dX9_cutInHalf_54 : decode cX9_cutInHalf 54 = .ok (.aload_n 0, 1) := by decide +kernel
theorem dX9_cutInHalf_55 : decode cX9_cutInHalf 55 = .ok (.getfield 22, 3) := by decide +kernel
theorem dX9_cutInHalf_58 : decode cX9_cutInHalf 58 = .ok (.iload_n 1, 1) := by decide +kernel
theorem dX9_cutInHalf_59 : decode cX9_cutInHalf 59 = .ok (.laload, 1) := by decide +kernel
theorem dX9_cutInHalf_60 : decode cX9_cutInHalf 60 = .ok (.ldc2_w 48, 3) := by decide +kernel
theorem dX9_cutInHalf_63 : decode cX9_cutInHalf 63 = .ok (.ldiv, 1) := by decide +kernel
theorem dX9_cutInHalf_64 : decode cX9_cutInHalf 64 = .ok (.lastore, 1) := by decide +kernel
theorem dX9_cutInHalf_65 : decode cX9_cutInHalf 65 = .ok (.goto 36, 3) := by decide +kernel
theorem dX9_cutInHalf_68 : decode cX9_cutInHalf 68 = .ok (.aload_n 0, 1) := by decide +kernel
theorem dX9_cutInHalf_69 : decode cX9_cutInHalf 69 = .ok (.getfield 26, 3) := by decide +kernel
theorem dX9_cutInHalf_72 : decode cX9_cutInHalf 72 = .ok (.iload_n 1, 1) := by decide +kernel
theorem dX9_cutInHalf_73 : decode cX9_cutInHalf 73 = .ok (.aload_n 0, 1) := by decide +kernel
theorem dX9_cutInHalf_74 : decode cX9_cutInHalf 74 = .ok (.getfield 26, 3) := by decide +kernel
theorem dX9_cutInHalf_77 : decode cX9_cutInHalf 77 = .ok (.iload_n 1, 1) := by decide +kernel
theorem dX9_cutInHalf_78 : decode cX9_cutInHalf 78 = .ok (.faload, 1) := by decide +kernel
theorem dX9_cutInHalf_79 : decode cX9_cutInHalf 79 = .ok (.fconst 2, 1) := by decide +kernel
theorem dX9_cutInHalf_80 : decode cX9_cutInHalf 80 = .ok (.fdiv, 1) := by decide +kernel
theorem dX9_cutInHalf_81 : decode cX9_cutInHalf 81 = .ok (.fastore, 1) := by decide +kernel
theorem dX9_cutInHalf_82 : decode cX9_cutInHalf 82 = .ok (.goto 19, 3) := by decide +kernel
theorem dX9_cutInHalf_85 : decode cX9_cutInHalf 85 = .ok (.aload_n 0, 1) := by decide +kernel
theorem dX9_cutInHalf_86 : decode cX9_cutInHalf 86 = .ok (.getfield 30, 3) := by decide +kernel
theorem dX9_cutInHalf_89 : decode cX9_cutInHalf 89 = .ok (.iload_n 1, 1) := by decide +kernel
theorem dX9_cutInHalf_90 : decode cX9_cutInHalf 90 = .ok (.aload_n 0, 1) := by decide +kernel
theorem dX9_cutInHalf_91 : decode cX9_cutInHalf 91 = .ok (.getfield 30, 3) := by decide +kernel
theorem dX9_cutInHalf_94 : decode cX9_cutInHalf 94 = .ok (.iload_n 1, 1) := by decide +kernel
theorem dX9_cutInHalf_95 : decode cX9_cutInHalf 95 = .ok (.daload, 1) := by decide +kernel
theorem dX9_cutInHalf_96 : decode cX9_cutInHalf 96 = .ok (.ldc2_w 50, 3) := by decide +kernel
theorem dX9_cutInHalf_99 : decode cX9_cutInHalf 99 = .ok (.ddiv, 1) := by decide +kernel
set_option maxRecDepth 20000 in
theorem in_X9_cutInHalf_X9 : ∀ w ∈ wsX90, w ∈ wsX9_cutInHalf := sub_r [8, 9, 10, 11, 12, 13] rfl
set_option maxHeartbeats 4000000 in
set_option maxRecDepth 100000 in
theorem c_X9_cutInHalf (l : Launch) (D : va_G) (T : Nat → ClassId) (sz : Nat) (h0 : Nat) (so : Int32) (sn : Int32) (s0 : Nat) (s1 : Nat) (s2 : Nat) (s3 : Nat) (f0 : Nat → Int32) (f1 : Nat → Int64) (f2 : Nat → UInt32) (f3 : Nat → UInt64) (x1 : Int32) (hin1 : vp_in x1 30) : MetD lw_cs l yX9_cutInHalf wsX9_cutInHalf ({ frames := 0, cells := 0, slots := 0, locals := 0 }) (pW [.ref h0, .int x1] D T [(h0, .inr (6, [.int so, .int sn, .ref s0, .ref s1, .ref s2, .ref s3])), (s0, .inl (T 0, 30, .inl f0)), (s1, .inl (T 1, 30, .inr (.inl f1))), (s2, .inl (T 2, 30, .inr (.inr (.inl f2)))), (s3, .inl (T 3, 30, .inr (.inr (.inr (.inl f3)))))] sz) (va_Qv (fun (u : (Nat → Int32) × (Nat → Int64) × (Nat → UInt32) × (Nat → UInt64)) => True) (bW D (va_A [(h0, .inr (6, [.int so, .int sn, .ref s0, .ref s1, .ref s2, .ref s3])), (s0, .inl (T 0, 30, .inl f0)), (s1, .inl (T 1, 30, .inr (.inl f1))), (s2, .inl (T 2, 30, .inr (.inr (.inl f2)))), (s3, .inl (T 3, 30, .inr (.inr (.inr (.inl f3)))))] sz) (fun (u : (Nat → Int32) × (Nat → Int64) × (Nat → UInt32) × (Nat → UInt64)) => [(h0, .inr (6, [.int so, .int sn, .ref s0, .ref s1, .ref s2, .ref s3])), (s0, .inl (T 0, 30, .inl u.1)), (s1, .inl (T 1, 30, .inr (.inl u.2.1))), (s2, .inl (T 2, 30, .inr (.inr (.inl u.2.2.1)))), (s3, .inl (T 3, 30, .inr (.inr (.inr (.inl u.2.2.2)))))])) (va_A [(h0, .inr (6, [.int so, .int sn, .ref s0, .ref s1, .ref s2, .ref s3])), (s0, .inl (T 0, 30, .inl f0)), (s1, .inl (T 1, 30, .inr (.inl f1))), (s2, .inl (T 2, 30, .inr (.inr (.inl f2)))), (s3, .inl (T 3, 30, .inr (.inr (.inr (.inl f3)))))] sz)) 0 0 (va_A [(h0, .inr (6, [.int so, .int sn, .ref s0, .ref s1, .ref s2, .ref s3])), (s0, .inl (T 0, 30, .inl f0)), (s1, .inl (T 1, 30, .inr (.inl f1))), (s2, .inl (T 2, 30, .inr (.inr (.inl f2)))), (s3, .inl (T 3, 30, .inr (.inr (.inr (.inl f3)))))] sz) := by
  refine MetD.ofW (cc := cX9_cutInHalf) (maxL := 2) (ret := none) (by decide +kernel) rfl ?_
  intro p e s m args below meth c s₁ B hml hv hd0
  obtain ⟨rfl, hsz, hP, hE0, hD0⟩ := hv
  have hx := B.exec
  have hb := B.bytes
  have hr := B.returns
  have hts0 := atoms_spec (ws := wsX9_cutInHalf) B.pre
  have hown0 : s.vm.findClass RX9 = some m.cls := findClass_of_methodNamed B.named
  have hlocks := B.notSynchronized
  subst hsz
  have hD := hD0.self (sz := s.heap.size)
  generalize hAe : va_A [(h0, .inr (6, [.int so, .int sn, .ref s0, .ref s1, .ref s2, .ref s3])), (s0, .inl (T 0, 30, .inl f0)), (s1, .inl (T 1, 30, .inr (.inl f1))), (s2, .inl (T 2, 30, .inr (.inr (.inl f2)))), (s3, .inl (T 3, 30, .inr (.inr (.inr (.inl f3)))))] s.heap.size = A at hD ⊢
  have hA : ∀ q : Nat, s.heap.size ≤ q → A q := fun q h => by rw [← hAe]; exact Or.inr h
  have hS : va_S A s.heap s.heap [] := va_S.rf
  have hP : va_P D vwCl [(h0, .inr (6, [.int so, .int sn, .ref s0, .ref s1, .ref s2, .ref s3])), (s0, .inl (T 0, 30, .inl f0)), (s1, .inl (T 1, 30, .inr (.inl f1))), (s2, .inl (T 2, 30, .inr (.inr (.inl f2)))), (s3, .inl (T 3, 30, .inr (.inr (.inr (.inl f3)))))] s.heap := hP
  have hl := lv_entry ([.ref h0, .int x1]) (n := 2) (Nat.le_of_ble_eq_true rfl)
  rw [lg_entry_eq]
  generalize (lg_sl ([.ref h0, .int x1]) ++ List.replicate (2 - (lg_sl ([.ref h0, .int x1])).length) Slot.unset).toArray = ls at hl ⊢
  have hl : lv_has ls 2 [(0, .ref h0), (1, .int x1)] := hl
  clear hD0
  have hts := dr_words hts0 s.drawn
  have hE : ekK D T (s.setDrawn s.drawn) := ekK.same (u := s) rfl hE0
  have hown : (s.setDrawn s.drawn).vm.findClass RX9 = some m.cls := hown0
  refine lv_aload_n hx hb dX9_cutInHalf_0 rfl (lv_at hl 0 rfl) ?_
  refine va_get (D := D) (ci := 6) (v := .int so) (C := RX9) (T := TX9) (N := 6) hx hb hts in_X9_cutInHalf_X9 hown hE.1 hP 0 rfl rfl 0 (by decide +kernel) (hts (.fieldLink RX9 9 "ClauseBook$Sheet" "sort" "I") (List.mem_of_getElem? (i := 1) rfl)) (fun _ h9 => h9) rfl dX9_cutInHalf_1 ?_
  by_cases k_1 : so = 0
  · obtain rfl := k_1
    refine lv_tableIn (off := 28) (tgt := 32) hx hb dX9_cutInHalf_4 (by decide +kernel) (by decide +kernel) (by decide +kernel) (by decide +kernel) ?_
    refine lv_aload_n hx hb dX9_cutInHalf_32 rfl (lv_at hl 0 rfl) ?_
    refine va_get (D := D) (ci := 6) (v := .ref s0) (C := RX9) (T := TX9) (N := 6) hx hb hts in_X9_cutInHalf_X9 hown hE.1 hP 0 rfl rfl 2 (by decide +kernel) (hts (.fieldLink RX9 18 "ClauseBook$Sheet" "ints" "[I") (List.mem_of_getElem? (i := 2) rfl)) (fun _ h9 => h9) rfl dX9_cutInHalf_33 ?_
    refine lv_iload_n hx hb dX9_cutInHalf_36 rfl (lv_at hl 1 rfl) ?_
    refine lv_aload_n hx hb dX9_cutInHalf_37 rfl (lv_at hl 0 rfl) ?_
    refine va_get (D := D) (ci := 6) (v := .ref s0) (C := RX9) (T := TX9) (N := 6) hx hb hts in_X9_cutInHalf_X9 hown hE.1 hP 0 rfl rfl 2 (by decide +kernel) (hts (.fieldLink RX9 18 "ClauseBook$Sheet" "ints" "[I") (List.mem_of_getElem? (i := 2) rfl)) (fun _ h9 => h9) rfl dX9_cutInHalf_38 ?_
    refine lv_iload_n hx hb dX9_cutInHalf_41 rfl (lv_at hl 1 rfl) ?_
    refine va_iald hx hb hE.1 hP 1 0 rfl rfl (by assumption) dX9_cutInHalf_42 ?_
    refine lv_topi (fun z_2 ez_2 => ?_)
    refine lv_iconst (v := 2) hx hb dX9_cutInHalf_43 (by decide +kernel) ?_
    refine lv_idiv hx hb dX9_cutInHalf_44 (by decide +kernel) ?_
    refine va_iast hx hb hE.1 hP hD hS 1 0 rfl rfl (by assumption) dX9_cutInHalf_45 (fun H locs hP hD hS => ?_)
    obtain ⟨hP, hD⟩ := wPD [(h0, .inr (6, [.int 0, .int sn, .ref s0, .ref s1, .ref s2, .ref s3])), (s0, .inl (T 0, 30, .inl (upd f0 (x1.toNatClampNeg) (z_2 / 2)))), (s1, .inl (T 1, 30, .inr (.inl f1))), (s2, .inl (T 2, 30, .inr (.inr (.inl f2)))), (s3, .inl (T 3, 30, .inr (.inr (.inr (.inl f3)))))] hP hD rfl
    refine lv_goto (tgt := 101) hx hb dX9_cutInHalf_46 (by decide +kernel) ?_
    refine W.endD hd0 ?_
    exact W.vret hx hb hr (fun t ht hW => ⟨⟨((upd f0 (x1.toNatClampNeg) (z_2 / 2)), f1, f2, f3), rfl, trivial, by rw [ht]; exact hP.sub [0, 1, 2, 3, 4] rfl, hD.sub [0, 1, 2, 3, 4] (by decide +kernel) rfl⟩, hS.F ht⟩) hS.2.2 dX9_cutInHalf_101
  by_cases k_3 : so = 1
  · obtain rfl := k_3
    refine lv_tableIn (off := 45) (tgt := 49) hx hb dX9_cutInHalf_4 (by decide +kernel) (by decide +kernel) (by decide +kernel) (by decide +kernel) ?_
    refine lv_aload_n hx hb dX9_cutInHalf_49 rfl (lv_at hl 0 rfl) ?_
    refine va_get (D := D) (ci := 6) (v := .ref s1) (C := RX9) (T := TX9) (N := 6) hx hb hts in_X9_cutInHalf_X9 hown hE.1 hP 0 rfl rfl 3 (by decide +kernel) (hts (.fieldLink RX9 22 "ClauseBook$Sheet" "longs" "[J") (List.mem_of_getElem? (i := 3) rfl)) (fun _ h9 => h9) rfl dX9_cutInHalf_50 ?_
    refine lv_iload_n hx hb dX9_cutInHalf_53 rfl (lv_at hl 1 rfl) ?_
    refine lv_aload_n hx hb dX9_cutInHalf_54 rfl (lv_at hl 0 rfl) ?_
    refine va_get (D := D) (ci := 6) (v := .ref s1) (C := RX9) (T := TX9) (N := 6) hx hb hts in_X9_cutInHalf_X9 hown hE.1 hP 0 rfl rfl 3 (by decide +kernel) (hts (.fieldLink RX9 22 "ClauseBook$Sheet" "longs" "[J") (List.mem_of_getElem? (i := 3) rfl)) (fun _ h9 => h9) rfl dX9_cutInHalf_55 ?_
    refine lv_iload_n hx hb dX9_cutInHalf_58 rfl (lv_at hl 1 rfl) ?_
    refine va_lald hx hb hE.1 hP 2 1 rfl rfl (by assumption) dX9_cutInHalf_59 ?_
    refine lv_topl (fun z_4 ez_4 => ?_)
    refine lv_ldc2 (v := 2) hx hb hown (hts (.constantLong RX9 48 (2)) (List.mem_of_getElem? (i := 4) rfl)) dX9_cutInHalf_60 ?_
    refine lv_ldiv hx hb dX9_cutInHalf_63 (by decide +kernel) ?_
    refine va_last hx hb hE.1 hP hD hS 2 1 rfl rfl (by assumption) dX9_cutInHalf_64 (fun H locs hP hD hS => ?_)
    obtain ⟨hP, hD⟩ := wPD [(h0, .inr (6, [.int 1, .int sn, .ref s0, .ref s1, .ref s2, .ref s3])), (s0, .inl (T 0, 30, .inl f0)), (s1, .inl (T 1, 30, .inr (.inl (vp_updL f1 (x1.toNatClampNeg) (z_4 / 2))))), (s2, .inl (T 2, 30, .inr (.inr (.inl f2)))), (s3, .inl (T 3, 30, .inr (.inr (.inr (.inl f3)))))] hP hD rfl
    refine lv_goto (tgt := 101) hx hb dX9_cutInHalf_65 (by decide +kernel) ?_
    refine W.endD hd0 ?_
    exact W.vret hx hb hr (fun t ht hW => ⟨⟨(f0, (vp_updL f1 (x1.toNatClampNeg) (z_4 / 2)), f2, f3), rfl, trivial, by rw [ht]; exact hP.sub [0, 1, 2, 3, 4] rfl, hD.sub [0, 1, 2, 3, 4] (by decide +kernel) rfl⟩, hS.F ht⟩) hS.2.2 dX9_cutInHalf_101
  by_cases k_5 : so = 2
  · obtain rfl := k_5
    refine lv_tableIn (off := 64) (tgt := 68) hx hb dX9_cutInHalf_4 (by decide +kernel) (by decide +kernel) (by decide +kernel) (by decide +kernel) ?_
    refine lv_aload_n hx hb dX9_cutInHalf_68 rfl (lv_at hl 0 rfl) ?_
    refine va_get (D := D) (ci := 6) (v := .ref s2) (C := RX9) (T := TX9) (N := 6) hx hb hts in_X9_cutInHalf_X9 hown hE.1 hP 0 rfl rfl 4 (by decide +kernel) (hts (.fieldLink RX9 26 "ClauseBook$Sheet" "floats" "[F") (List.mem_of_getElem? (i := 5) rfl)) (fun _ h9 => h9) rfl dX9_cutInHalf_69 ?_
    refine lv_iload_n hx hb dX9_cutInHalf_72 rfl (lv_at hl 1 rfl) ?_
    refine lv_aload_n hx hb dX9_cutInHalf_73 rfl (lv_at hl 0 rfl) ?_
    refine va_get (D := D) (ci := 6) (v := .ref s2) (C := RX9) (T := TX9) (N := 6) hx hb hts in_X9_cutInHalf_X9 hown hE.1 hP 0 rfl rfl 4 (by decide +kernel) (hts (.fieldLink RX9 26 "ClauseBook$Sheet" "floats" "[F") (List.mem_of_getElem? (i := 5) rfl)) (fun _ h9 => h9) rfl dX9_cutInHalf_74 ?_
    refine lv_iload_n hx hb dX9_cutInHalf_77 rfl (lv_at hl 1 rfl) ?_
    refine va_fald hx hb hE.1 hP 3 2 rfl rfl (by assumption) dX9_cutInHalf_78 ?_
    obtain ⟨z_6, ez_6⟩ : ∃ y : UInt32, y = (f2 x1.toNatClampNeg) := ⟨_, rfl⟩
    refine W.eq (g2 := F0 m 79 ls [.float z_6, .int x1, .ref s2]) (by rw [ez_6]) ?_
    clear ez_6
    refine lv_fconst2 hx hb dX9_cutInHalf_79 ?_
    refine lv_fdiv_any hd0 lw_bits hx hb dX9_cutInHalf_80 (fun r_7 d_8 _ hd_8 => ?_)
    have hts := dr_words hts0 d_8
    have hE : ekK D T (s.setDrawn d_8) := ekK.same (u := s) rfl hE0
    have hown : (s.setDrawn d_8).vm.findClass RX9 = some m.cls := hown0
    refine va_fast hx hb hE.1 hP hD hS 3 2 rfl rfl (by assumption) dX9_cutInHalf_81 (fun H locs hP hD hS => ?_)
    obtain ⟨hP, hD⟩ := wPD [(h0, .inr (6, [.int 2, .int sn, .ref s0, .ref s1, .ref s2, .ref s3])), (s0, .inl (T 0, 30, .inl f0)), (s1, .inl (T 1, 30, .inr (.inl f1))), (s2, .inl (T 2, 30, .inr (.inr (.inl (vf_upd f2 (x1.toNatClampNeg) r_7))))), (s3, .inl (T 3, 30, .inr (.inr (.inr (.inl f3)))))] hP hD rfl
    refine lv_goto (tgt := 101) hx hb dX9_cutInHalf_82 (by decide +kernel) ?_
    refine W.endD hd_8 ?_
    exact W.vret hx hb hr (fun t ht hW => ⟨⟨(f0, f1, (vf_upd f2 (x1.toNatClampNeg) r_7), f3), rfl, trivial, by rw [ht]; exact hP.sub [0, 1, 2, 3, 4] rfl, hD.sub [0, 1, 2, 3, 4] (by decide +kernel) rfl⟩, hS.F ht⟩) hS.2.2 dX9_cutInHalf_101
  rw [fa_eq] at k_1 k_3 k_5
  try simp only [ti_0, ti_1, ti_2] at k_1 k_3 k_5
  refine lv_tableOut (tgt := 85) hx hb dX9_cutInHalf_4 (by omega) (by decide +kernel) ?_
  refine lv_aload_n hx hb dX9_cutInHalf_85 rfl (lv_at hl 0 rfl) ?_
  refine va_get (D := D) (ci := 6) (v := .ref s3) (C := RX9) (T := TX9) (N := 6) hx hb hts in_X9_cutInHalf_X9 hown hE.1 hP 0 rfl rfl 5 (by decide +kernel) (hts (.fieldLink RX9 30 "ClauseBook$Sheet" "doubles" "[D") (List.mem_of_getElem? (i := 6) rfl)) (fun _ h9 => h9) rfl dX9_cutInHalf_86 ?_
  refine lv_iload_n hx hb dX9_cutInHalf_89 rfl (lv_at hl 1 rfl) ?_
  refine lv_aload_n hx hb dX9_cutInHalf_90 rfl (lv_at hl 0 rfl) ?_
  refine va_get (D := D) (ci := 6) (v := .ref s3) (C := RX9) (T := TX9) (N := 6) hx hb hts in_X9_cutInHalf_X9 hown hE.1 hP 0 rfl rfl 5 (by decide +kernel) (hts (.fieldLink RX9 30 "ClauseBook$Sheet" "doubles" "[D") (List.mem_of_getElem? (i := 6) rfl)) (fun _ h9 => h9) rfl dX9_cutInHalf_91 ?_
  refine lv_iload_n hx hb dX9_cutInHalf_94 rfl (lv_at hl 1 rfl) ?_
  refine va_dald hx hb hE.1 hP 4 3 rfl rfl (by assumption) dX9_cutInHalf_95 ?_
  obtain ⟨z_9, ez_9⟩ : ∃ y : UInt64, y = (f3 x1.toNatClampNeg) := ⟨_, rfl⟩
  refine W.eq (g2 := F0 m 96 ls [.double z_9, .int x1, .ref s3]) (by rw [ez_9]) ?_
  clear ez_9
  refine lv_ldc2d (v := 4611686018427387904) hx hb hown (hts (.constantDouble RX9 50 (4611686018427387904)) (List.mem_of_getElem? (i := 7) rfl)) dX9_cutInHalf_96 ?_
  refine lv_ddiv_any hd0 lw_bits hx hb dX9_cutInHalf_99 (fun r_10 d_11 _ hd_11 => ?_)
  have hts := dr_words hts0 d_11
  have hE : ekK D T (s.setDrawn d_11) := ekK.same (u := s) rfl hE0
  have hown : (s.setDrawn d_11).vm.findClass RX9 = some m.cls := hown0
  refine va_dast hx hb hE.1 hP hD hS 4 3 rfl rfl (by assumption) dX9_cutInHalf_100 (fun H locs hP hD hS => ?_)
  obtain ⟨hP, hD⟩ := wPD [(h0, .inr (6, [.int so, .int sn, .ref s0, .ref s1, .ref s2, .ref s3])), (s0, .inl (T 0, 30, .inl f0)), (s1, .inl (T 1, 30, .inr (.inl f1))), (s2, .inl (T 2, 30, .inr (.inr (.inl f2)))), (s3, .inl (T 3, 30, .inr (.inr (.inr (.inl (vf_upd f3 (x1.toNatClampNeg) r_10))))))] hP hD rfl
  refine W.endD hd_11 ?_
  exact W.vret hx hb hr (fun t ht hW => ⟨⟨(f0, f1, f2, (vf_upd f3 (x1.toNatClampNeg) r_10)), rfl, trivial, by rw [ht]; exact hP.sub [0, 1, 2, 3, 4] rfl, hD.sub [0, 1, 2, 3, 4] (by decide +kernel) rfl⟩, hS.F ht⟩) hS.2.2 dX9_cutInHalf_101
theorem dX9_asItIs_0 : decode cX9_asItIs 0 = .ok (.aload_n 0, 1) := by decide +kernel
theorem dX9_asItIs_1 : decode cX9_asItIs 1 = .ok (.getfield 9, 3) := by decide +kernel
theorem dX9_asItIs_32 : decode cX9_asItIs 32 = .ok (.aload_n 0, 1) := by decide +kernel
theorem dX9_asItIs_33 : decode cX9_asItIs 33 = .ok (.getfield 18, 3) := by decide +kernel
theorem dX9_asItIs_36 : decode cX9_asItIs 36 = .ok (.iload_n 1, 1) := by decide +kernel
theorem dX9_asItIs_37 : decode cX9_asItIs 37 = .ok (.iaload, 1) := by decide +kernel
theorem dX9_asItIs_38 : decode cX9_asItIs 38 = .ok (.i2l, 1) := by decide +kernel
theorem dX9_asItIs_39 : decode cX9_asItIs 39 = .ok (.lreturn, 1) := by decide +kernel
theorem dX9_asItIs_4 : decode cX9_asItIs 4 = .ok (.tableswitch 54 0 2 #[28, 36, 43], 28) := by decide +kernel
theorem dX9_asItIs_40 : decode cX9_asItIs 40 = .ok (.aload_n 0, 1) := by decide +kernel
theorem dX9_asItIs_41 : decode cX9_asItIs 41 = .ok (.getfield 22, 3) := by decide +kernel
theorem dX9_asItIs_44 : decode cX9_asItIs 44 = .ok (.iload_n 1, 1) := by decide +kernel
theorem dX9_asItIs_45 : decode cX9_asItIs 45 = .ok (.laload, 1) := by decide +kernel
theorem dX9_asItIs_46 : decode cX9_asItIs 46 = .ok (.lreturn, 1) := by decide +kernel
theorem dX9_asItIs_47 : decode cX9_asItIs 47 = .ok (.aload_n 0, 1) := by decide +kernel
theorem dX9_asItIs_48 : decode cX9_asItIs 48 = .ok (.getfield 26, 3) := by decide +kernel
theorem dX9_asItIs_51 : decode cX9_asItIs 51 = .ok (.iload_n 1, 1) := by decide +kernel
theorem dX9_asItIs_52 : decode cX9_asItIs 52 = .ok (.faload, 1) := by decide +kernel
theorem dX9_asItIs_53 : decode cX9_asItIs 53 = .ok (.invokestatic 38, 3) := by decide +kernel
theorem dX9_asItIs_56 : decode cX9_asItIs 56 = .ok (.i2l, 1) := by decide +kernel
theorem dX9_asItIs_57 : decode cX9_asItIs 57 = .ok (.lreturn, 1) := by decide +kernel
theorem dX9_asItIs_58 : decode cX9_asItIs 58 = .ok (.aload_n 0, 1) := by decide +kernel
theorem dX9_asItIs_59 : decode cX9_asItIs 59 = .ok (.getfield 30, 3) := by decide +kernel
theorem dX9_asItIs_62 : decode cX9_asItIs 62 = .ok (.iload_n 1, 1) := by decide +kernel
theorem dX9_asItIs_63 : decode cX9_asItIs 63 = .ok (.daload, 1) := by decide +kernel
theorem dX9_asItIs_64 : decode cX9_asItIs 64 = .ok (.invokestatic 44, 3) := by decide +kernel
theorem dX9_asItIs_67 : decode cX9_asItIs 67 = .ok (.lreturn, 1) := by decide +kernel
set_option maxRecDepth 20000 in
theorem ggX9_asItIs_X5_doubleBits : GoodIn wsX9_asItIs wsX5_doubleBits := goodIn_r _ [20, 21, 11, 12, 8, 13, 14, 15, 16, 17] rfl (by decide +kernel)
set_option maxRecDepth 20000 in
theorem ggX9_asItIs_X5_floatBits : GoodIn wsX9_asItIs wsX5_floatBits := goodIn_r _ [9, 10, 11, 12, 8, 13, 14, 15, 16, 17] rfl (by decide +kernel)
set_option maxRecDepth 20000 in
theorem gX9_asItIs_X5_doubleBits : GoodIn wsX9_asItIs (va_wsS RX9 44 yX5_doubleBits wsX5_doubleBits) := goodIn_app (goodIn_of _ (by decide +kernel)) ggX9_asItIs_X5_doubleBits
set_option maxRecDepth 20000 in
theorem gX9_asItIs_X5_floatBits : GoodIn wsX9_asItIs (va_wsS RX9 38 yX5_floatBits wsX5_floatBits) := goodIn_app (goodIn_of _ (by decide +kernel)) ggX9_asItIs_X5_floatBits
theorem hs_X5_doubleBits : yX5_doubleBits.cls ≠ "java/lang/invoke/MethodHandle" ∧ yX5_doubleBits.cls ≠ "java/lang/invoke/VarHandle" ∧ (parseMethodDescriptor yX5_doubleBits.desc).map (fun d => d.parameters.length) = some 1 := by decide +kernel
theorem hs_X5_floatBits : yX5_floatBits.cls ≠ "java/lang/invoke/MethodHandle" ∧ yX5_floatBits.cls ≠ "java/lang/invoke/VarHandle" ∧ (parseMethodDescriptor yX5_floatBits.desc).map (fun d => d.parameters.length) = some 1 := by decide +kernel
set_option maxRecDepth 20000 in
theorem in_X9_asItIs_X9 : ∀ w ∈ wsX90, w ∈ wsX9_asItIs := sub_r [22, 23, 24, 25, 26, 27] rfl
set_option maxHeartbeats 4000000 in
set_option maxRecDepth 100000 in
theorem c_X9_asItIs (l : Launch) (D : va_G) (T : Nat → ClassId) (sz : Nat) (h0 : Nat) (so : Int32) (sn : Int32) (s0 : Nat) (s1 : Nat) (s2 : Nat) (s3 : Nat) (f0 : Nat → Int32) (f1 : Nat → Int64) (f2 : Nat → UInt32) (f3 : Nat → UInt64) (x1 : Int32) (hin1 : vp_in x1 30) : MetD lw_cs l yX9_asItIs wsX9_asItIs ({ frames := 2, cells := 0, slots := 0, locals := 51 }) (pW [.ref h0, .int x1] D T [(h0, .inr (6, [.int so, .int sn, .ref s0, .ref s1, .ref s2, .ref s3])), (s0, .inl (T 0, 30, .inl f0)), (s1, .inl (T 1, 30, .inr (.inl f1))), (s2, .inl (T 2, 30, .inr (.inr (.inl f2)))), (s3, .inl (T 3, 30, .inr (.inr (.inr (.inl f3)))))] sz) (va_Ql (fun (r : Int64) (u : Unit) => True) (bW D (va_A [(h0, .inr (6, [.int so, .int sn, .ref s0, .ref s1, .ref s2, .ref s3])), (s0, .inl (T 0, 30, .inl f0)), (s1, .inl (T 1, 30, .inr (.inl f1))), (s2, .inl (T 2, 30, .inr (.inr (.inl f2)))), (s3, .inl (T 3, 30, .inr (.inr (.inr (.inl f3)))))] sz) (fun (u : Unit) => [(h0, .inr (6, [.int so, .int sn, .ref s0, .ref s1, .ref s2, .ref s3])), (s0, .inl (T 0, 30, .inl f0)), (s1, .inl (T 1, 30, .inr (.inl f1))), (s2, .inl (T 2, 30, .inr (.inr (.inl f2)))), (s3, .inl (T 3, 30, .inr (.inr (.inr (.inl f3)))))])) (va_A [(h0, .inr (6, [.int so, .int sn, .ref s0, .ref s1, .ref s2, .ref s3])), (s0, .inl (T 0, 30, .inl f0)), (s1, .inl (T 1, 30, .inr (.inl f1))), (s2, .inl (T 2, 30, .inr (.inr (.inl f2)))), (s3, .inl (T 3, 30, .inr (.inr (.inr (.inl f3)))))] sz)) 0 0 (va_A [(h0, .inr (6, [.int so, .int sn, .ref s0, .ref s1, .ref s2, .ref s3])), (s0, .inl (T 0, 30, .inl f0)), (s1, .inl (T 1, 30, .inr (.inl f1))), (s2, .inl (T 2, 30, .inr (.inr (.inl f2)))), (s3, .inl (T 3, 30, .inr (.inr (.inr (.inl f3)))))] sz) := by
  refine MetD.ofW (cc := cX9_asItIs) (maxL := 2) (ret := (some .long)) (by decide +kernel) rfl ?_
  intro p e s m args below meth c s₁ B hml hv hd0
  obtain ⟨rfl, hsz, hP, hE0, hD0⟩ := hv
  have hx := B.exec
  have hb := B.bytes
  have hr := B.returns
  have hts0 := atoms_spec (ws := wsX9_asItIs) B.pre
  have hown0 : s.vm.findClass RX9 = some m.cls := findClass_of_methodNamed B.named
  have hlocks := B.notSynchronized
  subst hsz
  have hD := hD0.self (sz := s.heap.size)
  generalize hAe : va_A [(h0, .inr (6, [.int so, .int sn, .ref s0, .ref s1, .ref s2, .ref s3])), (s0, .inl (T 0, 30, .inl f0)), (s1, .inl (T 1, 30, .inr (.inl f1))), (s2, .inl (T 2, 30, .inr (.inr (.inl f2)))), (s3, .inl (T 3, 30, .inr (.inr (.inr (.inl f3)))))] s.heap.size = A at hD ⊢
  have hA : ∀ q : Nat, s.heap.size ≤ q → A q := fun q h => by rw [← hAe]; exact Or.inr h
  have hS : va_S A s.heap s.heap [] := va_S.rf
  have hP : va_P D vwCl [(h0, .inr (6, [.int so, .int sn, .ref s0, .ref s1, .ref s2, .ref s3])), (s0, .inl (T 0, 30, .inl f0)), (s1, .inl (T 1, 30, .inr (.inl f1))), (s2, .inl (T 2, 30, .inr (.inr (.inl f2)))), (s3, .inl (T 3, 30, .inr (.inr (.inr (.inl f3)))))] s.heap := hP
  have hl := lv_entry ([.ref h0, .int x1]) (n := 2) (Nat.le_of_ble_eq_true rfl)
  rw [lg_entry_eq]
  generalize (lg_sl ([.ref h0, .int x1]) ++ List.replicate (2 - (lg_sl ([.ref h0, .int x1])).length) Slot.unset).toArray = ls at hl ⊢
  have hl : lv_has ls 2 [(0, .ref h0), (1, .int x1)] := hl
  clear hD0
  have hts := dr_words hts0 s.drawn
  have hE : ekK D T (s.setDrawn s.drawn) := ekK.same (u := s) rfl hE0
  have hown : (s.setDrawn s.drawn).vm.findClass RX9 = some m.cls := hown0
  refine lv_aload_n hx hb dX9_asItIs_0 rfl (lv_at hl 0 rfl) ?_
  refine va_get (D := D) (ci := 6) (v := .int so) (C := RX9) (T := TX9) (N := 6) hx hb hts in_X9_asItIs_X9 hown hE.1 hP 0 rfl rfl 0 (by decide +kernel) (hts (.fieldLink RX9 9 "ClauseBook$Sheet" "sort" "I") (List.mem_of_getElem? (i := 1) rfl)) (fun _ h9 => h9) rfl dX9_asItIs_1 ?_
  by_cases k_1 : so = 0
  · obtain rfl := k_1
    refine lv_tableIn (off := 28) (tgt := 32) hx hb dX9_asItIs_4 (by decide +kernel) (by decide +kernel) (by decide +kernel) (by decide +kernel) ?_
    refine lv_aload_n hx hb dX9_asItIs_32 rfl (lv_at hl 0 rfl) ?_
    refine va_get (D := D) (ci := 6) (v := .ref s0) (C := RX9) (T := TX9) (N := 6) hx hb hts in_X9_asItIs_X9 hown hE.1 hP 0 rfl rfl 2 (by decide +kernel) (hts (.fieldLink RX9 18 "ClauseBook$Sheet" "ints" "[I") (List.mem_of_getElem? (i := 2) rfl)) (fun _ h9 => h9) rfl dX9_asItIs_33 ?_
    refine lv_iload_n hx hb dX9_asItIs_36 rfl (lv_at hl 1 rfl) ?_
    refine va_iald hx hb hE.1 hP 1 0 rfl rfl (by assumption) dX9_asItIs_37 ?_
    refine lv_topi (fun z_2 ez_2 => ?_)
    refine lv_i2l hx hb dX9_asItIs_38 rfl ?_
    refine W.endD hd0 ?_
    exact W.lret hx hb hr (fun t ht hW => ⟨⟨_, (), rfl, trivial, by rw [ht]; exact hP.sub [0, 1, 2, 3, 4] rfl, hD.sub [0, 1, 2, 3, 4] (by decide +kernel) rfl⟩, hS.F ht⟩) hS.2.2 dX9_asItIs_39
  by_cases k_3 : so = 1
  · obtain rfl := k_3
    refine lv_tableIn (off := 36) (tgt := 40) hx hb dX9_asItIs_4 (by decide +kernel) (by decide +kernel) (by decide +kernel) (by decide +kernel) ?_
    refine lv_aload_n hx hb dX9_asItIs_40 rfl (lv_at hl 0 rfl) ?_
    refine va_get (D := D) (ci := 6) (v := .ref s1) (C := RX9) (T := TX9) (N := 6) hx hb hts in_X9_asItIs_X9 hown hE.1 hP 0 rfl rfl 3 (by decide +kernel) (hts (.fieldLink RX9 22 "ClauseBook$Sheet" "longs" "[J") (List.mem_of_getElem? (i := 3) rfl)) (fun _ h9 => h9) rfl dX9_asItIs_41 ?_
    refine lv_iload_n hx hb dX9_asItIs_44 rfl (lv_at hl 1 rfl) ?_
    refine va_lald hx hb hE.1 hP 2 1 rfl rfl (by assumption) dX9_asItIs_45 ?_
    refine lv_topl (fun z_4 ez_4 => ?_)
    refine W.endD hd0 ?_
    exact W.lret hx hb hr (fun t ht hW => ⟨⟨_, (), rfl, trivial, by rw [ht]; exact hP.sub [0, 1, 2, 3, 4] rfl, hD.sub [0, 1, 2, 3, 4] (by decide +kernel) rfl⟩, hS.F ht⟩) hS.2.2 dX9_asItIs_46
  by_cases k_5 : so = 2
  · obtain rfl := k_5
    refine lv_tableIn (off := 43) (tgt := 47) hx hb dX9_asItIs_4 (by decide +kernel) (by decide +kernel) (by decide +kernel) (by decide +kernel) ?_
    refine lv_aload_n hx hb dX9_asItIs_47 rfl (lv_at hl 0 rfl) ?_
    refine va_get (D := D) (ci := 6) (v := .ref s2) (C := RX9) (T := TX9) (N := 6) hx hb hts in_X9_asItIs_X9 hown hE.1 hP 0 rfl rfl 4 (by decide +kernel) (hts (.fieldLink RX9 26 "ClauseBook$Sheet" "floats" "[F") (List.mem_of_getElem? (i := 4) rfl)) (fun _ h9 => h9) rfl dX9_asItIs_48 ?_
    refine lv_iload_n hx hb dX9_asItIs_51 rfl (lv_at hl 1 rfl) ?_
    refine va_fald hx hb hE.1 hP 3 2 rfl rfl (by assumption) dX9_asItIs_52 ?_
    obtain ⟨z_6, ez_6⟩ : ∃ y : UInt32, y = (f2 x1.toNatClampNeg) := ⟨_, rfl⟩
    refine W.eq (g2 := F0 m 53 ls [.float z_6]) (by rw [ez_6]) ?_
    clear ez_6
    have hFc := va_free (wc := []) hD hS hA [] rfl
    refine va_calliD hd0 (va_runS_D (As := [.float z_6]) (rest := []) ⟨hx, hb, hml, hown, hts⟩ (c_X5_floatBits l D T _ z_6) (va_cwS 1 hts gX9_asItIs_X5_floatBits rfl rfl rfl hs_X5_floatBits ⟨Nat.le_of_ble_eq_true rfl, Nat.le_of_ble_eq_true rfl⟩) (pW_S hP hE hD [] (by decide +kernel) rfl rfl) rfl rfl hl.1 rfl (lv_room (Nat.le_of_ble_eq_true rfl)) dX9_asItIs_53 ⟨Nat.le_of_ble_eq_true rfl, Nat.le_of_ble_eq_true rfl⟩) hS (fun q _ h => hFc q h) hFc (fun r_7 u_8 t H1 locs ht hvm hr_7 hB hz1 hk1 hS d_9 hd_9 => ?_)
    have hts := dr_words hts0 d_9
    have hE : ekK D T (s.setDrawn d_9) := ekK.same (u := s) rfl hE0
    have hown : (s.setDrawn d_9).vm.findClass RX9 = some m.cls := hown0
    obtain ⟨hP1, hD1⟩ := hB
    rw [ht] at hP1
    obtain ⟨hP, hD⟩ := va_repl [(h0, .inr (6, [.int 2, .int sn, .ref s0, .ref s1, .ref s2, .ref s3])), (s0, .inl (T 0, 30, .inl f0)), (s1, .inl (T 1, 30, .inr (.inl f1))), (s2, .inl (T 2, 30, .inr (.inr (.inl f2)))), (s3, .inl (T 3, 30, .inr (.inr (.inr (.inl f3)))))] hP hD [] [] rfl (by decide +kernel) rfl rfl rfl hk1 hP1
    clear hP1 hD1 hFc
    generalize H1 = H at hP hS ⊢
    refine lv_i2l hx hb dX9_asItIs_56 rfl ?_
    refine W.endD hd_9 ?_
    exact W.lret hx hb hr (fun t ht hW => ⟨⟨_, (), rfl, trivial, by rw [ht]; exact hP.sub [0, 1, 2, 3, 4] rfl, hD.sub [0, 1, 2, 3, 4] (by decide +kernel) rfl⟩, hS.F ht⟩) hS.2.2 dX9_asItIs_57
  rw [fa_eq] at k_1 k_3 k_5
  try simp only [ti_0, ti_1, ti_2] at k_1 k_3 k_5
  refine lv_tableOut (tgt := 58) hx hb dX9_asItIs_4 (by omega) (by decide +kernel) ?_
  refine lv_aload_n hx hb dX9_asItIs_58 rfl (lv_at hl 0 rfl) ?_
  refine va_get (D := D) (ci := 6) (v := .ref s3) (C := RX9) (T := TX9) (N := 6) hx hb hts in_X9_asItIs_X9 hown hE.1 hP 0 rfl rfl 5 (by decide +kernel) (hts (.fieldLink RX9 30 "ClauseBook$Sheet" "doubles" "[D") (List.mem_of_getElem? (i := 5) rfl)) (fun _ h9 => h9) rfl dX9_asItIs_59 ?_
  refine lv_iload_n hx hb dX9_asItIs_62 rfl (lv_at hl 1 rfl) ?_
  refine va_dald hx hb hE.1 hP 4 3 rfl rfl (by assumption) dX9_asItIs_63 ?_
  obtain ⟨z_10, ez_10⟩ : ∃ y : UInt64, y = (f3 x1.toNatClampNeg) := ⟨_, rfl⟩
  refine W.eq (g2 := F0 m 64 ls [.double z_10]) (by rw [ez_10]) ?_
  clear ez_10
  have hFc := va_free (wc := []) hD hS hA [] rfl
  refine va_calllD hd0 (va_runS_D (As := [.double z_10]) (rest := []) ⟨hx, hb, hml, hown, hts⟩ (c_X5_doubleBits l D T _ z_10) (va_cwS 1 hts gX9_asItIs_X5_doubleBits rfl rfl rfl hs_X5_doubleBits ⟨Nat.le_of_ble_eq_true rfl, Nat.le_of_ble_eq_true rfl⟩) (pW_S hP hE hD [] (by decide +kernel) rfl rfl) rfl rfl hl.1 rfl (lv_room (Nat.le_of_ble_eq_true rfl)) dX9_asItIs_64 ⟨Nat.le_of_ble_eq_true rfl, Nat.le_of_ble_eq_true rfl⟩) hS (fun q _ h => hFc q h) hFc (fun r_11 u_12 t H1 locs ht hvm hr_11 hB hz1 hk1 hS d_13 hd_13 => ?_)
  have hts := dr_words hts0 d_13
  have hE : ekK D T (s.setDrawn d_13) := ekK.same (u := s) rfl hE0
  have hown : (s.setDrawn d_13).vm.findClass RX9 = some m.cls := hown0
  obtain ⟨hP1, hD1⟩ := hB
  rw [ht] at hP1
  obtain ⟨hP, hD⟩ := va_repl [(h0, .inr (6, [.int so, .int sn, .ref s0, .ref s1, .ref s2, .ref s3])), (s0, .inl (T 0, 30, .inl f0)), (s1, .inl (T 1, 30, .inr (.inl f1))), (s2, .inl (T 2, 30, .inr (.inr (.inl f2)))), (s3, .inl (T 3, 30, .inr (.inr (.inr (.inl f3)))))] hP hD [] [] rfl (by decide +kernel) rfl rfl rfl hk1 hP1
  clear hP1 hD1 hFc
  generalize H1 = H at hP hS ⊢
  refine W.endD hd_13 ?_
  exact W.lret hx hb hr (fun t ht hW => ⟨⟨_, (), rfl, trivial, by rw [ht]; exact hP.sub [0, 1, 2, 3, 4] rfl, hD.sub [0, 1, 2, 3, 4] (by decide +kernel) rfl⟩, hS.F ht⟩) hS.2.2 dX9_asItIs_67
theorem dX9_asInt_0 : decode cX9_asInt 0 = .ok (.aload_n 0, 1) := by decide +kernel
theorem dX9_asInt_1 : decode cX9_asInt 1 = .ok (.getfield 9, 3) := by decide +kernel
theorem dX9_asInt_32 : decode cX9_asInt 32 = .ok (.aload_n 0, 1) := by decide +kernel
theorem dX9_asInt_33 : decode cX9_asInt 33 = .ok (.getfield 18, 3) := by decide +kernel
theorem dX9_asInt_36 : decode cX9_asInt 36 = .ok (.iload_n 1, 1) := by decide +kernel
theorem dX9_asInt_37 : decode cX9_asInt 37 = .ok (.iaload, 1) := by decide +kernel
theorem dX9_asInt_38 : decode cX9_asInt 38 = .ok (.ireturn, 1) := by decide +kernel
theorem dX9_asInt_39 : decode cX9_asInt 39 = .ok (.aload_n 0, 1) := by decide +kernel
theorem dX9_asInt_4 : decode cX9_asInt 4 = .ok (.tableswitch 51 0 2 #[28, 35, 43], 28) := by decide +kernel
theorem dX9_asInt_40 : decode cX9_asInt 40 = .ok (.getfield 22, 3) := by decide +kernel
theorem dX9_asInt_43 : decode cX9_asInt 43 = .ok (.iload_n 1, 1) := by decide +kernel
theorem dX9_asInt_44 : decode cX9_asInt 44 = .ok (.laload, 1) := by decide +kernel
theorem dX9_asInt_45 : decode cX9_asInt 45 = .ok (.l2i, 1) := by decide +kernel
theorem dX9_asInt_46 : decode cX9_asInt 46 = .ok (.ireturn, 1) := by decide +kernel
theorem dX9_asInt_47 : decode cX9_asInt 47 = .ok (.aload_n 0, 1) := by decide +kernel
theorem dX9_asInt_48 : decode cX9_asInt 48 = .ok (.getfield 26, 3) := by decide +kernel
theorem dX9_asInt_51 : decode cX9_asInt 51 = .ok (.iload_n 1, 1) := by decide +kernel
theorem dX9_asInt_52 : decode cX9_asInt 52 = .ok (.faload, 1) := by decide +kernel
theorem dX9_asInt_53 : decode cX9_asInt 53 = .ok (.f2i, 1) := by decide +kernel
theorem dX9_asInt_54 : decode cX9_asInt 54 = .ok (.ireturn, 1) := by decide +kernel
theorem dX9_asInt_55 : decode cX9_asInt 55 = .ok (.aload_n 0, 1) := by decide +kernel
theorem dX9_asInt_56 : decode cX9_asInt 56 = .ok (.getfield 30, 3) := by decide +kernel
theorem dX9_asInt_59 : decode cX9_asInt 59 = .ok (.iload_n 1, 1) := by decide +kernel
theorem dX9_asInt_60 : decode cX9_asInt 60 = .ok (.daload, 1) := by decide +kernel
theorem dX9_asInt_61 : decode cX9_asInt 61 = .ok (.d2i, 1) := by decide +kernel
theorem dX9_asInt_62 : decode cX9_asInt 62 = .ok (.ireturn, 1) := by decide +kernel
set_option maxRecDepth 20000 in
theorem in_X9_asInt_X9 : ∀ w ∈ wsX90, w ∈ wsX9_asInt := sub_r [6, 7, 8, 9, 10, 11] rfl
set_option maxHeartbeats 4000000 in
set_option maxRecDepth 100000 in
theorem c_X9_asInt (l : Launch) (D : va_G) (T : Nat → ClassId) (sz : Nat) (h0 : Nat) (so : Int32) (sn : Int32) (s0 : Nat) (s1 : Nat) (s2 : Nat) (s3 : Nat) (f0 : Nat → Int32) (f1 : Nat → Int64) (f2 : Nat → UInt32) (f3 : Nat → UInt64) (x1 : Int32) (hin1 : vp_in x1 30) : Met l yX9_asInt wsX9_asInt ({ frames := 0, cells := 0, slots := 0, locals := 0 }) (pW [.ref h0, .int x1] D T [(h0, .inr (6, [.int so, .int sn, .ref s0, .ref s1, .ref s2, .ref s3])), (s0, .inl (T 0, 30, .inl f0)), (s1, .inl (T 1, 30, .inr (.inl f1))), (s2, .inl (T 2, 30, .inr (.inr (.inl f2)))), (s3, .inl (T 3, 30, .inr (.inr (.inr (.inl f3)))))] sz) (va_Qi (fun (r : Int32) (u : Unit) => True) (bW D (va_A [(h0, .inr (6, [.int so, .int sn, .ref s0, .ref s1, .ref s2, .ref s3])), (s0, .inl (T 0, 30, .inl f0)), (s1, .inl (T 1, 30, .inr (.inl f1))), (s2, .inl (T 2, 30, .inr (.inr (.inl f2)))), (s3, .inl (T 3, 30, .inr (.inr (.inr (.inl f3)))))] sz) (fun (u : Unit) => [(h0, .inr (6, [.int so, .int sn, .ref s0, .ref s1, .ref s2, .ref s3])), (s0, .inl (T 0, 30, .inl f0)), (s1, .inl (T 1, 30, .inr (.inl f1))), (s2, .inl (T 2, 30, .inr (.inr (.inl f2)))), (s3, .inl (T 3, 30, .inr (.inr (.inr (.inl f3)))))])) (va_A [(h0, .inr (6, [.int so, .int sn, .ref s0, .ref s1, .ref s2, .ref s3])), (s0, .inl (T 0, 30, .inl f0)), (s1, .inl (T 1, 30, .inr (.inl f1))), (s2, .inl (T 2, 30, .inr (.inr (.inl f2)))), (s3, .inl (T 3, 30, .inr (.inr (.inr (.inl f3)))))] sz)) 0 0 (va_A [(h0, .inr (6, [.int so, .int sn, .ref s0, .ref s1, .ref s2, .ref s3])), (s0, .inl (T 0, 30, .inl f0)), (s1, .inl (T 1, 30, .inr (.inl f1))), (s2, .inl (T 2, 30, .inr (.inr (.inl f2)))), (s3, .inl (T 3, 30, .inr (.inr (.inr (.inl f3)))))] sz) := by
  refine Met.ofW (cc := cX9_asInt) (maxL := 2) (ret := (some .int)) (by decide +kernel) rfl ?_
  intro p e s m args below meth c s₁ B hml hv
  obtain ⟨rfl, hsz, hP, hE, hD0⟩ := hv
  have hx := B.exec
  have hb := B.bytes
  have hr := B.returns
  have hts := atoms_spec (ws := wsX9_asInt) B.pre
  have hown : s.vm.findClass RX9 = some m.cls := findClass_of_methodNamed B.named
  have hlocks := B.notSynchronized
  subst hsz
  have hD := hD0.self (sz := s.heap.size)
  generalize hAe : va_A [(h0, .inr (6, [.int so, .int sn, .ref s0, .ref s1, .ref s2, .ref s3])), (s0, .inl (T 0, 30, .inl f0)), (s1, .inl (T 1, 30, .inr (.inl f1))), (s2, .inl (T 2, 30, .inr (.inr (.inl f2)))), (s3, .inl (T 3, 30, .inr (.inr (.inr (.inl f3)))))] s.heap.size = A at hD ⊢
  have hA : ∀ q : Nat, s.heap.size ≤ q → A q := fun q h => by rw [← hAe]; exact Or.inr h
  have hS : va_S A s.heap s.heap [] := va_S.rf
  have hP : va_P D vwCl [(h0, .inr (6, [.int so, .int sn, .ref s0, .ref s1, .ref s2, .ref s3])), (s0, .inl (T 0, 30, .inl f0)), (s1, .inl (T 1, 30, .inr (.inl f1))), (s2, .inl (T 2, 30, .inr (.inr (.inl f2)))), (s3, .inl (T 3, 30, .inr (.inr (.inr (.inl f3)))))] s.heap := hP
  have hl := lv_entry ([.ref h0, .int x1]) (n := 2) (Nat.le_of_ble_eq_true rfl)
  rw [lg_entry_eq]
  generalize (lg_sl ([.ref h0, .int x1]) ++ List.replicate (2 - (lg_sl ([.ref h0, .int x1])).length) Slot.unset).toArray = ls at hl ⊢
  have hl : lv_has ls 2 [(0, .ref h0), (1, .int x1)] := hl
  clear hD0
  refine lv_aload_n hx hb dX9_asInt_0 rfl (lv_at hl 0 rfl) ?_
  refine va_get (D := D) (ci := 6) (v := .int so) (C := RX9) (T := TX9) (N := 6) hx hb hts in_X9_asInt_X9 hown hE.1 hP 0 rfl rfl 0 (by decide +kernel) (hts (.fieldLink RX9 9 "ClauseBook$Sheet" "sort" "I") (List.mem_of_getElem? (i := 1) rfl)) (fun _ h9 => h9) rfl dX9_asInt_1 ?_
  by_cases k_1 : so = 0
  · obtain rfl := k_1
    refine lv_tableIn (off := 28) (tgt := 32) hx hb dX9_asInt_4 (by decide +kernel) (by decide +kernel) (by decide +kernel) (by decide +kernel) ?_
    refine lv_aload_n hx hb dX9_asInt_32 rfl (lv_at hl 0 rfl) ?_
    refine va_get (D := D) (ci := 6) (v := .ref s0) (C := RX9) (T := TX9) (N := 6) hx hb hts in_X9_asInt_X9 hown hE.1 hP 0 rfl rfl 2 (by decide +kernel) (hts (.fieldLink RX9 18 "ClauseBook$Sheet" "ints" "[I") (List.mem_of_getElem? (i := 2) rfl)) (fun _ h9 => h9) rfl dX9_asInt_33 ?_
    refine lv_iload_n hx hb dX9_asInt_36 rfl (lv_at hl 1 rfl) ?_
    refine va_iald hx hb hE.1 hP 1 0 rfl rfl (by assumption) dX9_asInt_37 ?_
    refine lv_topi (fun z_2 ez_2 => ?_)
    exact W.iret hx hb hr (fun t ht hW => ⟨⟨_, (), rfl, trivial, by rw [ht]; exact hP.sub [0, 1, 2, 3, 4] rfl, hD.sub [0, 1, 2, 3, 4] (by decide +kernel) rfl⟩, hS.F ht⟩) hS.2.2 dX9_asInt_38
  by_cases k_3 : so = 1
  · obtain rfl := k_3
    refine lv_tableIn (off := 35) (tgt := 39) hx hb dX9_asInt_4 (by decide +kernel) (by decide +kernel) (by decide +kernel) (by decide +kernel) ?_
    refine lv_aload_n hx hb dX9_asInt_39 rfl (lv_at hl 0 rfl) ?_
    refine va_get (D := D) (ci := 6) (v := .ref s1) (C := RX9) (T := TX9) (N := 6) hx hb hts in_X9_asInt_X9 hown hE.1 hP 0 rfl rfl 3 (by decide +kernel) (hts (.fieldLink RX9 22 "ClauseBook$Sheet" "longs" "[J") (List.mem_of_getElem? (i := 3) rfl)) (fun _ h9 => h9) rfl dX9_asInt_40 ?_
    refine lv_iload_n hx hb dX9_asInt_43 rfl (lv_at hl 1 rfl) ?_
    refine va_lald hx hb hE.1 hP 2 1 rfl rfl (by assumption) dX9_asInt_44 ?_
    refine lv_topl (fun z_4 ez_4 => ?_)
    refine lv_l2i hx hb dX9_asInt_45 rfl ?_
    exact W.iret hx hb hr (fun t ht hW => ⟨⟨_, (), rfl, trivial, by rw [ht]; exact hP.sub [0, 1, 2, 3, 4] rfl, hD.sub [0, 1, 2, 3, 4] (by decide +kernel) rfl⟩, hS.F ht⟩) hS.2.2 dX9_asInt_46
  by_cases k_5 : so = 2
  · obtain rfl := k_5
    refine lv_tableIn (off := 43) (tgt := 47) hx hb dX9_asInt_4 (by decide +kernel) (by decide +kernel) (by decide +kernel) (by decide +kernel) ?_
    refine lv_aload_n hx hb dX9_asInt_47 rfl (lv_at hl 0 rfl) ?_
    refine va_get (D := D) (ci := 6) (v := .ref s2) (C := RX9) (T := TX9) (N := 6) hx hb hts in_X9_asInt_X9 hown hE.1 hP 0 rfl rfl 4 (by decide +kernel) (hts (.fieldLink RX9 26 "ClauseBook$Sheet" "floats" "[F") (List.mem_of_getElem? (i := 4) rfl)) (fun _ h9 => h9) rfl dX9_asInt_48 ?_
    refine lv_iload_n hx hb dX9_asInt_51 rfl (lv_at hl 1 rfl) ?_
    refine va_fald hx hb hE.1 hP 3 2 rfl rfl (by assumption) dX9_asInt_52 ?_
    obtain ⟨z_6, ez_6⟩ : ∃ y : UInt32, y = (f2 x1.toNatClampNeg) := ⟨_, rfl⟩
    refine W.eq (g2 := F0 m 53 ls [.float z_6]) (by rw [ez_6]) ?_
    clear ez_6
    refine lv_f2i hx hb dX9_asInt_53 ?_
    refine lv_topi (fun z_7 ez_7 => ?_)
    exact W.iret hx hb hr (fun t ht hW => ⟨⟨_, (), rfl, trivial, by rw [ht]; exact hP.sub [0, 1, 2, 3, 4] rfl, hD.sub [0, 1, 2, 3, 4] (by decide +kernel) rfl⟩, hS.F ht⟩) hS.2.2 dX9_asInt_54
  rw [fa_eq] at k_1 k_3 k_5
  try simp only [ti_0, ti_1, ti_2] at k_1 k_3 k_5
  refine lv_tableOut (tgt := 55) hx hb dX9_asInt_4 (by omega) (by decide +kernel) ?_
  refine lv_aload_n hx hb dX9_asInt_55 rfl (lv_at hl 0 rfl) ?_
  refine va_get (D := D) (ci := 6) (v := .ref s3) (C := RX9) (T := TX9) (N := 6) hx hb hts in_X9_asInt_X9 hown hE.1 hP 0 rfl rfl 5 (by decide +kernel) (hts (.fieldLink RX9 30 "ClauseBook$Sheet" "doubles" "[D") (List.mem_of_getElem? (i := 5) rfl)) (fun _ h9 => h9) rfl dX9_asInt_56 ?_
  refine lv_iload_n hx hb dX9_asInt_59 rfl (lv_at hl 1 rfl) ?_
  refine va_dald hx hb hE.1 hP 4 3 rfl rfl (by assumption) dX9_asInt_60 ?_
  obtain ⟨z_8, ez_8⟩ : ∃ y : UInt64, y = (f3 x1.toNatClampNeg) := ⟨_, rfl⟩
  refine W.eq (g2 := F0 m 61 ls [.double z_8]) (by rw [ez_8]) ?_
  clear ez_8
  refine lv_d2i hx hb dX9_asInt_61 ?_
  refine lv_topi (fun z_9 ez_9 => ?_)
  exact W.iret hx hb hr (fun t ht hW => ⟨⟨_, (), rfl, trivial, by rw [ht]; exact hP.sub [0, 1, 2, 3, 4] rfl, hD.sub [0, 1, 2, 3, 4] (by decide +kernel) rfl⟩, hS.F ht⟩) hS.2.2 dX9_asInt_62
theorem dX9_asLong_0 : decode cX9_asLong 0 = .ok (.aload_n 0, 1) := by decide +kernel
theorem dX9_asLong_1 : decode cX9_asLong 1 = .ok (.getfield 9, 3) := by decide +kernel
theorem dX9_asLong_32 : decode cX9_asLong 32 = .ok (.aload_n 0, 1) := by decide +kernel
theorem dX9_asLong_33 : decode cX9_asLong 33 = .ok (.getfield 18, 3) := by decide +kernel
theorem dX9_asLong_36 : decode cX9_asLong 36 = .ok (.iload_n 1, 1) := by decide +kernel
theorem dX9_asLong_37 : decode cX9_asLong 37 = .ok (.iaload, 1) := by decide +kernel
theorem dX9_asLong_38 : decode cX9_asLong 38 = .ok (.i2l, 1) := by decide +kernel
theorem dX9_asLong_39 : decode cX9_asLong 39 = .ok (.lreturn, 1) := by decide +kernel
theorem dX9_asLong_4 : decode cX9_asLong 4 = .ok (.tableswitch 51 0 2 #[28, 36, 43], 28) := by decide +kernel
theorem dX9_asLong_40 : decode cX9_asLong 40 = .ok (.aload_n 0, 1) := by decide +kernel
theorem dX9_asLong_41 : decode cX9_asLong 41 = .ok (.getfield 22, 3) := by decide +kernel
theorem dX9_asLong_44 : decode cX9_asLong 44 = .ok (.iload_n 1, 1) := by decide +kernel
theorem dX9_asLong_45 : decode cX9_asLong 45 = .ok (.laload, 1) := by decide +kernel
theorem dX9_asLong_46 : decode cX9_asLong 46 = .ok (.lreturn, 1) := by decide +kernel
theorem dX9_asLong_47 : decode cX9_asLong 47 = .ok (.aload_n 0, 1) := by decide +kernel
theorem dX9_asLong_48 : decode cX9_asLong 48 = .ok (.getfield 26, 3) := by decide +kernel
theorem dX9_asLong_51 : decode cX9_asLong 51 = .ok (.iload_n 1, 1) := by decide +kernel
theorem dX9_asLong_52 : decode cX9_asLong 52 = .ok (.faload, 1) := by decide +kernel
theorem dX9_asLong_53 : decode cX9_asLong 53 = .ok (.f2l, 1) := by decide +kernel
theorem dX9_asLong_54 : decode cX9_asLong 54 = .ok (.lreturn, 1) := by decide +kernel
theorem dX9_asLong_55 : decode cX9_asLong 55 = .ok (.aload_n 0, 1) := by decide +kernel
theorem dX9_asLong_56 : decode cX9_asLong 56 = .ok (.getfield 30, 3) := by decide +kernel
theorem dX9_asLong_59 : decode cX9_asLong 59 = .ok (.iload_n 1, 1) := by decide +kernel
theorem dX9_asLong_60 : decode cX9_asLong 60 = .ok (.daload, 1) := by decide +kernel
theorem dX9_asLong_61 : decode cX9_asLong 61 = .ok (.d2l, 1) := by decide +kernel
theorem dX9_asLong_62 : decode cX9_asLong 62 = .ok (.lreturn, 1) := by decide +kernel
set_option maxRecDepth 20000 in
theorem in_X9_asLong_X9 : ∀ w ∈ wsX90, w ∈ wsX9_asLong := sub_r [6, 7, 8, 9, 10, 11] rfl
set_option maxHeartbeats 4000000 in
set_option maxRecDepth 100000 in
theorem c_X9_asLong (l : Launch) (D : va_G) (T : Nat → ClassId) (sz : Nat) (h0 : Nat) (so : Int32) (sn : Int32) (s0 : Nat) (s1 : Nat) (s2 : Nat) (s3 : Nat) (f0 : Nat → Int32) (f1 : Nat → Int64) (f2 : Nat → UInt32) (f3 : Nat → UInt64) (x1 : Int32) (hin1 : vp_in x1 30) : Met l yX9_asLong wsX9_asLong ({ frames := 0, cells := 0, slots := 0, locals := 0 }) (pW [.ref h0, .int x1] D T [(h0, .inr (6, [.int so, .int sn, .ref s0, .ref s1, .ref s2, .ref s3])), (s0, .inl (T 0, 30, .inl f0)), (s1, .inl (T 1, 30, .inr (.inl f1))), (s2, .inl (T 2, 30, .inr (.inr (.inl f2)))), (s3, .inl (T 3, 30, .inr (.inr (.inr (.inl f3)))))] sz) (va_Ql (fun (r : Int64) (u : Unit) => True) (bW D (va_A [(h0, .inr (6, [.int so, .int sn, .ref s0, .ref s1, .ref s2, .ref s3])), (s0, .inl (T 0, 30, .inl f0)), (s1, .inl (T 1, 30, .inr (.inl f1))), (s2, .inl (T 2, 30, .inr (.inr (.inl f2)))), (s3, .inl (T 3, 30, .inr (.inr (.inr (.inl f3)))))] sz) (fun (u : Unit) => [(h0, .inr (6, [.int so, .int sn, .ref s0, .ref s1, .ref s2, .ref s3])), (s0, .inl (T 0, 30, .inl f0)), (s1, .inl (T 1, 30, .inr (.inl f1))), (s2, .inl (T 2, 30, .inr (.inr (.inl f2)))), (s3, .inl (T 3, 30, .inr (.inr (.inr (.inl f3)))))])) (va_A [(h0, .inr (6, [.int so, .int sn, .ref s0, .ref s1, .ref s2, .ref s3])), (s0, .inl (T 0, 30, .inl f0)), (s1, .inl (T 1, 30, .inr (.inl f1))), (s2, .inl (T 2, 30, .inr (.inr (.inl f2)))), (s3, .inl (T 3, 30, .inr (.inr (.inr (.inl f3)))))] sz)) 0 0 (va_A [(h0, .inr (6, [.int so, .int sn, .ref s0, .ref s1, .ref s2, .ref s3])), (s0, .inl (T 0, 30, .inl f0)), (s1, .inl (T 1, 30, .inr (.inl f1))), (s2, .inl (T 2, 30, .inr (.inr (.inl f2)))), (s3, .inl (T 3, 30, .inr (.inr (.inr (.inl f3)))))] sz) := by
  refine Met.ofW (cc := cX9_asLong) (maxL := 2) (ret := (some .long)) (by decide +kernel) rfl ?_
  intro p e s m args below meth c s₁ B hml hv
  obtain ⟨rfl, hsz, hP, hE, hD0⟩ := hv
  have hx := B.exec
  have hb := B.bytes
  have hr := B.returns
  have hts := atoms_spec (ws := wsX9_asLong) B.pre
  have hown : s.vm.findClass RX9 = some m.cls := findClass_of_methodNamed B.named
  have hlocks := B.notSynchronized
  subst hsz
  have hD := hD0.self (sz := s.heap.size)
  generalize hAe : va_A [(h0, .inr (6, [.int so, .int sn, .ref s0, .ref s1, .ref s2, .ref s3])), (s0, .inl (T 0, 30, .inl f0)), (s1, .inl (T 1, 30, .inr (.inl f1))), (s2, .inl (T 2, 30, .inr (.inr (.inl f2)))), (s3, .inl (T 3, 30, .inr (.inr (.inr (.inl f3)))))] s.heap.size = A at hD ⊢
  have hA : ∀ q : Nat, s.heap.size ≤ q → A q := fun q h => by rw [← hAe]; exact Or.inr h
  have hS : va_S A s.heap s.heap [] := va_S.rf
  have hP : va_P D vwCl [(h0, .inr (6, [.int so, .int sn, .ref s0, .ref s1, .ref s2, .ref s3])), (s0, .inl (T 0, 30, .inl f0)), (s1, .inl (T 1, 30, .inr (.inl f1))), (s2, .inl (T 2, 30, .inr (.inr (.inl f2)))), (s3, .inl (T 3, 30, .inr (.inr (.inr (.inl f3)))))] s.heap := hP
  have hl := lv_entry ([.ref h0, .int x1]) (n := 2) (Nat.le_of_ble_eq_true rfl)
  rw [lg_entry_eq]
  generalize (lg_sl ([.ref h0, .int x1]) ++ List.replicate (2 - (lg_sl ([.ref h0, .int x1])).length) Slot.unset).toArray = ls at hl ⊢
  have hl : lv_has ls 2 [(0, .ref h0), (1, .int x1)] := hl
  clear hD0
  refine lv_aload_n hx hb dX9_asLong_0 rfl (lv_at hl 0 rfl) ?_
  refine va_get (D := D) (ci := 6) (v := .int so) (C := RX9) (T := TX9) (N := 6) hx hb hts in_X9_asLong_X9 hown hE.1 hP 0 rfl rfl 0 (by decide +kernel) (hts (.fieldLink RX9 9 "ClauseBook$Sheet" "sort" "I") (List.mem_of_getElem? (i := 1) rfl)) (fun _ h9 => h9) rfl dX9_asLong_1 ?_
  by_cases k_1 : so = 0
  · obtain rfl := k_1
    refine lv_tableIn (off := 28) (tgt := 32) hx hb dX9_asLong_4 (by decide +kernel) (by decide +kernel) (by decide +kernel) (by decide +kernel) ?_
    refine lv_aload_n hx hb dX9_asLong_32 rfl (lv_at hl 0 rfl) ?_
    refine va_get (D := D) (ci := 6) (v := .ref s0) (C := RX9) (T := TX9) (N := 6) hx hb hts in_X9_asLong_X9 hown hE.1 hP 0 rfl rfl 2 (by decide +kernel) (hts (.fieldLink RX9 18 "ClauseBook$Sheet" "ints" "[I") (List.mem_of_getElem? (i := 2) rfl)) (fun _ h9 => h9) rfl dX9_asLong_33 ?_
    refine lv_iload_n hx hb dX9_asLong_36 rfl (lv_at hl 1 rfl) ?_
    refine va_iald hx hb hE.1 hP 1 0 rfl rfl (by assumption) dX9_asLong_37 ?_
    refine lv_topi (fun z_2 ez_2 => ?_)
    refine lv_i2l hx hb dX9_asLong_38 rfl ?_
    exact W.lret hx hb hr (fun t ht hW => ⟨⟨_, (), rfl, trivial, by rw [ht]; exact hP.sub [0, 1, 2, 3, 4] rfl, hD.sub [0, 1, 2, 3, 4] (by decide +kernel) rfl⟩, hS.F ht⟩) hS.2.2 dX9_asLong_39
  by_cases k_3 : so = 1
  · obtain rfl := k_3
    refine lv_tableIn (off := 36) (tgt := 40) hx hb dX9_asLong_4 (by decide +kernel) (by decide +kernel) (by decide +kernel) (by decide +kernel) ?_
    refine lv_aload_n hx hb dX9_asLong_40 rfl (lv_at hl 0 rfl) ?_
    refine va_get (D := D) (ci := 6) (v := .ref s1) (C := RX9) (T := TX9) (N := 6) hx hb hts in_X9_asLong_X9 hown hE.1 hP 0 rfl rfl 3 (by decide +kernel) (hts (.fieldLink RX9 22 "ClauseBook$Sheet" "longs" "[J") (List.mem_of_getElem? (i := 3) rfl)) (fun _ h9 => h9) rfl dX9_asLong_41 ?_
    refine lv_iload_n hx hb dX9_asLong_44 rfl (lv_at hl 1 rfl) ?_
    refine va_lald hx hb hE.1 hP 2 1 rfl rfl (by assumption) dX9_asLong_45 ?_
    refine lv_topl (fun z_4 ez_4 => ?_)
    exact W.lret hx hb hr (fun t ht hW => ⟨⟨_, (), rfl, trivial, by rw [ht]; exact hP.sub [0, 1, 2, 3, 4] rfl, hD.sub [0, 1, 2, 3, 4] (by decide +kernel) rfl⟩, hS.F ht⟩) hS.2.2 dX9_asLong_46
  by_cases k_5 : so = 2
  · obtain rfl := k_5
    refine lv_tableIn (off := 43) (tgt := 47) hx hb dX9_asLong_4 (by decide +kernel) (by decide +kernel) (by decide +kernel) (by decide +kernel) ?_
    refine lv_aload_n hx hb dX9_asLong_47 rfl (lv_at hl 0 rfl) ?_
    refine va_get (D := D) (ci := 6) (v := .ref s2) (C := RX9) (T := TX9) (N := 6) hx hb hts in_X9_asLong_X9 hown hE.1 hP 0 rfl rfl 4 (by decide +kernel) (hts (.fieldLink RX9 26 "ClauseBook$Sheet" "floats" "[F") (List.mem_of_getElem? (i := 4) rfl)) (fun _ h9 => h9) rfl dX9_asLong_48 ?_
    refine lv_iload_n hx hb dX9_asLong_51 rfl (lv_at hl 1 rfl) ?_
    refine va_fald hx hb hE.1 hP 3 2 rfl rfl (by assumption) dX9_asLong_52 ?_
    obtain ⟨z_6, ez_6⟩ : ∃ y : UInt32, y = (f2 x1.toNatClampNeg) := ⟨_, rfl⟩
    refine W.eq (g2 := F0 m 53 ls [.float z_6]) (by rw [ez_6]) ?_
    clear ez_6
    refine lv_f2l hx hb dX9_asLong_53 ?_
    refine lv_topl (fun z_7 ez_7 => ?_)
    exact W.lret hx hb hr (fun t ht hW => ⟨⟨_, (), rfl, trivial, by rw [ht]; exact hP.sub [0, 1, 2, 3, 4] rfl, hD.sub [0, 1, 2, 3, 4] (by decide +kernel) rfl⟩, hS.F ht⟩) hS.2.2 dX9_asLong_54
  rw [fa_eq] at k_1 k_3 k_5
  try simp only [ti_0, ti_1, ti_2] at k_1 k_3 k_5
  refine lv_tableOut (tgt := 55) hx hb dX9_asLong_4 (by omega) (by decide +kernel) ?_
  refine lv_aload_n hx hb dX9_asLong_55 rfl (lv_at hl 0 rfl) ?_
  refine va_get (D := D) (ci := 6) (v := .ref s3) (C := RX9) (T := TX9) (N := 6) hx hb hts in_X9_asLong_X9 hown hE.1 hP 0 rfl rfl 5 (by decide +kernel) (hts (.fieldLink RX9 30 "ClauseBook$Sheet" "doubles" "[D") (List.mem_of_getElem? (i := 5) rfl)) (fun _ h9 => h9) rfl dX9_asLong_56 ?_
  refine lv_iload_n hx hb dX9_asLong_59 rfl (lv_at hl 1 rfl) ?_
  refine va_dald hx hb hE.1 hP 4 3 rfl rfl (by assumption) dX9_asLong_60 ?_
  obtain ⟨z_8, ez_8⟩ : ∃ y : UInt64, y = (f3 x1.toNatClampNeg) := ⟨_, rfl⟩
  refine W.eq (g2 := F0 m 61 ls [.double z_8]) (by rw [ez_8]) ?_
  clear ez_8
  refine lv_d2l hx hb dX9_asLong_61 ?_
  refine lv_topl (fun z_9 ez_9 => ?_)
  exact W.lret hx hb hr (fun t ht hW => ⟨⟨_, (), rfl, trivial, by rw [ht]; exact hP.sub [0, 1, 2, 3, 4] rfl, hD.sub [0, 1, 2, 3, 4] (by decide +kernel) rfl⟩, hS.F ht⟩) hS.2.2 dX9_asLong_62
theorem dX9_asDouble_0 : decode cX9_asDouble 0 = .ok (.aload_n 0, 1) := by decide +kernel
theorem dX9_asDouble_1 : decode cX9_asDouble 1 = .ok (.getfield 9, 3) := by decide +kernel
theorem dX9_asDouble_32 : decode cX9_asDouble 32 = .ok (.aload_n 0, 1) := by decide +kernel
theorem dX9_asDouble_33 : decode cX9_asDouble 33 = .ok (.getfield 18, 3) := by decide +kernel
theorem dX9_asDouble_36 : decode cX9_asDouble 36 = .ok (.iload_n 1, 1) := by decide +kernel
theorem dX9_asDouble_37 : decode cX9_asDouble 37 = .ok (.iaload, 1) := by decide +kernel
theorem dX9_asDouble_38 : decode cX9_asDouble 38 = .ok (.i2d, 1) := by decide +kernel
theorem dX9_asDouble_39 : decode cX9_asDouble 39 = .ok (.dreturn, 1) := by decide +kernel
theorem dX9_asDouble_4 : decode cX9_asDouble 4 = .ok (.tableswitch 52 0 2 #[28, 36, 44], 28) := by decide +kernel
theorem dX9_asDouble_40 : decode cX9_asDouble 40 = .ok (.aload_n 0, 1) := by decide +kernel
theorem dX9_asDouble_41 : decode cX9_asDouble 41 = .ok (.getfield 22, 3) := by decide +kernel
theorem dX9_asDouble_44 : decode cX9_asDouble 44 = .ok (.iload_n 1, 1) := by decide +kernel
theorem dX9_asDouble_45 : decode cX9_asDouble 45 = .ok (.laload, 1) := by decide +kernel
theorem dX9_asDouble_46 : decode cX9_asDouble 46 = .ok (.l2d, 1) := by decide +kernel
theorem dX9_asDouble_47 : decode cX9_asDouble 47 = .ok (.dreturn, 1) := by decide +kernel
theorem dX9_asDouble_48 : decode cX9_asDouble 48 = .ok (.aload_n 0, 1) := by decide +kernel
theorem dX9_asDouble_49 : decode cX9_asDouble 49 = .ok (.getfield 26, 3) := by decide +kernel
theorem dX9_asDouble_52 : decode cX9_asDouble 52 = .ok (.iload_n 1, 1) := by decide +kernel
theorem dX9_asDouble_53 : decode cX9_asDouble 53 = .ok (.faload, 1) := by decide +kernel
theorem dX9_asDouble_54 : decode cX9_asDouble 54 = .ok (.f2d, 1) := by decide +kernel
theorem dX9_asDouble_55 : decode cX9_asDouble 55 = .ok (.dreturn, 1) := by decide +kernel
theorem dX9_asDouble_56 : decode cX9_asDouble 56 = .ok (.aload_n 0, 1) := by decide +kernel
theorem dX9_asDouble_57 : decode cX9_asDouble 57 = .ok (.getfield 30, 3) := by decide +kernel
theorem dX9_asDouble_60 : decode cX9_asDouble 60 = .ok (.iload_n 1, 1) := by decide +kernel
theorem dX9_asDouble_61 : decode cX9_asDouble 61 = .ok (.daload, 1) := by decide +kernel
theorem dX9_asDouble_62 : decode cX9_asDouble 62 = .ok (.dreturn, 1) := by decide +kernel
set_option maxRecDepth 20000 in
theorem in_X9_asDouble_X9 : ∀ w ∈ wsX90, w ∈ wsX9_asDouble := sub_r [6, 7, 8, 9, 10, 11] rfl
set_option maxHeartbeats 4000000 in
set_option maxRecDepth 100000 in
theorem c_X9_asDouble (l : Launch) (D : va_G) (T : Nat → ClassId) (sz : Nat) (h0 : Nat) (so : Int32) (sn : Int32) (s0 : Nat) (s1 : Nat) (s2 : Nat) (s3 : Nat) (f0 : Nat → Int32) (f1 : Nat → Int64) (f2 : Nat → UInt32) (f3 : Nat → UInt64) (x1 : Int32) (hin1 : vp_in x1 30) : MetD lw_cs l yX9_asDouble wsX9_asDouble ({ frames := 0, cells := 0, slots := 0, locals := 0 }) (pW [.ref h0, .int x1] D T [(h0, .inr (6, [.int so, .int sn, .ref s0, .ref s1, .ref s2, .ref s3])), (s0, .inl (T 0, 30, .inl f0)), (s1, .inl (T 1, 30, .inr (.inl f1))), (s2, .inl (T 2, 30, .inr (.inr (.inl f2)))), (s3, .inl (T 3, 30, .inr (.inr (.inr (.inl f3)))))] sz) (va_Qd (fun (r : UInt64) (u : Unit) => True) (bW D (va_A [(h0, .inr (6, [.int so, .int sn, .ref s0, .ref s1, .ref s2, .ref s3])), (s0, .inl (T 0, 30, .inl f0)), (s1, .inl (T 1, 30, .inr (.inl f1))), (s2, .inl (T 2, 30, .inr (.inr (.inl f2)))), (s3, .inl (T 3, 30, .inr (.inr (.inr (.inl f3)))))] sz) (fun (u : Unit) => [(h0, .inr (6, [.int so, .int sn, .ref s0, .ref s1, .ref s2, .ref s3])), (s0, .inl (T 0, 30, .inl f0)), (s1, .inl (T 1, 30, .inr (.inl f1))), (s2, .inl (T 2, 30, .inr (.inr (.inl f2)))), (s3, .inl (T 3, 30, .inr (.inr (.inr (.inl f3)))))])) (va_A [(h0, .inr (6, [.int so, .int sn, .ref s0, .ref s1, .ref s2, .ref s3])), (s0, .inl (T 0, 30, .inl f0)), (s1, .inl (T 1, 30, .inr (.inl f1))), (s2, .inl (T 2, 30, .inr (.inr (.inl f2)))), (s3, .inl (T 3, 30, .inr (.inr (.inr (.inl f3)))))] sz)) 0 0 (va_A [(h0, .inr (6, [.int so, .int sn, .ref s0, .ref s1, .ref s2, .ref s3])), (s0, .inl (T 0, 30, .inl f0)), (s1, .inl (T 1, 30, .inr (.inl f1))), (s2, .inl (T 2, 30, .inr (.inr (.inl f2)))), (s3, .inl (T 3, 30, .inr (.inr (.inr (.inl f3)))))] sz) := by
  refine MetD.ofW (cc := cX9_asDouble) (maxL := 2) (ret := (some .double)) (by decide +kernel) rfl ?_
  intro p e s m args below meth c s₁ B hml hv hd0
  obtain ⟨rfl, hsz, hP, hE0, hD0⟩ := hv
  have hx := B.exec
  have hb := B.bytes
  have hr := B.returns
  have hts0 := atoms_spec (ws := wsX9_asDouble) B.pre
  have hown0 : s.vm.findClass RX9 = some m.cls := findClass_of_methodNamed B.named
  have hlocks := B.notSynchronized
  subst hsz
  have hD := hD0.self (sz := s.heap.size)
  generalize hAe : va_A [(h0, .inr (6, [.int so, .int sn, .ref s0, .ref s1, .ref s2, .ref s3])), (s0, .inl (T 0, 30, .inl f0)), (s1, .inl (T 1, 30, .inr (.inl f1))), (s2, .inl (T 2, 30, .inr (.inr (.inl f2)))), (s3, .inl (T 3, 30, .inr (.inr (.inr (.inl f3)))))] s.heap.size = A at hD ⊢
  have hA : ∀ q : Nat, s.heap.size ≤ q → A q := fun q h => by rw [← hAe]; exact Or.inr h
  have hS : va_S A s.heap s.heap [] := va_S.rf
  have hP : va_P D vwCl [(h0, .inr (6, [.int so, .int sn, .ref s0, .ref s1, .ref s2, .ref s3])), (s0, .inl (T 0, 30, .inl f0)), (s1, .inl (T 1, 30, .inr (.inl f1))), (s2, .inl (T 2, 30, .inr (.inr (.inl f2)))), (s3, .inl (T 3, 30, .inr (.inr (.inr (.inl f3)))))] s.heap := hP
  have hl := lv_entry ([.ref h0, .int x1]) (n := 2) (Nat.le_of_ble_eq_true rfl)
  rw [lg_entry_eq]
  generalize (lg_sl ([.ref h0, .int x1]) ++ List.replicate (2 - (lg_sl ([.ref h0, .int x1])).length) Slot.unset).toArray = ls at hl ⊢
  have hl : lv_has ls 2 [(0, .ref h0), (1, .int x1)] := hl
  clear hD0
  have hts := dr_words hts0 s.drawn
  have hE : ekK D T (s.setDrawn s.drawn) := ekK.same (u := s) rfl hE0
  have hown : (s.setDrawn s.drawn).vm.findClass RX9 = some m.cls := hown0
  refine lv_aload_n hx hb dX9_asDouble_0 rfl (lv_at hl 0 rfl) ?_
  refine va_get (D := D) (ci := 6) (v := .int so) (C := RX9) (T := TX9) (N := 6) hx hb hts in_X9_asDouble_X9 hown hE.1 hP 0 rfl rfl 0 (by decide +kernel) (hts (.fieldLink RX9 9 "ClauseBook$Sheet" "sort" "I") (List.mem_of_getElem? (i := 1) rfl)) (fun _ h9 => h9) rfl dX9_asDouble_1 ?_
  by_cases k_1 : so = 0
  · obtain rfl := k_1
    refine lv_tableIn (off := 28) (tgt := 32) hx hb dX9_asDouble_4 (by decide +kernel) (by decide +kernel) (by decide +kernel) (by decide +kernel) ?_
    refine lv_aload_n hx hb dX9_asDouble_32 rfl (lv_at hl 0 rfl) ?_
    refine va_get (D := D) (ci := 6) (v := .ref s0) (C := RX9) (T := TX9) (N := 6) hx hb hts in_X9_asDouble_X9 hown hE.1 hP 0 rfl rfl 2 (by decide +kernel) (hts (.fieldLink RX9 18 "ClauseBook$Sheet" "ints" "[I") (List.mem_of_getElem? (i := 2) rfl)) (fun _ h9 => h9) rfl dX9_asDouble_33 ?_
    refine lv_iload_n hx hb dX9_asDouble_36 rfl (lv_at hl 1 rfl) ?_
    refine va_iald hx hb hE.1 hP 1 0 rfl rfl (by assumption) dX9_asDouble_37 ?_
    refine lv_topi (fun z_2 ez_2 => ?_)
    refine lv_i2d hx hb dX9_asDouble_38 ?_
    obtain ⟨z_3, ez_3⟩ : ∃ y : UInt64, y = (FP.i2d z_2) := ⟨_, rfl⟩
    refine W.eq (g2 := F0 m 39 ls [.double z_3]) (by rw [ez_3]) ?_
    clear ez_3
    refine W.endD hd0 ?_
    exact W.dret hx hb hr (fun t ht hW => ⟨⟨_, (), rfl, trivial, by rw [ht]; exact hP.sub [0, 1, 2, 3, 4] rfl, hD.sub [0, 1, 2, 3, 4] (by decide +kernel) rfl⟩, hS.F ht⟩) hS.2.2 dX9_asDouble_39
  by_cases k_4 : so = 1
  · obtain rfl := k_4
    refine lv_tableIn (off := 36) (tgt := 40) hx hb dX9_asDouble_4 (by decide +kernel) (by decide +kernel) (by decide +kernel) (by decide +kernel) ?_
    refine lv_aload_n hx hb dX9_asDouble_40 rfl (lv_at hl 0 rfl) ?_
    refine va_get (D := D) (ci := 6) (v := .ref s1) (C := RX9) (T := TX9) (N := 6) hx hb hts in_X9_asDouble_X9 hown hE.1 hP 0 rfl rfl 3 (by decide +kernel) (hts (.fieldLink RX9 22 "ClauseBook$Sheet" "longs" "[J") (List.mem_of_getElem? (i := 3) rfl)) (fun _ h9 => h9) rfl dX9_asDouble_41 ?_
    refine lv_iload_n hx hb dX9_asDouble_44 rfl (lv_at hl 1 rfl) ?_
    refine va_lald hx hb hE.1 hP 2 1 rfl rfl (by assumption) dX9_asDouble_45 ?_
    refine lv_topl (fun z_5 ez_5 => ?_)
    refine lv_l2d hx hb dX9_asDouble_46 ?_
    refine W.endD hd0 ?_
    exact W.dret hx hb hr (fun t ht hW => ⟨⟨_, (), rfl, trivial, by rw [ht]; exact hP.sub [0, 1, 2, 3, 4] rfl, hD.sub [0, 1, 2, 3, 4] (by decide +kernel) rfl⟩, hS.F ht⟩) hS.2.2 dX9_asDouble_47
  by_cases k_6 : so = 2
  · obtain rfl := k_6
    refine lv_tableIn (off := 44) (tgt := 48) hx hb dX9_asDouble_4 (by decide +kernel) (by decide +kernel) (by decide +kernel) (by decide +kernel) ?_
    refine lv_aload_n hx hb dX9_asDouble_48 rfl (lv_at hl 0 rfl) ?_
    refine va_get (D := D) (ci := 6) (v := .ref s2) (C := RX9) (T := TX9) (N := 6) hx hb hts in_X9_asDouble_X9 hown hE.1 hP 0 rfl rfl 4 (by decide +kernel) (hts (.fieldLink RX9 26 "ClauseBook$Sheet" "floats" "[F") (List.mem_of_getElem? (i := 4) rfl)) (fun _ h9 => h9) rfl dX9_asDouble_49 ?_
    refine lv_iload_n hx hb dX9_asDouble_52 rfl (lv_at hl 1 rfl) ?_
    refine va_fald hx hb hE.1 hP 3 2 rfl rfl (by assumption) dX9_asDouble_53 ?_
    obtain ⟨z_7, ez_7⟩ : ∃ y : UInt32, y = (f2 x1.toNatClampNeg) := ⟨_, rfl⟩
    refine W.eq (g2 := F0 m 54 ls [.float z_7]) (by rw [ez_7]) ?_
    clear ez_7
    refine lv_f2d_any hd0 lw_bits hx hb dX9_asDouble_54 (fun r_8 d_9 _ hd_9 => ?_)
    have hts := dr_words hts0 d_9
    have hE : ekK D T (s.setDrawn d_9) := ekK.same (u := s) rfl hE0
    have hown : (s.setDrawn d_9).vm.findClass RX9 = some m.cls := hown0
    refine W.endD hd_9 ?_
    exact W.dret hx hb hr (fun t ht hW => ⟨⟨_, (), rfl, trivial, by rw [ht]; exact hP.sub [0, 1, 2, 3, 4] rfl, hD.sub [0, 1, 2, 3, 4] (by decide +kernel) rfl⟩, hS.F ht⟩) hS.2.2 dX9_asDouble_55
  rw [fa_eq] at k_1 k_4 k_6
  try simp only [ti_0, ti_1, ti_2] at k_1 k_4 k_6
  refine lv_tableOut (tgt := 56) hx hb dX9_asDouble_4 (by omega) (by decide +kernel) ?_
  refine lv_aload_n hx hb dX9_asDouble_56 rfl (lv_at hl 0 rfl) ?_
  refine va_get (D := D) (ci := 6) (v := .ref s3) (C := RX9) (T := TX9) (N := 6) hx hb hts in_X9_asDouble_X9 hown hE.1 hP 0 rfl rfl 5 (by decide +kernel) (hts (.fieldLink RX9 30 "ClauseBook$Sheet" "doubles" "[D") (List.mem_of_getElem? (i := 5) rfl)) (fun _ h9 => h9) rfl dX9_asDouble_57 ?_
  refine lv_iload_n hx hb dX9_asDouble_60 rfl (lv_at hl 1 rfl) ?_
  refine va_dald hx hb hE.1 hP 4 3 rfl rfl (by assumption) dX9_asDouble_61 ?_
  obtain ⟨z_10, ez_10⟩ : ∃ y : UInt64, y = (f3 x1.toNatClampNeg) := ⟨_, rfl⟩
  refine W.eq (g2 := F0 m 62 ls [.double z_10]) (by rw [ez_10]) ?_
  clear ez_10
  refine W.endD hd0 ?_
  exact W.dret hx hb hr (fun t ht hW => ⟨⟨_, (), rfl, trivial, by rw [ht]; exact hP.sub [0, 1, 2, 3, 4] rfl, hD.sub [0, 1, 2, 3, 4] (by decide +kernel) rfl⟩, hS.F ht⟩) hS.2.2 dX9_asDouble_62
theorem dX12_halve_0 : decode cX12_halve 0 = .ok (.aload_n 0, 1) := by decide +kernel
theorem dX12_halve_1 : decode cX12_halve 1 = .ok (.iload_n 1, 1) := by decide +kernel
theorem dX12_halve_11 : decode cX12_halve 11 = .ok (.iload_n 3, 1) := by decide +kernel
theorem dX12_halve_12 : decode cX12_halve 12 = .ok (.ireturn, 1) := by decide +kernel
theorem dX12_halve_13 : decode cX12_halve 13 = .ok (.aload_n 0, 1) := by decide +kernel
theorem dX12_halve_14 : decode cX12_halve 14 = .ok (.getfield 65, 3) := by decide +kernel
theorem dX12_halve_17 : decode cX12_halve 17 = .ok (.iload_n 1, 1) := by decide +kernel
theorem dX12_halve_18 : decode cX12_halve 18 = .ok (.aaload, 1) := by decide +kernel
theorem dX12_halve_19 : decode cX12_halve 19 = .ok (.iload_n 2, 1) := by decide +kernel
theorem dX12_halve_2 : decode cX12_halve 2 = .ok (.iload_n 2, 1) := by decide +kernel
theorem dX12_halve_20 : decode cX12_halve 20 = .ok (.invokevirtual 342, 3) := by decide +kernel
theorem dX12_halve_23 : decode cX12_halve 23 = .ok (.iconst 1, 1) := by decide +kernel
theorem dX12_halve_24 : decode cX12_halve 24 = .ok (.ireturn, 1) := by decide +kernel
theorem dX12_halve_3 : decode cX12_halve 3 = .ok (.invokevirtual 321, 3) := by decide +kernel
theorem dX12_halve_6 : decode cX12_halve 6 = .ok (.istore_n 3, 1) := by decide +kernel
theorem dX12_halve_7 : decode cX12_halve 7 = .ok (.iload_n 3, 1) := by decide +kernel
theorem dX12_halve_8 : decode cX12_halve 8 = .ok (.ifCond .eq 5, 3) := by decide +kernel
set_option maxRecDepth 20000 in
theorem ggX12_halve_X12_placeFault : GoodIn wsX12_halve wsX12_placeFault := goodIn_r _ [6, 1, 7, 8, 9, 10, 5, 11, 24, 25, 26, 27, 28, 29, 30, 31, 32, 33, 34, 35, 36, 37, 38, 39, 40] rfl (by decide +kernel)
set_option maxRecDepth 20000 in
theorem ggX12_halve_X9_cutInHalf : GoodIn wsX12_halve wsX9_cutInHalf := goodIn_r _ [16, 17, 18, 19, 20, 21, 22, 23, 35, 36, 37, 38, 39, 40] rfl (by decide +kernel)
set_option maxRecDepth 20000 in
theorem gX12_halve_X12_placeFault : GoodIn wsX12_halve (wsV RX12 321 RX12 yX12_placeFault wsX12_placeFault) := goodIn_app (goodIn_r _ [2, 3, 4, 5] rfl (by decide +kernel)) ggX12_halve_X12_placeFault
set_option maxRecDepth 20000 in
theorem gX12_halve_X9_cutInHalf : GoodIn wsX12_halve (wsV RX12 342 RX9 yX9_cutInHalf wsX9_cutInHalf) := goodIn_app (goodIn_r _ [12, 13, 14, 15] rfl (by decide +kernel)) ggX12_halve_X9_cutInHalf
theorem hv_X9_cutInHalf : yX9_cutInHalf.cls = RX9 ∧ yX9_cutInHalf.cls ≠ "java/lang/invoke/MethodHandle" ∧ yX9_cutInHalf.cls ≠ "java/lang/invoke/VarHandle" ∧ (parseMethodDescriptor yX9_cutInHalf.desc).map (fun d => d.parameters.length) = some 1 := by decide +kernel
set_option maxRecDepth 20000 in
theorem in_X12_halve_X12 : ∀ w ∈ wsX120, w ∈ wsX12_halve := sub_r [24, 25, 26, 27, 28, 29, 30, 31, 32, 33, 34] rfl
set_option maxHeartbeats 4000000 in
set_option maxRecDepth 100000 in
theorem c_X12_halve (l : Launch) (D : va_G) (T : Nat → ClassId) (sz : Nat) (h0 : Nat) (h1 : Nat) (fs0 : List Value) (t0 : Nat) (t1 : Nat) (t2 : Nat) (t3 : Nat) (a00 : Nat) (a01 : Nat) (a02 : Nat) (a03 : Nat) (a10 : Nat) (a11 : Nat) (a12 : Nat) (a13 : Nat) (a20 : Nat) (a21 : Nat) (a22 : Nat) (a23 : Nat) (a30 : Nat) (a31 : Nat) (a32 : Nat) (a33 : Nat) (so : Nat → Int32) (sn : Nat → Int32) (si : Nat → Nat → Int32) (sl : Nat → Nat → Int64) (sf : Nat → Nat → UInt32) (sd : Nat → Nat → UInt64) (x1 : Int32) (x2 : Int32) (e0_9 : fs0[9]? = some (.ref h1)) (hs0 : (-1 ≤ (so 0).toInt ∧ (so 0).toInt ≤ 3) ∧ 0 ≤ (sn 0).toInt ∧ (sn 0).toInt ≤ 30) (hs1 : (-1 ≤ (so 1).toInt ∧ (so 1).toInt ≤ 3) ∧ 0 ≤ (sn 1).toInt ∧ (sn 1).toInt ≤ 30) (hs2 : (-1 ≤ (so 2).toInt ∧ (so 2).toInt ≤ 3) ∧ 0 ≤ (sn 2).toInt ∧ (sn 2).toInt ≤ 30) (hs3 : (-1 ≤ (so 3).toInt ∧ (so 3).toInt ≤ 3) ∧ 0 ≤ (sn 3).toInt ∧ (sn 3).toInt ≤ 30) : MetD lw_cs l yX12_halve wsX12_halve ({ frames := 2, cells := 0, slots := 0, locals := 44 }) (pW [.ref h0, .int x1, .int x2] D T [(h0, .inr (9, fs0)), (h1, .inl (T 6, 4, .inr (.inr (.inr (.inr (va_up (va_up (va_up (va_up (fun _ => none) 0 (some t0)) 1 (some t1)) 2 (some t2)) 3 (some t3))))))), (t0, .inr (6, [.int (so 0), .int (sn 0), .ref a00, .ref a01, .ref a02, .ref a03])), (t1, .inr (6, [.int (so 1), .int (sn 1), .ref a10, .ref a11, .ref a12, .ref a13])), (t2, .inr (6, [.int (so 2), .int (sn 2), .ref a20, .ref a21, .ref a22, .ref a23])), (t3, .inr (6, [.int (so 3), .int (sn 3), .ref a30, .ref a31, .ref a32, .ref a33])), (a00, .inl (T 0, 30, .inl (si 0))), (a01, .inl (T 1, 30, .inr (.inl (sl 0)))), (a02, .inl (T 2, 30, .inr (.inr (.inl (sf 0))))), (a03, .inl (T 3, 30, .inr (.inr (.inr (.inl (sd 0)))))), (a10, .inl (T 0, 30, .inl (si 1))), (a11, .inl (T 1, 30, .inr (.inl (sl 1)))), (a12, .inl (T 2, 30, .inr (.inr (.inl (sf 1))))), (a13, .inl (T 3, 30, .inr (.inr (.inr (.inl (sd 1)))))), (a20, .inl (T 0, 30, .inl (si 2))), (a21, .inl (T 1, 30, .inr (.inl (sl 2)))), (a22, .inl (T 2, 30, .inr (.inr (.inl (sf 2))))), (a23, .inl (T 3, 30, .inr (.inr (.inr (.inl (sd 2)))))), (a30, .inl (T 0, 30, .inl (si 3))), (a31, .inl (T 1, 30, .inr (.inl (sl 3)))), (a32, .inl (T 2, 30, .inr (.inr (.inl (sf 3))))), (a33, .inl (T 3, 30, .inr (.inr (.inr (.inl (sd 3))))))] sz) (va_Qi (fun (r : Int32) (u : (Nat → Nat → Int32) × (Nat → Nat → Int64) × (Nat → Nat → UInt32) × (Nat → Nat → UInt64)) => (¬ (0 ≤ x1.toInt ∧ x1.toInt ≤ 3) → r.toInt = -2) ∧ ((0 ≤ x1.toInt ∧ x1.toInt ≤ 3) → ((so (x1.toNatClampNeg)).toInt = -1 → r.toInt = -11) ∧ (¬ (so (x1.toNatClampNeg)).toInt = -1 → ((0 ≤ x2.toInt ∧ x2.toInt < (sn (x1.toNatClampNeg)).toInt) → r.toInt = 1) ∧ (¬ (0 ≤ x2.toInt ∧ x2.toInt < (sn (x1.toNatClampNeg)).toInt) → r.toInt = -12)))) (bW D (va_A [(h0, .inr (9, fs0)), (h1, .inl (T 6, 4, .inr (.inr (.inr (.inr (va_up (va_up (va_up (va_up (fun _ => none) 0 (some t0)) 1 (some t1)) 2 (some t2)) 3 (some t3))))))), (t0, .inr (6, [.int (so 0), .int (sn 0), .ref a00, .ref a01, .ref a02, .ref a03])), (t1, .inr (6, [.int (so 1), .int (sn 1), .ref a10, .ref a11, .ref a12, .ref a13])), (t2, .inr (6, [.int (so 2), .int (sn 2), .ref a20, .ref a21, .ref a22, .ref a23])), (t3, .inr (6, [.int (so 3), .int (sn 3), .ref a30, .ref a31, .ref a32, .ref a33])), (a00, .inl (T 0, 30, .inl (si 0))), (a01, .inl (T 1, 30, .inr (.inl (sl 0)))), (a02, .inl (T 2, 30, .inr (.inr (.inl (sf 0))))), (a03, .inl (T 3, 30, .inr (.inr (.inr (.inl (sd 0)))))), (a10, .inl (T 0, 30, .inl (si 1))), (a11, .inl (T 1, 30, .inr (.inl (sl 1)))), (a12, .inl (T 2, 30, .inr (.inr (.inl (sf 1))))), (a13, .inl (T 3, 30, .inr (.inr (.inr (.inl (sd 1)))))), (a20, .inl (T 0, 30, .inl (si 2))), (a21, .inl (T 1, 30, .inr (.inl (sl 2)))), (a22, .inl (T 2, 30, .inr (.inr (.inl (sf 2))))), (a23, .inl (T 3, 30, .inr (.inr (.inr (.inl (sd 2)))))), (a30, .inl (T 0, 30, .inl (si 3))), (a31, .inl (T 1, 30, .inr (.inl (sl 3)))), (a32, .inl (T 2, 30, .inr (.inr (.inl (sf 3))))), (a33, .inl (T 3, 30, .inr (.inr (.inr (.inl (sd 3))))))] sz) (fun (u : (Nat → Nat → Int32) × (Nat → Nat → Int64) × (Nat → Nat → UInt32) × (Nat → Nat → UInt64)) => [(h0, .inr (9, fs0)), (h1, .inl (T 6, 4, .inr (.inr (.inr (.inr (va_up (va_up (va_up (va_up (fun _ => none) 0 (some t0)) 1 (some t1)) 2 (some t2)) 3 (some t3))))))), (t0, .inr (6, [.int (so 0), .int (sn 0), .ref a00, .ref a01, .ref a02, .ref a03])), (t1, .inr (6, [.int (so 1), .int (sn 1), .ref a10, .ref a11, .ref a12, .ref a13])), (t2, .inr (6, [.int (so 2), .int (sn 2), .ref a20, .ref a21, .ref a22, .ref a23])), (t3, .inr (6, [.int (so 3), .int (sn 3), .ref a30, .ref a31, .ref a32, .ref a33])), (a00, .inl (T 0, 30, .inl (u.1 0))), (a01, .inl (T 1, 30, .inr (.inl (u.2.1 0)))), (a02, .inl (T 2, 30, .inr (.inr (.inl (u.2.2.1 0))))), (a03, .inl (T 3, 30, .inr (.inr (.inr (.inl (u.2.2.2 0)))))), (a10, .inl (T 0, 30, .inl (u.1 1))), (a11, .inl (T 1, 30, .inr (.inl (u.2.1 1)))), (a12, .inl (T 2, 30, .inr (.inr (.inl (u.2.2.1 1))))), (a13, .inl (T 3, 30, .inr (.inr (.inr (.inl (u.2.2.2 1)))))), (a20, .inl (T 0, 30, .inl (u.1 2))), (a21, .inl (T 1, 30, .inr (.inl (u.2.1 2)))), (a22, .inl (T 2, 30, .inr (.inr (.inl (u.2.2.1 2))))), (a23, .inl (T 3, 30, .inr (.inr (.inr (.inl (u.2.2.2 2)))))), (a30, .inl (T 0, 30, .inl (u.1 3))), (a31, .inl (T 1, 30, .inr (.inl (u.2.1 3)))), (a32, .inl (T 2, 30, .inr (.inr (.inl (u.2.2.1 3))))), (a33, .inl (T 3, 30, .inr (.inr (.inr (.inl (u.2.2.2 3))))))])) (va_A [(h0, .inr (9, fs0)), (h1, .inl (T 6, 4, .inr (.inr (.inr (.inr (va_up (va_up (va_up (va_up (fun _ => none) 0 (some t0)) 1 (some t1)) 2 (some t2)) 3 (some t3))))))), (t0, .inr (6, [.int (so 0), .int (sn 0), .ref a00, .ref a01, .ref a02, .ref a03])), (t1, .inr (6, [.int (so 1), .int (sn 1), .ref a10, .ref a11, .ref a12, .ref a13])), (t2, .inr (6, [.int (so 2), .int (sn 2), .ref a20, .ref a21, .ref a22, .ref a23])), (t3, .inr (6, [.int (so 3), .int (sn 3), .ref a30, .ref a31, .ref a32, .ref a33])), (a00, .inl (T 0, 30, .inl (si 0))), (a01, .inl (T 1, 30, .inr (.inl (sl 0)))), (a02, .inl (T 2, 30, .inr (.inr (.inl (sf 0))))), (a03, .inl (T 3, 30, .inr (.inr (.inr (.inl (sd 0)))))), (a10, .inl (T 0, 30, .inl (si 1))), (a11, .inl (T 1, 30, .inr (.inl (sl 1)))), (a12, .inl (T 2, 30, .inr (.inr (.inl (sf 1))))), (a13, .inl (T 3, 30, .inr (.inr (.inr (.inl (sd 1)))))), (a20, .inl (T 0, 30, .inl (si 2))), (a21, .inl (T 1, 30, .inr (.inl (sl 2)))), (a22, .inl (T 2, 30, .inr (.inr (.inl (sf 2))))), (a23, .inl (T 3, 30, .inr (.inr (.inr (.inl (sd 2)))))), (a30, .inl (T 0, 30, .inl (si 3))), (a31, .inl (T 1, 30, .inr (.inl (sl 3)))), (a32, .inl (T 2, 30, .inr (.inr (.inl (sf 3))))), (a33, .inl (T 3, 30, .inr (.inr (.inr (.inl (sd 3))))))] sz)) 0 0 (va_A [(h0, .inr (9, fs0)), (h1, .inl (T 6, 4, .inr (.inr (.inr (.inr (va_up (va_up (va_up (va_up (fun _ => none) 0 (some t0)) 1 (some t1)) 2 (some t2)) 3 (some t3))))))), (t0, .inr (6, [.int (so 0), .int (sn 0), .ref a00, .ref a01, .ref a02, .ref a03])), (t1, .inr (6, [.int (so 1), .int (sn 1), .ref a10, .ref a11, .ref a12, .ref a13])), (t2, .inr (6, [.int (so 2), .int (sn 2), .ref a20, .ref a21, .ref a22, .ref a23])), (t3, .inr (6, [.int (so 3), .int (sn 3), .ref a30, .ref a31, .ref a32, .ref a33])), (a00, .inl (T 0, 30, .inl (si 0))), (a01, .inl (T 1, 30, .inr (.inl (sl 0)))), (a02, .inl (T 2, 30, .inr (.inr (.inl (sf 0))))), (a03, .inl (T 3, 30, .inr (.inr (.inr (.inl (sd 0)))))), (a10, .inl (T 0, 30, .inl (si 1))), (a11, .inl (T 1, 30, .inr (.inl (sl 1)))), (a12, .inl (T 2, 30, .inr (.inr (.inl (sf 1))))), (a13, .inl (T 3, 30, .inr (.inr (.inr (.inl (sd 1)))))), (a20, .inl (T 0, 30, .inl (si 2))), (a21, .inl (T 1, 30, .inr (.inl (sl 2)))), (a22, .inl (T 2, 30, .inr (.inr (.inl (sf 2))))), (a23, .inl (T 3, 30, .inr (.inr (.inr (.inl (sd 2)))))), (a30, .inl (T 0, 30, .inl (si 3))), (a31, .inl (T 1, 30, .inr (.inl (sl 3)))), (a32, .inl (T 2, 30, .inr (.inr (.inl (sf 3))))), (a33, .inl (T 3, 30, .inr (.inr (.inr (.inl (sd 3))))))] sz) := by
  refine MetD.ofW (cc := cX12_halve) (maxL := 4) (ret := (some .int)) (by decide +kernel) rfl ?_
  intro p e s m args below meth c s₁ B hml hv hd0
  obtain ⟨rfl, hsz, hP, hE0, hD0⟩ := hv
  have hx := B.exec
  have hb := B.bytes
  have hr := B.returns
  have hts0 := atoms_spec (ws := wsX12_halve) B.pre
  have hown0 : s.vm.findClass RX12 = some m.cls := findClass_of_methodNamed B.named
  have hlocks := B.notSynchronized
  subst hsz
  have hD := hD0.self (sz := s.heap.size)
  generalize hAe : va_A [(h0, .inr (9, fs0)), (h1, .inl (T 6, 4, .inr (.inr (.inr (.inr (va_up (va_up (va_up (va_up (fun _ => none) 0 (some t0)) 1 (some t1)) 2 (some t2)) 3 (some t3))))))), (t0, .inr (6, [.int (so 0), .int (sn 0), .ref a00, .ref a01, .ref a02, .ref a03])), (t1, .inr (6, [.int (so 1), .int (sn 1), .ref a10, .ref a11, .ref a12, .ref a13])), (t2, .inr (6, [.int (so 2), .int (sn 2), .ref a20, .ref a21, .ref a22, .ref a23])), (t3, .inr (6, [.int (so 3), .int (sn 3), .ref a30, .ref a31, .ref a32, .ref a33])), (a00, .inl (T 0, 30, .inl (si 0))), (a01, .inl (T 1, 30, .inr (.inl (sl 0)))), (a02, .inl (T 2, 30, .inr (.inr (.inl (sf 0))))), (a03, .inl (T 3, 30, .inr (.inr (.inr (.inl (sd 0)))))), (a10, .inl (T 0, 30, .inl (si 1))), (a11, .inl (T 1, 30, .inr (.inl (sl 1)))), (a12, .inl (T 2, 30, .inr (.inr (.inl (sf 1))))), (a13, .inl (T 3, 30, .inr (.inr (.inr (.inl (sd 1)))))), (a20, .inl (T 0, 30, .inl (si 2))), (a21, .inl (T 1, 30, .inr (.inl (sl 2)))), (a22, .inl (T 2, 30, .inr (.inr (.inl (sf 2))))), (a23, .inl (T 3, 30, .inr (.inr (.inr (.inl (sd 2)))))), (a30, .inl (T 0, 30, .inl (si 3))), (a31, .inl (T 1, 30, .inr (.inl (sl 3)))), (a32, .inl (T 2, 30, .inr (.inr (.inl (sf 3))))), (a33, .inl (T 3, 30, .inr (.inr (.inr (.inl (sd 3))))))] s.heap.size = A at hD ⊢
  have hA : ∀ q : Nat, s.heap.size ≤ q → A q := fun q h => by rw [← hAe]; exact Or.inr h
  have hS : va_S A s.heap s.heap [] := va_S.rf
  have hP : va_P D vwCl [(h0, .inr (9, fs0)), (h1, .inl (T 6, 4, .inr (.inr (.inr (.inr (va_up (va_up (va_up (va_up (fun _ => none) 0 (some t0)) 1 (some t1)) 2 (some t2)) 3 (some t3))))))), (t0, .inr (6, [.int (so 0), .int (sn 0), .ref a00, .ref a01, .ref a02, .ref a03])), (t1, .inr (6, [.int (so 1), .int (sn 1), .ref a10, .ref a11, .ref a12, .ref a13])), (t2, .inr (6, [.int (so 2), .int (sn 2), .ref a20, .ref a21, .ref a22, .ref a23])), (t3, .inr (6, [.int (so 3), .int (sn 3), .ref a30, .ref a31, .ref a32, .ref a33])), (a00, .inl (T 0, 30, .inl (si 0))), (a01, .inl (T 1, 30, .inr (.inl (sl 0)))), (a02, .inl (T 2, 30, .inr (.inr (.inl (sf 0))))), (a03, .inl (T 3, 30, .inr (.inr (.inr (.inl (sd 0)))))), (a10, .inl (T 0, 30, .inl (si 1))), (a11, .inl (T 1, 30, .inr (.inl (sl 1)))), (a12, .inl (T 2, 30, .inr (.inr (.inl (sf 1))))), (a13, .inl (T 3, 30, .inr (.inr (.inr (.inl (sd 1)))))), (a20, .inl (T 0, 30, .inl (si 2))), (a21, .inl (T 1, 30, .inr (.inl (sl 2)))), (a22, .inl (T 2, 30, .inr (.inr (.inl (sf 2))))), (a23, .inl (T 3, 30, .inr (.inr (.inr (.inl (sd 2)))))), (a30, .inl (T 0, 30, .inl (si 3))), (a31, .inl (T 1, 30, .inr (.inl (sl 3)))), (a32, .inl (T 2, 30, .inr (.inr (.inl (sf 3))))), (a33, .inl (T 3, 30, .inr (.inr (.inr (.inl (sd 3))))))] s.heap := hP
  have hl := lv_entry ([.ref h0, .int x1, .int x2]) (n := 4) (Nat.le_of_ble_eq_true rfl)
  rw [lg_entry_eq]
  generalize (lg_sl ([.ref h0, .int x1, .int x2]) ++ List.replicate (4 - (lg_sl ([.ref h0, .int x1, .int x2])).length) Slot.unset).toArray = ls at hl ⊢
  have hl : lv_has ls 4 [(0, .ref h0), (1, .int x1), (2, .int x2)] := hl
  clear hD0
  have hts := dr_words hts0 s.drawn
  have hE : ekK D T (s.setDrawn s.drawn) := ekK.same (u := s) rfl hE0
  have hown : (s.setDrawn s.drawn).vm.findClass RX12 = some m.cls := hown0
  refine lv_aload_n hx hb dX12_halve_0 rfl (lv_at hl 0 rfl) ?_
  refine lv_iload_n hx hb dX12_halve_1 rfl (lv_at hl 1 rfl) ?_
  refine lv_iload_n hx hb dX12_halve_2 rfl (lv_at hl 2 rfl) ?_
  refine vp_callSi (W.runV (As := [.int x1, .int x2]) (rest := []) ⟨hx, hb, hml, hown, hts⟩ (c_X12_placeFault l D T h0 fs0 h1 (va_up (va_up (va_up (va_up (fun _ => none) 0 (some t0)) 1 (some t1)) 2 (some t2)) 3 (some t3)) t0 [.int (so 0), .int (sn 0), .ref a00, .ref a01, .ref a02, .ref a03] t1 [.int (so 1), .int (sn 1), .ref a10, .ref a11, .ref a12, .ref a13] t2 [.int (so 2), .int (sn 2), .ref a20, .ref a21, .ref a22, .ref a23] t3 [.int (so 3), .int (sn 3), .ref a30, .ref a31, .ref a32, .ref a33] x1 x2 so sn e0_9 rfl rfl rfl rfl rfl rfl rfl rfl rfl rfl rfl rfl (by omega) (by omega) (by omega) (by omega)) (cwV 2 hts gX12_halve_X12_placeFault rfl rfl rfl hv_X12_placeFault ⟨Nat.le_of_ble_eq_true rfl, Nat.le_of_ble_eq_true rfl⟩) (pR_V (q := (RX12, TX12, 11)) (ci := 9) (q0 := 0) hP hE rfl rfl [0, 1, 2, 3, 4, 5] rfl) rfl rfl hl.1 rfl (lv_room (Nat.le_of_ble_eq_true rfl)) dX12_halve_3 ⟨Nat.le_of_ble_eq_true rfl, Nat.le_of_ble_eq_true rfl⟩) (fun r_1 hr_1 => ?_)
  refine lv_istore_n (lv' := [(3, .int r_1), (0, .ref h0), (1, .int x1), (2, .int x2)]) hx hb dX12_halve_6 rfl hl (by decide +kernel) rfl (fun ls hl => ?_)
  refine lv_iload_n hx hb dX12_halve_7 rfl (lv_at hl 0 rfl) ?_
  refine lv_if_eq (tgt := 13) hx hb dX12_halve_8 (by decide +kernel) (fun c_2 => ?_) (fun c_2 => ?_)
  · rw [fa_eq] at c_2
    try rw [ti_0] at c_2
    refine lv_aload_n hx hb dX12_halve_13 rfl (lv_at hl 1 rfl) ?_
    refine va_get (D := D) (ci := 9) (v := .ref h1) (C := RX12) (T := TX12) (N := 11) hx hb hts in_X12_halve_X12 hown hE.1 hP 0 rfl rfl 9 (by decide +kernel) (hts (.fieldLink RX12 65 "ClauseBook" "sheets" "[LClauseBook$Sheet;") (List.mem_of_getElem? (i := 1) rfl)) (fun _ h9 => h9) e0_9 dX12_halve_14 ?_
    refine lv_iload_n hx hb dX12_halve_17 rfl (lv_at hl 2 rfl) ?_
    have h9f : (0 ≤ x1.toInt ∧ x1.toInt ≤ 3) ∧ 0 ≤ x2.toInt ∧ x2.toInt < 30 := hr_1.1 (by omega)
    rcases in4 (x := x1) (by omega) with rfl | rfl | rfl | rfl
    · have h9t := ti_0
      refine va_aldq hx hb hE.1 hP 1 6 rfl rfl (by unfold vp_in; decide) dX12_halve_18 ?_
      refine W.eq (g2 := F0 m 19 ls [.ref t0]) rfl ?_
      refine lv_iload_n hx hb dX12_halve_19 rfl (lv_at hl 3 rfl) ?_
      have hFc := va_free (wc := [(t0, .inr (6, [.int (so 0), .int (sn 0), .ref a00, .ref a01, .ref a02, .ref a03])), (a00, .inl (T 0, 30, .inl (si 0))), (a01, .inl (T 1, 30, .inr (.inl (sl 0)))), (a02, .inl (T 2, 30, .inr (.inr (.inl (sf 0))))), (a03, .inl (T 3, 30, .inr (.inr (.inr (.inl (sd 0))))))]) hD hS hA [2, 6, 7, 8, 9] rfl
      refine va_callvD hd0 (va_runV_D (As := [.int x2]) (rest := []) ⟨hx, hb, hml, hown, hts⟩ (c_X9_cutInHalf l D T _ t0 (so 0) (sn 0) a00 a01 a02 a03 (si 0) (sl 0) (sf 0) (sd 0) x2 (by rw [vp_in_iff]; omega)) (cwV 1 hts gX12_halve_X9_cutInHalf rfl rfl rfl hv_X9_cutInHalf ⟨Nat.le_of_ble_eq_true rfl, Nat.le_of_ble_eq_true rfl⟩) (pW_V (q := (RX9, TX9, 6)) (ci := 6) (q0 := 2) hP hE hD rfl rfl [2, 6, 7, 8, 9] (by decide +kernel) rfl rfl) rfl rfl hl.1 rfl (lv_room (Nat.le_of_ble_eq_true rfl)) dX12_halve_20 ⟨Nat.le_of_ble_eq_true rfl, Nat.le_of_ble_eq_true rfl⟩) hS (fun q _ h => hFc q h) hFc (fun u_4 t H1 locs ht hvm hr_3 hB hz1 hk1 hS d_5 hd_5 => ?_)
      have hts := dr_words hts0 d_5
      have hE : ekK D T (s.setDrawn d_5) := ekK.same (u := s) rfl hE0
      have hown : (s.setDrawn d_5).vm.findClass RX12 = some m.cls := hown0
      obtain ⟨f_6, f_7, f_8, f_9⟩ := u_4
      obtain ⟨hP1, hD1⟩ := hB
      rw [ht] at hP1
      obtain ⟨hP, hD⟩ := va_repl [(h0, .inr (9, fs0)), (h1, .inl (T 6, 4, .inr (.inr (.inr (.inr (va_up (va_up (va_up (va_up (fun _ => none) 0 (some t0)) 1 (some t1)) 2 (some t2)) 3 (some t3))))))), (t0, .inr (6, [.int (so 0), .int (sn 0), .ref a00, .ref a01, .ref a02, .ref a03])), (t1, .inr (6, [.int (so 1), .int (sn 1), .ref a10, .ref a11, .ref a12, .ref a13])), (t2, .inr (6, [.int (so 2), .int (sn 2), .ref a20, .ref a21, .ref a22, .ref a23])), (t3, .inr (6, [.int (so 3), .int (sn 3), .ref a30, .ref a31, .ref a32, .ref a33])), (a00, .inl (T 0, 30, .inl f_6)), (a01, .inl (T 1, 30, .inr (.inl f_7))), (a02, .inl (T 2, 30, .inr (.inr (.inl f_8)))), (a03, .inl (T 3, 30, .inr (.inr (.inr (.inl f_9))))), (a10, .inl (T 0, 30, .inl (si 1))), (a11, .inl (T 1, 30, .inr (.inl (sl 1)))), (a12, .inl (T 2, 30, .inr (.inr (.inl (sf 1))))), (a13, .inl (T 3, 30, .inr (.inr (.inr (.inl (sd 1)))))), (a20, .inl (T 0, 30, .inl (si 2))), (a21, .inl (T 1, 30, .inr (.inl (sl 2)))), (a22, .inl (T 2, 30, .inr (.inr (.inl (sf 2))))), (a23, .inl (T 3, 30, .inr (.inr (.inr (.inl (sd 2)))))), (a30, .inl (T 0, 30, .inl (si 3))), (a31, .inl (T 1, 30, .inr (.inl (sl 3)))), (a32, .inl (T 2, 30, .inr (.inr (.inl (sf 3))))), (a33, .inl (T 3, 30, .inr (.inr (.inr (.inl (sd 3))))))] hP hD [2, 6, 7, 8, 9] [2, 6, 7, 8, 9] rfl (by decide +kernel) rfl rfl rfl hk1 hP1
      clear hP1 hD1 hFc
      generalize H1 = H at hP hS ⊢
      refine lv_iconst (v := 1) hx hb dX12_halve_23 (by decide +kernel) ?_
      refine W.endD hd_5 ?_
      exact W.iret hx hb hr (fun t ht hW => ⟨⟨_, ((fun k => [f_6, (si 1), (si 2), (si 3)].getD k f_6), (fun k => [f_7, (sl 1), (sl 2), (sl 3)].getD k f_7), (fun k => [f_8, (sf 1), (sf 2), (sf 3)].getD k f_8), (fun k => [f_9, (sd 1), (sd 2), (sd 3)].getD k f_9)), rfl, (by (try dsimp only); have h9a1 : (so ((0 : Int32).toNatClampNeg)).toInt = (so 0).toInt := rfl; have h9b1 : (sn ((0 : Int32).toNatClampNeg)).toInt = (sn 0).toInt := rfl; have h9c1 : (0 : Int32).toInt = 0 := (by decide +kernel); have h9r : (1 : Int32).toInt = 1 := (by decide +kernel); omega), by rw [ht]; exact hP.sub [0, 1, 2, 3, 4, 5, 6, 7, 8, 9, 10, 11, 12, 13, 14, 15, 16, 17, 18, 19, 20, 21] rfl, hD.sub [0, 1, 2, 3, 4, 5, 6, 7, 8, 9, 10, 11, 12, 13, 14, 15, 16, 17, 18, 19, 20, 21] (by decide +kernel) rfl⟩, hS.F ht⟩) hS.2.2 dX12_halve_24
    · have h9t := ti_1
      refine va_aldq hx hb hE.1 hP 1 6 rfl rfl (by unfold vp_in; decide) dX12_halve_18 ?_
      refine W.eq (g2 := F0 m 19 ls [.ref t1]) rfl ?_
      refine lv_iload_n hx hb dX12_halve_19 rfl (lv_at hl 3 rfl) ?_
      have hFc := va_free (wc := [(t1, .inr (6, [.int (so 1), .int (sn 1), .ref a10, .ref a11, .ref a12, .ref a13])), (a10, .inl (T 0, 30, .inl (si 1))), (a11, .inl (T 1, 30, .inr (.inl (sl 1)))), (a12, .inl (T 2, 30, .inr (.inr (.inl (sf 1))))), (a13, .inl (T 3, 30, .inr (.inr (.inr (.inl (sd 1))))))]) hD hS hA [3, 10, 11, 12, 13] rfl
      refine va_callvD hd0 (va_runV_D (As := [.int x2]) (rest := []) ⟨hx, hb, hml, hown, hts⟩ (c_X9_cutInHalf l D T _ t1 (so 1) (sn 1) a10 a11 a12 a13 (si 1) (sl 1) (sf 1) (sd 1) x2 (by rw [vp_in_iff]; omega)) (cwV 1 hts gX12_halve_X9_cutInHalf rfl rfl rfl hv_X9_cutInHalf ⟨Nat.le_of_ble_eq_true rfl, Nat.le_of_ble_eq_true rfl⟩) (pW_V (q := (RX9, TX9, 6)) (ci := 6) (q0 := 3) hP hE hD rfl rfl [3, 10, 11, 12, 13] (by decide +kernel) rfl rfl) rfl rfl hl.1 rfl (lv_room (Nat.le_of_ble_eq_true rfl)) dX12_halve_20 ⟨Nat.le_of_ble_eq_true rfl, Nat.le_of_ble_eq_true rfl⟩) hS (fun q _ h => hFc q h) hFc (fun u_11 t H1 locs ht hvm hr_10 hB hz1 hk1 hS d_12 hd_12 => ?_)
      have hts := dr_words hts0 d_12
      have hE : ekK D T (s.setDrawn d_12) := ekK.same (u := s) rfl hE0
      have hown : (s.setDrawn d_12).vm.findClass RX12 = some m.cls := hown0
      obtain ⟨f_13, f_14, f_15, f_16⟩ := u_11
      obtain ⟨hP1, hD1⟩ := hB
      rw [ht] at hP1
      obtain ⟨hP, hD⟩ := va_repl [(h0, .inr (9, fs0)), (h1, .inl (T 6, 4, .inr (.inr (.inr (.inr (va_up (va_up (va_up (va_up (fun _ => none) 0 (some t0)) 1 (some t1)) 2 (some t2)) 3 (some t3))))))), (t0, .inr (6, [.int (so 0), .int (sn 0), .ref a00, .ref a01, .ref a02, .ref a03])), (t1, .inr (6, [.int (so 1), .int (sn 1), .ref a10, .ref a11, .ref a12, .ref a13])), (t2, .inr (6, [.int (so 2), .int (sn 2), .ref a20, .ref a21, .ref a22, .ref a23])), (t3, .inr (6, [.int (so 3), .int (sn 3), .ref a30, .ref a31, .ref a32, .ref a33])), (a00, .inl (T 0, 30, .inl (si 0))), (a01, .inl (T 1, 30, .inr (.inl (sl 0)))), (a02, .inl (T 2, 30, .inr (.inr (.inl (sf 0))))), (a03, .inl (T 3, 30, .inr (.inr (.inr (.inl (sd 0)))))), (a10, .inl (T 0, 30, .inl f_13)), (a11, .inl (T 1, 30, .inr (.inl f_14))), (a12, .inl (T 2, 30, .inr (.inr (.inl f_15)))), (a13, .inl (T 3, 30, .inr (.inr (.inr (.inl f_16))))), (a20, .inl (T 0, 30, .inl (si 2))), (a21, .inl (T 1, 30, .inr (.inl (sl 2)))), (a22, .inl (T 2, 30, .inr (.inr (.inl (sf 2))))), (a23, .inl (T 3, 30, .inr (.inr (.inr (.inl (sd 2)))))), (a30, .inl (T 0, 30, .inl (si 3))), (a31, .inl (T 1, 30, .inr (.inl (sl 3)))), (a32, .inl (T 2, 30, .inr (.inr (.inl (sf 3))))), (a33, .inl (T 3, 30, .inr (.inr (.inr (.inl (sd 3))))))] hP hD [3, 10, 11, 12, 13] [3, 10, 11, 12, 13] rfl (by decide +kernel) rfl rfl rfl hk1 hP1
      clear hP1 hD1 hFc
      generalize H1 = H at hP hS ⊢
      refine lv_iconst (v := 1) hx hb dX12_halve_23 (by decide +kernel) ?_
      refine W.endD hd_12 ?_
      exact W.iret hx hb hr (fun t ht hW => ⟨⟨_, ((fun k => [(si 0), f_13, (si 2), (si 3)].getD k (si 0)), (fun k => [(sl 0), f_14, (sl 2), (sl 3)].getD k (sl 0)), (fun k => [(sf 0), f_15, (sf 2), (sf 3)].getD k (sf 0)), (fun k => [(sd 0), f_16, (sd 2), (sd 3)].getD k (sd 0))), rfl, (by (try dsimp only); have h9a1 : (so ((1 : Int32).toNatClampNeg)).toInt = (so 1).toInt := rfl; have h9b1 : (sn ((1 : Int32).toNatClampNeg)).toInt = (sn 1).toInt := rfl; have h9c1 : (1 : Int32).toInt = 1 := (by decide +kernel); have h9r : (1 : Int32).toInt = 1 := (by decide +kernel); omega), by rw [ht]; exact hP.sub [0, 1, 2, 3, 4, 5, 6, 7, 8, 9, 10, 11, 12, 13, 14, 15, 16, 17, 18, 19, 20, 21] rfl, hD.sub [0, 1, 2, 3, 4, 5, 6, 7, 8, 9, 10, 11, 12, 13, 14, 15, 16, 17, 18, 19, 20, 21] (by decide +kernel) rfl⟩, hS.F ht⟩) hS.2.2 dX12_halve_24
    · have h9t := ti_2
      refine va_aldq hx hb hE.1 hP 1 6 rfl rfl (by unfold vp_in; decide) dX12_halve_18 ?_
      refine W.eq (g2 := F0 m 19 ls [.ref t2]) rfl ?_
      refine lv_iload_n hx hb dX12_halve_19 rfl (lv_at hl 3 rfl) ?_
      have hFc := va_free (wc := [(t2, .inr (6, [.int (so 2), .int (sn 2), .ref a20, .ref a21, .ref a22, .ref a23])), (a20, .inl (T 0, 30, .inl (si 2))), (a21, .inl (T 1, 30, .inr (.inl (sl 2)))), (a22, .inl (T 2, 30, .inr (.inr (.inl (sf 2))))), (a23, .inl (T 3, 30, .inr (.inr (.inr (.inl (sd 2))))))]) hD hS hA [4, 14, 15, 16, 17] rfl
      refine va_callvD hd0 (va_runV_D (As := [.int x2]) (rest := []) ⟨hx, hb, hml, hown, hts⟩ (c_X9_cutInHalf l D T _ t2 (so 2) (sn 2) a20 a21 a22 a23 (si 2) (sl 2) (sf 2) (sd 2) x2 (by rw [vp_in_iff]; omega)) (cwV 1 hts gX12_halve_X9_cutInHalf rfl rfl rfl hv_X9_cutInHalf ⟨Nat.le_of_ble_eq_true rfl, Nat.le_of_ble_eq_true rfl⟩) (pW_V (q := (RX9, TX9, 6)) (ci := 6) (q0 := 4) hP hE hD rfl rfl [4, 14, 15, 16, 17] (by decide +kernel) rfl rfl) rfl rfl hl.1 rfl (lv_room (Nat.le_of_ble_eq_true rfl)) dX12_halve_20 ⟨Nat.le_of_ble_eq_true rfl, Nat.le_of_ble_eq_true rfl⟩) hS (fun q _ h => hFc q h) hFc (fun u_18 t H1 locs ht hvm hr_17 hB hz1 hk1 hS d_19 hd_19 => ?_)
      have hts := dr_words hts0 d_19
      have hE : ekK D T (s.setDrawn d_19) := ekK.same (u := s) rfl hE0
      have hown : (s.setDrawn d_19).vm.findClass RX12 = some m.cls := hown0
      obtain ⟨f_20, f_21, f_22, f_23⟩ := u_18
      obtain ⟨hP1, hD1⟩ := hB
      rw [ht] at hP1
      obtain ⟨hP, hD⟩ := va_repl [(h0, .inr (9, fs0)), (h1, .inl (T 6, 4, .inr (.inr (.inr (.inr (va_up (va_up (va_up (va_up (fun _ => none) 0 (some t0)) 1 (some t1)) 2 (some t2)) 3 (some t3))))))), (t0, .inr (6, [.int (so 0), .int (sn 0), .ref a00, .ref a01, .ref a02, .ref a03])), (t1, .inr (6, [.int (so 1), .int (sn 1), .ref a10, .ref a11, .ref a12, .ref a13])), (t2, .inr (6, [.int (so 2), .int (sn 2), .ref a20, .ref a21, .ref a22, .ref a23])), (t3, .inr (6, [.int (so 3), .int (sn 3), .ref a30, .ref a31, .ref a32, .ref a33])), (a00, .inl (T 0, 30, .inl (si 0))), (a01, .inl (T 1, 30, .inr (.inl (sl 0)))), (a02, .inl (T 2, 30, .inr (.inr (.inl (sf 0))))), (a03, .inl (T 3, 30, .inr (.inr (.inr (.inl (sd 0)))))), (a10, .inl (T 0, 30, .inl (si 1))), (a11, .inl (T 1, 30, .inr (.inl (sl 1)))), (a12, .inl (T 2, 30, .inr (.inr (.inl (sf 1))))), (a13, .inl (T 3, 30, .inr (.inr (.inr (.inl (sd 1)))))), (a20, .inl (T 0, 30, .inl f_20)), (a21, .inl (T 1, 30, .inr (.inl f_21))), (a22, .inl (T 2, 30, .inr (.inr (.inl f_22)))), (a23, .inl (T 3, 30, .inr (.inr (.inr (.inl f_23))))), (a30, .inl (T 0, 30, .inl (si 3))), (a31, .inl (T 1, 30, .inr (.inl (sl 3)))), (a32, .inl (T 2, 30, .inr (.inr (.inl (sf 3))))), (a33, .inl (T 3, 30, .inr (.inr (.inr (.inl (sd 3))))))] hP hD [4, 14, 15, 16, 17] [4, 14, 15, 16, 17] rfl (by decide +kernel) rfl rfl rfl hk1 hP1
      clear hP1 hD1 hFc
      generalize H1 = H at hP hS ⊢
      refine lv_iconst (v := 1) hx hb dX12_halve_23 (by decide +kernel) ?_
      refine W.endD hd_19 ?_
      exact W.iret hx hb hr (fun t ht hW => ⟨⟨_, ((fun k => [(si 0), (si 1), f_20, (si 3)].getD k (si 0)), (fun k => [(sl 0), (sl 1), f_21, (sl 3)].getD k (sl 0)), (fun k => [(sf 0), (sf 1), f_22, (sf 3)].getD k (sf 0)), (fun k => [(sd 0), (sd 1), f_23, (sd 3)].getD k (sd 0))), rfl, (by (try dsimp only); have h9a1 : (so ((2 : Int32).toNatClampNeg)).toInt = (so 2).toInt := rfl; have h9b1 : (sn ((2 : Int32).toNatClampNeg)).toInt = (sn 2).toInt := rfl; have h9c1 : (2 : Int32).toInt = 2 := (by decide +kernel); have h9r : (1 : Int32).toInt = 1 := (by decide +kernel); omega), by rw [ht]; exact hP.sub [0, 1, 2, 3, 4, 5, 6, 7, 8, 9, 10, 11, 12, 13, 14, 15, 16, 17, 18, 19, 20, 21] rfl, hD.sub [0, 1, 2, 3, 4, 5, 6, 7, 8, 9, 10, 11, 12, 13, 14, 15, 16, 17, 18, 19, 20, 21] (by decide +kernel) rfl⟩, hS.F ht⟩) hS.2.2 dX12_halve_24
    · have h9t := ti_3
      refine va_aldq hx hb hE.1 hP 1 6 rfl rfl (by unfold vp_in; decide) dX12_halve_18 ?_
      refine W.eq (g2 := F0 m 19 ls [.ref t3]) rfl ?_
      refine lv_iload_n hx hb dX12_halve_19 rfl (lv_at hl 3 rfl) ?_
      have hFc := va_free (wc := [(t3, .inr (6, [.int (so 3), .int (sn 3), .ref a30, .ref a31, .ref a32, .ref a33])), (a30, .inl (T 0, 30, .inl (si 3))), (a31, .inl (T 1, 30, .inr (.inl (sl 3)))), (a32, .inl (T 2, 30, .inr (.inr (.inl (sf 3))))), (a33, .inl (T 3, 30, .inr (.inr (.inr (.inl (sd 3))))))]) hD hS hA [5, 18, 19, 20, 21] rfl
      refine va_callvD hd0 (va_runV_D (As := [.int x2]) (rest := []) ⟨hx, hb, hml, hown, hts⟩ (c_X9_cutInHalf l D T _ t3 (so 3) (sn 3) a30 a31 a32 a33 (si 3) (sl 3) (sf 3) (sd 3) x2 (by rw [vp_in_iff]; omega)) (cwV 1 hts gX12_halve_X9_cutInHalf rfl rfl rfl hv_X9_cutInHalf ⟨Nat.le_of_ble_eq_true rfl, Nat.le_of_ble_eq_true rfl⟩) (pW_V (q := (RX9, TX9, 6)) (ci := 6) (q0 := 5) hP hE hD rfl rfl [5, 18, 19, 20, 21] (by decide +kernel) rfl rfl) rfl rfl hl.1 rfl (lv_room (Nat.le_of_ble_eq_true rfl)) dX12_halve_20 ⟨Nat.le_of_ble_eq_true rfl, Nat.le_of_ble_eq_true rfl⟩) hS (fun q _ h => hFc q h) hFc (fun u_25 t H1 locs ht hvm hr_24 hB hz1 hk1 hS d_26 hd_26 => ?_)
      have hts := dr_words hts0 d_26
      have hE : ekK D T (s.setDrawn d_26) := ekK.same (u := s) rfl hE0
      have hown : (s.setDrawn d_26).vm.findClass RX12 = some m.cls := hown0
      obtain ⟨f_27, f_28, f_29, f_30⟩ := u_25
      obtain ⟨hP1, hD1⟩ := hB
      rw [ht] at hP1
      obtain ⟨hP, hD⟩ := va_repl [(h0, .inr (9, fs0)), (h1, .inl (T 6, 4, .inr (.inr (.inr (.inr (va_up (va_up (va_up (va_up (fun _ => none) 0 (some t0)) 1 (some t1)) 2 (some t2)) 3 (some t3))))))), (t0, .inr (6, [.int (so 0), .int (sn 0), .ref a00, .ref a01, .ref a02, .ref a03])), (t1, .inr (6, [.int (so 1), .int (sn 1), .ref a10, .ref a11, .ref a12, .ref a13])), (t2, .inr (6, [.int (so 2), .int (sn 2), .ref a20, .ref a21, .ref a22, .ref a23])), (t3, .inr (6, [.int (so 3), .int (sn 3), .ref a30, .ref a31, .ref a32, .ref a33])), (a00, .inl (T 0, 30, .inl (si 0))), (a01, .inl (T 1, 30, .inr (.inl (sl 0)))), (a02, .inl (T 2, 30, .inr (.inr (.inl (sf 0))))), (a03, .inl (T 3, 30, .inr (.inr (.inr (.inl (sd 0)))))), (a10, .inl (T 0, 30, .inl (si 1))), (a11, .inl (T 1, 30, .inr (.inl (sl 1)))), (a12, .inl (T 2, 30, .inr (.inr (.inl (sf 1))))), (a13, .inl (T 3, 30, .inr (.inr (.inr (.inl (sd 1)))))), (a20, .inl (T 0, 30, .inl (si 2))), (a21, .inl (T 1, 30, .inr (.inl (sl 2)))), (a22, .inl (T 2, 30, .inr (.inr (.inl (sf 2))))), (a23, .inl (T 3, 30, .inr (.inr (.inr (.inl (sd 2)))))), (a30, .inl (T 0, 30, .inl f_27)), (a31, .inl (T 1, 30, .inr (.inl f_28))), (a32, .inl (T 2, 30, .inr (.inr (.inl f_29)))), (a33, .inl (T 3, 30, .inr (.inr (.inr (.inl f_30)))))] hP hD [5, 18, 19, 20, 21] [5, 18, 19, 20, 21] rfl (by decide +kernel) rfl rfl rfl hk1 hP1
      clear hP1 hD1 hFc
      generalize H1 = H at hP hS ⊢
      refine lv_iconst (v := 1) hx hb dX12_halve_23 (by decide +kernel) ?_
      refine W.endD hd_26 ?_
      exact W.iret hx hb hr (fun t ht hW => ⟨⟨_, ((fun k => [(si 0), (si 1), (si 2), f_27].getD k (si 0)), (fun k => [(sl 0), (sl 1), (sl 2), f_28].getD k (sl 0)), (fun k => [(sf 0), (sf 1), (sf 2), f_29].getD k (sf 0)), (fun k => [(sd 0), (sd 1), (sd 2), f_30].getD k (sd 0))), rfl, (by (try dsimp only); have h9a1 : (so ((3 : Int32).toNatClampNeg)).toInt = (so 3).toInt := rfl; have h9b1 : (sn ((3 : Int32).toNatClampNeg)).toInt = (sn 3).toInt := rfl; have h9c1 : (3 : Int32).toInt = 3 := (by decide +kernel); have h9r : (1 : Int32).toInt = 1 := (by decide +kernel); omega), by rw [ht]; exact hP.sub [0, 1, 2, 3, 4, 5, 6, 7, 8, 9, 10, 11, 12, 13, 14, 15, 16, 17, 18, 19, 20, 21] rfl, hD.sub [0, 1, 2, 3, 4, 5, 6, 7, 8, 9, 10, 11, 12, 13, 14, 15, 16, 17, 18, 19, 20, 21] (by decide +kernel) rfl⟩, hS.F ht⟩) hS.2.2 dX12_halve_24
  · rw [fa_eq] at c_2
    try rw [ti_0] at c_2
    refine lv_iload_n hx hb dX12_halve_11 rfl (lv_at hl 0 rfl) ?_
    refine W.endD hd0 ?_
    exact W.iret hx hb hr (fun t ht hW => ⟨⟨_, ((fun k => [(si 0), (si 1), (si 2), (si 3)].getD k (si 0)), (fun k => [(sl 0), (sl 1), (sl 2), (sl 3)].getD k (sl 0)), (fun k => [(sf 0), (sf 1), (sf 2), (sf 3)].getD k (sf 0)), (fun k => [(sd 0), (sd 1), (sd 2), (sd 3)].getD k (sd 0))), rfl, (by (try dsimp only); omega), by rw [ht]; exact hP.sub [0, 1, 2, 3, 4, 5, 6, 7, 8, 9, 10, 11, 12, 13, 14, 15, 16, 17, 18, 19, 20, 21] rfl, hD.sub [0, 1, 2, 3, 4, 5, 6, 7, 8, 9, 10, 11, 12, 13, 14, 15, 16, 17, 18, 19, 20, 21] (by decide +kernel) rfl⟩, hS.F ht⟩) hS.2.2 dX12_halve_12
