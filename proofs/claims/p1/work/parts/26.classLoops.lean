theorem dX9_store_0 : decode cX9_store 0 = .ok (.aload_n 0, 1) := by decide +kernel
theorem dX9_store_1 : decode cX9_store 1 = .ok (.getfield 9, 3) := by decide +kernel
theorem dX9_store_32 : decode cX9_store 32 = .ok (.lload_n 2, 1) := by decide +kernel
theorem dX9_store_33 : decode cX9_store 33 = .ok (.lload_n 2, 1) := by decide +kernel
theorem dX9_store_34 : decode cX9_store 34 = .ok (.l2i, 1) := by decide +kernel
theorem dX9_store_35 : decode cX9_store 35 = .ok (.i2l, 1) := by decide +kernel
theorem dX9_store_36 : decode cX9_store 36 = .ok (.lcmp, 1) := by decide +kernel
theorem dX9_store_37 : decode cX9_store 37 = .ok (.ifCond .eq 5, 3) := by decide +kernel
theorem dX9_store_4 : decode cX9_store 4 = .ok (.tableswitch 67 0 2 #[28, 48, 57], 28) := by decide +kernel
theorem dX9_store_42 : decode cX9_store 42 = .ok (.aload_n 0, 1) := by decide +kernel
theorem dX9_store_43 : decode cX9_store 43 = .ok (.getfield 18, 3) := by decide +kernel
theorem dX9_store_46 : decode cX9_store 46 = .ok (.iload_n 1, 1) := by decide +kernel
theorem dX9_store_47 : decode cX9_store 47 = .ok (.lload_n 2, 1) := by decide +kernel
theorem dX9_store_48 : decode cX9_store 48 = .ok (.l2i, 1) := by decide +kernel
theorem dX9_store_49 : decode cX9_store 49 = .ok (.iastore, 1) := by decide +kernel
theorem dX9_store_50 : decode cX9_store 50 = .ok (.iconst 1, 1) := by decide +kernel
theorem dX9_store_51 : decode cX9_store 51 = .ok (.ireturn, 1) := by decide +kernel
theorem dX9_store_52 : decode cX9_store 52 = .ok (.aload_n 0, 1) := by decide +kernel
theorem dX9_store_53 : decode cX9_store 53 = .ok (.getfield 22, 3) := by decide +kernel
theorem dX9_store_56 : decode cX9_store 56 = .ok (.iload_n 1, 1) := by decide +kernel
theorem dX9_store_57 : decode cX9_store 57 = .ok (.lload_n 2, 1) := by decide +kernel
theorem dX9_store_58 : decode cX9_store 58 = .ok (.lastore, 1) := by decide +kernel
theorem dX9_store_59 : decode cX9_store 59 = .ok (.iconst 1, 1) := by decide +kernel
theorem dX9_store_60 : decode cX9_store 60 = .ok (.ireturn, 1) := by decide +kernel
theorem dX9_store_61 : decode cX9_store 61 = .ok (.aload_n 0, 1) := by decide +kernel
theorem dX9_store_62 : decode cX9_store 62 = .ok (.getfield 26, 3) := by decide +kernel
theorem dX9_store_65 : decode cX9_store 65 = .ok (.iload_n 1, 1) := by decide +kernel
theorem dX9_store_66 : decode cX9_store 66 = .ok (.lload_n 2, 1) := by decide +kernel
theorem dX9_store_67 : decode cX9_store 67 = .ok (.l2f, 1) := by decide +kernel
theorem dX9_store_68 : decode cX9_store 68 = .ok (.fastore, 1) := by decide +kernel
theorem dX9_store_69 : decode cX9_store 69 = .ok (.iconst 1, 1) := by decide +kernel
theorem dX9_store_70 : decode cX9_store 70 = .ok (.ireturn, 1) := by decide +kernel
theorem dX9_store_71 : decode cX9_store 71 = .ok (.aload_n 0, 1) := by decide +kernel
theorem dX9_store_72 : decode cX9_store 72 = .ok (.getfield 30, 3) := by decide +kernel
theorem dX9_store_75 : decode cX9_store 75 = .ok (.iload_n 1, 1) := by decide +kernel
theorem dX9_store_76 : decode cX9_store 76 = .ok (.lload_n 2, 1) := by decide +kernel
theorem dX9_store_77 : decode cX9_store 77 = .ok (.l2d, 1) := by decide +kernel
theorem dX9_store_78 : decode cX9_store 78 = .ok (.dastore, 1) := by decide +kernel
theorem dX9_store_79 : decode cX9_store 79 = .ok (.iconst 1, 1) := by decide +kernel
theorem dX9_store_80 : decode cX9_store 80 = .ok (.ireturn, 1) := by decide +kernel
set_option maxRecDepth 20000 in
theorem in_X9_store_X9 : ∀ w ∈ wsX90, w ∈ wsX9_store := by decide +kernel
set_option maxHeartbeats 4000000 in
set_option maxRecDepth 100000 in
theorem f_X9_store (l : Launch) (D : va_G) (T : Nat → ClassId) (sz : Nat) (h0 : Nat) (so : Int32) (sn : Int32) (s0 : Nat) (s1 : Nat) (s2 : Nat) (s3 : Nat) (f0 : Nat → Int32) (f1 : Nat → Int64) (f2 : Nat → UInt32) (f3 : Nat → UInt64) (x1 : Int32) (hin1 : vp_in x1 30) : Met l yX9_store wsX9_store ({ frames := 0, cells := 0, slots := 0, locals := 0 }) (pW [.ref h0, .int x1, .long 0] D T [(h0, .inr (6, [.int so, .int sn, .ref s0, .ref s1, .ref s2, .ref s3])), (s0, .inl (T 0, 30, .inl f0)), (s1, .inl (T 1, 30, .inr (.inl f1))), (s2, .inl (T 2, 30, .inr (.inr (.inl f2)))), (s3, .inl (T 3, 30, .inr (.inr (.inr (.inl f3)))))] sz) (va_Qi (fun (r : Int32) (u : (Nat → Int32) × (Nat → Int64) × (Nat → UInt32) × (Nat → UInt64)) => True) (bW D (va_A [(h0, .inr (6, [.int so, .int sn, .ref s0, .ref s1, .ref s2, .ref s3])), (s0, .inl (T 0, 30, .inl f0)), (s1, .inl (T 1, 30, .inr (.inl f1))), (s2, .inl (T 2, 30, .inr (.inr (.inl f2)))), (s3, .inl (T 3, 30, .inr (.inr (.inr (.inl f3)))))] sz) (fun (u : (Nat → Int32) × (Nat → Int64) × (Nat → UInt32) × (Nat → UInt64)) => [(h0, .inr (6, [.int so, .int sn, .ref s0, .ref s1, .ref s2, .ref s3])), (s0, .inl (T 0, 30, .inl u.1)), (s1, .inl (T 1, 30, .inr (.inl u.2.1))), (s2, .inl (T 2, 30, .inr (.inr (.inl u.2.2.1)))), (s3, .inl (T 3, 30, .inr (.inr (.inr (.inl u.2.2.2)))))])) (va_A [(h0, .inr (6, [.int so, .int sn, .ref s0, .ref s1, .ref s2, .ref s3])), (s0, .inl (T 0, 30, .inl f0)), (s1, .inl (T 1, 30, .inr (.inl f1))), (s2, .inl (T 2, 30, .inr (.inr (.inl f2)))), (s3, .inl (T 3, 30, .inr (.inr (.inr (.inl f3)))))] sz)) 0 0 (va_A [(h0, .inr (6, [.int so, .int sn, .ref s0, .ref s1, .ref s2, .ref s3])), (s0, .inl (T 0, 30, .inl f0)), (s1, .inl (T 1, 30, .inr (.inl f1))), (s2, .inl (T 2, 30, .inr (.inr (.inl f2)))), (s3, .inl (T 3, 30, .inr (.inr (.inr (.inl f3)))))] sz) := by
  refine Met.ofW (cc := cX9_store) (maxL := 4) (ret := (some .boolean)) (by decide) rfl ?_
  intro p e s m args below meth c s₁ B hml hv
  obtain ⟨rfl, hsz, hP, hE, hD0⟩ := hv
  have hx := B.exec
  have hb := B.bytes
  have hr := B.returns
  have hts := atoms_spec (ws := wsX9_store) B.pre
  have hown : s.vm.findClass RX9 = some m.cls := findClass_of_methodNamed B.named
  have hlocks := B.notSynchronized
  subst hsz
  have hD := hD0.self (sz := s.heap.size)
  generalize hAe : va_A [(h0, .inr (6, [.int so, .int sn, .ref s0, .ref s1, .ref s2, .ref s3])), (s0, .inl (T 0, 30, .inl f0)), (s1, .inl (T 1, 30, .inr (.inl f1))), (s2, .inl (T 2, 30, .inr (.inr (.inl f2)))), (s3, .inl (T 3, 30, .inr (.inr (.inr (.inl f3)))))] s.heap.size = A at hD ⊢
  have hA : ∀ q : Nat, s.heap.size ≤ q → A q := fun q h => by rw [← hAe]; exact Or.inr h
  have hS : va_S A s.heap s.heap [] := va_S.rf
  have hP : va_P D vwCl [(h0, .inr (6, [.int so, .int sn, .ref s0, .ref s1, .ref s2, .ref s3])), (s0, .inl (T 0, 30, .inl f0)), (s1, .inl (T 1, 30, .inr (.inl f1))), (s2, .inl (T 2, 30, .inr (.inr (.inl f2)))), (s3, .inl (T 3, 30, .inr (.inr (.inr (.inl f3)))))] s.heap := hP
  have hl := lv_entry ([.ref h0, .int x1, .long 0]) (n := 4) (Nat.le_of_ble_eq_true rfl)
  rw [lg_entry_eq]
  generalize (lg_sl ([.ref h0, .int x1, .long 0]) ++ List.replicate (4 - (lg_sl ([.ref h0, .int x1, .long 0])).length) Slot.unset).toArray = ls at hl ⊢
  have hl : lv_has ls 4 [(0, .ref h0), (1, .int x1), (2, .long 0)] := hl
  clear hD0
  refine lv_aload_n hx hb dX9_store_0 rfl (lv_at hl 0 rfl) ?_
  refine va_get (D := D) (ci := 6) (v := .int so) (C := RX9) (T := TX9) (N := 6) hx hb hts in_X9_store_X9 hown hE.1 hP 0 rfl rfl 0 (by decide) (hts (.fieldLink RX9 9 "ClauseBook$Sheet" "sort" "I") (List.mem_of_getElem? (i := 1) rfl)) (fun _ h9 => h9) rfl dX9_store_1 ?_
  by_cases k_1 : so = 0
  · obtain rfl := k_1
    refine lv_tableIn (off := 28) (tgt := 32) hx hb dX9_store_4 (by decide) (by decide) (by decide) (by decide) ?_
    refine lv_lload_n hx hb dX9_store_32 rfl (lv_at hl 2 rfl) ?_
    refine lv_lload_n hx hb dX9_store_33 rfl (lv_at hl 2 rfl) ?_
    refine lv_l2i (v := 0) hx hb dX9_store_34 (by decide) ?_
    refine lv_i2l (v := 0) hx hb dX9_store_35 (by decide) ?_
    refine W.lcmp hx hb dX9_store_36 ?_
    refine lv_topi (fun z_2 ez_2 => ?_)
    obtain rfl : z_2 = 0 := ez_2.trans (by decide)
    refine lv_if_eq (tgt := 42) hx hb dX9_store_37 (by decide) (fun _ => ?_) (fun c9 => absurd c9 (by decide))
    refine lv_aload_n hx hb dX9_store_42 rfl (lv_at hl 0 rfl) ?_
    refine va_get (D := D) (ci := 6) (v := .ref s0) (C := RX9) (T := TX9) (N := 6) hx hb hts in_X9_store_X9 hown hE.1 hP 0 rfl rfl 2 (by decide) (hts (.fieldLink RX9 18 "ClauseBook$Sheet" "ints" "[I") (List.mem_of_getElem? (i := 2) rfl)) (fun _ h9 => h9) rfl dX9_store_43 ?_
    refine lv_iload_n hx hb dX9_store_46 rfl (lv_at hl 1 rfl) ?_
    refine lv_lload_n hx hb dX9_store_47 rfl (lv_at hl 2 rfl) ?_
    refine lv_l2i (v := 0) hx hb dX9_store_48 (by decide) ?_
    refine va_iast hx hb hE.1 hP hD hS 1 0 rfl rfl (by assumption) dX9_store_49 (fun H locs hP hD hS => ?_)
    have hP : va_P D vwCl [(h0, .inr (6, [.int 0, .int sn, .ref s0, .ref s1, .ref s2, .ref s3])), (s0, .inl (T 0, 30, .inl (upd f0 (x1.toNatClampNeg) 0))), (s1, .inl (T 1, 30, .inr (.inl f1))), (s2, .inl (T 2, 30, .inr (.inr (.inl f2)))), (s3, .inl (T 3, 30, .inr (.inr (.inr (.inl f3)))))] H := hP
    have hD : va_D A [(h0, .inr (6, [.int 0, .int sn, .ref s0, .ref s1, .ref s2, .ref s3])), (s0, .inl (T 0, 30, .inl (upd f0 (x1.toNatClampNeg) 0))), (s1, .inl (T 1, 30, .inr (.inl f1))), (s2, .inl (T 2, 30, .inr (.inr (.inl f2)))), (s3, .inl (T 3, 30, .inr (.inr (.inr (.inl f3)))))] := hD
    refine lv_iconst (v := 1) hx hb dX9_store_50 (by decide) ?_
    exact W.zret hx hb hr rfl (fun t ht hW => ⟨⟨_, ((upd f0 (x1.toNatClampNeg) 0), f1, f2, f3), rfl, trivial, by rw [ht]; exact hP.sub [0, 1, 2, 3, 4] rfl, hD.sub [0, 1, 2, 3, 4] (by decide) rfl⟩, hS.F ht⟩) hS.2.2 dX9_store_51
  by_cases k_3 : so = 1
  · obtain rfl := k_3
    refine lv_tableIn (off := 48) (tgt := 52) hx hb dX9_store_4 (by decide) (by decide) (by decide) (by decide) ?_
    refine lv_aload_n hx hb dX9_store_52 rfl (lv_at hl 0 rfl) ?_
    refine va_get (D := D) (ci := 6) (v := .ref s1) (C := RX9) (T := TX9) (N := 6) hx hb hts in_X9_store_X9 hown hE.1 hP 0 rfl rfl 3 (by decide) (hts (.fieldLink RX9 22 "ClauseBook$Sheet" "longs" "[J") (List.mem_of_getElem? (i := 3) rfl)) (fun _ h9 => h9) rfl dX9_store_53 ?_
    refine lv_iload_n hx hb dX9_store_56 rfl (lv_at hl 1 rfl) ?_
    refine lv_lload_n hx hb dX9_store_57 rfl (lv_at hl 2 rfl) ?_
    refine va_last hx hb hE.1 hP hD hS 2 1 rfl rfl (by assumption) dX9_store_58 (fun H locs hP hD hS => ?_)
    have hP : va_P D vwCl [(h0, .inr (6, [.int 1, .int sn, .ref s0, .ref s1, .ref s2, .ref s3])), (s0, .inl (T 0, 30, .inl f0)), (s1, .inl (T 1, 30, .inr (.inl (vp_updL f1 (x1.toNatClampNeg) 0)))), (s2, .inl (T 2, 30, .inr (.inr (.inl f2)))), (s3, .inl (T 3, 30, .inr (.inr (.inr (.inl f3)))))] H := hP
    have hD : va_D A [(h0, .inr (6, [.int 1, .int sn, .ref s0, .ref s1, .ref s2, .ref s3])), (s0, .inl (T 0, 30, .inl f0)), (s1, .inl (T 1, 30, .inr (.inl (vp_updL f1 (x1.toNatClampNeg) 0)))), (s2, .inl (T 2, 30, .inr (.inr (.inl f2)))), (s3, .inl (T 3, 30, .inr (.inr (.inr (.inl f3)))))] := hD
    refine lv_iconst (v := 1) hx hb dX9_store_59 (by decide) ?_
    exact W.zret hx hb hr rfl (fun t ht hW => ⟨⟨_, (f0, (vp_updL f1 (x1.toNatClampNeg) 0), f2, f3), rfl, trivial, by rw [ht]; exact hP.sub [0, 1, 2, 3, 4] rfl, hD.sub [0, 1, 2, 3, 4] (by decide) rfl⟩, hS.F ht⟩) hS.2.2 dX9_store_60
  by_cases k_4 : so = 2
  · obtain rfl := k_4
    refine lv_tableIn (off := 57) (tgt := 61) hx hb dX9_store_4 (by decide) (by decide) (by decide) (by decide) ?_
    refine lv_aload_n hx hb dX9_store_61 rfl (lv_at hl 0 rfl) ?_
    refine va_get (D := D) (ci := 6) (v := .ref s2) (C := RX9) (T := TX9) (N := 6) hx hb hts in_X9_store_X9 hown hE.1 hP 0 rfl rfl 4 (by decide) (hts (.fieldLink RX9 26 "ClauseBook$Sheet" "floats" "[F") (List.mem_of_getElem? (i := 4) rfl)) (fun _ h9 => h9) rfl dX9_store_62 ?_
    refine lv_iload_n hx hb dX9_store_65 rfl (lv_at hl 1 rfl) ?_
    refine lv_lload_n hx hb dX9_store_66 rfl (lv_at hl 2 rfl) ?_
    refine lv_l2f hx hb dX9_store_67 ?_
    refine va_fast hx hb hE.1 hP hD hS 3 2 rfl rfl (by assumption) dX9_store_68 (fun H locs hP hD hS => ?_)
    have hP : va_P D vwCl [(h0, .inr (6, [.int 2, .int sn, .ref s0, .ref s1, .ref s2, .ref s3])), (s0, .inl (T 0, 30, .inl f0)), (s1, .inl (T 1, 30, .inr (.inl f1))), (s2, .inl (T 2, 30, .inr (.inr (.inl (vf_upd f2 (x1.toNatClampNeg) (FP.l2f 0)))))), (s3, .inl (T 3, 30, .inr (.inr (.inr (.inl f3)))))] H := hP
    have hD : va_D A [(h0, .inr (6, [.int 2, .int sn, .ref s0, .ref s1, .ref s2, .ref s3])), (s0, .inl (T 0, 30, .inl f0)), (s1, .inl (T 1, 30, .inr (.inl f1))), (s2, .inl (T 2, 30, .inr (.inr (.inl (vf_upd f2 (x1.toNatClampNeg) (FP.l2f 0)))))), (s3, .inl (T 3, 30, .inr (.inr (.inr (.inl f3)))))] := hD
    refine lv_iconst (v := 1) hx hb dX9_store_69 (by decide) ?_
    exact W.zret hx hb hr rfl (fun t ht hW => ⟨⟨_, (f0, f1, (vf_upd f2 (x1.toNatClampNeg) (FP.l2f 0)), f3), rfl, trivial, by rw [ht]; exact hP.sub [0, 1, 2, 3, 4] rfl, hD.sub [0, 1, 2, 3, 4] (by decide) rfl⟩, hS.F ht⟩) hS.2.2 dX9_store_70
  rw [fa_eq] at k_1 k_3 k_4
  try simp only [ti_0, ti_1, ti_2] at k_1 k_3 k_4
  refine lv_tableOut (tgt := 71) hx hb dX9_store_4 (by omega) (by decide) ?_
  refine lv_aload_n hx hb dX9_store_71 rfl (lv_at hl 0 rfl) ?_
  refine va_get (D := D) (ci := 6) (v := .ref s3) (C := RX9) (T := TX9) (N := 6) hx hb hts in_X9_store_X9 hown hE.1 hP 0 rfl rfl 5 (by decide) (hts (.fieldLink RX9 30 "ClauseBook$Sheet" "doubles" "[D") (List.mem_of_getElem? (i := 5) rfl)) (fun _ h9 => h9) rfl dX9_store_72 ?_
  refine lv_iload_n hx hb dX9_store_75 rfl (lv_at hl 1 rfl) ?_
  refine lv_lload_n hx hb dX9_store_76 rfl (lv_at hl 2 rfl) ?_
  refine lv_l2d hx hb dX9_store_77 ?_
  refine va_dast hx hb hE.1 hP hD hS 4 3 rfl rfl (by assumption) dX9_store_78 (fun H locs hP hD hS => ?_)
  have hP : va_P D vwCl [(h0, .inr (6, [.int so, .int sn, .ref s0, .ref s1, .ref s2, .ref s3])), (s0, .inl (T 0, 30, .inl f0)), (s1, .inl (T 1, 30, .inr (.inl f1))), (s2, .inl (T 2, 30, .inr (.inr (.inl f2)))), (s3, .inl (T 3, 30, .inr (.inr (.inr (.inl (vf_upd f3 (x1.toNatClampNeg) (FP.l2d 0)))))))] H := hP
  have hD : va_D A [(h0, .inr (6, [.int so, .int sn, .ref s0, .ref s1, .ref s2, .ref s3])), (s0, .inl (T 0, 30, .inl f0)), (s1, .inl (T 1, 30, .inr (.inl f1))), (s2, .inl (T 2, 30, .inr (.inr (.inl f2)))), (s3, .inl (T 3, 30, .inr (.inr (.inr (.inl (vf_upd f3 (x1.toNatClampNeg) (FP.l2d 0)))))))] := hD
  refine lv_iconst (v := 1) hx hb dX9_store_79 (by decide) ?_
  exact W.zret hx hb hr rfl (fun t ht hW => ⟨⟨_, (f0, f1, f2, (vf_upd f3 (x1.toNatClampNeg) (FP.l2d 0))), rfl, trivial, by rw [ht]; exact hP.sub [0, 1, 2, 3, 4] rfl, hD.sub [0, 1, 2, 3, 4] (by decide) rfl⟩, hS.F ht⟩) hS.2.2 dX9_store_80
theorem dX9_become_0 : decode cX9_become 0 = .ok (.aload_n 0, 1) := by decide +kernel
theorem dX9_become_1 : decode cX9_become 1 = .ok (.iload_n 1, 1) := by decide +kernel
theorem dX9_become_10 : decode cX9_become 10 = .ok (.iconst 0, 1) := by decide +kernel
theorem dX9_become_11 : decode cX9_become 11 = .ok (.istore_n 3, 1) := by decide +kernel
theorem dX9_become_12 : decode cX9_become 12 = .ok (.iload_n 3, 1) := by decide +kernel
theorem dX9_become_13 : decode cX9_become 13 = .ok (.iload_n 2, 1) := by decide +kernel
theorem dX9_become_14 : decode cX9_become 14 = .ok (.if_icmp .ge 16, 3) := by decide +kernel
theorem dX9_become_17 : decode cX9_become 17 = .ok (.aload_n 0, 1) := by decide +kernel
theorem dX9_become_18 : decode cX9_become 18 = .ok (.iload_n 3, 1) := by decide +kernel
theorem dX9_become_19 : decode cX9_become 19 = .ok (.lconst 0, 1) := by decide +kernel
theorem dX9_become_2 : decode cX9_become 2 = .ok (.putfield 9, 3) := by decide +kernel
theorem dX9_become_20 : decode cX9_become 20 = .ok (.invokevirtual 34, 3) := by decide +kernel
theorem dX9_become_23 : decode cX9_become 23 = .ok (.pop, 1) := by decide +kernel
theorem dX9_become_24 : decode cX9_become 24 = .ok (.iinc 3 1, 3) := by decide +kernel
theorem dX9_become_27 : decode cX9_become 27 = .ok (.goto (-15), 3) := by decide +kernel
theorem dX9_become_30 : decode cX9_become 30 = .ok (.return_, 1) := by decide +kernel
theorem dX9_become_5 : decode cX9_become 5 = .ok (.aload_n 0, 1) := by decide +kernel
theorem dX9_become_6 : decode cX9_become 6 = .ok (.iload_n 2, 1) := by decide +kernel
theorem dX9_become_7 : decode cX9_become 7 = .ok (.putfield 15, 3) := by decide +kernel
set_option maxRecDepth 20000 in
theorem ggX9_become_X9_store : GoodIn wsX9_become wsX9_store := goodIn_r _ [7, 1, 8, 9, 10, 11, 12, 13, 14, 15, 16, 17] (by decide +kernel) (by decide +kernel)
set_option maxRecDepth 20000 in
theorem gX9_become_X9_store : GoodIn wsX9_become (wsV RX9 34 RX9 yX9_store wsX9_store) := goodIn_app (goodIn_of _ (by decide +kernel)) ggX9_become_X9_store
set_option maxRecDepth 20000 in
theorem in_X9_become_X9 : ∀ w ∈ wsX90, w ∈ wsX9_become := by decide +kernel
set_option maxHeartbeats 4000000 in
set_option maxRecDepth 100000 in
theorem f_X9_become (l : Launch) (D : va_G) (T : Nat → ClassId) (sz : Nat) (h0 : Nat) (so : Int32) (sn : Int32) (s0 : Nat) (s1 : Nat) (s2 : Nat) (s3 : Nat) (f0 : Nat → Int32) (f1 : Nat → Int64) (f2 : Nat → UInt32) (f3 : Nat → UInt64) (x1 : Int32) (x2 : Int32) (hn : x2.toInt ≤ 30) : Met l yX9_become wsX9_become ({ frames := 1, cells := 0, slots := 0, locals := 23 }) (pW [.ref h0, .int x1, .int x2] D T [(h0, .inr (6, [.int so, .int sn, .ref s0, .ref s1, .ref s2, .ref s3])), (s0, .inl (T 0, 30, .inl f0)), (s1, .inl (T 1, 30, .inr (.inl f1))), (s2, .inl (T 2, 30, .inr (.inr (.inl f2)))), (s3, .inl (T 3, 30, .inr (.inr (.inr (.inl f3)))))] sz) (va_Qv (fun (u : Unit) => True) (bW D (va_A [(h0, .inr (6, [.int so, .int sn, .ref s0, .ref s1, .ref s2, .ref s3])), (s0, .inl (T 0, 30, .inl f0)), (s1, .inl (T 1, 30, .inr (.inl f1))), (s2, .inl (T 2, 30, .inr (.inr (.inl f2)))), (s3, .inl (T 3, 30, .inr (.inr (.inr (.inl f3)))))] sz) (fun (u : Unit) => ([] : va_W))) (va_A [(h0, .inr (6, [.int so, .int sn, .ref s0, .ref s1, .ref s2, .ref s3])), (s0, .inl (T 0, 30, .inl f0)), (s1, .inl (T 1, 30, .inr (.inl f1))), (s2, .inl (T 2, 30, .inr (.inr (.inl f2)))), (s3, .inl (T 3, 30, .inr (.inr (.inr (.inl f3)))))] sz)) 0 0 (va_A [(h0, .inr (6, [.int so, .int sn, .ref s0, .ref s1, .ref s2, .ref s3])), (s0, .inl (T 0, 30, .inl f0)), (s1, .inl (T 1, 30, .inr (.inl f1))), (s2, .inl (T 2, 30, .inr (.inr (.inl f2)))), (s3, .inl (T 3, 30, .inr (.inr (.inr (.inl f3)))))] sz) := by
  refine Met.ofW (cc := cX9_become) (maxL := 4) (ret := none) (by decide) rfl ?_
  intro p e s m args below meth c s₁ B hml hv
  obtain ⟨rfl, hsz, hP, hE, hD0⟩ := hv
  have hx := B.exec
  have hb := B.bytes
  have hr := B.returns
  have hts := atoms_spec (ws := wsX9_become) B.pre
  have hown : s.vm.findClass RX9 = some m.cls := findClass_of_methodNamed B.named
  have hlocks := B.notSynchronized
  subst hsz
  have hD := hD0.self (sz := s.heap.size)
  generalize hAe : va_A [(h0, .inr (6, [.int so, .int sn, .ref s0, .ref s1, .ref s2, .ref s3])), (s0, .inl (T 0, 30, .inl f0)), (s1, .inl (T 1, 30, .inr (.inl f1))), (s2, .inl (T 2, 30, .inr (.inr (.inl f2)))), (s3, .inl (T 3, 30, .inr (.inr (.inr (.inl f3)))))] s.heap.size = A at hD ⊢
  have hA : ∀ q : Nat, s.heap.size ≤ q → A q := fun q h => by rw [← hAe]; exact Or.inr h
  have hS : va_S A s.heap s.heap [] := va_S.rf
  have hP : va_P D vwCl [(h0, .inr (6, [.int so, .int sn, .ref s0, .ref s1, .ref s2, .ref s3])), (s0, .inl (T 0, 30, .inl f0)), (s1, .inl (T 1, 30, .inr (.inl f1))), (s2, .inl (T 2, 30, .inr (.inr (.inl f2)))), (s3, .inl (T 3, 30, .inr (.inr (.inr (.inl f3)))))] s.heap := hP
  have hl := lv_entry ([.ref h0, .int x1, .int x2]) (n := 4) (Nat.le_of_ble_eq_true rfl)
  rw [lg_entry_eq]
  generalize (lg_sl ([.ref h0, .int x1, .int x2]) ++ List.replicate (4 - (lg_sl ([.ref h0, .int x1, .int x2])).length) Slot.unset).toArray = ls at hl ⊢
  have hl : lv_has ls 4 [(0, .ref h0), (1, .int x1), (2, .int x2)] := hl
  clear hD0
  refine lv_aload_n hx hb dX9_become_0 rfl (lv_at hl 0 rfl) ?_
  refine lv_iload_n hx hb dX9_become_1 rfl (lv_at hl 1 rfl) ?_
  refine va_put (D := D) (ci := 6) (v := .int x1) (ty := .int) (C := RX9) (T := TX9) (N := 6) hx hb hts in_X9_become_X9 tyX9 tyX9_ok nmX9 hown hE.1 hP hD hS 0 rfl rfl 0 (by decide) (hts (.fieldLink RX9 9 "ClauseBook$Sheet" "sort" "I") (List.mem_of_getElem? (i := 1) rfl)) (fun _ h9 => h9) rfl (by decide +kernel) rfl rfl (Nat.le_of_ble_eq_true rfl) dX9_become_2 (fun H locs hP hD hS => ?_)
  have hP : va_P D vwCl [(h0, .inr (6, [.int x1, .int sn, .ref s0, .ref s1, .ref s2, .ref s3])), (s0, .inl (T 0, 30, .inl f0)), (s1, .inl (T 1, 30, .inr (.inl f1))), (s2, .inl (T 2, 30, .inr (.inr (.inl f2)))), (s3, .inl (T 3, 30, .inr (.inr (.inr (.inl f3)))))] H := hP
  have hD : va_D A [(h0, .inr (6, [.int x1, .int sn, .ref s0, .ref s1, .ref s2, .ref s3])), (s0, .inl (T 0, 30, .inl f0)), (s1, .inl (T 1, 30, .inr (.inl f1))), (s2, .inl (T 2, 30, .inr (.inr (.inl f2)))), (s3, .inl (T 3, 30, .inr (.inr (.inr (.inl f3)))))] := hD
  refine lv_aload_n hx hb dX9_become_5 rfl (lv_at hl 0 rfl) ?_
  refine lv_iload_n hx hb dX9_become_6 rfl (lv_at hl 2 rfl) ?_
  refine va_put (D := D) (ci := 6) (v := .int x2) (ty := .int) (C := RX9) (T := TX9) (N := 6) hx hb hts in_X9_become_X9 tyX9 tyX9_ok nmX9 hown hE.1 hP hD hS 0 rfl rfl 1 (by decide) (hts (.fieldLink RX9 15 "ClauseBook$Sheet" "size" "I") (List.mem_of_getElem? (i := 2) rfl)) (fun _ h9 => h9) rfl (by decide +kernel) rfl rfl (Nat.le_of_ble_eq_true rfl) dX9_become_7 (fun H locs hP hD hS => ?_)
  have hP : va_P D vwCl [(h0, .inr (6, [.int x1, .int x2, .ref s0, .ref s1, .ref s2, .ref s3])), (s0, .inl (T 0, 30, .inl f0)), (s1, .inl (T 1, 30, .inr (.inl f1))), (s2, .inl (T 2, 30, .inr (.inr (.inl f2)))), (s3, .inl (T 3, 30, .inr (.inr (.inr (.inl f3)))))] H := hP
  have hD : va_D A [(h0, .inr (6, [.int x1, .int x2, .ref s0, .ref s1, .ref s2, .ref s3])), (s0, .inl (T 0, 30, .inl f0)), (s1, .inl (T 1, 30, .inr (.inl f1))), (s2, .inl (T 2, 30, .inr (.inr (.inl f2)))), (s3, .inl (T 3, 30, .inr (.inr (.inr (.inl f3)))))] := hD
  refine lv_iconst (v := 0) hx hb dX9_become_10 (by decide) ?_
  refine lv_istore_n (lv' := [(3, .int 0), (0, .ref h0), (1, .int x1), (2, .int x2)]) hx hb dX9_become_11 rfl hl (by decide) rfl (fun ls hl => ?_)
  refine loopW (σ := (Int32) × (Nat → Int32) × (Nat → Int64) × (Nat → UInt32) × (Nat → UInt64)) (fun x9 ls H locs => lv_has ls 4 [(3, .int x9.1), (0, .ref h0), (1, .int x1), (2, .int x2)] ∧ va_P D vwCl [(h0, .inr (6, [.int x1, .int x2, .ref s0, .ref s1, .ref s2, .ref s3])), (s0, .inl (T 0, 30, .inl x9.2.1)), (s1, .inl (T 1, 30, .inr (.inl x9.2.2.1))), (s2, .inl (T 2, 30, .inr (.inr (.inl x9.2.2.2.1)))), (s3, .inl (T 3, 30, .inr (.inr (.inr (.inl x9.2.2.2.2)))))] H ∧ va_D A [(h0, .inr (6, [.int x1, .int x2, .ref s0, .ref s1, .ref s2, .ref s3])), (s0, .inl (T 0, 30, .inl x9.2.1)), (s1, .inl (T 1, 30, .inr (.inl x9.2.2.1))), (s2, .inl (T 2, 30, .inr (.inr (.inl x9.2.2.2.1)))), (s3, .inl (T 3, 30, .inr (.inr (.inr (.inl x9.2.2.2.2)))))] ∧ va_S A s.heap H locs ∧ (0 ≤ x9.1.toInt)) (fun x9 => (x2.toInt - x9.1.toInt).toNat) (fun x9 ls H locs hI ih => ?_) (0, f0, f1, f2, f3) ls ⟨lv_sub hl [0, 1, 2, 3] rfl, hP.sub [0, 1, 2, 3, 4] rfl, hD.sub [0, 1, 2, 3, 4] (by decide) rfl, hS, (by (try dsimp only); decide)⟩
  obtain ⟨ii, g0, g1, g2, g3⟩ := x9
  obtain ⟨hl, hP, hD, hS, hinv⟩ := hI
  have hl : lv_has ls 4 [(3, .int ii), (0, .ref h0), (1, .int x1), (2, .int x2)] := hl
  have hP : va_P D vwCl [(h0, .inr (6, [.int x1, .int x2, .ref s0, .ref s1, .ref s2, .ref s3])), (s0, .inl (T 0, 30, .inl g0)), (s1, .inl (T 1, 30, .inr (.inl g1))), (s2, .inl (T 2, 30, .inr (.inr (.inl g2)))), (s3, .inl (T 3, 30, .inr (.inr (.inr (.inl g3)))))] H := hP
  have hD : va_D A [(h0, .inr (6, [.int x1, .int x2, .ref s0, .ref s1, .ref s2, .ref s3])), (s0, .inl (T 0, 30, .inl g0)), (s1, .inl (T 1, 30, .inr (.inl g1))), (s2, .inl (T 2, 30, .inr (.inr (.inl g2)))), (s3, .inl (T 3, 30, .inr (.inr (.inr (.inl g3)))))] := hD
  have hinv : 0 ≤ ii.toInt := hinv
  refine lv_iload_n hx hb dX9_become_12 rfl (lv_at hl 0 rfl) ?_
  refine lv_iload_n hx hb dX9_become_13 rfl (lv_at hl 3 rfl) ?_
  refine lv_icmp_ge (tgt := 30) hx hb dX9_become_14 (by decide) (fun c_1 => ?_) (fun c_1 => ?_)
  · rw [fa_le] at c_1
    exact W.vret hx hb hr (fun t ht hW => ⟨⟨(), rfl, trivial, by rw [ht]; exact hP.sub [] rfl, hD.sub [] (by decide) rfl⟩, hS.F ht⟩) hS.2.2 dX9_become_30
  · rw [fa_le] at c_1
    refine lv_aload_n hx hb dX9_become_17 rfl (lv_at hl 1 rfl) ?_
    refine lv_iload_n hx hb dX9_become_18 rfl (lv_at hl 0 rfl) ?_
    refine lv_lconst (v := 0) hx hb dX9_become_19 (by decide) ?_
    have hFc := va_free (wc := [(h0, .inr (6, [.int x1, .int x2, .ref s0, .ref s1, .ref s2, .ref s3])), (s0, .inl (T 0, 30, .inl g0)), (s1, .inl (T 1, 30, .inr (.inl g1))), (s2, .inl (T 2, 30, .inr (.inr (.inl g2)))), (s3, .inl (T 3, 30, .inr (.inr (.inr (.inl g3)))))]) hD hS hA [0, 1, 2, 3, 4] rfl
    refine va_calli (va_runV (As := [.int ii, .long 0]) (rest := []) ⟨hx, hb, hml, hown, hts⟩ (f_X9_store l D T _ h0 x1 x2 s0 s1 s2 s3 g0 g1 g2 g3 ii (by rw [vp_in_iff]; omega)) (cwV 2 hts gX9_become_X9_store rfl rfl rfl (by decide +kernel) ⟨Nat.le_of_ble_eq_true rfl, Nat.le_of_ble_eq_true rfl⟩) (pW_V (ci := 6) (q0 := 0) hP hE hD rfl rfl [0, 1, 2, 3, 4] (by decide) rfl rfl) rfl rfl hl.1 rfl (lv_room (Nat.le_of_ble_eq_true rfl)) dX9_become_20 ⟨Nat.le_of_ble_eq_true rfl, Nat.le_of_ble_eq_true rfl⟩) hS (fun q _ h => hFc q h) hFc (fun r_2 u_3 t H1 locs ht hvm hr_2 hB hz1 hk1 hS => ?_)
    obtain ⟨f_4, f_5, f_6, f_7⟩ := u_3
    obtain ⟨hP1, hD1⟩ := hB
    rw [ht] at hP1
    obtain ⟨hP, hD⟩ := va_join (wr := []) (w1 := [(h0, .inr (6, [.int x1, .int x2, .ref s0, .ref s1, .ref s2, .ref s3])), (s0, .inl (T 0, 30, .inl f_4)), (s1, .inl (T 1, 30, .inr (.inl f_5))), (s2, .inl (T 2, 30, .inr (.inr (.inl f_6)))), (s3, .inl (T 3, 30, .inr (.inr (.inr (.inl f_7)))))]) hP hD [0, 1, 2, 3, 4] [] rfl rfl (by decide) (by decide) hk1 hFc hP1 hD1
    clear hP1 hD1 hFc
    generalize H1 = H at hP hS ⊢
    have hP : va_P D vwCl [(h0, .inr (6, [.int x1, .int x2, .ref s0, .ref s1, .ref s2, .ref s3])), (s0, .inl (T 0, 30, .inl f_4)), (s1, .inl (T 1, 30, .inr (.inl f_5))), (s2, .inl (T 2, 30, .inr (.inr (.inl f_6)))), (s3, .inl (T 3, 30, .inr (.inr (.inr (.inl f_7)))))] H := hP
    have hD : va_D A [(h0, .inr (6, [.int x1, .int x2, .ref s0, .ref s1, .ref s2, .ref s3])), (s0, .inl (T 0, 30, .inl f_4)), (s1, .inl (T 1, 30, .inr (.inl f_5))), (s2, .inl (T 2, 30, .inr (.inr (.inl f_6)))), (s3, .inl (T 3, 30, .inr (.inr (.inr (.inl f_7)))))] := hD
    refine lv_pop hx hb dX9_become_23 rfl ?_
    obtain ⟨z_8, ez_8⟩ : ∃ y : Int32, y = ii + 1 := ⟨_, rfl⟩
    refine lv_iinc (v := z_8) (lv' := [(3, .int z_8), (0, .ref h0), (1, .int x1), (2, .int x2)]) hx hb dX9_become_24 hl (k := 0) rfl (by rw [ez_8]; rfl) (by decide) rfl (fun ls hl => ?_)
    refine lv_goto (tgt := 12) hx hb dX9_become_27 (by decide) ?_
    exact ih (z_8, f_4, f_5, f_6, f_7) ls _ _ ⟨lv_sub hl [0, 1, 2, 3] rfl, hP.sub [0, 1, 2, 3, 4] rfl, hD.sub [0, 1, 2, 3, 4] (by decide) rfl, hS, (by subst_vars; (try dsimp only); rw [inc1 (n := 30) (by omega) (by decide)]; omega)⟩ (by subst_vars; (try dsimp only); rw [inc1 (n := 30) (by omega) (by decide)]; omega)
theorem dX12_sheet_0 : decode cX12_sheet 0 = .ok (.iload_n 1, 1) := by decide +kernel
theorem dX12_sheet_1 : decode cX12_sheet 1 = .ok (.iconst 0, 1) := by decide +kernel
theorem dX12_sheet_10 : decode cX12_sheet 10 = .ok (.iconst (-1), 1) := by decide +kernel
theorem dX12_sheet_11 : decode cX12_sheet 11 = .ok (.iconst 3, 1) := by decide +kernel
theorem dX12_sheet_12 : decode cX12_sheet 12 = .ok (.invokestatic 77, 3) := by decide +kernel
theorem dX12_sheet_15 : decode cX12_sheet 15 = .ok (.ifCond .ne 6, 3) := by decide +kernel
theorem dX12_sheet_18 : decode cX12_sheet 18 = .ok (.bipush (-2), 2) := by decide +kernel
theorem dX12_sheet_2 : decode cX12_sheet 2 = .ok (.iconst 3, 1) := by decide +kernel
theorem dX12_sheet_20 : decode cX12_sheet 20 = .ok (.ireturn, 1) := by decide +kernel
theorem dX12_sheet_21 : decode cX12_sheet 21 = .ok (.iload_n 2, 1) := by decide +kernel
theorem dX12_sheet_22 : decode cX12_sheet 22 = .ok (.iconst (-1), 1) := by decide +kernel
theorem dX12_sheet_23 : decode cX12_sheet 23 = .ok (.if_icmp .ne 15, 3) := by decide +kernel
theorem dX12_sheet_26 : decode cX12_sheet 26 = .ok (.aload_n 0, 1) := by decide +kernel
theorem dX12_sheet_27 : decode cX12_sheet 27 = .ok (.getfield 65, 3) := by decide +kernel
theorem dX12_sheet_3 : decode cX12_sheet 3 = .ok (.invokestatic 77, 3) := by decide +kernel
theorem dX12_sheet_30 : decode cX12_sheet 30 = .ok (.iload_n 1, 1) := by decide +kernel
theorem dX12_sheet_31 : decode cX12_sheet 31 = .ok (.aaload, 1) := by decide +kernel
theorem dX12_sheet_32 : decode cX12_sheet 32 = .ok (.iconst (-1), 1) := by decide +kernel
theorem dX12_sheet_33 : decode cX12_sheet 33 = .ok (.putfield 277, 3) := by decide +kernel
theorem dX12_sheet_36 : decode cX12_sheet 36 = .ok (.iconst 1, 1) := by decide +kernel
theorem dX12_sheet_37 : decode cX12_sheet 37 = .ok (.ireturn, 1) := by decide +kernel
theorem dX12_sheet_38 : decode cX12_sheet 38 = .ok (.iload_n 3, 1) := by decide +kernel
theorem dX12_sheet_39 : decode cX12_sheet 39 = .ok (.bipush 30, 2) := by decide +kernel
theorem dX12_sheet_41 : decode cX12_sheet 41 = .ok (.if_icmp .le 6, 3) := by decide +kernel
theorem dX12_sheet_44 : decode cX12_sheet 44 = .ok (.bipush (-2), 2) := by decide +kernel
theorem dX12_sheet_46 : decode cX12_sheet 46 = .ok (.ireturn, 1) := by decide +kernel
theorem dX12_sheet_47 : decode cX12_sheet 47 = .ok (.iload_n 3, 1) := by decide +kernel
theorem dX12_sheet_48 : decode cX12_sheet 48 = .ok (.ifCond .ge 6, 3) := by decide +kernel
theorem dX12_sheet_51 : decode cX12_sheet 51 = .ok (.bipush (-14), 2) := by decide +kernel
theorem dX12_sheet_53 : decode cX12_sheet 53 = .ok (.ireturn, 1) := by decide +kernel
theorem dX12_sheet_54 : decode cX12_sheet 54 = .ok (.aload_n 0, 1) := by decide +kernel
theorem dX12_sheet_55 : decode cX12_sheet 55 = .ok (.getfield 65, 3) := by decide +kernel
theorem dX12_sheet_58 : decode cX12_sheet 58 = .ok (.iload_n 1, 1) := by decide +kernel
theorem dX12_sheet_59 : decode cX12_sheet 59 = .ok (.aaload, 1) := by decide +kernel
theorem dX12_sheet_6 : decode cX12_sheet 6 = .ok (.ifCond .eq 12, 3) := by decide +kernel
theorem dX12_sheet_60 : decode cX12_sheet 60 = .ok (.iload_n 2, 1) := by decide +kernel
theorem dX12_sheet_61 : decode cX12_sheet 61 = .ok (.iload_n 3, 1) := by decide +kernel
theorem dX12_sheet_62 : decode cX12_sheet 62 = .ok (.invokevirtual 317, 3) := by decide +kernel
theorem dX12_sheet_65 : decode cX12_sheet 65 = .ok (.iconst 1, 1) := by decide +kernel
theorem dX12_sheet_66 : decode cX12_sheet 66 = .ok (.ireturn, 1) := by decide +kernel
theorem dX12_sheet_9 : decode cX12_sheet 9 = .ok (.iload_n 2, 1) := by decide +kernel
set_option maxRecDepth 20000 in
theorem ggX12_sheet_X12_within : GoodIn wsX12_sheet wsX12_within := goodIn_r _ [6] (by decide +kernel) (by decide +kernel)
set_option maxRecDepth 20000 in
theorem ggX12_sheet_X9_become : GoodIn wsX12_sheet wsX9_become := goodIn_r _ [11, 12, 13, 14, 15, 16, 10, 17, 18, 19, 20, 21, 33, 34, 35, 36, 37, 38] (by decide +kernel) (by decide +kernel)
set_option maxRecDepth 20000 in
theorem gX12_sheet_X12_within : GoodIn wsX12_sheet (va_wsS RX12 77 yX12_within wsX12_within) := goodIn_app (goodIn_of _ (by decide +kernel)) ggX12_sheet_X12_within
set_option maxRecDepth 20000 in
theorem gX12_sheet_X9_become : GoodIn wsX12_sheet (wsV RX12 317 RX9 yX9_become wsX9_become) := goodIn_app (goodIn_of _ (by decide +kernel)) ggX12_sheet_X9_become
set_option maxRecDepth 20000 in
theorem in_X12_sheet_X12 : ∀ w ∈ wsX120, w ∈ wsX12_sheet := by decide +kernel
set_option maxRecDepth 20000 in
theorem in_X12_sheet_X9 : ∀ w ∈ wsX90, w ∈ wsX12_sheet := by decide +kernel
set_option maxHeartbeats 4000000 in
set_option maxRecDepth 100000 in
theorem f_X12_sheet (l : Launch) (D : va_G) (T : Nat → ClassId) (sz : Nat) (h0 : Nat) (h1 : Nat) (fs0 : List Value) (t0 : Nat) (t1 : Nat) (t2 : Nat) (t3 : Nat) (a00 : Nat) (a01 : Nat) (a02 : Nat) (a03 : Nat) (a10 : Nat) (a11 : Nat) (a12 : Nat) (a13 : Nat) (a20 : Nat) (a21 : Nat) (a22 : Nat) (a23 : Nat) (a30 : Nat) (a31 : Nat) (a32 : Nat) (a33 : Nat) (b00 : Nat → Int32) (b01 : Nat → Int64) (b02 : Nat → UInt32) (b03 : Nat → UInt64) (b10 : Nat → Int32) (b11 : Nat → Int64) (b12 : Nat → UInt32) (b13 : Nat → UInt64) (b20 : Nat → Int32) (b21 : Nat → Int64) (b22 : Nat → UInt32) (b23 : Nat → UInt64) (b30 : Nat → Int32) (b31 : Nat → Int64) (b32 : Nat → UInt32) (b33 : Nat → UInt64) (x1 : Int32) (x2 : Int32) (x3 : Int32) (e0_9 : fs0[9]? = some (.ref h1)) : Met l yX12_sheet wsX12_sheet ({ frames := 2, cells := 0, slots := 0, locals := 46 }) (pW [.ref h0, .int x1, .int x2, .int x3] D T [(h0, .inr (9, fs0)), (h1, .inl (T 6, 4, .inr (.inr (.inr (.inr (va_up (va_up (va_up (va_up (fun _ => none) 0 (some t0)) 1 (some t1)) 2 (some t2)) 3 (some t3))))))), (t0, .inr (6, [.int (-1), .int 0, .ref a00, .ref a01, .ref a02, .ref a03])), (t1, .inr (6, [.int (-1), .int 0, .ref a10, .ref a11, .ref a12, .ref a13])), (t2, .inr (6, [.int (-1), .int 0, .ref a20, .ref a21, .ref a22, .ref a23])), (t3, .inr (6, [.int (-1), .int 0, .ref a30, .ref a31, .ref a32, .ref a33])), (a00, .inl (T 0, 30, .inl b00)), (a01, .inl (T 1, 30, .inr (.inl b01))), (a02, .inl (T 2, 30, .inr (.inr (.inl b02)))), (a03, .inl (T 3, 30, .inr (.inr (.inr (.inl b03))))), (a10, .inl (T 0, 30, .inl b10)), (a11, .inl (T 1, 30, .inr (.inl b11))), (a12, .inl (T 2, 30, .inr (.inr (.inl b12)))), (a13, .inl (T 3, 30, .inr (.inr (.inr (.inl b13))))), (a20, .inl (T 0, 30, .inl b20)), (a21, .inl (T 1, 30, .inr (.inl b21))), (a22, .inl (T 2, 30, .inr (.inr (.inl b22)))), (a23, .inl (T 3, 30, .inr (.inr (.inr (.inl b23))))), (a30, .inl (T 0, 30, .inl b30)), (a31, .inl (T 1, 30, .inr (.inl b31))), (a32, .inl (T 2, 30, .inr (.inr (.inl b32)))), (a33, .inl (T 3, 30, .inr (.inr (.inr (.inl b33)))))] sz) (va_Qi (fun (r : Int32) (u : Unit) => r = sp_sheet x1 x2 x3) (bW D (va_A [(h0, .inr (9, fs0)), (h1, .inl (T 6, 4, .inr (.inr (.inr (.inr (va_up (va_up (va_up (va_up (fun _ => none) 0 (some t0)) 1 (some t1)) 2 (some t2)) 3 (some t3))))))), (t0, .inr (6, [.int (-1), .int 0, .ref a00, .ref a01, .ref a02, .ref a03])), (t1, .inr (6, [.int (-1), .int 0, .ref a10, .ref a11, .ref a12, .ref a13])), (t2, .inr (6, [.int (-1), .int 0, .ref a20, .ref a21, .ref a22, .ref a23])), (t3, .inr (6, [.int (-1), .int 0, .ref a30, .ref a31, .ref a32, .ref a33])), (a00, .inl (T 0, 30, .inl b00)), (a01, .inl (T 1, 30, .inr (.inl b01))), (a02, .inl (T 2, 30, .inr (.inr (.inl b02)))), (a03, .inl (T 3, 30, .inr (.inr (.inr (.inl b03))))), (a10, .inl (T 0, 30, .inl b10)), (a11, .inl (T 1, 30, .inr (.inl b11))), (a12, .inl (T 2, 30, .inr (.inr (.inl b12)))), (a13, .inl (T 3, 30, .inr (.inr (.inr (.inl b13))))), (a20, .inl (T 0, 30, .inl b20)), (a21, .inl (T 1, 30, .inr (.inl b21))), (a22, .inl (T 2, 30, .inr (.inr (.inl b22)))), (a23, .inl (T 3, 30, .inr (.inr (.inr (.inl b23))))), (a30, .inl (T 0, 30, .inl b30)), (a31, .inl (T 1, 30, .inr (.inl b31))), (a32, .inl (T 2, 30, .inr (.inr (.inl b32)))), (a33, .inl (T 3, 30, .inr (.inr (.inr (.inl b33)))))] sz) (fun (u : Unit) => ([] : va_W))) (va_A [(h0, .inr (9, fs0)), (h1, .inl (T 6, 4, .inr (.inr (.inr (.inr (va_up (va_up (va_up (va_up (fun _ => none) 0 (some t0)) 1 (some t1)) 2 (some t2)) 3 (some t3))))))), (t0, .inr (6, [.int (-1), .int 0, .ref a00, .ref a01, .ref a02, .ref a03])), (t1, .inr (6, [.int (-1), .int 0, .ref a10, .ref a11, .ref a12, .ref a13])), (t2, .inr (6, [.int (-1), .int 0, .ref a20, .ref a21, .ref a22, .ref a23])), (t3, .inr (6, [.int (-1), .int 0, .ref a30, .ref a31, .ref a32, .ref a33])), (a00, .inl (T 0, 30, .inl b00)), (a01, .inl (T 1, 30, .inr (.inl b01))), (a02, .inl (T 2, 30, .inr (.inr (.inl b02)))), (a03, .inl (T 3, 30, .inr (.inr (.inr (.inl b03))))), (a10, .inl (T 0, 30, .inl b10)), (a11, .inl (T 1, 30, .inr (.inl b11))), (a12, .inl (T 2, 30, .inr (.inr (.inl b12)))), (a13, .inl (T 3, 30, .inr (.inr (.inr (.inl b13))))), (a20, .inl (T 0, 30, .inl b20)), (a21, .inl (T 1, 30, .inr (.inl b21))), (a22, .inl (T 2, 30, .inr (.inr (.inl b22)))), (a23, .inl (T 3, 30, .inr (.inr (.inr (.inl b23))))), (a30, .inl (T 0, 30, .inl b30)), (a31, .inl (T 1, 30, .inr (.inl b31))), (a32, .inl (T 2, 30, .inr (.inr (.inl b32)))), (a33, .inl (T 3, 30, .inr (.inr (.inr (.inl b33)))))] sz)) 0 0 (va_A [(h0, .inr (9, fs0)), (h1, .inl (T 6, 4, .inr (.inr (.inr (.inr (va_up (va_up (va_up (va_up (fun _ => none) 0 (some t0)) 1 (some t1)) 2 (some t2)) 3 (some t3))))))), (t0, .inr (6, [.int (-1), .int 0, .ref a00, .ref a01, .ref a02, .ref a03])), (t1, .inr (6, [.int (-1), .int 0, .ref a10, .ref a11, .ref a12, .ref a13])), (t2, .inr (6, [.int (-1), .int 0, .ref a20, .ref a21, .ref a22, .ref a23])), (t3, .inr (6, [.int (-1), .int 0, .ref a30, .ref a31, .ref a32, .ref a33])), (a00, .inl (T 0, 30, .inl b00)), (a01, .inl (T 1, 30, .inr (.inl b01))), (a02, .inl (T 2, 30, .inr (.inr (.inl b02)))), (a03, .inl (T 3, 30, .inr (.inr (.inr (.inl b03))))), (a10, .inl (T 0, 30, .inl b10)), (a11, .inl (T 1, 30, .inr (.inl b11))), (a12, .inl (T 2, 30, .inr (.inr (.inl b12)))), (a13, .inl (T 3, 30, .inr (.inr (.inr (.inl b13))))), (a20, .inl (T 0, 30, .inl b20)), (a21, .inl (T 1, 30, .inr (.inl b21))), (a22, .inl (T 2, 30, .inr (.inr (.inl b22)))), (a23, .inl (T 3, 30, .inr (.inr (.inr (.inl b23))))), (a30, .inl (T 0, 30, .inl b30)), (a31, .inl (T 1, 30, .inr (.inl b31))), (a32, .inl (T 2, 30, .inr (.inr (.inl b32)))), (a33, .inl (T 3, 30, .inr (.inr (.inr (.inl b33)))))] sz) := by
  refine Met.ofW (cc := cX12_sheet) (maxL := 4) (ret := (some .int)) (by decide) rfl ?_
  intro p e s m args below meth c s₁ B hml hv
  obtain ⟨rfl, hsz, hP, hE, hD0⟩ := hv
  have hx := B.exec
  have hb := B.bytes
  have hr := B.returns
  have hts := atoms_spec (ws := wsX12_sheet) B.pre
  have hown : s.vm.findClass RX12 = some m.cls := findClass_of_methodNamed B.named
  have hlocks := B.notSynchronized
  subst hsz
  have hD := hD0.self (sz := s.heap.size)
  generalize hAe : va_A [(h0, .inr (9, fs0)), (h1, .inl (T 6, 4, .inr (.inr (.inr (.inr (va_up (va_up (va_up (va_up (fun _ => none) 0 (some t0)) 1 (some t1)) 2 (some t2)) 3 (some t3))))))), (t0, .inr (6, [.int (-1), .int 0, .ref a00, .ref a01, .ref a02, .ref a03])), (t1, .inr (6, [.int (-1), .int 0, .ref a10, .ref a11, .ref a12, .ref a13])), (t2, .inr (6, [.int (-1), .int 0, .ref a20, .ref a21, .ref a22, .ref a23])), (t3, .inr (6, [.int (-1), .int 0, .ref a30, .ref a31, .ref a32, .ref a33])), (a00, .inl (T 0, 30, .inl b00)), (a01, .inl (T 1, 30, .inr (.inl b01))), (a02, .inl (T 2, 30, .inr (.inr (.inl b02)))), (a03, .inl (T 3, 30, .inr (.inr (.inr (.inl b03))))), (a10, .inl (T 0, 30, .inl b10)), (a11, .inl (T 1, 30, .inr (.inl b11))), (a12, .inl (T 2, 30, .inr (.inr (.inl b12)))), (a13, .inl (T 3, 30, .inr (.inr (.inr (.inl b13))))), (a20, .inl (T 0, 30, .inl b20)), (a21, .inl (T 1, 30, .inr (.inl b21))), (a22, .inl (T 2, 30, .inr (.inr (.inl b22)))), (a23, .inl (T 3, 30, .inr (.inr (.inr (.inl b23))))), (a30, .inl (T 0, 30, .inl b30)), (a31, .inl (T 1, 30, .inr (.inl b31))), (a32, .inl (T 2, 30, .inr (.inr (.inl b32)))), (a33, .inl (T 3, 30, .inr (.inr (.inr (.inl b33)))))] s.heap.size = A at hD ⊢
  have hA : ∀ q : Nat, s.heap.size ≤ q → A q := fun q h => by rw [← hAe]; exact Or.inr h
  have hS : va_S A s.heap s.heap [] := va_S.rf
  have hP : va_P D vwCl [(h0, .inr (9, fs0)), (h1, .inl (T 6, 4, .inr (.inr (.inr (.inr (va_up (va_up (va_up (va_up (fun _ => none) 0 (some t0)) 1 (some t1)) 2 (some t2)) 3 (some t3))))))), (t0, .inr (6, [.int (-1), .int 0, .ref a00, .ref a01, .ref a02, .ref a03])), (t1, .inr (6, [.int (-1), .int 0, .ref a10, .ref a11, .ref a12, .ref a13])), (t2, .inr (6, [.int (-1), .int 0, .ref a20, .ref a21, .ref a22, .ref a23])), (t3, .inr (6, [.int (-1), .int 0, .ref a30, .ref a31, .ref a32, .ref a33])), (a00, .inl (T 0, 30, .inl b00)), (a01, .inl (T 1, 30, .inr (.inl b01))), (a02, .inl (T 2, 30, .inr (.inr (.inl b02)))), (a03, .inl (T 3, 30, .inr (.inr (.inr (.inl b03))))), (a10, .inl (T 0, 30, .inl b10)), (a11, .inl (T 1, 30, .inr (.inl b11))), (a12, .inl (T 2, 30, .inr (.inr (.inl b12)))), (a13, .inl (T 3, 30, .inr (.inr (.inr (.inl b13))))), (a20, .inl (T 0, 30, .inl b20)), (a21, .inl (T 1, 30, .inr (.inl b21))), (a22, .inl (T 2, 30, .inr (.inr (.inl b22)))), (a23, .inl (T 3, 30, .inr (.inr (.inr (.inl b23))))), (a30, .inl (T 0, 30, .inl b30)), (a31, .inl (T 1, 30, .inr (.inl b31))), (a32, .inl (T 2, 30, .inr (.inr (.inl b32)))), (a33, .inl (T 3, 30, .inr (.inr (.inr (.inl b33)))))] s.heap := hP
  have hl := lv_entry ([.ref h0, .int x1, .int x2, .int x3]) (n := 4) (Nat.le_of_ble_eq_true rfl)
  rw [lg_entry_eq]
  generalize (lg_sl ([.ref h0, .int x1, .int x2, .int x3]) ++ List.replicate (4 - (lg_sl ([.ref h0, .int x1, .int x2, .int x3])).length) Slot.unset).toArray = ls at hl ⊢
  have hl : lv_has ls 4 [(0, .ref h0), (1, .int x1), (2, .int x2), (3, .int x3)] := hl
  clear hD0
  refine lv_iload_n hx hb dX12_sheet_0 rfl (lv_at hl 1 rfl) ?_
  refine lv_iconst (v := 0) hx hb dX12_sheet_1 (by decide) ?_
  refine lv_iconst (v := 3) hx hb dX12_sheet_2 (by decide) ?_
  refine vp_callSi (W.runS (As := [.int x1, .int 0, .int 3]) (rest := []) ⟨hx, hb, hml, hown, hts⟩ (c_X12_within l D T x1 0 3 0 3 (by decide) (by decide)) (va_cwS 3 hts gX12_sheet_X12_within rfl rfl rfl (by decide +kernel) ⟨Nat.le_of_ble_eq_true rfl, Nat.le_of_ble_eq_true rfl⟩) (pR_S hP hE [] rfl) rfl rfl hl.1 rfl (lv_room (Nat.le_of_ble_eq_true rfl)) dX12_sheet_3 ⟨Nat.le_of_ble_eq_true rfl, Nat.le_of_ble_eq_true rfl⟩) (fun r_1 hr_1 => ?_)
  rcases bool_post hr_1 with ⟨c_2, rfl⟩ | ⟨c_2, rfl⟩
  · refine lv_if_eq (tgt := 18) hx hb dX12_sheet_6 (by decide) (fun c9 => absurd c9 (by decide)) (fun _ => ?_)
    refine lv_iload_n hx hb dX12_sheet_9 rfl (lv_at hl 2 rfl) ?_
    refine lv_iconst (v := (-1)) hx hb dX12_sheet_10 (by decide) ?_
    refine lv_iconst (v := 3) hx hb dX12_sheet_11 (by decide) ?_
    refine vp_callSi (W.runS (As := [.int x2, .int (-1), .int 3]) (rest := []) ⟨hx, hb, hml, hown, hts⟩ (c_X12_within l D T x2 (-1) 3 (-1) 3 (by decide) (by decide)) (va_cwS 3 hts gX12_sheet_X12_within rfl rfl rfl (by decide +kernel) ⟨Nat.le_of_ble_eq_true rfl, Nat.le_of_ble_eq_true rfl⟩) (pR_S hP hE [] rfl) rfl rfl hl.1 rfl (lv_room (Nat.le_of_ble_eq_true rfl)) dX12_sheet_12 ⟨Nat.le_of_ble_eq_true rfl, Nat.le_of_ble_eq_true rfl⟩) (fun r_3 hr_3 => ?_)
    rcases bool_post hr_3 with ⟨c_4, rfl⟩ | ⟨c_4, rfl⟩
    · refine lv_if_ne (tgt := 21) hx hb dX12_sheet_15 (by decide) (fun _ => ?_) (fun c9 => absurd c9 (by decide))
      refine lv_iload_n hx hb dX12_sheet_21 rfl (lv_at hl 2 rfl) ?_
      refine lv_iconst (v := (-1)) hx hb dX12_sheet_22 (by decide) ?_
      refine lv_icmp_ne (tgt := 38) hx hb dX12_sheet_23 (by decide) (fun c_5 => ?_) (fun c_5 => ?_)
      · rw [fa_eq] at c_5
        try rw [ti_n1] at c_5
        refine lv_iload_n hx hb dX12_sheet_38 rfl (lv_at hl 3 rfl) ?_
        refine lv_bipush (v := 30) hx hb dX12_sheet_39 (by decide) ?_
        refine lv_icmp_le (tgt := 47) hx hb dX12_sheet_41 (by decide) (fun c_6 => ?_) (fun c_6 => ?_)
        · rw [fa_le] at c_6
          try rw [ti_30] at c_6
          refine lv_iload_n hx hb dX12_sheet_47 rfl (lv_at hl 3 rfl) ?_
          refine lv_if_ge (tgt := 54) hx hb dX12_sheet_48 (by decide) (fun c_7 => ?_) (fun c_7 => ?_)
          · rw [fa_le] at c_7
            try rw [ti_0] at c_7
            refine lv_aload_n hx hb dX12_sheet_54 rfl (lv_at hl 0 rfl) ?_
            refine va_get (D := D) (ci := 9) (v := .ref h1) (C := RX12) (T := TX12) (N := 11) hx hb hts in_X12_sheet_X12 hown hE.1 hP 0 rfl rfl 9 (by decide) (hts (.fieldLink RX12 65 "ClauseBook" "sheets" "[LClauseBook$Sheet;") (List.mem_of_getElem? (i := 1) rfl)) (fun _ h9 => h9) e0_9 dX12_sheet_55 ?_
            refine lv_iload_n hx hb dX12_sheet_58 rfl (lv_at hl 1 rfl) ?_
            rcases in4 (x := x1) (by omega) with rfl | rfl | rfl | rfl
            · refine va_aldq hx hb hE.1 hP 1 6 rfl rfl (by unfold vp_in; decide) dX12_sheet_59 ?_
              refine W.eq (g2 := F0 m 60 ls [.ref t0]) rfl ?_
              refine lv_iload_n hx hb dX12_sheet_60 rfl (lv_at hl 2 rfl) ?_
              refine lv_iload_n hx hb dX12_sheet_61 rfl (lv_at hl 3 rfl) ?_
              have hFc := va_free (wc := [(t0, .inr (6, [.int (-1), .int 0, .ref a00, .ref a01, .ref a02, .ref a03])), (a00, .inl (T 0, 30, .inl b00)), (a01, .inl (T 1, 30, .inr (.inl b01))), (a02, .inl (T 2, 30, .inr (.inr (.inl b02)))), (a03, .inl (T 3, 30, .inr (.inr (.inr (.inl b03)))))]) hD hS hA [2, 6, 7, 8, 9] rfl
              refine va_callv (va_runV (As := [.int x2, .int x3]) (rest := []) ⟨hx, hb, hml, hown, hts⟩ (f_X9_become l D T _ t0 (-1) 0 a00 a01 a02 a03 b00 b01 b02 b03 x2 x3 (by omega)) (cwV 2 hts gX12_sheet_X9_become rfl rfl rfl (by decide +kernel) ⟨Nat.le_of_ble_eq_true rfl, Nat.le_of_ble_eq_true rfl⟩) (pW_V (ci := 6) (q0 := 2) hP hE hD rfl rfl [2, 6, 7, 8, 9] (by decide) rfl rfl) rfl rfl hl.1 rfl (lv_room (Nat.le_of_ble_eq_true rfl)) dX12_sheet_62 ⟨Nat.le_of_ble_eq_true rfl, Nat.le_of_ble_eq_true rfl⟩) hS (fun q _ h => hFc q h) hFc (fun u_9 t H1 locs ht hvm hr_8 hB hz1 hk1 hS => ?_)
              obtain ⟨hP1, hD1⟩ := hB
              rw [ht] at hP1
              obtain ⟨hP, hD⟩ := va_join (wr := [(h0, .inr (9, fs0)), (h1, .inl (T 6, 4, .inr (.inr (.inr (.inr (va_up (va_up (va_up (va_up (fun _ => none) 0 (some t0)) 1 (some t1)) 2 (some t2)) 3 (some t3))))))), (t1, .inr (6, [.int (-1), .int 0, .ref a10, .ref a11, .ref a12, .ref a13])), (t2, .inr (6, [.int (-1), .int 0, .ref a20, .ref a21, .ref a22, .ref a23])), (t3, .inr (6, [.int (-1), .int 0, .ref a30, .ref a31, .ref a32, .ref a33])), (a10, .inl (T 0, 30, .inl b10)), (a11, .inl (T 1, 30, .inr (.inl b11))), (a12, .inl (T 2, 30, .inr (.inr (.inl b12)))), (a13, .inl (T 3, 30, .inr (.inr (.inr (.inl b13))))), (a20, .inl (T 0, 30, .inl b20)), (a21, .inl (T 1, 30, .inr (.inl b21))), (a22, .inl (T 2, 30, .inr (.inr (.inl b22)))), (a23, .inl (T 3, 30, .inr (.inr (.inr (.inl b23))))), (a30, .inl (T 0, 30, .inl b30)), (a31, .inl (T 1, 30, .inr (.inl b31))), (a32, .inl (T 2, 30, .inr (.inr (.inl b32)))), (a33, .inl (T 3, 30, .inr (.inr (.inr (.inl b33)))))]) (w1 := []) hP hD [2, 6, 7, 8, 9] [0, 1, 3, 4, 5, 10, 11, 12, 13, 14, 15, 16, 17, 18, 19, 20, 21] rfl rfl (by decide) (by decide) hk1 hFc hP1 hD1
              clear hP1 hD1 hFc
              generalize H1 = H at hP hS ⊢
              have hP : va_P D vwCl [(h0, .inr (9, fs0)), (h1, .inl (T 6, 4, .inr (.inr (.inr (.inr (va_up (va_up (va_up (va_up (fun _ => none) 0 (some t0)) 1 (some t1)) 2 (some t2)) 3 (some t3))))))), (t1, .inr (6, [.int (-1), .int 0, .ref a10, .ref a11, .ref a12, .ref a13])), (t2, .inr (6, [.int (-1), .int 0, .ref a20, .ref a21, .ref a22, .ref a23])), (t3, .inr (6, [.int (-1), .int 0, .ref a30, .ref a31, .ref a32, .ref a33])), (a10, .inl (T 0, 30, .inl b10)), (a11, .inl (T 1, 30, .inr (.inl b11))), (a12, .inl (T 2, 30, .inr (.inr (.inl b12)))), (a13, .inl (T 3, 30, .inr (.inr (.inr (.inl b13))))), (a20, .inl (T 0, 30, .inl b20)), (a21, .inl (T 1, 30, .inr (.inl b21))), (a22, .inl (T 2, 30, .inr (.inr (.inl b22)))), (a23, .inl (T 3, 30, .inr (.inr (.inr (.inl b23))))), (a30, .inl (T 0, 30, .inl b30)), (a31, .inl (T 1, 30, .inr (.inl b31))), (a32, .inl (T 2, 30, .inr (.inr (.inl b32)))), (a33, .inl (T 3, 30, .inr (.inr (.inr (.inl b33)))))] H := hP
              have hD : va_D A [(h0, .inr (9, fs0)), (h1, .inl (T 6, 4, .inr (.inr (.inr (.inr (va_up (va_up (va_up (va_up (fun _ => none) 0 (some t0)) 1 (some t1)) 2 (some t2)) 3 (some t3))))))), (t1, .inr (6, [.int (-1), .int 0, .ref a10, .ref a11, .ref a12, .ref a13])), (t2, .inr (6, [.int (-1), .int 0, .ref a20, .ref a21, .ref a22, .ref a23])), (t3, .inr (6, [.int (-1), .int 0, .ref a30, .ref a31, .ref a32, .ref a33])), (a10, .inl (T 0, 30, .inl b10)), (a11, .inl (T 1, 30, .inr (.inl b11))), (a12, .inl (T 2, 30, .inr (.inr (.inl b12)))), (a13, .inl (T 3, 30, .inr (.inr (.inr (.inl b13))))), (a20, .inl (T 0, 30, .inl b20)), (a21, .inl (T 1, 30, .inr (.inl b21))), (a22, .inl (T 2, 30, .inr (.inr (.inl b22)))), (a23, .inl (T 3, 30, .inr (.inr (.inr (.inl b23))))), (a30, .inl (T 0, 30, .inl b30)), (a31, .inl (T 1, 30, .inr (.inl b31))), (a32, .inl (T 2, 30, .inr (.inr (.inl b32)))), (a33, .inl (T 3, 30, .inr (.inr (.inr (.inl b33)))))] := hD
              refine lv_iconst (v := 1) hx hb dX12_sheet_65 (by decide) ?_
              exact W.iret hx hb hr (fun t ht hW => ⟨⟨_, (), rfl, (by first | decide | (unfold sp_sheet; (repeat' split) <;> first | rfl | (exfalso; omega))), by rw [ht]; exact hP.sub [] rfl, hD.sub [] (by decide) rfl⟩, hS.F ht⟩) hS.2.2 dX12_sheet_66
            · refine va_aldq hx hb hE.1 hP 1 6 rfl rfl (by unfold vp_in; decide) dX12_sheet_59 ?_
              refine W.eq (g2 := F0 m 60 ls [.ref t1]) rfl ?_
              refine lv_iload_n hx hb dX12_sheet_60 rfl (lv_at hl 2 rfl) ?_
              refine lv_iload_n hx hb dX12_sheet_61 rfl (lv_at hl 3 rfl) ?_
              have hFc := va_free (wc := [(t1, .inr (6, [.int (-1), .int 0, .ref a10, .ref a11, .ref a12, .ref a13])), (a10, .inl (T 0, 30, .inl b10)), (a11, .inl (T 1, 30, .inr (.inl b11))), (a12, .inl (T 2, 30, .inr (.inr (.inl b12)))), (a13, .inl (T 3, 30, .inr (.inr (.inr (.inl b13)))))]) hD hS hA [3, 10, 11, 12, 13] rfl
              refine va_callv (va_runV (As := [.int x2, .int x3]) (rest := []) ⟨hx, hb, hml, hown, hts⟩ (f_X9_become l D T _ t1 (-1) 0 a10 a11 a12 a13 b10 b11 b12 b13 x2 x3 (by omega)) (cwV 2 hts gX12_sheet_X9_become rfl rfl rfl (by decide +kernel) ⟨Nat.le_of_ble_eq_true rfl, Nat.le_of_ble_eq_true rfl⟩) (pW_V (ci := 6) (q0 := 3) hP hE hD rfl rfl [3, 10, 11, 12, 13] (by decide) rfl rfl) rfl rfl hl.1 rfl (lv_room (Nat.le_of_ble_eq_true rfl)) dX12_sheet_62 ⟨Nat.le_of_ble_eq_true rfl, Nat.le_of_ble_eq_true rfl⟩) hS (fun q _ h => hFc q h) hFc (fun u_11 t H1 locs ht hvm hr_10 hB hz1 hk1 hS => ?_)
              obtain ⟨hP1, hD1⟩ := hB
              rw [ht] at hP1
              obtain ⟨hP, hD⟩ := va_join (wr := [(h0, .inr (9, fs0)), (h1, .inl (T 6, 4, .inr (.inr (.inr (.inr (va_up (va_up (va_up (va_up (fun _ => none) 0 (some t0)) 1 (some t1)) 2 (some t2)) 3 (some t3))))))), (t0, .inr (6, [.int (-1), .int 0, .ref a00, .ref a01, .ref a02, .ref a03])), (t2, .inr (6, [.int (-1), .int 0, .ref a20, .ref a21, .ref a22, .ref a23])), (t3, .inr (6, [.int (-1), .int 0, .ref a30, .ref a31, .ref a32, .ref a33])), (a00, .inl (T 0, 30, .inl b00)), (a01, .inl (T 1, 30, .inr (.inl b01))), (a02, .inl (T 2, 30, .inr (.inr (.inl b02)))), (a03, .inl (T 3, 30, .inr (.inr (.inr (.inl b03))))), (a20, .inl (T 0, 30, .inl b20)), (a21, .inl (T 1, 30, .inr (.inl b21))), (a22, .inl (T 2, 30, .inr (.inr (.inl b22)))), (a23, .inl (T 3, 30, .inr (.inr (.inr (.inl b23))))), (a30, .inl (T 0, 30, .inl b30)), (a31, .inl (T 1, 30, .inr (.inl b31))), (a32, .inl (T 2, 30, .inr (.inr (.inl b32)))), (a33, .inl (T 3, 30, .inr (.inr (.inr (.inl b33)))))]) (w1 := []) hP hD [3, 10, 11, 12, 13] [0, 1, 2, 4, 5, 6, 7, 8, 9, 14, 15, 16, 17, 18, 19, 20, 21] rfl rfl (by decide) (by decide) hk1 hFc hP1 hD1
              clear hP1 hD1 hFc
              generalize H1 = H at hP hS ⊢
              have hP : va_P D vwCl [(h0, .inr (9, fs0)), (h1, .inl (T 6, 4, .inr (.inr (.inr (.inr (va_up (va_up (va_up (va_up (fun _ => none) 0 (some t0)) 1 (some t1)) 2 (some t2)) 3 (some t3))))))), (t0, .inr (6, [.int (-1), .int 0, .ref a00, .ref a01, .ref a02, .ref a03])), (t2, .inr (6, [.int (-1), .int 0, .ref a20, .ref a21, .ref a22, .ref a23])), (t3, .inr (6, [.int (-1), .int 0, .ref a30, .ref a31, .ref a32, .ref a33])), (a00, .inl (T 0, 30, .inl b00)), (a01, .inl (T 1, 30, .inr (.inl b01))), (a02, .inl (T 2, 30, .inr (.inr (.inl b02)))), (a03, .inl (T 3, 30, .inr (.inr (.inr (.inl b03))))), (a20, .inl (T 0, 30, .inl b20)), (a21, .inl (T 1, 30, .inr (.inl b21))), (a22, .inl (T 2, 30, .inr (.inr (.inl b22)))), (a23, .inl (T 3, 30, .inr (.inr (.inr (.inl b23))))), (a30, .inl (T 0, 30, .inl b30)), (a31, .inl (T 1, 30, .inr (.inl b31))), (a32, .inl (T 2, 30, .inr (.inr (.inl b32)))), (a33, .inl (T 3, 30, .inr (.inr (.inr (.inl b33)))))] H := hP
              have hD : va_D A [(h0, .inr (9, fs0)), (h1, .inl (T 6, 4, .inr (.inr (.inr (.inr (va_up (va_up (va_up (va_up (fun _ => none) 0 (some t0)) 1 (some t1)) 2 (some t2)) 3 (some t3))))))), (t0, .inr (6, [.int (-1), .int 0, .ref a00, .ref a01, .ref a02, .ref a03])), (t2, .inr (6, [.int (-1), .int 0, .ref a20, .ref a21, .ref a22, .ref a23])), (t3, .inr (6, [.int (-1), .int 0, .ref a30, .ref a31, .ref a32, .ref a33])), (a00, .inl (T 0, 30, .inl b00)), (a01, .inl (T 1, 30, .inr (.inl b01))), (a02, .inl (T 2, 30, .inr (.inr (.inl b02)))), (a03, .inl (T 3, 30, .inr (.inr (.inr (.inl b03))))), (a20, .inl (T 0, 30, .inl b20)), (a21, .inl (T 1, 30, .inr (.inl b21))), (a22, .inl (T 2, 30, .inr (.inr (.inl b22)))), (a23, .inl (T 3, 30, .inr (.inr (.inr (.inl b23))))), (a30, .inl (T 0, 30, .inl b30)), (a31, .inl (T 1, 30, .inr (.inl b31))), (a32, .inl (T 2, 30, .inr (.inr (.inl b32)))), (a33, .inl (T 3, 30, .inr (.inr (.inr (.inl b33)))))] := hD
              refine lv_iconst (v := 1) hx hb dX12_sheet_65 (by decide) ?_
              exact W.iret hx hb hr (fun t ht hW => ⟨⟨_, (), rfl, (by first | decide | (unfold sp_sheet; (repeat' split) <;> first | rfl | (exfalso; omega))), by rw [ht]; exact hP.sub [] rfl, hD.sub [] (by decide) rfl⟩, hS.F ht⟩) hS.2.2 dX12_sheet_66
            · refine va_aldq hx hb hE.1 hP 1 6 rfl rfl (by unfold vp_in; decide) dX12_sheet_59 ?_
              refine W.eq (g2 := F0 m 60 ls [.ref t2]) rfl ?_
              refine lv_iload_n hx hb dX12_sheet_60 rfl (lv_at hl 2 rfl) ?_
              refine lv_iload_n hx hb dX12_sheet_61 rfl (lv_at hl 3 rfl) ?_
              have hFc := va_free (wc := [(t2, .inr (6, [.int (-1), .int 0, .ref a20, .ref a21, .ref a22, .ref a23])), (a20, .inl (T 0, 30, .inl b20)), (a21, .inl (T 1, 30, .inr (.inl b21))), (a22, .inl (T 2, 30, .inr (.inr (.inl b22)))), (a23, .inl (T 3, 30, .inr (.inr (.inr (.inl b23)))))]) hD hS hA [4, 14, 15, 16, 17] rfl
              refine va_callv (va_runV (As := [.int x2, .int x3]) (rest := []) ⟨hx, hb, hml, hown, hts⟩ (f_X9_become l D T _ t2 (-1) 0 a20 a21 a22 a23 b20 b21 b22 b23 x2 x3 (by omega)) (cwV 2 hts gX12_sheet_X9_become rfl rfl rfl (by decide +kernel) ⟨Nat.le_of_ble_eq_true rfl, Nat.le_of_ble_eq_true rfl⟩) (pW_V (ci := 6) (q0 := 4) hP hE hD rfl rfl [4, 14, 15, 16, 17] (by decide) rfl rfl) rfl rfl hl.1 rfl (lv_room (Nat.le_of_ble_eq_true rfl)) dX12_sheet_62 ⟨Nat.le_of_ble_eq_true rfl, Nat.le_of_ble_eq_true rfl⟩) hS (fun q _ h => hFc q h) hFc (fun u_13 t H1 locs ht hvm hr_12 hB hz1 hk1 hS => ?_)
              obtain ⟨hP1, hD1⟩ := hB
              rw [ht] at hP1
              obtain ⟨hP, hD⟩ := va_join (wr := [(h0, .inr (9, fs0)), (h1, .inl (T 6, 4, .inr (.inr (.inr (.inr (va_up (va_up (va_up (va_up (fun _ => none) 0 (some t0)) 1 (some t1)) 2 (some t2)) 3 (some t3))))))), (t0, .inr (6, [.int (-1), .int 0, .ref a00, .ref a01, .ref a02, .ref a03])), (t1, .inr (6, [.int (-1), .int 0, .ref a10, .ref a11, .ref a12, .ref a13])), (t3, .inr (6, [.int (-1), .int 0, .ref a30, .ref a31, .ref a32, .ref a33])), (a00, .inl (T 0, 30, .inl b00)), (a01, .inl (T 1, 30, .inr (.inl b01))), (a02, .inl (T 2, 30, .inr (.inr (.inl b02)))), (a03, .inl (T 3, 30, .inr (.inr (.inr (.inl b03))))), (a10, .inl (T 0, 30, .inl b10)), (a11, .inl (T 1, 30, .inr (.inl b11))), (a12, .inl (T 2, 30, .inr (.inr (.inl b12)))), (a13, .inl (T 3, 30, .inr (.inr (.inr (.inl b13))))), (a30, .inl (T 0, 30, .inl b30)), (a31, .inl (T 1, 30, .inr (.inl b31))), (a32, .inl (T 2, 30, .inr (.inr (.inl b32)))), (a33, .inl (T 3, 30, .inr (.inr (.inr (.inl b33)))))]) (w1 := []) hP hD [4, 14, 15, 16, 17] [0, 1, 2, 3, 5, 6, 7, 8, 9, 10, 11, 12, 13, 18, 19, 20, 21] rfl rfl (by decide) (by decide) hk1 hFc hP1 hD1
              clear hP1 hD1 hFc
              generalize H1 = H at hP hS ⊢
              have hP : va_P D vwCl [(h0, .inr (9, fs0)), (h1, .inl (T 6, 4, .inr (.inr (.inr (.inr (va_up (va_up (va_up (va_up (fun _ => none) 0 (some t0)) 1 (some t1)) 2 (some t2)) 3 (some t3))))))), (t0, .inr (6, [.int (-1), .int 0, .ref a00, .ref a01, .ref a02, .ref a03])), (t1, .inr (6, [.int (-1), .int 0, .ref a10, .ref a11, .ref a12, .ref a13])), (t3, .inr (6, [.int (-1), .int 0, .ref a30, .ref a31, .ref a32, .ref a33])), (a00, .inl (T 0, 30, .inl b00)), (a01, .inl (T 1, 30, .inr (.inl b01))), (a02, .inl (T 2, 30, .inr (.inr (.inl b02)))), (a03, .inl (T 3, 30, .inr (.inr (.inr (.inl b03))))), (a10, .inl (T 0, 30, .inl b10)), (a11, .inl (T 1, 30, .inr (.inl b11))), (a12, .inl (T 2, 30, .inr (.inr (.inl b12)))), (a13, .inl (T 3, 30, .inr (.inr (.inr (.inl b13))))), (a30, .inl (T 0, 30, .inl b30)), (a31, .inl (T 1, 30, .inr (.inl b31))), (a32, .inl (T 2, 30, .inr (.inr (.inl b32)))), (a33, .inl (T 3, 30, .inr (.inr (.inr (.inl b33)))))] H := hP
              have hD : va_D A [(h0, .inr (9, fs0)), (h1, .inl (T 6, 4, .inr (.inr (.inr (.inr (va_up (va_up (va_up (va_up (fun _ => none) 0 (some t0)) 1 (some t1)) 2 (some t2)) 3 (some t3))))))), (t0, .inr (6, [.int (-1), .int 0, .ref a00, .ref a01, .ref a02, .ref a03])), (t1, .inr (6, [.int (-1), .int 0, .ref a10, .ref a11, .ref a12, .ref a13])), (t3, .inr (6, [.int (-1), .int 0, .ref a30, .ref a31, .ref a32, .ref a33])), (a00, .inl (T 0, 30, .inl b00)), (a01, .inl (T 1, 30, .inr (.inl b01))), (a02, .inl (T 2, 30, .inr (.inr (.inl b02)))), (a03, .inl (T 3, 30, .inr (.inr (.inr (.inl b03))))), (a10, .inl (T 0, 30, .inl b10)), (a11, .inl (T 1, 30, .inr (.inl b11))), (a12, .inl (T 2, 30, .inr (.inr (.inl b12)))), (a13, .inl (T 3, 30, .inr (.inr (.inr (.inl b13))))), (a30, .inl (T 0, 30, .inl b30)), (a31, .inl (T 1, 30, .inr (.inl b31))), (a32, .inl (T 2, 30, .inr (.inr (.inl b32)))), (a33, .inl (T 3, 30, .inr (.inr (.inr (.inl b33)))))] := hD
              refine lv_iconst (v := 1) hx hb dX12_sheet_65 (by decide) ?_
              exact W.iret hx hb hr (fun t ht hW => ⟨⟨_, (), rfl, (by first | decide | (unfold sp_sheet; (repeat' split) <;> first | rfl | (exfalso; omega))), by rw [ht]; exact hP.sub [] rfl, hD.sub [] (by decide) rfl⟩, hS.F ht⟩) hS.2.2 dX12_sheet_66
            · refine va_aldq hx hb hE.1 hP 1 6 rfl rfl (by unfold vp_in; decide) dX12_sheet_59 ?_
              refine W.eq (g2 := F0 m 60 ls [.ref t3]) rfl ?_
              refine lv_iload_n hx hb dX12_sheet_60 rfl (lv_at hl 2 rfl) ?_
              refine lv_iload_n hx hb dX12_sheet_61 rfl (lv_at hl 3 rfl) ?_
              have hFc := va_free (wc := [(t3, .inr (6, [.int (-1), .int 0, .ref a30, .ref a31, .ref a32, .ref a33])), (a30, .inl (T 0, 30, .inl b30)), (a31, .inl (T 1, 30, .inr (.inl b31))), (a32, .inl (T 2, 30, .inr (.inr (.inl b32)))), (a33, .inl (T 3, 30, .inr (.inr (.inr (.inl b33)))))]) hD hS hA [5, 18, 19, 20, 21] rfl
              refine va_callv (va_runV (As := [.int x2, .int x3]) (rest := []) ⟨hx, hb, hml, hown, hts⟩ (f_X9_become l D T _ t3 (-1) 0 a30 a31 a32 a33 b30 b31 b32 b33 x2 x3 (by omega)) (cwV 2 hts gX12_sheet_X9_become rfl rfl rfl (by decide +kernel) ⟨Nat.le_of_ble_eq_true rfl, Nat.le_of_ble_eq_true rfl⟩) (pW_V (ci := 6) (q0 := 5) hP hE hD rfl rfl [5, 18, 19, 20, 21] (by decide) rfl rfl) rfl rfl hl.1 rfl (lv_room (Nat.le_of_ble_eq_true rfl)) dX12_sheet_62 ⟨Nat.le_of_ble_eq_true rfl, Nat.le_of_ble_eq_true rfl⟩) hS (fun q _ h => hFc q h) hFc (fun u_15 t H1 locs ht hvm hr_14 hB hz1 hk1 hS => ?_)
              obtain ⟨hP1, hD1⟩ := hB
              rw [ht] at hP1
              obtain ⟨hP, hD⟩ := va_join (wr := [(h0, .inr (9, fs0)), (h1, .inl (T 6, 4, .inr (.inr (.inr (.inr (va_up (va_up (va_up (va_up (fun _ => none) 0 (some t0)) 1 (some t1)) 2 (some t2)) 3 (some t3))))))), (t0, .inr (6, [.int (-1), .int 0, .ref a00, .ref a01, .ref a02, .ref a03])), (t1, .inr (6, [.int (-1), .int 0, .ref a10, .ref a11, .ref a12, .ref a13])), (t2, .inr (6, [.int (-1), .int 0, .ref a20, .ref a21, .ref a22, .ref a23])), (a00, .inl (T 0, 30, .inl b00)), (a01, .inl (T 1, 30, .inr (.inl b01))), (a02, .inl (T 2, 30, .inr (.inr (.inl b02)))), (a03, .inl (T 3, 30, .inr (.inr (.inr (.inl b03))))), (a10, .inl (T 0, 30, .inl b10)), (a11, .inl (T 1, 30, .inr (.inl b11))), (a12, .inl (T 2, 30, .inr (.inr (.inl b12)))), (a13, .inl (T 3, 30, .inr (.inr (.inr (.inl b13))))), (a20, .inl (T 0, 30, .inl b20)), (a21, .inl (T 1, 30, .inr (.inl b21))), (a22, .inl (T 2, 30, .inr (.inr (.inl b22)))), (a23, .inl (T 3, 30, .inr (.inr (.inr (.inl b23)))))]) (w1 := []) hP hD [5, 18, 19, 20, 21] [0, 1, 2, 3, 4, 6, 7, 8, 9, 10, 11, 12, 13, 14, 15, 16, 17] rfl rfl (by decide) (by decide) hk1 hFc hP1 hD1
              clear hP1 hD1 hFc
              generalize H1 = H at hP hS ⊢
              have hP : va_P D vwCl [(h0, .inr (9, fs0)), (h1, .inl (T 6, 4, .inr (.inr (.inr (.inr (va_up (va_up (va_up (va_up (fun _ => none) 0 (some t0)) 1 (some t1)) 2 (some t2)) 3 (some t3))))))), (t0, .inr (6, [.int (-1), .int 0, .ref a00, .ref a01, .ref a02, .ref a03])), (t1, .inr (6, [.int (-1), .int 0, .ref a10, .ref a11, .ref a12, .ref a13])), (t2, .inr (6, [.int (-1), .int 0, .ref a20, .ref a21, .ref a22, .ref a23])), (a00, .inl (T 0, 30, .inl b00)), (a01, .inl (T 1, 30, .inr (.inl b01))), (a02, .inl (T 2, 30, .inr (.inr (.inl b02)))), (a03, .inl (T 3, 30, .inr (.inr (.inr (.inl b03))))), (a10, .inl (T 0, 30, .inl b10)), (a11, .inl (T 1, 30, .inr (.inl b11))), (a12, .inl (T 2, 30, .inr (.inr (.inl b12)))), (a13, .inl (T 3, 30, .inr (.inr (.inr (.inl b13))))), (a20, .inl (T 0, 30, .inl b20)), (a21, .inl (T 1, 30, .inr (.inl b21))), (a22, .inl (T 2, 30, .inr (.inr (.inl b22)))), (a23, .inl (T 3, 30, .inr (.inr (.inr (.inl b23)))))] H := hP
              have hD : va_D A [(h0, .inr (9, fs0)), (h1, .inl (T 6, 4, .inr (.inr (.inr (.inr (va_up (va_up (va_up (va_up (fun _ => none) 0 (some t0)) 1 (some t1)) 2 (some t2)) 3 (some t3))))))), (t0, .inr (6, [.int (-1), .int 0, .ref a00, .ref a01, .ref a02, .ref a03])), (t1, .inr (6, [.int (-1), .int 0, .ref a10, .ref a11, .ref a12, .ref a13])), (t2, .inr (6, [.int (-1), .int 0, .ref a20, .ref a21, .ref a22, .ref a23])), (a00, .inl (T 0, 30, .inl b00)), (a01, .inl (T 1, 30, .inr (.inl b01))), (a02, .inl (T 2, 30, .inr (.inr (.inl b02)))), (a03, .inl (T 3, 30, .inr (.inr (.inr (.inl b03))))), (a10, .inl (T 0, 30, .inl b10)), (a11, .inl (T 1, 30, .inr (.inl b11))), (a12, .inl (T 2, 30, .inr (.inr (.inl b12)))), (a13, .inl (T 3, 30, .inr (.inr (.inr (.inl b13))))), (a20, .inl (T 0, 30, .inl b20)), (a21, .inl (T 1, 30, .inr (.inl b21))), (a22, .inl (T 2, 30, .inr (.inr (.inl b22)))), (a23, .inl (T 3, 30, .inr (.inr (.inr (.inl b23)))))] := hD
              refine lv_iconst (v := 1) hx hb dX12_sheet_65 (by decide) ?_
              exact W.iret hx hb hr (fun t ht hW => ⟨⟨_, (), rfl, (by first | decide | (unfold sp_sheet; (repeat' split) <;> first | rfl | (exfalso; omega))), by rw [ht]; exact hP.sub [] rfl, hD.sub [] (by decide) rfl⟩, hS.F ht⟩) hS.2.2 dX12_sheet_66
          · rw [fa_le] at c_7
            try rw [ti_0] at c_7
            refine lv_bipush (v := (-14)) hx hb dX12_sheet_51 (by decide) ?_
            exact W.iret hx hb hr (fun t ht hW => ⟨⟨_, (), rfl, (by first | decide | (unfold sp_sheet; (repeat' split) <;> first | rfl | (exfalso; omega))), by rw [ht]; exact hP.sub [] rfl, hD.sub [] (by decide) rfl⟩, hS.F ht⟩) hS.2.2 dX12_sheet_53
        · rw [fa_le] at c_6
          try rw [ti_30] at c_6
          refine lv_bipush (v := (-2)) hx hb dX12_sheet_44 (by decide) ?_
          exact W.iret hx hb hr (fun t ht hW => ⟨⟨_, (), rfl, (by first | decide | (unfold sp_sheet; (repeat' split) <;> first | rfl | (exfalso; omega))), by rw [ht]; exact hP.sub [] rfl, hD.sub [] (by decide) rfl⟩, hS.F ht⟩) hS.2.2 dX12_sheet_46
      · rw [fa_eq] at c_5
        try rw [ti_n1] at c_5
        refine lv_aload_n hx hb dX12_sheet_26 rfl (lv_at hl 0 rfl) ?_
        refine va_get (D := D) (ci := 9) (v := .ref h1) (C := RX12) (T := TX12) (N := 11) hx hb hts in_X12_sheet_X12 hown hE.1 hP 0 rfl rfl 9 (by decide) (hts (.fieldLink RX12 65 "ClauseBook" "sheets" "[LClauseBook$Sheet;") (List.mem_of_getElem? (i := 1) rfl)) (fun _ h9 => h9) e0_9 dX12_sheet_27 ?_
        refine lv_iload_n hx hb dX12_sheet_30 rfl (lv_at hl 1 rfl) ?_
        rcases in4 (x := x1) (by omega) with rfl | rfl | rfl | rfl
        · refine va_aldq hx hb hE.1 hP 1 6 rfl rfl (by unfold vp_in; decide) dX12_sheet_31 ?_
          refine W.eq (g2 := F0 m 32 ls [.ref t0]) rfl ?_
          refine lv_iconst (v := (-1)) hx hb dX12_sheet_32 (by decide) ?_
          refine va_put (D := D) (ci := 6) (v := .int (-1)) (ty := .int) (C := RX9) (T := TX9) (N := 6) hx hb hts in_X12_sheet_X9 tyX9 tyX9_ok nmX9 hown hE.1 hP hD hS 2 rfl rfl 0 (by decide) (hts (.fieldLink RX12 277 "ClauseBook$Sheet" "sort" "I") (List.mem_of_getElem? (i := 2) rfl)) (fun _ h9 => h9) rfl (by decide +kernel) rfl rfl (Nat.le_of_ble_eq_true rfl) dX12_sheet_33 (fun H locs hP hD hS => ?_)
          have hP : va_P D vwCl [(h0, .inr (9, fs0)), (h1, .inl (T 6, 4, .inr (.inr (.inr (.inr (va_up (va_up (va_up (va_up (fun _ => none) 0 (some t0)) 1 (some t1)) 2 (some t2)) 3 (some t3))))))), (t0, .inr (6, [.int (-1), .int 0, .ref a00, .ref a01, .ref a02, .ref a03])), (t1, .inr (6, [.int (-1), .int 0, .ref a10, .ref a11, .ref a12, .ref a13])), (t2, .inr (6, [.int (-1), .int 0, .ref a20, .ref a21, .ref a22, .ref a23])), (t3, .inr (6, [.int (-1), .int 0, .ref a30, .ref a31, .ref a32, .ref a33])), (a00, .inl (T 0, 30, .inl b00)), (a01, .inl (T 1, 30, .inr (.inl b01))), (a02, .inl (T 2, 30, .inr (.inr (.inl b02)))), (a03, .inl (T 3, 30, .inr (.inr (.inr (.inl b03))))), (a10, .inl (T 0, 30, .inl b10)), (a11, .inl (T 1, 30, .inr (.inl b11))), (a12, .inl (T 2, 30, .inr (.inr (.inl b12)))), (a13, .inl (T 3, 30, .inr (.inr (.inr (.inl b13))))), (a20, .inl (T 0, 30, .inl b20)), (a21, .inl (T 1, 30, .inr (.inl b21))), (a22, .inl (T 2, 30, .inr (.inr (.inl b22)))), (a23, .inl (T 3, 30, .inr (.inr (.inr (.inl b23))))), (a30, .inl (T 0, 30, .inl b30)), (a31, .inl (T 1, 30, .inr (.inl b31))), (a32, .inl (T 2, 30, .inr (.inr (.inl b32)))), (a33, .inl (T 3, 30, .inr (.inr (.inr (.inl b33)))))] H := hP
          have hD : va_D A [(h0, .inr (9, fs0)), (h1, .inl (T 6, 4, .inr (.inr (.inr (.inr (va_up (va_up (va_up (va_up (fun _ => none) 0 (some t0)) 1 (some t1)) 2 (some t2)) 3 (some t3))))))), (t0, .inr (6, [.int (-1), .int 0, .ref a00, .ref a01, .ref a02, .ref a03])), (t1, .inr (6, [.int (-1), .int 0, .ref a10, .ref a11, .ref a12, .ref a13])), (t2, .inr (6, [.int (-1), .int 0, .ref a20, .ref a21, .ref a22, .ref a23])), (t3, .inr (6, [.int (-1), .int 0, .ref a30, .ref a31, .ref a32, .ref a33])), (a00, .inl (T 0, 30, .inl b00)), (a01, .inl (T 1, 30, .inr (.inl b01))), (a02, .inl (T 2, 30, .inr (.inr (.inl b02)))), (a03, .inl (T 3, 30, .inr (.inr (.inr (.inl b03))))), (a10, .inl (T 0, 30, .inl b10)), (a11, .inl (T 1, 30, .inr (.inl b11))), (a12, .inl (T 2, 30, .inr (.inr (.inl b12)))), (a13, .inl (T 3, 30, .inr (.inr (.inr (.inl b13))))), (a20, .inl (T 0, 30, .inl b20)), (a21, .inl (T 1, 30, .inr (.inl b21))), (a22, .inl (T 2, 30, .inr (.inr (.inl b22)))), (a23, .inl (T 3, 30, .inr (.inr (.inr (.inl b23))))), (a30, .inl (T 0, 30, .inl b30)), (a31, .inl (T 1, 30, .inr (.inl b31))), (a32, .inl (T 2, 30, .inr (.inr (.inl b32)))), (a33, .inl (T 3, 30, .inr (.inr (.inr (.inl b33)))))] := hD
          refine lv_iconst (v := 1) hx hb dX12_sheet_36 (by decide) ?_
          exact W.iret hx hb hr (fun t ht hW => ⟨⟨_, (), rfl, (by first | decide | (unfold sp_sheet; (repeat' split) <;> first | rfl | (exfalso; omega))), by rw [ht]; exact hP.sub [] rfl, hD.sub [] (by decide) rfl⟩, hS.F ht⟩) hS.2.2 dX12_sheet_37
        · refine va_aldq hx hb hE.1 hP 1 6 rfl rfl (by unfold vp_in; decide) dX12_sheet_31 ?_
          refine W.eq (g2 := F0 m 32 ls [.ref t1]) rfl ?_
          refine lv_iconst (v := (-1)) hx hb dX12_sheet_32 (by decide) ?_
          refine va_put (D := D) (ci := 6) (v := .int (-1)) (ty := .int) (C := RX9) (T := TX9) (N := 6) hx hb hts in_X12_sheet_X9 tyX9 tyX9_ok nmX9 hown hE.1 hP hD hS 3 rfl rfl 0 (by decide) (hts (.fieldLink RX12 277 "ClauseBook$Sheet" "sort" "I") (List.mem_of_getElem? (i := 2) rfl)) (fun _ h9 => h9) rfl (by decide +kernel) rfl rfl (Nat.le_of_ble_eq_true rfl) dX12_sheet_33 (fun H locs hP hD hS => ?_)
          have hP : va_P D vwCl [(h0, .inr (9, fs0)), (h1, .inl (T 6, 4, .inr (.inr (.inr (.inr (va_up (va_up (va_up (va_up (fun _ => none) 0 (some t0)) 1 (some t1)) 2 (some t2)) 3 (some t3))))))), (t0, .inr (6, [.int (-1), .int 0, .ref a00, .ref a01, .ref a02, .ref a03])), (t1, .inr (6, [.int (-1), .int 0, .ref a10, .ref a11, .ref a12, .ref a13])), (t2, .inr (6, [.int (-1), .int 0, .ref a20, .ref a21, .ref a22, .ref a23])), (t3, .inr (6, [.int (-1), .int 0, .ref a30, .ref a31, .ref a32, .ref a33])), (a00, .inl (T 0, 30, .inl b00)), (a01, .inl (T 1, 30, .inr (.inl b01))), (a02, .inl (T 2, 30, .inr (.inr (.inl b02)))), (a03, .inl (T 3, 30, .inr (.inr (.inr (.inl b03))))), (a10, .inl (T 0, 30, .inl b10)), (a11, .inl (T 1, 30, .inr (.inl b11))), (a12, .inl (T 2, 30, .inr (.inr (.inl b12)))), (a13, .inl (T 3, 30, .inr (.inr (.inr (.inl b13))))), (a20, .inl (T 0, 30, .inl b20)), (a21, .inl (T 1, 30, .inr (.inl b21))), (a22, .inl (T 2, 30, .inr (.inr (.inl b22)))), (a23, .inl (T 3, 30, .inr (.inr (.inr (.inl b23))))), (a30, .inl (T 0, 30, .inl b30)), (a31, .inl (T 1, 30, .inr (.inl b31))), (a32, .inl (T 2, 30, .inr (.inr (.inl b32)))), (a33, .inl (T 3, 30, .inr (.inr (.inr (.inl b33)))))] H := hP
          have hD : va_D A [(h0, .inr (9, fs0)), (h1, .inl (T 6, 4, .inr (.inr (.inr (.inr (va_up (va_up (va_up (va_up (fun _ => none) 0 (some t0)) 1 (some t1)) 2 (some t2)) 3 (some t3))))))), (t0, .inr (6, [.int (-1), .int 0, .ref a00, .ref a01, .ref a02, .ref a03])), (t1, .inr (6, [.int (-1), .int 0, .ref a10, .ref a11, .ref a12, .ref a13])), (t2, .inr (6, [.int (-1), .int 0, .ref a20, .ref a21, .ref a22, .ref a23])), (t3, .inr (6, [.int (-1), .int 0, .ref a30, .ref a31, .ref a32, .ref a33])), (a00, .inl (T 0, 30, .inl b00)), (a01, .inl (T 1, 30, .inr (.inl b01))), (a02, .inl (T 2, 30, .inr (.inr (.inl b02)))), (a03, .inl (T 3, 30, .inr (.inr (.inr (.inl b03))))), (a10, .inl (T 0, 30, .inl b10)), (a11, .inl (T 1, 30, .inr (.inl b11))), (a12, .inl (T 2, 30, .inr (.inr (.inl b12)))), (a13, .inl (T 3, 30, .inr (.inr (.inr (.inl b13))))), (a20, .inl (T 0, 30, .inl b20)), (a21, .inl (T 1, 30, .inr (.inl b21))), (a22, .inl (T 2, 30, .inr (.inr (.inl b22)))), (a23, .inl (T 3, 30, .inr (.inr (.inr (.inl b23))))), (a30, .inl (T 0, 30, .inl b30)), (a31, .inl (T 1, 30, .inr (.inl b31))), (a32, .inl (T 2, 30, .inr (.inr (.inl b32)))), (a33, .inl (T 3, 30, .inr (.inr (.inr (.inl b33)))))] := hD
          refine lv_iconst (v := 1) hx hb dX12_sheet_36 (by decide) ?_
          exact W.iret hx hb hr (fun t ht hW => ⟨⟨_, (), rfl, (by first | decide | (unfold sp_sheet; (repeat' split) <;> first | rfl | (exfalso; omega))), by rw [ht]; exact hP.sub [] rfl, hD.sub [] (by decide) rfl⟩, hS.F ht⟩) hS.2.2 dX12_sheet_37
        · refine va_aldq hx hb hE.1 hP 1 6 rfl rfl (by unfold vp_in; decide) dX12_sheet_31 ?_
          refine W.eq (g2 := F0 m 32 ls [.ref t2]) rfl ?_
          refine lv_iconst (v := (-1)) hx hb dX12_sheet_32 (by decide) ?_
          refine va_put (D := D) (ci := 6) (v := .int (-1)) (ty := .int) (C := RX9) (T := TX9) (N := 6) hx hb hts in_X12_sheet_X9 tyX9 tyX9_ok nmX9 hown hE.1 hP hD hS 4 rfl rfl 0 (by decide) (hts (.fieldLink RX12 277 "ClauseBook$Sheet" "sort" "I") (List.mem_of_getElem? (i := 2) rfl)) (fun _ h9 => h9) rfl (by decide +kernel) rfl rfl (Nat.le_of_ble_eq_true rfl) dX12_sheet_33 (fun H locs hP hD hS => ?_)
          have hP : va_P D vwCl [(h0, .inr (9, fs0)), (h1, .inl (T 6, 4, .inr (.inr (.inr (.inr (va_up (va_up (va_up (va_up (fun _ => none) 0 (some t0)) 1 (some t1)) 2 (some t2)) 3 (some t3))))))), (t0, .inr (6, [.int (-1), .int 0, .ref a00, .ref a01, .ref a02, .ref a03])), (t1, .inr (6, [.int (-1), .int 0, .ref a10, .ref a11, .ref a12, .ref a13])), (t2, .inr (6, [.int (-1), .int 0, .ref a20, .ref a21, .ref a22, .ref a23])), (t3, .inr (6, [.int (-1), .int 0, .ref a30, .ref a31, .ref a32, .ref a33])), (a00, .inl (T 0, 30, .inl b00)), (a01, .inl (T 1, 30, .inr (.inl b01))), (a02, .inl (T 2, 30, .inr (.inr (.inl b02)))), (a03, .inl (T 3, 30, .inr (.inr (.inr (.inl b03))))), (a10, .inl (T 0, 30, .inl b10)), (a11, .inl (T 1, 30, .inr (.inl b11))), (a12, .inl (T 2, 30, .inr (.inr (.inl b12)))), (a13, .inl (T 3, 30, .inr (.inr (.inr (.inl b13))))), (a20, .inl (T 0, 30, .inl b20)), (a21, .inl (T 1, 30, .inr (.inl b21))), (a22, .inl (T 2, 30, .inr (.inr (.inl b22)))), (a23, .inl (T 3, 30, .inr (.inr (.inr (.inl b23))))), (a30, .inl (T 0, 30, .inl b30)), (a31, .inl (T 1, 30, .inr (.inl b31))), (a32, .inl (T 2, 30, .inr (.inr (.inl b32)))), (a33, .inl (T 3, 30, .inr (.inr (.inr (.inl b33)))))] H := hP
          have hD : va_D A [(h0, .inr (9, fs0)), (h1, .inl (T 6, 4, .inr (.inr (.inr (.inr (va_up (va_up (va_up (va_up (fun _ => none) 0 (some t0)) 1 (some t1)) 2 (some t2)) 3 (some t3))))))), (t0, .inr (6, [.int (-1), .int 0, .ref a00, .ref a01, .ref a02, .ref a03])), (t1, .inr (6, [.int (-1), .int 0, .ref a10, .ref a11, .ref a12, .ref a13])), (t2, .inr (6, [.int (-1), .int 0, .ref a20, .ref a21, .ref a22, .ref a23])), (t3, .inr (6, [.int (-1), .int 0, .ref a30, .ref a31, .ref a32, .ref a33])), (a00, .inl (T 0, 30, .inl b00)), (a01, .inl (T 1, 30, .inr (.inl b01))), (a02, .inl (T 2, 30, .inr (.inr (.inl b02)))), (a03, .inl (T 3, 30, .inr (.inr (.inr (.inl b03))))), (a10, .inl (T 0, 30, .inl b10)), (a11, .inl (T 1, 30, .inr (.inl b11))), (a12, .inl (T 2, 30, .inr (.inr (.inl b12)))), (a13, .inl (T 3, 30, .inr (.inr (.inr (.inl b13))))), (a20, .inl (T 0, 30, .inl b20)), (a21, .inl (T 1, 30, .inr (.inl b21))), (a22, .inl (T 2, 30, .inr (.inr (.inl b22)))), (a23, .inl (T 3, 30, .inr (.inr (.inr (.inl b23))))), (a30, .inl (T 0, 30, .inl b30)), (a31, .inl (T 1, 30, .inr (.inl b31))), (a32, .inl (T 2, 30, .inr (.inr (.inl b32)))), (a33, .inl (T 3, 30, .inr (.inr (.inr (.inl b33)))))] := hD
          refine lv_iconst (v := 1) hx hb dX12_sheet_36 (by decide) ?_
          exact W.iret hx hb hr (fun t ht hW => ⟨⟨_, (), rfl, (by first | decide | (unfold sp_sheet; (repeat' split) <;> first | rfl | (exfalso; omega))), by rw [ht]; exact hP.sub [] rfl, hD.sub [] (by decide) rfl⟩, hS.F ht⟩) hS.2.2 dX12_sheet_37
        · refine va_aldq hx hb hE.1 hP 1 6 rfl rfl (by unfold vp_in; decide) dX12_sheet_31 ?_
          refine W.eq (g2 := F0 m 32 ls [.ref t3]) rfl ?_
          refine lv_iconst (v := (-1)) hx hb dX12_sheet_32 (by decide) ?_
          refine va_put (D := D) (ci := 6) (v := .int (-1)) (ty := .int) (C := RX9) (T := TX9) (N := 6) hx hb hts in_X12_sheet_X9 tyX9 tyX9_ok nmX9 hown hE.1 hP hD hS 5 rfl rfl 0 (by decide) (hts (.fieldLink RX12 277 "ClauseBook$Sheet" "sort" "I") (List.mem_of_getElem? (i := 2) rfl)) (fun _ h9 => h9) rfl (by decide +kernel) rfl rfl (Nat.le_of_ble_eq_true rfl) dX12_sheet_33 (fun H locs hP hD hS => ?_)
          have hP : va_P D vwCl [(h0, .inr (9, fs0)), (h1, .inl (T 6, 4, .inr (.inr (.inr (.inr (va_up (va_up (va_up (va_up (fun _ => none) 0 (some t0)) 1 (some t1)) 2 (some t2)) 3 (some t3))))))), (t0, .inr (6, [.int (-1), .int 0, .ref a00, .ref a01, .ref a02, .ref a03])), (t1, .inr (6, [.int (-1), .int 0, .ref a10, .ref a11, .ref a12, .ref a13])), (t2, .inr (6, [.int (-1), .int 0, .ref a20, .ref a21, .ref a22, .ref a23])), (t3, .inr (6, [.int (-1), .int 0, .ref a30, .ref a31, .ref a32, .ref a33])), (a00, .inl (T 0, 30, .inl b00)), (a01, .inl (T 1, 30, .inr (.inl b01))), (a02, .inl (T 2, 30, .inr (.inr (.inl b02)))), (a03, .inl (T 3, 30, .inr (.inr (.inr (.inl b03))))), (a10, .inl (T 0, 30, .inl b10)), (a11, .inl (T 1, 30, .inr (.inl b11))), (a12, .inl (T 2, 30, .inr (.inr (.inl b12)))), (a13, .inl (T 3, 30, .inr (.inr (.inr (.inl b13))))), (a20, .inl (T 0, 30, .inl b20)), (a21, .inl (T 1, 30, .inr (.inl b21))), (a22, .inl (T 2, 30, .inr (.inr (.inl b22)))), (a23, .inl (T 3, 30, .inr (.inr (.inr (.inl b23))))), (a30, .inl (T 0, 30, .inl b30)), (a31, .inl (T 1, 30, .inr (.inl b31))), (a32, .inl (T 2, 30, .inr (.inr (.inl b32)))), (a33, .inl (T 3, 30, .inr (.inr (.inr (.inl b33)))))] H := hP
          have hD : va_D A [(h0, .inr (9, fs0)), (h1, .inl (T 6, 4, .inr (.inr (.inr (.inr (va_up (va_up (va_up (va_up (fun _ => none) 0 (some t0)) 1 (some t1)) 2 (some t2)) 3 (some t3))))))), (t0, .inr (6, [.int (-1), .int 0, .ref a00, .ref a01, .ref a02, .ref a03])), (t1, .inr (6, [.int (-1), .int 0, .ref a10, .ref a11, .ref a12, .ref a13])), (t2, .inr (6, [.int (-1), .int 0, .ref a20, .ref a21, .ref a22, .ref a23])), (t3, .inr (6, [.int (-1), .int 0, .ref a30, .ref a31, .ref a32, .ref a33])), (a00, .inl (T 0, 30, .inl b00)), (a01, .inl (T 1, 30, .inr (.inl b01))), (a02, .inl (T 2, 30, .inr (.inr (.inl b02)))), (a03, .inl (T 3, 30, .inr (.inr (.inr (.inl b03))))), (a10, .inl (T 0, 30, .inl b10)), (a11, .inl (T 1, 30, .inr (.inl b11))), (a12, .inl (T 2, 30, .inr (.inr (.inl b12)))), (a13, .inl (T 3, 30, .inr (.inr (.inr (.inl b13))))), (a20, .inl (T 0, 30, .inl b20)), (a21, .inl (T 1, 30, .inr (.inl b21))), (a22, .inl (T 2, 30, .inr (.inr (.inl b22)))), (a23, .inl (T 3, 30, .inr (.inr (.inr (.inl b23))))), (a30, .inl (T 0, 30, .inl b30)), (a31, .inl (T 1, 30, .inr (.inl b31))), (a32, .inl (T 2, 30, .inr (.inr (.inl b32)))), (a33, .inl (T 3, 30, .inr (.inr (.inr (.inl b33)))))] := hD
          refine lv_iconst (v := 1) hx hb dX12_sheet_36 (by decide) ?_
          exact W.iret hx hb hr (fun t ht hW => ⟨⟨_, (), rfl, (by first | decide | (unfold sp_sheet; (repeat' split) <;> first | rfl | (exfalso; omega))), by rw [ht]; exact hP.sub [] rfl, hD.sub [] (by decide) rfl⟩, hS.F ht⟩) hS.2.2 dX12_sheet_37
    · refine lv_if_ne (tgt := 21) hx hb dX12_sheet_15 (by decide) (fun c9 => absurd c9 (by decide)) (fun _ => ?_)
      refine lv_bipush (v := (-2)) hx hb dX12_sheet_18 (by decide) ?_
      exact W.iret hx hb hr (fun t ht hW => ⟨⟨_, (), rfl, (by first | decide | (unfold sp_sheet; (repeat' split) <;> first | rfl | (exfalso; omega))), by rw [ht]; exact hP.sub [] rfl, hD.sub [] (by decide) rfl⟩, hS.F ht⟩) hS.2.2 dX12_sheet_20
  · refine lv_if_eq (tgt := 18) hx hb dX12_sheet_6 (by decide) (fun _ => ?_) (fun c9 => absurd c9 (by decide))
    refine lv_bipush (v := (-2)) hx hb dX12_sheet_18 (by decide) ?_
    exact W.iret hx hb hr (fun t ht hW => ⟨⟨_, (), rfl, (by first | decide | (unfold sp_sheet; (repeat' split) <;> first | rfl | (exfalso; omega))), by rw [ht]; exact hP.sub [] rfl, hD.sub [] (by decide) rfl⟩, hS.F ht⟩) hS.2.2 dX12_sheet_20
theorem ti_200 : (200 : Int32).toInt = 200 := by decide
theorem nmin {x : Int64} (h : x.toInt ≠ -9223372036854775808) : True := trivial
theorem dX11_reduce_0 : decode cX11_reduce 0 = .ok (.aload_n 0, 1) := by decide +kernel
theorem dX11_reduce_1 : decode cX11_reduce 1 = .ok (.getfield 11, 3) := by decide +kernel
theorem dX11_reduce_101 : decode cX11_reduce 101 = .ok (.ldiv, 1) := by decide +kernel
theorem dX11_reduce_102 : decode cX11_reduce 102 = .ok (.lastore, 1) := by decide +kernel
theorem dX11_reduce_103 : decode cX11_reduce 103 = .ok (.return_, 1) := by decide +kernel
theorem dX11_reduce_11 : decode cX11_reduce 11 = .ok (.iload_n 1, 1) := by decide +kernel
theorem dX11_reduce_12 : decode cX11_reduce 12 = .ok (.lconst 0, 1) := by decide +kernel
theorem dX11_reduce_13 : decode cX11_reduce 13 = .ok (.lastore, 1) := by decide +kernel
theorem dX11_reduce_14 : decode cX11_reduce 14 = .ok (.lload 4, 2) := by decide +kernel
theorem dX11_reduce_16 : decode cX11_reduce 16 = .ok (.lconst 0, 1) := by decide +kernel
theorem dX11_reduce_17 : decode cX11_reduce 17 = .ok (.lcmp, 1) := by decide +kernel
theorem dX11_reduce_18 : decode cX11_reduce 18 = .ok (.ifCond .gt 4, 3) := by decide +kernel
theorem dX11_reduce_21 : decode cX11_reduce 21 = .ok (.return_, 1) := by decide +kernel
theorem dX11_reduce_22 : decode cX11_reduce 22 = .ok (.lload 4, 2) := by decide +kernel
theorem dX11_reduce_24 : decode cX11_reduce 24 = .ok (.lstore 6, 2) := by decide +kernel
theorem dX11_reduce_26 : decode cX11_reduce 26 = .ok (.lload_n 2, 1) := by decide +kernel
theorem dX11_reduce_27 : decode cX11_reduce 27 = .ok (.lload 4, 2) := by decide +kernel
theorem dX11_reduce_29 : decode cX11_reduce 29 = .ok (.lrem, 1) := by decide +kernel
theorem dX11_reduce_30 : decode cX11_reduce 30 = .ok (.invokestatic 154, 3) := by decide +kernel
theorem dX11_reduce_33 : decode cX11_reduce 33 = .ok (.lstore 8, 2) := by decide +kernel
theorem dX11_reduce_35 : decode cX11_reduce 35 = .ok (.iconst 0, 1) := by decide +kernel
theorem dX11_reduce_36 : decode cX11_reduce 36 = .ok (.istore 10, 2) := by decide +kernel
theorem dX11_reduce_38 : decode cX11_reduce 38 = .ok (.iload 10, 2) := by decide +kernel
theorem dX11_reduce_4 : decode cX11_reduce 4 = .ok (.iload_n 1, 1) := by decide +kernel
theorem dX11_reduce_40 : decode cX11_reduce 40 = .ok (.sipush 200, 3) := by decide +kernel
theorem dX11_reduce_43 : decode cX11_reduce 43 = .ok (.if_icmp .ge 31, 3) := by decide +kernel
theorem dX11_reduce_46 : decode cX11_reduce 46 = .ok (.lload 8, 2) := by decide +kernel
theorem dX11_reduce_48 : decode cX11_reduce 48 = .ok (.lconst 0, 1) := by decide +kernel
theorem dX11_reduce_49 : decode cX11_reduce 49 = .ok (.lcmp, 1) := by decide +kernel
theorem dX11_reduce_5 : decode cX11_reduce 5 = .ok (.lconst 0, 1) := by decide +kernel
theorem dX11_reduce_50 : decode cX11_reduce 50 = .ok (.ifCond .eq 24, 3) := by decide +kernel
theorem dX11_reduce_53 : decode cX11_reduce 53 = .ok (.lload 6, 2) := by decide +kernel
theorem dX11_reduce_55 : decode cX11_reduce 55 = .ok (.lload 8, 2) := by decide +kernel
theorem dX11_reduce_57 : decode cX11_reduce 57 = .ok (.lrem, 1) := by decide +kernel
theorem dX11_reduce_58 : decode cX11_reduce 58 = .ok (.lstore 11, 2) := by decide +kernel
theorem dX11_reduce_6 : decode cX11_reduce 6 = .ok (.lastore, 1) := by decide +kernel
theorem dX11_reduce_60 : decode cX11_reduce 60 = .ok (.lload 8, 2) := by decide +kernel
theorem dX11_reduce_62 : decode cX11_reduce 62 = .ok (.lstore 6, 2) := by decide +kernel
theorem dX11_reduce_64 : decode cX11_reduce 64 = .ok (.lload 11, 2) := by decide +kernel
theorem dX11_reduce_66 : decode cX11_reduce 66 = .ok (.lstore 8, 2) := by decide +kernel
theorem dX11_reduce_68 : decode cX11_reduce 68 = .ok (.iinc 10 1, 3) := by decide +kernel
theorem dX11_reduce_7 : decode cX11_reduce 7 = .ok (.aload_n 0, 1) := by decide +kernel
theorem dX11_reduce_71 : decode cX11_reduce 71 = .ok (.goto (-33), 3) := by decide +kernel
theorem dX11_reduce_74 : decode cX11_reduce 74 = .ok (.lload 6, 2) := by decide +kernel
theorem dX11_reduce_76 : decode cX11_reduce 76 = .ok (.lconst 0, 1) := by decide +kernel
theorem dX11_reduce_77 : decode cX11_reduce 77 = .ok (.lcmp, 1) := by decide +kernel
theorem dX11_reduce_78 : decode cX11_reduce 78 = .ok (.ifCond .ne 4, 3) := by decide +kernel
theorem dX11_reduce_8 : decode cX11_reduce 8 = .ok (.getfield 15, 3) := by decide +kernel
theorem dX11_reduce_81 : decode cX11_reduce 81 = .ok (.return_, 1) := by decide +kernel
theorem dX11_reduce_82 : decode cX11_reduce 82 = .ok (.aload_n 0, 1) := by decide +kernel
theorem dX11_reduce_83 : decode cX11_reduce 83 = .ok (.getfield 11, 3) := by decide +kernel
theorem dX11_reduce_86 : decode cX11_reduce 86 = .ok (.iload_n 1, 1) := by decide +kernel
theorem dX11_reduce_87 : decode cX11_reduce 87 = .ok (.lload_n 2, 1) := by decide +kernel
theorem dX11_reduce_88 : decode cX11_reduce 88 = .ok (.lload 6, 2) := by decide +kernel
theorem dX11_reduce_90 : decode cX11_reduce 90 = .ok (.ldiv, 1) := by decide +kernel
theorem dX11_reduce_91 : decode cX11_reduce 91 = .ok (.lastore, 1) := by decide +kernel
theorem dX11_reduce_92 : decode cX11_reduce 92 = .ok (.aload_n 0, 1) := by decide +kernel
theorem dX11_reduce_93 : decode cX11_reduce 93 = .ok (.getfield 15, 3) := by decide +kernel
theorem dX11_reduce_96 : decode cX11_reduce 96 = .ok (.iload_n 1, 1) := by decide +kernel
theorem dX11_reduce_97 : decode cX11_reduce 97 = .ok (.lload 4, 2) := by decide +kernel
theorem dX11_reduce_99 : decode cX11_reduce 99 = .ok (.lload 6, 2) := by decide +kernel
set_option maxRecDepth 20000 in
theorem in_X11_reduce_X11 : ∀ w ∈ wsX110, w ∈ wsX11_reduce := by decide +kernel
set_option maxHeartbeats 4000000 in
set_option maxRecDepth 100000 in
theorem f_X11_reduce (l : Launch) (D : va_G) (T : Nat → ClassId) (sz : Nat) (h0 : Nat) (p0 : Nat) (p1 : Nat) (v0 : Value) (v1 : Value) (v4 : Value) (n : Int32) (f0 : Nat → Int64) (f1 : Nat → Int64) (x2 : Int64) (x3 : Int64)  : Met l yX11_reduce wsX11_reduce ({ frames := 1, cells := 0, slots := 0, locals := 40 }) (pW [.ref h0, .int 675, .long x2, .long x3] D T [(h0, .inr (8, [v0, v1, .ref p0, .ref p1, v4, .int n])), (p0, .inl (T 1, 676, .inr (.inl f0))), (p1, .inl (T 1, 676, .inr (.inl f1)))] sz) (va_Qv (fun (u : (Nat → Int64) × (Nat → Int64)) => True) (bW D (va_A [(h0, .inr (8, [v0, v1, .ref p0, .ref p1, v4, .int n])), (p0, .inl (T 1, 676, .inr (.inl f0))), (p1, .inl (T 1, 676, .inr (.inl f1)))] sz) (fun (u : (Nat → Int64) × (Nat → Int64)) => [(h0, .inr (8, [v0, v1, .ref p0, .ref p1, v4, .int n])), (p0, .inl (T 1, 676, .inr (.inl u.1))), (p1, .inl (T 1, 676, .inr (.inl u.2)))])) (va_A [(h0, .inr (8, [v0, v1, .ref p0, .ref p1, v4, .int n])), (p0, .inl (T 1, 676, .inr (.inl f0))), (p1, .inl (T 1, 676, .inr (.inl f1)))] sz)) 0 0 (va_A [(h0, .inr (8, [v0, v1, .ref p0, .ref p1, v4, .int n])), (p0, .inl (T 1, 676, .inr (.inl f0))), (p1, .inl (T 1, 676, .inr (.inl f1)))] sz) := by
  refine Met.ofW (cc := cX11_reduce) (maxL := 13) (ret := none) (by decide) rfl ?_
  intro p e s m args below meth c s₁ B hml hv
  obtain ⟨rfl, hsz, hP, hE, hD0⟩ := hv
  have hx := B.exec
  have hb := B.bytes
  have hr := B.returns
  have hts := atoms_spec (ws := wsX11_reduce) B.pre
  have hown : s.vm.findClass RX11 = some m.cls := findClass_of_methodNamed B.named
  have hlocks := B.notSynchronized
  subst hsz
  have hD := hD0.self (sz := s.heap.size)
  generalize hAe : va_A [(h0, .inr (8, [v0, v1, .ref p0, .ref p1, v4, .int n])), (p0, .inl (T 1, 676, .inr (.inl f0))), (p1, .inl (T 1, 676, .inr (.inl f1)))] s.heap.size = A at hD ⊢
  have hA : ∀ q : Nat, s.heap.size ≤ q → A q := fun q h => by rw [← hAe]; exact Or.inr h
  have hS : va_S A s.heap s.heap [] := va_S.rf
  have hP : va_P D vwCl [(h0, .inr (8, [v0, v1, .ref p0, .ref p1, v4, .int n])), (p0, .inl (T 1, 676, .inr (.inl f0))), (p1, .inl (T 1, 676, .inr (.inl f1)))] s.heap := hP
  have hl := lv_entry ([.ref h0, .int 675, .long x2, .long x3]) (n := 13) (Nat.le_of_ble_eq_true rfl)
  rw [lg_entry_eq]
  generalize (lg_sl ([.ref h0, .int 675, .long x2, .long x3]) ++ List.replicate (13 - (lg_sl ([.ref h0, .int 675, .long x2, .long x3])).length) Slot.unset).toArray = ls at hl ⊢
  have hl : lv_has ls 13 [(0, .ref h0), (1, .int 675), (2, .long x2), (4, .long x3)] := hl
  clear hD0
  refine lv_aload_n hx hb dX11_reduce_0 rfl (lv_at hl 0 rfl) ?_
  refine va_get (D := D) (ci := 8) (v := .ref p0) (C := RX11) (T := TX11) (N := 6) hx hb hts in_X11_reduce_X11 hown hE.1 hP 0 rfl rfl 2 (by decide) (hts (.fieldLink RX11 11 "ClauseBook$Worth" "above" "[J") (List.mem_of_getElem? (i := 1) rfl)) (fun _ h9 => h9) rfl dX11_reduce_1 ?_
  refine lv_iload_n hx hb dX11_reduce_4 rfl (lv_at hl 1 rfl) ?_
  refine lv_lconst (v := 0) hx hb dX11_reduce_5 (by decide) ?_
  refine va_last hx hb hE.1 hP hD hS 1 1 rfl rfl (by unfold vp_in; decide) dX11_reduce_6 (fun H locs hP hD hS => ?_)
  have hP : va_P D vwCl [(h0, .inr (8, [v0, v1, .ref p0, .ref p1, v4, .int n])), (p0, .inl (T 1, 676, .inr (.inl (vp_updL f0 675 0)))), (p1, .inl (T 1, 676, .inr (.inl f1)))] H := hP
  have hD : va_D A [(h0, .inr (8, [v0, v1, .ref p0, .ref p1, v4, .int n])), (p0, .inl (T 1, 676, .inr (.inl (vp_updL f0 675 0)))), (p1, .inl (T 1, 676, .inr (.inl f1)))] := hD
  refine lv_aload_n hx hb dX11_reduce_7 rfl (lv_at hl 0 rfl) ?_
  refine va_get (D := D) (ci := 8) (v := .ref p1) (C := RX11) (T := TX11) (N := 6) hx hb hts in_X11_reduce_X11 hown hE.1 hP 0 rfl rfl 3 (by decide) (hts (.fieldLink RX11 15 "ClauseBook$Worth" "below" "[J") (List.mem_of_getElem? (i := 2) rfl)) (fun _ h9 => h9) rfl dX11_reduce_8 ?_
  refine lv_iload_n hx hb dX11_reduce_11 rfl (lv_at hl 1 rfl) ?_
  refine lv_lconst (v := 0) hx hb dX11_reduce_12 (by decide) ?_
  refine va_last hx hb hE.1 hP hD hS 2 1 rfl rfl (by unfold vp_in; decide) dX11_reduce_13 (fun H locs hP hD hS => ?_)
  have hP : va_P D vwCl [(h0, .inr (8, [v0, v1, .ref p0, .ref p1, v4, .int n])), (p0, .inl (T 1, 676, .inr (.inl (vp_updL f0 675 0)))), (p1, .inl (T 1, 676, .inr (.inl (vp_updL f1 675 0))))] H := hP
  have hD : va_D A [(h0, .inr (8, [v0, v1, .ref p0, .ref p1, v4, .int n])), (p0, .inl (T 1, 676, .inr (.inl (vp_updL f0 675 0)))), (p1, .inl (T 1, 676, .inr (.inl (vp_updL f1 675 0))))] := hD
  refine lv_lload hx hb dX11_reduce_14 (lv_at hl 3 rfl) ?_
  refine lv_lconst (v := 0) hx hb dX11_reduce_16 (by decide) ?_
  refine W.lcmp hx hb dX11_reduce_17 ?_
  refine lv_if_gt (tgt := 22) hx hb dX11_reduce_18 (by decide) (fun c_1 => ?_) (fun c_1 => ?_)
  · rw [lcmp_gt] at c_1
    try rw [tl_0] at c_1
    refine lv_lload hx hb dX11_reduce_22 (lv_at hl 3 rfl) ?_
    refine lv_lstore (lv' := [(6, .long x3), (0, .ref h0), (1, .int 675), (2, .long x2), (4, .long x3)]) hx hb dX11_reduce_24 hl (by decide) rfl (fun ls hl => ?_)
    refine lv_lload_n hx hb dX11_reduce_26 rfl (lv_at hl 3 rfl) ?_
    refine lv_lload hx hb dX11_reduce_27 (lv_at hl 4 rfl) ?_
    refine lv_lrem hx hb dX11_reduce_29 (nz64 (by omega)) ?_
    refine va_mabs_long hx hb (hml.trans hl.1.symm) hown (hts (.methodLink RX11 154 Lib.MathLoose.abs_long.x) (List.mem_of_getElem? (i := 3) rfl)) (hts (.static Lib.MathLoose.abs_long.x) (List.mem_of_getElem? (i := 4) rfl)) (hts (.initialized "java/lang/Math") (List.mem_of_getElem? (i := 5) rfl)) (hts (.code Lib.MathLoose.abs_long.x Lib.MathLoose.abs_long.code 2 (some .long)) (List.mem_of_getElem? (i := 6) rfl)) (Nat.le_of_ble_eq_true rfl) (Nat.le_of_ble_eq_true rfl) (Nat.le_of_ble_eq_true rfl) (Nat.le_of_ble_eq_true rfl) dX11_reduce_30 ?_
    refine lv_topl (fun z_2 ez_2 => ?_)
    refine lv_lstore (lv' := [(8, .long z_2), (6, .long x3), (0, .ref h0), (1, .int 675), (2, .long x2), (4, .long x3)]) hx hb dX11_reduce_33 hl (by decide) rfl (fun ls hl => ?_)
    refine lv_iconst (v := 0) hx hb dX11_reduce_35 (by decide) ?_
    refine lv_istore (lv' := [(10, .int 0), (8, .long z_2), (6, .long x3), (0, .ref h0), (1, .int 675), (2, .long x2), (4, .long x3)]) hx hb dX11_reduce_36 hl (by decide) rfl (fun ls hl => ?_)
    refine loopR (σ := (Int32) × (Int64) × (Int64)) (fun x9 ls => lv_has ls 13 [(10, .int x9.1), (6, .long x9.2.1), (8, .long x9.2.2), (0, .ref h0), (1, .int 675), (2, .long x2), (4, .long x3)] ∧ (True)) (fun x9 => (200 - x9.1.toInt).toNat) (fun x9 ls hI ih => ?_) (0, x3, z_2) ls ⟨lv_sub hl [0, 2, 1, 3, 4, 5, 6] rfl, trivial⟩
    obtain ⟨ii, cm, rs⟩ := x9
    obtain ⟨hl, hinv⟩ := hI
    have hl : lv_has ls 13 [(10, .int ii), (6, .long cm), (8, .long rs), (0, .ref h0), (1, .int 675), (2, .long x2), (4, .long x3)] := hl
    have hinv : True := hinv
    refine lv_iload hx hb dX11_reduce_38 (lv_at hl 0 rfl) ?_
    refine lv_sipush (v := 200) hx hb dX11_reduce_40 (by decide) ?_
    refine lv_icmp_ge (tgt := 74) hx hb dX11_reduce_43 (by decide) (fun c_3 => ?_) (fun c_3 => ?_)
    · rw [fa_le] at c_3
      try rw [ti_200] at c_3
      refine lv_lload hx hb dX11_reduce_74 (lv_at hl 1 rfl) ?_
      refine lv_lconst (v := 0) hx hb dX11_reduce_76 (by decide) ?_
      refine W.lcmp hx hb dX11_reduce_77 ?_
      refine lv_if_ne (tgt := 82) hx hb dX11_reduce_78 (by decide) (fun c_4 => ?_) (fun c_4 => ?_)
      · rw [lcmp_eq] at c_4
        try rw [tl_0] at c_4
        refine lv_aload_n hx hb dX11_reduce_82 rfl (lv_at hl 3 rfl) ?_
        refine va_get (D := D) (ci := 8) (v := .ref p0) (C := RX11) (T := TX11) (N := 6) hx hb hts in_X11_reduce_X11 hown hE.1 hP 0 rfl rfl 2 (by decide) (hts (.fieldLink RX11 11 "ClauseBook$Worth" "above" "[J") (List.mem_of_getElem? (i := 1) rfl)) (fun _ h9 => h9) rfl dX11_reduce_83 ?_
        refine lv_iload_n hx hb dX11_reduce_86 rfl (lv_at hl 4 rfl) ?_
        refine lv_lload_n hx hb dX11_reduce_87 rfl (lv_at hl 5 rfl) ?_
        refine lv_lload hx hb dX11_reduce_88 (lv_at hl 1 rfl) ?_
        refine lv_ldiv hx hb dX11_reduce_90 (nz64 (by omega)) ?_
        refine va_last hx hb hE.1 hP hD hS 1 1 rfl rfl (by unfold vp_in; decide) dX11_reduce_91 (fun H locs hP hD hS => ?_)
        have hP : va_P D vwCl [(h0, .inr (8, [v0, v1, .ref p0, .ref p1, v4, .int n])), (p0, .inl (T 1, 676, .inr (.inl (vp_updL (vp_updL f0 675 0) 675 (x2 / cm))))), (p1, .inl (T 1, 676, .inr (.inl (vp_updL f1 675 0))))] H := hP
        have hD : va_D A [(h0, .inr (8, [v0, v1, .ref p0, .ref p1, v4, .int n])), (p0, .inl (T 1, 676, .inr (.inl (vp_updL (vp_updL f0 675 0) 675 (x2 / cm))))), (p1, .inl (T 1, 676, .inr (.inl (vp_updL f1 675 0))))] := hD
        refine lv_aload_n hx hb dX11_reduce_92 rfl (lv_at hl 3 rfl) ?_
        refine va_get (D := D) (ci := 8) (v := .ref p1) (C := RX11) (T := TX11) (N := 6) hx hb hts in_X11_reduce_X11 hown hE.1 hP 0 rfl rfl 3 (by decide) (hts (.fieldLink RX11 15 "ClauseBook$Worth" "below" "[J") (List.mem_of_getElem? (i := 2) rfl)) (fun _ h9 => h9) rfl dX11_reduce_93 ?_
        refine lv_iload_n hx hb dX11_reduce_96 rfl (lv_at hl 4 rfl) ?_
        refine lv_lload hx hb dX11_reduce_97 (lv_at hl 6 rfl) ?_
        refine lv_lload hx hb dX11_reduce_99 (lv_at hl 1 rfl) ?_
        refine lv_ldiv hx hb dX11_reduce_101 (nz64 (by omega)) ?_
        refine va_last hx hb hE.1 hP hD hS 2 1 rfl rfl (by unfold vp_in; decide) dX11_reduce_102 (fun H locs hP hD hS => ?_)
        have hP : va_P D vwCl [(h0, .inr (8, [v0, v1, .ref p0, .ref p1, v4, .int n])), (p0, .inl (T 1, 676, .inr (.inl (vp_updL (vp_updL f0 675 0) 675 (x2 / cm))))), (p1, .inl (T 1, 676, .inr (.inl (vp_updL (vp_updL f1 675 0) 675 (x3 / cm)))))] H := hP
        have hD : va_D A [(h0, .inr (8, [v0, v1, .ref p0, .ref p1, v4, .int n])), (p0, .inl (T 1, 676, .inr (.inl (vp_updL (vp_updL f0 675 0) 675 (x2 / cm))))), (p1, .inl (T 1, 676, .inr (.inl (vp_updL (vp_updL f1 675 0) 675 (x3 / cm)))))] := hD
        exact W.vret hx hb hr (fun t ht hW => ⟨⟨((vp_updL (vp_updL f0 675 0) 675 (x2 / cm)), (vp_updL (vp_updL f1 675 0) 675 (x3 / cm))), rfl, trivial, by rw [ht]; exact hP.sub [0, 1, 2] rfl, hD.sub [0, 1, 2] (by decide) rfl⟩, hS.F ht⟩) hS.2.2 dX11_reduce_103
      · rw [lcmp_eq] at c_4
        try rw [tl_0] at c_4
        exact W.vret hx hb hr (fun t ht hW => ⟨⟨((vp_updL f0 675 0), (vp_updL f1 675 0)), rfl, trivial, by rw [ht]; exact hP.sub [0, 1, 2] rfl, hD.sub [0, 1, 2] (by decide) rfl⟩, hS.F ht⟩) hS.2.2 dX11_reduce_81
    · rw [fa_le] at c_3
      try rw [ti_200] at c_3
      refine lv_lload hx hb dX11_reduce_46 (lv_at hl 2 rfl) ?_
      refine lv_lconst (v := 0) hx hb dX11_reduce_48 (by decide) ?_
      refine W.lcmp hx hb dX11_reduce_49 ?_
      refine lv_if_eq (tgt := 74) hx hb dX11_reduce_50 (by decide) (fun c_5 => ?_) (fun c_5 => ?_)
      · rw [lcmp_eq] at c_5
        try rw [tl_0] at c_5
        refine lv_lload hx hb dX11_reduce_74 (lv_at hl 1 rfl) ?_
        refine lv_lconst (v := 0) hx hb dX11_reduce_76 (by decide) ?_
        refine W.lcmp hx hb dX11_reduce_77 ?_
        refine lv_if_ne (tgt := 82) hx hb dX11_reduce_78 (by decide) (fun c_6 => ?_) (fun c_6 => ?_)
        · rw [lcmp_eq] at c_6
          try rw [tl_0] at c_6
          refine lv_aload_n hx hb dX11_reduce_82 rfl (lv_at hl 3 rfl) ?_
          refine va_get (D := D) (ci := 8) (v := .ref p0) (C := RX11) (T := TX11) (N := 6) hx hb hts in_X11_reduce_X11 hown hE.1 hP 0 rfl rfl 2 (by decide) (hts (.fieldLink RX11 11 "ClauseBook$Worth" "above" "[J") (List.mem_of_getElem? (i := 1) rfl)) (fun _ h9 => h9) rfl dX11_reduce_83 ?_
          refine lv_iload_n hx hb dX11_reduce_86 rfl (lv_at hl 4 rfl) ?_
          refine lv_lload_n hx hb dX11_reduce_87 rfl (lv_at hl 5 rfl) ?_
          refine lv_lload hx hb dX11_reduce_88 (lv_at hl 1 rfl) ?_
          refine lv_ldiv hx hb dX11_reduce_90 (nz64 (by omega)) ?_
          refine va_last hx hb hE.1 hP hD hS 1 1 rfl rfl (by unfold vp_in; decide) dX11_reduce_91 (fun H locs hP hD hS => ?_)
          have hP : va_P D vwCl [(h0, .inr (8, [v0, v1, .ref p0, .ref p1, v4, .int n])), (p0, .inl (T 1, 676, .inr (.inl (vp_updL (vp_updL f0 675 0) 675 (x2 / cm))))), (p1, .inl (T 1, 676, .inr (.inl (vp_updL f1 675 0))))] H := hP
          have hD : va_D A [(h0, .inr (8, [v0, v1, .ref p0, .ref p1, v4, .int n])), (p0, .inl (T 1, 676, .inr (.inl (vp_updL (vp_updL f0 675 0) 675 (x2 / cm))))), (p1, .inl (T 1, 676, .inr (.inl (vp_updL f1 675 0))))] := hD
          refine lv_aload_n hx hb dX11_reduce_92 rfl (lv_at hl 3 rfl) ?_
          refine va_get (D := D) (ci := 8) (v := .ref p1) (C := RX11) (T := TX11) (N := 6) hx hb hts in_X11_reduce_X11 hown hE.1 hP 0 rfl rfl 3 (by decide) (hts (.fieldLink RX11 15 "ClauseBook$Worth" "below" "[J") (List.mem_of_getElem? (i := 2) rfl)) (fun _ h9 => h9) rfl dX11_reduce_93 ?_
          refine lv_iload_n hx hb dX11_reduce_96 rfl (lv_at hl 4 rfl) ?_
          refine lv_lload hx hb dX11_reduce_97 (lv_at hl 6 rfl) ?_
          refine lv_lload hx hb dX11_reduce_99 (lv_at hl 1 rfl) ?_
          refine lv_ldiv hx hb dX11_reduce_101 (nz64 (by omega)) ?_
          refine va_last hx hb hE.1 hP hD hS 2 1 rfl rfl (by unfold vp_in; decide) dX11_reduce_102 (fun H locs hP hD hS => ?_)
          have hP : va_P D vwCl [(h0, .inr (8, [v0, v1, .ref p0, .ref p1, v4, .int n])), (p0, .inl (T 1, 676, .inr (.inl (vp_updL (vp_updL f0 675 0) 675 (x2 / cm))))), (p1, .inl (T 1, 676, .inr (.inl (vp_updL (vp_updL f1 675 0) 675 (x3 / cm)))))] H := hP
          have hD : va_D A [(h0, .inr (8, [v0, v1, .ref p0, .ref p1, v4, .int n])), (p0, .inl (T 1, 676, .inr (.inl (vp_updL (vp_updL f0 675 0) 675 (x2 / cm))))), (p1, .inl (T 1, 676, .inr (.inl (vp_updL (vp_updL f1 675 0) 675 (x3 / cm)))))] := hD
          exact W.vret hx hb hr (fun t ht hW => ⟨⟨((vp_updL (vp_updL f0 675 0) 675 (x2 / cm)), (vp_updL (vp_updL f1 675 0) 675 (x3 / cm))), rfl, trivial, by rw [ht]; exact hP.sub [0, 1, 2] rfl, hD.sub [0, 1, 2] (by decide) rfl⟩, hS.F ht⟩) hS.2.2 dX11_reduce_103
        · rw [lcmp_eq] at c_6
          try rw [tl_0] at c_6
          exact W.vret hx hb hr (fun t ht hW => ⟨⟨((vp_updL f0 675 0), (vp_updL f1 675 0)), rfl, trivial, by rw [ht]; exact hP.sub [0, 1, 2] rfl, hD.sub [0, 1, 2] (by decide) rfl⟩, hS.F ht⟩) hS.2.2 dX11_reduce_81
      · rw [lcmp_eq] at c_5
        try rw [tl_0] at c_5
        refine lv_lload hx hb dX11_reduce_53 (lv_at hl 1 rfl) ?_
        refine lv_lload hx hb dX11_reduce_55 (lv_at hl 2 rfl) ?_
        refine lv_lrem hx hb dX11_reduce_57 (nz64 (by omega)) ?_
        refine lv_topl (fun z_7 ez_7 => ?_)
        refine lv_lstore (lv' := [(11, .long z_7), (10, .int ii), (6, .long cm), (8, .long rs), (0, .ref h0), (1, .int 675), (2, .long x2), (4, .long x3)]) hx hb dX11_reduce_58 hl (by decide) rfl (fun ls hl => ?_)
        refine lv_lload hx hb dX11_reduce_60 (lv_at hl 3 rfl) ?_
        refine lv_lstore (lv' := [(6, .long rs), (11, .long z_7), (10, .int ii), (8, .long rs), (0, .ref h0), (1, .int 675), (2, .long x2), (4, .long x3)]) hx hb dX11_reduce_62 hl (by decide) rfl (fun ls hl => ?_)
        refine lv_lload hx hb dX11_reduce_64 (lv_at hl 1 rfl) ?_
        refine lv_lstore (lv' := [(8, .long z_7), (6, .long rs), (11, .long z_7), (10, .int ii), (0, .ref h0), (1, .int 675), (2, .long x2), (4, .long x3)]) hx hb dX11_reduce_66 hl (by decide) rfl (fun ls hl => ?_)
        obtain ⟨z_8, ez_8⟩ : ∃ y : Int32, y = ii + 1 := ⟨_, rfl⟩
        refine lv_iinc (v := z_8) (lv' := [(10, .int z_8), (8, .long z_7), (6, .long rs), (11, .long z_7), (0, .ref h0), (1, .int 675), (2, .long x2), (4, .long x3)]) hx hb dX11_reduce_68 hl (k := 3) rfl (by rw [ez_8]; rfl) (by decide) rfl (fun ls hl => ?_)
        refine lv_goto (tgt := 38) hx hb dX11_reduce_71 (by decide) ?_
        exact ih (z_8, rs, z_7) ls ⟨lv_sub hl [0, 2, 1, 4, 5, 6, 7] rfl, trivial⟩ (by subst_vars; (try dsimp only); rw [inc1 (n := 200) (by omega) (by decide)]; omega)
  · rw [lcmp_gt] at c_1
    try rw [tl_0] at c_1
    exact W.vret hx hb hr (fun t ht hW => ⟨⟨((vp_updL f0 675 0), (vp_updL f1 675 0)), rfl, trivial, by rw [ht]; exact hP.sub [0, 1, 2] rfl, hD.sub [0, 1, 2] (by decide) rfl⟩, hS.F ht⟩) hS.2.2 dX11_reduce_21
