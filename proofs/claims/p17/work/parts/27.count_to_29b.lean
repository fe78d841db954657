section
theorem dX2_unnamed_0 : decode cX2_unnamed 0 = .ok (.iconst 0, 1) := by decide +kernel
theorem dX2_unnamed_1 : decode cX2_unnamed 1 = .ok (.istore_n 1, 1) := by decide +kernel
theorem dX2_unnamed_12 : decode cX2_unnamed 12 = .ok (.aload_n 0, 1) := by decide +kernel
theorem dX2_unnamed_13 : decode cX2_unnamed 13 = .ok (.getfield 22, 3) := by decide +kernel
theorem dX2_unnamed_16 : decode cX2_unnamed 16 = .ok (.iload_n 2, 1) := by decide +kernel
theorem dX2_unnamed_17 : decode cX2_unnamed 17 = .ok (.iaload, 1) := by decide +kernel
theorem dX2_unnamed_18 : decode cX2_unnamed 18 = .ok (.iconst (-1), 1) := by decide +kernel
theorem dX2_unnamed_19 : decode cX2_unnamed 19 = .ok (.if_icmp .eq 14, 3) := by decide +kernel
theorem dX2_unnamed_2 : decode cX2_unnamed 2 = .ok (.iconst 0, 1) := by decide +kernel
theorem dX2_unnamed_22 : decode cX2_unnamed 22 = .ok (.iload_n 1, 1) := by decide +kernel
theorem dX2_unnamed_23 : decode cX2_unnamed 23 = .ok (.iconst 1, 1) := by decide +kernel
theorem dX2_unnamed_24 : decode cX2_unnamed 24 = .ok (.aload_n 0, 1) := by decide +kernel
theorem dX2_unnamed_25 : decode cX2_unnamed 25 = .ok (.getfield 22, 3) := by decide +kernel
theorem dX2_unnamed_28 : decode cX2_unnamed 28 = .ok (.iload_n 2, 1) := by decide +kernel
theorem dX2_unnamed_29 : decode cX2_unnamed 29 = .ok (.iaload, 1) := by decide +kernel
theorem dX2_unnamed_3 : decode cX2_unnamed 3 = .ok (.istore_n 2, 1) := by decide +kernel
theorem dX2_unnamed_30 : decode cX2_unnamed 30 = .ok (.ishl, 1) := by decide +kernel
theorem dX2_unnamed_31 : decode cX2_unnamed 31 = .ok (.ior, 1) := by decide +kernel
theorem dX2_unnamed_32 : decode cX2_unnamed 32 = .ok (.istore_n 1, 1) := by decide +kernel
theorem dX2_unnamed_33 : decode cX2_unnamed 33 = .ok (.aload_n 0, 1) := by decide +kernel
theorem dX2_unnamed_34 : decode cX2_unnamed 34 = .ok (.getfield 25, 3) := by decide +kernel
theorem dX2_unnamed_37 : decode cX2_unnamed 37 = .ok (.iload_n 2, 1) := by decide +kernel
theorem dX2_unnamed_38 : decode cX2_unnamed 38 = .ok (.iaload, 1) := by decide +kernel
theorem dX2_unnamed_39 : decode cX2_unnamed 39 = .ok (.iconst (-1), 1) := by decide +kernel
theorem dX2_unnamed_4 : decode cX2_unnamed 4 = .ok (.iload_n 2, 1) := by decide +kernel
theorem dX2_unnamed_40 : decode cX2_unnamed 40 = .ok (.if_icmp .eq 14, 3) := by decide +kernel
theorem dX2_unnamed_43 : decode cX2_unnamed 43 = .ok (.iload_n 1, 1) := by decide +kernel
theorem dX2_unnamed_44 : decode cX2_unnamed 44 = .ok (.iconst 1, 1) := by decide +kernel
theorem dX2_unnamed_45 : decode cX2_unnamed 45 = .ok (.aload_n 0, 1) := by decide +kernel
theorem dX2_unnamed_46 : decode cX2_unnamed 46 = .ok (.getfield 25, 3) := by decide +kernel
theorem dX2_unnamed_49 : decode cX2_unnamed 49 = .ok (.iload_n 2, 1) := by decide +kernel
theorem dX2_unnamed_5 : decode cX2_unnamed 5 = .ok (.aload_n 0, 1) := by decide +kernel
theorem dX2_unnamed_50 : decode cX2_unnamed 50 = .ok (.iaload, 1) := by decide +kernel
theorem dX2_unnamed_51 : decode cX2_unnamed 51 = .ok (.ishl, 1) := by decide +kernel
theorem dX2_unnamed_52 : decode cX2_unnamed 52 = .ok (.ior, 1) := by decide +kernel
theorem dX2_unnamed_53 : decode cX2_unnamed 53 = .ok (.istore_n 1, 1) := by decide +kernel
theorem dX2_unnamed_54 : decode cX2_unnamed 54 = .ok (.iinc 2 1, 3) := by decide +kernel
theorem dX2_unnamed_57 : decode cX2_unnamed 57 = .ok (.goto (-53), 3) := by decide +kernel
theorem dX2_unnamed_6 : decode cX2_unnamed 6 = .ok (.getfield 9, 3) := by decide +kernel
theorem dX2_unnamed_60 : decode cX2_unnamed 60 = .ok (.aload_n 0, 1) := by decide +kernel
theorem dX2_unnamed_61 : decode cX2_unnamed 61 = .ok (.getfield 9, 3) := by decide +kernel
theorem dX2_unnamed_64 : decode cX2_unnamed 64 = .ok (.iload_n 1, 1) := by decide +kernel
theorem dX2_unnamed_65 : decode cX2_unnamed 65 = .ok (.invokestatic 75, 3) := by decide +kernel
theorem dX2_unnamed_68 : decode cX2_unnamed 68 = .ok (.isub, 1) := by decide +kernel
theorem dX2_unnamed_69 : decode cX2_unnamed 69 = .ok (.ireturn, 1) := by decide +kernel
theorem dX2_unnamed_9 : decode cX2_unnamed 9 = .ok (.if_icmp .ge 51, 3) := by decide +kernel
set_option maxRecDepth 20000 in
theorem ggX2_unnamed_J6_bitCount_0f7a4 : GoodIn wsX2_unnamed wsJ6_bitCount_0f7a4 := goodIn_r _ [7, 8, 9, 10] rfl (by decide +kernel)
set_option maxRecDepth 20000 in
theorem gX2_unnamed_J6_bitCount_0f7a4 : GoodIn wsX2_unnamed (va_wsS RX2 75 yJ6_bitCount_0f7a4 wsJ6_bitCount_0f7a4) := goodIn_app (goodIn_of _ (by decide +kernel)) ggX2_unnamed_J6_bitCount_0f7a4
set_option maxRecDepth 20000 in
theorem in_X2_unnamed_X2 : ∀ w ∈ wsX20, w ∈ wsX2_unnamed := sub_r [11, 12, 13, 14, 15, 16, 17, 18] rfl
set_option maxHeartbeats 4000000 in
set_option maxRecDepth 100000 in
theorem c_X2_unnamed (l : Launch) (D : va_G) (T : Nat → ClassId) (h0 : Nat) (fs0 : List Value) (h1 : Nat) (f1 : Nat → Int32) (h2 : Nat) (f2 : Nat → Int32) (n : Int32) (e0_0 : fs0[0]? = some (.int n)) (e0_3 : fs0[3]? = some (.ref h1)) (e0_4 : fs0[4]? = some (.ref h2)) (hn0 : 0 ≤ n.toInt ∧ n.toInt ≤ 24) : Met l yX2_unnamed wsX2_unnamed ({ frames := 1, cells := 0, slots := 0, locals := 20 }) (pR [.ref h0] D T [(h0, .inr (1, fs0)), (h1, .inl (T 0, 24, .inl f1)), (h2, .inl (T 0, 24, .inl f2))]) (vp_Si (fun r => True)) 0 0 (fun _ => False) := by
  refine Met.ofW (cc := cX2_unnamed) (maxL := 3) (ret := (some .int)) (by decide +kernel) rfl ?_
  intro p e s m args below meth c s₁ B hml hv
  obtain ⟨rfl, hP, hE⟩ := hv
  have hx := B.exec
  have hb := B.bytes
  have hr := B.returns
  have hts := atoms_spec (ws := wsX2_unnamed) B.pre
  have hown : s.vm.findClass RX2 = some m.cls := findClass_of_methodNamed B.named
  have hlocks := B.notSynchronized
  have hP : va_P D vwCl [(h0, .inr (1, fs0)), (h1, .inl (T 0, 24, .inl f1)), (h2, .inl (T 0, 24, .inl f2))] s.heap := hP
  have hl := lv_entry ([.ref h0]) (n := 3) (Nat.le_of_ble_eq_true rfl)
  rw [lg_entry_eq]
  generalize (lg_sl ([.ref h0]) ++ List.replicate (3 - (lg_sl ([.ref h0])).length) Slot.unset).toArray = ls at hl ⊢
  have hl : lv_has ls 3 [(0, .ref h0)] := hl
  refine lv_iconst (v := 0) hx hb dX2_unnamed_0 (by decide +kernel) ?_
  refine lv_istore_n (lv' := [(1, .int 0), (0, .ref h0)]) hx hb dX2_unnamed_1 rfl hl (by decide +kernel) rfl (fun ls hl => ?_)
  refine lv_iconst (v := 0) hx hb dX2_unnamed_2 (by decide +kernel) ?_
  refine lv_istore_n (lv' := [(2, .int 0), (1, .int 0), (0, .ref h0)]) hx hb dX2_unnamed_3 rfl hl (by decide +kernel) rfl (fun ls hl => ?_)
  refine loopR (σ := (Int32) × (Int32)) (fun x9 ls => lv_has ls 3 [(2, .int x9.1), (1, .int x9.2), (0, .ref h0)] ∧ (0 ≤ x9.1.toInt)) (fun x9 => (24 - x9.1.toInt).toNat) (fun x9 ls hI ih => ?_) (0, 0) ls ⟨lv_sub hl [0, 1, 2] rfl, (by (try dsimp only); decide)⟩
  obtain ⟨ii, nm⟩ := x9
  obtain ⟨hl, hinv⟩ := hI
  have hl : lv_has ls 3 [(2, .int ii), (1, .int nm), (0, .ref h0)] := hl
  have hinv : 0 ≤ ii.toInt := hinv
  refine lv_iload_n hx hb dX2_unnamed_4 rfl (lv_at hl 0 rfl) ?_
  refine lv_aload_n hx hb dX2_unnamed_5 rfl (lv_at hl 2 rfl) ?_
  refine va_get (D := D) (ci := 1) (v := .int n) (C := RX2) (T := TX2) (N := 8) hx hb hts in_X2_unnamed_X2 hown hE.1 hP 0 rfl rfl 0 (by decide +kernel) (hts (.fieldLink RX2 9 "ClauseBook$Clauses" "size" "I") (List.mem_of_getElem? (i := 1) rfl)) (fun _ h9 => h9) e0_0 dX2_unnamed_6 ?_
  refine lv_icmp_ge (tgt := 60) hx hb dX2_unnamed_9 (by decide +kernel) (fun c_1 => ?_) (fun c_1 => ?_)
  · rw [fa_le] at c_1
    refine lv_aload_n hx hb dX2_unnamed_60 rfl (lv_at hl 2 rfl) ?_
    refine va_get (D := D) (ci := 1) (v := .int n) (C := RX2) (T := TX2) (N := 8) hx hb hts in_X2_unnamed_X2 hown hE.1 hP 0 rfl rfl 0 (by decide +kernel) (hts (.fieldLink RX2 9 "ClauseBook$Clauses" "size" "I") (List.mem_of_getElem? (i := 1) rfl)) (fun _ h9 => h9) e0_0 dX2_unnamed_61 ?_
    refine lv_iload_n hx hb dX2_unnamed_64 rfl (lv_at hl 1 rfl) ?_
    refine vp_callSi (W.runS (As := [.int nm]) (rest := [.int n]) ⟨hx, hb, hml, hown, hts⟩ (c_J6_bitCount_0f7a4 l D T nm) (va_cwS 1 hts gX2_unnamed_J6_bitCount_0f7a4 rfl rfl rfl hs_J6_bitCount_0f7a4 ⟨Nat.le_of_ble_eq_true rfl, Nat.le_of_ble_eq_true rfl⟩) (pR_S hP hE [] rfl) rfl rfl hl.1 rfl (lv_room (Nat.le_of_ble_eq_true rfl)) dX2_unnamed_65 ⟨Nat.le_of_ble_eq_true rfl, Nat.le_of_ble_eq_true rfl⟩) (fun r_2 hr_2 => ?_)
    obtain rfl : (sp_bits nm) = r_2 := (hr_2).symm
    refine lv_isub hx hb dX2_unnamed_68 ?_
    exact W.iret hx hb hr (fun t ht hW => ⟨_, rfl, trivial, ht⟩) (fun _ h => by cases h) dX2_unnamed_69
  · rw [fa_le] at c_1
    refine lv_aload_n hx hb dX2_unnamed_12 rfl (lv_at hl 2 rfl) ?_
    refine va_get (D := D) (ci := 1) (v := .ref h1) (C := RX2) (T := TX2) (N := 8) hx hb hts in_X2_unnamed_X2 hown hE.1 hP 0 rfl rfl 3 (by decide +kernel) (hts (.fieldLink RX2 22 "ClauseBook$Clauses" "c" "[I") (List.mem_of_getElem? (i := 2) rfl)) (fun _ h9 => h9) e0_3 dX2_unnamed_13 ?_
    refine lv_iload_n hx hb dX2_unnamed_16 rfl (lv_at hl 0 rfl) ?_
    refine va_iald hx hb hE.1 hP 1 0 rfl rfl (by rw [vp_in_iff]; first | omega | (subst_vars; rw [dec1 (by omega)]; omega) | (subst_vars; rw [inc1 (n := 1000) (by omega) (by decide +kernel)]; omega)) dX2_unnamed_17 ?_
    refine lv_topi (fun z_3 ez_3 => ?_)
    refine lv_iconst (v := (-1)) hx hb dX2_unnamed_18 (by decide +kernel) ?_
    refine lv_icmp_eq (tgt := 33) hx hb dX2_unnamed_19 (by decide +kernel) (fun c_4 => ?_) (fun c_4 => ?_)
    · rw [fa_eq] at c_4
      try rw [ti_n1] at c_4
      refine lv_aload_n hx hb dX2_unnamed_33 rfl (lv_at hl 2 rfl) ?_
      refine va_get (D := D) (ci := 1) (v := .ref h2) (C := RX2) (T := TX2) (N := 8) hx hb hts in_X2_unnamed_X2 hown hE.1 hP 0 rfl rfl 4 (by decide +kernel) (hts (.fieldLink RX2 25 "ClauseBook$Clauses" "d" "[I") (List.mem_of_getElem? (i := 3) rfl)) (fun _ h9 => h9) e0_4 dX2_unnamed_34 ?_
      refine lv_iload_n hx hb dX2_unnamed_37 rfl (lv_at hl 0 rfl) ?_
      refine va_iald hx hb hE.1 hP 2 0 rfl rfl (by rw [vp_in_iff]; first | omega | (subst_vars; rw [dec1 (by omega)]; omega) | (subst_vars; rw [inc1 (n := 1000) (by omega) (by decide +kernel)]; omega)) dX2_unnamed_38 ?_
      refine lv_topi (fun z_5 ez_5 => ?_)
      refine lv_iconst (v := (-1)) hx hb dX2_unnamed_39 (by decide +kernel) ?_
      refine lv_icmp_eq (tgt := 54) hx hb dX2_unnamed_40 (by decide +kernel) (fun c_6 => ?_) (fun c_6 => ?_)
      · rw [fa_eq] at c_6
        try rw [ti_n1] at c_6
        obtain ⟨z_7, ez_7⟩ : ∃ y : Int32, y = ii + 1 := ⟨_, rfl⟩
        refine lv_iinc (v := z_7) (lv' := [(2, .int z_7), (1, .int nm), (0, .ref h0)]) hx hb dX2_unnamed_54 hl (k := 0) rfl (by rw [ez_7]; rfl) (by decide +kernel) rfl (fun ls hl => ?_)
        refine lv_goto (tgt := 4) hx hb dX2_unnamed_57 (by decide +kernel) ?_
        exact ih (z_7, nm) ls ⟨lv_sub hl [0, 1, 2] rfl, (by subst_vars; (try dsimp only); rw [inc1 (n := 1000) (by omega) (by decide +kernel)]; omega)⟩ (by subst_vars; (try dsimp only); rw [inc1 (n := 1000) (by omega) (by decide +kernel)]; omega)
      · rw [fa_eq] at c_6
        try rw [ti_n1] at c_6
        refine lv_iload_n hx hb dX2_unnamed_43 rfl (lv_at hl 1 rfl) ?_
        refine lv_iconst (v := 1) hx hb dX2_unnamed_44 (by decide +kernel) ?_
        refine lv_aload_n hx hb dX2_unnamed_45 rfl (lv_at hl 2 rfl) ?_
        refine va_get (D := D) (ci := 1) (v := .ref h2) (C := RX2) (T := TX2) (N := 8) hx hb hts in_X2_unnamed_X2 hown hE.1 hP 0 rfl rfl 4 (by decide +kernel) (hts (.fieldLink RX2 25 "ClauseBook$Clauses" "d" "[I") (List.mem_of_getElem? (i := 3) rfl)) (fun _ h9 => h9) e0_4 dX2_unnamed_46 ?_
        refine lv_iload_n hx hb dX2_unnamed_49 rfl (lv_at hl 0 rfl) ?_
        refine va_iald hx hb hE.1 hP 2 0 rfl rfl (by rw [vp_in_iff]; first | omega | (subst_vars; rw [dec1 (by omega)]; omega) | (subst_vars; rw [inc1 (n := 1000) (by omega) (by decide +kernel)]; omega)) dX2_unnamed_50 ?_
        refine lv_topi (fun z_8 ez_8 => ?_)
        refine lv_ishl hx hb dX2_unnamed_51 ?_
        refine lv_ior hx hb dX2_unnamed_52 ?_
        refine lv_topi (fun z_9 ez_9 => ?_)
        refine lv_istore_n (lv' := [(1, .int z_9), (2, .int ii), (0, .ref h0)]) hx hb dX2_unnamed_53 rfl hl (by decide +kernel) rfl (fun ls hl => ?_)
        obtain ⟨z_10, ez_10⟩ : ∃ y : Int32, y = ii + 1 := ⟨_, rfl⟩
        refine lv_iinc (v := z_10) (lv' := [(2, .int z_10), (1, .int z_9), (0, .ref h0)]) hx hb dX2_unnamed_54 hl (k := 1) rfl (by rw [ez_10]; rfl) (by decide +kernel) rfl (fun ls hl => ?_)
        refine lv_goto (tgt := 4) hx hb dX2_unnamed_57 (by decide +kernel) ?_
        exact ih (z_10, z_9) ls ⟨lv_sub hl [0, 1, 2] rfl, (by subst_vars; (try dsimp only); rw [inc1 (n := 1000) (by omega) (by decide +kernel)]; omega)⟩ (by subst_vars; (try dsimp only); rw [inc1 (n := 1000) (by omega) (by decide +kernel)]; omega)
    · rw [fa_eq] at c_4
      try rw [ti_n1] at c_4
      refine lv_iload_n hx hb dX2_unnamed_22 rfl (lv_at hl 1 rfl) ?_
      refine lv_iconst (v := 1) hx hb dX2_unnamed_23 (by decide +kernel) ?_
      refine lv_aload_n hx hb dX2_unnamed_24 rfl (lv_at hl 2 rfl) ?_
      refine va_get (D := D) (ci := 1) (v := .ref h1) (C := RX2) (T := TX2) (N := 8) hx hb hts in_X2_unnamed_X2 hown hE.1 hP 0 rfl rfl 3 (by decide +kernel) (hts (.fieldLink RX2 22 "ClauseBook$Clauses" "c" "[I") (List.mem_of_getElem? (i := 2) rfl)) (fun _ h9 => h9) e0_3 dX2_unnamed_25 ?_
      refine lv_iload_n hx hb dX2_unnamed_28 rfl (lv_at hl 0 rfl) ?_
      refine va_iald hx hb hE.1 hP 1 0 rfl rfl (by rw [vp_in_iff]; first | omega | (subst_vars; rw [dec1 (by omega)]; omega) | (subst_vars; rw [inc1 (n := 1000) (by omega) (by decide +kernel)]; omega)) dX2_unnamed_29 ?_
      refine lv_topi (fun z_11 ez_11 => ?_)
      refine lv_ishl hx hb dX2_unnamed_30 ?_
      refine lv_ior hx hb dX2_unnamed_31 ?_
      refine lv_topi (fun z_12 ez_12 => ?_)
      refine lv_istore_n (lv' := [(1, .int z_12), (2, .int ii), (0, .ref h0)]) hx hb dX2_unnamed_32 rfl hl (by decide +kernel) rfl (fun ls hl => ?_)
      refine lv_aload_n hx hb dX2_unnamed_33 rfl (lv_at hl 2 rfl) ?_
      refine va_get (D := D) (ci := 1) (v := .ref h2) (C := RX2) (T := TX2) (N := 8) hx hb hts in_X2_unnamed_X2 hown hE.1 hP 0 rfl rfl 4 (by decide +kernel) (hts (.fieldLink RX2 25 "ClauseBook$Clauses" "d" "[I") (List.mem_of_getElem? (i := 3) rfl)) (fun _ h9 => h9) e0_4 dX2_unnamed_34 ?_
      refine lv_iload_n hx hb dX2_unnamed_37 rfl (lv_at hl 1 rfl) ?_
      refine va_iald hx hb hE.1 hP 2 0 rfl rfl (by rw [vp_in_iff]; first | omega | (subst_vars; rw [dec1 (by omega)]; omega) | (subst_vars; rw [inc1 (n := 1000) (by omega) (by decide +kernel)]; omega)) dX2_unnamed_38 ?_
      refine lv_topi (fun z_13 ez_13 => ?_)
      refine lv_iconst (v := (-1)) hx hb dX2_unnamed_39 (by decide +kernel) ?_
      refine lv_icmp_eq (tgt := 54) hx hb dX2_unnamed_40 (by decide +kernel) (fun c_14 => ?_) (fun c_14 => ?_)
      · rw [fa_eq] at c_14
        try rw [ti_n1] at c_14
        obtain ⟨z_15, ez_15⟩ : ∃ y : Int32, y = ii + 1 := ⟨_, rfl⟩
        refine lv_iinc (v := z_15) (lv' := [(2, .int z_15), (1, .int z_12), (0, .ref h0)]) hx hb dX2_unnamed_54 hl (k := 1) rfl (by rw [ez_15]; rfl) (by decide +kernel) rfl (fun ls hl => ?_)
        refine lv_goto (tgt := 4) hx hb dX2_unnamed_57 (by decide +kernel) ?_
        exact ih (z_15, z_12) ls ⟨lv_sub hl [0, 1, 2] rfl, (by subst_vars; (try dsimp only); rw [inc1 (n := 1000) (by omega) (by decide +kernel)]; omega)⟩ (by subst_vars; (try dsimp only); rw [inc1 (n := 1000) (by omega) (by decide +kernel)]; omega)
      · rw [fa_eq] at c_14
        try rw [ti_n1] at c_14
        refine lv_iload_n hx hb dX2_unnamed_43 rfl (lv_at hl 0 rfl) ?_
        refine lv_iconst (v := 1) hx hb dX2_unnamed_44 (by decide +kernel) ?_
        refine lv_aload_n hx hb dX2_unnamed_45 rfl (lv_at hl 2 rfl) ?_
        refine va_get (D := D) (ci := 1) (v := .ref h2) (C := RX2) (T := TX2) (N := 8) hx hb hts in_X2_unnamed_X2 hown hE.1 hP 0 rfl rfl 4 (by decide +kernel) (hts (.fieldLink RX2 25 "ClauseBook$Clauses" "d" "[I") (List.mem_of_getElem? (i := 3) rfl)) (fun _ h9 => h9) e0_4 dX2_unnamed_46 ?_
        refine lv_iload_n hx hb dX2_unnamed_49 rfl (lv_at hl 1 rfl) ?_
        refine va_iald hx hb hE.1 hP 2 0 rfl rfl (by rw [vp_in_iff]; first | omega | (subst_vars; rw [dec1 (by omega)]; omega) | (subst_vars; rw [inc1 (n := 1000) (by omega) (by decide +kernel)]; omega)) dX2_unnamed_50 ?_
        refine lv_topi (fun z_16 ez_16 => ?_)
        refine lv_ishl hx hb dX2_unnamed_51 ?_
        refine lv_ior hx hb dX2_unnamed_52 ?_
        refine lv_topi (fun z_17 ez_17 => ?_)
        refine lv_istore_n (lv' := [(1, .int z_17), (2, .int ii), (0, .ref h0)]) hx hb dX2_unnamed_53 rfl hl (by decide +kernel) rfl (fun ls hl => ?_)
        obtain ⟨z_18, ez_18⟩ : ∃ y : Int32, y = ii + 1 := ⟨_, rfl⟩
        refine lv_iinc (v := z_18) (lv' := [(2, .int z_18), (1, .int z_17), (0, .ref h0)]) hx hb dX2_unnamed_54 hl (k := 1) rfl (by rw [ez_18]; rfl) (by decide +kernel) rfl (fun ls hl => ?_)
        refine lv_goto (tgt := 4) hx hb dX2_unnamed_57 (by decide +kernel) ?_
        exact ih (z_18, z_17) ls ⟨lv_sub hl [0, 1, 2] rfl, (by subst_vars; (try dsimp only); rw [inc1 (n := 1000) (by omega) (by decide +kernel)]; omega)⟩ (by subst_vars; (try dsimp only); rw [inc1 (n := 1000) (by omega) (by decide +kernel)]; omega)
theorem dX12_inBags_0 : decode cX12_inBags 0 = .ok (.iconst 0, 1) := by decide +kernel
theorem dX12_inBags_1 : decode cX12_inBags 1 = .ok (.istore_n 1, 1) := by decide +kernel
theorem dX12_inBags_10 : decode cX12_inBags 10 = .ok (.istore_n 3, 1) := by decide +kernel
theorem dX12_inBags_11 : decode cX12_inBags 11 = .ok (.iload_n 3, 1) := by decide +kernel
theorem dX12_inBags_12 : decode cX12_inBags 12 = .ok (.aload_n 0, 1) := by decide +kernel
theorem dX12_inBags_13 : decode cX12_inBags 13 = .ok (.getfield 37, 3) := by decide +kernel
theorem dX12_inBags_16 : decode cX12_inBags 16 = .ok (.iload_n 2, 1) := by decide +kernel
theorem dX12_inBags_17 : decode cX12_inBags 17 = .ok (.aaload, 1) := by decide +kernel
theorem dX12_inBags_18 : decode cX12_inBags 18 = .ok (.getfield 307, 3) := by decide +kernel
theorem dX12_inBags_2 : decode cX12_inBags 2 = .ok (.iconst 0, 1) := by decide +kernel
theorem dX12_inBags_21 : decode cX12_inBags 21 = .ok (.if_icmp .ge 33, 3) := by decide +kernel
theorem dX12_inBags_24 : decode cX12_inBags 24 = .ok (.aload_n 0, 1) := by decide +kernel
theorem dX12_inBags_25 : decode cX12_inBags 25 = .ok (.getfield 32, 3) := by decide +kernel
theorem dX12_inBags_28 : decode cX12_inBags 28 = .ok (.aload_n 0, 1) := by decide +kernel
theorem dX12_inBags_29 : decode cX12_inBags 29 = .ok (.getfield 37, 3) := by decide +kernel
theorem dX12_inBags_3 : decode cX12_inBags 3 = .ok (.istore_n 2, 1) := by decide +kernel
theorem dX12_inBags_32 : decode cX12_inBags 32 = .ok (.iload_n 2, 1) := by decide +kernel
theorem dX12_inBags_33 : decode cX12_inBags 33 = .ok (.aaload, 1) := by decide +kernel
theorem dX12_inBags_34 : decode cX12_inBags 34 = .ok (.getfield 308, 3) := by decide +kernel
theorem dX12_inBags_37 : decode cX12_inBags 37 = .ok (.iload_n 3, 1) := by decide +kernel
theorem dX12_inBags_38 : decode cX12_inBags 38 = .ok (.iaload, 1) := by decide +kernel
theorem dX12_inBags_39 : decode cX12_inBags 39 = .ok (.invokevirtual 150, 3) := by decide +kernel
theorem dX12_inBags_4 : decode cX12_inBags 4 = .ok (.iload_n 2, 1) := by decide +kernel
theorem dX12_inBags_42 : decode cX12_inBags 42 = .ok (.ifCond .eq 6, 3) := by decide +kernel
theorem dX12_inBags_45 : decode cX12_inBags 45 = .ok (.iinc 1 1, 3) := by decide +kernel
theorem dX12_inBags_48 : decode cX12_inBags 48 = .ok (.iinc 3 1, 3) := by decide +kernel
theorem dX12_inBags_5 : decode cX12_inBags 5 = .ok (.iconst 3, 1) := by decide +kernel
theorem dX12_inBags_51 : decode cX12_inBags 51 = .ok (.goto (-40), 3) := by decide +kernel
theorem dX12_inBags_54 : decode cX12_inBags 54 = .ok (.iinc 2 1, 3) := by decide +kernel
theorem dX12_inBags_57 : decode cX12_inBags 57 = .ok (.goto (-53), 3) := by decide +kernel
theorem dX12_inBags_6 : decode cX12_inBags 6 = .ok (.if_icmp .ge 54, 3) := by decide +kernel
theorem dX12_inBags_60 : decode cX12_inBags 60 = .ok (.iload_n 1, 1) := by decide +kernel
theorem dX12_inBags_61 : decode cX12_inBags 61 = .ok (.ireturn, 1) := by decide +kernel
theorem dX12_inBags_9 : decode cX12_inBags 9 = .ok (.iconst 0, 1) := by decide +kernel
set_option maxRecDepth 20000 in
theorem ggX12_inBags_X2_has : GoodIn wsX12_inBags wsX2_has := goodIn_r _ [9, 10, 11, 12, 13, 27, 28, 29, 30, 31, 32, 33, 34] rfl (by decide +kernel)
set_option maxRecDepth 20000 in
theorem gX12_inBags_X2_has : GoodIn wsX12_inBags (wsV RX12 150 RX2 yX2_has wsX2_has) := goodIn_app (goodIn_r _ [5, 6, 7, 8] rfl (by decide +kernel)) ggX12_inBags_X2_has
set_option maxRecDepth 20000 in
theorem in_X12_inBags_X1 : ∀ w ∈ wsX10, w ∈ wsX12_inBags := sub_r [25, 26] rfl
set_option maxRecDepth 20000 in
theorem in_X12_inBags_X12 : ∀ w ∈ wsX120, w ∈ wsX12_inBags := sub_r [14, 15, 16, 17, 18, 19, 20, 21, 22, 23, 24] rfl
set_option maxHeartbeats 4000000 in
set_option maxRecDepth 100000 in
theorem c_X12_inBags (l : Launch) (D : va_G) (T : Nat → ClassId) (h0 : Nat) (fs0 : List Value) (h1 : Nat) (f1 : Nat → Option Nat) (h2 : Nat) (fs2 : List Value) (h3 : Nat) (fs3 : List Value) (h4 : Nat) (fs4 : List Value) (h5 : Nat) (fs5 : List Value) (h6 : Nat) (f6 : Nat → Int32) (h7 : Nat) (f7 : Nat → Int32) (h8 : Nat) (f8 : Nat → Int32) (n9 : Int32) (n0 : Int32) (n1 : Int32) (n2 : Int32) (e0_5 : fs0[5]? = some (.ref h1)) (e0_4 : fs0[4]? = some (.ref h2)) (e1_0 : f1 0 = some h3) (e1_1 : f1 1 = some h4) (e1_2 : f1 2 = some h5) (e2_0 : fs2[0]? = some (.int n9)) (e3_0 : fs3[0]? = some (.int n0)) (e3_1 : fs3[1]? = some (.ref h6)) (e4_0 : fs4[0]? = some (.int n1)) (e4_1 : fs4[1]? = some (.ref h7)) (e5_0 : fs5[0]? = some (.int n2)) (e5_1 : fs5[1]? = some (.ref h8)) (hn : 0 ≤ n9.toInt ∧ n9.toInt ≤ 24) (hb0 : 0 ≤ n0.toInt ∧ n0.toInt ≤ 12) (hb1 : 0 ≤ n1.toInt ∧ n1.toInt ≤ 12) (hb2 : 0 ≤ n2.toInt ∧ n2.toInt ≤ 12) : Met l yX12_inBags wsX12_inBags ({ frames := 2, cells := 0, slots := 0, locals := 43 }) (pR [.ref h0] D T [(h0, .inr (9, fs0)), (h1, .inl (T 5, 3, .inr (.inr (.inr (.inr f1))))), (h2, .inr (1, fs2)), (h3, .inr (0, fs3)), (h4, .inr (0, fs4)), (h5, .inr (0, fs5)), (h6, .inl (T 0, 12, .inl f6)), (h7, .inl (T 0, 12, .inl f7)), (h8, .inl (T 0, 12, .inl f8))]) (vp_Si (fun r => True)) 0 0 (fun _ => False) := by
  refine Met.ofW (cc := cX12_inBags) (maxL := 4) (ret := (some .int)) (by decide +kernel) rfl ?_
  intro p e s m args below meth c s₁ B hml hv
  obtain ⟨rfl, hP, hE⟩ := hv
  have hx := B.exec
  have hb := B.bytes
  have hr := B.returns
  have hts := atoms_spec (ws := wsX12_inBags) B.pre
  have hown : s.vm.findClass RX12 = some m.cls := findClass_of_methodNamed B.named
  have hlocks := B.notSynchronized
  have hP : va_P D vwCl [(h0, .inr (9, fs0)), (h1, .inl (T 5, 3, .inr (.inr (.inr (.inr f1))))), (h2, .inr (1, fs2)), (h3, .inr (0, fs3)), (h4, .inr (0, fs4)), (h5, .inr (0, fs5)), (h6, .inl (T 0, 12, .inl f6)), (h7, .inl (T 0, 12, .inl f7)), (h8, .inl (T 0, 12, .inl f8))] s.heap := hP
  have hl := lv_entry ([.ref h0]) (n := 4) (Nat.le_of_ble_eq_true rfl)
  rw [lg_entry_eq]
  generalize (lg_sl ([.ref h0]) ++ List.replicate (4 - (lg_sl ([.ref h0])).length) Slot.unset).toArray = ls at hl ⊢
  have hl : lv_has ls 4 [(0, .ref h0)] := hl
  refine lv_iconst (v := 0) hx hb dX12_inBags_0 (by decide +kernel) ?_
  refine lv_istore_n (lv' := [(1, .int 0), (0, .ref h0)]) hx hb dX12_inBags_1 rfl hl (by decide +kernel) rfl (fun ls hl => ?_)
  refine lv_iconst (v := 0) hx hb dX12_inBags_2 (by decide +kernel) ?_
  refine lv_istore_n (lv' := [(2, .int 0), (1, .int 0), (0, .ref h0)]) hx hb dX12_inBags_3 rfl hl (by decide +kernel) rfl (fun ls hl => ?_)
  refine lv_iload_n hx hb dX12_inBags_4 rfl (lv_at hl 0 rfl) ?_
  refine lv_iconst (v := 3) hx hb dX12_inBags_5 (by decide +kernel) ?_
  refine lv_icmp_ge (tgt := 60) hx hb dX12_inBags_6 (by decide +kernel) (fun c9 => absurd c9 (by decide +kernel)) (fun _ => ?_)
  refine lv_iconst (v := 0) hx hb dX12_inBags_9 (by decide +kernel) ?_
  refine lv_istore_n (lv' := [(3, .int 0), (2, .int 0), (1, .int 0), (0, .ref h0)]) hx hb dX12_inBags_10 rfl hl (by decide +kernel) rfl (fun ls hl => ?_)
  refine loopR (σ := (Int32) × (Int32)) (fun x9 ls => lv_has ls 4 [(3, .int x9.1), (1, .int x9.2), (0, .ref h0), (2, .int 0)] ∧ (0 ≤ x9.1.toInt)) (fun x9 => (12 - x9.1.toInt).toNat) (fun x9 ls hI ih => ?_) (0, 0) ls ⟨lv_sub hl [0, 2, 3, 1] rfl, (by (try dsimp only); decide)⟩
  obtain ⟨ii, al⟩ := x9
  obtain ⟨hl, hinv⟩ := hI
  have hl : lv_has ls 4 [(3, .int ii), (1, .int al), (0, .ref h0), (2, .int 0)] := hl
  have hinv : 0 ≤ ii.toInt := hinv
  refine lv_iload_n hx hb dX12_inBags_11 rfl (lv_at hl 0 rfl) ?_
  refine lv_aload_n hx hb dX12_inBags_12 rfl (lv_at hl 2 rfl) ?_
  refine va_get (D := D) (ci := 9) (v := .ref h1) (C := RX12) (T := TX12) (N := 11) hx hb hts in_X12_inBags_X12 hown hE.1 hP 0 rfl rfl 5 (by decide +kernel) (hts (.fieldLink RX12 37 "ClauseBook" "bags" "[LClauseBook$Bag;") (List.mem_of_getElem? (i := 1) rfl)) (fun _ h9 => h9) e0_5 dX12_inBags_13 ?_
  refine lv_iload_n hx hb dX12_inBags_16 rfl (lv_at hl 3 rfl) ?_
  refine va_aldq hx hb hE.1 hP 1 5 rfl rfl (by unfold vp_in; decide) dX12_inBags_17 ?_
  refine W.eq (g2 := F0 m 18 ls [.ref h3, .int ii]) (by rw [show (0 : Int32).toNatClampNeg = 0 from rfl, e1_0]; rfl) ?_
  refine va_get (D := D) (ci := 0) (v := .int n0) (C := RX1) (T := TX1) (N := 2) hx hb hts in_X12_inBags_X1 hown hE.1 hP 3 rfl rfl 0 (by decide +kernel) (hts (.fieldLink RX12 307 "ClauseBook$Bag" "size" "I") (List.mem_of_getElem? (i := 2) rfl)) (fun _ h9 => h9) e3_0 dX12_inBags_18 ?_
  refine lv_icmp_ge (tgt := 54) hx hb dX12_inBags_21 (by decide +kernel) (fun c_1 => ?_) (fun c_1 => ?_)
  · rw [fa_le] at c_1
    refine lv_iinc (v := 1) (lv' := [(2, .int 1), (3, .int ii), (1, .int al), (0, .ref h0)]) hx hb dX12_inBags_54 hl (k := 3) rfl (by decide +kernel) (by decide +kernel) rfl (fun ls hl => ?_)
    refine lv_goto (tgt := 4) hx hb dX12_inBags_57 (by decide +kernel) ?_
    refine lv_iload_n hx hb dX12_inBags_4 rfl (lv_at hl 0 rfl) ?_
    refine lv_iconst (v := 3) hx hb dX12_inBags_5 (by decide +kernel) ?_
    refine lv_icmp_ge (tgt := 60) hx hb dX12_inBags_6 (by decide +kernel) (fun c9 => absurd c9 (by decide +kernel)) (fun _ => ?_)
    refine lv_iconst (v := 0) hx hb dX12_inBags_9 (by decide +kernel) ?_
    refine lv_istore_n (lv' := [(3, .int 0), (2, .int 1), (1, .int al), (0, .ref h0)]) hx hb dX12_inBags_10 rfl hl (by decide +kernel) rfl (fun ls hl => ?_)
    refine loopR (σ := (Int32) × (Int32)) (fun x9 ls => lv_has ls 4 [(3, .int x9.1), (1, .int x9.2), (0, .ref h0), (2, .int 1)] ∧ (0 ≤ x9.1.toInt)) (fun x9 => (12 - x9.1.toInt).toNat) (fun x9 ls hI ih => ?_) (0, al) ls ⟨lv_sub hl [0, 2, 3, 1] rfl, (by (try dsimp only); decide)⟩
    obtain ⟨ii, al⟩ := x9
    obtain ⟨hl, hinv⟩ := hI
    have hl : lv_has ls 4 [(3, .int ii), (1, .int al), (0, .ref h0), (2, .int 1)] := hl
    have hinv : 0 ≤ ii.toInt := hinv
    refine lv_iload_n hx hb dX12_inBags_11 rfl (lv_at hl 0 rfl) ?_
    refine lv_aload_n hx hb dX12_inBags_12 rfl (lv_at hl 2 rfl) ?_
    refine va_get (D := D) (ci := 9) (v := .ref h1) (C := RX12) (T := TX12) (N := 11) hx hb hts in_X12_inBags_X12 hown hE.1 hP 0 rfl rfl 5 (by decide +kernel) (hts (.fieldLink RX12 37 "ClauseBook" "bags" "[LClauseBook$Bag;") (List.mem_of_getElem? (i := 1) rfl)) (fun _ h9 => h9) e0_5 dX12_inBags_13 ?_
    refine lv_iload_n hx hb dX12_inBags_16 rfl (lv_at hl 3 rfl) ?_
    refine va_aldq hx hb hE.1 hP 1 5 rfl rfl (by unfold vp_in; decide) dX12_inBags_17 ?_
    refine W.eq (g2 := F0 m 18 ls [.ref h4, .int ii]) (by rw [show (1 : Int32).toNatClampNeg = 1 from rfl, e1_1]; rfl) ?_
    refine va_get (D := D) (ci := 0) (v := .int n1) (C := RX1) (T := TX1) (N := 2) hx hb hts in_X12_inBags_X1 hown hE.1 hP 4 rfl rfl 0 (by decide +kernel) (hts (.fieldLink RX12 307 "ClauseBook$Bag" "size" "I") (List.mem_of_getElem? (i := 2) rfl)) (fun _ h9 => h9) e4_0 dX12_inBags_18 ?_
    refine lv_icmp_ge (tgt := 54) hx hb dX12_inBags_21 (by decide +kernel) (fun c_2 => ?_) (fun c_2 => ?_)
    · rw [fa_le] at c_2
      refine lv_iinc (v := 2) (lv' := [(2, .int 2), (3, .int ii), (1, .int al), (0, .ref h0)]) hx hb dX12_inBags_54 hl (k := 3) rfl (by decide +kernel) (by decide +kernel) rfl (fun ls hl => ?_)
      refine lv_goto (tgt := 4) hx hb dX12_inBags_57 (by decide +kernel) ?_
      refine lv_iload_n hx hb dX12_inBags_4 rfl (lv_at hl 0 rfl) ?_
      refine lv_iconst (v := 3) hx hb dX12_inBags_5 (by decide +kernel) ?_
      refine lv_icmp_ge (tgt := 60) hx hb dX12_inBags_6 (by decide +kernel) (fun c9 => absurd c9 (by decide +kernel)) (fun _ => ?_)
      refine lv_iconst (v := 0) hx hb dX12_inBags_9 (by decide +kernel) ?_
      refine lv_istore_n (lv' := [(3, .int 0), (2, .int 2), (1, .int al), (0, .ref h0)]) hx hb dX12_inBags_10 rfl hl (by decide +kernel) rfl (fun ls hl => ?_)
      refine loopR (σ := (Int32) × (Int32)) (fun x9 ls => lv_has ls 4 [(3, .int x9.1), (1, .int x9.2), (0, .ref h0), (2, .int 2)] ∧ (0 ≤ x9.1.toInt)) (fun x9 => (12 - x9.1.toInt).toNat) (fun x9 ls hI ih => ?_) (0, al) ls ⟨lv_sub hl [0, 2, 3, 1] rfl, (by (try dsimp only); decide)⟩
      obtain ⟨ii, al⟩ := x9
      obtain ⟨hl, hinv⟩ := hI
      have hl : lv_has ls 4 [(3, .int ii), (1, .int al), (0, .ref h0), (2, .int 2)] := hl
      have hinv : 0 ≤ ii.toInt := hinv
      refine lv_iload_n hx hb dX12_inBags_11 rfl (lv_at hl 0 rfl) ?_
      refine lv_aload_n hx hb dX12_inBags_12 rfl (lv_at hl 2 rfl) ?_
      refine va_get (D := D) (ci := 9) (v := .ref h1) (C := RX12) (T := TX12) (N := 11) hx hb hts in_X12_inBags_X12 hown hE.1 hP 0 rfl rfl 5 (by decide +kernel) (hts (.fieldLink RX12 37 "ClauseBook" "bags" "[LClauseBook$Bag;") (List.mem_of_getElem? (i := 1) rfl)) (fun _ h9 => h9) e0_5 dX12_inBags_13 ?_
      refine lv_iload_n hx hb dX12_inBags_16 rfl (lv_at hl 3 rfl) ?_
      refine va_aldq hx hb hE.1 hP 1 5 rfl rfl (by unfold vp_in; decide) dX12_inBags_17 ?_
      refine W.eq (g2 := F0 m 18 ls [.ref h5, .int ii]) (by rw [show (2 : Int32).toNatClampNeg = 2 from rfl, e1_2]; rfl) ?_
      refine va_get (D := D) (ci := 0) (v := .int n2) (C := RX1) (T := TX1) (N := 2) hx hb hts in_X12_inBags_X1 hown hE.1 hP 5 rfl rfl 0 (by decide +kernel) (hts (.fieldLink RX12 307 "ClauseBook$Bag" "size" "I") (List.mem_of_getElem? (i := 2) rfl)) (fun _ h9 => h9) e5_0 dX12_inBags_18 ?_
      refine lv_icmp_ge (tgt := 54) hx hb dX12_inBags_21 (by decide +kernel) (fun c_3 => ?_) (fun c_3 => ?_)
      · rw [fa_le] at c_3
        refine lv_iinc (v := 3) (lv' := [(2, .int 3), (3, .int ii), (1, .int al), (0, .ref h0)]) hx hb dX12_inBags_54 hl (k := 3) rfl (by decide +kernel) (by decide +kernel) rfl (fun ls hl => ?_)
        refine lv_goto (tgt := 4) hx hb dX12_inBags_57 (by decide +kernel) ?_
        refine lv_iload_n hx hb dX12_inBags_4 rfl (lv_at hl 0 rfl) ?_
        refine lv_iconst (v := 3) hx hb dX12_inBags_5 (by decide +kernel) ?_
        refine lv_icmp_ge (tgt := 60) hx hb dX12_inBags_6 (by decide +kernel) (fun _ => ?_) (fun c9 => absurd c9 (by decide +kernel))
        refine lv_iload_n hx hb dX12_inBags_60 rfl (lv_at hl 2 rfl) ?_
        exact W.iret hx hb hr (fun t ht hW => ⟨_, rfl, trivial, ht⟩) (fun _ h => by cases h) dX12_inBags_61
      · rw [fa_le] at c_3
        refine lv_aload_n hx hb dX12_inBags_24 rfl (lv_at hl 2 rfl) ?_
        refine va_get (D := D) (ci := 9) (v := .ref h2) (C := RX12) (T := TX12) (N := 11) hx hb hts in_X12_inBags_X12 hown hE.1 hP 0 rfl rfl 4 (by decide +kernel) (hts (.fieldLink RX12 32 "ClauseBook" "clauses" "LClauseBook$Clauses;") (List.mem_of_getElem? (i := 3) rfl)) (fun _ h9 => h9) e0_4 dX12_inBags_25 ?_
        refine lv_aload_n hx hb dX12_inBags_28 rfl (lv_at hl 2 rfl) ?_
        refine va_get (D := D) (ci := 9) (v := .ref h1) (C := RX12) (T := TX12) (N := 11) hx hb hts in_X12_inBags_X12 hown hE.1 hP 0 rfl rfl 5 (by decide +kernel) (hts (.fieldLink RX12 37 "ClauseBook" "bags" "[LClauseBook$Bag;") (List.mem_of_getElem? (i := 1) rfl)) (fun _ h9 => h9) e0_5 dX12_inBags_29 ?_
        refine lv_iload_n hx hb dX12_inBags_32 rfl (lv_at hl 3 rfl) ?_
        refine va_aldq hx hb hE.1 hP 1 5 rfl rfl (by unfold vp_in; decide) dX12_inBags_33 ?_
        refine W.eq (g2 := F0 m 34 ls [.ref h5, .ref h2]) (by rw [show (2 : Int32).toNatClampNeg = 2 from rfl, e1_2]; rfl) ?_
        refine va_get (D := D) (ci := 0) (v := .ref h8) (C := RX1) (T := TX1) (N := 2) hx hb hts in_X12_inBags_X1 hown hE.1 hP 5 rfl rfl 1 (by decide +kernel) (hts (.fieldLink RX12 308 "ClauseBook$Bag" "numbers" "[I") (List.mem_of_getElem? (i := 4) rfl)) (fun _ h9 => h9) e5_1 dX12_inBags_34 ?_
        refine lv_iload_n hx hb dX12_inBags_37 rfl (lv_at hl 0 rfl) ?_
        refine va_iald hx hb hE.1 hP 8 0 rfl rfl (by rw [vp_in_iff]; first | omega | (subst_vars; rw [dec1 (by omega)]; omega) | (subst_vars; rw [inc1 (n := 1000) (by omega) (by decide +kernel)]; omega)) dX12_inBags_38 ?_
        refine lv_topi (fun z_4 ez_4 => ?_)
        refine vp_callSi (W.runV (As := [.int z_4]) (rest := []) ⟨hx, hb, hml, hown, hts⟩ (c_X2_has l D T h2 fs2 z_4 n9 e2_0 (by omega)) (cwV 1 hts gX12_inBags_X2_has rfl rfl rfl hv_X2_has ⟨Nat.le_of_ble_eq_true rfl, Nat.le_of_ble_eq_true rfl⟩) (pR_V (q := (RX2, TX2, 8)) (ci := 1) (q0 := 2) hP hE rfl rfl [2] rfl) rfl rfl hl.1 rfl (lv_room (Nat.le_of_ble_eq_true rfl)) dX12_inBags_39 ⟨Nat.le_of_ble_eq_true rfl, Nat.le_of_ble_eq_true rfl⟩) (fun r_5 hr_5 => ?_)
        rcases bool_post hr_5 with ⟨c_6, rfl⟩ | ⟨c_6, rfl⟩
        · refine lv_if_eq (tgt := 48) hx hb dX12_inBags_42 (by decide +kernel) (fun c9 => absurd c9 (by decide +kernel)) (fun _ => ?_)
          obtain ⟨z_7, ez_7⟩ : ∃ y : Int32, y = al + 1 := ⟨_, rfl⟩
          refine lv_iinc (v := z_7) (lv' := [(1, .int z_7), (3, .int ii), (0, .ref h0), (2, .int 2)]) hx hb dX12_inBags_45 hl (k := 1) rfl (by rw [ez_7]; rfl) (by decide +kernel) rfl (fun ls hl => ?_)
          obtain ⟨z_8, ez_8⟩ : ∃ y : Int32, y = ii + 1 := ⟨_, rfl⟩
          refine lv_iinc (v := z_8) (lv' := [(3, .int z_8), (1, .int z_7), (0, .ref h0), (2, .int 2)]) hx hb dX12_inBags_48 hl (k := 1) rfl (by rw [ez_8]; rfl) (by decide +kernel) rfl (fun ls hl => ?_)
          refine lv_goto (tgt := 11) hx hb dX12_inBags_51 (by decide +kernel) ?_
          exact ih (z_8, z_7) ls ⟨lv_sub hl [0, 1, 2, 3] rfl, (by subst_vars; (try dsimp only); rw [inc1 (n := 1000) (by omega) (by decide +kernel)]; omega)⟩ (by subst_vars; (try dsimp only); rw [inc1 (n := 1000) (by omega) (by decide +kernel)]; omega)
        · refine lv_if_eq (tgt := 48) hx hb dX12_inBags_42 (by decide +kernel) (fun _ => ?_) (fun c9 => absurd c9 (by decide +kernel))
          obtain ⟨z_9, ez_9⟩ : ∃ y : Int32, y = ii + 1 := ⟨_, rfl⟩
          refine lv_iinc (v := z_9) (lv' := [(3, .int z_9), (1, .int al), (0, .ref h0), (2, .int 2)]) hx hb dX12_inBags_48 hl (k := 0) rfl (by rw [ez_9]; rfl) (by decide +kernel) rfl (fun ls hl => ?_)
          refine lv_goto (tgt := 11) hx hb dX12_inBags_51 (by decide +kernel) ?_
          exact ih (z_9, al) ls ⟨lv_sub hl [0, 1, 2, 3] rfl, (by subst_vars; (try dsimp only); rw [inc1 (n := 1000) (by omega) (by decide +kernel)]; omega)⟩ (by subst_vars; (try dsimp only); rw [inc1 (n := 1000) (by omega) (by decide +kernel)]; omega)
    · rw [fa_le] at c_2
      refine lv_aload_n hx hb dX12_inBags_24 rfl (lv_at hl 2 rfl) ?_
      refine va_get (D := D) (ci := 9) (v := .ref h2) (C := RX12) (T := TX12) (N := 11) hx hb hts in_X12_inBags_X12 hown hE.1 hP 0 rfl rfl 4 (by decide +kernel) (hts (.fieldLink RX12 32 "ClauseBook" "clauses" "LClauseBook$Clauses;") (List.mem_of_getElem? (i := 3) rfl)) (fun _ h9 => h9) e0_4 dX12_inBags_25 ?_
      refine lv_aload_n hx hb dX12_inBags_28 rfl (lv_at hl 2 rfl) ?_
      refine va_get (D := D) (ci := 9) (v := .ref h1) (C := RX12) (T := TX12) (N := 11) hx hb hts in_X12_inBags_X12 hown hE.1 hP 0 rfl rfl 5 (by decide +kernel) (hts (.fieldLink RX12 37 "ClauseBook" "bags" "[LClauseBook$Bag;") (List.mem_of_getElem? (i := 1) rfl)) (fun _ h9 => h9) e0_5 dX12_inBags_29 ?_
      refine lv_iload_n hx hb dX12_inBags_32 rfl (lv_at hl 3 rfl) ?_
      refine va_aldq hx hb hE.1 hP 1 5 rfl rfl (by unfold vp_in; decide) dX12_inBags_33 ?_
      refine W.eq (g2 := F0 m 34 ls [.ref h4, .ref h2]) (by rw [show (1 : Int32).toNatClampNeg = 1 from rfl, e1_1]; rfl) ?_
      refine va_get (D := D) (ci := 0) (v := .ref h7) (C := RX1) (T := TX1) (N := 2) hx hb hts in_X12_inBags_X1 hown hE.1 hP 4 rfl rfl 1 (by decide +kernel) (hts (.fieldLink RX12 308 "ClauseBook$Bag" "numbers" "[I") (List.mem_of_getElem? (i := 4) rfl)) (fun _ h9 => h9) e4_1 dX12_inBags_34 ?_
      refine lv_iload_n hx hb dX12_inBags_37 rfl (lv_at hl 0 rfl) ?_
      refine va_iald hx hb hE.1 hP 7 0 rfl rfl (by rw [vp_in_iff]; first | omega | (subst_vars; rw [dec1 (by omega)]; omega) | (subst_vars; rw [inc1 (n := 1000) (by omega) (by decide +kernel)]; omega)) dX12_inBags_38 ?_
      refine lv_topi (fun z_10 ez_10 => ?_)
      refine vp_callSi (W.runV (As := [.int z_10]) (rest := []) ⟨hx, hb, hml, hown, hts⟩ (c_X2_has l D T h2 fs2 z_10 n9 e2_0 (by omega)) (cwV 1 hts gX12_inBags_X2_has rfl rfl rfl hv_X2_has ⟨Nat.le_of_ble_eq_true rfl, Nat.le_of_ble_eq_true rfl⟩) (pR_V (q := (RX2, TX2, 8)) (ci := 1) (q0 := 2) hP hE rfl rfl [2] rfl) rfl rfl hl.1 rfl (lv_room (Nat.le_of_ble_eq_true rfl)) dX12_inBags_39 ⟨Nat.le_of_ble_eq_true rfl, Nat.le_of_ble_eq_true rfl⟩) (fun r_11 hr_11 => ?_)
      rcases bool_post hr_11 with ⟨c_12, rfl⟩ | ⟨c_12, rfl⟩
      · refine lv_if_eq (tgt := 48) hx hb dX12_inBags_42 (by decide +kernel) (fun c9 => absurd c9 (by decide +kernel)) (fun _ => ?_)
        obtain ⟨z_13, ez_13⟩ : ∃ y : Int32, y = al + 1 := ⟨_, rfl⟩
        refine lv_iinc (v := z_13) (lv' := [(1, .int z_13), (3, .int ii), (0, .ref h0), (2, .int 1)]) hx hb dX12_inBags_45 hl (k := 1) rfl (by rw [ez_13]; rfl) (by decide +kernel) rfl (fun ls hl => ?_)
        obtain ⟨z_14, ez_14⟩ : ∃ y : Int32, y = ii + 1 := ⟨_, rfl⟩
        refine lv_iinc (v := z_14) (lv' := [(3, .int z_14), (1, .int z_13), (0, .ref h0), (2, .int 1)]) hx hb dX12_inBags_48 hl (k := 1) rfl (by rw [ez_14]; rfl) (by decide +kernel) rfl (fun ls hl => ?_)
        refine lv_goto (tgt := 11) hx hb dX12_inBags_51 (by decide +kernel) ?_
        exact ih (z_14, z_13) ls ⟨lv_sub hl [0, 1, 2, 3] rfl, (by subst_vars; (try dsimp only); rw [inc1 (n := 1000) (by omega) (by decide +kernel)]; omega)⟩ (by subst_vars; (try dsimp only); rw [inc1 (n := 1000) (by omega) (by decide +kernel)]; omega)
      · refine lv_if_eq (tgt := 48) hx hb dX12_inBags_42 (by decide +kernel) (fun _ => ?_) (fun c9 => absurd c9 (by decide +kernel))
        obtain ⟨z_15, ez_15⟩ : ∃ y : Int32, y = ii + 1 := ⟨_, rfl⟩
        refine lv_iinc (v := z_15) (lv' := [(3, .int z_15), (1, .int al), (0, .ref h0), (2, .int 1)]) hx hb dX12_inBags_48 hl (k := 0) rfl (by rw [ez_15]; rfl) (by decide +kernel) rfl (fun ls hl => ?_)
        refine lv_goto (tgt := 11) hx hb dX12_inBags_51 (by decide +kernel) ?_
        exact ih (z_15, al) ls ⟨lv_sub hl [0, 1, 2, 3] rfl, (by subst_vars; (try dsimp only); rw [inc1 (n := 1000) (by omega) (by decide +kernel)]; omega)⟩ (by subst_vars; (try dsimp only); rw [inc1 (n := 1000) (by omega) (by decide +kernel)]; omega)
  · rw [fa_le] at c_1
    refine lv_aload_n hx hb dX12_inBags_24 rfl (lv_at hl 2 rfl) ?_
    refine va_get (D := D) (ci := 9) (v := .ref h2) (C := RX12) (T := TX12) (N := 11) hx hb hts in_X12_inBags_X12 hown hE.1 hP 0 rfl rfl 4 (by decide +kernel) (hts (.fieldLink RX12 32 "ClauseBook" "clauses" "LClauseBook$Clauses;") (List.mem_of_getElem? (i := 3) rfl)) (fun _ h9 => h9) e0_4 dX12_inBags_25 ?_
    refine lv_aload_n hx hb dX12_inBags_28 rfl (lv_at hl 2 rfl) ?_
    refine va_get (D := D) (ci := 9) (v := .ref h1) (C := RX12) (T := TX12) (N := 11) hx hb hts in_X12_inBags_X12 hown hE.1 hP 0 rfl rfl 5 (by decide +kernel) (hts (.fieldLink RX12 37 "ClauseBook" "bags" "[LClauseBook$Bag;") (List.mem_of_getElem? (i := 1) rfl)) (fun _ h9 => h9) e0_5 dX12_inBags_29 ?_
    refine lv_iload_n hx hb dX12_inBags_32 rfl (lv_at hl 3 rfl) ?_
    refine va_aldq hx hb hE.1 hP 1 5 rfl rfl (by unfold vp_in; decide) dX12_inBags_33 ?_
    refine W.eq (g2 := F0 m 34 ls [.ref h3, .ref h2]) (by rw [show (0 : Int32).toNatClampNeg = 0 from rfl, e1_0]; rfl) ?_
    refine va_get (D := D) (ci := 0) (v := .ref h6) (C := RX1) (T := TX1) (N := 2) hx hb hts in_X12_inBags_X1 hown hE.1 hP 3 rfl rfl 1 (by decide +kernel) (hts (.fieldLink RX12 308 "ClauseBook$Bag" "numbers" "[I") (List.mem_of_getElem? (i := 4) rfl)) (fun _ h9 => h9) e3_1 dX12_inBags_34 ?_
    refine lv_iload_n hx hb dX12_inBags_37 rfl (lv_at hl 0 rfl) ?_
    refine va_iald hx hb hE.1 hP 6 0 rfl rfl (by rw [vp_in_iff]; first | omega | (subst_vars; rw [dec1 (by omega)]; omega) | (subst_vars; rw [inc1 (n := 1000) (by omega) (by decide +kernel)]; omega)) dX12_inBags_38 ?_
    refine lv_topi (fun z_16 ez_16 => ?_)
    refine vp_callSi (W.runV (As := [.int z_16]) (rest := []) ⟨hx, hb, hml, hown, hts⟩ (c_X2_has l D T h2 fs2 z_16 n9 e2_0 (by omega)) (cwV 1 hts gX12_inBags_X2_has rfl rfl rfl hv_X2_has ⟨Nat.le_of_ble_eq_true rfl, Nat.le_of_ble_eq_true rfl⟩) (pR_V (q := (RX2, TX2, 8)) (ci := 1) (q0 := 2) hP hE rfl rfl [2] rfl) rfl rfl hl.1 rfl (lv_room (Nat.le_of_ble_eq_true rfl)) dX12_inBags_39 ⟨Nat.le_of_ble_eq_true rfl, Nat.le_of_ble_eq_true rfl⟩) (fun r_17 hr_17 => ?_)
    rcases bool_post hr_17 with ⟨c_18, rfl⟩ | ⟨c_18, rfl⟩
    · refine lv_if_eq (tgt := 48) hx hb dX12_inBags_42 (by decide +kernel) (fun c9 => absurd c9 (by decide +kernel)) (fun _ => ?_)
      obtain ⟨z_19, ez_19⟩ : ∃ y : Int32, y = al + 1 := ⟨_, rfl⟩
      refine lv_iinc (v := z_19) (lv' := [(1, .int z_19), (3, .int ii), (0, .ref h0), (2, .int 0)]) hx hb dX12_inBags_45 hl (k := 1) rfl (by rw [ez_19]; rfl) (by decide +kernel) rfl (fun ls hl => ?_)
      obtain ⟨z_20, ez_20⟩ : ∃ y : Int32, y = ii + 1 := ⟨_, rfl⟩
      refine lv_iinc (v := z_20) (lv' := [(3, .int z_20), (1, .int z_19), (0, .ref h0), (2, .int 0)]) hx hb dX12_inBags_48 hl (k := 1) rfl (by rw [ez_20]; rfl) (by decide +kernel) rfl (fun ls hl => ?_)
      refine lv_goto (tgt := 11) hx hb dX12_inBags_51 (by decide +kernel) ?_
      exact ih (z_20, z_19) ls ⟨lv_sub hl [0, 1, 2, 3] rfl, (by subst_vars; (try dsimp only); rw [inc1 (n := 1000) (by omega) (by decide +kernel)]; omega)⟩ (by subst_vars; (try dsimp only); rw [inc1 (n := 1000) (by omega) (by decide +kernel)]; omega)
    · refine lv_if_eq (tgt := 48) hx hb dX12_inBags_42 (by decide +kernel) (fun _ => ?_) (fun c9 => absurd c9 (by decide +kernel))
      obtain ⟨z_21, ez_21⟩ : ∃ y : Int32, y = ii + 1 := ⟨_, rfl⟩
      refine lv_iinc (v := z_21) (lv' := [(3, .int z_21), (1, .int al), (0, .ref h0), (2, .int 0)]) hx hb dX12_inBags_48 hl (k := 0) rfl (by rw [ez_21]; rfl) (by decide +kernel) rfl (fun ls hl => ?_)
      refine lv_goto (tgt := 11) hx hb dX12_inBags_51 (by decide +kernel) ?_
      exact ih (z_21, al) ls ⟨lv_sub hl [0, 1, 2, 3] rfl, (by subst_vars; (try dsimp only); rw [inc1 (n := 1000) (by omega) (by decide +kernel)]; omega)⟩ (by subst_vars; (try dsimp only); rw [inc1 (n := 1000) (by omega) (by decide +kernel)]; omega)
theorem dX12_count_0 : decode cX12_count 0 = .ok (.iload_n 1, 1) := by decide +kernel
theorem dX12_count_1 : decode cX12_count 1 = .ok (.tableswitch 60 0 3 #[31, 39, 47, 55], 31) := by decide +kernel
theorem dX12_count_32 : decode cX12_count 32 = .ok (.aload_n 0, 1) := by decide +kernel
theorem dX12_count_33 : decode cX12_count 33 = .ok (.getfield 32, 3) := by decide +kernel
theorem dX12_count_36 : decode cX12_count 36 = .ok (.getfield 138, 3) := by decide +kernel
theorem dX12_count_39 : decode cX12_count 39 = .ok (.ireturn, 1) := by decide +kernel
theorem dX12_count_40 : decode cX12_count 40 = .ok (.aload_n 0, 1) := by decide +kernel
theorem dX12_count_41 : decode cX12_count 41 = .ok (.getfield 27, 3) := by decide +kernel
theorem dX12_count_44 : decode cX12_count 44 = .ok (.getfield 81, 3) := by decide +kernel
theorem dX12_count_47 : decode cX12_count 47 = .ok (.ireturn, 1) := by decide +kernel
theorem dX12_count_48 : decode cX12_count 48 = .ok (.aload_n 0, 1) := by decide +kernel
theorem dX12_count_49 : decode cX12_count 49 = .ok (.getfield 32, 3) := by decide +kernel
theorem dX12_count_52 : decode cX12_count 52 = .ok (.invokevirtual 380, 3) := by decide +kernel
theorem dX12_count_55 : decode cX12_count 55 = .ok (.ireturn, 1) := by decide +kernel
theorem dX12_count_56 : decode cX12_count 56 = .ok (.aload_n 0, 1) := by decide +kernel
theorem dX12_count_57 : decode cX12_count 57 = .ok (.invokevirtual 383, 3) := by decide +kernel
theorem dX12_count_60 : decode cX12_count 60 = .ok (.ireturn, 1) := by decide +kernel
theorem dX12_count_61 : decode cX12_count 61 = .ok (.bipush (-2), 2) := by decide +kernel
theorem dX12_count_63 : decode cX12_count 63 = .ok (.ireturn, 1) := by decide +kernel
set_option maxRecDepth 20000 in
theorem ggX12_count_X12_inBags : GoodIn wsX12_count wsX12_inBags := goodIn_r _ [24, 25, 26, 1, 27, 28, 29, 30, 8, 31, 10, 32, 23, 33, 34, 35, 36, 37, 38, 39, 40, 41, 42, 43, 44, 60, 61, 45, 46, 47, 48, 49, 50, 51, 52] rfl (by decide +kernel)
set_option maxRecDepth 20000 in
theorem ggX12_count_X2_unnamed : GoodIn wsX12_count wsX2_unnamed := goodIn_r _ [9, 10, 11, 12, 13, 14, 15, 16, 17, 18, 19, 45, 46, 47, 48, 49, 50, 51, 52] rfl (by decide +kernel)
set_option maxRecDepth 20000 in
theorem gX12_count_X12_inBags : GoodIn wsX12_count (wsV RX12 383 RX12 yX12_inBags wsX12_inBags) := goodIn_app (goodIn_r _ [20, 21, 22, 23] rfl (by decide +kernel)) ggX12_count_X12_inBags
set_option maxRecDepth 20000 in
theorem gX12_count_X2_unnamed : GoodIn wsX12_count (wsV RX12 380 RX2 yX2_unnamed wsX2_unnamed) := goodIn_app (goodIn_r _ [5, 6, 7, 8] rfl (by decide +kernel)) ggX12_count_X2_unnamed
theorem hv_X12_inBags : yX12_inBags.cls = RX12 ∧ yX12_inBags.cls ≠ "java/lang/invoke/MethodHandle" ∧ yX12_inBags.cls ≠ "java/lang/invoke/VarHandle" ∧ (parseMethodDescriptor yX12_inBags.desc).map (fun d => d.parameters.length) = some 0 := by decide +kernel
theorem hv_X2_unnamed : yX2_unnamed.cls = RX2 ∧ yX2_unnamed.cls ≠ "java/lang/invoke/MethodHandle" ∧ yX2_unnamed.cls ≠ "java/lang/invoke/VarHandle" ∧ (parseMethodDescriptor yX2_unnamed.desc).map (fun d => d.parameters.length) = some 0 := by decide +kernel
set_option maxRecDepth 20000 in
theorem in_X12_count_X12 : ∀ w ∈ wsX120, w ∈ wsX12_count := sub_r [34, 35, 36, 37, 38, 39, 40, 41, 42, 43, 44] rfl
set_option maxRecDepth 20000 in
theorem in_X12_count_X2 : ∀ w ∈ wsX20, w ∈ wsX12_count := sub_r [45, 46, 47, 48, 49, 50, 51, 52] rfl
set_option maxRecDepth 20000 in
theorem in_X12_count_X8 : ∀ w ∈ wsX80, w ∈ wsX12_count := sub_r [53, 54, 55, 56, 57, 58, 59] rfl
set_option maxHeartbeats 4000000 in
set_option maxRecDepth 100000 in
theorem c_X12_count (l : Launch) (D : va_G) (T : Nat → ClassId) (h0 : Nat) (fs0 : List Value) (h1 : Nat) (f1 : Nat → Option Nat) (h2 : Nat) (fs2 : List Value) (h3 : Nat) (fs3 : List Value) (h4 : Nat) (fs4 : List Value) (h5 : Nat) (fs5 : List Value) (h6 : Nat) (f6 : Nat → Int32) (h7 : Nat) (f7 : Nat → Int32) (h8 : Nat) (f8 : Nat → Int32) (h9 : Nat) (fs9 : List Value) (h10 : Nat) (f10 : Nat → Int32) (h11 : Nat) (f11 : Nat → Int32) (x1 : Int32) (n9 : Int32) (n0 : Int32) (n1 : Int32) (n2 : Int32) (l0 : Int32) (e0_5 : fs0[5]? = some (.ref h1)) (e0_4 : fs0[4]? = some (.ref h2)) (e0_3 : fs0[3]? = some (.ref h9)) (e1_0 : f1 0 = some h3) (e1_1 : f1 1 = some h4) (e1_2 : f1 2 = some h5) (e2_0 : fs2[0]? = some (.int n9)) (e2_3 : fs2[3]? = some (.ref h10)) (e2_4 : fs2[4]? = some (.ref h11)) (e3_0 : fs3[0]? = some (.int n0)) (e3_1 : fs3[1]? = some (.ref h6)) (e4_0 : fs4[0]? = some (.int n1)) (e4_1 : fs4[1]? = some (.ref h7)) (e5_0 : fs5[0]? = some (.int n2)) (e5_1 : fs5[1]? = some (.ref h8)) (e9_0 : fs9[0]? = some (.int l0)) (hn : 0 ≤ n9.toInt ∧ n9.toInt ≤ 24) (hb0 : 0 ≤ n0.toInt ∧ n0.toInt ≤ 12) (hb1 : 0 ≤ n1.toInt ∧ n1.toInt ≤ 12) (hb2 : 0 ≤ n2.toInt ∧ n2.toInt ≤ 12) : Met l yX12_count wsX12_count ({ frames := 3, cells := 0, slots := 0, locals := 66 }) (pR [.ref h0, .int x1] D T [(h0, .inr (9, fs0)), (h1, .inl (T 5, 3, .inr (.inr (.inr (.inr f1))))), (h2, .inr (1, fs2)), (h3, .inr (0, fs3)), (h4, .inr (0, fs4)), (h5, .inr (0, fs5)), (h6, .inl (T 0, 12, .inl f6)), (h7, .inl (T 0, 12, .inl f7)), (h8, .inl (T 0, 12, .inl f8)), (h9, .inr (5, fs9)), (h10, .inl (T 0, 24, .inl f10)), (h11, .inl (T 0, 24, .inl f11))]) (vp_Si (fun r => True)) 0 0 (fun _ => False) := by
  refine Met.ofW (cc := cX12_count) (maxL := 2) (ret := (some .int)) (by decide +kernel) rfl ?_
  intro p e s m args below meth c s₁ B hml hv
  obtain ⟨rfl, hP, hE⟩ := hv
  have hx := B.exec
  have hb := B.bytes
  have hr := B.returns
  have hts := atoms_spec (ws := wsX12_count) B.pre
  have hown : s.vm.findClass RX12 = some m.cls := findClass_of_methodNamed B.named
  have hlocks := B.notSynchronized
  have hP : va_P D vwCl [(h0, .inr (9, fs0)), (h1, .inl (T 5, 3, .inr (.inr (.inr (.inr f1))))), (h2, .inr (1, fs2)), (h3, .inr (0, fs3)), (h4, .inr (0, fs4)), (h5, .inr (0, fs5)), (h6, .inl (T 0, 12, .inl f6)), (h7, .inl (T 0, 12, .inl f7)), (h8, .inl (T 0, 12, .inl f8)), (h9, .inr (5, fs9)), (h10, .inl (T 0, 24, .inl f10)), (h11, .inl (T 0, 24, .inl f11))] s.heap := hP
  have hl := lv_entry ([.ref h0, .int x1]) (n := 2) (Nat.le_of_ble_eq_true rfl)
  rw [lg_entry_eq]
  generalize (lg_sl ([.ref h0, .int x1]) ++ List.replicate (2 - (lg_sl ([.ref h0, .int x1])).length) Slot.unset).toArray = ls at hl ⊢
  have hl : lv_has ls 2 [(0, .ref h0), (1, .int x1)] := hl
  refine lv_iload_n hx hb dX12_count_0 rfl (lv_at hl 1 rfl) ?_
  by_cases k_1 : x1 = 0
  · subst k_1
    refine lv_tableIn (off := 31) (tgt := 32) hx hb dX12_count_1 (by decide +kernel) (by decide +kernel) (by decide +kernel) (by decide +kernel) ?_
    refine lv_aload_n hx hb dX12_count_32 rfl (lv_at hl 0 rfl) ?_
    refine va_get (D := D) (ci := 9) (v := .ref h2) (C := RX12) (T := TX12) (N := 11) hx hb hts in_X12_count_X12 hown hE.1 hP 0 rfl rfl 4 (by decide +kernel) (hts (.fieldLink RX12 32 "ClauseBook" "clauses" "LClauseBook$Clauses;") (List.mem_of_getElem? (i := 1) rfl)) (fun _ h9 => h9) e0_4 dX12_count_33 ?_
    refine va_get (D := D) (ci := 1) (v := .int n9) (C := RX2) (T := TX2) (N := 8) hx hb hts in_X12_count_X2 hown hE.1 hP 2 rfl rfl 0 (by decide +kernel) (hts (.fieldLink RX12 138 "ClauseBook$Clauses" "size" "I") (List.mem_of_getElem? (i := 2) rfl)) (fun _ h9 => h9) e2_0 dX12_count_36 ?_
    exact W.iret hx hb hr (fun t ht hW => ⟨_, rfl, trivial, ht⟩) (fun _ h => by cases h) dX12_count_39
  by_cases k_2 : x1 = 1
  · subst k_2
    refine lv_tableIn (off := 39) (tgt := 40) hx hb dX12_count_1 (by decide +kernel) (by decide +kernel) (by decide +kernel) (by decide +kernel) ?_
    refine lv_aload_n hx hb dX12_count_40 rfl (lv_at hl 0 rfl) ?_
    refine va_get (D := D) (ci := 9) (v := .ref h9) (C := RX12) (T := TX12) (N := 11) hx hb hts in_X12_count_X12 hown hE.1 hP 0 rfl rfl 3 (by decide +kernel) (hts (.fieldLink RX12 27 "ClauseBook" "lattice" "LClauseBook$Lattice;") (List.mem_of_getElem? (i := 3) rfl)) (fun _ h9 => h9) e0_3 dX12_count_41 ?_
    refine va_get (D := D) (ci := 5) (v := .int l0) (C := RX8) (T := TX8) (N := 7) hx hb hts in_X12_count_X8 hown hE.1 hP 9 rfl rfl 0 (by decide +kernel) (hts (.fieldLink RX12 81 "ClauseBook$Lattice" "start" "I") (List.mem_of_getElem? (i := 4) rfl)) (fun _ h9 => h9) e9_0 dX12_count_44 ?_
    exact W.iret hx hb hr (fun t ht hW => ⟨_, rfl, trivial, ht⟩) (fun _ h => by cases h) dX12_count_47
  by_cases k_3 : x1 = 2
  · subst k_3
    refine lv_tableIn (off := 47) (tgt := 48) hx hb dX12_count_1 (by decide +kernel) (by decide +kernel) (by decide +kernel) (by decide +kernel) ?_
    refine lv_aload_n hx hb dX12_count_48 rfl (lv_at hl 0 rfl) ?_
    refine va_get (D := D) (ci := 9) (v := .ref h2) (C := RX12) (T := TX12) (N := 11) hx hb hts in_X12_count_X12 hown hE.1 hP 0 rfl rfl 4 (by decide +kernel) (hts (.fieldLink RX12 32 "ClauseBook" "clauses" "LClauseBook$Clauses;") (List.mem_of_getElem? (i := 1) rfl)) (fun _ h9 => h9) e0_4 dX12_count_49 ?_
    refine vp_callSi (W.runV (As := []) (rest := []) ⟨hx, hb, hml, hown, hts⟩ (c_X2_unnamed l D T h2 fs2 h10 f10 h11 f11 n9 e2_0 e2_3 e2_4 (by omega)) (cwV 0 hts gX12_count_X2_unnamed rfl rfl rfl hv_X2_unnamed ⟨Nat.le_of_ble_eq_true rfl, Nat.le_of_ble_eq_true rfl⟩) (pR_V (q := (RX2, TX2, 8)) (ci := 1) (q0 := 2) hP hE rfl rfl [2, 10, 11] rfl) rfl rfl hl.1 rfl (lv_room (Nat.le_of_ble_eq_true rfl)) dX12_count_52 ⟨Nat.le_of_ble_eq_true rfl, Nat.le_of_ble_eq_true rfl⟩) (fun r_4 hr_4 => ?_)
    exact W.iret hx hb hr (fun t ht hW => ⟨_, rfl, trivial, ht⟩) (fun _ h => by cases h) dX12_count_55
  by_cases k_5 : x1 = 3
  · subst k_5
    refine lv_tableIn (off := 55) (tgt := 56) hx hb dX12_count_1 (by decide +kernel) (by decide +kernel) (by decide +kernel) (by decide +kernel) ?_
    refine lv_aload_n hx hb dX12_count_56 rfl (lv_at hl 0 rfl) ?_
    refine vp_callSi (W.runV (As := []) (rest := []) ⟨hx, hb, hml, hown, hts⟩ (c_X12_inBags l D T h0 fs0 h1 f1 h2 fs2 h3 fs3 h4 fs4 h5 fs5 h6 f6 h7 f7 h8 f8 n9 n0 n1 n2 e0_5 e0_4 e1_0 e1_1 e1_2 e2_0 e3_0 e3_1 e4_0 e4_1 e5_0 e5_1 (by omega) (by omega) (by omega) (by omega)) (cwV 0 hts gX12_count_X12_inBags rfl rfl rfl hv_X12_inBags ⟨Nat.le_of_ble_eq_true rfl, Nat.le_of_ble_eq_true rfl⟩) (pR_V (q := (RX12, TX12, 11)) (ci := 9) (q0 := 0) hP hE rfl rfl [0, 1, 2, 3, 4, 5, 6, 7, 8] rfl) rfl rfl hl.1 rfl (lv_room (Nat.le_of_ble_eq_true rfl)) dX12_count_57 ⟨Nat.le_of_ble_eq_true rfl, Nat.le_of_ble_eq_true rfl⟩) (fun r_6 hr_6 => ?_)
    exact W.iret hx hb hr (fun t ht hW => ⟨_, rfl, trivial, ht⟩) (fun _ h => by cases h) dX12_count_60
  rw [fa_eq] at k_1 k_2 k_3 k_5
  try simp only [ti_0, ti_1, ti_2, ti_3] at k_1 k_2 k_3 k_5
  refine lv_tableOut (tgt := 61) hx hb dX12_count_1 (by omega) (by decide +kernel) ?_
  refine lv_bipush (v := (-2)) hx hb dX12_count_61 (by decide +kernel) ?_
  exact W.iret hx hb hr (fun t ht hW => ⟨_, rfl, trivial, ht⟩) (fun _ h => by cases h) dX12_count_63
theorem dX12_asClause_0 : decode cX12_asClause 0 = .ok (.iload_n 1, 1) := by decide +kernel
theorem dX12_asClause_1 : decode cX12_asClause 1 = .ok (.invokestatic 352, 3) := by decide +kernel
theorem dX12_asClause_10 : decode cX12_asClause 10 = .ok (.invokestatic 77, 3) := by decide +kernel
theorem dX12_asClause_101 : decode cX12_asClause 101 = .ok (.iaload, 1) := by decide +kernel
theorem dX12_asClause_102 : decode cX12_asClause 102 = .ok (.ireturn, 1) := by decide +kernel
theorem dX12_asClause_13 : decode cX12_asClause 13 = .ok (.ifCond .ne 6, 3) := by decide +kernel
theorem dX12_asClause_16 : decode cX12_asClause 16 = .ok (.bipush (-2), 2) := by decide +kernel
theorem dX12_asClause_18 : decode cX12_asClause 18 = .ok (.ireturn, 1) := by decide +kernel
theorem dX12_asClause_19 : decode cX12_asClause 19 = .ok (.aload_n 0, 1) := by decide +kernel
theorem dX12_asClause_20 : decode cX12_asClause 20 = .ok (.getfield 71, 3) := by decide +kernel
theorem dX12_asClause_23 : decode cX12_asClause 23 = .ok (.iload_n 1, 1) := by decide +kernel
theorem dX12_asClause_24 : decode cX12_asClause 24 = .ok (.aaload, 1) := by decide +kernel
theorem dX12_asClause_25 : decode cX12_asClause 25 = .ok (.astore_n 3, 1) := by decide +kernel
theorem dX12_asClause_26 : decode cX12_asClause 26 = .ok (.aload_n 3, 1) := by decide +kernel
theorem dX12_asClause_27 : decode cX12_asClause 27 = .ok (.getfield 359, 3) := by decide +kernel
theorem dX12_asClause_30 : decode cX12_asClause 30 = .ok (.ifCond .ne 6, 3) := by decide +kernel
theorem dX12_asClause_33 : decode cX12_asClause 33 = .ok (.bipush (-11), 2) := by decide +kernel
theorem dX12_asClause_35 : decode cX12_asClause 35 = .ok (.ireturn, 1) := by decide +kernel
theorem dX12_asClause_36 : decode cX12_asClause 36 = .ok (.aload_n 3, 1) := by decide +kernel
theorem dX12_asClause_37 : decode cX12_asClause 37 = .ok (.getfield 359, 3) := by decide +kernel
theorem dX12_asClause_4 : decode cX12_asClause 4 = .ok (.ifCond .eq 12, 3) := by decide +kernel
theorem dX12_asClause_40 : decode cX12_asClause 40 = .ok (.iconst 1, 1) := by decide +kernel
theorem dX12_asClause_41 : decode cX12_asClause 41 = .ok (.if_icmp .eq 6, 3) := by decide +kernel
theorem dX12_asClause_44 : decode cX12_asClause 44 = .ok (.bipush (-13), 2) := by decide +kernel
theorem dX12_asClause_46 : decode cX12_asClause 46 = .ok (.ireturn, 1) := by decide +kernel
theorem dX12_asClause_47 : decode cX12_asClause 47 = .ok (.aload_n 0, 1) := by decide +kernel
theorem dX12_asClause_48 : decode cX12_asClause 48 = .ok (.getfield 32, 3) := by decide +kernel
theorem dX12_asClause_51 : decode cX12_asClause 51 = .ok (.aload_n 3, 1) := by decide +kernel
theorem dX12_asClause_52 : decode cX12_asClause 52 = .ok (.getfield 360, 3) := by decide +kernel
theorem dX12_asClause_55 : decode cX12_asClause 55 = .ok (.invokevirtual 150, 3) := by decide +kernel
theorem dX12_asClause_58 : decode cX12_asClause 58 = .ok (.ifCond .ne 6, 3) := by decide +kernel
theorem dX12_asClause_61 : decode cX12_asClause 61 = .ok (.bipush (-11), 2) := by decide +kernel
theorem dX12_asClause_63 : decode cX12_asClause 63 = .ok (.ireturn, 1) := by decide +kernel
theorem dX12_asClause_64 : decode cX12_asClause 64 = .ok (.iload_n 2, 1) := by decide +kernel
theorem dX12_asClause_65 : decode cX12_asClause 65 = .ok (.iconst 3, 1) := by decide +kernel
theorem dX12_asClause_66 : decode cX12_asClause 66 = .ok (.if_icmp .eq 24, 3) := by decide +kernel
theorem dX12_asClause_69 : decode cX12_asClause 69 = .ok (.aload_n 0, 1) := by decide +kernel
theorem dX12_asClause_7 : decode cX12_asClause 7 = .ok (.iload_n 2, 1) := by decide +kernel
theorem dX12_asClause_70 : decode cX12_asClause 70 = .ok (.getfield 32, 3) := by decide +kernel
theorem dX12_asClause_73 : decode cX12_asClause 73 = .ok (.aload_n 3, 1) := by decide +kernel
theorem dX12_asClause_74 : decode cX12_asClause 74 = .ok (.getfield 360, 3) := by decide +kernel
theorem dX12_asClause_77 : decode cX12_asClause 77 = .ok (.invokevirtual 175, 3) := by decide +kernel
theorem dX12_asClause_8 : decode cX12_asClause 8 = .ok (.iconst 0, 1) := by decide +kernel
theorem dX12_asClause_80 : decode cX12_asClause 80 = .ok (.getfield 370, 3) := by decide +kernel
theorem dX12_asClause_83 : decode cX12_asClause 83 = .ok (.iload_n 2, 1) := by decide +kernel
theorem dX12_asClause_84 : decode cX12_asClause 84 = .ok (.if_icmp .eq 6, 3) := by decide +kernel
theorem dX12_asClause_87 : decode cX12_asClause 87 = .ok (.bipush (-13), 2) := by decide +kernel
theorem dX12_asClause_89 : decode cX12_asClause 89 = .ok (.ireturn, 1) := by decide +kernel
theorem dX12_asClause_9 : decode cX12_asClause 9 = .ok (.iconst 3, 1) := by decide +kernel
theorem dX12_asClause_90 : decode cX12_asClause 90 = .ok (.aload_n 0, 1) := by decide +kernel
theorem dX12_asClause_91 : decode cX12_asClause 91 = .ok (.getfield 32, 3) := by decide +kernel
theorem dX12_asClause_94 : decode cX12_asClause 94 = .ok (.getfield 153, 3) := by decide +kernel
theorem dX12_asClause_97 : decode cX12_asClause 97 = .ok (.aload_n 3, 1) := by decide +kernel
theorem dX12_asClause_98 : decode cX12_asClause 98 = .ok (.getfield 360, 3) := by decide +kernel
set_option maxRecDepth 20000 in
theorem ggX12_asClause_X12_isHand : GoodIn wsX12_asClause wsX12_isHand := goodIn_r _ [10, 11, 12, 9, 13] rfl (by decide +kernel)
set_option maxRecDepth 20000 in
theorem ggX12_asClause_X12_within : GoodIn wsX12_asClause wsX12_within := goodIn_r _ [13] rfl (by decide +kernel)
set_option maxRecDepth 20000 in
theorem ggX12_asClause_X2_has : GoodIn wsX12_asClause wsX2_has := goodIn_r _ [18, 19, 12, 9, 13, 40, 41, 42, 43, 44, 45, 46, 47] rfl (by decide +kernel)
set_option maxRecDepth 20000 in
theorem ggX12_asClause_X2_kindOf : GoodIn wsX12_asClause wsX2_kindOf := goodIn_r _ [23, 24, 40, 41, 42, 43, 44, 45, 46, 47] rfl (by decide +kernel)
set_option maxRecDepth 20000 in
theorem gX12_asClause_X12_isHand : GoodIn wsX12_asClause (va_wsS RX12 352 yX12_isHand wsX12_isHand) := goodIn_app (goodIn_of _ (by decide +kernel)) ggX12_asClause_X12_isHand
set_option maxRecDepth 20000 in
theorem gX12_asClause_X12_within : GoodIn wsX12_asClause (va_wsS RX12 77 yX12_within wsX12_within) := goodIn_app (goodIn_of _ (by decide +kernel)) ggX12_asClause_X12_within
set_option maxRecDepth 20000 in
theorem gX12_asClause_X2_has : GoodIn wsX12_asClause (wsV RX12 150 RX2 yX2_has wsX2_has) := goodIn_app (goodIn_r _ [14, 15, 16, 17] rfl (by decide +kernel)) ggX12_asClause_X2_has
set_option maxRecDepth 20000 in
theorem gX12_asClause_X2_kindOf : GoodIn wsX12_asClause (wsV RX12 175 RX2 yX2_kindOf wsX2_kindOf) := goodIn_app (goodIn_r _ [20, 21, 22, 17] rfl (by decide +kernel)) ggX12_asClause_X2_kindOf
set_option maxRecDepth 20000 in
theorem in_X12_asClause_X12 : ∀ w ∈ wsX120, w ∈ wsX12_asClause := sub_r [25, 26, 27, 28, 29, 30, 31, 32, 33, 34, 35] rfl
set_option maxRecDepth 20000 in
theorem in_X12_asClause_X2 : ∀ w ∈ wsX20, w ∈ wsX12_asClause := sub_r [40, 41, 42, 43, 44, 45, 46, 47] rfl
set_option maxRecDepth 20000 in
theorem in_X12_asClause_X4 : ∀ w ∈ wsX40, w ∈ wsX12_asClause := sub_r [36, 37, 38, 39] rfl
set_option maxHeartbeats 4000000 in
set_option maxRecDepth 100000 in
theorem c_X12_asClause (l : Launch) (D : va_G) (T : Nat → ClassId) (ad sa av : Nat → Nat) (ta : Nat) (h0 : Nat) (fs0 : List Value) (h1 : Nat) (f1 : Nat → Option Nat) (h2 : Nat) (fs2 : List Value) (h3 : Nat) (fs3 : List Value) (h4 : Nat) (fs4 : List Value) (h5 : Nat) (fs5 : List Value) (h6 : Nat) (fs6 : List Value) (h7 : Nat) (f7 : Nat → Int32) (x1 : Int32) (x2 : Int32) (n9 : Int32) (n0 : Int32) (m0 : Int32) (n1 : Int32) (m1 : Int32) (n2 : Int32) (m2 : Int32) (n3 : Int32) (m3 : Int32) (gc : Nat → Int32) (gd : Nat → Int32) (ge : Nat → Int32) (e0_10 : fs0[10]? = some (.ref h1)) (e0_4 : fs0[4]? = some (.ref h2)) (e1_0 : f1 0 = some h3) (e1_1 : f1 1 = some h4) (e1_2 : f1 2 = some h5) (e1_3 : f1 3 = some h6) (e2_0 : fs2[0]? = some (.int n9)) (e2_1 : fs2[1]? = some (.ref h7)) (e3_0 : fs3[0]? = some (.int n0)) (e3_1 : fs3[1]? = some (.int m0)) (e4_0 : fs4[0]? = some (.int n1)) (e4_1 : fs4[1]? = some (.int m1)) (e5_0 : fs5[0]? = some (.int n2)) (e5_1 : fs5[1]? = some (.int m2)) (e6_0 : fs6[0]? = some (.int n3)) (e6_1 : fs6[1]? = some (.int m3)) (hn : 0 ≤ n9.toInt ∧ n9.toInt ≤ 24) (hok : okC f7 gc gd ge) : Met l yX12_asClause wsX12_asClause ({ frames := 2, cells := 0, slots := 0, locals := 43 }) (pRk [.ref h0, .int x1, .int x2] D T [(h0, .inr (9, fs0)), (h1, .inl (T 7, 4, .inr (.inr (.inr (.inr f1))))), (h2, .inr (1, fs2)), (h3, .inr (3, fs3)), (h4, .inr (3, fs4)), (h5, .inr (3, fs5)), (h6, .inr (3, fs6)), (h7, .inl (T 0, 24, .inl f7))] ad sa av ta) (vp_Si (fun r => asCl n9 x1 x2 ([n0, n1, n2, n3].getD x1.toNatClampNeg 0) ([m0, m1, m2, m3].getD x1.toNatClampNeg 0) f7 r)) 0 0 (fun _ => False) := by
  refine Met.ofW (cc := cX12_asClause) (maxL := 4) (ret := (some .int)) (by decide +kernel) rfl ?_
  intro p e s m args below meth c s₁ B hml hv
  obtain ⟨rfl, hP, hE, hV⟩ := hv
  have hS : va_S (fun _ => False) s.heap s.heap [] := va_S.rf
  have hx := B.exec
  have hb := B.bytes
  have hr := B.returns
  have hts := atoms_spec (ws := wsX12_asClause) B.pre
  have hown : s.vm.findClass RX12 = some m.cls := findClass_of_methodNamed B.named
  have hlocks := B.notSynchronized
  have hP : va_P D vwCl [(h0, .inr (9, fs0)), (h1, .inl (T 7, 4, .inr (.inr (.inr (.inr f1))))), (h2, .inr (1, fs2)), (h3, .inr (3, fs3)), (h4, .inr (3, fs4)), (h5, .inr (3, fs5)), (h6, .inr (3, fs6)), (h7, .inl (T 0, 24, .inl f7))] s.heap := hP
  have hl := lv_entry ([.ref h0, .int x1, .int x2]) (n := 4) (Nat.le_of_ble_eq_true rfl)
  rw [lg_entry_eq]
  generalize (lg_sl ([.ref h0, .int x1, .int x2]) ++ List.replicate (4 - (lg_sl ([.ref h0, .int x1, .int x2])).length) Slot.unset).toArray = ls at hl ⊢
  have hl : lv_has ls 4 [(0, .ref h0), (1, .int x1), (2, .int x2)] := hl
  refine lv_iload_n hx hb dX12_asClause_0 rfl (lv_at hl 1 rfl) ?_
  refine vp_callSi (W.runS (As := [.int x1]) (rest := []) ⟨hx, hb, hml, hown, hts⟩ (c_X12_isHand l D T x1) (va_cwS 1 hts gX12_asClause_X12_isHand rfl rfl rfl hs_X12_isHand ⟨Nat.le_of_ble_eq_true rfl, Nat.le_of_ble_eq_true rfl⟩) (pR_S hP hE [] rfl) rfl rfl hl.1 rfl (lv_room (Nat.le_of_ble_eq_true rfl)) dX12_asClause_1 ⟨Nat.le_of_ble_eq_true rfl, Nat.le_of_ble_eq_true rfl⟩) (fun r_1 hr_1 => ?_)
  rcases bool_post hr_1 with ⟨c_2, rfl⟩ | ⟨c_2, rfl⟩
  · refine lv_if_eq (tgt := 16) hx hb dX12_asClause_4 (by decide +kernel) (fun c9 => absurd c9 (by decide +kernel)) (fun _ => ?_)
    refine lv_iload_n hx hb dX12_asClause_7 rfl (lv_at hl 2 rfl) ?_
    refine lv_iconst (v := 0) hx hb dX12_asClause_8 (by decide +kernel) ?_
    refine lv_iconst (v := 3) hx hb dX12_asClause_9 (by decide +kernel) ?_
    refine vp_callSi (W.runS (As := [.int x2, .int 0, .int 3]) (rest := []) ⟨hx, hb, hml, hown, hts⟩ (c_X12_within l D T x2 0 3 0 3 (by decide +kernel) (by decide +kernel)) (va_cwS 3 hts gX12_asClause_X12_within rfl rfl rfl hs_X12_within ⟨Nat.le_of_ble_eq_true rfl, Nat.le_of_ble_eq_true rfl⟩) (pR_S hP hE [] rfl) rfl rfl hl.1 rfl (lv_room (Nat.le_of_ble_eq_true rfl)) dX12_asClause_10 ⟨Nat.le_of_ble_eq_true rfl, Nat.le_of_ble_eq_true rfl⟩) (fun r_3 hr_3 => ?_)
    rcases bool_post hr_3 with ⟨c_4, rfl⟩ | ⟨c_4, rfl⟩
    · refine lv_if_ne (tgt := 19) hx hb dX12_asClause_13 (by decide +kernel) (fun _ => ?_) (fun c9 => absurd c9 (by decide +kernel))
      refine lv_aload_n hx hb dX12_asClause_19 rfl (lv_at hl 0 rfl) ?_
      refine va_get (D := D) (ci := 9) (v := .ref h1) (C := RX12) (T := TX12) (N := 11) hx hb hts in_X12_asClause_X12 hown hE.1 hP 0 rfl rfl 10 (by decide +kernel) (hts (.fieldLink RX12 71 "ClauseBook" "hands" "[LClauseBook$Hand;") (List.mem_of_getElem? (i := 1) rfl)) (fun _ h9 => h9) e0_10 dX12_asClause_20 ?_
      refine lv_iload_n hx hb dX12_asClause_23 rfl (lv_at hl 1 rfl) ?_
      rcases in4 (x := x1) (by omega) with rfl | rfl | rfl | rfl
      · refine va_aldq hx hb hE.1 hP 1 7 rfl rfl (by unfold vp_in; decide) dX12_asClause_24 ?_
        refine W.eq (g2 := F0 m 25 ls [.ref h3]) (by rw [show (0 : Int32).toNatClampNeg = 0 from rfl, e1_0]; rfl) ?_
        refine lv_astore_n (lv' := [(3, .ref h3), (0, .ref h0), (1, .int 0), (2, .int x2)]) hx hb dX12_asClause_25 rfl hl (by decide +kernel) rfl (fun ls hl => ?_)
        refine lv_aload_n hx hb dX12_asClause_26 rfl (lv_at hl 0 rfl) ?_
        refine va_get (D := D) (ci := 3) (v := .int n0) (C := RX4) (T := TX4) (N := 4) hx hb hts in_X12_asClause_X4 hown hE.1 hP 3 rfl rfl 0 (by decide +kernel) (hts (.fieldLink RX12 359 "ClauseBook$Hand" "sort" "I") (List.mem_of_getElem? (i := 2) rfl)) (fun _ h9 => h9) e3_0 dX12_asClause_27 ?_
        refine lv_if_ne (tgt := 36) hx hb dX12_asClause_30 (by decide +kernel) (fun c_5 => ?_) (fun c_5 => ?_)
        · rw [fa_eq] at c_5
          try rw [ti_0] at c_5
          refine lv_aload_n hx hb dX12_asClause_36 rfl (lv_at hl 0 rfl) ?_
          refine va_get (D := D) (ci := 3) (v := .int n0) (C := RX4) (T := TX4) (N := 4) hx hb hts in_X12_asClause_X4 hown hE.1 hP 3 rfl rfl 0 (by decide +kernel) (hts (.fieldLink RX12 359 "ClauseBook$Hand" "sort" "I") (List.mem_of_getElem? (i := 2) rfl)) (fun _ h9 => h9) e3_0 dX12_asClause_37 ?_
          refine lv_iconst (v := 1) hx hb dX12_asClause_40 (by decide +kernel) ?_
          refine lv_icmp_eq (tgt := 47) hx hb dX12_asClause_41 (by decide +kernel) (fun c_6 => ?_) (fun c_6 => ?_)
          · rw [fa_eq] at c_6
            try rw [ti_1] at c_6
            refine lv_aload_n hx hb dX12_asClause_47 rfl (lv_at hl 1 rfl) ?_
            refine va_get (D := D) (ci := 9) (v := .ref h2) (C := RX12) (T := TX12) (N := 11) hx hb hts in_X12_asClause_X12 hown hE.1 hP 0 rfl rfl 4 (by decide +kernel) (hts (.fieldLink RX12 32 "ClauseBook" "clauses" "LClauseBook$Clauses;") (List.mem_of_getElem? (i := 3) rfl)) (fun _ h9 => h9) e0_4 dX12_asClause_48 ?_
            refine lv_aload_n hx hb dX12_asClause_51 rfl (lv_at hl 0 rfl) ?_
            refine va_get (D := D) (ci := 3) (v := .int m0) (C := RX4) (T := TX4) (N := 4) hx hb hts in_X12_asClause_X4 hown hE.1 hP 3 rfl rfl 1 (by decide +kernel) (hts (.fieldLink RX12 360 "ClauseBook$Hand" "number" "I") (List.mem_of_getElem? (i := 4) rfl)) (fun _ h9 => h9) e3_1 dX12_asClause_52 ?_
            refine vp_callSi (W.runV (As := [.int m0]) (rest := []) ⟨hx, hb, hml, hown, hts⟩ (c_X2_has l D T h2 fs2 m0 n9 e2_0 (by omega)) (cwV 1 hts gX12_asClause_X2_has rfl rfl rfl hv_X2_has ⟨Nat.le_of_ble_eq_true rfl, Nat.le_of_ble_eq_true rfl⟩) (pR_V (q := (RX2, TX2, 8)) (ci := 1) (q0 := 2) hP hE rfl rfl [2] rfl) rfl rfl hl.1 rfl (lv_room (Nat.le_of_ble_eq_true rfl)) dX12_asClause_55 ⟨Nat.le_of_ble_eq_true rfl, Nat.le_of_ble_eq_true rfl⟩) (fun r_7 hr_7 => ?_)
            rcases bool_post hr_7 with ⟨c_8, rfl⟩ | ⟨c_8, rfl⟩
            · refine lv_if_ne (tgt := 64) hx hb dX12_asClause_58 (by decide +kernel) (fun _ => ?_) (fun c9 => absurd c9 (by decide +kernel))
              refine lv_iload_n hx hb dX12_asClause_64 rfl (lv_at hl 3 rfl) ?_
              refine lv_iconst (v := 3) hx hb dX12_asClause_65 (by decide +kernel) ?_
              refine lv_icmp_eq (tgt := 90) hx hb dX12_asClause_66 (by decide +kernel) (fun c_9 => ?_) (fun c_9 => ?_)
              · rw [fa_eq] at c_9
                try rw [ti_3] at c_9
                refine lv_aload_n hx hb dX12_asClause_90 rfl (lv_at hl 1 rfl) ?_
                refine va_get (D := D) (ci := 9) (v := .ref h2) (C := RX12) (T := TX12) (N := 11) hx hb hts in_X12_asClause_X12 hown hE.1 hP 0 rfl rfl 4 (by decide +kernel) (hts (.fieldLink RX12 32 "ClauseBook" "clauses" "LClauseBook$Clauses;") (List.mem_of_getElem? (i := 3) rfl)) (fun _ h9 => h9) e0_4 dX12_asClause_91 ?_
                refine va_get (D := D) (ci := 1) (v := .ref h7) (C := RX2) (T := TX2) (N := 8) hx hb hts in_X12_asClause_X2 hown hE.1 hP 2 rfl rfl 1 (by decide +kernel) (hts (.fieldLink RX12 153 "ClauseBook$Clauses" "kind" "[I") (List.mem_of_getElem? (i := 6) rfl)) (fun _ h9 => h9) e2_1 dX12_asClause_94 ?_
                refine lv_aload_n hx hb dX12_asClause_97 rfl (lv_at hl 0 rfl) ?_
                refine va_get (D := D) (ci := 3) (v := .int m0) (C := RX4) (T := TX4) (N := 4) hx hb hts in_X12_asClause_X4 hown hE.1 hP 3 rfl rfl 1 (by decide +kernel) (hts (.fieldLink RX12 360 "ClauseBook$Hand" "number" "I") (List.mem_of_getElem? (i := 4) rfl)) (fun _ h9 => h9) e3_1 dX12_asClause_98 ?_
                refine va_iald hx hb hE.1 hP 7 0 rfl rfl (by rw [vp_in_iff]; first | omega | (subst_vars; omega)) dX12_asClause_101 ?_
                refine lv_topi (fun z_10 ez_10 => ?_)
                exact W.iret hx hb hr (fun t ht hW => ⟨_, rfl, (Or.inr ⟨⟨⟨by decide, by decide⟩, by omega⟩, Or.inr (Or.inr (Or.inr (Or.inr ⟨(show (n0).toInt = 1 from by omega), (show 0 ≤ (m0).toInt ∧ (m0).toInt < n9.toInt from by omega), (show ¬ (¬ x2.toInt = 3 ∧ ¬ (nmT (f7 ((m0).toNatClampNeg)).toNatClampNeg).toInt = x2.toInt) from by omega), (congrArg Int32.toInt ez_10)⟩)))⟩), ht⟩) (fun _ h => by cases h) dX12_asClause_102
              · rw [fa_eq] at c_9
                try rw [ti_3] at c_9
                refine lv_aload_n hx hb dX12_asClause_69 rfl (lv_at hl 1 rfl) ?_
                refine va_get (D := D) (ci := 9) (v := .ref h2) (C := RX12) (T := TX12) (N := 11) hx hb hts in_X12_asClause_X12 hown hE.1 hP 0 rfl rfl 4 (by decide +kernel) (hts (.fieldLink RX12 32 "ClauseBook" "clauses" "LClauseBook$Clauses;") (List.mem_of_getElem? (i := 3) rfl)) (fun _ h9 => h9) e0_4 dX12_asClause_70 ?_
                refine lv_aload_n hx hb dX12_asClause_73 rfl (lv_at hl 0 rfl) ?_
                refine va_get (D := D) (ci := 3) (v := .int m0) (C := RX4) (T := TX4) (N := 4) hx hb hts in_X12_asClause_X4 hown hE.1 hP 3 rfl rfl 1 (by decide +kernel) (hts (.fieldLink RX12 360 "ClauseBook$Hand" "number" "I") (List.mem_of_getElem? (i := 4) rfl)) (fun _ h9 => h9) e3_1 dX12_asClause_74 ?_
                refine va_cse (W.runV (As := [.int m0]) (rest := []) ⟨hx, hb, hml, hown, hts⟩ (c_X2_kindOf l D T ad sa av ta h2 fs2 h7 f7 m0 e2_1 (by omega) ((hok _ (in24 (x := m0) (by omega)).1).1)) (cwV 1 hts gX12_asClause_X2_kindOf rfl rfl rfl hv_X2_kindOf ⟨Nat.le_of_ble_eq_true rfl, Nat.le_of_ble_eq_true rfl⟩) (pRk_V (q := (RX2, TX2, 8)) (ci := 1) (q0 := 2) hP hE hV hS rfl rfl [2, 7] rfl) rfl rfl hl.1 rfl (lv_room (Nat.le_of_ble_eq_true rfl)) dX12_asClause_77 ⟨Nat.le_of_ble_eq_true rfl, Nat.le_of_ble_eq_true rfl⟩) (fun r_11 hr_11 => ?_)
                subst hr_11
                refine W.eq (g2 := F0 m 80 ls [.ref (ad ((f7 (m0.toNatClampNeg)).toNatClampNeg))]) rfl ?_
                refine va_getE (i := ((f7 (m0.toNatClampNeg)).toNatClampNeg)) hx hb hV.1.1 (in13c ((hok _ (in24 (x := m0) (by omega)).1).1)) hS hown (q := kdQ "names" [0, 0, 1, 1, 1, 2, 2, 2, 1, 2, 1, 1, 2]) (List.mem_of_getElem? (i := 0) rfl) (hts (.fieldLink RX12 370 "ClauseBook$Kind" "names" "I") (List.mem_of_getElem? (i := 5) rfl)) (fun _ h9 => h9) dX12_asClause_80 ?_
                refine W.eq (g2 := F0 m 83 ls [.int (nmT ((f7 (m0.toNatClampNeg)).toNatClampNeg))]) rfl ?_
                refine lv_iload_n hx hb dX12_asClause_83 rfl (lv_at hl 3 rfl) ?_
                refine lv_icmp_eq (tgt := 90) hx hb dX12_asClause_84 (by decide +kernel) (fun c_12 => ?_) (fun c_12 => ?_)
                · rw [fa_eq] at c_12
                  refine lv_aload_n hx hb dX12_asClause_90 rfl (lv_at hl 1 rfl) ?_
                  refine va_get (D := D) (ci := 9) (v := .ref h2) (C := RX12) (T := TX12) (N := 11) hx hb hts in_X12_asClause_X12 hown hE.1 hP 0 rfl rfl 4 (by decide +kernel) (hts (.fieldLink RX12 32 "ClauseBook" "clauses" "LClauseBook$Clauses;") (List.mem_of_getElem? (i := 3) rfl)) (fun _ h9 => h9) e0_4 dX12_asClause_91 ?_
                  refine va_get (D := D) (ci := 1) (v := .ref h7) (C := RX2) (T := TX2) (N := 8) hx hb hts in_X12_asClause_X2 hown hE.1 hP 2 rfl rfl 1 (by decide +kernel) (hts (.fieldLink RX12 153 "ClauseBook$Clauses" "kind" "[I") (List.mem_of_getElem? (i := 6) rfl)) (fun _ h9 => h9) e2_1 dX12_asClause_94 ?_
                  refine lv_aload_n hx hb dX12_asClause_97 rfl (lv_at hl 0 rfl) ?_
                  refine va_get (D := D) (ci := 3) (v := .int m0) (C := RX4) (T := TX4) (N := 4) hx hb hts in_X12_asClause_X4 hown hE.1 hP 3 rfl rfl 1 (by decide +kernel) (hts (.fieldLink RX12 360 "ClauseBook$Hand" "number" "I") (List.mem_of_getElem? (i := 4) rfl)) (fun _ h9 => h9) e3_1 dX12_asClause_98 ?_
                  refine va_iald hx hb hE.1 hP 7 0 rfl rfl (by rw [vp_in_iff]; first | omega | (subst_vars; omega)) dX12_asClause_101 ?_
                  refine lv_topi (fun z_13 ez_13 => ?_)
                  exact W.iret hx hb hr (fun t ht hW => ⟨_, rfl, (Or.inr ⟨⟨⟨by decide, by decide⟩, by omega⟩, Or.inr (Or.inr (Or.inr (Or.inr ⟨(show (n0).toInt = 1 from by omega), (show 0 ≤ (m0).toInt ∧ (m0).toInt < n9.toInt from by omega), (show ¬ (¬ x2.toInt = 3 ∧ ¬ (nmT (f7 ((m0).toNatClampNeg)).toNatClampNeg).toInt = x2.toInt) from by omega), (congrArg Int32.toInt ez_13)⟩)))⟩), ht⟩) (fun _ h => by cases h) dX12_asClause_102
                · rw [fa_eq] at c_12
                  refine lv_bipush (v := (-13)) hx hb dX12_asClause_87 (by decide +kernel) ?_
                  exact W.iret hx hb hr (fun t ht hW => ⟨_, rfl, (Or.inr ⟨⟨⟨by decide, by decide⟩, by omega⟩, Or.inr (Or.inr (Or.inr (Or.inl ⟨(show (n0).toInt = 1 from by omega), (show 0 ≤ (m0).toInt ∧ (m0).toInt < n9.toInt from by omega), ⟨by omega, (show ¬ (nmT (f7 ((m0).toNatClampNeg)).toNatClampNeg).toInt = x2.toInt from by omega)⟩, (by decide +kernel)⟩)))⟩), ht⟩) (fun _ h => by cases h) dX12_asClause_89
            · refine lv_if_ne (tgt := 64) hx hb dX12_asClause_58 (by decide +kernel) (fun c9 => absurd c9 (by decide +kernel)) (fun _ => ?_)
              refine lv_bipush (v := (-11)) hx hb dX12_asClause_61 (by decide +kernel) ?_
              exact W.iret hx hb hr (fun t ht hW => ⟨_, rfl, (Or.inr ⟨⟨⟨by decide, by decide⟩, by omega⟩, Or.inr (Or.inr (Or.inl ⟨(show (n0).toInt = 1 from by omega), (show ¬ (0 ≤ (m0).toInt ∧ (m0).toInt < n9.toInt) from by omega), (by decide +kernel)⟩))⟩), ht⟩) (fun _ h => by cases h) dX12_asClause_63
          · rw [fa_eq] at c_6
            try rw [ti_1] at c_6
            refine lv_bipush (v := (-13)) hx hb dX12_asClause_44 (by decide +kernel) ?_
            exact W.iret hx hb hr (fun t ht hW => ⟨_, rfl, (Or.inr ⟨⟨⟨by decide, by decide⟩, by omega⟩, Or.inr (Or.inl ⟨(show ¬ (n0).toInt = 0 from by omega), (show ¬ (n0).toInt = 1 from by omega), (by decide +kernel)⟩)⟩), ht⟩) (fun _ h => by cases h) dX12_asClause_46
        · rw [fa_eq] at c_5
          try rw [ti_0] at c_5
          refine lv_bipush (v := (-11)) hx hb dX12_asClause_33 (by decide +kernel) ?_
          exact W.iret hx hb hr (fun t ht hW => ⟨_, rfl, (Or.inr ⟨⟨⟨by decide, by decide⟩, by omega⟩, Or.inl ⟨(show (n0).toInt = 0 from by omega), (by decide +kernel)⟩⟩), ht⟩) (fun _ h => by cases h) dX12_asClause_35
      · refine va_aldq hx hb hE.1 hP 1 7 rfl rfl (by unfold vp_in; decide) dX12_asClause_24 ?_
        refine W.eq (g2 := F0 m 25 ls [.ref h4]) (by rw [show (1 : Int32).toNatClampNeg = 1 from rfl, e1_1]; rfl) ?_
        refine lv_astore_n (lv' := [(3, .ref h4), (0, .ref h0), (1, .int 1), (2, .int x2)]) hx hb dX12_asClause_25 rfl hl (by decide +kernel) rfl (fun ls hl => ?_)
        refine lv_aload_n hx hb dX12_asClause_26 rfl (lv_at hl 0 rfl) ?_
        refine va_get (D := D) (ci := 3) (v := .int n1) (C := RX4) (T := TX4) (N := 4) hx hb hts in_X12_asClause_X4 hown hE.1 hP 4 rfl rfl 0 (by decide +kernel) (hts (.fieldLink RX12 359 "ClauseBook$Hand" "sort" "I") (List.mem_of_getElem? (i := 2) rfl)) (fun _ h9 => h9) e4_0 dX12_asClause_27 ?_
        refine lv_if_ne (tgt := 36) hx hb dX12_asClause_30 (by decide +kernel) (fun c_14 => ?_) (fun c_14 => ?_)
        · rw [fa_eq] at c_14
          try rw [ti_0] at c_14
          refine lv_aload_n hx hb dX12_asClause_36 rfl (lv_at hl 0 rfl) ?_
          refine va_get (D := D) (ci := 3) (v := .int n1) (C := RX4) (T := TX4) (N := 4) hx hb hts in_X12_asClause_X4 hown hE.1 hP 4 rfl rfl 0 (by decide +kernel) (hts (.fieldLink RX12 359 "ClauseBook$Hand" "sort" "I") (List.mem_of_getElem? (i := 2) rfl)) (fun _ h9 => h9) e4_0 dX12_asClause_37 ?_
          refine lv_iconst (v := 1) hx hb dX12_asClause_40 (by decide +kernel) ?_
          refine lv_icmp_eq (tgt := 47) hx hb dX12_asClause_41 (by decide +kernel) (fun c_15 => ?_) (fun c_15 => ?_)
          · rw [fa_eq] at c_15
            try rw [ti_1] at c_15
            refine lv_aload_n hx hb dX12_asClause_47 rfl (lv_at hl 1 rfl) ?_
            refine va_get (D := D) (ci := 9) (v := .ref h2) (C := RX12) (T := TX12) (N := 11) hx hb hts in_X12_asClause_X12 hown hE.1 hP 0 rfl rfl 4 (by decide +kernel) (hts (.fieldLink RX12 32 "ClauseBook" "clauses" "LClauseBook$Clauses;") (List.mem_of_getElem? (i := 3) rfl)) (fun _ h9 => h9) e0_4 dX12_asClause_48 ?_
            refine lv_aload_n hx hb dX12_asClause_51 rfl (lv_at hl 0 rfl) ?_
            refine va_get (D := D) (ci := 3) (v := .int m1) (C := RX4) (T := TX4) (N := 4) hx hb hts in_X12_asClause_X4 hown hE.1 hP 4 rfl rfl 1 (by decide +kernel) (hts (.fieldLink RX12 360 "ClauseBook$Hand" "number" "I") (List.mem_of_getElem? (i := 4) rfl)) (fun _ h9 => h9) e4_1 dX12_asClause_52 ?_
            refine vp_callSi (W.runV (As := [.int m1]) (rest := []) ⟨hx, hb, hml, hown, hts⟩ (c_X2_has l D T h2 fs2 m1 n9 e2_0 (by omega)) (cwV 1 hts gX12_asClause_X2_has rfl rfl rfl hv_X2_has ⟨Nat.le_of_ble_eq_true rfl, Nat.le_of_ble_eq_true rfl⟩) (pR_V (q := (RX2, TX2, 8)) (ci := 1) (q0 := 2) hP hE rfl rfl [2] rfl) rfl rfl hl.1 rfl (lv_room (Nat.le_of_ble_eq_true rfl)) dX12_asClause_55 ⟨Nat.le_of_ble_eq_true rfl, Nat.le_of_ble_eq_true rfl⟩) (fun r_16 hr_16 => ?_)
            rcases bool_post hr_16 with ⟨c_17, rfl⟩ | ⟨c_17, rfl⟩
            · refine lv_if_ne (tgt := 64) hx hb dX12_asClause_58 (by decide +kernel) (fun _ => ?_) (fun c9 => absurd c9 (by decide +kernel))
              refine lv_iload_n hx hb dX12_asClause_64 rfl (lv_at hl 3 rfl) ?_
              refine lv_iconst (v := 3) hx hb dX12_asClause_65 (by decide +kernel) ?_
              refine lv_icmp_eq (tgt := 90) hx hb dX12_asClause_66 (by decide +kernel) (fun c_18 => ?_) (fun c_18 => ?_)
              · rw [fa_eq] at c_18
                try rw [ti_3] at c_18
                refine lv_aload_n hx hb dX12_asClause_90 rfl (lv_at hl 1 rfl) ?_
                refine va_get (D := D) (ci := 9) (v := .ref h2) (C := RX12) (T := TX12) (N := 11) hx hb hts in_X12_asClause_X12 hown hE.1 hP 0 rfl rfl 4 (by decide +kernel) (hts (.fieldLink RX12 32 "ClauseBook" "clauses" "LClauseBook$Clauses;") (List.mem_of_getElem? (i := 3) rfl)) (fun _ h9 => h9) e0_4 dX12_asClause_91 ?_
                refine va_get (D := D) (ci := 1) (v := .ref h7) (C := RX2) (T := TX2) (N := 8) hx hb hts in_X12_asClause_X2 hown hE.1 hP 2 rfl rfl 1 (by decide +kernel) (hts (.fieldLink RX12 153 "ClauseBook$Clauses" "kind" "[I") (List.mem_of_getElem? (i := 6) rfl)) (fun _ h9 => h9) e2_1 dX12_asClause_94 ?_
                refine lv_aload_n hx hb dX12_asClause_97 rfl (lv_at hl 0 rfl) ?_
                refine va_get (D := D) (ci := 3) (v := .int m1) (C := RX4) (T := TX4) (N := 4) hx hb hts in_X12_asClause_X4 hown hE.1 hP 4 rfl rfl 1 (by decide +kernel) (hts (.fieldLink RX12 360 "ClauseBook$Hand" "number" "I") (List.mem_of_getElem? (i := 4) rfl)) (fun _ h9 => h9) e4_1 dX12_asClause_98 ?_
                refine va_iald hx hb hE.1 hP 7 0 rfl rfl (by rw [vp_in_iff]; first | omega | (subst_vars; omega)) dX12_asClause_101 ?_
                refine lv_topi (fun z_19 ez_19 => ?_)
                exact W.iret hx hb hr (fun t ht hW => ⟨_, rfl, (Or.inr ⟨⟨⟨by decide, by decide⟩, by omega⟩, Or.inr (Or.inr (Or.inr (Or.inr ⟨(show (n1).toInt = 1 from by omega), (show 0 ≤ (m1).toInt ∧ (m1).toInt < n9.toInt from by omega), (show ¬ (¬ x2.toInt = 3 ∧ ¬ (nmT (f7 ((m1).toNatClampNeg)).toNatClampNeg).toInt = x2.toInt) from by omega), (congrArg Int32.toInt ez_19)⟩)))⟩), ht⟩) (fun _ h => by cases h) dX12_asClause_102
              · rw [fa_eq] at c_18
                try rw [ti_3] at c_18
                refine lv_aload_n hx hb dX12_asClause_69 rfl (lv_at hl 1 rfl) ?_
                refine va_get (D := D) (ci := 9) (v := .ref h2) (C := RX12) (T := TX12) (N := 11) hx hb hts in_X12_asClause_X12 hown hE.1 hP 0 rfl rfl 4 (by decide +kernel) (hts (.fieldLink RX12 32 "ClauseBook" "clauses" "LClauseBook$Clauses;") (List.mem_of_getElem? (i := 3) rfl)) (fun _ h9 => h9) e0_4 dX12_asClause_70 ?_
                refine lv_aload_n hx hb dX12_asClause_73 rfl (lv_at hl 0 rfl) ?_
                refine va_get (D := D) (ci := 3) (v := .int m1) (C := RX4) (T := TX4) (N := 4) hx hb hts in_X12_asClause_X4 hown hE.1 hP 4 rfl rfl 1 (by decide +kernel) (hts (.fieldLink RX12 360 "ClauseBook$Hand" "number" "I") (List.mem_of_getElem? (i := 4) rfl)) (fun _ h9 => h9) e4_1 dX12_asClause_74 ?_
                refine va_cse (W.runV (As := [.int m1]) (rest := []) ⟨hx, hb, hml, hown, hts⟩ (c_X2_kindOf l D T ad sa av ta h2 fs2 h7 f7 m1 e2_1 (by omega) ((hok _ (in24 (x := m1) (by omega)).1).1)) (cwV 1 hts gX12_asClause_X2_kindOf rfl rfl rfl hv_X2_kindOf ⟨Nat.le_of_ble_eq_true rfl, Nat.le_of_ble_eq_true rfl⟩) (pRk_V (q := (RX2, TX2, 8)) (ci := 1) (q0 := 2) hP hE hV hS rfl rfl [2, 7] rfl) rfl rfl hl.1 rfl (lv_room (Nat.le_of_ble_eq_true rfl)) dX12_asClause_77 ⟨Nat.le_of_ble_eq_true rfl, Nat.le_of_ble_eq_true rfl⟩) (fun r_20 hr_20 => ?_)
                subst hr_20
                refine W.eq (g2 := F0 m 80 ls [.ref (ad ((f7 (m1.toNatClampNeg)).toNatClampNeg))]) rfl ?_
                refine va_getE (i := ((f7 (m1.toNatClampNeg)).toNatClampNeg)) hx hb hV.1.1 (in13c ((hok _ (in24 (x := m1) (by omega)).1).1)) hS hown (q := kdQ "names" [0, 0, 1, 1, 1, 2, 2, 2, 1, 2, 1, 1, 2]) (List.mem_of_getElem? (i := 0) rfl) (hts (.fieldLink RX12 370 "ClauseBook$Kind" "names" "I") (List.mem_of_getElem? (i := 5) rfl)) (fun _ h9 => h9) dX12_asClause_80 ?_
                refine W.eq (g2 := F0 m 83 ls [.int (nmT ((f7 (m1.toNatClampNeg)).toNatClampNeg))]) rfl ?_
                refine lv_iload_n hx hb dX12_asClause_83 rfl (lv_at hl 3 rfl) ?_
                refine lv_icmp_eq (tgt := 90) hx hb dX12_asClause_84 (by decide +kernel) (fun c_21 => ?_) (fun c_21 => ?_)
                · rw [fa_eq] at c_21
                  refine lv_aload_n hx hb dX12_asClause_90 rfl (lv_at hl 1 rfl) ?_
                  refine va_get (D := D) (ci := 9) (v := .ref h2) (C := RX12) (T := TX12) (N := 11) hx hb hts in_X12_asClause_X12 hown hE.1 hP 0 rfl rfl 4 (by decide +kernel) (hts (.fieldLink RX12 32 "ClauseBook" "clauses" "LClauseBook$Clauses;") (List.mem_of_getElem? (i := 3) rfl)) (fun _ h9 => h9) e0_4 dX12_asClause_91 ?_
                  refine va_get (D := D) (ci := 1) (v := .ref h7) (C := RX2) (T := TX2) (N := 8) hx hb hts in_X12_asClause_X2 hown hE.1 hP 2 rfl rfl 1 (by decide +kernel) (hts (.fieldLink RX12 153 "ClauseBook$Clauses" "kind" "[I") (List.mem_of_getElem? (i := 6) rfl)) (fun _ h9 => h9) e2_1 dX12_asClause_94 ?_
                  refine lv_aload_n hx hb dX12_asClause_97 rfl (lv_at hl 0 rfl) ?_
                  refine va_get (D := D) (ci := 3) (v := .int m1) (C := RX4) (T := TX4) (N := 4) hx hb hts in_X12_asClause_X4 hown hE.1 hP 4 rfl rfl 1 (by decide +kernel) (hts (.fieldLink RX12 360 "ClauseBook$Hand" "number" "I") (List.mem_of_getElem? (i := 4) rfl)) (fun _ h9 => h9) e4_1 dX12_asClause_98 ?_
                  refine va_iald hx hb hE.1 hP 7 0 rfl rfl (by rw [vp_in_iff]; first | omega | (subst_vars; omega)) dX12_asClause_101 ?_
                  refine lv_topi (fun z_22 ez_22 => ?_)
                  exact W.iret hx hb hr (fun t ht hW => ⟨_, rfl, (Or.inr ⟨⟨⟨by decide, by decide⟩, by omega⟩, Or.inr (Or.inr (Or.inr (Or.inr ⟨(show (n1).toInt = 1 from by omega), (show 0 ≤ (m1).toInt ∧ (m1).toInt < n9.toInt from by omega), (show ¬ (¬ x2.toInt = 3 ∧ ¬ (nmT (f7 ((m1).toNatClampNeg)).toNatClampNeg).toInt = x2.toInt) from by omega), (congrArg Int32.toInt ez_22)⟩)))⟩), ht⟩) (fun _ h => by cases h) dX12_asClause_102
                · rw [fa_eq] at c_21
                  refine lv_bipush (v := (-13)) hx hb dX12_asClause_87 (by decide +kernel) ?_
                  exact W.iret hx hb hr (fun t ht hW => ⟨_, rfl, (Or.inr ⟨⟨⟨by decide, by decide⟩, by omega⟩, Or.inr (Or.inr (Or.inr (Or.inl ⟨(show (n1).toInt = 1 from by omega), (show 0 ≤ (m1).toInt ∧ (m1).toInt < n9.toInt from by omega), ⟨by omega, (show ¬ (nmT (f7 ((m1).toNatClampNeg)).toNatClampNeg).toInt = x2.toInt from by omega)⟩, (by decide +kernel)⟩)))⟩), ht⟩) (fun _ h => by cases h) dX12_asClause_89
            · refine lv_if_ne (tgt := 64) hx hb dX12_asClause_58 (by decide +kernel) (fun c9 => absurd c9 (by decide +kernel)) (fun _ => ?_)
              refine lv_bipush (v := (-11)) hx hb dX12_asClause_61 (by decide +kernel) ?_
              exact W.iret hx hb hr (fun t ht hW => ⟨_, rfl, (Or.inr ⟨⟨⟨by decide, by decide⟩, by omega⟩, Or.inr (Or.inr (Or.inl ⟨(show (n1).toInt = 1 from by omega), (show ¬ (0 ≤ (m1).toInt ∧ (m1).toInt < n9.toInt) from by omega), (by decide +kernel)⟩))⟩), ht⟩) (fun _ h => by cases h) dX12_asClause_63
          · rw [fa_eq] at c_15
            try rw [ti_1] at c_15
            refine lv_bipush (v := (-13)) hx hb dX12_asClause_44 (by decide +kernel) ?_
            exact W.iret hx hb hr (fun t ht hW => ⟨_, rfl, (Or.inr ⟨⟨⟨by decide, by decide⟩, by omega⟩, Or.inr (Or.inl ⟨(show ¬ (n1).toInt = 0 from by omega), (show ¬ (n1).toInt = 1 from by omega), (by decide +kernel)⟩)⟩), ht⟩) (fun _ h => by cases h) dX12_asClause_46
        · rw [fa_eq] at c_14
          try rw [ti_0] at c_14
          refine lv_bipush (v := (-11)) hx hb dX12_asClause_33 (by decide +kernel) ?_
          exact W.iret hx hb hr (fun t ht hW => ⟨_, rfl, (Or.inr ⟨⟨⟨by decide, by decide⟩, by omega⟩, Or.inl ⟨(show (n1).toInt = 0 from by omega), (by decide +kernel)⟩⟩), ht⟩) (fun _ h => by cases h) dX12_asClause_35
      · refine va_aldq hx hb hE.1 hP 1 7 rfl rfl (by unfold vp_in; decide) dX12_asClause_24 ?_
        refine W.eq (g2 := F0 m 25 ls [.ref h5]) (by rw [show (2 : Int32).toNatClampNeg = 2 from rfl, e1_2]; rfl) ?_
        refine lv_astore_n (lv' := [(3, .ref h5), (0, .ref h0), (1, .int 2), (2, .int x2)]) hx hb dX12_asClause_25 rfl hl (by decide +kernel) rfl (fun ls hl => ?_)
        refine lv_aload_n hx hb dX12_asClause_26 rfl (lv_at hl 0 rfl) ?_
        refine va_get (D := D) (ci := 3) (v := .int n2) (C := RX4) (T := TX4) (N := 4) hx hb hts in_X12_asClause_X4 hown hE.1 hP 5 rfl rfl 0 (by decide +kernel) (hts (.fieldLink RX12 359 "ClauseBook$Hand" "sort" "I") (List.mem_of_getElem? (i := 2) rfl)) (fun _ h9 => h9) e5_0 dX12_asClause_27 ?_
        refine lv_if_ne (tgt := 36) hx hb dX12_asClause_30 (by decide +kernel) (fun c_23 => ?_) (fun c_23 => ?_)
        · rw [fa_eq] at c_23
          try rw [ti_0] at c_23
          refine lv_aload_n hx hb dX12_asClause_36 rfl (lv_at hl 0 rfl) ?_
          refine va_get (D := D) (ci := 3) (v := .int n2) (C := RX4) (T := TX4) (N := 4) hx hb hts in_X12_asClause_X4 hown hE.1 hP 5 rfl rfl 0 (by decide +kernel) (hts (.fieldLink RX12 359 "ClauseBook$Hand" "sort" "I") (List.mem_of_getElem? (i := 2) rfl)) (fun _ h9 => h9) e5_0 dX12_asClause_37 ?_
          refine lv_iconst (v := 1) hx hb dX12_asClause_40 (by decide +kernel) ?_
          refine lv_icmp_eq (tgt := 47) hx hb dX12_asClause_41 (by decide +kernel) (fun c_24 => ?_) (fun c_24 => ?_)
          · rw [fa_eq] at c_24
            try rw [ti_1] at c_24
            refine lv_aload_n hx hb dX12_asClause_47 rfl (lv_at hl 1 rfl) ?_
            refine va_get (D := D) (ci := 9) (v := .ref h2) (C := RX12) (T := TX12) (N := 11) hx hb hts in_X12_asClause_X12 hown hE.1 hP 0 rfl rfl 4 (by decide +kernel) (hts (.fieldLink RX12 32 "ClauseBook" "clauses" "LClauseBook$Clauses;") (List.mem_of_getElem? (i := 3) rfl)) (fun _ h9 => h9) e0_4 dX12_asClause_48 ?_
            refine lv_aload_n hx hb dX12_asClause_51 rfl (lv_at hl 0 rfl) ?_
            refine va_get (D := D) (ci := 3) (v := .int m2) (C := RX4) (T := TX4) (N := 4) hx hb hts in_X12_asClause_X4 hown hE.1 hP 5 rfl rfl 1 (by decide +kernel) (hts (.fieldLink RX12 360 "ClauseBook$Hand" "number" "I") (List.mem_of_getElem? (i := 4) rfl)) (fun _ h9 => h9) e5_1 dX12_asClause_52 ?_
            refine vp_callSi (W.runV (As := [.int m2]) (rest := []) ⟨hx, hb, hml, hown, hts⟩ (c_X2_has l D T h2 fs2 m2 n9 e2_0 (by omega)) (cwV 1 hts gX12_asClause_X2_has rfl rfl rfl hv_X2_has ⟨Nat.le_of_ble_eq_true rfl, Nat.le_of_ble_eq_true rfl⟩) (pR_V (q := (RX2, TX2, 8)) (ci := 1) (q0 := 2) hP hE rfl rfl [2] rfl) rfl rfl hl.1 rfl (lv_room (Nat.le_of_ble_eq_true rfl)) dX12_asClause_55 ⟨Nat.le_of_ble_eq_true rfl, Nat.le_of_ble_eq_true rfl⟩) (fun r_25 hr_25 => ?_)
            rcases bool_post hr_25 with ⟨c_26, rfl⟩ | ⟨c_26, rfl⟩
            · refine lv_if_ne (tgt := 64) hx hb dX12_asClause_58 (by decide +kernel) (fun _ => ?_) (fun c9 => absurd c9 (by decide +kernel))
              refine lv_iload_n hx hb dX12_asClause_64 rfl (lv_at hl 3 rfl) ?_
              refine lv_iconst (v := 3) hx hb dX12_asClause_65 (by decide +kernel) ?_
              refine lv_icmp_eq (tgt := 90) hx hb dX12_asClause_66 (by decide +kernel) (fun c_27 => ?_) (fun c_27 => ?_)
              · rw [fa_eq] at c_27
                try rw [ti_3] at c_27
                refine lv_aload_n hx hb dX12_asClause_90 rfl (lv_at hl 1 rfl) ?_
                refine va_get (D := D) (ci := 9) (v := .ref h2) (C := RX12) (T := TX12) (N := 11) hx hb hts in_X12_asClause_X12 hown hE.1 hP 0 rfl rfl 4 (by decide +kernel) (hts (.fieldLink RX12 32 "ClauseBook" "clauses" "LClauseBook$Clauses;") (List.mem_of_getElem? (i := 3) rfl)) (fun _ h9 => h9) e0_4 dX12_asClause_91 ?_
                refine va_get (D := D) (ci := 1) (v := .ref h7) (C := RX2) (T := TX2) (N := 8) hx hb hts in_X12_asClause_X2 hown hE.1 hP 2 rfl rfl 1 (by decide +kernel) (hts (.fieldLink RX12 153 "ClauseBook$Clauses" "kind" "[I") (List.mem_of_getElem? (i := 6) rfl)) (fun _ h9 => h9) e2_1 dX12_asClause_94 ?_
                refine lv_aload_n hx hb dX12_asClause_97 rfl (lv_at hl 0 rfl) ?_
                refine va_get (D := D) (ci := 3) (v := .int m2) (C := RX4) (T := TX4) (N := 4) hx hb hts in_X12_asClause_X4 hown hE.1 hP 5 rfl rfl 1 (by decide +kernel) (hts (.fieldLink RX12 360 "ClauseBook$Hand" "number" "I") (List.mem_of_getElem? (i := 4) rfl)) (fun _ h9 => h9) e5_1 dX12_asClause_98 ?_
                refine va_iald hx hb hE.1 hP 7 0 rfl rfl (by rw [vp_in_iff]; first | omega | (subst_vars; omega)) dX12_asClause_101 ?_
                refine lv_topi (fun z_28 ez_28 => ?_)
                exact W.iret hx hb hr (fun t ht hW => ⟨_, rfl, (Or.inr ⟨⟨⟨by decide, by decide⟩, by omega⟩, Or.inr (Or.inr (Or.inr (Or.inr ⟨(show (n2).toInt = 1 from by omega), (show 0 ≤ (m2).toInt ∧ (m2).toInt < n9.toInt from by omega), (show ¬ (¬ x2.toInt = 3 ∧ ¬ (nmT (f7 ((m2).toNatClampNeg)).toNatClampNeg).toInt = x2.toInt) from by omega), (congrArg Int32.toInt ez_28)⟩)))⟩), ht⟩) (fun _ h => by cases h) dX12_asClause_102
              · rw [fa_eq] at c_27
                try rw [ti_3] at c_27
                refine lv_aload_n hx hb dX12_asClause_69 rfl (lv_at hl 1 rfl) ?_
                refine va_get (D := D) (ci := 9) (v := .ref h2) (C := RX12) (T := TX12) (N := 11) hx hb hts in_X12_asClause_X12 hown hE.1 hP 0 rfl rfl 4 (by decide +kernel) (hts (.fieldLink RX12 32 "ClauseBook" "clauses" "LClauseBook$Clauses;") (List.mem_of_getElem? (i := 3) rfl)) (fun _ h9 => h9) e0_4 dX12_asClause_70 ?_
                refine lv_aload_n hx hb dX12_asClause_73 rfl (lv_at hl 0 rfl) ?_
                refine va_get (D := D) (ci := 3) (v := .int m2) (C := RX4) (T := TX4) (N := 4) hx hb hts in_X12_asClause_X4 hown hE.1 hP 5 rfl rfl 1 (by decide +kernel) (hts (.fieldLink RX12 360 "ClauseBook$Hand" "number" "I") (List.mem_of_getElem? (i := 4) rfl)) (fun _ h9 => h9) e5_1 dX12_asClause_74 ?_
                refine va_cse (W.runV (As := [.int m2]) (rest := []) ⟨hx, hb, hml, hown, hts⟩ (c_X2_kindOf l D T ad sa av ta h2 fs2 h7 f7 m2 e2_1 (by omega) ((hok _ (in24 (x := m2) (by omega)).1).1)) (cwV 1 hts gX12_asClause_X2_kindOf rfl rfl rfl hv_X2_kindOf ⟨Nat.le_of_ble_eq_true rfl, Nat.le_of_ble_eq_true rfl⟩) (pRk_V (q := (RX2, TX2, 8)) (ci := 1) (q0 := 2) hP hE hV hS rfl rfl [2, 7] rfl) rfl rfl hl.1 rfl (lv_room (Nat.le_of_ble_eq_true rfl)) dX12_asClause_77 ⟨Nat.le_of_ble_eq_true rfl, Nat.le_of_ble_eq_true rfl⟩) (fun r_29 hr_29 => ?_)
                subst hr_29
                refine W.eq (g2 := F0 m 80 ls [.ref (ad ((f7 (m2.toNatClampNeg)).toNatClampNeg))]) rfl ?_
                refine va_getE (i := ((f7 (m2.toNatClampNeg)).toNatClampNeg)) hx hb hV.1.1 (in13c ((hok _ (in24 (x := m2) (by omega)).1).1)) hS hown (q := kdQ "names" [0, 0, 1, 1, 1, 2, 2, 2, 1, 2, 1, 1, 2]) (List.mem_of_getElem? (i := 0) rfl) (hts (.fieldLink RX12 370 "ClauseBook$Kind" "names" "I") (List.mem_of_getElem? (i := 5) rfl)) (fun _ h9 => h9) dX12_asClause_80 ?_
                refine W.eq (g2 := F0 m 83 ls [.int (nmT ((f7 (m2.toNatClampNeg)).toNatClampNeg))]) rfl ?_
                refine lv_iload_n hx hb dX12_asClause_83 rfl (lv_at hl 3 rfl) ?_
                refine lv_icmp_eq (tgt := 90) hx hb dX12_asClause_84 (by decide +kernel) (fun c_30 => ?_) (fun c_30 => ?_)
                · rw [fa_eq] at c_30
                  refine lv_aload_n hx hb dX12_asClause_90 rfl (lv_at hl 1 rfl) ?_
                  refine va_get (D := D) (ci := 9) (v := .ref h2) (C := RX12) (T := TX12) (N := 11) hx hb hts in_X12_asClause_X12 hown hE.1 hP 0 rfl rfl 4 (by decide +kernel) (hts (.fieldLink RX12 32 "ClauseBook" "clauses" "LClauseBook$Clauses;") (List.mem_of_getElem? (i := 3) rfl)) (fun _ h9 => h9) e0_4 dX12_asClause_91 ?_
                  refine va_get (D := D) (ci := 1) (v := .ref h7) (C := RX2) (T := TX2) (N := 8) hx hb hts in_X12_asClause_X2 hown hE.1 hP 2 rfl rfl 1 (by decide +kernel) (hts (.fieldLink RX12 153 "ClauseBook$Clauses" "kind" "[I") (List.mem_of_getElem? (i := 6) rfl)) (fun _ h9 => h9) e2_1 dX12_asClause_94 ?_
                  refine lv_aload_n hx hb dX12_asClause_97 rfl (lv_at hl 0 rfl) ?_
                  refine va_get (D := D) (ci := 3) (v := .int m2) (C := RX4) (T := TX4) (N := 4) hx hb hts in_X12_asClause_X4 hown hE.1 hP 5 rfl rfl 1 (by decide +kernel) (hts (.fieldLink RX12 360 "ClauseBook$Hand" "number" "I") (List.mem_of_getElem? (i := 4) rfl)) (fun _ h9 => h9) e5_1 dX12_asClause_98 ?_
                  refine va_iald hx hb hE.1 hP 7 0 rfl rfl (by rw [vp_in_iff]; first | omega | (subst_vars; omega)) dX12_asClause_101 ?_
                  refine lv_topi (fun z_31 ez_31 => ?_)
                  exact W.iret hx hb hr (fun t ht hW => ⟨_, rfl, (Or.inr ⟨⟨⟨by decide, by decide⟩, by omega⟩, Or.inr (Or.inr (Or.inr (Or.inr ⟨(show (n2).toInt = 1 from by omega), (show 0 ≤ (m2).toInt ∧ (m2).toInt < n9.toInt from by omega), (show ¬ (¬ x2.toInt = 3 ∧ ¬ (nmT (f7 ((m2).toNatClampNeg)).toNatClampNeg).toInt = x2.toInt) from by omega), (congrArg Int32.toInt ez_31)⟩)))⟩), ht⟩) (fun _ h => by cases h) dX12_asClause_102
                · rw [fa_eq] at c_30
                  refine lv_bipush (v := (-13)) hx hb dX12_asClause_87 (by decide +kernel) ?_
                  exact W.iret hx hb hr (fun t ht hW => ⟨_, rfl, (Or.inr ⟨⟨⟨by decide, by decide⟩, by omega⟩, Or.inr (Or.inr (Or.inr (Or.inl ⟨(show (n2).toInt = 1 from by omega), (show 0 ≤ (m2).toInt ∧ (m2).toInt < n9.toInt from by omega), ⟨by omega, (show ¬ (nmT (f7 ((m2).toNatClampNeg)).toNatClampNeg).toInt = x2.toInt from by omega)⟩, (by decide +kernel)⟩)))⟩), ht⟩) (fun _ h => by cases h) dX12_asClause_89
            · refine lv_if_ne (tgt := 64) hx hb dX12_asClause_58 (by decide +kernel) (fun c9 => absurd c9 (by decide +kernel)) (fun _ => ?_)
              refine lv_bipush (v := (-11)) hx hb dX12_asClause_61 (by decide +kernel) ?_
              exact W.iret hx hb hr (fun t ht hW => ⟨_, rfl, (Or.inr ⟨⟨⟨by decide, by decide⟩, by omega⟩, Or.inr (Or.inr (Or.inl ⟨(show (n2).toInt = 1 from by omega), (show ¬ (0 ≤ (m2).toInt ∧ (m2).toInt < n9.toInt) from by omega), (by decide +kernel)⟩))⟩), ht⟩) (fun _ h => by cases h) dX12_asClause_63
          · rw [fa_eq] at c_24
            try rw [ti_1] at c_24
            refine lv_bipush (v := (-13)) hx hb dX12_asClause_44 (by decide +kernel) ?_
            exact W.iret hx hb hr (fun t ht hW => ⟨_, rfl, (Or.inr ⟨⟨⟨by decide, by decide⟩, by omega⟩, Or.inr (Or.inl ⟨(show ¬ (n2).toInt = 0 from by omega), (show ¬ (n2).toInt = 1 from by omega), (by decide +kernel)⟩)⟩), ht⟩) (fun _ h => by cases h) dX12_asClause_46
        · rw [fa_eq] at c_23
          try rw [ti_0] at c_23
          refine lv_bipush (v := (-11)) hx hb dX12_asClause_33 (by decide +kernel) ?_
          exact W.iret hx hb hr (fun t ht hW => ⟨_, rfl, (Or.inr ⟨⟨⟨by decide, by decide⟩, by omega⟩, Or.inl ⟨(show (n2).toInt = 0 from by omega), (by decide +kernel)⟩⟩), ht⟩) (fun _ h => by cases h) dX12_asClause_35
      · refine va_aldq hx hb hE.1 hP 1 7 rfl rfl (by unfold vp_in; decide) dX12_asClause_24 ?_
        refine W.eq (g2 := F0 m 25 ls [.ref h6]) (by rw [show (3 : Int32).toNatClampNeg = 3 from rfl, e1_3]; rfl) ?_
        refine lv_astore_n (lv' := [(3, .ref h6), (0, .ref h0), (1, .int 3), (2, .int x2)]) hx hb dX12_asClause_25 rfl hl (by decide +kernel) rfl (fun ls hl => ?_)
        refine lv_aload_n hx hb dX12_asClause_26 rfl (lv_at hl 0 rfl) ?_
        refine va_get (D := D) (ci := 3) (v := .int n3) (C := RX4) (T := TX4) (N := 4) hx hb hts in_X12_asClause_X4 hown hE.1 hP 6 rfl rfl 0 (by decide +kernel) (hts (.fieldLink RX12 359 "ClauseBook$Hand" "sort" "I") (List.mem_of_getElem? (i := 2) rfl)) (fun _ h9 => h9) e6_0 dX12_asClause_27 ?_
        refine lv_if_ne (tgt := 36) hx hb dX12_asClause_30 (by decide +kernel) (fun c_32 => ?_) (fun c_32 => ?_)
        · rw [fa_eq] at c_32
          try rw [ti_0] at c_32
          refine lv_aload_n hx hb dX12_asClause_36 rfl (lv_at hl 0 rfl) ?_
          refine va_get (D := D) (ci := 3) (v := .int n3) (C := RX4) (T := TX4) (N := 4) hx hb hts in_X12_asClause_X4 hown hE.1 hP 6 rfl rfl 0 (by decide +kernel) (hts (.fieldLink RX12 359 "ClauseBook$Hand" "sort" "I") (List.mem_of_getElem? (i := 2) rfl)) (fun _ h9 => h9) e6_0 dX12_asClause_37 ?_
          refine lv_iconst (v := 1) hx hb dX12_asClause_40 (by decide +kernel) ?_
          refine lv_icmp_eq (tgt := 47) hx hb dX12_asClause_41 (by decide +kernel) (fun c_33 => ?_) (fun c_33 => ?_)
          · rw [fa_eq] at c_33
            try rw [ti_1] at c_33
            refine lv_aload_n hx hb dX12_asClause_47 rfl (lv_at hl 1 rfl) ?_
            refine va_get (D := D) (ci := 9) (v := .ref h2) (C := RX12) (T := TX12) (N := 11) hx hb hts in_X12_asClause_X12 hown hE.1 hP 0 rfl rfl 4 (by decide +kernel) (hts (.fieldLink RX12 32 "ClauseBook" "clauses" "LClauseBook$Clauses;") (List.mem_of_getElem? (i := 3) rfl)) (fun _ h9 => h9) e0_4 dX12_asClause_48 ?_
            refine lv_aload_n hx hb dX12_asClause_51 rfl (lv_at hl 0 rfl) ?_
            refine va_get (D := D) (ci := 3) (v := .int m3) (C := RX4) (T := TX4) (N := 4) hx hb hts in_X12_asClause_X4 hown hE.1 hP 6 rfl rfl 1 (by decide +kernel) (hts (.fieldLink RX12 360 "ClauseBook$Hand" "number" "I") (List.mem_of_getElem? (i := 4) rfl)) (fun _ h9 => h9) e6_1 dX12_asClause_52 ?_
            refine vp_callSi (W.runV (As := [.int m3]) (rest := []) ⟨hx, hb, hml, hown, hts⟩ (c_X2_has l D T h2 fs2 m3 n9 e2_0 (by omega)) (cwV 1 hts gX12_asClause_X2_has rfl rfl rfl hv_X2_has ⟨Nat.le_of_ble_eq_true rfl, Nat.le_of_ble_eq_true rfl⟩) (pR_V (q := (RX2, TX2, 8)) (ci := 1) (q0 := 2) hP hE rfl rfl [2] rfl) rfl rfl hl.1 rfl (lv_room (Nat.le_of_ble_eq_true rfl)) dX12_asClause_55 ⟨Nat.le_of_ble_eq_true rfl, Nat.le_of_ble_eq_true rfl⟩) (fun r_34 hr_34 => ?_)
            rcases bool_post hr_34 with ⟨c_35, rfl⟩ | ⟨c_35, rfl⟩
            · refine lv_if_ne (tgt := 64) hx hb dX12_asClause_58 (by decide +kernel) (fun _ => ?_) (fun c9 => absurd c9 (by decide +kernel))
              refine lv_iload_n hx hb dX12_asClause_64 rfl (lv_at hl 3 rfl) ?_
              refine lv_iconst (v := 3) hx hb dX12_asClause_65 (by decide +kernel) ?_
              refine lv_icmp_eq (tgt := 90) hx hb dX12_asClause_66 (by decide +kernel) (fun c_36 => ?_) (fun c_36 => ?_)
              · rw [fa_eq] at c_36
                try rw [ti_3] at c_36
                refine lv_aload_n hx hb dX12_asClause_90 rfl (lv_at hl 1 rfl) ?_
                refine va_get (D := D) (ci := 9) (v := .ref h2) (C := RX12) (T := TX12) (N := 11) hx hb hts in_X12_asClause_X12 hown hE.1 hP 0 rfl rfl 4 (by decide +kernel) (hts (.fieldLink RX12 32 "ClauseBook" "clauses" "LClauseBook$Clauses;") (List.mem_of_getElem? (i := 3) rfl)) (fun _ h9 => h9) e0_4 dX12_asClause_91 ?_
                refine va_get (D := D) (ci := 1) (v := .ref h7) (C := RX2) (T := TX2) (N := 8) hx hb hts in_X12_asClause_X2 hown hE.1 hP 2 rfl rfl 1 (by decide +kernel) (hts (.fieldLink RX12 153 "ClauseBook$Clauses" "kind" "[I") (List.mem_of_getElem? (i := 6) rfl)) (fun _ h9 => h9) e2_1 dX12_asClause_94 ?_
                refine lv_aload_n hx hb dX12_asClause_97 rfl (lv_at hl 0 rfl) ?_
                refine va_get (D := D) (ci := 3) (v := .int m3) (C := RX4) (T := TX4) (N := 4) hx hb hts in_X12_asClause_X4 hown hE.1 hP 6 rfl rfl 1 (by decide +kernel) (hts (.fieldLink RX12 360 "ClauseBook$Hand" "number" "I") (List.mem_of_getElem? (i := 4) rfl)) (fun _ h9 => h9) e6_1 dX12_asClause_98 ?_
                refine va_iald hx hb hE.1 hP 7 0 rfl rfl (by rw [vp_in_iff]; first | omega | (subst_vars; omega)) dX12_asClause_101 ?_
                refine lv_topi (fun z_37 ez_37 => ?_)
                exact W.iret hx hb hr (fun t ht hW => ⟨_, rfl, (Or.inr ⟨⟨⟨by decide, by decide⟩, by omega⟩, Or.inr (Or.inr (Or.inr (Or.inr ⟨(show (n3).toInt = 1 from by omega), (show 0 ≤ (m3).toInt ∧ (m3).toInt < n9.toInt from by omega), (show ¬ (¬ x2.toInt = 3 ∧ ¬ (nmT (f7 ((m3).toNatClampNeg)).toNatClampNeg).toInt = x2.toInt) from by omega), (congrArg Int32.toInt ez_37)⟩)))⟩), ht⟩) (fun _ h => by cases h) dX12_asClause_102
              · rw [fa_eq] at c_36
                try rw [ti_3] at c_36
                refine lv_aload_n hx hb dX12_asClause_69 rfl (lv_at hl 1 rfl) ?_
                refine va_get (D := D) (ci := 9) (v := .ref h2) (C := RX12) (T := TX12) (N := 11) hx hb hts in_X12_asClause_X12 hown hE.1 hP 0 rfl rfl 4 (by decide +kernel) (hts (.fieldLink RX12 32 "ClauseBook" "clauses" "LClauseBook$Clauses;") (List.mem_of_getElem? (i := 3) rfl)) (fun _ h9 => h9) e0_4 dX12_asClause_70 ?_
                refine lv_aload_n hx hb dX12_asClause_73 rfl (lv_at hl 0 rfl) ?_
                refine va_get (D := D) (ci := 3) (v := .int m3) (C := RX4) (T := TX4) (N := 4) hx hb hts in_X12_asClause_X4 hown hE.1 hP 6 rfl rfl 1 (by decide +kernel) (hts (.fieldLink RX12 360 "ClauseBook$Hand" "number" "I") (List.mem_of_getElem? (i := 4) rfl)) (fun _ h9 => h9) e6_1 dX12_asClause_74 ?_
                refine va_cse (W.runV (As := [.int m3]) (rest := []) ⟨hx, hb, hml, hown, hts⟩ (c_X2_kindOf l D T ad sa av ta h2 fs2 h7 f7 m3 e2_1 (by omega) ((hok _ (in24 (x := m3) (by omega)).1).1)) (cwV 1 hts gX12_asClause_X2_kindOf rfl rfl rfl hv_X2_kindOf ⟨Nat.le_of_ble_eq_true rfl, Nat.le_of_ble_eq_true rfl⟩) (pRk_V (q := (RX2, TX2, 8)) (ci := 1) (q0 := 2) hP hE hV hS rfl rfl [2, 7] rfl) rfl rfl hl.1 rfl (lv_room (Nat.le_of_ble_eq_true rfl)) dX12_asClause_77 ⟨Nat.le_of_ble_eq_true rfl, Nat.le_of_ble_eq_true rfl⟩) (fun r_38 hr_38 => ?_)
                subst hr_38
                refine W.eq (g2 := F0 m 80 ls [.ref (ad ((f7 (m3.toNatClampNeg)).toNatClampNeg))]) rfl ?_
                refine va_getE (i := ((f7 (m3.toNatClampNeg)).toNatClampNeg)) hx hb hV.1.1 (in13c ((hok _ (in24 (x := m3) (by omega)).1).1)) hS hown (q := kdQ "names" [0, 0, 1, 1, 1, 2, 2, 2, 1, 2, 1, 1, 2]) (List.mem_of_getElem? (i := 0) rfl) (hts (.fieldLink RX12 370 "ClauseBook$Kind" "names" "I") (List.mem_of_getElem? (i := 5) rfl)) (fun _ h9 => h9) dX12_asClause_80 ?_
                refine W.eq (g2 := F0 m 83 ls [.int (nmT ((f7 (m3.toNatClampNeg)).toNatClampNeg))]) rfl ?_
                refine lv_iload_n hx hb dX12_asClause_83 rfl (lv_at hl 3 rfl) ?_
                refine lv_icmp_eq (tgt := 90) hx hb dX12_asClause_84 (by decide +kernel) (fun c_39 => ?_) (fun c_39 => ?_)
                · rw [fa_eq] at c_39
                  refine lv_aload_n hx hb dX12_asClause_90 rfl (lv_at hl 1 rfl) ?_
                  refine va_get (D := D) (ci := 9) (v := .ref h2) (C := RX12) (T := TX12) (N := 11) hx hb hts in_X12_asClause_X12 hown hE.1 hP 0 rfl rfl 4 (by decide +kernel) (hts (.fieldLink RX12 32 "ClauseBook" "clauses" "LClauseBook$Clauses;") (List.mem_of_getElem? (i := 3) rfl)) (fun _ h9 => h9) e0_4 dX12_asClause_91 ?_
                  refine va_get (D := D) (ci := 1) (v := .ref h7) (C := RX2) (T := TX2) (N := 8) hx hb hts in_X12_asClause_X2 hown hE.1 hP 2 rfl rfl 1 (by decide +kernel) (hts (.fieldLink RX12 153 "ClauseBook$Clauses" "kind" "[I") (List.mem_of_getElem? (i := 6) rfl)) (fun _ h9 => h9) e2_1 dX12_asClause_94 ?_
                  refine lv_aload_n hx hb dX12_asClause_97 rfl (lv_at hl 0 rfl) ?_
                  refine va_get (D := D) (ci := 3) (v := .int m3) (C := RX4) (T := TX4) (N := 4) hx hb hts in_X12_asClause_X4 hown hE.1 hP 6 rfl rfl 1 (by decide +kernel) (hts (.fieldLink RX12 360 "ClauseBook$Hand" "number" "I") (List.mem_of_getElem? (i := 4) rfl)) (fun _ h9 => h9) e6_1 dX12_asClause_98 ?_
                  refine va_iald hx hb hE.1 hP 7 0 rfl rfl (by rw [vp_in_iff]; first | omega | (subst_vars; omega)) dX12_asClause_101 ?_
                  refine lv_topi (fun z_40 ez_40 => ?_)
                  exact W.iret hx hb hr (fun t ht hW => ⟨_, rfl, (Or.inr ⟨⟨⟨by decide, by decide⟩, by omega⟩, Or.inr (Or.inr (Or.inr (Or.inr ⟨(show (n3).toInt = 1 from by omega), (show 0 ≤ (m3).toInt ∧ (m3).toInt < n9.toInt from by omega), (show ¬ (¬ x2.toInt = 3 ∧ ¬ (nmT (f7 ((m3).toNatClampNeg)).toNatClampNeg).toInt = x2.toInt) from by omega), (congrArg Int32.toInt ez_40)⟩)))⟩), ht⟩) (fun _ h => by cases h) dX12_asClause_102
                · rw [fa_eq] at c_39
                  refine lv_bipush (v := (-13)) hx hb dX12_asClause_87 (by decide +kernel) ?_
                  exact W.iret hx hb hr (fun t ht hW => ⟨_, rfl, (Or.inr ⟨⟨⟨by decide, by decide⟩, by omega⟩, Or.inr (Or.inr (Or.inr (Or.inl ⟨(show (n3).toInt = 1 from by omega), (show 0 ≤ (m3).toInt ∧ (m3).toInt < n9.toInt from by omega), ⟨by omega, (show ¬ (nmT (f7 ((m3).toNatClampNeg)).toNatClampNeg).toInt = x2.toInt from by omega)⟩, (by decide +kernel)⟩)))⟩), ht⟩) (fun _ h => by cases h) dX12_asClause_89
            · refine lv_if_ne (tgt := 64) hx hb dX12_asClause_58 (by decide +kernel) (fun c9 => absurd c9 (by decide +kernel)) (fun _ => ?_)
              refine lv_bipush (v := (-11)) hx hb dX12_asClause_61 (by decide +kernel) ?_
              exact W.iret hx hb hr (fun t ht hW => ⟨_, rfl, (Or.inr ⟨⟨⟨by decide, by decide⟩, by omega⟩, Or.inr (Or.inr (Or.inl ⟨(show (n3).toInt = 1 from by omega), (show ¬ (0 ≤ (m3).toInt ∧ (m3).toInt < n9.toInt) from by omega), (by decide +kernel)⟩))⟩), ht⟩) (fun _ h => by cases h) dX12_asClause_63
          · rw [fa_eq] at c_33
            try rw [ti_1] at c_33
            refine lv_bipush (v := (-13)) hx hb dX12_asClause_44 (by decide +kernel) ?_
            exact W.iret hx hb hr (fun t ht hW => ⟨_, rfl, (Or.inr ⟨⟨⟨by decide, by decide⟩, by omega⟩, Or.inr (Or.inl ⟨(show ¬ (n3).toInt = 0 from by omega), (show ¬ (n3).toInt = 1 from by omega), (by decide +kernel)⟩)⟩), ht⟩) (fun _ h => by cases h) dX12_asClause_46
        · rw [fa_eq] at c_32
          try rw [ti_0] at c_32
          refine lv_bipush (v := (-11)) hx hb dX12_asClause_33 (by decide +kernel) ?_
          exact W.iret hx hb hr (fun t ht hW => ⟨_, rfl, (Or.inr ⟨⟨⟨by decide, by decide⟩, by omega⟩, Or.inl ⟨(show (n3).toInt = 0 from by omega), (by decide +kernel)⟩⟩), ht⟩) (fun _ h => by cases h) dX12_asClause_35
    · refine lv_if_ne (tgt := 19) hx hb dX12_asClause_13 (by decide +kernel) (fun c9 => absurd c9 (by decide +kernel)) (fun _ => ?_)
      refine lv_bipush (v := (-2)) hx hb dX12_asClause_16 (by decide +kernel) ?_
      exact W.iret hx hb hr (fun t ht hW => ⟨_, rfl, (Or.inl ⟨(by omega), (by decide +kernel)⟩), ht⟩) (fun _ h => by cases h) dX12_asClause_18
  · refine lv_if_eq (tgt := 16) hx hb dX12_asClause_4 (by decide +kernel) (fun _ => ?_) (fun c9 => absurd c9 (by decide +kernel))
    refine lv_bipush (v := (-2)) hx hb dX12_asClause_16 (by decide +kernel) ?_
    exact W.iret hx hb hr (fun t ht hW => ⟨_, rfl, (Or.inl ⟨(by omega), (by decide +kernel)⟩), ht⟩) (fun _ h => by cases h) dX12_asClause_18
end
section
theorem bg_in {x : Int32} (h : 0 ≤ x.toInt ∧ x.toInt < 12) : x.toNatClampNeg < 12 := by
  obtain ⟨j, hj, e⟩ := nI_of (x := x) (by rw [fa_lt, ti_0]; omega)
  subst e
  rw [nI_clamp hj, nI_toInt hj] at *
  omega
theorem dX12_pour_0 : decode cX12_pour 0 = .ok (.iload_n 1, 1) := by decide +kernel
theorem dX12_pour_1 : decode cX12_pour 1 = .ok (.invokestatic 300, 3) := by decide +kernel
theorem dX12_pour_100 : decode cX12_pour 100 = .ok (.iaload, 1) := by decide +kernel
theorem dX12_pour_101 : decode cX12_pour 101 = .ok (.iload_n 3, 1) := by decide +kernel
theorem dX12_pour_102 : decode cX12_pour 102 = .ok (.if_icmp .ne 7, 3) := by decide +kernel
theorem dX12_pour_105 : decode cX12_pour 105 = .ok (.iconst 1, 1) := by decide +kernel
theorem dX12_pour_106 : decode cX12_pour 106 = .ok (.goto 4, 3) := by decide +kernel
theorem dX12_pour_109 : decode cX12_pour 109 = .ok (.iconst 0, 1) := by decide +kernel
theorem dX12_pour_11 : decode cX12_pour 11 = .ok (.ifCond .eq 22, 3) := by decide +kernel
theorem dX12_pour_110 : decode cX12_pour 110 = .ok (.istore 9, 2) := by decide +kernel
theorem dX12_pour_112 : decode cX12_pour 112 = .ok (.iload 9, 2) := by decide +kernel
theorem dX12_pour_114 : decode cX12_pour 114 = .ok (.ifCond .eq 20, 3) := by decide +kernel
theorem dX12_pour_117 : decode cX12_pour 117 = .ok (.aload_n 0, 1) := by decide +kernel
theorem dX12_pour_118 : decode cX12_pour 118 = .ok (.getfield 37, 3) := by decide +kernel
theorem dX12_pour_121 : decode cX12_pour 121 = .ok (.iload_n 2, 1) := by decide +kernel
theorem dX12_pour_122 : decode cX12_pour 122 = .ok (.aaload, 1) := by decide +kernel
theorem dX12_pour_123 : decode cX12_pour 123 = .ok (.iload 8, 2) := by decide +kernel
theorem dX12_pour_125 : decode cX12_pour 125 = .ok (.invokevirtual 303, 3) := by decide +kernel
theorem dX12_pour_128 : decode cX12_pour 128 = .ok (.ifCond .eq 6, 3) := by decide +kernel
theorem dX12_pour_131 : decode cX12_pour 131 = .ok (.goto 16, 3) := by decide +kernel
theorem dX12_pour_134 : decode cX12_pour 134 = .ok (.aload 4, 2) := by decide +kernel
theorem dX12_pour_136 : decode cX12_pour 136 = .ok (.getfield 308, 3) := by decide +kernel
theorem dX12_pour_139 : decode cX12_pour 139 = .ok (.iload 6, 2) := by decide +kernel
theorem dX12_pour_14 : decode cX12_pour 14 = .ok (.iload_n 1, 1) := by decide +kernel
theorem dX12_pour_141 : decode cX12_pour 141 = .ok (.iload 8, 2) := by decide +kernel
theorem dX12_pour_143 : decode cX12_pour 143 = .ok (.iastore, 1) := by decide +kernel
theorem dX12_pour_144 : decode cX12_pour 144 = .ok (.iinc 6 1, 3) := by decide +kernel
theorem dX12_pour_147 : decode cX12_pour 147 = .ok (.iinc 7 1, 3) := by decide +kernel
theorem dX12_pour_15 : decode cX12_pour 15 = .ok (.iload_n 2, 1) := by decide +kernel
theorem dX12_pour_150 : decode cX12_pour 150 = .ok (.goto (-93), 3) := by decide +kernel
theorem dX12_pour_153 : decode cX12_pour 153 = .ok (.aload 4, 2) := by decide +kernel
theorem dX12_pour_155 : decode cX12_pour 155 = .ok (.iload 6, 2) := by decide +kernel
theorem dX12_pour_157 : decode cX12_pour 157 = .ok (.putfield 307, 3) := by decide +kernel
theorem dX12_pour_16 : decode cX12_pour 16 = .ok (.if_icmp .eq 17, 3) := by decide +kernel
theorem dX12_pour_160 : decode cX12_pour 160 = .ok (.iload 5, 2) := by decide +kernel
theorem dX12_pour_162 : decode cX12_pour 162 = .ok (.iload 6, 2) := by decide +kernel
theorem dX12_pour_164 : decode cX12_pour 164 = .ok (.isub, 1) := by decide +kernel
theorem dX12_pour_165 : decode cX12_pour 165 = .ok (.ireturn, 1) := by decide +kernel
theorem dX12_pour_19 : decode cX12_pour 19 = .ok (.iload_n 3, 1) := by decide +kernel
theorem dX12_pour_20 : decode cX12_pour 20 = .ok (.iconst (-1), 1) := by decide +kernel
theorem dX12_pour_21 : decode cX12_pour 21 = .ok (.getstatic 126, 3) := by decide +kernel
theorem dX12_pour_24 : decode cX12_pour 24 = .ok (.arraylength, 1) := by decide +kernel
theorem dX12_pour_25 : decode cX12_pour 25 = .ok (.iconst 1, 1) := by decide +kernel
theorem dX12_pour_26 : decode cX12_pour 26 = .ok (.isub, 1) := by decide +kernel
theorem dX12_pour_27 : decode cX12_pour 27 = .ok (.invokestatic 77, 3) := by decide +kernel
theorem dX12_pour_30 : decode cX12_pour 30 = .ok (.ifCond .ne 6, 3) := by decide +kernel
theorem dX12_pour_33 : decode cX12_pour 33 = .ok (.bipush (-2), 2) := by decide +kernel
theorem dX12_pour_35 : decode cX12_pour 35 = .ok (.ireturn, 1) := by decide +kernel
theorem dX12_pour_36 : decode cX12_pour 36 = .ok (.aload_n 0, 1) := by decide +kernel
theorem dX12_pour_37 : decode cX12_pour 37 = .ok (.getfield 37, 3) := by decide +kernel
theorem dX12_pour_4 : decode cX12_pour 4 = .ok (.ifCond .eq 29, 3) := by decide +kernel
theorem dX12_pour_40 : decode cX12_pour 40 = .ok (.iload_n 1, 1) := by decide +kernel
theorem dX12_pour_41 : decode cX12_pour 41 = .ok (.aaload, 1) := by decide +kernel
theorem dX12_pour_42 : decode cX12_pour 42 = .ok (.astore 4, 2) := by decide +kernel
theorem dX12_pour_44 : decode cX12_pour 44 = .ok (.aload 4, 2) := by decide +kernel
theorem dX12_pour_46 : decode cX12_pour 46 = .ok (.getfield 307, 3) := by decide +kernel
theorem dX12_pour_49 : decode cX12_pour 49 = .ok (.istore 5, 2) := by decide +kernel
theorem dX12_pour_51 : decode cX12_pour 51 = .ok (.iconst 0, 1) := by decide +kernel
theorem dX12_pour_52 : decode cX12_pour 52 = .ok (.istore 6, 2) := by decide +kernel
theorem dX12_pour_54 : decode cX12_pour 54 = .ok (.iconst 0, 1) := by decide +kernel
theorem dX12_pour_55 : decode cX12_pour 55 = .ok (.istore 7, 2) := by decide +kernel
theorem dX12_pour_57 : decode cX12_pour 57 = .ok (.iload 7, 2) := by decide +kernel
theorem dX12_pour_59 : decode cX12_pour 59 = .ok (.iload 5, 2) := by decide +kernel
theorem dX12_pour_61 : decode cX12_pour 61 = .ok (.if_icmp .ge 92, 3) := by decide +kernel
theorem dX12_pour_64 : decode cX12_pour 64 = .ok (.aload 4, 2) := by decide +kernel
theorem dX12_pour_66 : decode cX12_pour 66 = .ok (.getfield 308, 3) := by decide +kernel
theorem dX12_pour_69 : decode cX12_pour 69 = .ok (.iload 7, 2) := by decide +kernel
theorem dX12_pour_7 : decode cX12_pour 7 = .ok (.iload_n 2, 1) := by decide +kernel
theorem dX12_pour_71 : decode cX12_pour 71 = .ok (.iaload, 1) := by decide +kernel
theorem dX12_pour_72 : decode cX12_pour 72 = .ok (.istore 8, 2) := by decide +kernel
theorem dX12_pour_74 : decode cX12_pour 74 = .ok (.iload_n 3, 1) := by decide +kernel
theorem dX12_pour_75 : decode cX12_pour 75 = .ok (.iconst (-1), 1) := by decide +kernel
theorem dX12_pour_76 : decode cX12_pour 76 = .ok (.if_icmp .eq 29, 3) := by decide +kernel
theorem dX12_pour_79 : decode cX12_pour 79 = .ok (.aload_n 0, 1) := by decide +kernel
theorem dX12_pour_8 : decode cX12_pour 8 = .ok (.invokestatic 300, 3) := by decide +kernel
theorem dX12_pour_80 : decode cX12_pour 80 = .ok (.getfield 32, 3) := by decide +kernel
theorem dX12_pour_83 : decode cX12_pour 83 = .ok (.iload 8, 2) := by decide +kernel
theorem dX12_pour_85 : decode cX12_pour 85 = .ok (.invokevirtual 150, 3) := by decide +kernel
theorem dX12_pour_88 : decode cX12_pour 88 = .ok (.ifCond .eq 21, 3) := by decide +kernel
theorem dX12_pour_91 : decode cX12_pour 91 = .ok (.aload_n 0, 1) := by decide +kernel
theorem dX12_pour_92 : decode cX12_pour 92 = .ok (.getfield 32, 3) := by decide +kernel
theorem dX12_pour_95 : decode cX12_pour 95 = .ok (.getfield 153, 3) := by decide +kernel
theorem dX12_pour_98 : decode cX12_pour 98 = .ok (.iload 8, 2) := by decide +kernel
set_option maxRecDepth 20000 in
theorem ggX12_pour_X12_isBag : GoodIn wsX12_pour wsX12_isBag := goodIn_r _ [9, 10, 11, 8, 12] rfl (by decide +kernel)
set_option maxRecDepth 20000 in
theorem ggX12_pour_X12_within : GoodIn wsX12_pour wsX12_within := goodIn_r _ [12] rfl (by decide +kernel)
set_option maxRecDepth 20000 in
theorem ggX12_pour_X1_append : GoodIn wsX12_pour wsX1_append := goodIn_r _ [23, 24, 25, 37, 38] rfl (by decide +kernel)
set_option maxRecDepth 20000 in
theorem ggX12_pour_X2_has : GoodIn wsX12_pour wsX2_has := goodIn_r _ [17, 18, 11, 8, 12, 39, 40, 41, 42, 43, 44, 45, 46] rfl (by decide +kernel)
set_option maxRecDepth 20000 in
theorem gX12_pour_X12_isBag : GoodIn wsX12_pour (va_wsS RX12 300 yX12_isBag wsX12_isBag) := goodIn_app (goodIn_of _ (by decide +kernel)) ggX12_pour_X12_isBag
set_option maxRecDepth 20000 in
theorem gX12_pour_X12_within : GoodIn wsX12_pour (va_wsS RX12 77 yX12_within wsX12_within) := goodIn_app (goodIn_of _ (by decide +kernel)) ggX12_pour_X12_within
set_option maxRecDepth 20000 in
theorem gX12_pour_X1_append : GoodIn wsX12_pour (wsV RX12 303 RX1 yX1_append wsX1_append) := goodIn_app (goodIn_r _ [19, 20, 21, 22] rfl (by decide +kernel)) ggX12_pour_X1_append
set_option maxRecDepth 20000 in
theorem gX12_pour_X2_has : GoodIn wsX12_pour (wsV RX12 150 RX2 yX2_has wsX2_has) := goodIn_app (goodIn_r _ [13, 14, 15, 16] rfl (by decide +kernel)) ggX12_pour_X2_has
set_option maxRecDepth 20000 in
theorem in_X12_pour_X1 : ∀ w ∈ wsX10, w ∈ wsX12_pour := sub_r [37, 38] rfl
set_option maxRecDepth 20000 in
theorem in_X12_pour_X12 : ∀ w ∈ wsX120, w ∈ wsX12_pour := sub_r [26, 27, 28, 29, 30, 31, 32, 33, 34, 35, 36] rfl
set_option maxRecDepth 20000 in
theorem in_X12_pour_X2 : ∀ w ∈ wsX20, w ∈ wsX12_pour := sub_r [39, 40, 41, 42, 43, 44, 45, 46] rfl
set_option maxHeartbeats 4000000 in
set_option maxRecDepth 100000 in
theorem c_X12_pour (l : Launch) (D : va_G) (T : Nat → ClassId) (ad sa av : Nat → Nat) (ta : Nat) (sz : Nat) (h0 : Nat) (h1 : Nat) (h2 : Nat) (h4 : Nat) (fs0 : List Value) (fs2 : List Value) (n9 : Int32) (fk : Nat → Int32) (t0 : Nat) (t1 : Nat) (t2 : Nat) (a0 : Nat) (a1 : Nat) (a2 : Nat) (bn : Nat → Int32) (bf : Nat → Nat → Int32) (x1 : Int32) (x2 : Int32) (x3 : Int32) (e0_5 : fs0[5]? = some (.ref h1)) (e0_4 : fs0[4]? = some (.ref h2)) (e2_0 : fs2[0]? = some (.int n9)) (e2_1 : fs2[1]? = some (.ref h4)) (hn : 0 ≤ n9.toInt ∧ n9.toInt ≤ 24) (hb0 : 0 ≤ (bn 0).toInt ∧ (bn 0).toInt ≤ 12) (hb1 : 0 ≤ (bn 1).toInt ∧ (bn 1).toInt ≤ 12) (hb2 : 0 ≤ (bn 2).toInt ∧ (bn 2).toInt ≤ 12) : Met l yX12_pour wsX12_pour ({ frames := 2, cells := 0, slots := 0, locals := 43 }) (pWk [.ref h0, .int x1, .int x2, .int x3] D T [(h0, .inr (9, fs0)), (h1, .inl (T 5, 3, .inr (.inr (.inr (.inr (va_up (va_up (va_up (fun _ => none) 0 (some t0)) 1 (some t1)) 2 (some t2))))))), (h2, .inr (1, fs2)), (h4, .inl (T 0, 24, .inl fk)), (t0, .inr (0, [.int (bn 0), .ref a0])), (t1, .inr (0, [.int (bn 1), .ref a1])), (t2, .inr (0, [.int (bn 2), .ref a2])), (a0, .inl (T 0, 12, .inl (bf 0))), (a1, .inl (T 0, 12, .inl (bf 1))), (a2, .inl (T 0, 12, .inl (bf 2)))] sz ad sa av ta) (va_Qi (fun (r : Int32) (u : (Nat → Int32) × (Nat → Nat → Int32)) => (0 ≤ (u.1 0).toInt ∧ (u.1 0).toInt ≤ 12) ∧ (0 ≤ (u.1 1).toInt ∧ (u.1 1).toInt ≤ 12) ∧ (0 ≤ (u.1 2).toInt ∧ (u.1 2).toInt ≤ 12) ∧ pourC n9 x1 x2 x3 r fk bn u.1 bf u.2) (bW D (va_A [(h0, .inr (9, fs0)), (h1, .inl (T 5, 3, .inr (.inr (.inr (.inr (va_up (va_up (va_up (fun _ => none) 0 (some t0)) 1 (some t1)) 2 (some t2))))))), (h2, .inr (1, fs2)), (h4, .inl (T 0, 24, .inl fk)), (t0, .inr (0, [.int (bn 0), .ref a0])), (t1, .inr (0, [.int (bn 1), .ref a1])), (t2, .inr (0, [.int (bn 2), .ref a2])), (a0, .inl (T 0, 12, .inl (bf 0))), (a1, .inl (T 0, 12, .inl (bf 1))), (a2, .inl (T 0, 12, .inl (bf 2)))] sz) (fun (u : (Nat → Int32) × (Nat → Nat → Int32)) => [(h0, .inr (9, fs0)), (h1, .inl (T 5, 3, .inr (.inr (.inr (.inr (va_up (va_up (va_up (fun _ => none) 0 (some t0)) 1 (some t1)) 2 (some t2))))))), (h2, .inr (1, fs2)), (h4, .inl (T 0, 24, .inl fk)), (t0, .inr (0, [.int (u.1 0), .ref a0])), (t1, .inr (0, [.int (u.1 1), .ref a1])), (t2, .inr (0, [.int (u.1 2), .ref a2])), (a0, .inl (T 0, 12, .inl (u.2 0))), (a1, .inl (T 0, 12, .inl (u.2 1))), (a2, .inl (T 0, 12, .inl (u.2 2)))])) (va_A [(h0, .inr (9, fs0)), (h1, .inl (T 5, 3, .inr (.inr (.inr (.inr (va_up (va_up (va_up (fun _ => none) 0 (some t0)) 1 (some t1)) 2 (some t2))))))), (h2, .inr (1, fs2)), (h4, .inl (T 0, 24, .inl fk)), (t0, .inr (0, [.int (bn 0), .ref a0])), (t1, .inr (0, [.int (bn 1), .ref a1])), (t2, .inr (0, [.int (bn 2), .ref a2])), (a0, .inl (T 0, 12, .inl (bf 0))), (a1, .inl (T 0, 12, .inl (bf 1))), (a2, .inl (T 0, 12, .inl (bf 2)))] sz)) 0 0 (va_A [(h0, .inr (9, fs0)), (h1, .inl (T 5, 3, .inr (.inr (.inr (.inr (va_up (va_up (va_up (fun _ => none) 0 (some t0)) 1 (some t1)) 2 (some t2))))))), (h2, .inr (1, fs2)), (h4, .inl (T 0, 24, .inl fk)), (t0, .inr (0, [.int (bn 0), .ref a0])), (t1, .inr (0, [.int (bn 1), .ref a1])), (t2, .inr (0, [.int (bn 2), .ref a2])), (a0, .inl (T 0, 12, .inl (bf 0))), (a1, .inl (T 0, 12, .inl (bf 1))), (a2, .inl (T 0, 12, .inl (bf 2)))] sz) := by
  refine Met.ofW (cc := cX12_pour) (maxL := 10) (ret := (some .int)) (by decide +kernel) rfl ?_
  intro p e s m args below meth c s₁ B hml hv
  obtain ⟨rfl, hsz, hP, hE, hD0, hV⟩ := hv
  have hx := B.exec
  have hb := B.bytes
  have hr := B.returns
  have hts := atoms_spec (ws := wsX12_pour) B.pre
  have hown : s.vm.findClass RX12 = some m.cls := findClass_of_methodNamed B.named
  have hlocks := B.notSynchronized
  subst hsz
  have hD := hD0.self (sz := s.heap.size)
  generalize hAe : va_A [(h0, .inr (9, fs0)), (h1, .inl (T 5, 3, .inr (.inr (.inr (.inr (va_up (va_up (va_up (fun _ => none) 0 (some t0)) 1 (some t1)) 2 (some t2))))))), (h2, .inr (1, fs2)), (h4, .inl (T 0, 24, .inl fk)), (t0, .inr (0, [.int (bn 0), .ref a0])), (t1, .inr (0, [.int (bn 1), .ref a1])), (t2, .inr (0, [.int (bn 2), .ref a2])), (a0, .inl (T 0, 12, .inl (bf 0))), (a1, .inl (T 0, 12, .inl (bf 1))), (a2, .inl (T 0, 12, .inl (bf 2)))] s.heap.size = A at hD hV ⊢
  have hA : ∀ q : Nat, s.heap.size ≤ q → A q := fun q h => by rw [← hAe]; exact Or.inr h
  have hS : va_S A s.heap s.heap [] := va_S.rf
  have hP : va_P D vwCl [(h0, .inr (9, fs0)), (h1, .inl (T 5, 3, .inr (.inr (.inr (.inr (va_up (va_up (va_up (fun _ => none) 0 (some t0)) 1 (some t1)) 2 (some t2))))))), (h2, .inr (1, fs2)), (h4, .inl (T 0, 24, .inl fk)), (t0, .inr (0, [.int (bn 0), .ref a0])), (t1, .inr (0, [.int (bn 1), .ref a1])), (t2, .inr (0, [.int (bn 2), .ref a2])), (a0, .inl (T 0, 12, .inl (bf 0))), (a1, .inl (T 0, 12, .inl (bf 1))), (a2, .inl (T 0, 12, .inl (bf 2)))] s.heap := hP
  have hl := lv_entry ([.ref h0, .int x1, .int x2, .int x3]) (n := 10) (Nat.le_of_ble_eq_true rfl)
  rw [lg_entry_eq]
  generalize (lg_sl ([.ref h0, .int x1, .int x2, .int x3]) ++ List.replicate (10 - (lg_sl ([.ref h0, .int x1, .int x2, .int x3])).length) Slot.unset).toArray = ls at hl ⊢
  have hl : lv_has ls 10 [(0, .ref h0), (1, .int x1), (2, .int x2), (3, .int x3)] := hl
  clear hD0
  refine lv_iload_n hx hb dX12_pour_0 rfl (lv_at hl 1 rfl) ?_
  refine vp_callSi (W.runS (As := [.int x1]) (rest := []) ⟨hx, hb, hml, hown, hts⟩ (c_X12_isBag l D T x1) (va_cwS 1 hts gX12_pour_X12_isBag rfl rfl rfl hs_X12_isBag ⟨Nat.le_of_ble_eq_true rfl, Nat.le_of_ble_eq_true rfl⟩) (pR_S hP hE [] rfl) rfl rfl hl.1 rfl (lv_room (Nat.le_of_ble_eq_true rfl)) dX12_pour_1 ⟨Nat.le_of_ble_eq_true rfl, Nat.le_of_ble_eq_true rfl⟩) (fun r_1 hr_1 => ?_)
  rcases bool_post hr_1 with ⟨c_2, rfl⟩ | ⟨c_2, rfl⟩
  · refine lv_if_eq (tgt := 33) hx hb dX12_pour_4 (by decide +kernel) (fun c9 => absurd c9 (by decide +kernel)) (fun _ => ?_)
    refine lv_iload_n hx hb dX12_pour_7 rfl (lv_at hl 2 rfl) ?_
    refine vp_callSi (W.runS (As := [.int x2]) (rest := []) ⟨hx, hb, hml, hown, hts⟩ (c_X12_isBag l D T x2) (va_cwS 1 hts gX12_pour_X12_isBag rfl rfl rfl hs_X12_isBag ⟨Nat.le_of_ble_eq_true rfl, Nat.le_of_ble_eq_true rfl⟩) (pR_S hP hE [] rfl) rfl rfl hl.1 rfl (lv_room (Nat.le_of_ble_eq_true rfl)) dX12_pour_8 ⟨Nat.le_of_ble_eq_true rfl, Nat.le_of_ble_eq_true rfl⟩) (fun r_3 hr_3 => ?_)
    rcases bool_post hr_3 with ⟨c_4, rfl⟩ | ⟨c_4, rfl⟩
    · refine lv_if_eq (tgt := 33) hx hb dX12_pour_11 (by decide +kernel) (fun c9 => absurd c9 (by decide +kernel)) (fun _ => ?_)
      refine lv_iload_n hx hb dX12_pour_14 rfl (lv_at hl 1 rfl) ?_
      refine lv_iload_n hx hb dX12_pour_15 rfl (lv_at hl 2 rfl) ?_
      refine lv_icmp_eq (tgt := 33) hx hb dX12_pour_16 (by decide +kernel) (fun c_5 => ?_) (fun c_5 => ?_)
      · rw [fa_eq] at c_5
        refine lv_bipush (v := (-2)) hx hb dX12_pour_33 (by decide +kernel) ?_
        exact W.iret hx hb hr (fun t ht hW => ⟨⟨_, ((fun k => [(bn 0), (bn 1), (bn 2)].getD k 0), (fun k => [(bf 0), (bf 1), (bf 2)].getD k (bf 0))), rfl, ⟨(show 0 ≤ ((bn 0)).toInt ∧ ((bn 0)).toInt ≤ 12 from by (try subst_vars); first | omega | (rw [dec1 (by omega)]; omega)), (show 0 ≤ ((bn 1)).toInt ∧ ((bn 1)).toInt ≤ 12 from by (try subst_vars); first | omega | (rw [dec1 (by omega)]; omega)), (show 0 ≤ ((bn 2)).toInt ∧ ((bn 2)).toInt ≤ 12 from by (try subst_vars); first | omega | (rw [dec1 (by omega)]; omega)), (Or.inl ⟨(fun h9 => by obtain ⟨⟨h1, h2⟩, h3, h4⟩ := h9; omega), (by decide +kernel), all3 ⟨rfl, rfl⟩ ⟨rfl, rfl⟩ ⟨rfl, rfl⟩⟩)⟩, by rw [ht]; exact hP.sub [0, 1, 2, 3, 4, 5, 6, 7, 8, 9] rfl, hD.sub [0, 1, 2, 3, 4, 5, 6, 7, 8, 9] (by decide +kernel) rfl⟩, hS.F ht⟩) hS.2.2 dX12_pour_35
      · rw [fa_eq] at c_5
        refine lv_iload_n hx hb dX12_pour_19 rfl (lv_at hl 3 rfl) ?_
        refine lv_iconst (v := (-1)) hx hb dX12_pour_20 (by decide +kernel) ?_
        refine va_getsN (v := .ref ta) hx hb hV.1.2.1 hS hown (va_Nw.use rfl (hE.2.2.1 (RX12, 126) (List.mem_of_getElem? (i := 0) rfl))) (fun _ h9 => h9) dX12_pour_21 ?_
        refine va_tlen (v := 13) hx hb hV.1.2.2 hS rfl dX12_pour_24 ?_
        refine lv_iconst (v := 1) hx hb dX12_pour_25 (by decide +kernel) ?_
        refine lv_isub hx hb dX12_pour_26 ?_
        refine lv_topi (fun z_6 ez_6 => ?_)
        obtain rfl : z_6 = 12 := ez_6.trans (by decide +kernel)
        refine vp_callSi (W.runS (As := [.int x3, .int (-1), .int 12]) (rest := []) ⟨hx, hb, hml, hown, hts⟩ (c_X12_within l D T x3 (-1) 12 (-1) 12 (by decide +kernel) (by decide +kernel)) (va_cwS 3 hts gX12_pour_X12_within rfl rfl rfl hs_X12_within ⟨Nat.le_of_ble_eq_true rfl, Nat.le_of_ble_eq_true rfl⟩) (pR_S hP hE [] rfl) rfl rfl hl.1 rfl (lv_room (Nat.le_of_ble_eq_true rfl)) dX12_pour_27 ⟨Nat.le_of_ble_eq_true rfl, Nat.le_of_ble_eq_true rfl⟩) (fun r_7 hr_7 => ?_)
        rcases bool_post hr_7 with ⟨c_8, rfl⟩ | ⟨c_8, rfl⟩
        · refine lv_if_ne (tgt := 36) hx hb dX12_pour_30 (by decide +kernel) (fun _ => ?_) (fun c9 => absurd c9 (by decide +kernel))
          rcases in3 (x := x1) (by omega) with rfl | rfl | rfl
          · rcases in3 (x := x2) (by omega) with rfl | rfl | rfl
            · omega
            · refine lv_aload_n hx hb dX12_pour_36 rfl (lv_at hl 0 rfl) ?_
              refine va_get (D := D) (ci := 9) (v := .ref h1) (C := RX12) (T := TX12) (N := 11) hx hb hts in_X12_pour_X12 hown hE.1 hP 0 rfl rfl 5 (by decide +kernel) (hts (.fieldLink RX12 37 "ClauseBook" "bags" "[LClauseBook$Bag;") (List.mem_of_getElem? (i := 1) rfl)) (fun _ h9 => h9) e0_5 dX12_pour_37 ?_
              refine lv_iload_n hx hb dX12_pour_40 rfl (lv_at hl 1 rfl) ?_
              refine va_aldq hx hb hE.1 hP 1 5 rfl rfl (by unfold vp_in; decide) dX12_pour_41 ?_
              refine W.eq (g2 := F0 m 42 ls [.ref t0]) rfl ?_
              refine lv_astore (lv' := [(4, .ref t0), (0, .ref h0), (1, .int 0), (2, .int 1), (3, .int x3)]) hx hb dX12_pour_42 hl (by decide +kernel) rfl (fun ls hl => ?_)
              refine lv_aload hx hb dX12_pour_44 (lv_at hl 0 rfl) ?_
              refine va_get (D := D) (ci := 0) (v := .int (bn 0)) (C := RX1) (T := TX1) (N := 2) hx hb hts in_X12_pour_X1 hown hE.1 hP 4 rfl rfl 0 (by decide +kernel) (hts (.fieldLink RX12 307 "ClauseBook$Bag" "size" "I") (List.mem_of_getElem? (i := 2) rfl)) (fun _ h9 => h9) rfl dX12_pour_46 ?_
              refine lv_istore (lv' := [(5, .int (bn 0)), (4, .ref t0), (0, .ref h0), (1, .int 0), (2, .int 1), (3, .int x3)]) hx hb dX12_pour_49 hl (by decide +kernel) rfl (fun ls hl => ?_)
              refine lv_iconst (v := 0) hx hb dX12_pour_51 (by decide +kernel) ?_
              refine lv_istore (lv' := [(6, .int 0), (5, .int (bn 0)), (4, .ref t0), (0, .ref h0), (1, .int 0), (2, .int 1), (3, .int x3)]) hx hb dX12_pour_52 hl (by decide +kernel) rfl (fun ls hl => ?_)
              refine lv_iconst (v := 0) hx hb dX12_pour_54 (by decide +kernel) ?_
              refine lv_istore (lv' := [(7, .int 0), (6, .int 0), (5, .int (bn 0)), (4, .ref t0), (0, .ref h0), (1, .int 0), (2, .int 1), (3, .int x3)]) hx hb dX12_pour_55 hl (by decide +kernel) rfl (fun ls hl => ?_)
              refine loopW (σ := (Int32) × (Int32) × (Int32) × (Nat → Int32) × (Nat → Int32)) (fun x9 ls H locs => lv_has ls 10 [(7, .int x9.1), (6, .int x9.2.1), (5, .int (bn 0)), (4, .ref t0), (0, .ref h0), (1, .int 0), (2, .int 1), (3, .int x3)] ∧ va_P D vwCl [(h0, .inr (9, fs0)), (h1, .inl (T 5, 3, .inr (.inr (.inr (.inr (va_up (va_up (va_up (fun _ => none) 0 (some t0)) 1 (some t1)) 2 (some t2))))))), (h2, .inr (1, fs2)), (h4, .inl (T 0, 24, .inl fk)), (t0, .inr (0, [.int (bn 0), .ref a0])), (t1, .inr (0, [.int x9.2.2.1, .ref a1])), (t2, .inr (0, [.int (bn 2), .ref a2])), (a0, .inl (T 0, 12, .inl x9.2.2.2.1)), (a1, .inl (T 0, 12, .inl x9.2.2.2.2)), (a2, .inl (T 0, 12, .inl (bf 2)))] H ∧ va_D A [(h0, .inr (9, fs0)), (h1, .inl (T 5, 3, .inr (.inr (.inr (.inr (va_up (va_up (va_up (fun _ => none) 0 (some t0)) 1 (some t1)) 2 (some t2))))))), (h2, .inr (1, fs2)), (h4, .inl (T 0, 24, .inl fk)), (t0, .inr (0, [.int (bn 0), .ref a0])), (t1, .inr (0, [.int x9.2.2.1, .ref a1])), (t2, .inr (0, [.int (bn 2), .ref a2])), (a0, .inl (T 0, 12, .inl x9.2.2.2.1)), (a1, .inl (T 0, 12, .inl x9.2.2.2.2)), (a2, .inl (T 0, 12, .inl (bf 2)))] ∧ va_S A s.heap H locs ∧ (((0 ≤ x9.2.1.toInt ∧ x9.2.1.toInt ≤ x9.1.toInt ∧ x9.1.toInt ≤ (bn 0).toInt) ∧ 0 ≤ x9.2.2.1.toInt ∧ x9.2.2.1.toInt ≤ 12) ∧ x9.2.1.toInt = (pourF (prP x3 n9 fk) (bf 0) (bf 1) ((bn 1).toNatClampNeg) (x9.1.toNatClampNeg)).1 ∧ x9.2.2.2.1 = (pourF (prP x3 n9 fk) (bf 0) (bf 1) ((bn 1).toNatClampNeg) (x9.1.toNatClampNeg)).2.1 ∧ x9.2.2.1.toInt = (pourF (prP x3 n9 fk) (bf 0) (bf 1) ((bn 1).toNatClampNeg) (x9.1.toNatClampNeg)).2.2.1 ∧ x9.2.2.2.2 = (pourF (prP x3 n9 fk) (bf 0) (bf 1) ((bn 1).toNatClampNeg) (x9.1.toNatClampNeg)).2.2.2)) (fun x9 => (12 - x9.1.toInt).toNat) (fun x9 ls H locs hI ih => ?_) (0, 0, (bn 1), (bf 0), (bf 1)) ls ⟨lv_sub hl [0, 1, 2, 3, 4, 5, 6, 7] rfl, hP.sub [0, 1, 2, 3, 4, 5, 6, 7, 8, 9] rfl, hD.sub [0, 1, 2, 3, 4, 5, 6, 7, 8, 9] (by decide +kernel) rfl, hS, ⟨(by (try dsimp only); simp only [ti_0]; omega), (by (try dsimp only); rw [tn0']; rfl), (by (try dsimp only); rw [tn0']; rfl), (by (try dsimp only); rw [tn0']; exact (tn (by omega)).symm), (by (try dsimp only); rw [tn0']; rfl)⟩⟩
              obtain ⟨ii, le, qq, g0, g1⟩ := x9
              obtain ⟨hl, hP, hD, hS, hinv⟩ := hI
              have hl : lv_has ls 10 [(7, .int ii), (6, .int le), (5, .int (bn 0)), (4, .ref t0), (0, .ref h0), (1, .int 0), (2, .int 1), (3, .int x3)] := hl
              have hP : va_P D vwCl [(h0, .inr (9, fs0)), (h1, .inl (T 5, 3, .inr (.inr (.inr (.inr (va_up (va_up (va_up (fun _ => none) 0 (some t0)) 1 (some t1)) 2 (some t2))))))), (h2, .inr (1, fs2)), (h4, .inl (T 0, 24, .inl fk)), (t0, .inr (0, [.int (bn 0), .ref a0])), (t1, .inr (0, [.int qq, .ref a1])), (t2, .inr (0, [.int (bn 2), .ref a2])), (a0, .inl (T 0, 12, .inl g0)), (a1, .inl (T 0, 12, .inl g1)), (a2, .inl (T 0, 12, .inl (bf 2)))] H := hP
              have hD : va_D A [(h0, .inr (9, fs0)), (h1, .inl (T 5, 3, .inr (.inr (.inr (.inr (va_up (va_up (va_up (fun _ => none) 0 (some t0)) 1 (some t1)) 2 (some t2))))))), (h2, .inr (1, fs2)), (h4, .inl (T 0, 24, .inl fk)), (t0, .inr (0, [.int (bn 0), .ref a0])), (t1, .inr (0, [.int qq, .ref a1])), (t2, .inr (0, [.int (bn 2), .ref a2])), (a0, .inl (T 0, 12, .inl g0)), (a1, .inl (T 0, 12, .inl g1)), (a2, .inl (T 0, 12, .inl (bf 2)))] := hD
              have hinv : ((0 ≤ le.toInt ∧ le.toInt ≤ ii.toInt ∧ ii.toInt ≤ (bn 0).toInt) ∧ 0 ≤ qq.toInt ∧ qq.toInt ≤ 12) ∧ le.toInt = (pourF (prP x3 n9 fk) (bf 0) (bf 1) ((bn 1).toNatClampNeg) (ii.toNatClampNeg)).1 ∧ g0 = (pourF (prP x3 n9 fk) (bf 0) (bf 1) ((bn 1).toNatClampNeg) (ii.toNatClampNeg)).2.1 ∧ qq.toInt = (pourF (prP x3 n9 fk) (bf 0) (bf 1) ((bn 1).toNatClampNeg) (ii.toNatClampNeg)).2.2.1 ∧ g1 = (pourF (prP x3 n9 fk) (bf 0) (bf 1) ((bn 1).toNatClampNeg) (ii.toNatClampNeg)).2.2.2 := hinv
              obtain ⟨hinv, hp1, hp2, hp3, hp4⟩ := hinv
              refine lv_iload hx hb dX12_pour_57 (lv_at hl 0 rfl) ?_
              refine lv_iload hx hb dX12_pour_59 (lv_at hl 2 rfl) ?_
              refine lv_icmp_ge (tgt := 153) hx hb dX12_pour_61 (by decide +kernel) (fun c_9 => ?_) (fun c_9 => ?_)
              · rw [fa_le] at c_9
                have e9 : ii = (bn 0) := Int32.toInt_inj.1 (by omega)
                rw [e9] at hp1 hp2 hp3 hp4
                refine lv_aload hx hb dX12_pour_153 (lv_at hl 3 rfl) ?_
                refine lv_iload hx hb dX12_pour_155 (lv_at hl 1 rfl) ?_
                refine va_put (D := D) (ci := 0) (v := .int le) (ty := .int) (C := RX1) (T := TX1) (N := 2) hx hb hts in_X12_pour_X1 tyX1 tyX1_ok nmX1 hown hE.1 hP hD hS 4 rfl rfl 0 (by decide +kernel) (hts (.fieldLink RX12 307 "ClauseBook$Bag" "size" "I") (List.mem_of_getElem? (i := 2) rfl)) (fun _ h9 => h9) rfl (by decide +kernel) rfl rfl (Nat.le_of_ble_eq_true rfl) dX12_pour_157 (fun H locs hP hD hS => ?_)
                obtain ⟨hP, hD⟩ := wPD [(h0, .inr (9, fs0)), (h1, .inl (T 5, 3, .inr (.inr (.inr (.inr (va_up (va_up (va_up (fun _ => none) 0 (some t0)) 1 (some t1)) 2 (some t2))))))), (h2, .inr (1, fs2)), (h4, .inl (T 0, 24, .inl fk)), (t0, .inr (0, [.int le, .ref a0])), (t1, .inr (0, [.int qq, .ref a1])), (t2, .inr (0, [.int (bn 2), .ref a2])), (a0, .inl (T 0, 12, .inl g0)), (a1, .inl (T 0, 12, .inl g1)), (a2, .inl (T 0, 12, .inl (bf 2)))] hP hD rfl
                refine lv_iload hx hb dX12_pour_160 (lv_at hl 2 rfl) ?_
                refine lv_iload hx hb dX12_pour_162 (lv_at hl 1 rfl) ?_
                refine lv_isub hx hb dX12_pour_164 ?_
                exact W.iret hx hb hr (fun t ht hW => ⟨⟨_, ((fun k => [le, qq, (bn 2)].getD k 0), (fun k => [g0, g1, (bf 2)].getD k g0)), rfl, ⟨(show 0 ≤ (le).toInt ∧ (le).toInt ≤ 12 from by (try subst_vars); first | omega | (rw [dec1 (by omega)]; omega)), (show 0 ≤ (qq).toInt ∧ (qq).toInt ≤ 12 from by (try subst_vars); first | omega | (rw [dec1 (by omega)]; omega)), (show 0 ≤ ((bn 2)).toInt ∧ ((bn 2)).toInt ≤ 12 from by (try subst_vars); first | omega | (rw [dec1 (by omega)]; omega)), (Or.inr ⟨⟨⟨⟨by decide, by decide⟩, by decide, by decide⟩, by decide, by omega⟩, _, rfl, (show (((bn 0) - le) : Int32).toInt = (bn 0).toInt - (((pourF (prP x3 n9 fk) (bf 0) (bf 1) ((bn 1).toNatClampNeg) ((bn 0).toNatClampNeg)).1 : Nat) : Int) from by have h8 := hp1; rw [fb_subI (by omega) (by omega)]; omega), all3 ⟨(fun _ => ⟨hp1, hp2⟩), (fun h9 => absurd h9 (by decide +kernel)), (fun h9 => absurd (by decide +kernel) h9)⟩ ⟨(fun h9 => absurd h9 (by decide +kernel)), (fun _ => ⟨hp3, hp4⟩), (fun _ h9 => absurd (by decide +kernel) h9)⟩ ⟨(fun h9 => absurd h9 (by decide +kernel)), (fun h9 => absurd h9 (by decide +kernel)), (fun _ _ => ⟨rfl, rfl⟩)⟩⟩)⟩, by rw [ht]; exact hP.sub [0, 1, 2, 3, 4, 5, 6, 7, 8, 9] rfl, hD.sub [0, 1, 2, 3, 4, 5, 6, 7, 8, 9] (by decide +kernel) rfl⟩, hS.F ht⟩) hS.2.2 dX12_pour_165
              · rw [fa_le] at c_9
                refine lv_aload hx hb dX12_pour_64 (lv_at hl 3 rfl) ?_
                refine va_get (D := D) (ci := 0) (v := .ref a0) (C := RX1) (T := TX1) (N := 2) hx hb hts in_X12_pour_X1 hown hE.1 hP 4 rfl rfl 1 (by decide +kernel) (hts (.fieldLink RX12 308 "ClauseBook$Bag" "numbers" "[I") (List.mem_of_getElem? (i := 3) rfl)) (fun _ h9 => h9) rfl dX12_pour_66 ?_
                refine lv_iload hx hb dX12_pour_69 (lv_at hl 0 rfl) ?_
                refine va_iald hx hb hE.1 hP 7 0 rfl rfl (by rw [vp_in_iff]; first | omega | (subst_vars; rw [dec1 (by omega)]; omega) | (subst_vars; rw [inc1 (n := 1000) (by omega) (by decide +kernel)]; omega)) dX12_pour_71 ?_
                refine lv_topi (fun z_10 ez_10 => ?_)
                have hzF : z_10 = (bf 0) (ii.toNatClampNeg) := by rw [ez_10, hp2]; exact pourF_keep _ _ (by have h8 := tn (x := ii) (by omega); omega)
                refine lv_istore (lv' := [(8, .int z_10), (7, .int ii), (6, .int le), (5, .int (bn 0)), (4, .ref t0), (0, .ref h0), (1, .int 0), (2, .int 1), (3, .int x3)]) hx hb dX12_pour_72 hl (by decide +kernel) rfl (fun ls hl => ?_)
                refine lv_iload_n hx hb dX12_pour_74 rfl (lv_at hl 8 rfl) ?_
                refine lv_iconst (v := (-1)) hx hb dX12_pour_75 (by decide +kernel) ?_
                refine lv_icmp_eq (tgt := 105) hx hb dX12_pour_76 (by decide +kernel) (fun c_11 => ?_) (fun c_11 => ?_)
                · rw [fa_eq] at c_11
                  try rw [ti_n1] at c_11
                  refine lv_iconst (v := 1) hx hb dX12_pour_105 (by decide +kernel) ?_
                  refine lv_goto (tgt := 110) hx hb dX12_pour_106 (by decide +kernel) ?_
                  refine lv_istore (lv' := [(9, .int 1), (8, .int z_10), (7, .int ii), (6, .int le), (5, .int (bn 0)), (4, .ref t0), (0, .ref h0), (1, .int 0), (2, .int 1), (3, .int x3)]) hx hb dX12_pour_110 hl (by decide +kernel) rfl (fun ls hl => ?_)
                  have hM : prP x3 n9 fk z_10 = true := decide_eq_true (Or.inl (by omega))
                  refine lv_iload hx hb dX12_pour_112 (lv_at hl 0 rfl) ?_
                  refine lv_if_eq (tgt := 134) hx hb dX12_pour_114 (by decide +kernel) (fun c9 => absurd c9 (by decide +kernel)) (fun _ => ?_)
                  refine lv_aload_n hx hb dX12_pour_117 rfl (lv_at hl 6 rfl) ?_
                  refine va_get (D := D) (ci := 9) (v := .ref h1) (C := RX12) (T := TX12) (N := 11) hx hb hts in_X12_pour_X12 hown hE.1 hP 0 rfl rfl 5 (by decide +kernel) (hts (.fieldLink RX12 37 "ClauseBook" "bags" "[LClauseBook$Bag;") (List.mem_of_getElem? (i := 1) rfl)) (fun _ h9 => h9) e0_5 dX12_pour_118 ?_
                  refine lv_iload_n hx hb dX12_pour_121 rfl (lv_at hl 8 rfl) ?_
                  refine va_aldq hx hb hE.1 hP 1 5 rfl rfl (by unfold vp_in; decide) dX12_pour_122 ?_
                  refine W.eq (g2 := F0 m 123 ls [.ref t1]) rfl ?_
                  refine lv_iload hx hb dX12_pour_123 (lv_at hl 1 rfl) ?_
                  have hFc := va_free (wc := [(t1, .inr (0, [.int qq, .ref a1])), (a1, .inl (T 0, 12, .inl g1))]) hD hS hA [5, 8] rfl
                  refine va_calli (va_runV (As := [.int z_10]) (rest := []) ⟨hx, hb, hml, hown, hts⟩ (c_X1_append l D T _ t1 qq a1 g1 z_10 (by omega)) (cwV 1 hts gX12_pour_X1_append rfl rfl rfl hv_X1_append ⟨Nat.le_of_ble_eq_true rfl, Nat.le_of_ble_eq_true rfl⟩) (pW_V (q := (RX1, TX1, 2)) (ci := 0) (q0 := 5) hP hE hD rfl rfl [5, 8] (by decide +kernel) rfl rfl) rfl rfl hl.1 rfl (lv_room (Nat.le_of_ble_eq_true rfl)) dX12_pour_125 ⟨Nat.le_of_ble_eq_true rfl, Nat.le_of_ble_eq_true rfl⟩) hS (fun q _ h => hFc q h) hFc (fun r_12 u_13 t H1 locs ht hvm hr_12 hB hz1 hk1 hS => ?_)
                  obtain ⟨n_14, f_15⟩ := u_13
                  have hinn_14 : 0 ≤ n_14.toInt ∧ n_14.toInt ≤ 12 := hr_12.2.1
                  have hap : ((qq).toInt < 12 → n_14.toInt = (qq).toInt + 1 ∧ f_15 = upd g1 ((qq).toNatClampNeg) z_10) ∧ (¬ (qq).toInt < 12 → n_14 = qq ∧ f_15 = g1) := hr_12.2.2
                  have hbo : r_12 = if (qq).toInt < 12 then 1 else 0 := hr_12.1
                  obtain ⟨hP1, hD1⟩ := hB
                  rw [ht] at hP1
                  obtain ⟨hP, hD⟩ := va_repl [(h0, .inr (9, fs0)), (h1, .inl (T 5, 3, .inr (.inr (.inr (.inr (va_up (va_up (va_up (fun _ => none) 0 (some t0)) 1 (some t1)) 2 (some t2))))))), (h2, .inr (1, fs2)), (h4, .inl (T 0, 24, .inl fk)), (t0, .inr (0, [.int (bn 0), .ref a0])), (t1, .inr (0, [.int n_14, .ref a1])), (t2, .inr (0, [.int (bn 2), .ref a2])), (a0, .inl (T 0, 12, .inl g0)), (a1, .inl (T 0, 12, .inl f_15)), (a2, .inl (T 0, 12, .inl (bf 2)))] hP hD [5, 8] [5, 8] rfl (by decide +kernel) rfl rfl rfl hk1 hP1
                  clear hP1 hD1 hFc
                  generalize H1 = H at hP hS ⊢
                  rcases bool_post hbo with ⟨c_16, rfl⟩ | ⟨c_16, rfl⟩
                  · refine lv_if_eq (tgt := 134) hx hb dX12_pour_128 (by decide +kernel) (fun c9 => absurd c9 (by decide +kernel)) (fun _ => ?_)
                    refine lv_goto (tgt := 147) hx hb dX12_pour_131 (by decide +kernel) ?_
                    obtain ⟨z_17, ez_17⟩ : ∃ y : Int32, y = ii + 1 := ⟨_, rfl⟩
                    refine lv_iinc (v := z_17) (lv' := [(7, .int z_17), (9, .int 1), (8, .int z_10), (6, .int le), (5, .int (bn 0)), (4, .ref t0), (0, .ref h0), (1, .int 0), (2, .int 1), (3, .int x3)]) hx hb dX12_pour_147 hl (k := 2) rfl (by rw [ez_17]; rfl) (by decide +kernel) rfl (fun ls hl => ?_)
                    have hi9 : z_17.toInt = ii.toInt + 1 := by rw [ez_17]; exact inc1 (n := 1000) (by omega) (by decide +kernel)
                    refine lv_goto (tgt := 57) hx hb dX12_pour_150 (by decide +kernel) ?_
                    exact ih (z_17, le, n_14, g0, f_15) ls _ _ ⟨lv_sub hl [0, 3, 4, 5, 6, 7, 8, 9] rfl, hP.sub [0, 1, 2, 3, 4, 5, 6, 7, 8, 9] rfl, hD.sub [0, 1, 2, 3, 4, 5, 6, 7, 8, 9] (by decide +kernel) rfl, hS, ⟨(by (try dsimp only); omega), (by (try dsimp only); exact pour_stepY (by omega) hi9 hp1 hp2 hp3 hp4 hzF hM (by omega) (hap.1 (by omega)).1 (hap.1 (by omega)).2)⟩⟩ (by (try dsimp only); omega)
                  · refine lv_if_eq (tgt := 134) hx hb dX12_pour_128 (by decide +kernel) (fun _ => ?_) (fun c9 => absurd c9 (by decide +kernel))
                    refine lv_aload hx hb dX12_pour_134 (lv_at hl 5 rfl) ?_
                    refine va_get (D := D) (ci := 0) (v := .ref a0) (C := RX1) (T := TX1) (N := 2) hx hb hts in_X12_pour_X1 hown hE.1 hP 4 rfl rfl 1 (by decide +kernel) (hts (.fieldLink RX12 308 "ClauseBook$Bag" "numbers" "[I") (List.mem_of_getElem? (i := 3) rfl)) (fun _ h9 => h9) rfl dX12_pour_136 ?_
                    refine lv_iload hx hb dX12_pour_139 (lv_at hl 3 rfl) ?_
                    refine lv_iload hx hb dX12_pour_141 (lv_at hl 1 rfl) ?_
                    refine va_iast hx hb hE.1 hP hD hS 7 0 rfl rfl (by rw [vp_in_iff]; first | omega | (subst_vars; rw [dec1 (by omega)]; omega) | (subst_vars; rw [inc1 (n := 1000) (by omega) (by decide +kernel)]; omega)) dX12_pour_143 (fun H locs hP hD hS => ?_)
                    obtain ⟨hP, hD⟩ := wPD [(h0, .inr (9, fs0)), (h1, .inl (T 5, 3, .inr (.inr (.inr (.inr (va_up (va_up (va_up (fun _ => none) 0 (some t0)) 1 (some t1)) 2 (some t2))))))), (h2, .inr (1, fs2)), (h4, .inl (T 0, 24, .inl fk)), (t0, .inr (0, [.int (bn 0), .ref a0])), (t1, .inr (0, [.int n_14, .ref a1])), (t2, .inr (0, [.int (bn 2), .ref a2])), (a0, .inl (T 0, 12, .inl (upd g0 (le.toNatClampNeg) z_10))), (a1, .inl (T 0, 12, .inl f_15)), (a2, .inl (T 0, 12, .inl (bf 2)))] hP hD rfl
                    obtain ⟨z_18, ez_18⟩ : ∃ y : Int32, y = le + 1 := ⟨_, rfl⟩
                    refine lv_iinc (v := z_18) (lv' := [(6, .int z_18), (9, .int 1), (8, .int z_10), (7, .int ii), (5, .int (bn 0)), (4, .ref t0), (0, .ref h0), (1, .int 0), (2, .int 1), (3, .int x3)]) hx hb dX12_pour_144 hl (k := 3) rfl (by rw [ez_18]; rfl) (by decide +kernel) rfl (fun ls hl => ?_)
                    obtain ⟨z_19, ez_19⟩ : ∃ y : Int32, y = ii + 1 := ⟨_, rfl⟩
                    refine lv_iinc (v := z_19) (lv' := [(7, .int z_19), (6, .int z_18), (9, .int 1), (8, .int z_10), (5, .int (bn 0)), (4, .ref t0), (0, .ref h0), (1, .int 0), (2, .int 1), (3, .int x3)]) hx hb dX12_pour_147 hl (k := 3) rfl (by rw [ez_19]; rfl) (by decide +kernel) rfl (fun ls hl => ?_)
                    have hi9 : z_19.toInt = ii.toInt + 1 := by rw [ez_19]; exact inc1 (n := 1000) (by omega) (by decide +kernel)
                    have hl9 : z_18.toInt = le.toInt + 1 := by rw [ez_18]; exact inc1 (n := 1000) (by omega) (by decide +kernel)
                    refine lv_goto (tgt := 57) hx hb dX12_pour_150 (by decide +kernel) ?_
                    exact ih (z_19, z_18, n_14, (upd g0 (le.toNatClampNeg) z_10), f_15) ls _ _ ⟨lv_sub hl [0, 1, 4, 5, 6, 7, 8, 9] rfl, hP.sub [0, 1, 2, 3, 4, 5, 6, 7, 8, 9] rfl, hD.sub [0, 1, 2, 3, 4, 5, 6, 7, 8, 9] (by decide +kernel) rfl, hS, ⟨(by (try dsimp only); omega), (by (try dsimp only); exact pour_stepN (by omega) (by omega) hi9 hp1 hp2 hp3 hp4 hzF (fun h9 => by first | exact hM h9.1 | omega) hl9 rfl (by rw [(hap.2 (by omega)).1]) (hap.2 (by omega)).2)⟩⟩ (by (try dsimp only); omega)
                · rw [fa_eq] at c_11
                  try rw [ti_n1] at c_11
                  refine lv_aload_n hx hb dX12_pour_79 rfl (lv_at hl 5 rfl) ?_
                  refine va_get (D := D) (ci := 9) (v := .ref h2) (C := RX12) (T := TX12) (N := 11) hx hb hts in_X12_pour_X12 hown hE.1 hP 0 rfl rfl 4 (by decide +kernel) (hts (.fieldLink RX12 32 "ClauseBook" "clauses" "LClauseBook$Clauses;") (List.mem_of_getElem? (i := 4) rfl)) (fun _ h9 => h9) e0_4 dX12_pour_80 ?_
                  refine lv_iload hx hb dX12_pour_83 (lv_at hl 0 rfl) ?_
                  refine vp_callSi (W.runV (As := [.int z_10]) (rest := []) ⟨hx, hb, hml, hown, hts⟩ (c_X2_has l D T h2 fs2 z_10 n9 e2_0 (by omega)) (cwV 1 hts gX12_pour_X2_has rfl rfl rfl hv_X2_has ⟨Nat.le_of_ble_eq_true rfl, Nat.le_of_ble_eq_true rfl⟩) (pR_V (q := (RX2, TX2, 8)) (ci := 1) (q0 := 2) hP hE rfl rfl [2] rfl) rfl rfl hl.1 rfl (lv_room (Nat.le_of_ble_eq_true rfl)) dX12_pour_85 ⟨Nat.le_of_ble_eq_true rfl, Nat.le_of_ble_eq_true rfl⟩) (fun r_20 hr_20 => ?_)
                  rcases bool_post hr_20 with ⟨c_21, rfl⟩ | ⟨c_21, rfl⟩
                  · refine lv_if_eq (tgt := 109) hx hb dX12_pour_88 (by decide +kernel) (fun c9 => absurd c9 (by decide +kernel)) (fun _ => ?_)
                    refine lv_aload_n hx hb dX12_pour_91 rfl (lv_at hl 5 rfl) ?_
                    refine va_get (D := D) (ci := 9) (v := .ref h2) (C := RX12) (T := TX12) (N := 11) hx hb hts in_X12_pour_X12 hown hE.1 hP 0 rfl rfl 4 (by decide +kernel) (hts (.fieldLink RX12 32 "ClauseBook" "clauses" "LClauseBook$Clauses;") (List.mem_of_getElem? (i := 4) rfl)) (fun _ h9 => h9) e0_4 dX12_pour_92 ?_
                    refine va_get (D := D) (ci := 1) (v := .ref h4) (C := RX2) (T := TX2) (N := 8) hx hb hts in_X12_pour_X2 hown hE.1 hP 2 rfl rfl 1 (by decide +kernel) (hts (.fieldLink RX12 153 "ClauseBook$Clauses" "kind" "[I") (List.mem_of_getElem? (i := 5) rfl)) (fun _ h9 => h9) e2_1 dX12_pour_95 ?_
                    refine lv_iload hx hb dX12_pour_98 (lv_at hl 0 rfl) ?_
                    refine va_iald hx hb hE.1 hP 3 0 rfl rfl (by rw [vp_in_iff]; first | omega | (subst_vars; rw [dec1 (by omega)]; omega) | (subst_vars; rw [inc1 (n := 1000) (by omega) (by decide +kernel)]; omega)) dX12_pour_100 ?_
                    refine lv_topi (fun z_22 ez_22 => ?_)
                    refine lv_iload_n hx hb dX12_pour_101 rfl (lv_at hl 8 rfl) ?_
                    refine lv_icmp_ne (tgt := 109) hx hb dX12_pour_102 (by decide +kernel) (fun c_23 => ?_) (fun c_23 => ?_)
                    · rw [fa_eq] at c_23
                      refine lv_iconst (v := 0) hx hb dX12_pour_109 (by decide +kernel) ?_
                      refine lv_istore (lv' := [(9, .int 0), (8, .int z_10), (7, .int ii), (6, .int le), (5, .int (bn 0)), (4, .ref t0), (0, .ref h0), (1, .int 0), (2, .int 1), (3, .int x3)]) hx hb dX12_pour_110 hl (by decide +kernel) rfl (fun ls hl => ?_)
                      have hM : ¬ prP x3 n9 fk z_10 = true := fun h9 => by rcases of_decide_eq_true h9 with h8 | ⟨h8, h7⟩ <;> first | omega | (rw [← ez_22] at h7; omega)
                      refine lv_iload hx hb dX12_pour_112 (lv_at hl 0 rfl) ?_
                      refine lv_if_eq (tgt := 134) hx hb dX12_pour_114 (by decide +kernel) (fun _ => ?_) (fun c9 => absurd c9 (by decide +kernel))
                      refine lv_aload hx hb dX12_pour_134 (lv_at hl 5 rfl) ?_
                      refine va_get (D := D) (ci := 0) (v := .ref a0) (C := RX1) (T := TX1) (N := 2) hx hb hts in_X12_pour_X1 hown hE.1 hP 4 rfl rfl 1 (by decide +kernel) (hts (.fieldLink RX12 308 "ClauseBook$Bag" "numbers" "[I") (List.mem_of_getElem? (i := 3) rfl)) (fun _ h9 => h9) rfl dX12_pour_136 ?_
                      refine lv_iload hx hb dX12_pour_139 (lv_at hl 3 rfl) ?_
                      refine lv_iload hx hb dX12_pour_141 (lv_at hl 1 rfl) ?_
                      refine va_iast hx hb hE.1 hP hD hS 7 0 rfl rfl (by rw [vp_in_iff]; first | omega | (subst_vars; rw [dec1 (by omega)]; omega) | (subst_vars; rw [inc1 (n := 1000) (by omega) (by decide +kernel)]; omega)) dX12_pour_143 (fun H locs hP hD hS => ?_)
                      obtain ⟨hP, hD⟩ := wPD [(h0, .inr (9, fs0)), (h1, .inl (T 5, 3, .inr (.inr (.inr (.inr (va_up (va_up (va_up (fun _ => none) 0 (some t0)) 1 (some t1)) 2 (some t2))))))), (h2, .inr (1, fs2)), (h4, .inl (T 0, 24, .inl fk)), (t0, .inr (0, [.int (bn 0), .ref a0])), (t1, .inr (0, [.int qq, .ref a1])), (t2, .inr (0, [.int (bn 2), .ref a2])), (a0, .inl (T 0, 12, .inl (upd g0 (le.toNatClampNeg) z_10))), (a1, .inl (T 0, 12, .inl g1)), (a2, .inl (T 0, 12, .inl (bf 2)))] hP hD rfl
                      obtain ⟨z_24, ez_24⟩ : ∃ y : Int32, y = le + 1 := ⟨_, rfl⟩
                      refine lv_iinc (v := z_24) (lv' := [(6, .int z_24), (9, .int 0), (8, .int z_10), (7, .int ii), (5, .int (bn 0)), (4, .ref t0), (0, .ref h0), (1, .int 0), (2, .int 1), (3, .int x3)]) hx hb dX12_pour_144 hl (k := 3) rfl (by rw [ez_24]; rfl) (by decide +kernel) rfl (fun ls hl => ?_)
                      obtain ⟨z_25, ez_25⟩ : ∃ y : Int32, y = ii + 1 := ⟨_, rfl⟩
                      refine lv_iinc (v := z_25) (lv' := [(7, .int z_25), (6, .int z_24), (9, .int 0), (8, .int z_10), (5, .int (bn 0)), (4, .ref t0), (0, .ref h0), (1, .int 0), (2, .int 1), (3, .int x3)]) hx hb dX12_pour_147 hl (k := 3) rfl (by rw [ez_25]; rfl) (by decide +kernel) rfl (fun ls hl => ?_)
                      have hi9 : z_25.toInt = ii.toInt + 1 := by rw [ez_25]; exact inc1 (n := 1000) (by omega) (by decide +kernel)
                      have hl9 : z_24.toInt = le.toInt + 1 := by rw [ez_24]; exact inc1 (n := 1000) (by omega) (by decide +kernel)
                      refine lv_goto (tgt := 57) hx hb dX12_pour_150 (by decide +kernel) ?_
                      exact ih (z_25, z_24, qq, (upd g0 (le.toNatClampNeg) z_10), g1) ls _ _ ⟨lv_sub hl [0, 1, 4, 5, 6, 7, 8, 9] rfl, hP.sub [0, 1, 2, 3, 4, 5, 6, 7, 8, 9] rfl, hD.sub [0, 1, 2, 3, 4, 5, 6, 7, 8, 9] (by decide +kernel) rfl, hS, ⟨(by (try dsimp only); omega), (by (try dsimp only); exact pour_stepN (by omega) (by omega) hi9 hp1 hp2 hp3 hp4 hzF (fun h9 => by first | exact hM h9.1 | omega) hl9 rfl rfl rfl)⟩⟩ (by (try dsimp only); omega)
                    · rw [fa_eq] at c_23
                      refine lv_iconst (v := 1) hx hb dX12_pour_105 (by decide +kernel) ?_
                      refine lv_goto (tgt := 110) hx hb dX12_pour_106 (by decide +kernel) ?_
                      refine lv_istore (lv' := [(9, .int 1), (8, .int z_10), (7, .int ii), (6, .int le), (5, .int (bn 0)), (4, .ref t0), (0, .ref h0), (1, .int 0), (2, .int 1), (3, .int x3)]) hx hb dX12_pour_110 hl (by decide +kernel) rfl (fun ls hl => ?_)
                      have hM : prP x3 n9 fk z_10 = true := decide_eq_true (by first | exact Or.inl (by omega) | exact Or.inr ⟨(by omega), (by rw [← ez_22]; omega)⟩)
                      refine lv_iload hx hb dX12_pour_112 (lv_at hl 0 rfl) ?_
                      refine lv_if_eq (tgt := 134) hx hb dX12_pour_114 (by decide +kernel) (fun c9 => absurd c9 (by decide +kernel)) (fun _ => ?_)
                      refine lv_aload_n hx hb dX12_pour_117 rfl (lv_at hl 6 rfl) ?_
                      refine va_get (D := D) (ci := 9) (v := .ref h1) (C := RX12) (T := TX12) (N := 11) hx hb hts in_X12_pour_X12 hown hE.1 hP 0 rfl rfl 5 (by decide +kernel) (hts (.fieldLink RX12 37 "ClauseBook" "bags" "[LClauseBook$Bag;") (List.mem_of_getElem? (i := 1) rfl)) (fun _ h9 => h9) e0_5 dX12_pour_118 ?_
                      refine lv_iload_n hx hb dX12_pour_121 rfl (lv_at hl 8 rfl) ?_
                      refine va_aldq hx hb hE.1 hP 1 5 rfl rfl (by unfold vp_in; decide) dX12_pour_122 ?_
                      refine W.eq (g2 := F0 m 123 ls [.ref t1]) rfl ?_
                      refine lv_iload hx hb dX12_pour_123 (lv_at hl 1 rfl) ?_
                      have hFc := va_free (wc := [(t1, .inr (0, [.int qq, .ref a1])), (a1, .inl (T 0, 12, .inl g1))]) hD hS hA [5, 8] rfl
                      refine va_calli (va_runV (As := [.int z_10]) (rest := []) ⟨hx, hb, hml, hown, hts⟩ (c_X1_append l D T _ t1 qq a1 g1 z_10 (by omega)) (cwV 1 hts gX12_pour_X1_append rfl rfl rfl hv_X1_append ⟨Nat.le_of_ble_eq_true rfl, Nat.le_of_ble_eq_true rfl⟩) (pW_V (q := (RX1, TX1, 2)) (ci := 0) (q0 := 5) hP hE hD rfl rfl [5, 8] (by decide +kernel) rfl rfl) rfl rfl hl.1 rfl (lv_room (Nat.le_of_ble_eq_true rfl)) dX12_pour_125 ⟨Nat.le_of_ble_eq_true rfl, Nat.le_of_ble_eq_true rfl⟩) hS (fun q _ h => hFc q h) hFc (fun r_26 u_27 t H1 locs ht hvm hr_26 hB hz1 hk1 hS => ?_)
                      obtain ⟨n_28, f_29⟩ := u_27
                      have hinn_28 : 0 ≤ n_28.toInt ∧ n_28.toInt ≤ 12 := hr_26.2.1
                      have hap : ((qq).toInt < 12 → n_28.toInt = (qq).toInt + 1 ∧ f_29 = upd g1 ((qq).toNatClampNeg) z_10) ∧ (¬ (qq).toInt < 12 → n_28 = qq ∧ f_29 = g1) := hr_26.2.2
                      have hbo : r_26 = if (qq).toInt < 12 then 1 else 0 := hr_26.1
                      obtain ⟨hP1, hD1⟩ := hB
                      rw [ht] at hP1
                      obtain ⟨hP, hD⟩ := va_repl [(h0, .inr (9, fs0)), (h1, .inl (T 5, 3, .inr (.inr (.inr (.inr (va_up (va_up (va_up (fun _ => none) 0 (some t0)) 1 (some t1)) 2 (some t2))))))), (h2, .inr (1, fs2)), (h4, .inl (T 0, 24, .inl fk)), (t0, .inr (0, [.int (bn 0), .ref a0])), (t1, .inr (0, [.int n_28, .ref a1])), (t2, .inr (0, [.int (bn 2), .ref a2])), (a0, .inl (T 0, 12, .inl g0)), (a1, .inl (T 0, 12, .inl f_29)), (a2, .inl (T 0, 12, .inl (bf 2)))] hP hD [5, 8] [5, 8] rfl (by decide +kernel) rfl rfl rfl hk1 hP1
                      clear hP1 hD1 hFc
                      generalize H1 = H at hP hS ⊢
                      rcases bool_post hbo with ⟨c_30, rfl⟩ | ⟨c_30, rfl⟩
                      · refine lv_if_eq (tgt := 134) hx hb dX12_pour_128 (by decide +kernel) (fun c9 => absurd c9 (by decide +kernel)) (fun _ => ?_)
                        refine lv_goto (tgt := 147) hx hb dX12_pour_131 (by decide +kernel) ?_
                        obtain ⟨z_31, ez_31⟩ : ∃ y : Int32, y = ii + 1 := ⟨_, rfl⟩
                        refine lv_iinc (v := z_31) (lv' := [(7, .int z_31), (9, .int 1), (8, .int z_10), (6, .int le), (5, .int (bn 0)), (4, .ref t0), (0, .ref h0), (1, .int 0), (2, .int 1), (3, .int x3)]) hx hb dX12_pour_147 hl (k := 2) rfl (by rw [ez_31]; rfl) (by decide +kernel) rfl (fun ls hl => ?_)
                        have hi9 : z_31.toInt = ii.toInt + 1 := by rw [ez_31]; exact inc1 (n := 1000) (by omega) (by decide +kernel)
                        refine lv_goto (tgt := 57) hx hb dX12_pour_150 (by decide +kernel) ?_
                        exact ih (z_31, le, n_28, g0, f_29) ls _ _ ⟨lv_sub hl [0, 3, 4, 5, 6, 7, 8, 9] rfl, hP.sub [0, 1, 2, 3, 4, 5, 6, 7, 8, 9] rfl, hD.sub [0, 1, 2, 3, 4, 5, 6, 7, 8, 9] (by decide +kernel) rfl, hS, ⟨(by (try dsimp only); omega), (by (try dsimp only); exact pour_stepY (by omega) hi9 hp1 hp2 hp3 hp4 hzF hM (by omega) (hap.1 (by omega)).1 (hap.1 (by omega)).2)⟩⟩ (by (try dsimp only); omega)
                      · refine lv_if_eq (tgt := 134) hx hb dX12_pour_128 (by decide +kernel) (fun _ => ?_) (fun c9 => absurd c9 (by decide +kernel))
                        refine lv_aload hx hb dX12_pour_134 (lv_at hl 5 rfl) ?_
                        refine va_get (D := D) (ci := 0) (v := .ref a0) (C := RX1) (T := TX1) (N := 2) hx hb hts in_X12_pour_X1 hown hE.1 hP 4 rfl rfl 1 (by decide +kernel) (hts (.fieldLink RX12 308 "ClauseBook$Bag" "numbers" "[I") (List.mem_of_getElem? (i := 3) rfl)) (fun _ h9 => h9) rfl dX12_pour_136 ?_
                        refine lv_iload hx hb dX12_pour_139 (lv_at hl 3 rfl) ?_
                        refine lv_iload hx hb dX12_pour_141 (lv_at hl 1 rfl) ?_
                        refine va_iast hx hb hE.1 hP hD hS 7 0 rfl rfl (by rw [vp_in_iff]; first | omega | (subst_vars; rw [dec1 (by omega)]; omega) | (subst_vars; rw [inc1 (n := 1000) (by omega) (by decide +kernel)]; omega)) dX12_pour_143 (fun H locs hP hD hS => ?_)
                        obtain ⟨hP, hD⟩ := wPD [(h0, .inr (9, fs0)), (h1, .inl (T 5, 3, .inr (.inr (.inr (.inr (va_up (va_up (va_up (fun _ => none) 0 (some t0)) 1 (some t1)) 2 (some t2))))))), (h2, .inr (1, fs2)), (h4, .inl (T 0, 24, .inl fk)), (t0, .inr (0, [.int (bn 0), .ref a0])), (t1, .inr (0, [.int n_28, .ref a1])), (t2, .inr (0, [.int (bn 2), .ref a2])), (a0, .inl (T 0, 12, .inl (upd g0 (le.toNatClampNeg) z_10))), (a1, .inl (T 0, 12, .inl f_29)), (a2, .inl (T 0, 12, .inl (bf 2)))] hP hD rfl
                        obtain ⟨z_32, ez_32⟩ : ∃ y : Int32, y = le + 1 := ⟨_, rfl⟩
                        refine lv_iinc (v := z_32) (lv' := [(6, .int z_32), (9, .int 1), (8, .int z_10), (7, .int ii), (5, .int (bn 0)), (4, .ref t0), (0, .ref h0), (1, .int 0), (2, .int 1), (3, .int x3)]) hx hb dX12_pour_144 hl (k := 3) rfl (by rw [ez_32]; rfl) (by decide +kernel) rfl (fun ls hl => ?_)
                        obtain ⟨z_33, ez_33⟩ : ∃ y : Int32, y = ii + 1 := ⟨_, rfl⟩
                        refine lv_iinc (v := z_33) (lv' := [(7, .int z_33), (6, .int z_32), (9, .int 1), (8, .int z_10), (5, .int (bn 0)), (4, .ref t0), (0, .ref h0), (1, .int 0), (2, .int 1), (3, .int x3)]) hx hb dX12_pour_147 hl (k := 3) rfl (by rw [ez_33]; rfl) (by decide +kernel) rfl (fun ls hl => ?_)
                        have hi9 : z_33.toInt = ii.toInt + 1 := by rw [ez_33]; exact inc1 (n := 1000) (by omega) (by decide +kernel)
                        have hl9 : z_32.toInt = le.toInt + 1 := by rw [ez_32]; exact inc1 (n := 1000) (by omega) (by decide +kernel)
                        refine lv_goto (tgt := 57) hx hb dX12_pour_150 (by decide +kernel) ?_
                        exact ih (z_33, z_32, n_28, (upd g0 (le.toNatClampNeg) z_10), f_29) ls _ _ ⟨lv_sub hl [0, 1, 4, 5, 6, 7, 8, 9] rfl, hP.sub [0, 1, 2, 3, 4, 5, 6, 7, 8, 9] rfl, hD.sub [0, 1, 2, 3, 4, 5, 6, 7, 8, 9] (by decide +kernel) rfl, hS, ⟨(by (try dsimp only); omega), (by (try dsimp only); exact pour_stepN (by omega) (by omega) hi9 hp1 hp2 hp3 hp4 hzF (fun h9 => by first | exact hM h9.1 | omega) hl9 rfl (by rw [(hap.2 (by omega)).1]) (hap.2 (by omega)).2)⟩⟩ (by (try dsimp only); omega)
                  · refine lv_if_eq (tgt := 109) hx hb dX12_pour_88 (by decide +kernel) (fun _ => ?_) (fun c9 => absurd c9 (by decide +kernel))
                    refine lv_iconst (v := 0) hx hb dX12_pour_109 (by decide +kernel) ?_
                    refine lv_istore (lv' := [(9, .int 0), (8, .int z_10), (7, .int ii), (6, .int le), (5, .int (bn 0)), (4, .ref t0), (0, .ref h0), (1, .int 0), (2, .int 1), (3, .int x3)]) hx hb dX12_pour_110 hl (by decide +kernel) rfl (fun ls hl => ?_)
                    have hM : ¬ prP x3 n9 fk z_10 = true := fun h9 => by rcases of_decide_eq_true h9 with h8 | ⟨h8, h7⟩ <;> first | omega | (rw [← ez_22] at h7; omega)
                    refine lv_iload hx hb dX12_pour_112 (lv_at hl 0 rfl) ?_
                    refine lv_if_eq (tgt := 134) hx hb dX12_pour_114 (by decide +kernel) (fun _ => ?_) (fun c9 => absurd c9 (by decide +kernel))
                    refine lv_aload hx hb dX12_pour_134 (lv_at hl 5 rfl) ?_
                    refine va_get (D := D) (ci := 0) (v := .ref a0) (C := RX1) (T := TX1) (N := 2) hx hb hts in_X12_pour_X1 hown hE.1 hP 4 rfl rfl 1 (by decide +kernel) (hts (.fieldLink RX12 308 "ClauseBook$Bag" "numbers" "[I") (List.mem_of_getElem? (i := 3) rfl)) (fun _ h9 => h9) rfl dX12_pour_136 ?_
                    refine lv_iload hx hb dX12_pour_139 (lv_at hl 3 rfl) ?_
                    refine lv_iload hx hb dX12_pour_141 (lv_at hl 1 rfl) ?_
                    refine va_iast hx hb hE.1 hP hD hS 7 0 rfl rfl (by rw [vp_in_iff]; first | omega | (subst_vars; rw [dec1 (by omega)]; omega) | (subst_vars; rw [inc1 (n := 1000) (by omega) (by decide +kernel)]; omega)) dX12_pour_143 (fun H locs hP hD hS => ?_)
                    obtain ⟨hP, hD⟩ := wPD [(h0, .inr (9, fs0)), (h1, .inl (T 5, 3, .inr (.inr (.inr (.inr (va_up (va_up (va_up (fun _ => none) 0 (some t0)) 1 (some t1)) 2 (some t2))))))), (h2, .inr (1, fs2)), (h4, .inl (T 0, 24, .inl fk)), (t0, .inr (0, [.int (bn 0), .ref a0])), (t1, .inr (0, [.int qq, .ref a1])), (t2, .inr (0, [.int (bn 2), .ref a2])), (a0, .inl (T 0, 12, .inl (upd g0 (le.toNatClampNeg) z_10))), (a1, .inl (T 0, 12, .inl g1)), (a2, .inl (T 0, 12, .inl (bf 2)))] hP hD rfl
                    obtain ⟨z_34, ez_34⟩ : ∃ y : Int32, y = le + 1 := ⟨_, rfl⟩
                    refine lv_iinc (v := z_34) (lv' := [(6, .int z_34), (9, .int 0), (8, .int z_10), (7, .int ii), (5, .int (bn 0)), (4, .ref t0), (0, .ref h0), (1, .int 0), (2, .int 1), (3, .int x3)]) hx hb dX12_pour_144 hl (k := 3) rfl (by rw [ez_34]; rfl) (by decide +kernel) rfl (fun ls hl => ?_)
                    obtain ⟨z_35, ez_35⟩ : ∃ y : Int32, y = ii + 1 := ⟨_, rfl⟩
                    refine lv_iinc (v := z_35) (lv' := [(7, .int z_35), (6, .int z_34), (9, .int 0), (8, .int z_10), (5, .int (bn 0)), (4, .ref t0), (0, .ref h0), (1, .int 0), (2, .int 1), (3, .int x3)]) hx hb dX12_pour_147 hl (k := 3) rfl (by rw [ez_35]; rfl) (by decide +kernel) rfl (fun ls hl => ?_)
                    have hi9 : z_35.toInt = ii.toInt + 1 := by rw [ez_35]; exact inc1 (n := 1000) (by omega) (by decide +kernel)
                    have hl9 : z_34.toInt = le.toInt + 1 := by rw [ez_34]; exact inc1 (n := 1000) (by omega) (by decide +kernel)
                    refine lv_goto (tgt := 57) hx hb dX12_pour_150 (by decide +kernel) ?_
                    exact ih (z_35, z_34, qq, (upd g0 (le.toNatClampNeg) z_10), g1) ls _ _ ⟨lv_sub hl [0, 1, 4, 5, 6, 7, 8, 9] rfl, hP.sub [0, 1, 2, 3, 4, 5, 6, 7, 8, 9] rfl, hD.sub [0, 1, 2, 3, 4, 5, 6, 7, 8, 9] (by decide +kernel) rfl, hS, ⟨(by (try dsimp only); omega), (by (try dsimp only); exact pour_stepN (by omega) (by omega) hi9 hp1 hp2 hp3 hp4 hzF (fun h9 => by first | exact hM h9.1 | omega) hl9 rfl rfl rfl)⟩⟩ (by (try dsimp only); omega)
            · refine lv_aload_n hx hb dX12_pour_36 rfl (lv_at hl 0 rfl) ?_
              refine va_get (D := D) (ci := 9) (v := .ref h1) (C := RX12) (T := TX12) (N := 11) hx hb hts in_X12_pour_X12 hown hE.1 hP 0 rfl rfl 5 (by decide +kernel) (hts (.fieldLink RX12 37 "ClauseBook" "bags" "[LClauseBook$Bag;") (List.mem_of_getElem? (i := 1) rfl)) (fun _ h9 => h9) e0_5 dX12_pour_37 ?_
              refine lv_iload_n hx hb dX12_pour_40 rfl (lv_at hl 1 rfl) ?_
              refine va_aldq hx hb hE.1 hP 1 5 rfl rfl (by unfold vp_in; decide) dX12_pour_41 ?_
              refine W.eq (g2 := F0 m 42 ls [.ref t0]) rfl ?_
              refine lv_astore (lv' := [(4, .ref t0), (0, .ref h0), (1, .int 0), (2, .int 2), (3, .int x3)]) hx hb dX12_pour_42 hl (by decide +kernel) rfl (fun ls hl => ?_)
              refine lv_aload hx hb dX12_pour_44 (lv_at hl 0 rfl) ?_
              refine va_get (D := D) (ci := 0) (v := .int (bn 0)) (C := RX1) (T := TX1) (N := 2) hx hb hts in_X12_pour_X1 hown hE.1 hP 4 rfl rfl 0 (by decide +kernel) (hts (.fieldLink RX12 307 "ClauseBook$Bag" "size" "I") (List.mem_of_getElem? (i := 2) rfl)) (fun _ h9 => h9) rfl dX12_pour_46 ?_
              refine lv_istore (lv' := [(5, .int (bn 0)), (4, .ref t0), (0, .ref h0), (1, .int 0), (2, .int 2), (3, .int x3)]) hx hb dX12_pour_49 hl (by decide +kernel) rfl (fun ls hl => ?_)
              refine lv_iconst (v := 0) hx hb dX12_pour_51 (by decide +kernel) ?_
              refine lv_istore (lv' := [(6, .int 0), (5, .int (bn 0)), (4, .ref t0), (0, .ref h0), (1, .int 0), (2, .int 2), (3, .int x3)]) hx hb dX12_pour_52 hl (by decide +kernel) rfl (fun ls hl => ?_)
              refine lv_iconst (v := 0) hx hb dX12_pour_54 (by decide +kernel) ?_
              refine lv_istore (lv' := [(7, .int 0), (6, .int 0), (5, .int (bn 0)), (4, .ref t0), (0, .ref h0), (1, .int 0), (2, .int 2), (3, .int x3)]) hx hb dX12_pour_55 hl (by decide +kernel) rfl (fun ls hl => ?_)
              refine loopW (σ := (Int32) × (Int32) × (Int32) × (Nat → Int32) × (Nat → Int32)) (fun x9 ls H locs => lv_has ls 10 [(7, .int x9.1), (6, .int x9.2.1), (5, .int (bn 0)), (4, .ref t0), (0, .ref h0), (1, .int 0), (2, .int 2), (3, .int x3)] ∧ va_P D vwCl [(h0, .inr (9, fs0)), (h1, .inl (T 5, 3, .inr (.inr (.inr (.inr (va_up (va_up (va_up (fun _ => none) 0 (some t0)) 1 (some t1)) 2 (some t2))))))), (h2, .inr (1, fs2)), (h4, .inl (T 0, 24, .inl fk)), (t0, .inr (0, [.int (bn 0), .ref a0])), (t1, .inr (0, [.int (bn 1), .ref a1])), (t2, .inr (0, [.int x9.2.2.1, .ref a2])), (a0, .inl (T 0, 12, .inl x9.2.2.2.1)), (a1, .inl (T 0, 12, .inl (bf 1))), (a2, .inl (T 0, 12, .inl x9.2.2.2.2))] H ∧ va_D A [(h0, .inr (9, fs0)), (h1, .inl (T 5, 3, .inr (.inr (.inr (.inr (va_up (va_up (va_up (fun _ => none) 0 (some t0)) 1 (some t1)) 2 (some t2))))))), (h2, .inr (1, fs2)), (h4, .inl (T 0, 24, .inl fk)), (t0, .inr (0, [.int (bn 0), .ref a0])), (t1, .inr (0, [.int (bn 1), .ref a1])), (t2, .inr (0, [.int x9.2.2.1, .ref a2])), (a0, .inl (T 0, 12, .inl x9.2.2.2.1)), (a1, .inl (T 0, 12, .inl (bf 1))), (a2, .inl (T 0, 12, .inl x9.2.2.2.2))] ∧ va_S A s.heap H locs ∧ (((0 ≤ x9.2.1.toInt ∧ x9.2.1.toInt ≤ x9.1.toInt ∧ x9.1.toInt ≤ (bn 0).toInt) ∧ 0 ≤ x9.2.2.1.toInt ∧ x9.2.2.1.toInt ≤ 12) ∧ x9.2.1.toInt = (pourF (prP x3 n9 fk) (bf 0) (bf 2) ((bn 2).toNatClampNeg) (x9.1.toNatClampNeg)).1 ∧ x9.2.2.2.1 = (pourF (prP x3 n9 fk) (bf 0) (bf 2) ((bn 2).toNatClampNeg) (x9.1.toNatClampNeg)).2.1 ∧ x9.2.2.1.toInt = (pourF (prP x3 n9 fk) (bf 0) (bf 2) ((bn 2).toNatClampNeg) (x9.1.toNatClampNeg)).2.2.1 ∧ x9.2.2.2.2 = (pourF (prP x3 n9 fk) (bf 0) (bf 2) ((bn 2).toNatClampNeg) (x9.1.toNatClampNeg)).2.2.2)) (fun x9 => (12 - x9.1.toInt).toNat) (fun x9 ls H locs hI ih => ?_) (0, 0, (bn 2), (bf 0), (bf 2)) ls ⟨lv_sub hl [0, 1, 2, 3, 4, 5, 6, 7] rfl, hP.sub [0, 1, 2, 3, 4, 5, 6, 7, 8, 9] rfl, hD.sub [0, 1, 2, 3, 4, 5, 6, 7, 8, 9] (by decide +kernel) rfl, hS, ⟨(by (try dsimp only); simp only [ti_0]; omega), (by (try dsimp only); rw [tn0']; rfl), (by (try dsimp only); rw [tn0']; rfl), (by (try dsimp only); rw [tn0']; exact (tn (by omega)).symm), (by (try dsimp only); rw [tn0']; rfl)⟩⟩
              obtain ⟨ii, le, qq, g0, g2⟩ := x9
              obtain ⟨hl, hP, hD, hS, hinv⟩ := hI
              have hl : lv_has ls 10 [(7, .int ii), (6, .int le), (5, .int (bn 0)), (4, .ref t0), (0, .ref h0), (1, .int 0), (2, .int 2), (3, .int x3)] := hl
              have hP : va_P D vwCl [(h0, .inr (9, fs0)), (h1, .inl (T 5, 3, .inr (.inr (.inr (.inr (va_up (va_up (va_up (fun _ => none) 0 (some t0)) 1 (some t1)) 2 (some t2))))))), (h2, .inr (1, fs2)), (h4, .inl (T 0, 24, .inl fk)), (t0, .inr (0, [.int (bn 0), .ref a0])), (t1, .inr (0, [.int (bn 1), .ref a1])), (t2, .inr (0, [.int qq, .ref a2])), (a0, .inl (T 0, 12, .inl g0)), (a1, .inl (T 0, 12, .inl (bf 1))), (a2, .inl (T 0, 12, .inl g2))] H := hP
              have hD : va_D A [(h0, .inr (9, fs0)), (h1, .inl (T 5, 3, .inr (.inr (.inr (.inr (va_up (va_up (va_up (fun _ => none) 0 (some t0)) 1 (some t1)) 2 (some t2))))))), (h2, .inr (1, fs2)), (h4, .inl (T 0, 24, .inl fk)), (t0, .inr (0, [.int (bn 0), .ref a0])), (t1, .inr (0, [.int (bn 1), .ref a1])), (t2, .inr (0, [.int qq, .ref a2])), (a0, .inl (T 0, 12, .inl g0)), (a1, .inl (T 0, 12, .inl (bf 1))), (a2, .inl (T 0, 12, .inl g2))] := hD
              have hinv : ((0 ≤ le.toInt ∧ le.toInt ≤ ii.toInt ∧ ii.toInt ≤ (bn 0).toInt) ∧ 0 ≤ qq.toInt ∧ qq.toInt ≤ 12) ∧ le.toInt = (pourF (prP x3 n9 fk) (bf 0) (bf 2) ((bn 2).toNatClampNeg) (ii.toNatClampNeg)).1 ∧ g0 = (pourF (prP x3 n9 fk) (bf 0) (bf 2) ((bn 2).toNatClampNeg) (ii.toNatClampNeg)).2.1 ∧ qq.toInt = (pourF (prP x3 n9 fk) (bf 0) (bf 2) ((bn 2).toNatClampNeg) (ii.toNatClampNeg)).2.2.1 ∧ g2 = (pourF (prP x3 n9 fk) (bf 0) (bf 2) ((bn 2).toNatClampNeg) (ii.toNatClampNeg)).2.2.2 := hinv
              obtain ⟨hinv, hp1, hp2, hp3, hp4⟩ := hinv
              refine lv_iload hx hb dX12_pour_57 (lv_at hl 0 rfl) ?_
              refine lv_iload hx hb dX12_pour_59 (lv_at hl 2 rfl) ?_
              refine lv_icmp_ge (tgt := 153) hx hb dX12_pour_61 (by decide +kernel) (fun c_36 => ?_) (fun c_36 => ?_)
              · rw [fa_le] at c_36
                have e9 : ii = (bn 0) := Int32.toInt_inj.1 (by omega)
                rw [e9] at hp1 hp2 hp3 hp4
                refine lv_aload hx hb dX12_pour_153 (lv_at hl 3 rfl) ?_
                refine lv_iload hx hb dX12_pour_155 (lv_at hl 1 rfl) ?_
                refine va_put (D := D) (ci := 0) (v := .int le) (ty := .int) (C := RX1) (T := TX1) (N := 2) hx hb hts in_X12_pour_X1 tyX1 tyX1_ok nmX1 hown hE.1 hP hD hS 4 rfl rfl 0 (by decide +kernel) (hts (.fieldLink RX12 307 "ClauseBook$Bag" "size" "I") (List.mem_of_getElem? (i := 2) rfl)) (fun _ h9 => h9) rfl (by decide +kernel) rfl rfl (Nat.le_of_ble_eq_true rfl) dX12_pour_157 (fun H locs hP hD hS => ?_)
                obtain ⟨hP, hD⟩ := wPD [(h0, .inr (9, fs0)), (h1, .inl (T 5, 3, .inr (.inr (.inr (.inr (va_up (va_up (va_up (fun _ => none) 0 (some t0)) 1 (some t1)) 2 (some t2))))))), (h2, .inr (1, fs2)), (h4, .inl (T 0, 24, .inl fk)), (t0, .inr (0, [.int le, .ref a0])), (t1, .inr (0, [.int (bn 1), .ref a1])), (t2, .inr (0, [.int qq, .ref a2])), (a0, .inl (T 0, 12, .inl g0)), (a1, .inl (T 0, 12, .inl (bf 1))), (a2, .inl (T 0, 12, .inl g2))] hP hD rfl
                refine lv_iload hx hb dX12_pour_160 (lv_at hl 2 rfl) ?_
                refine lv_iload hx hb dX12_pour_162 (lv_at hl 1 rfl) ?_
                refine lv_isub hx hb dX12_pour_164 ?_
                exact W.iret hx hb hr (fun t ht hW => ⟨⟨_, ((fun k => [le, (bn 1), qq].getD k 0), (fun k => [g0, (bf 1), g2].getD k g0)), rfl, ⟨(show 0 ≤ (le).toInt ∧ (le).toInt ≤ 12 from by (try subst_vars); first | omega | (rw [dec1 (by omega)]; omega)), (show 0 ≤ ((bn 1)).toInt ∧ ((bn 1)).toInt ≤ 12 from by (try subst_vars); first | omega | (rw [dec1 (by omega)]; omega)), (show 0 ≤ (qq).toInt ∧ (qq).toInt ≤ 12 from by (try subst_vars); first | omega | (rw [dec1 (by omega)]; omega)), (Or.inr ⟨⟨⟨⟨by decide, by decide⟩, by decide, by decide⟩, by decide, by omega⟩, _, rfl, (show (((bn 0) - le) : Int32).toInt = (bn 0).toInt - (((pourF (prP x3 n9 fk) (bf 0) (bf 2) ((bn 2).toNatClampNeg) ((bn 0).toNatClampNeg)).1 : Nat) : Int) from by have h8 := hp1; rw [fb_subI (by omega) (by omega)]; omega), all3 ⟨(fun _ => ⟨hp1, hp2⟩), (fun h9 => absurd h9 (by decide +kernel)), (fun h9 => absurd (by decide +kernel) h9)⟩ ⟨(fun h9 => absurd h9 (by decide +kernel)), (fun h9 => absurd h9 (by decide +kernel)), (fun _ _ => ⟨rfl, rfl⟩)⟩ ⟨(fun h9 => absurd h9 (by decide +kernel)), (fun _ => ⟨hp3, hp4⟩), (fun _ h9 => absurd (by decide +kernel) h9)⟩⟩)⟩, by rw [ht]; exact hP.sub [0, 1, 2, 3, 4, 5, 6, 7, 8, 9] rfl, hD.sub [0, 1, 2, 3, 4, 5, 6, 7, 8, 9] (by decide +kernel) rfl⟩, hS.F ht⟩) hS.2.2 dX12_pour_165
              · rw [fa_le] at c_36
                refine lv_aload hx hb dX12_pour_64 (lv_at hl 3 rfl) ?_
                refine va_get (D := D) (ci := 0) (v := .ref a0) (C := RX1) (T := TX1) (N := 2) hx hb hts in_X12_pour_X1 hown hE.1 hP 4 rfl rfl 1 (by decide +kernel) (hts (.fieldLink RX12 308 "ClauseBook$Bag" "numbers" "[I") (List.mem_of_getElem? (i := 3) rfl)) (fun _ h9 => h9) rfl dX12_pour_66 ?_
                refine lv_iload hx hb dX12_pour_69 (lv_at hl 0 rfl) ?_
                refine va_iald hx hb hE.1 hP 7 0 rfl rfl (by rw [vp_in_iff]; first | omega | (subst_vars; rw [dec1 (by omega)]; omega) | (subst_vars; rw [inc1 (n := 1000) (by omega) (by decide +kernel)]; omega)) dX12_pour_71 ?_
                refine lv_topi (fun z_37 ez_37 => ?_)
                have hzF : z_37 = (bf 0) (ii.toNatClampNeg) := by rw [ez_37, hp2]; exact pourF_keep _ _ (by have h8 := tn (x := ii) (by omega); omega)
                refine lv_istore (lv' := [(8, .int z_37), (7, .int ii), (6, .int le), (5, .int (bn 0)), (4, .ref t0), (0, .ref h0), (1, .int 0), (2, .int 2), (3, .int x3)]) hx hb dX12_pour_72 hl (by decide +kernel) rfl (fun ls hl => ?_)
                refine lv_iload_n hx hb dX12_pour_74 rfl (lv_at hl 8 rfl) ?_
                refine lv_iconst (v := (-1)) hx hb dX12_pour_75 (by decide +kernel) ?_
                refine lv_icmp_eq (tgt := 105) hx hb dX12_pour_76 (by decide +kernel) (fun c_38 => ?_) (fun c_38 => ?_)
                · rw [fa_eq] at c_38
                  try rw [ti_n1] at c_38
                  refine lv_iconst (v := 1) hx hb dX12_pour_105 (by decide +kernel) ?_
                  refine lv_goto (tgt := 110) hx hb dX12_pour_106 (by decide +kernel) ?_
                  refine lv_istore (lv' := [(9, .int 1), (8, .int z_37), (7, .int ii), (6, .int le), (5, .int (bn 0)), (4, .ref t0), (0, .ref h0), (1, .int 0), (2, .int 2), (3, .int x3)]) hx hb dX12_pour_110 hl (by decide +kernel) rfl (fun ls hl => ?_)
                  have hM : prP x3 n9 fk z_37 = true := decide_eq_true (by first | exact Or.inl (by omega) | exact Or.inr ⟨(by omega), (by rw [← ez_22]; omega)⟩)
                  refine lv_iload hx hb dX12_pour_112 (lv_at hl 0 rfl) ?_
                  refine lv_if_eq (tgt := 134) hx hb dX12_pour_114 (by decide +kernel) (fun c9 => absurd c9 (by decide +kernel)) (fun _ => ?_)
                  refine lv_aload_n hx hb dX12_pour_117 rfl (lv_at hl 6 rfl) ?_
                  refine va_get (D := D) (ci := 9) (v := .ref h1) (C := RX12) (T := TX12) (N := 11) hx hb hts in_X12_pour_X12 hown hE.1 hP 0 rfl rfl 5 (by decide +kernel) (hts (.fieldLink RX12 37 "ClauseBook" "bags" "[LClauseBook$Bag;") (List.mem_of_getElem? (i := 1) rfl)) (fun _ h9 => h9) e0_5 dX12_pour_118 ?_
                  refine lv_iload_n hx hb dX12_pour_121 rfl (lv_at hl 8 rfl) ?_
                  refine va_aldq hx hb hE.1 hP 1 5 rfl rfl (by unfold vp_in; decide) dX12_pour_122 ?_
                  refine W.eq (g2 := F0 m 123 ls [.ref t2]) rfl ?_
                  refine lv_iload hx hb dX12_pour_123 (lv_at hl 1 rfl) ?_
                  have hFc := va_free (wc := [(t2, .inr (0, [.int qq, .ref a2])), (a2, .inl (T 0, 12, .inl g2))]) hD hS hA [6, 9] rfl
                  refine va_calli (va_runV (As := [.int z_37]) (rest := []) ⟨hx, hb, hml, hown, hts⟩ (c_X1_append l D T _ t2 qq a2 g2 z_37 (by omega)) (cwV 1 hts gX12_pour_X1_append rfl rfl rfl hv_X1_append ⟨Nat.le_of_ble_eq_true rfl, Nat.le_of_ble_eq_true rfl⟩) (pW_V (q := (RX1, TX1, 2)) (ci := 0) (q0 := 6) hP hE hD rfl rfl [6, 9] (by decide +kernel) rfl rfl) rfl rfl hl.1 rfl (lv_room (Nat.le_of_ble_eq_true rfl)) dX12_pour_125 ⟨Nat.le_of_ble_eq_true rfl, Nat.le_of_ble_eq_true rfl⟩) hS (fun q _ h => hFc q h) hFc (fun r_39 u_40 t H1 locs ht hvm hr_39 hB hz1 hk1 hS => ?_)
                  obtain ⟨n_41, f_42⟩ := u_40
                  have hinn_41 : 0 ≤ n_41.toInt ∧ n_41.toInt ≤ 12 := hr_39.2.1
                  have hap : ((qq).toInt < 12 → n_41.toInt = (qq).toInt + 1 ∧ f_42 = upd g2 ((qq).toNatClampNeg) z_37) ∧ (¬ (qq).toInt < 12 → n_41 = qq ∧ f_42 = g2) := hr_39.2.2
                  have hbo : r_39 = if (qq).toInt < 12 then 1 else 0 := hr_39.1
                  obtain ⟨hP1, hD1⟩ := hB
                  rw [ht] at hP1
                  obtain ⟨hP, hD⟩ := va_repl [(h0, .inr (9, fs0)), (h1, .inl (T 5, 3, .inr (.inr (.inr (.inr (va_up (va_up (va_up (fun _ => none) 0 (some t0)) 1 (some t1)) 2 (some t2))))))), (h2, .inr (1, fs2)), (h4, .inl (T 0, 24, .inl fk)), (t0, .inr (0, [.int (bn 0), .ref a0])), (t1, .inr (0, [.int (bn 1), .ref a1])), (t2, .inr (0, [.int n_41, .ref a2])), (a0, .inl (T 0, 12, .inl g0)), (a1, .inl (T 0, 12, .inl (bf 1))), (a2, .inl (T 0, 12, .inl f_42))] hP hD [6, 9] [6, 9] rfl (by decide +kernel) rfl rfl rfl hk1 hP1
                  clear hP1 hD1 hFc
                  generalize H1 = H at hP hS ⊢
                  rcases bool_post hbo with ⟨c_43, rfl⟩ | ⟨c_43, rfl⟩
                  · refine lv_if_eq (tgt := 134) hx hb dX12_pour_128 (by decide +kernel) (fun c9 => absurd c9 (by decide +kernel)) (fun _ => ?_)
                    refine lv_goto (tgt := 147) hx hb dX12_pour_131 (by decide +kernel) ?_
                    obtain ⟨z_44, ez_44⟩ : ∃ y : Int32, y = ii + 1 := ⟨_, rfl⟩
                    refine lv_iinc (v := z_44) (lv' := [(7, .int z_44), (9, .int 1), (8, .int z_37), (6, .int le), (5, .int (bn 0)), (4, .ref t0), (0, .ref h0), (1, .int 0), (2, .int 2), (3, .int x3)]) hx hb dX12_pour_147 hl (k := 2) rfl (by rw [ez_44]; rfl) (by decide +kernel) rfl (fun ls hl => ?_)
                    have hi9 : z_44.toInt = ii.toInt + 1 := by rw [ez_44]; exact inc1 (n := 1000) (by omega) (by decide +kernel)
                    refine lv_goto (tgt := 57) hx hb dX12_pour_150 (by decide +kernel) ?_
                    exact ih (z_44, le, n_41, g0, f_42) ls _ _ ⟨lv_sub hl [0, 3, 4, 5, 6, 7, 8, 9] rfl, hP.sub [0, 1, 2, 3, 4, 5, 6, 7, 8, 9] rfl, hD.sub [0, 1, 2, 3, 4, 5, 6, 7, 8, 9] (by decide +kernel) rfl, hS, ⟨(by (try dsimp only); omega), (by (try dsimp only); exact pour_stepY (by omega) hi9 hp1 hp2 hp3 hp4 hzF hM (by omega) (hap.1 (by omega)).1 (hap.1 (by omega)).2)⟩⟩ (by (try dsimp only); omega)
                  · refine lv_if_eq (tgt := 134) hx hb dX12_pour_128 (by decide +kernel) (fun _ => ?_) (fun c9 => absurd c9 (by decide +kernel))
                    refine lv_aload hx hb dX12_pour_134 (lv_at hl 5 rfl) ?_
                    refine va_get (D := D) (ci := 0) (v := .ref a0) (C := RX1) (T := TX1) (N := 2) hx hb hts in_X12_pour_X1 hown hE.1 hP 4 rfl rfl 1 (by decide +kernel) (hts (.fieldLink RX12 308 "ClauseBook$Bag" "numbers" "[I") (List.mem_of_getElem? (i := 3) rfl)) (fun _ h9 => h9) rfl dX12_pour_136 ?_
                    refine lv_iload hx hb dX12_pour_139 (lv_at hl 3 rfl) ?_
                    refine lv_iload hx hb dX12_pour_141 (lv_at hl 1 rfl) ?_
                    refine va_iast hx hb hE.1 hP hD hS 7 0 rfl rfl (by rw [vp_in_iff]; first | omega | (subst_vars; rw [dec1 (by omega)]; omega) | (subst_vars; rw [inc1 (n := 1000) (by omega) (by decide +kernel)]; omega)) dX12_pour_143 (fun H locs hP hD hS => ?_)
                    obtain ⟨hP, hD⟩ := wPD [(h0, .inr (9, fs0)), (h1, .inl (T 5, 3, .inr (.inr (.inr (.inr (va_up (va_up (va_up (fun _ => none) 0 (some t0)) 1 (some t1)) 2 (some t2))))))), (h2, .inr (1, fs2)), (h4, .inl (T 0, 24, .inl fk)), (t0, .inr (0, [.int (bn 0), .ref a0])), (t1, .inr (0, [.int (bn 1), .ref a1])), (t2, .inr (0, [.int n_41, .ref a2])), (a0, .inl (T 0, 12, .inl (upd g0 (le.toNatClampNeg) z_37))), (a1, .inl (T 0, 12, .inl (bf 1))), (a2, .inl (T 0, 12, .inl f_42))] hP hD rfl
                    obtain ⟨z_45, ez_45⟩ : ∃ y : Int32, y = le + 1 := ⟨_, rfl⟩
                    refine lv_iinc (v := z_45) (lv' := [(6, .int z_45), (9, .int 1), (8, .int z_37), (7, .int ii), (5, .int (bn 0)), (4, .ref t0), (0, .ref h0), (1, .int 0), (2, .int 2), (3, .int x3)]) hx hb dX12_pour_144 hl (k := 3) rfl (by rw [ez_45]; rfl) (by decide +kernel) rfl (fun ls hl => ?_)
                    obtain ⟨z_46, ez_46⟩ : ∃ y : Int32, y = ii + 1 := ⟨_, rfl⟩
                    refine lv_iinc (v := z_46) (lv' := [(7, .int z_46), (6, .int z_45), (9, .int 1), (8, .int z_37), (5, .int (bn 0)), (4, .ref t0), (0, .ref h0), (1, .int 0), (2, .int 2), (3, .int x3)]) hx hb dX12_pour_147 hl (k := 3) rfl (by rw [ez_46]; rfl) (by decide +kernel) rfl (fun ls hl => ?_)
                    have hi9 : z_46.toInt = ii.toInt + 1 := by rw [ez_46]; exact inc1 (n := 1000) (by omega) (by decide +kernel)
                    have hl9 : z_45.toInt = le.toInt + 1 := by rw [ez_45]; exact inc1 (n := 1000) (by omega) (by decide +kernel)
                    refine lv_goto (tgt := 57) hx hb dX12_pour_150 (by decide +kernel) ?_
                    exact ih (z_46, z_45, n_41, (upd g0 (le.toNatClampNeg) z_37), f_42) ls _ _ ⟨lv_sub hl [0, 1, 4, 5, 6, 7, 8, 9] rfl, hP.sub [0, 1, 2, 3, 4, 5, 6, 7, 8, 9] rfl, hD.sub [0, 1, 2, 3, 4, 5, 6, 7, 8, 9] (by decide +kernel) rfl, hS, ⟨(by (try dsimp only); omega), (by (try dsimp only); exact pour_stepN (by omega) (by omega) hi9 hp1 hp2 hp3 hp4 hzF (fun h9 => by first | exact hM h9.1 | omega) hl9 rfl (by rw [(hap.2 (by omega)).1]) (hap.2 (by omega)).2)⟩⟩ (by (try dsimp only); omega)
                · rw [fa_eq] at c_38
                  try rw [ti_n1] at c_38
                  refine lv_aload_n hx hb dX12_pour_79 rfl (lv_at hl 5 rfl) ?_
                  refine va_get (D := D) (ci := 9) (v := .ref h2) (C := RX12) (T := TX12) (N := 11) hx hb hts in_X12_pour_X12 hown hE.1 hP 0 rfl rfl 4 (by decide +kernel) (hts (.fieldLink RX12 32 "ClauseBook" "clauses" "LClauseBook$Clauses;") (List.mem_of_getElem? (i := 4) rfl)) (fun _ h9 => h9) e0_4 dX12_pour_80 ?_
                  refine lv_iload hx hb dX12_pour_83 (lv_at hl 0 rfl) ?_
                  refine vp_callSi (W.runV (As := [.int z_37]) (rest := []) ⟨hx, hb, hml, hown, hts⟩ (c_X2_has l D T h2 fs2 z_37 n9 e2_0 (by omega)) (cwV 1 hts gX12_pour_X2_has rfl rfl rfl hv_X2_has ⟨Nat.le_of_ble_eq_true rfl, Nat.le_of_ble_eq_true rfl⟩) (pR_V (q := (RX2, TX2, 8)) (ci := 1) (q0 := 2) hP hE rfl rfl [2] rfl) rfl rfl hl.1 rfl (lv_room (Nat.le_of_ble_eq_true rfl)) dX12_pour_85 ⟨Nat.le_of_ble_eq_true rfl, Nat.le_of_ble_eq_true rfl⟩) (fun r_47 hr_47 => ?_)
                  rcases bool_post hr_47 with ⟨c_48, rfl⟩ | ⟨c_48, rfl⟩
                  · refine lv_if_eq (tgt := 109) hx hb dX12_pour_88 (by decide +kernel) (fun c9 => absurd c9 (by decide +kernel)) (fun _ => ?_)
                    refine lv_aload_n hx hb dX12_pour_91 rfl (lv_at hl 5 rfl) ?_
                    refine va_get (D := D) (ci := 9) (v := .ref h2) (C := RX12) (T := TX12) (N := 11) hx hb hts in_X12_pour_X12 hown hE.1 hP 0 rfl rfl 4 (by decide +kernel) (hts (.fieldLink RX12 32 "ClauseBook" "clauses" "LClauseBook$Clauses;") (List.mem_of_getElem? (i := 4) rfl)) (fun _ h9 => h9) e0_4 dX12_pour_92 ?_
                    refine va_get (D := D) (ci := 1) (v := .ref h4) (C := RX2) (T := TX2) (N := 8) hx hb hts in_X12_pour_X2 hown hE.1 hP 2 rfl rfl 1 (by decide +kernel) (hts (.fieldLink RX12 153 "ClauseBook$Clauses" "kind" "[I") (List.mem_of_getElem? (i := 5) rfl)) (fun _ h9 => h9) e2_1 dX12_pour_95 ?_
                    refine lv_iload hx hb dX12_pour_98 (lv_at hl 0 rfl) ?_
                    refine va_iald hx hb hE.1 hP 3 0 rfl rfl (by rw [vp_in_iff]; first | omega | (subst_vars; rw [dec1 (by omega)]; omega) | (subst_vars; rw [inc1 (n := 1000) (by omega) (by decide +kernel)]; omega)) dX12_pour_100 ?_
                    refine lv_topi (fun z_49 ez_49 => ?_)
                    refine lv_iload_n hx hb dX12_pour_101 rfl (lv_at hl 8 rfl) ?_
                    refine lv_icmp_ne (tgt := 109) hx hb dX12_pour_102 (by decide +kernel) (fun c_50 => ?_) (fun c_50 => ?_)
                    · rw [fa_eq] at c_50
                      refine lv_iconst (v := 0) hx hb dX12_pour_109 (by decide +kernel) ?_
                      refine lv_istore (lv' := [(9, .int 0), (8, .int z_37), (7, .int ii), (6, .int le), (5, .int (bn 0)), (4, .ref t0), (0, .ref h0), (1, .int 0), (2, .int 2), (3, .int x3)]) hx hb dX12_pour_110 hl (by decide +kernel) rfl (fun ls hl => ?_)
                      have hM : ¬ prP x3 n9 fk z_37 = true := fun h9 => by rcases of_decide_eq_true h9 with h8 | ⟨h8, h7⟩ <;> first | omega | (rw [← ez_49] at h7; omega)
                      refine lv_iload hx hb dX12_pour_112 (lv_at hl 0 rfl) ?_
                      refine lv_if_eq (tgt := 134) hx hb dX12_pour_114 (by decide +kernel) (fun _ => ?_) (fun c9 => absurd c9 (by decide +kernel))
                      refine lv_aload hx hb dX12_pour_134 (lv_at hl 5 rfl) ?_
                      refine va_get (D := D) (ci := 0) (v := .ref a0) (C := RX1) (T := TX1) (N := 2) hx hb hts in_X12_pour_X1 hown hE.1 hP 4 rfl rfl 1 (by decide +kernel) (hts (.fieldLink RX12 308 "ClauseBook$Bag" "numbers" "[I") (List.mem_of_getElem? (i := 3) rfl)) (fun _ h9 => h9) rfl dX12_pour_136 ?_
                      refine lv_iload hx hb dX12_pour_139 (lv_at hl 3 rfl) ?_
                      refine lv_iload hx hb dX12_pour_141 (lv_at hl 1 rfl) ?_
                      refine va_iast hx hb hE.1 hP hD hS 7 0 rfl rfl (by rw [vp_in_iff]; first | omega | (subst_vars; rw [dec1 (by omega)]; omega) | (subst_vars; rw [inc1 (n := 1000) (by omega) (by decide +kernel)]; omega)) dX12_pour_143 (fun H locs hP hD hS => ?_)
                      obtain ⟨hP, hD⟩ := wPD [(h0, .inr (9, fs0)), (h1, .inl (T 5, 3, .inr (.inr (.inr (.inr (va_up (va_up (va_up (fun _ => none) 0 (some t0)) 1 (some t1)) 2 (some t2))))))), (h2, .inr (1, fs2)), (h4, .inl (T 0, 24, .inl fk)), (t0, .inr (0, [.int (bn 0), .ref a0])), (t1, .inr (0, [.int (bn 1), .ref a1])), (t2, .inr (0, [.int qq, .ref a2])), (a0, .inl (T 0, 12, .inl (upd g0 (le.toNatClampNeg) z_37))), (a1, .inl (T 0, 12, .inl (bf 1))), (a2, .inl (T 0, 12, .inl g2))] hP hD rfl
                      obtain ⟨z_51, ez_51⟩ : ∃ y : Int32, y = le + 1 := ⟨_, rfl⟩
                      refine lv_iinc (v := z_51) (lv' := [(6, .int z_51), (9, .int 0), (8, .int z_37), (7, .int ii), (5, .int (bn 0)), (4, .ref t0), (0, .ref h0), (1, .int 0), (2, .int 2), (3, .int x3)]) hx hb dX12_pour_144 hl (k := 3) rfl (by rw [ez_51]; rfl) (by decide +kernel) rfl (fun ls hl => ?_)
                      obtain ⟨z_52, ez_52⟩ : ∃ y : Int32, y = ii + 1 := ⟨_, rfl⟩
                      refine lv_iinc (v := z_52) (lv' := [(7, .int z_52), (6, .int z_51), (9, .int 0), (8, .int z_37), (5, .int (bn 0)), (4, .ref t0), (0, .ref h0), (1, .int 0), (2, .int 2), (3, .int x3)]) hx hb dX12_pour_147 hl (k := 3) rfl (by rw [ez_52]; rfl) (by decide +kernel) rfl (fun ls hl => ?_)
                      have hi9 : z_52.toInt = ii.toInt + 1 := by rw [ez_52]; exact inc1 (n := 1000) (by omega) (by decide +kernel)
                      have hl9 : z_51.toInt = le.toInt + 1 := by rw [ez_51]; exact inc1 (n := 1000) (by omega) (by decide +kernel)
                      refine lv_goto (tgt := 57) hx hb dX12_pour_150 (by decide +kernel) ?_
                      exact ih (z_52, z_51, qq, (upd g0 (le.toNatClampNeg) z_37), g2) ls _ _ ⟨lv_sub hl [0, 1, 4, 5, 6, 7, 8, 9] rfl, hP.sub [0, 1, 2, 3, 4, 5, 6, 7, 8, 9] rfl, hD.sub [0, 1, 2, 3, 4, 5, 6, 7, 8, 9] (by decide +kernel) rfl, hS, ⟨(by (try dsimp only); omega), (by (try dsimp only); exact pour_stepN (by omega) (by omega) hi9 hp1 hp2 hp3 hp4 hzF (fun h9 => by first | exact hM h9.1 | omega) hl9 rfl rfl rfl)⟩⟩ (by (try dsimp only); omega)
                    · rw [fa_eq] at c_50
                      refine lv_iconst (v := 1) hx hb dX12_pour_105 (by decide +kernel) ?_
                      refine lv_goto (tgt := 110) hx hb dX12_pour_106 (by decide +kernel) ?_
                      refine lv_istore (lv' := [(9, .int 1), (8, .int z_37), (7, .int ii), (6, .int le), (5, .int (bn 0)), (4, .ref t0), (0, .ref h0), (1, .int 0), (2, .int 2), (3, .int x3)]) hx hb dX12_pour_110 hl (by decide +kernel) rfl (fun ls hl => ?_)
                      have hM : prP x3 n9 fk z_37 = true := decide_eq_true (by first | exact Or.inl (by omega) | exact Or.inr ⟨(by omega), (by rw [← ez_49]; omega)⟩)
                      refine lv_iload hx hb dX12_pour_112 (lv_at hl 0 rfl) ?_
                      refine lv_if_eq (tgt := 134) hx hb dX12_pour_114 (by decide +kernel) (fun c9 => absurd c9 (by decide +kernel)) (fun _ => ?_)
                      refine lv_aload_n hx hb dX12_pour_117 rfl (lv_at hl 6 rfl) ?_
                      refine va_get (D := D) (ci := 9) (v := .ref h1) (C := RX12) (T := TX12) (N := 11) hx hb hts in_X12_pour_X12 hown hE.1 hP 0 rfl rfl 5 (by decide +kernel) (hts (.fieldLink RX12 37 "ClauseBook" "bags" "[LClauseBook$Bag;") (List.mem_of_getElem? (i := 1) rfl)) (fun _ h9 => h9) e0_5 dX12_pour_118 ?_
                      refine lv_iload_n hx hb dX12_pour_121 rfl (lv_at hl 8 rfl) ?_
                      refine va_aldq hx hb hE.1 hP 1 5 rfl rfl (by unfold vp_in; decide) dX12_pour_122 ?_
                      refine W.eq (g2 := F0 m 123 ls [.ref t2]) rfl ?_
                      refine lv_iload hx hb dX12_pour_123 (lv_at hl 1 rfl) ?_
                      have hFc := va_free (wc := [(t2, .inr (0, [.int qq, .ref a2])), (a2, .inl (T 0, 12, .inl g2))]) hD hS hA [6, 9] rfl
                      refine va_calli (va_runV (As := [.int z_37]) (rest := []) ⟨hx, hb, hml, hown, hts⟩ (c_X1_append l D T _ t2 qq a2 g2 z_37 (by omega)) (cwV 1 hts gX12_pour_X1_append rfl rfl rfl hv_X1_append ⟨Nat.le_of_ble_eq_true rfl, Nat.le_of_ble_eq_true rfl⟩) (pW_V (q := (RX1, TX1, 2)) (ci := 0) (q0 := 6) hP hE hD rfl rfl [6, 9] (by decide +kernel) rfl rfl) rfl rfl hl.1 rfl (lv_room (Nat.le_of_ble_eq_true rfl)) dX12_pour_125 ⟨Nat.le_of_ble_eq_true rfl, Nat.le_of_ble_eq_true rfl⟩) hS (fun q _ h => hFc q h) hFc (fun r_53 u_54 t H1 locs ht hvm hr_53 hB hz1 hk1 hS => ?_)
                      obtain ⟨n_55, f_56⟩ := u_54
                      have hinn_55 : 0 ≤ n_55.toInt ∧ n_55.toInt ≤ 12 := hr_53.2.1
                      have hap : ((qq).toInt < 12 → n_55.toInt = (qq).toInt + 1 ∧ f_56 = upd g2 ((qq).toNatClampNeg) z_37) ∧ (¬ (qq).toInt < 12 → n_55 = qq ∧ f_56 = g2) := hr_53.2.2
                      have hbo : r_53 = if (qq).toInt < 12 then 1 else 0 := hr_53.1
                      obtain ⟨hP1, hD1⟩ := hB
                      rw [ht] at hP1
                      obtain ⟨hP, hD⟩ := va_repl [(h0, .inr (9, fs0)), (h1, .inl (T 5, 3, .inr (.inr (.inr (.inr (va_up (va_up (va_up (fun _ => none) 0 (some t0)) 1 (some t1)) 2 (some t2))))))), (h2, .inr (1, fs2)), (h4, .inl (T 0, 24, .inl fk)), (t0, .inr (0, [.int (bn 0), .ref a0])), (t1, .inr (0, [.int (bn 1), .ref a1])), (t2, .inr (0, [.int n_55, .ref a2])), (a0, .inl (T 0, 12, .inl g0)), (a1, .inl (T 0, 12, .inl (bf 1))), (a2, .inl (T 0, 12, .inl f_56))] hP hD [6, 9] [6, 9] rfl (by decide +kernel) rfl rfl rfl hk1 hP1
                      clear hP1 hD1 hFc
                      generalize H1 = H at hP hS ⊢
                      rcases bool_post hbo with ⟨c_57, rfl⟩ | ⟨c_57, rfl⟩
                      · refine lv_if_eq (tgt := 134) hx hb dX12_pour_128 (by decide +kernel) (fun c9 => absurd c9 (by decide +kernel)) (fun _ => ?_)
                        refine lv_goto (tgt := 147) hx hb dX12_pour_131 (by decide +kernel) ?_
                        obtain ⟨z_58, ez_58⟩ : ∃ y : Int32, y = ii + 1 := ⟨_, rfl⟩
                        refine lv_iinc (v := z_58) (lv' := [(7, .int z_58), (9, .int 1), (8, .int z_37), (6, .int le), (5, .int (bn 0)), (4, .ref t0), (0, .ref h0), (1, .int 0), (2, .int 2), (3, .int x3)]) hx hb dX12_pour_147 hl (k := 2) rfl (by rw [ez_58]; rfl) (by decide +kernel) rfl (fun ls hl => ?_)
                        have hi9 : z_58.toInt = ii.toInt + 1 := by rw [ez_58]; exact inc1 (n := 1000) (by omega) (by decide +kernel)
                        refine lv_goto (tgt := 57) hx hb dX12_pour_150 (by decide +kernel) ?_
                        exact ih (z_58, le, n_55, g0, f_56) ls _ _ ⟨lv_sub hl [0, 3, 4, 5, 6, 7, 8, 9] rfl, hP.sub [0, 1, 2, 3, 4, 5, 6, 7, 8, 9] rfl, hD.sub [0, 1, 2, 3, 4, 5, 6, 7, 8, 9] (by decide +kernel) rfl, hS, ⟨(by (try dsimp only); omega), (by (try dsimp only); exact pour_stepY (by omega) hi9 hp1 hp2 hp3 hp4 hzF hM (by omega) (hap.1 (by omega)).1 (hap.1 (by omega)).2)⟩⟩ (by (try dsimp only); omega)
                      · refine lv_if_eq (tgt := 134) hx hb dX12_pour_128 (by decide +kernel) (fun _ => ?_) (fun c9 => absurd c9 (by decide +kernel))
                        refine lv_aload hx hb dX12_pour_134 (lv_at hl 5 rfl) ?_
                        refine va_get (D := D) (ci := 0) (v := .ref a0) (C := RX1) (T := TX1) (N := 2) hx hb hts in_X12_pour_X1 hown hE.1 hP 4 rfl rfl 1 (by decide +kernel) (hts (.fieldLink RX12 308 "ClauseBook$Bag" "numbers" "[I") (List.mem_of_getElem? (i := 3) rfl)) (fun _ h9 => h9) rfl dX12_pour_136 ?_
                        refine lv_iload hx hb dX12_pour_139 (lv_at hl 3 rfl) ?_
                        refine lv_iload hx hb dX12_pour_141 (lv_at hl 1 rfl) ?_
                        refine va_iast hx hb hE.1 hP hD hS 7 0 rfl rfl (by rw [vp_in_iff]; first | omega | (subst_vars; rw [dec1 (by omega)]; omega) | (subst_vars; rw [inc1 (n := 1000) (by omega) (by decide +kernel)]; omega)) dX12_pour_143 (fun H locs hP hD hS => ?_)
                        obtain ⟨hP, hD⟩ := wPD [(h0, .inr (9, fs0)), (h1, .inl (T 5, 3, .inr (.inr (.inr (.inr (va_up (va_up (va_up (fun _ => none) 0 (some t0)) 1 (some t1)) 2 (some t2))))))), (h2, .inr (1, fs2)), (h4, .inl (T 0, 24, .inl fk)), (t0, .inr (0, [.int (bn 0), .ref a0])), (t1, .inr (0, [.int (bn 1), .ref a1])), (t2, .inr (0, [.int n_55, .ref a2])), (a0, .inl (T 0, 12, .inl (upd g0 (le.toNatClampNeg) z_37))), (a1, .inl (T 0, 12, .inl (bf 1))), (a2, .inl (T 0, 12, .inl f_56))] hP hD rfl
                        obtain ⟨z_59, ez_59⟩ : ∃ y : Int32, y = le + 1 := ⟨_, rfl⟩
                        refine lv_iinc (v := z_59) (lv' := [(6, .int z_59), (9, .int 1), (8, .int z_37), (7, .int ii), (5, .int (bn 0)), (4, .ref t0), (0, .ref h0), (1, .int 0), (2, .int 2), (3, .int x3)]) hx hb dX12_pour_144 hl (k := 3) rfl (by rw [ez_59]; rfl) (by decide +kernel) rfl (fun ls hl => ?_)
                        obtain ⟨z_60, ez_60⟩ : ∃ y : Int32, y = ii + 1 := ⟨_, rfl⟩
                        refine lv_iinc (v := z_60) (lv' := [(7, .int z_60), (6, .int z_59), (9, .int 1), (8, .int z_37), (5, .int (bn 0)), (4, .ref t0), (0, .ref h0), (1, .int 0), (2, .int 2), (3, .int x3)]) hx hb dX12_pour_147 hl (k := 3) rfl (by rw [ez_60]; rfl) (by decide +kernel) rfl (fun ls hl => ?_)
                        have hi9 : z_60.toInt = ii.toInt + 1 := by rw [ez_60]; exact inc1 (n := 1000) (by omega) (by decide +kernel)
                        have hl9 : z_59.toInt = le.toInt + 1 := by rw [ez_59]; exact inc1 (n := 1000) (by omega) (by decide +kernel)
                        refine lv_goto (tgt := 57) hx hb dX12_pour_150 (by decide +kernel) ?_
                        exact ih (z_60, z_59, n_55, (upd g0 (le.toNatClampNeg) z_37), f_56) ls _ _ ⟨lv_sub hl [0, 1, 4, 5, 6, 7, 8, 9] rfl, hP.sub [0, 1, 2, 3, 4, 5, 6, 7, 8, 9] rfl, hD.sub [0, 1, 2, 3, 4, 5, 6, 7, 8, 9] (by decide +kernel) rfl, hS, ⟨(by (try dsimp only); omega), (by (try dsimp only); exact pour_stepN (by omega) (by omega) hi9 hp1 hp2 hp3 hp4 hzF (fun h9 => by first | exact hM h9.1 | omega) hl9 rfl (by rw [(hap.2 (by omega)).1]) (hap.2 (by omega)).2)⟩⟩ (by (try dsimp only); omega)
                  · refine lv_if_eq (tgt := 109) hx hb dX12_pour_88 (by decide +kernel) (fun _ => ?_) (fun c9 => absurd c9 (by decide +kernel))
                    refine lv_iconst (v := 0) hx hb dX12_pour_109 (by decide +kernel) ?_
                    refine lv_istore (lv' := [(9, .int 0), (8, .int z_37), (7, .int ii), (6, .int le), (5, .int (bn 0)), (4, .ref t0), (0, .ref h0), (1, .int 0), (2, .int 2), (3, .int x3)]) hx hb dX12_pour_110 hl (by decide +kernel) rfl (fun ls hl => ?_)
                    have hM : ¬ prP x3 n9 fk z_37 = true := fun h9 => by rcases of_decide_eq_true h9 with h8 | ⟨h8, h7⟩ <;> first | omega | (rw [← ez_49] at h7; omega)
                    refine lv_iload hx hb dX12_pour_112 (lv_at hl 0 rfl) ?_
                    refine lv_if_eq (tgt := 134) hx hb dX12_pour_114 (by decide +kernel) (fun _ => ?_) (fun c9 => absurd c9 (by decide +kernel))
                    refine lv_aload hx hb dX12_pour_134 (lv_at hl 5 rfl) ?_
                    refine va_get (D := D) (ci := 0) (v := .ref a0) (C := RX1) (T := TX1) (N := 2) hx hb hts in_X12_pour_X1 hown hE.1 hP 4 rfl rfl 1 (by decide +kernel) (hts (.fieldLink RX12 308 "ClauseBook$Bag" "numbers" "[I") (List.mem_of_getElem? (i := 3) rfl)) (fun _ h9 => h9) rfl dX12_pour_136 ?_
                    refine lv_iload hx hb dX12_pour_139 (lv_at hl 3 rfl) ?_
                    refine lv_iload hx hb dX12_pour_141 (lv_at hl 1 rfl) ?_
                    refine va_iast hx hb hE.1 hP hD hS 7 0 rfl rfl (by rw [vp_in_iff]; first | omega | (subst_vars; rw [dec1 (by omega)]; omega) | (subst_vars; rw [inc1 (n := 1000) (by omega) (by decide +kernel)]; omega)) dX12_pour_143 (fun H locs hP hD hS => ?_)
                    obtain ⟨hP, hD⟩ := wPD [(h0, .inr (9, fs0)), (h1, .inl (T 5, 3, .inr (.inr (.inr (.inr (va_up (va_up (va_up (fun _ => none) 0 (some t0)) 1 (some t1)) 2 (some t2))))))), (h2, .inr (1, fs2)), (h4, .inl (T 0, 24, .inl fk)), (t0, .inr (0, [.int (bn 0), .ref a0])), (t1, .inr (0, [.int (bn 1), .ref a1])), (t2, .inr (0, [.int qq, .ref a2])), (a0, .inl (T 0, 12, .inl (upd g0 (le.toNatClampNeg) z_37))), (a1, .inl (T 0, 12, .inl (bf 1))), (a2, .inl (T 0, 12, .inl g2))] hP hD rfl
                    obtain ⟨z_61, ez_61⟩ : ∃ y : Int32, y = le + 1 := ⟨_, rfl⟩
                    refine lv_iinc (v := z_61) (lv' := [(6, .int z_61), (9, .int 0), (8, .int z_37), (7, .int ii), (5, .int (bn 0)), (4, .ref t0), (0, .ref h0), (1, .int 0), (2, .int 2), (3, .int x3)]) hx hb dX12_pour_144 hl (k := 3) rfl (by rw [ez_61]; rfl) (by decide +kernel) rfl (fun ls hl => ?_)
                    obtain ⟨z_62, ez_62⟩ : ∃ y : Int32, y = ii + 1 := ⟨_, rfl⟩
                    refine lv_iinc (v := z_62) (lv' := [(7, .int z_62), (6, .int z_61), (9, .int 0), (8, .int z_37), (5, .int (bn 0)), (4, .ref t0), (0, .ref h0), (1, .int 0), (2, .int 2), (3, .int x3)]) hx hb dX12_pour_147 hl (k := 3) rfl (by rw [ez_62]; rfl) (by decide +kernel) rfl (fun ls hl => ?_)
                    have hi9 : z_62.toInt = ii.toInt + 1 := by rw [ez_62]; exact inc1 (n := 1000) (by omega) (by decide +kernel)
                    have hl9 : z_61.toInt = le.toInt + 1 := by rw [ez_61]; exact inc1 (n := 1000) (by omega) (by decide +kernel)
                    refine lv_goto (tgt := 57) hx hb dX12_pour_150 (by decide +kernel) ?_
                    exact ih (z_62, z_61, qq, (upd g0 (le.toNatClampNeg) z_37), g2) ls _ _ ⟨lv_sub hl [0, 1, 4, 5, 6, 7, 8, 9] rfl, hP.sub [0, 1, 2, 3, 4, 5, 6, 7, 8, 9] rfl, hD.sub [0, 1, 2, 3, 4, 5, 6, 7, 8, 9] (by decide +kernel) rfl, hS, ⟨(by (try dsimp only); omega), (by (try dsimp only); exact pour_stepN (by omega) (by omega) hi9 hp1 hp2 hp3 hp4 hzF (fun h9 => by first | exact hM h9.1 | omega) hl9 rfl rfl rfl)⟩⟩ (by (try dsimp only); omega)
          · rcases in3 (x := x2) (by omega) with rfl | rfl | rfl
            · refine lv_aload_n hx hb dX12_pour_36 rfl (lv_at hl 0 rfl) ?_
              refine va_get (D := D) (ci := 9) (v := .ref h1) (C := RX12) (T := TX12) (N := 11) hx hb hts in_X12_pour_X12 hown hE.1 hP 0 rfl rfl 5 (by decide +kernel) (hts (.fieldLink RX12 37 "ClauseBook" "bags" "[LClauseBook$Bag;") (List.mem_of_getElem? (i := 1) rfl)) (fun _ h9 => h9) e0_5 dX12_pour_37 ?_
              refine lv_iload_n hx hb dX12_pour_40 rfl (lv_at hl 1 rfl) ?_
              refine va_aldq hx hb hE.1 hP 1 5 rfl rfl (by unfold vp_in; decide) dX12_pour_41 ?_
              refine W.eq (g2 := F0 m 42 ls [.ref t1]) rfl ?_
              refine lv_astore (lv' := [(4, .ref t1), (0, .ref h0), (1, .int 1), (2, .int 0), (3, .int x3)]) hx hb dX12_pour_42 hl (by decide +kernel) rfl (fun ls hl => ?_)
              refine lv_aload hx hb dX12_pour_44 (lv_at hl 0 rfl) ?_
              refine va_get (D := D) (ci := 0) (v := .int (bn 1)) (C := RX1) (T := TX1) (N := 2) hx hb hts in_X12_pour_X1 hown hE.1 hP 5 rfl rfl 0 (by decide +kernel) (hts (.fieldLink RX12 307 "ClauseBook$Bag" "size" "I") (List.mem_of_getElem? (i := 2) rfl)) (fun _ h9 => h9) rfl dX12_pour_46 ?_
              refine lv_istore (lv' := [(5, .int (bn 1)), (4, .ref t1), (0, .ref h0), (1, .int 1), (2, .int 0), (3, .int x3)]) hx hb dX12_pour_49 hl (by decide +kernel) rfl (fun ls hl => ?_)
              refine lv_iconst (v := 0) hx hb dX12_pour_51 (by decide +kernel) ?_
              refine lv_istore (lv' := [(6, .int 0), (5, .int (bn 1)), (4, .ref t1), (0, .ref h0), (1, .int 1), (2, .int 0), (3, .int x3)]) hx hb dX12_pour_52 hl (by decide +kernel) rfl (fun ls hl => ?_)
              refine lv_iconst (v := 0) hx hb dX12_pour_54 (by decide +kernel) ?_
              refine lv_istore (lv' := [(7, .int 0), (6, .int 0), (5, .int (bn 1)), (4, .ref t1), (0, .ref h0), (1, .int 1), (2, .int 0), (3, .int x3)]) hx hb dX12_pour_55 hl (by decide +kernel) rfl (fun ls hl => ?_)
              refine loopW (σ := (Int32) × (Int32) × (Int32) × (Nat → Int32) × (Nat → Int32)) (fun x9 ls H locs => lv_has ls 10 [(7, .int x9.1), (6, .int x9.2.1), (5, .int (bn 1)), (4, .ref t1), (0, .ref h0), (1, .int 1), (2, .int 0), (3, .int x3)] ∧ va_P D vwCl [(h0, .inr (9, fs0)), (h1, .inl (T 5, 3, .inr (.inr (.inr (.inr (va_up (va_up (va_up (fun _ => none) 0 (some t0)) 1 (some t1)) 2 (some t2))))))), (h2, .inr (1, fs2)), (h4, .inl (T 0, 24, .inl fk)), (t0, .inr (0, [.int x9.2.2.1, .ref a0])), (t1, .inr (0, [.int (bn 1), .ref a1])), (t2, .inr (0, [.int (bn 2), .ref a2])), (a0, .inl (T 0, 12, .inl x9.2.2.2.2)), (a1, .inl (T 0, 12, .inl x9.2.2.2.1)), (a2, .inl (T 0, 12, .inl (bf 2)))] H ∧ va_D A [(h0, .inr (9, fs0)), (h1, .inl (T 5, 3, .inr (.inr (.inr (.inr (va_up (va_up (va_up (fun _ => none) 0 (some t0)) 1 (some t1)) 2 (some t2))))))), (h2, .inr (1, fs2)), (h4, .inl (T 0, 24, .inl fk)), (t0, .inr (0, [.int x9.2.2.1, .ref a0])), (t1, .inr (0, [.int (bn 1), .ref a1])), (t2, .inr (0, [.int (bn 2), .ref a2])), (a0, .inl (T 0, 12, .inl x9.2.2.2.2)), (a1, .inl (T 0, 12, .inl x9.2.2.2.1)), (a2, .inl (T 0, 12, .inl (bf 2)))] ∧ va_S A s.heap H locs ∧ (((0 ≤ x9.2.1.toInt ∧ x9.2.1.toInt ≤ x9.1.toInt ∧ x9.1.toInt ≤ (bn 1).toInt) ∧ 0 ≤ x9.2.2.1.toInt ∧ x9.2.2.1.toInt ≤ 12) ∧ x9.2.1.toInt = (pourF (prP x3 n9 fk) (bf 1) (bf 0) ((bn 0).toNatClampNeg) (x9.1.toNatClampNeg)).1 ∧ x9.2.2.2.1 = (pourF (prP x3 n9 fk) (bf 1) (bf 0) ((bn 0).toNatClampNeg) (x9.1.toNatClampNeg)).2.1 ∧ x9.2.2.1.toInt = (pourF (prP x3 n9 fk) (bf 1) (bf 0) ((bn 0).toNatClampNeg) (x9.1.toNatClampNeg)).2.2.1 ∧ x9.2.2.2.2 = (pourF (prP x3 n9 fk) (bf 1) (bf 0) ((bn 0).toNatClampNeg) (x9.1.toNatClampNeg)).2.2.2)) (fun x9 => (12 - x9.1.toInt).toNat) (fun x9 ls H locs hI ih => ?_) (0, 0, (bn 0), (bf 1), (bf 0)) ls ⟨lv_sub hl [0, 1, 2, 3, 4, 5, 6, 7] rfl, hP.sub [0, 1, 2, 3, 4, 5, 6, 7, 8, 9] rfl, hD.sub [0, 1, 2, 3, 4, 5, 6, 7, 8, 9] (by decide +kernel) rfl, hS, ⟨(by (try dsimp only); simp only [ti_0]; omega), (by (try dsimp only); rw [tn0']; rfl), (by (try dsimp only); rw [tn0']; rfl), (by (try dsimp only); rw [tn0']; exact (tn (by omega)).symm), (by (try dsimp only); rw [tn0']; rfl)⟩⟩
              obtain ⟨ii, le, qq, g1, g0⟩ := x9
              obtain ⟨hl, hP, hD, hS, hinv⟩ := hI
              have hl : lv_has ls 10 [(7, .int ii), (6, .int le), (5, .int (bn 1)), (4, .ref t1), (0, .ref h0), (1, .int 1), (2, .int 0), (3, .int x3)] := hl
              have hP : va_P D vwCl [(h0, .inr (9, fs0)), (h1, .inl (T 5, 3, .inr (.inr (.inr (.inr (va_up (va_up (va_up (fun _ => none) 0 (some t0)) 1 (some t1)) 2 (some t2))))))), (h2, .inr (1, fs2)), (h4, .inl (T 0, 24, .inl fk)), (t0, .inr (0, [.int qq, .ref a0])), (t1, .inr (0, [.int (bn 1), .ref a1])), (t2, .inr (0, [.int (bn 2), .ref a2])), (a0, .inl (T 0, 12, .inl g0)), (a1, .inl (T 0, 12, .inl g1)), (a2, .inl (T 0, 12, .inl (bf 2)))] H := hP
              have hD : va_D A [(h0, .inr (9, fs0)), (h1, .inl (T 5, 3, .inr (.inr (.inr (.inr (va_up (va_up (va_up (fun _ => none) 0 (some t0)) 1 (some t1)) 2 (some t2))))))), (h2, .inr (1, fs2)), (h4, .inl (T 0, 24, .inl fk)), (t0, .inr (0, [.int qq, .ref a0])), (t1, .inr (0, [.int (bn 1), .ref a1])), (t2, .inr (0, [.int (bn 2), .ref a2])), (a0, .inl (T 0, 12, .inl g0)), (a1, .inl (T 0, 12, .inl g1)), (a2, .inl (T 0, 12, .inl (bf 2)))] := hD
              have hinv : ((0 ≤ le.toInt ∧ le.toInt ≤ ii.toInt ∧ ii.toInt ≤ (bn 1).toInt) ∧ 0 ≤ qq.toInt ∧ qq.toInt ≤ 12) ∧ le.toInt = (pourF (prP x3 n9 fk) (bf 1) (bf 0) ((bn 0).toNatClampNeg) (ii.toNatClampNeg)).1 ∧ g1 = (pourF (prP x3 n9 fk) (bf 1) (bf 0) ((bn 0).toNatClampNeg) (ii.toNatClampNeg)).2.1 ∧ qq.toInt = (pourF (prP x3 n9 fk) (bf 1) (bf 0) ((bn 0).toNatClampNeg) (ii.toNatClampNeg)).2.2.1 ∧ g0 = (pourF (prP x3 n9 fk) (bf 1) (bf 0) ((bn 0).toNatClampNeg) (ii.toNatClampNeg)).2.2.2 := hinv
              obtain ⟨hinv, hp1, hp2, hp3, hp4⟩ := hinv
              refine lv_iload hx hb dX12_pour_57 (lv_at hl 0 rfl) ?_
              refine lv_iload hx hb dX12_pour_59 (lv_at hl 2 rfl) ?_
              refine lv_icmp_ge (tgt := 153) hx hb dX12_pour_61 (by decide +kernel) (fun c_63 => ?_) (fun c_63 => ?_)
              · rw [fa_le] at c_63
                have e9 : ii = (bn 1) := Int32.toInt_inj.1 (by omega)
                rw [e9] at hp1 hp2 hp3 hp4
                refine lv_aload hx hb dX12_pour_153 (lv_at hl 3 rfl) ?_
                refine lv_iload hx hb dX12_pour_155 (lv_at hl 1 rfl) ?_
                refine va_put (D := D) (ci := 0) (v := .int le) (ty := .int) (C := RX1) (T := TX1) (N := 2) hx hb hts in_X12_pour_X1 tyX1 tyX1_ok nmX1 hown hE.1 hP hD hS 5 rfl rfl 0 (by decide +kernel) (hts (.fieldLink RX12 307 "ClauseBook$Bag" "size" "I") (List.mem_of_getElem? (i := 2) rfl)) (fun _ h9 => h9) rfl (by decide +kernel) rfl rfl (Nat.le_of_ble_eq_true rfl) dX12_pour_157 (fun H locs hP hD hS => ?_)
                obtain ⟨hP, hD⟩ := wPD [(h0, .inr (9, fs0)), (h1, .inl (T 5, 3, .inr (.inr (.inr (.inr (va_up (va_up (va_up (fun _ => none) 0 (some t0)) 1 (some t1)) 2 (some t2))))))), (h2, .inr (1, fs2)), (h4, .inl (T 0, 24, .inl fk)), (t0, .inr (0, [.int qq, .ref a0])), (t1, .inr (0, [.int le, .ref a1])), (t2, .inr (0, [.int (bn 2), .ref a2])), (a0, .inl (T 0, 12, .inl g0)), (a1, .inl (T 0, 12, .inl g1)), (a2, .inl (T 0, 12, .inl (bf 2)))] hP hD rfl
                refine lv_iload hx hb dX12_pour_160 (lv_at hl 2 rfl) ?_
                refine lv_iload hx hb dX12_pour_162 (lv_at hl 1 rfl) ?_
                refine lv_isub hx hb dX12_pour_164 ?_
                exact W.iret hx hb hr (fun t ht hW => ⟨⟨_, ((fun k => [qq, le, (bn 2)].getD k 0), (fun k => [g0, g1, (bf 2)].getD k g0)), rfl, ⟨(show 0 ≤ (qq).toInt ∧ (qq).toInt ≤ 12 from by (try subst_vars); first | omega | (rw [dec1 (by omega)]; omega)), (show 0 ≤ (le).toInt ∧ (le).toInt ≤ 12 from by (try subst_vars); first | omega | (rw [dec1 (by omega)]; omega)), (show 0 ≤ ((bn 2)).toInt ∧ ((bn 2)).toInt ≤ 12 from by (try subst_vars); first | omega | (rw [dec1 (by omega)]; omega)), (Or.inr ⟨⟨⟨⟨by decide, by decide⟩, by decide, by decide⟩, by decide, by omega⟩, _, rfl, (show (((bn 1) - le) : Int32).toInt = (bn 1).toInt - (((pourF (prP x3 n9 fk) (bf 1) (bf 0) ((bn 0).toNatClampNeg) ((bn 1).toNatClampNeg)).1 : Nat) : Int) from by have h8 := hp1; rw [fb_subI (by omega) (by omega)]; omega), all3 ⟨(fun h9 => absurd h9 (by decide +kernel)), (fun _ => ⟨hp3, hp4⟩), (fun _ h9 => absurd (by decide +kernel) h9)⟩ ⟨(fun _ => ⟨hp1, hp2⟩), (fun h9 => absurd h9 (by decide +kernel)), (fun h9 => absurd (by decide +kernel) h9)⟩ ⟨(fun h9 => absurd h9 (by decide +kernel)), (fun h9 => absurd h9 (by decide +kernel)), (fun _ _ => ⟨rfl, rfl⟩)⟩⟩)⟩, by rw [ht]; exact hP.sub [0, 1, 2, 3, 4, 5, 6, 7, 8, 9] rfl, hD.sub [0, 1, 2, 3, 4, 5, 6, 7, 8, 9] (by decide +kernel) rfl⟩, hS.F ht⟩) hS.2.2 dX12_pour_165
              · rw [fa_le] at c_63
                refine lv_aload hx hb dX12_pour_64 (lv_at hl 3 rfl) ?_
                refine va_get (D := D) (ci := 0) (v := .ref a1) (C := RX1) (T := TX1) (N := 2) hx hb hts in_X12_pour_X1 hown hE.1 hP 5 rfl rfl 1 (by decide +kernel) (hts (.fieldLink RX12 308 "ClauseBook$Bag" "numbers" "[I") (List.mem_of_getElem? (i := 3) rfl)) (fun _ h9 => h9) rfl dX12_pour_66 ?_
                refine lv_iload hx hb dX12_pour_69 (lv_at hl 0 rfl) ?_
                refine va_iald hx hb hE.1 hP 8 0 rfl rfl (by rw [vp_in_iff]; first | omega | (subst_vars; rw [dec1 (by omega)]; omega) | (subst_vars; rw [inc1 (n := 1000) (by omega) (by decide +kernel)]; omega)) dX12_pour_71 ?_
                refine lv_topi (fun z_64 ez_64 => ?_)
                have hzF : z_64 = (bf 1) (ii.toNatClampNeg) := by rw [ez_64, hp2]; exact pourF_keep _ _ (by have h8 := tn (x := ii) (by omega); omega)
                refine lv_istore (lv' := [(8, .int z_64), (7, .int ii), (6, .int le), (5, .int (bn 1)), (4, .ref t1), (0, .ref h0), (1, .int 1), (2, .int 0), (3, .int x3)]) hx hb dX12_pour_72 hl (by decide +kernel) rfl (fun ls hl => ?_)
                refine lv_iload_n hx hb dX12_pour_74 rfl (lv_at hl 8 rfl) ?_
                refine lv_iconst (v := (-1)) hx hb dX12_pour_75 (by decide +kernel) ?_
                refine lv_icmp_eq (tgt := 105) hx hb dX12_pour_76 (by decide +kernel) (fun c_65 => ?_) (fun c_65 => ?_)
                · rw [fa_eq] at c_65
                  try rw [ti_n1] at c_65
                  refine lv_iconst (v := 1) hx hb dX12_pour_105 (by decide +kernel) ?_
                  refine lv_goto (tgt := 110) hx hb dX12_pour_106 (by decide +kernel) ?_
                  refine lv_istore (lv' := [(9, .int 1), (8, .int z_64), (7, .int ii), (6, .int le), (5, .int (bn 1)), (4, .ref t1), (0, .ref h0), (1, .int 1), (2, .int 0), (3, .int x3)]) hx hb dX12_pour_110 hl (by decide +kernel) rfl (fun ls hl => ?_)
                  have hM : prP x3 n9 fk z_64 = true := decide_eq_true (by first | exact Or.inl (by omega) | exact Or.inr ⟨(by omega), (by rw [← ez_49]; omega)⟩)
                  refine lv_iload hx hb dX12_pour_112 (lv_at hl 0 rfl) ?_
                  refine lv_if_eq (tgt := 134) hx hb dX12_pour_114 (by decide +kernel) (fun c9 => absurd c9 (by decide +kernel)) (fun _ => ?_)
                  refine lv_aload_n hx hb dX12_pour_117 rfl (lv_at hl 6 rfl) ?_
                  refine va_get (D := D) (ci := 9) (v := .ref h1) (C := RX12) (T := TX12) (N := 11) hx hb hts in_X12_pour_X12 hown hE.1 hP 0 rfl rfl 5 (by decide +kernel) (hts (.fieldLink RX12 37 "ClauseBook" "bags" "[LClauseBook$Bag;") (List.mem_of_getElem? (i := 1) rfl)) (fun _ h9 => h9) e0_5 dX12_pour_118 ?_
                  refine lv_iload_n hx hb dX12_pour_121 rfl (lv_at hl 8 rfl) ?_
                  refine va_aldq hx hb hE.1 hP 1 5 rfl rfl (by unfold vp_in; decide) dX12_pour_122 ?_
                  refine W.eq (g2 := F0 m 123 ls [.ref t0]) rfl ?_
                  refine lv_iload hx hb dX12_pour_123 (lv_at hl 1 rfl) ?_
                  have hFc := va_free (wc := [(t0, .inr (0, [.int qq, .ref a0])), (a0, .inl (T 0, 12, .inl g0))]) hD hS hA [4, 7] rfl
                  refine va_calli (va_runV (As := [.int z_64]) (rest := []) ⟨hx, hb, hml, hown, hts⟩ (c_X1_append l D T _ t0 qq a0 g0 z_64 (by omega)) (cwV 1 hts gX12_pour_X1_append rfl rfl rfl hv_X1_append ⟨Nat.le_of_ble_eq_true rfl, Nat.le_of_ble_eq_true rfl⟩) (pW_V (q := (RX1, TX1, 2)) (ci := 0) (q0 := 4) hP hE hD rfl rfl [4, 7] (by decide +kernel) rfl rfl) rfl rfl hl.1 rfl (lv_room (Nat.le_of_ble_eq_true rfl)) dX12_pour_125 ⟨Nat.le_of_ble_eq_true rfl, Nat.le_of_ble_eq_true rfl⟩) hS (fun q _ h => hFc q h) hFc (fun r_66 u_67 t H1 locs ht hvm hr_66 hB hz1 hk1 hS => ?_)
                  obtain ⟨n_68, f_69⟩ := u_67
                  have hinn_68 : 0 ≤ n_68.toInt ∧ n_68.toInt ≤ 12 := hr_66.2.1
                  have hap : ((qq).toInt < 12 → n_68.toInt = (qq).toInt + 1 ∧ f_69 = upd g0 ((qq).toNatClampNeg) z_64) ∧ (¬ (qq).toInt < 12 → n_68 = qq ∧ f_69 = g0) := hr_66.2.2
                  have hbo : r_66 = if (qq).toInt < 12 then 1 else 0 := hr_66.1
                  obtain ⟨hP1, hD1⟩ := hB
                  rw [ht] at hP1
                  obtain ⟨hP, hD⟩ := va_repl [(h0, .inr (9, fs0)), (h1, .inl (T 5, 3, .inr (.inr (.inr (.inr (va_up (va_up (va_up (fun _ => none) 0 (some t0)) 1 (some t1)) 2 (some t2))))))), (h2, .inr (1, fs2)), (h4, .inl (T 0, 24, .inl fk)), (t0, .inr (0, [.int n_68, .ref a0])), (t1, .inr (0, [.int (bn 1), .ref a1])), (t2, .inr (0, [.int (bn 2), .ref a2])), (a0, .inl (T 0, 12, .inl f_69)), (a1, .inl (T 0, 12, .inl g1)), (a2, .inl (T 0, 12, .inl (bf 2)))] hP hD [4, 7] [4, 7] rfl (by decide +kernel) rfl rfl rfl hk1 hP1
                  clear hP1 hD1 hFc
                  generalize H1 = H at hP hS ⊢
                  rcases bool_post hbo with ⟨c_70, rfl⟩ | ⟨c_70, rfl⟩
                  · refine lv_if_eq (tgt := 134) hx hb dX12_pour_128 (by decide +kernel) (fun c9 => absurd c9 (by decide +kernel)) (fun _ => ?_)
                    refine lv_goto (tgt := 147) hx hb dX12_pour_131 (by decide +kernel) ?_
                    obtain ⟨z_71, ez_71⟩ : ∃ y : Int32, y = ii + 1 := ⟨_, rfl⟩
                    refine lv_iinc (v := z_71) (lv' := [(7, .int z_71), (9, .int 1), (8, .int z_64), (6, .int le), (5, .int (bn 1)), (4, .ref t1), (0, .ref h0), (1, .int 1), (2, .int 0), (3, .int x3)]) hx hb dX12_pour_147 hl (k := 2) rfl (by rw [ez_71]; rfl) (by decide +kernel) rfl (fun ls hl => ?_)
                    have hi9 : z_71.toInt = ii.toInt + 1 := by rw [ez_71]; exact inc1 (n := 1000) (by omega) (by decide +kernel)
                    refine lv_goto (tgt := 57) hx hb dX12_pour_150 (by decide +kernel) ?_
                    exact ih (z_71, le, n_68, g1, f_69) ls _ _ ⟨lv_sub hl [0, 3, 4, 5, 6, 7, 8, 9] rfl, hP.sub [0, 1, 2, 3, 4, 5, 6, 7, 8, 9] rfl, hD.sub [0, 1, 2, 3, 4, 5, 6, 7, 8, 9] (by decide +kernel) rfl, hS, ⟨(by (try dsimp only); omega), (by (try dsimp only); exact pour_stepY (by omega) hi9 hp1 hp2 hp3 hp4 hzF hM (by omega) (hap.1 (by omega)).1 (hap.1 (by omega)).2)⟩⟩ (by (try dsimp only); omega)
                  · refine lv_if_eq (tgt := 134) hx hb dX12_pour_128 (by decide +kernel) (fun _ => ?_) (fun c9 => absurd c9 (by decide +kernel))
                    refine lv_aload hx hb dX12_pour_134 (lv_at hl 5 rfl) ?_
                    refine va_get (D := D) (ci := 0) (v := .ref a1) (C := RX1) (T := TX1) (N := 2) hx hb hts in_X12_pour_X1 hown hE.1 hP 5 rfl rfl 1 (by decide +kernel) (hts (.fieldLink RX12 308 "ClauseBook$Bag" "numbers" "[I") (List.mem_of_getElem? (i := 3) rfl)) (fun _ h9 => h9) rfl dX12_pour_136 ?_
                    refine lv_iload hx hb dX12_pour_139 (lv_at hl 3 rfl) ?_
                    refine lv_iload hx hb dX12_pour_141 (lv_at hl 1 rfl) ?_
                    refine va_iast hx hb hE.1 hP hD hS 8 0 rfl rfl (by rw [vp_in_iff]; first | omega | (subst_vars; rw [dec1 (by omega)]; omega) | (subst_vars; rw [inc1 (n := 1000) (by omega) (by decide +kernel)]; omega)) dX12_pour_143 (fun H locs hP hD hS => ?_)
                    obtain ⟨hP, hD⟩ := wPD [(h0, .inr (9, fs0)), (h1, .inl (T 5, 3, .inr (.inr (.inr (.inr (va_up (va_up (va_up (fun _ => none) 0 (some t0)) 1 (some t1)) 2 (some t2))))))), (h2, .inr (1, fs2)), (h4, .inl (T 0, 24, .inl fk)), (t0, .inr (0, [.int n_68, .ref a0])), (t1, .inr (0, [.int (bn 1), .ref a1])), (t2, .inr (0, [.int (bn 2), .ref a2])), (a0, .inl (T 0, 12, .inl f_69)), (a1, .inl (T 0, 12, .inl (upd g1 (le.toNatClampNeg) z_64))), (a2, .inl (T 0, 12, .inl (bf 2)))] hP hD rfl
                    obtain ⟨z_72, ez_72⟩ : ∃ y : Int32, y = le + 1 := ⟨_, rfl⟩
                    refine lv_iinc (v := z_72) (lv' := [(6, .int z_72), (9, .int 1), (8, .int z_64), (7, .int ii), (5, .int (bn 1)), (4, .ref t1), (0, .ref h0), (1, .int 1), (2, .int 0), (3, .int x3)]) hx hb dX12_pour_144 hl (k := 3) rfl (by rw [ez_72]; rfl) (by decide +kernel) rfl (fun ls hl => ?_)
                    obtain ⟨z_73, ez_73⟩ : ∃ y : Int32, y = ii + 1 := ⟨_, rfl⟩
                    refine lv_iinc (v := z_73) (lv' := [(7, .int z_73), (6, .int z_72), (9, .int 1), (8, .int z_64), (5, .int (bn 1)), (4, .ref t1), (0, .ref h0), (1, .int 1), (2, .int 0), (3, .int x3)]) hx hb dX12_pour_147 hl (k := 3) rfl (by rw [ez_73]; rfl) (by decide +kernel) rfl (fun ls hl => ?_)
                    have hi9 : z_73.toInt = ii.toInt + 1 := by rw [ez_73]; exact inc1 (n := 1000) (by omega) (by decide +kernel)
                    have hl9 : z_72.toInt = le.toInt + 1 := by rw [ez_72]; exact inc1 (n := 1000) (by omega) (by decide +kernel)
                    refine lv_goto (tgt := 57) hx hb dX12_pour_150 (by decide +kernel) ?_
                    exact ih (z_73, z_72, n_68, (upd g1 (le.toNatClampNeg) z_64), f_69) ls _ _ ⟨lv_sub hl [0, 1, 4, 5, 6, 7, 8, 9] rfl, hP.sub [0, 1, 2, 3, 4, 5, 6, 7, 8, 9] rfl, hD.sub [0, 1, 2, 3, 4, 5, 6, 7, 8, 9] (by decide +kernel) rfl, hS, ⟨(by (try dsimp only); omega), (by (try dsimp only); exact pour_stepN (by omega) (by omega) hi9 hp1 hp2 hp3 hp4 hzF (fun h9 => by first | exact hM h9.1 | omega) hl9 rfl (by rw [(hap.2 (by omega)).1]) (hap.2 (by omega)).2)⟩⟩ (by (try dsimp only); omega)
                · rw [fa_eq] at c_65
                  try rw [ti_n1] at c_65
                  refine lv_aload_n hx hb dX12_pour_79 rfl (lv_at hl 5 rfl) ?_
                  refine va_get (D := D) (ci := 9) (v := .ref h2) (C := RX12) (T := TX12) (N := 11) hx hb hts in_X12_pour_X12 hown hE.1 hP 0 rfl rfl 4 (by decide +kernel) (hts (.fieldLink RX12 32 "ClauseBook" "clauses" "LClauseBook$Clauses;") (List.mem_of_getElem? (i := 4) rfl)) (fun _ h9 => h9) e0_4 dX12_pour_80 ?_
                  refine lv_iload hx hb dX12_pour_83 (lv_at hl 0 rfl) ?_
                  refine vp_callSi (W.runV (As := [.int z_64]) (rest := []) ⟨hx, hb, hml, hown, hts⟩ (c_X2_has l D T h2 fs2 z_64 n9 e2_0 (by omega)) (cwV 1 hts gX12_pour_X2_has rfl rfl rfl hv_X2_has ⟨Nat.le_of_ble_eq_true rfl, Nat.le_of_ble_eq_true rfl⟩) (pR_V (q := (RX2, TX2, 8)) (ci := 1) (q0 := 2) hP hE rfl rfl [2] rfl) rfl rfl hl.1 rfl (lv_room (Nat.le_of_ble_eq_true rfl)) dX12_pour_85 ⟨Nat.le_of_ble_eq_true rfl, Nat.le_of_ble_eq_true rfl⟩) (fun r_74 hr_74 => ?_)
                  rcases bool_post hr_74 with ⟨c_75, rfl⟩ | ⟨c_75, rfl⟩
                  · refine lv_if_eq (tgt := 109) hx hb dX12_pour_88 (by decide +kernel) (fun c9 => absurd c9 (by decide +kernel)) (fun _ => ?_)
                    refine lv_aload_n hx hb dX12_pour_91 rfl (lv_at hl 5 rfl) ?_
                    refine va_get (D := D) (ci := 9) (v := .ref h2) (C := RX12) (T := TX12) (N := 11) hx hb hts in_X12_pour_X12 hown hE.1 hP 0 rfl rfl 4 (by decide +kernel) (hts (.fieldLink RX12 32 "ClauseBook" "clauses" "LClauseBook$Clauses;") (List.mem_of_getElem? (i := 4) rfl)) (fun _ h9 => h9) e0_4 dX12_pour_92 ?_
                    refine va_get (D := D) (ci := 1) (v := .ref h4) (C := RX2) (T := TX2) (N := 8) hx hb hts in_X12_pour_X2 hown hE.1 hP 2 rfl rfl 1 (by decide +kernel) (hts (.fieldLink RX12 153 "ClauseBook$Clauses" "kind" "[I") (List.mem_of_getElem? (i := 5) rfl)) (fun _ h9 => h9) e2_1 dX12_pour_95 ?_
                    refine lv_iload hx hb dX12_pour_98 (lv_at hl 0 rfl) ?_
                    refine va_iald hx hb hE.1 hP 3 0 rfl rfl (by rw [vp_in_iff]; first | omega | (subst_vars; rw [dec1 (by omega)]; omega) | (subst_vars; rw [inc1 (n := 1000) (by omega) (by decide +kernel)]; omega)) dX12_pour_100 ?_
                    refine lv_topi (fun z_76 ez_76 => ?_)
                    refine lv_iload_n hx hb dX12_pour_101 rfl (lv_at hl 8 rfl) ?_
                    refine lv_icmp_ne (tgt := 109) hx hb dX12_pour_102 (by decide +kernel) (fun c_77 => ?_) (fun c_77 => ?_)
                    · rw [fa_eq] at c_77
                      refine lv_iconst (v := 0) hx hb dX12_pour_109 (by decide +kernel) ?_
                      refine lv_istore (lv' := [(9, .int 0), (8, .int z_64), (7, .int ii), (6, .int le), (5, .int (bn 1)), (4, .ref t1), (0, .ref h0), (1, .int 1), (2, .int 0), (3, .int x3)]) hx hb dX12_pour_110 hl (by decide +kernel) rfl (fun ls hl => ?_)
                      have hM : ¬ prP x3 n9 fk z_64 = true := fun h9 => by rcases of_decide_eq_true h9 with h8 | ⟨h8, h7⟩ <;> first | omega | (rw [← ez_76] at h7; omega)
                      refine lv_iload hx hb dX12_pour_112 (lv_at hl 0 rfl) ?_
                      refine lv_if_eq (tgt := 134) hx hb dX12_pour_114 (by decide +kernel) (fun _ => ?_) (fun c9 => absurd c9 (by decide +kernel))
                      refine lv_aload hx hb dX12_pour_134 (lv_at hl 5 rfl) ?_
                      refine va_get (D := D) (ci := 0) (v := .ref a1) (C := RX1) (T := TX1) (N := 2) hx hb hts in_X12_pour_X1 hown hE.1 hP 5 rfl rfl 1 (by decide +kernel) (hts (.fieldLink RX12 308 "ClauseBook$Bag" "numbers" "[I") (List.mem_of_getElem? (i := 3) rfl)) (fun _ h9 => h9) rfl dX12_pour_136 ?_
                      refine lv_iload hx hb dX12_pour_139 (lv_at hl 3 rfl) ?_
                      refine lv_iload hx hb dX12_pour_141 (lv_at hl 1 rfl) ?_
                      refine va_iast hx hb hE.1 hP hD hS 8 0 rfl rfl (by rw [vp_in_iff]; first | omega | (subst_vars; rw [dec1 (by omega)]; omega) | (subst_vars; rw [inc1 (n := 1000) (by omega) (by decide +kernel)]; omega)) dX12_pour_143 (fun H locs hP hD hS => ?_)
                      obtain ⟨hP, hD⟩ := wPD [(h0, .inr (9, fs0)), (h1, .inl (T 5, 3, .inr (.inr (.inr (.inr (va_up (va_up (va_up (fun _ => none) 0 (some t0)) 1 (some t1)) 2 (some t2))))))), (h2, .inr (1, fs2)), (h4, .inl (T 0, 24, .inl fk)), (t0, .inr (0, [.int qq, .ref a0])), (t1, .inr (0, [.int (bn 1), .ref a1])), (t2, .inr (0, [.int (bn 2), .ref a2])), (a0, .inl (T 0, 12, .inl g0)), (a1, .inl (T 0, 12, .inl (upd g1 (le.toNatClampNeg) z_64))), (a2, .inl (T 0, 12, .inl (bf 2)))] hP hD rfl
                      obtain ⟨z_78, ez_78⟩ : ∃ y : Int32, y = le + 1 := ⟨_, rfl⟩
                      refine lv_iinc (v := z_78) (lv' := [(6, .int z_78), (9, .int 0), (8, .int z_64), (7, .int ii), (5, .int (bn 1)), (4, .ref t1), (0, .ref h0), (1, .int 1), (2, .int 0), (3, .int x3)]) hx hb dX12_pour_144 hl (k := 3) rfl (by rw [ez_78]; rfl) (by decide +kernel) rfl (fun ls hl => ?_)
                      obtain ⟨z_79, ez_79⟩ : ∃ y : Int32, y = ii + 1 := ⟨_, rfl⟩
                      refine lv_iinc (v := z_79) (lv' := [(7, .int z_79), (6, .int z_78), (9, .int 0), (8, .int z_64), (5, .int (bn 1)), (4, .ref t1), (0, .ref h0), (1, .int 1), (2, .int 0), (3, .int x3)]) hx hb dX12_pour_147 hl (k := 3) rfl (by rw [ez_79]; rfl) (by decide +kernel) rfl (fun ls hl => ?_)
                      have hi9 : z_79.toInt = ii.toInt + 1 := by rw [ez_79]; exact inc1 (n := 1000) (by omega) (by decide +kernel)
                      have hl9 : z_78.toInt = le.toInt + 1 := by rw [ez_78]; exact inc1 (n := 1000) (by omega) (by decide +kernel)
                      refine lv_goto (tgt := 57) hx hb dX12_pour_150 (by decide +kernel) ?_
                      exact ih (z_79, z_78, qq, (upd g1 (le.toNatClampNeg) z_64), g0) ls _ _ ⟨lv_sub hl [0, 1, 4, 5, 6, 7, 8, 9] rfl, hP.sub [0, 1, 2, 3, 4, 5, 6, 7, 8, 9] rfl, hD.sub [0, 1, 2, 3, 4, 5, 6, 7, 8, 9] (by decide +kernel) rfl, hS, ⟨(by (try dsimp only); omega), (by (try dsimp only); exact pour_stepN (by omega) (by omega) hi9 hp1 hp2 hp3 hp4 hzF (fun h9 => by first | exact hM h9.1 | omega) hl9 rfl rfl rfl)⟩⟩ (by (try dsimp only); omega)
                    · rw [fa_eq] at c_77
                      refine lv_iconst (v := 1) hx hb dX12_pour_105 (by decide +kernel) ?_
                      refine lv_goto (tgt := 110) hx hb dX12_pour_106 (by decide +kernel) ?_
                      refine lv_istore (lv' := [(9, .int 1), (8, .int z_64), (7, .int ii), (6, .int le), (5, .int (bn 1)), (4, .ref t1), (0, .ref h0), (1, .int 1), (2, .int 0), (3, .int x3)]) hx hb dX12_pour_110 hl (by decide +kernel) rfl (fun ls hl => ?_)
                      have hM : prP x3 n9 fk z_64 = true := decide_eq_true (by first | exact Or.inl (by omega) | exact Or.inr ⟨(by omega), (by rw [← ez_76]; omega)⟩)
                      refine lv_iload hx hb dX12_pour_112 (lv_at hl 0 rfl) ?_
                      refine lv_if_eq (tgt := 134) hx hb dX12_pour_114 (by decide +kernel) (fun c9 => absurd c9 (by decide +kernel)) (fun _ => ?_)
                      refine lv_aload_n hx hb dX12_pour_117 rfl (lv_at hl 6 rfl) ?_
                      refine va_get (D := D) (ci := 9) (v := .ref h1) (C := RX12) (T := TX12) (N := 11) hx hb hts in_X12_pour_X12 hown hE.1 hP 0 rfl rfl 5 (by decide +kernel) (hts (.fieldLink RX12 37 "ClauseBook" "bags" "[LClauseBook$Bag;") (List.mem_of_getElem? (i := 1) rfl)) (fun _ h9 => h9) e0_5 dX12_pour_118 ?_
                      refine lv_iload_n hx hb dX12_pour_121 rfl (lv_at hl 8 rfl) ?_
                      refine va_aldq hx hb hE.1 hP 1 5 rfl rfl (by unfold vp_in; decide) dX12_pour_122 ?_
                      refine W.eq (g2 := F0 m 123 ls [.ref t0]) rfl ?_
                      refine lv_iload hx hb dX12_pour_123 (lv_at hl 1 rfl) ?_
                      have hFc := va_free (wc := [(t0, .inr (0, [.int qq, .ref a0])), (a0, .inl (T 0, 12, .inl g0))]) hD hS hA [4, 7] rfl
                      refine va_calli (va_runV (As := [.int z_64]) (rest := []) ⟨hx, hb, hml, hown, hts⟩ (c_X1_append l D T _ t0 qq a0 g0 z_64 (by omega)) (cwV 1 hts gX12_pour_X1_append rfl rfl rfl hv_X1_append ⟨Nat.le_of_ble_eq_true rfl, Nat.le_of_ble_eq_true rfl⟩) (pW_V (q := (RX1, TX1, 2)) (ci := 0) (q0 := 4) hP hE hD rfl rfl [4, 7] (by decide +kernel) rfl rfl) rfl rfl hl.1 rfl (lv_room (Nat.le_of_ble_eq_true rfl)) dX12_pour_125 ⟨Nat.le_of_ble_eq_true rfl, Nat.le_of_ble_eq_true rfl⟩) hS (fun q _ h => hFc q h) hFc (fun r_80 u_81 t H1 locs ht hvm hr_80 hB hz1 hk1 hS => ?_)
                      obtain ⟨n_82, f_83⟩ := u_81
                      have hinn_82 : 0 ≤ n_82.toInt ∧ n_82.toInt ≤ 12 := hr_80.2.1
                      have hap : ((qq).toInt < 12 → n_82.toInt = (qq).toInt + 1 ∧ f_83 = upd g0 ((qq).toNatClampNeg) z_64) ∧ (¬ (qq).toInt < 12 → n_82 = qq ∧ f_83 = g0) := hr_80.2.2
                      have hbo : r_80 = if (qq).toInt < 12 then 1 else 0 := hr_80.1
                      obtain ⟨hP1, hD1⟩ := hB
                      rw [ht] at hP1
                      obtain ⟨hP, hD⟩ := va_repl [(h0, .inr (9, fs0)), (h1, .inl (T 5, 3, .inr (.inr (.inr (.inr (va_up (va_up (va_up (fun _ => none) 0 (some t0)) 1 (some t1)) 2 (some t2))))))), (h2, .inr (1, fs2)), (h4, .inl (T 0, 24, .inl fk)), (t0, .inr (0, [.int n_82, .ref a0])), (t1, .inr (0, [.int (bn 1), .ref a1])), (t2, .inr (0, [.int (bn 2), .ref a2])), (a0, .inl (T 0, 12, .inl f_83)), (a1, .inl (T 0, 12, .inl g1)), (a2, .inl (T 0, 12, .inl (bf 2)))] hP hD [4, 7] [4, 7] rfl (by decide +kernel) rfl rfl rfl hk1 hP1
                      clear hP1 hD1 hFc
                      generalize H1 = H at hP hS ⊢
                      rcases bool_post hbo with ⟨c_84, rfl⟩ | ⟨c_84, rfl⟩
                      · refine lv_if_eq (tgt := 134) hx hb dX12_pour_128 (by decide +kernel) (fun c9 => absurd c9 (by decide +kernel)) (fun _ => ?_)
                        refine lv_goto (tgt := 147) hx hb dX12_pour_131 (by decide +kernel) ?_
                        obtain ⟨z_85, ez_85⟩ : ∃ y : Int32, y = ii + 1 := ⟨_, rfl⟩
                        refine lv_iinc (v := z_85) (lv' := [(7, .int z_85), (9, .int 1), (8, .int z_64), (6, .int le), (5, .int (bn 1)), (4, .ref t1), (0, .ref h0), (1, .int 1), (2, .int 0), (3, .int x3)]) hx hb dX12_pour_147 hl (k := 2) rfl (by rw [ez_85]; rfl) (by decide +kernel) rfl (fun ls hl => ?_)
                        have hi9 : z_85.toInt = ii.toInt + 1 := by rw [ez_85]; exact inc1 (n := 1000) (by omega) (by decide +kernel)
                        refine lv_goto (tgt := 57) hx hb dX12_pour_150 (by decide +kernel) ?_
                        exact ih (z_85, le, n_82, g1, f_83) ls _ _ ⟨lv_sub hl [0, 3, 4, 5, 6, 7, 8, 9] rfl, hP.sub [0, 1, 2, 3, 4, 5, 6, 7, 8, 9] rfl, hD.sub [0, 1, 2, 3, 4, 5, 6, 7, 8, 9] (by decide +kernel) rfl, hS, ⟨(by (try dsimp only); omega), (by (try dsimp only); exact pour_stepY (by omega) hi9 hp1 hp2 hp3 hp4 hzF hM (by omega) (hap.1 (by omega)).1 (hap.1 (by omega)).2)⟩⟩ (by (try dsimp only); omega)
                      · refine lv_if_eq (tgt := 134) hx hb dX12_pour_128 (by decide +kernel) (fun _ => ?_) (fun c9 => absurd c9 (by decide +kernel))
                        refine lv_aload hx hb dX12_pour_134 (lv_at hl 5 rfl) ?_
                        refine va_get (D := D) (ci := 0) (v := .ref a1) (C := RX1) (T := TX1) (N := 2) hx hb hts in_X12_pour_X1 hown hE.1 hP 5 rfl rfl 1 (by decide +kernel) (hts (.fieldLink RX12 308 "ClauseBook$Bag" "numbers" "[I") (List.mem_of_getElem? (i := 3) rfl)) (fun _ h9 => h9) rfl dX12_pour_136 ?_
                        refine lv_iload hx hb dX12_pour_139 (lv_at hl 3 rfl) ?_
                        refine lv_iload hx hb dX12_pour_141 (lv_at hl 1 rfl) ?_
                        refine va_iast hx hb hE.1 hP hD hS 8 0 rfl rfl (by rw [vp_in_iff]; first | omega | (subst_vars; rw [dec1 (by omega)]; omega) | (subst_vars; rw [inc1 (n := 1000) (by omega) (by decide +kernel)]; omega)) dX12_pour_143 (fun H locs hP hD hS => ?_)
                        obtain ⟨hP, hD⟩ := wPD [(h0, .inr (9, fs0)), (h1, .inl (T 5, 3, .inr (.inr (.inr (.inr (va_up (va_up (va_up (fun _ => none) 0 (some t0)) 1 (some t1)) 2 (some t2))))))), (h2, .inr (1, fs2)), (h4, .inl (T 0, 24, .inl fk)), (t0, .inr (0, [.int n_82, .ref a0])), (t1, .inr (0, [.int (bn 1), .ref a1])), (t2, .inr (0, [.int (bn 2), .ref a2])), (a0, .inl (T 0, 12, .inl f_83)), (a1, .inl (T 0, 12, .inl (upd g1 (le.toNatClampNeg) z_64))), (a2, .inl (T 0, 12, .inl (bf 2)))] hP hD rfl
                        obtain ⟨z_86, ez_86⟩ : ∃ y : Int32, y = le + 1 := ⟨_, rfl⟩
                        refine lv_iinc (v := z_86) (lv' := [(6, .int z_86), (9, .int 1), (8, .int z_64), (7, .int ii), (5, .int (bn 1)), (4, .ref t1), (0, .ref h0), (1, .int 1), (2, .int 0), (3, .int x3)]) hx hb dX12_pour_144 hl (k := 3) rfl (by rw [ez_86]; rfl) (by decide +kernel) rfl (fun ls hl => ?_)
                        obtain ⟨z_87, ez_87⟩ : ∃ y : Int32, y = ii + 1 := ⟨_, rfl⟩
                        refine lv_iinc (v := z_87) (lv' := [(7, .int z_87), (6, .int z_86), (9, .int 1), (8, .int z_64), (5, .int (bn 1)), (4, .ref t1), (0, .ref h0), (1, .int 1), (2, .int 0), (3, .int x3)]) hx hb dX12_pour_147 hl (k := 3) rfl (by rw [ez_87]; rfl) (by decide +kernel) rfl (fun ls hl => ?_)
                        have hi9 : z_87.toInt = ii.toInt + 1 := by rw [ez_87]; exact inc1 (n := 1000) (by omega) (by decide +kernel)
                        have hl9 : z_86.toInt = le.toInt + 1 := by rw [ez_86]; exact inc1 (n := 1000) (by omega) (by decide +kernel)
                        refine lv_goto (tgt := 57) hx hb dX12_pour_150 (by decide +kernel) ?_
                        exact ih (z_87, z_86, n_82, (upd g1 (le.toNatClampNeg) z_64), f_83) ls _ _ ⟨lv_sub hl [0, 1, 4, 5, 6, 7, 8, 9] rfl, hP.sub [0, 1, 2, 3, 4, 5, 6, 7, 8, 9] rfl, hD.sub [0, 1, 2, 3, 4, 5, 6, 7, 8, 9] (by decide +kernel) rfl, hS, ⟨(by (try dsimp only); omega), (by (try dsimp only); exact pour_stepN (by omega) (by omega) hi9 hp1 hp2 hp3 hp4 hzF (fun h9 => by first | exact hM h9.1 | omega) hl9 rfl (by rw [(hap.2 (by omega)).1]) (hap.2 (by omega)).2)⟩⟩ (by (try dsimp only); omega)
                  · refine lv_if_eq (tgt := 109) hx hb dX12_pour_88 (by decide +kernel) (fun _ => ?_) (fun c9 => absurd c9 (by decide +kernel))
                    refine lv_iconst (v := 0) hx hb dX12_pour_109 (by decide +kernel) ?_
                    refine lv_istore (lv' := [(9, .int 0), (8, .int z_64), (7, .int ii), (6, .int le), (5, .int (bn 1)), (4, .ref t1), (0, .ref h0), (1, .int 1), (2, .int 0), (3, .int x3)]) hx hb dX12_pour_110 hl (by decide +kernel) rfl (fun ls hl => ?_)
                    have hM : ¬ prP x3 n9 fk z_64 = true := fun h9 => by rcases of_decide_eq_true h9 with h8 | ⟨h8, h7⟩ <;> first | omega | (rw [← ez_76] at h7; omega)
                    refine lv_iload hx hb dX12_pour_112 (lv_at hl 0 rfl) ?_
                    refine lv_if_eq (tgt := 134) hx hb dX12_pour_114 (by decide +kernel) (fun _ => ?_) (fun c9 => absurd c9 (by decide +kernel))
                    refine lv_aload hx hb dX12_pour_134 (lv_at hl 5 rfl) ?_
                    refine va_get (D := D) (ci := 0) (v := .ref a1) (C := RX1) (T := TX1) (N := 2) hx hb hts in_X12_pour_X1 hown hE.1 hP 5 rfl rfl 1 (by decide +kernel) (hts (.fieldLink RX12 308 "ClauseBook$Bag" "numbers" "[I") (List.mem_of_getElem? (i := 3) rfl)) (fun _ h9 => h9) rfl dX12_pour_136 ?_
                    refine lv_iload hx hb dX12_pour_139 (lv_at hl 3 rfl) ?_
                    refine lv_iload hx hb dX12_pour_141 (lv_at hl 1 rfl) ?_
                    refine va_iast hx hb hE.1 hP hD hS 8 0 rfl rfl (by rw [vp_in_iff]; first | omega | (subst_vars; rw [dec1 (by omega)]; omega) | (subst_vars; rw [inc1 (n := 1000) (by omega) (by decide +kernel)]; omega)) dX12_pour_143 (fun H locs hP hD hS => ?_)
                    obtain ⟨hP, hD⟩ := wPD [(h0, .inr (9, fs0)), (h1, .inl (T 5, 3, .inr (.inr (.inr (.inr (va_up (va_up (va_up (fun _ => none) 0 (some t0)) 1 (some t1)) 2 (some t2))))))), (h2, .inr (1, fs2)), (h4, .inl (T 0, 24, .inl fk)), (t0, .inr (0, [.int qq, .ref a0])), (t1, .inr (0, [.int (bn 1), .ref a1])), (t2, .inr (0, [.int (bn 2), .ref a2])), (a0, .inl (T 0, 12, .inl g0)), (a1, .inl (T 0, 12, .inl (upd g1 (le.toNatClampNeg) z_64))), (a2, .inl (T 0, 12, .inl (bf 2)))] hP hD rfl
                    obtain ⟨z_88, ez_88⟩ : ∃ y : Int32, y = le + 1 := ⟨_, rfl⟩
                    refine lv_iinc (v := z_88) (lv' := [(6, .int z_88), (9, .int 0), (8, .int z_64), (7, .int ii), (5, .int (bn 1)), (4, .ref t1), (0, .ref h0), (1, .int 1), (2, .int 0), (3, .int x3)]) hx hb dX12_pour_144 hl (k := 3) rfl (by rw [ez_88]; rfl) (by decide +kernel) rfl (fun ls hl => ?_)
                    obtain ⟨z_89, ez_89⟩ : ∃ y : Int32, y = ii + 1 := ⟨_, rfl⟩
                    refine lv_iinc (v := z_89) (lv' := [(7, .int z_89), (6, .int z_88), (9, .int 0), (8, .int z_64), (5, .int (bn 1)), (4, .ref t1), (0, .ref h0), (1, .int 1), (2, .int 0), (3, .int x3)]) hx hb dX12_pour_147 hl (k := 3) rfl (by rw [ez_89]; rfl) (by decide +kernel) rfl (fun ls hl => ?_)
                    have hi9 : z_89.toInt = ii.toInt + 1 := by rw [ez_89]; exact inc1 (n := 1000) (by omega) (by decide +kernel)
                    have hl9 : z_88.toInt = le.toInt + 1 := by rw [ez_88]; exact inc1 (n := 1000) (by omega) (by decide +kernel)
                    refine lv_goto (tgt := 57) hx hb dX12_pour_150 (by decide +kernel) ?_
                    exact ih (z_89, z_88, qq, (upd g1 (le.toNatClampNeg) z_64), g0) ls _ _ ⟨lv_sub hl [0, 1, 4, 5, 6, 7, 8, 9] rfl, hP.sub [0, 1, 2, 3, 4, 5, 6, 7, 8, 9] rfl, hD.sub [0, 1, 2, 3, 4, 5, 6, 7, 8, 9] (by decide +kernel) rfl, hS, ⟨(by (try dsimp only); omega), (by (try dsimp only); exact pour_stepN (by omega) (by omega) hi9 hp1 hp2 hp3 hp4 hzF (fun h9 => by first | exact hM h9.1 | omega) hl9 rfl rfl rfl)⟩⟩ (by (try dsimp only); omega)
            · omega
            · refine lv_aload_n hx hb dX12_pour_36 rfl (lv_at hl 0 rfl) ?_
              refine va_get (D := D) (ci := 9) (v := .ref h1) (C := RX12) (T := TX12) (N := 11) hx hb hts in_X12_pour_X12 hown hE.1 hP 0 rfl rfl 5 (by decide +kernel) (hts (.fieldLink RX12 37 "ClauseBook" "bags" "[LClauseBook$Bag;") (List.mem_of_getElem? (i := 1) rfl)) (fun _ h9 => h9) e0_5 dX12_pour_37 ?_
              refine lv_iload_n hx hb dX12_pour_40 rfl (lv_at hl 1 rfl) ?_
              refine va_aldq hx hb hE.1 hP 1 5 rfl rfl (by unfold vp_in; decide) dX12_pour_41 ?_
              refine W.eq (g2 := F0 m 42 ls [.ref t1]) rfl ?_
              refine lv_astore (lv' := [(4, .ref t1), (0, .ref h0), (1, .int 1), (2, .int 2), (3, .int x3)]) hx hb dX12_pour_42 hl (by decide +kernel) rfl (fun ls hl => ?_)
              refine lv_aload hx hb dX12_pour_44 (lv_at hl 0 rfl) ?_
              refine va_get (D := D) (ci := 0) (v := .int (bn 1)) (C := RX1) (T := TX1) (N := 2) hx hb hts in_X12_pour_X1 hown hE.1 hP 5 rfl rfl 0 (by decide +kernel) (hts (.fieldLink RX12 307 "ClauseBook$Bag" "size" "I") (List.mem_of_getElem? (i := 2) rfl)) (fun _ h9 => h9) rfl dX12_pour_46 ?_
              refine lv_istore (lv' := [(5, .int (bn 1)), (4, .ref t1), (0, .ref h0), (1, .int 1), (2, .int 2), (3, .int x3)]) hx hb dX12_pour_49 hl (by decide +kernel) rfl (fun ls hl => ?_)
              refine lv_iconst (v := 0) hx hb dX12_pour_51 (by decide +kernel) ?_
              refine lv_istore (lv' := [(6, .int 0), (5, .int (bn 1)), (4, .ref t1), (0, .ref h0), (1, .int 1), (2, .int 2), (3, .int x3)]) hx hb dX12_pour_52 hl (by decide +kernel) rfl (fun ls hl => ?_)
              refine lv_iconst (v := 0) hx hb dX12_pour_54 (by decide +kernel) ?_
              refine lv_istore (lv' := [(7, .int 0), (6, .int 0), (5, .int (bn 1)), (4, .ref t1), (0, .ref h0), (1, .int 1), (2, .int 2), (3, .int x3)]) hx hb dX12_pour_55 hl (by decide +kernel) rfl (fun ls hl => ?_)
              refine loopW (σ := (Int32) × (Int32) × (Int32) × (Nat → Int32) × (Nat → Int32)) (fun x9 ls H locs => lv_has ls 10 [(7, .int x9.1), (6, .int x9.2.1), (5, .int (bn 1)), (4, .ref t1), (0, .ref h0), (1, .int 1), (2, .int 2), (3, .int x3)] ∧ va_P D vwCl [(h0, .inr (9, fs0)), (h1, .inl (T 5, 3, .inr (.inr (.inr (.inr (va_up (va_up (va_up (fun _ => none) 0 (some t0)) 1 (some t1)) 2 (some t2))))))), (h2, .inr (1, fs2)), (h4, .inl (T 0, 24, .inl fk)), (t0, .inr (0, [.int (bn 0), .ref a0])), (t1, .inr (0, [.int (bn 1), .ref a1])), (t2, .inr (0, [.int x9.2.2.1, .ref a2])), (a0, .inl (T 0, 12, .inl (bf 0))), (a1, .inl (T 0, 12, .inl x9.2.2.2.1)), (a2, .inl (T 0, 12, .inl x9.2.2.2.2))] H ∧ va_D A [(h0, .inr (9, fs0)), (h1, .inl (T 5, 3, .inr (.inr (.inr (.inr (va_up (va_up (va_up (fun _ => none) 0 (some t0)) 1 (some t1)) 2 (some t2))))))), (h2, .inr (1, fs2)), (h4, .inl (T 0, 24, .inl fk)), (t0, .inr (0, [.int (bn 0), .ref a0])), (t1, .inr (0, [.int (bn 1), .ref a1])), (t2, .inr (0, [.int x9.2.2.1, .ref a2])), (a0, .inl (T 0, 12, .inl (bf 0))), (a1, .inl (T 0, 12, .inl x9.2.2.2.1)), (a2, .inl (T 0, 12, .inl x9.2.2.2.2))] ∧ va_S A s.heap H locs ∧ (((0 ≤ x9.2.1.toInt ∧ x9.2.1.toInt ≤ x9.1.toInt ∧ x9.1.toInt ≤ (bn 1).toInt) ∧ 0 ≤ x9.2.2.1.toInt ∧ x9.2.2.1.toInt ≤ 12) ∧ x9.2.1.toInt = (pourF (prP x3 n9 fk) (bf 1) (bf 2) ((bn 2).toNatClampNeg) (x9.1.toNatClampNeg)).1 ∧ x9.2.2.2.1 = (pourF (prP x3 n9 fk) (bf 1) (bf 2) ((bn 2).toNatClampNeg) (x9.1.toNatClampNeg)).2.1 ∧ x9.2.2.1.toInt = (pourF (prP x3 n9 fk) (bf 1) (bf 2) ((bn 2).toNatClampNeg) (x9.1.toNatClampNeg)).2.2.1 ∧ x9.2.2.2.2 = (pourF (prP x3 n9 fk) (bf 1) (bf 2) ((bn 2).toNatClampNeg) (x9.1.toNatClampNeg)).2.2.2)) (fun x9 => (12 - x9.1.toInt).toNat) (fun x9 ls H locs hI ih => ?_) (0, 0, (bn 2), (bf 1), (bf 2)) ls ⟨lv_sub hl [0, 1, 2, 3, 4, 5, 6, 7] rfl, hP.sub [0, 1, 2, 3, 4, 5, 6, 7, 8, 9] rfl, hD.sub [0, 1, 2, 3, 4, 5, 6, 7, 8, 9] (by decide +kernel) rfl, hS, ⟨(by (try dsimp only); simp only [ti_0]; omega), (by (try dsimp only); rw [tn0']; rfl), (by (try dsimp only); rw [tn0']; rfl), (by (try dsimp only); rw [tn0']; exact (tn (by omega)).symm), (by (try dsimp only); rw [tn0']; rfl)⟩⟩
              obtain ⟨ii, le, qq, g1, g2⟩ := x9
              obtain ⟨hl, hP, hD, hS, hinv⟩ := hI
              have hl : lv_has ls 10 [(7, .int ii), (6, .int le), (5, .int (bn 1)), (4, .ref t1), (0, .ref h0), (1, .int 1), (2, .int 2), (3, .int x3)] := hl
              have hP : va_P D vwCl [(h0, .inr (9, fs0)), (h1, .inl (T 5, 3, .inr (.inr (.inr (.inr (va_up (va_up (va_up (fun _ => none) 0 (some t0)) 1 (some t1)) 2 (some t2))))))), (h2, .inr (1, fs2)), (h4, .inl (T 0, 24, .inl fk)), (t0, .inr (0, [.int (bn 0), .ref a0])), (t1, .inr (0, [.int (bn 1), .ref a1])), (t2, .inr (0, [.int qq, .ref a2])), (a0, .inl (T 0, 12, .inl (bf 0))), (a1, .inl (T 0, 12, .inl g1)), (a2, .inl (T 0, 12, .inl g2))] H := hP
              have hD : va_D A [(h0, .inr (9, fs0)), (h1, .inl (T 5, 3, .inr (.inr (.inr (.inr (va_up (va_up (va_up (fun _ => none) 0 (some t0)) 1 (some t1)) 2 (some t2))))))), (h2, .inr (1, fs2)), (h4, .inl (T 0, 24, .inl fk)), (t0, .inr (0, [.int (bn 0), .ref a0])), (t1, .inr (0, [.int (bn 1), .ref a1])), (t2, .inr (0, [.int qq, .ref a2])), (a0, .inl (T 0, 12, .inl (bf 0))), (a1, .inl (T 0, 12, .inl g1)), (a2, .inl (T 0, 12, .inl g2))] := hD
              have hinv : ((0 ≤ le.toInt ∧ le.toInt ≤ ii.toInt ∧ ii.toInt ≤ (bn 1).toInt) ∧ 0 ≤ qq.toInt ∧ qq.toInt ≤ 12) ∧ le.toInt = (pourF (prP x3 n9 fk) (bf 1) (bf 2) ((bn 2).toNatClampNeg) (ii.toNatClampNeg)).1 ∧ g1 = (pourF (prP x3 n9 fk) (bf 1) (bf 2) ((bn 2).toNatClampNeg) (ii.toNatClampNeg)).2.1 ∧ qq.toInt = (pourF (prP x3 n9 fk) (bf 1) (bf 2) ((bn 2).toNatClampNeg) (ii.toNatClampNeg)).2.2.1 ∧ g2 = (pourF (prP x3 n9 fk) (bf 1) (bf 2) ((bn 2).toNatClampNeg) (ii.toNatClampNeg)).2.2.2 := hinv
              obtain ⟨hinv, hp1, hp2, hp3, hp4⟩ := hinv
              refine lv_iload hx hb dX12_pour_57 (lv_at hl 0 rfl) ?_
              refine lv_iload hx hb dX12_pour_59 (lv_at hl 2 rfl) ?_
              refine lv_icmp_ge (tgt := 153) hx hb dX12_pour_61 (by decide +kernel) (fun c_90 => ?_) (fun c_90 => ?_)
              · rw [fa_le] at c_90
                have e9 : ii = (bn 1) := Int32.toInt_inj.1 (by omega)
                rw [e9] at hp1 hp2 hp3 hp4
                refine lv_aload hx hb dX12_pour_153 (lv_at hl 3 rfl) ?_
                refine lv_iload hx hb dX12_pour_155 (lv_at hl 1 rfl) ?_
                refine va_put (D := D) (ci := 0) (v := .int le) (ty := .int) (C := RX1) (T := TX1) (N := 2) hx hb hts in_X12_pour_X1 tyX1 tyX1_ok nmX1 hown hE.1 hP hD hS 5 rfl rfl 0 (by decide +kernel) (hts (.fieldLink RX12 307 "ClauseBook$Bag" "size" "I") (List.mem_of_getElem? (i := 2) rfl)) (fun _ h9 => h9) rfl (by decide +kernel) rfl rfl (Nat.le_of_ble_eq_true rfl) dX12_pour_157 (fun H locs hP hD hS => ?_)
                obtain ⟨hP, hD⟩ := wPD [(h0, .inr (9, fs0)), (h1, .inl (T 5, 3, .inr (.inr (.inr (.inr (va_up (va_up (va_up (fun _ => none) 0 (some t0)) 1 (some t1)) 2 (some t2))))))), (h2, .inr (1, fs2)), (h4, .inl (T 0, 24, .inl fk)), (t0, .inr (0, [.int (bn 0), .ref a0])), (t1, .inr (0, [.int le, .ref a1])), (t2, .inr (0, [.int qq, .ref a2])), (a0, .inl (T 0, 12, .inl (bf 0))), (a1, .inl (T 0, 12, .inl g1)), (a2, .inl (T 0, 12, .inl g2))] hP hD rfl
                refine lv_iload hx hb dX12_pour_160 (lv_at hl 2 rfl) ?_
                refine lv_iload hx hb dX12_pour_162 (lv_at hl 1 rfl) ?_
                refine lv_isub hx hb dX12_pour_164 ?_
                exact W.iret hx hb hr (fun t ht hW => ⟨⟨_, ((fun k => [(bn 0), le, qq].getD k 0), (fun k => [(bf 0), g1, g2].getD k (bf 0))), rfl, ⟨(show 0 ≤ ((bn 0)).toInt ∧ ((bn 0)).toInt ≤ 12 from by (try subst_vars); first | omega | (rw [dec1 (by omega)]; omega)), (show 0 ≤ (le).toInt ∧ (le).toInt ≤ 12 from by (try subst_vars); first | omega | (rw [dec1 (by omega)]; omega)), (show 0 ≤ (qq).toInt ∧ (qq).toInt ≤ 12 from by (try subst_vars); first | omega | (rw [dec1 (by omega)]; omega)), (Or.inr ⟨⟨⟨⟨by decide, by decide⟩, by decide, by decide⟩, by decide, by omega⟩, _, rfl, (show (((bn 1) - le) : Int32).toInt = (bn 1).toInt - (((pourF (prP x3 n9 fk) (bf 1) (bf 2) ((bn 2).toNatClampNeg) ((bn 1).toNatClampNeg)).1 : Nat) : Int) from by have h8 := hp1; rw [fb_subI (by omega) (by omega)]; omega), all3 ⟨(fun h9 => absurd h9 (by decide +kernel)), (fun h9 => absurd h9 (by decide +kernel)), (fun _ _ => ⟨rfl, rfl⟩)⟩ ⟨(fun _ => ⟨hp1, hp2⟩), (fun h9 => absurd h9 (by decide +kernel)), (fun h9 => absurd (by decide +kernel) h9)⟩ ⟨(fun h9 => absurd h9 (by decide +kernel)), (fun _ => ⟨hp3, hp4⟩), (fun _ h9 => absurd (by decide +kernel) h9)⟩⟩)⟩, by rw [ht]; exact hP.sub [0, 1, 2, 3, 4, 5, 6, 7, 8, 9] rfl, hD.sub [0, 1, 2, 3, 4, 5, 6, 7, 8, 9] (by decide +kernel) rfl⟩, hS.F ht⟩) hS.2.2 dX12_pour_165
              · rw [fa_le] at c_90
                refine lv_aload hx hb dX12_pour_64 (lv_at hl 3 rfl) ?_
                refine va_get (D := D) (ci := 0) (v := .ref a1) (C := RX1) (T := TX1) (N := 2) hx hb hts in_X12_pour_X1 hown hE.1 hP 5 rfl rfl 1 (by decide +kernel) (hts (.fieldLink RX12 308 "ClauseBook$Bag" "numbers" "[I") (List.mem_of_getElem? (i := 3) rfl)) (fun _ h9 => h9) rfl dX12_pour_66 ?_
                refine lv_iload hx hb dX12_pour_69 (lv_at hl 0 rfl) ?_
                refine va_iald hx hb hE.1 hP 8 0 rfl rfl (by rw [vp_in_iff]; first | omega | (subst_vars; rw [dec1 (by omega)]; omega) | (subst_vars; rw [inc1 (n := 1000) (by omega) (by decide +kernel)]; omega)) dX12_pour_71 ?_
                refine lv_topi (fun z_91 ez_91 => ?_)
                have hzF : z_91 = (bf 1) (ii.toNatClampNeg) := by rw [ez_91, hp2]; exact pourF_keep _ _ (by have h8 := tn (x := ii) (by omega); omega)
                refine lv_istore (lv' := [(8, .int z_91), (7, .int ii), (6, .int le), (5, .int (bn 1)), (4, .ref t1), (0, .ref h0), (1, .int 1), (2, .int 2), (3, .int x3)]) hx hb dX12_pour_72 hl (by decide +kernel) rfl (fun ls hl => ?_)
                refine lv_iload_n hx hb dX12_pour_74 rfl (lv_at hl 8 rfl) ?_
                refine lv_iconst (v := (-1)) hx hb dX12_pour_75 (by decide +kernel) ?_
                refine lv_icmp_eq (tgt := 105) hx hb dX12_pour_76 (by decide +kernel) (fun c_92 => ?_) (fun c_92 => ?_)
                · rw [fa_eq] at c_92
                  try rw [ti_n1] at c_92
                  refine lv_iconst (v := 1) hx hb dX12_pour_105 (by decide +kernel) ?_
                  refine lv_goto (tgt := 110) hx hb dX12_pour_106 (by decide +kernel) ?_
                  refine lv_istore (lv' := [(9, .int 1), (8, .int z_91), (7, .int ii), (6, .int le), (5, .int (bn 1)), (4, .ref t1), (0, .ref h0), (1, .int 1), (2, .int 2), (3, .int x3)]) hx hb dX12_pour_110 hl (by decide +kernel) rfl (fun ls hl => ?_)
                  have hM : prP x3 n9 fk z_91 = true := decide_eq_true (by first | exact Or.inl (by omega) | exact Or.inr ⟨(by omega), (by rw [← ez_76]; omega)⟩)
                  refine lv_iload hx hb dX12_pour_112 (lv_at hl 0 rfl) ?_
                  refine lv_if_eq (tgt := 134) hx hb dX12_pour_114 (by decide +kernel) (fun c9 => absurd c9 (by decide +kernel)) (fun _ => ?_)
                  refine lv_aload_n hx hb dX12_pour_117 rfl (lv_at hl 6 rfl) ?_
                  refine va_get (D := D) (ci := 9) (v := .ref h1) (C := RX12) (T := TX12) (N := 11) hx hb hts in_X12_pour_X12 hown hE.1 hP 0 rfl rfl 5 (by decide +kernel) (hts (.fieldLink RX12 37 "ClauseBook" "bags" "[LClauseBook$Bag;") (List.mem_of_getElem? (i := 1) rfl)) (fun _ h9 => h9) e0_5 dX12_pour_118 ?_
                  refine lv_iload_n hx hb dX12_pour_121 rfl (lv_at hl 8 rfl) ?_
                  refine va_aldq hx hb hE.1 hP 1 5 rfl rfl (by unfold vp_in; decide) dX12_pour_122 ?_
                  refine W.eq (g2 := F0 m 123 ls [.ref t2]) rfl ?_
                  refine lv_iload hx hb dX12_pour_123 (lv_at hl 1 rfl) ?_
                  have hFc := va_free (wc := [(t2, .inr (0, [.int qq, .ref a2])), (a2, .inl (T 0, 12, .inl g2))]) hD hS hA [6, 9] rfl
                  refine va_calli (va_runV (As := [.int z_91]) (rest := []) ⟨hx, hb, hml, hown, hts⟩ (c_X1_append l D T _ t2 qq a2 g2 z_91 (by omega)) (cwV 1 hts gX12_pour_X1_append rfl rfl rfl hv_X1_append ⟨Nat.le_of_ble_eq_true rfl, Nat.le_of_ble_eq_true rfl⟩) (pW_V (q := (RX1, TX1, 2)) (ci := 0) (q0 := 6) hP hE hD rfl rfl [6, 9] (by decide +kernel) rfl rfl) rfl rfl hl.1 rfl (lv_room (Nat.le_of_ble_eq_true rfl)) dX12_pour_125 ⟨Nat.le_of_ble_eq_true rfl, Nat.le_of_ble_eq_true rfl⟩) hS (fun q _ h => hFc q h) hFc (fun r_93 u_94 t H1 locs ht hvm hr_93 hB hz1 hk1 hS => ?_)
                  obtain ⟨n_95, f_96⟩ := u_94
                  have hinn_95 : 0 ≤ n_95.toInt ∧ n_95.toInt ≤ 12 := hr_93.2.1
                  have hap : ((qq).toInt < 12 → n_95.toInt = (qq).toInt + 1 ∧ f_96 = upd g2 ((qq).toNatClampNeg) z_91) ∧ (¬ (qq).toInt < 12 → n_95 = qq ∧ f_96 = g2) := hr_93.2.2
                  have hbo : r_93 = if (qq).toInt < 12 then 1 else 0 := hr_93.1
                  obtain ⟨hP1, hD1⟩ := hB
                  rw [ht] at hP1
                  obtain ⟨hP, hD⟩ := va_repl [(h0, .inr (9, fs0)), (h1, .inl (T 5, 3, .inr (.inr (.inr (.inr (va_up (va_up (va_up (fun _ => none) 0 (some t0)) 1 (some t1)) 2 (some t2))))))), (h2, .inr (1, fs2)), (h4, .inl (T 0, 24, .inl fk)), (t0, .inr (0, [.int (bn 0), .ref a0])), (t1, .inr (0, [.int (bn 1), .ref a1])), (t2, .inr (0, [.int n_95, .ref a2])), (a0, .inl (T 0, 12, .inl (bf 0))), (a1, .inl (T 0, 12, .inl g1)), (a2, .inl (T 0, 12, .inl f_96))] hP hD [6, 9] [6, 9] rfl (by decide +kernel) rfl rfl rfl hk1 hP1
                  clear hP1 hD1 hFc
                  generalize H1 = H at hP hS ⊢
                  rcases bool_post hbo with ⟨c_97, rfl⟩ | ⟨c_97, rfl⟩
                  · refine lv_if_eq (tgt := 134) hx hb dX12_pour_128 (by decide +kernel) (fun c9 => absurd c9 (by decide +kernel)) (fun _ => ?_)
                    refine lv_goto (tgt := 147) hx hb dX12_pour_131 (by decide +kernel) ?_
                    obtain ⟨z_98, ez_98⟩ : ∃ y : Int32, y = ii + 1 := ⟨_, rfl⟩
                    refine lv_iinc (v := z_98) (lv' := [(7, .int z_98), (9, .int 1), (8, .int z_91), (6, .int le), (5, .int (bn 1)), (4, .ref t1), (0, .ref h0), (1, .int 1), (2, .int 2), (3, .int x3)]) hx hb dX12_pour_147 hl (k := 2) rfl (by rw [ez_98]; rfl) (by decide +kernel) rfl (fun ls hl => ?_)
                    have hi9 : z_98.toInt = ii.toInt + 1 := by rw [ez_98]; exact inc1 (n := 1000) (by omega) (by decide +kernel)
                    refine lv_goto (tgt := 57) hx hb dX12_pour_150 (by decide +kernel) ?_
                    exact ih (z_98, le, n_95, g1, f_96) ls _ _ ⟨lv_sub hl [0, 3, 4, 5, 6, 7, 8, 9] rfl, hP.sub [0, 1, 2, 3, 4, 5, 6, 7, 8, 9] rfl, hD.sub [0, 1, 2, 3, 4, 5, 6, 7, 8, 9] (by decide +kernel) rfl, hS, ⟨(by (try dsimp only); omega), (by (try dsimp only); exact pour_stepY (by omega) hi9 hp1 hp2 hp3 hp4 hzF hM (by omega) (hap.1 (by omega)).1 (hap.1 (by omega)).2)⟩⟩ (by (try dsimp only); omega)
                  · refine lv_if_eq (tgt := 134) hx hb dX12_pour_128 (by decide +kernel) (fun _ => ?_) (fun c9 => absurd c9 (by decide +kernel))
                    refine lv_aload hx hb dX12_pour_134 (lv_at hl 5 rfl) ?_
                    refine va_get (D := D) (ci := 0) (v := .ref a1) (C := RX1) (T := TX1) (N := 2) hx hb hts in_X12_pour_X1 hown hE.1 hP 5 rfl rfl 1 (by decide +kernel) (hts (.fieldLink RX12 308 "ClauseBook$Bag" "numbers" "[I") (List.mem_of_getElem? (i := 3) rfl)) (fun _ h9 => h9) rfl dX12_pour_136 ?_
                    refine lv_iload hx hb dX12_pour_139 (lv_at hl 3 rfl) ?_
                    refine lv_iload hx hb dX12_pour_141 (lv_at hl 1 rfl) ?_
                    refine va_iast hx hb hE.1 hP hD hS 8 0 rfl rfl (by rw [vp_in_iff]; first | omega | (subst_vars; rw [dec1 (by omega)]; omega) | (subst_vars; rw [inc1 (n := 1000) (by omega) (by decide +kernel)]; omega)) dX12_pour_143 (fun H locs hP hD hS => ?_)
                    obtain ⟨hP, hD⟩ := wPD [(h0, .inr (9, fs0)), (h1, .inl (T 5, 3, .inr (.inr (.inr (.inr (va_up (va_up (va_up (fun _ => none) 0 (some t0)) 1 (some t1)) 2 (some t2))))))), (h2, .inr (1, fs2)), (h4, .inl (T 0, 24, .inl fk)), (t0, .inr (0, [.int (bn 0), .ref a0])), (t1, .inr (0, [.int (bn 1), .ref a1])), (t2, .inr (0, [.int n_95, .ref a2])), (a0, .inl (T 0, 12, .inl (bf 0))), (a1, .inl (T 0, 12, .inl (upd g1 (le.toNatClampNeg) z_91))), (a2, .inl (T 0, 12, .inl f_96))] hP hD rfl
                    obtain ⟨z_99, ez_99⟩ : ∃ y : Int32, y = le + 1 := ⟨_, rfl⟩
                    refine lv_iinc (v := z_99) (lv' := [(6, .int z_99), (9, .int 1), (8, .int z_91), (7, .int ii), (5, .int (bn 1)), (4, .ref t1), (0, .ref h0), (1, .int 1), (2, .int 2), (3, .int x3)]) hx hb dX12_pour_144 hl (k := 3) rfl (by rw [ez_99]; rfl) (by decide +kernel) rfl (fun ls hl => ?_)
                    obtain ⟨z_100, ez_100⟩ : ∃ y : Int32, y = ii + 1 := ⟨_, rfl⟩
                    refine lv_iinc (v := z_100) (lv' := [(7, .int z_100), (6, .int z_99), (9, .int 1), (8, .int z_91), (5, .int (bn 1)), (4, .ref t1), (0, .ref h0), (1, .int 1), (2, .int 2), (3, .int x3)]) hx hb dX12_pour_147 hl (k := 3) rfl (by rw [ez_100]; rfl) (by decide +kernel) rfl (fun ls hl => ?_)
                    have hi9 : z_100.toInt = ii.toInt + 1 := by rw [ez_100]; exact inc1 (n := 1000) (by omega) (by decide +kernel)
                    have hl9 : z_99.toInt = le.toInt + 1 := by rw [ez_99]; exact inc1 (n := 1000) (by omega) (by decide +kernel)
                    refine lv_goto (tgt := 57) hx hb dX12_pour_150 (by decide +kernel) ?_
                    exact ih (z_100, z_99, n_95, (upd g1 (le.toNatClampNeg) z_91), f_96) ls _ _ ⟨lv_sub hl [0, 1, 4, 5, 6, 7, 8, 9] rfl, hP.sub [0, 1, 2, 3, 4, 5, 6, 7, 8, 9] rfl, hD.sub [0, 1, 2, 3, 4, 5, 6, 7, 8, 9] (by decide +kernel) rfl, hS, ⟨(by (try dsimp only); omega), (by (try dsimp only); exact pour_stepN (by omega) (by omega) hi9 hp1 hp2 hp3 hp4 hzF (fun h9 => by first | exact hM h9.1 | omega) hl9 rfl (by rw [(hap.2 (by omega)).1]) (hap.2 (by omega)).2)⟩⟩ (by (try dsimp only); omega)
                · rw [fa_eq] at c_92
                  try rw [ti_n1] at c_92
                  refine lv_aload_n hx hb dX12_pour_79 rfl (lv_at hl 5 rfl) ?_
                  refine va_get (D := D) (ci := 9) (v := .ref h2) (C := RX12) (T := TX12) (N := 11) hx hb hts in_X12_pour_X12 hown hE.1 hP 0 rfl rfl 4 (by decide +kernel) (hts (.fieldLink RX12 32 "ClauseBook" "clauses" "LClauseBook$Clauses;") (List.mem_of_getElem? (i := 4) rfl)) (fun _ h9 => h9) e0_4 dX12_pour_80 ?_
                  refine lv_iload hx hb dX12_pour_83 (lv_at hl 0 rfl) ?_
                  refine vp_callSi (W.runV (As := [.int z_91]) (rest := []) ⟨hx, hb, hml, hown, hts⟩ (c_X2_has l D T h2 fs2 z_91 n9 e2_0 (by omega)) (cwV 1 hts gX12_pour_X2_has rfl rfl rfl hv_X2_has ⟨Nat.le_of_ble_eq_true rfl, Nat.le_of_ble_eq_true rfl⟩) (pR_V (q := (RX2, TX2, 8)) (ci := 1) (q0 := 2) hP hE rfl rfl [2] rfl) rfl rfl hl.1 rfl (lv_room (Nat.le_of_ble_eq_true rfl)) dX12_pour_85 ⟨Nat.le_of_ble_eq_true rfl, Nat.le_of_ble_eq_true rfl⟩) (fun r_101 hr_101 => ?_)
                  rcases bool_post hr_101 with ⟨c_102, rfl⟩ | ⟨c_102, rfl⟩
                  · refine lv_if_eq (tgt := 109) hx hb dX12_pour_88 (by decide +kernel) (fun c9 => absurd c9 (by decide +kernel)) (fun _ => ?_)
                    refine lv_aload_n hx hb dX12_pour_91 rfl (lv_at hl 5 rfl) ?_
                    refine va_get (D := D) (ci := 9) (v := .ref h2) (C := RX12) (T := TX12) (N := 11) hx hb hts in_X12_pour_X12 hown hE.1 hP 0 rfl rfl 4 (by decide +kernel) (hts (.fieldLink RX12 32 "ClauseBook" "clauses" "LClauseBook$Clauses;") (List.mem_of_getElem? (i := 4) rfl)) (fun _ h9 => h9) e0_4 dX12_pour_92 ?_
                    refine va_get (D := D) (ci := 1) (v := .ref h4) (C := RX2) (T := TX2) (N := 8) hx hb hts in_X12_pour_X2 hown hE.1 hP 2 rfl rfl 1 (by decide +kernel) (hts (.fieldLink RX12 153 "ClauseBook$Clauses" "kind" "[I") (List.mem_of_getElem? (i := 5) rfl)) (fun _ h9 => h9) e2_1 dX12_pour_95 ?_
                    refine lv_iload hx hb dX12_pour_98 (lv_at hl 0 rfl) ?_
                    refine va_iald hx hb hE.1 hP 3 0 rfl rfl (by rw [vp_in_iff]; first | omega | (subst_vars; rw [dec1 (by omega)]; omega) | (subst_vars; rw [inc1 (n := 1000) (by omega) (by decide +kernel)]; omega)) dX12_pour_100 ?_
                    refine lv_topi (fun z_103 ez_103 => ?_)
                    refine lv_iload_n hx hb dX12_pour_101 rfl (lv_at hl 8 rfl) ?_
                    refine lv_icmp_ne (tgt := 109) hx hb dX12_pour_102 (by decide +kernel) (fun c_104 => ?_) (fun c_104 => ?_)
                    · rw [fa_eq] at c_104
                      refine lv_iconst (v := 0) hx hb dX12_pour_109 (by decide +kernel) ?_
                      refine lv_istore (lv' := [(9, .int 0), (8, .int z_91), (7, .int ii), (6, .int le), (5, .int (bn 1)), (4, .ref t1), (0, .ref h0), (1, .int 1), (2, .int 2), (3, .int x3)]) hx hb dX12_pour_110 hl (by decide +kernel) rfl (fun ls hl => ?_)
                      have hM : ¬ prP x3 n9 fk z_91 = true := fun h9 => by rcases of_decide_eq_true h9 with h8 | ⟨h8, h7⟩ <;> first | omega | (rw [← ez_103] at h7; omega)
                      refine lv_iload hx hb dX12_pour_112 (lv_at hl 0 rfl) ?_
                      refine lv_if_eq (tgt := 134) hx hb dX12_pour_114 (by decide +kernel) (fun _ => ?_) (fun c9 => absurd c9 (by decide +kernel))
                      refine lv_aload hx hb dX12_pour_134 (lv_at hl 5 rfl) ?_
                      refine va_get (D := D) (ci := 0) (v := .ref a1) (C := RX1) (T := TX1) (N := 2) hx hb hts in_X12_pour_X1 hown hE.1 hP 5 rfl rfl 1 (by decide +kernel) (hts (.fieldLink RX12 308 "ClauseBook$Bag" "numbers" "[I") (List.mem_of_getElem? (i := 3) rfl)) (fun _ h9 => h9) rfl dX12_pour_136 ?_
                      refine lv_iload hx hb dX12_pour_139 (lv_at hl 3 rfl) ?_
                      refine lv_iload hx hb dX12_pour_141 (lv_at hl 1 rfl) ?_
                      refine va_iast hx hb hE.1 hP hD hS 8 0 rfl rfl (by rw [vp_in_iff]; first | omega | (subst_vars; rw [dec1 (by omega)]; omega) | (subst_vars; rw [inc1 (n := 1000) (by omega) (by decide +kernel)]; omega)) dX12_pour_143 (fun H locs hP hD hS => ?_)
                      obtain ⟨hP, hD⟩ := wPD [(h0, .inr (9, fs0)), (h1, .inl (T 5, 3, .inr (.inr (.inr (.inr (va_up (va_up (va_up (fun _ => none) 0 (some t0)) 1 (some t1)) 2 (some t2))))))), (h2, .inr (1, fs2)), (h4, .inl (T 0, 24, .inl fk)), (t0, .inr (0, [.int (bn 0), .ref a0])), (t1, .inr (0, [.int (bn 1), .ref a1])), (t2, .inr (0, [.int qq, .ref a2])), (a0, .inl (T 0, 12, .inl (bf 0))), (a1, .inl (T 0, 12, .inl (upd g1 (le.toNatClampNeg) z_91))), (a2, .inl (T 0, 12, .inl g2))] hP hD rfl
                      obtain ⟨z_105, ez_105⟩ : ∃ y : Int32, y = le + 1 := ⟨_, rfl⟩
                      refine lv_iinc (v := z_105) (lv' := [(6, .int z_105), (9, .int 0), (8, .int z_91), (7, .int ii), (5, .int (bn 1)), (4, .ref t1), (0, .ref h0), (1, .int 1), (2, .int 2), (3, .int x3)]) hx hb dX12_pour_144 hl (k := 3) rfl (by rw [ez_105]; rfl) (by decide +kernel) rfl (fun ls hl => ?_)
                      obtain ⟨z_106, ez_106⟩ : ∃ y : Int32, y = ii + 1 := ⟨_, rfl⟩
                      refine lv_iinc (v := z_106) (lv' := [(7, .int z_106), (6, .int z_105), (9, .int 0), (8, .int z_91), (5, .int (bn 1)), (4, .ref t1), (0, .ref h0), (1, .int 1), (2, .int 2), (3, .int x3)]) hx hb dX12_pour_147 hl (k := 3) rfl (by rw [ez_106]; rfl) (by decide +kernel) rfl (fun ls hl => ?_)
                      have hi9 : z_106.toInt = ii.toInt + 1 := by rw [ez_106]; exact inc1 (n := 1000) (by omega) (by decide +kernel)
                      have hl9 : z_105.toInt = le.toInt + 1 := by rw [ez_105]; exact inc1 (n := 1000) (by omega) (by decide +kernel)
                      refine lv_goto (tgt := 57) hx hb dX12_pour_150 (by decide +kernel) ?_
                      exact ih (z_106, z_105, qq, (upd g1 (le.toNatClampNeg) z_91), g2) ls _ _ ⟨lv_sub hl [0, 1, 4, 5, 6, 7, 8, 9] rfl, hP.sub [0, 1, 2, 3, 4, 5, 6, 7, 8, 9] rfl, hD.sub [0, 1, 2, 3, 4, 5, 6, 7, 8, 9] (by decide +kernel) rfl, hS, ⟨(by (try dsimp only); omega), (by (try dsimp only); exact pour_stepN (by omega) (by omega) hi9 hp1 hp2 hp3 hp4 hzF (fun h9 => by first | exact hM h9.1 | omega) hl9 rfl rfl rfl)⟩⟩ (by (try dsimp only); omega)
                    · rw [fa_eq] at c_104
                      refine lv_iconst (v := 1) hx hb dX12_pour_105 (by decide +kernel) ?_
                      refine lv_goto (tgt := 110) hx hb dX12_pour_106 (by decide +kernel) ?_
                      refine lv_istore (lv' := [(9, .int 1), (8, .int z_91), (7, .int ii), (6, .int le), (5, .int (bn 1)), (4, .ref t1), (0, .ref h0), (1, .int 1), (2, .int 2), (3, .int x3)]) hx hb dX12_pour_110 hl (by decide +kernel) rfl (fun ls hl => ?_)
                      have hM : prP x3 n9 fk z_91 = true := decide_eq_true (by first | exact Or.inl (by omega) | exact Or.inr ⟨(by omega), (by rw [← ez_103]; omega)⟩)
                      refine lv_iload hx hb dX12_pour_112 (lv_at hl 0 rfl) ?_
                      refine lv_if_eq (tgt := 134) hx hb dX12_pour_114 (by decide +kernel) (fun c9 => absurd c9 (by decide +kernel)) (fun _ => ?_)
                      refine lv_aload_n hx hb dX12_pour_117 rfl (lv_at hl 6 rfl) ?_
                      refine va_get (D := D) (ci := 9) (v := .ref h1) (C := RX12) (T := TX12) (N := 11) hx hb hts in_X12_pour_X12 hown hE.1 hP 0 rfl rfl 5 (by decide +kernel) (hts (.fieldLink RX12 37 "ClauseBook" "bags" "[LClauseBook$Bag;") (List.mem_of_getElem? (i := 1) rfl)) (fun _ h9 => h9) e0_5 dX12_pour_118 ?_
                      refine lv_iload_n hx hb dX12_pour_121 rfl (lv_at hl 8 rfl) ?_
                      refine va_aldq hx hb hE.1 hP 1 5 rfl rfl (by unfold vp_in; decide) dX12_pour_122 ?_
                      refine W.eq (g2 := F0 m 123 ls [.ref t2]) rfl ?_
                      refine lv_iload hx hb dX12_pour_123 (lv_at hl 1 rfl) ?_
                      have hFc := va_free (wc := [(t2, .inr (0, [.int qq, .ref a2])), (a2, .inl (T 0, 12, .inl g2))]) hD hS hA [6, 9] rfl
                      refine va_calli (va_runV (As := [.int z_91]) (rest := []) ⟨hx, hb, hml, hown, hts⟩ (c_X1_append l D T _ t2 qq a2 g2 z_91 (by omega)) (cwV 1 hts gX12_pour_X1_append rfl rfl rfl hv_X1_append ⟨Nat.le_of_ble_eq_true rfl, Nat.le_of_ble_eq_true rfl⟩) (pW_V (q := (RX1, TX1, 2)) (ci := 0) (q0 := 6) hP hE hD rfl rfl [6, 9] (by decide +kernel) rfl rfl) rfl rfl hl.1 rfl (lv_room (Nat.le_of_ble_eq_true rfl)) dX12_pour_125 ⟨Nat.le_of_ble_eq_true rfl, Nat.le_of_ble_eq_true rfl⟩) hS (fun q _ h => hFc q h) hFc (fun r_107 u_108 t H1 locs ht hvm hr_107 hB hz1 hk1 hS => ?_)
                      obtain ⟨n_109, f_110⟩ := u_108
                      have hinn_109 : 0 ≤ n_109.toInt ∧ n_109.toInt ≤ 12 := hr_107.2.1
                      have hap : ((qq).toInt < 12 → n_109.toInt = (qq).toInt + 1 ∧ f_110 = upd g2 ((qq).toNatClampNeg) z_91) ∧ (¬ (qq).toInt < 12 → n_109 = qq ∧ f_110 = g2) := hr_107.2.2
                      have hbo : r_107 = if (qq).toInt < 12 then 1 else 0 := hr_107.1
                      obtain ⟨hP1, hD1⟩ := hB
                      rw [ht] at hP1
                      obtain ⟨hP, hD⟩ := va_repl [(h0, .inr (9, fs0)), (h1, .inl (T 5, 3, .inr (.inr (.inr (.inr (va_up (va_up (va_up (fun _ => none) 0 (some t0)) 1 (some t1)) 2 (some t2))))))), (h2, .inr (1, fs2)), (h4, .inl (T 0, 24, .inl fk)), (t0, .inr (0, [.int (bn 0), .ref a0])), (t1, .inr (0, [.int (bn 1), .ref a1])), (t2, .inr (0, [.int n_109, .ref a2])), (a0, .inl (T 0, 12, .inl (bf 0))), (a1, .inl (T 0, 12, .inl g1)), (a2, .inl (T 0, 12, .inl f_110))] hP hD [6, 9] [6, 9] rfl (by decide +kernel) rfl rfl rfl hk1 hP1
                      clear hP1 hD1 hFc
                      generalize H1 = H at hP hS ⊢
                      rcases bool_post hbo with ⟨c_111, rfl⟩ | ⟨c_111, rfl⟩
                      · refine lv_if_eq (tgt := 134) hx hb dX12_pour_128 (by decide +kernel) (fun c9 => absurd c9 (by decide +kernel)) (fun _ => ?_)
                        refine lv_goto (tgt := 147) hx hb dX12_pour_131 (by decide +kernel) ?_
                        obtain ⟨z_112, ez_112⟩ : ∃ y : Int32, y = ii + 1 := ⟨_, rfl⟩
                        refine lv_iinc (v := z_112) (lv' := [(7, .int z_112), (9, .int 1), (8, .int z_91), (6, .int le), (5, .int (bn 1)), (4, .ref t1), (0, .ref h0), (1, .int 1), (2, .int 2), (3, .int x3)]) hx hb dX12_pour_147 hl (k := 2) rfl (by rw [ez_112]; rfl) (by decide +kernel) rfl (fun ls hl => ?_)
                        have hi9 : z_112.toInt = ii.toInt + 1 := by rw [ez_112]; exact inc1 (n := 1000) (by omega) (by decide +kernel)
                        refine lv_goto (tgt := 57) hx hb dX12_pour_150 (by decide +kernel) ?_
                        exact ih (z_112, le, n_109, g1, f_110) ls _ _ ⟨lv_sub hl [0, 3, 4, 5, 6, 7, 8, 9] rfl, hP.sub [0, 1, 2, 3, 4, 5, 6, 7, 8, 9] rfl, hD.sub [0, 1, 2, 3, 4, 5, 6, 7, 8, 9] (by decide +kernel) rfl, hS, ⟨(by (try dsimp only); omega), (by (try dsimp only); exact pour_stepY (by omega) hi9 hp1 hp2 hp3 hp4 hzF hM (by omega) (hap.1 (by omega)).1 (hap.1 (by omega)).2)⟩⟩ (by (try dsimp only); omega)
                      · refine lv_if_eq (tgt := 134) hx hb dX12_pour_128 (by decide +kernel) (fun _ => ?_) (fun c9 => absurd c9 (by decide +kernel))
                        refine lv_aload hx hb dX12_pour_134 (lv_at hl 5 rfl) ?_
                        refine va_get (D := D) (ci := 0) (v := .ref a1) (C := RX1) (T := TX1) (N := 2) hx hb hts in_X12_pour_X1 hown hE.1 hP 5 rfl rfl 1 (by decide +kernel) (hts (.fieldLink RX12 308 "ClauseBook$Bag" "numbers" "[I") (List.mem_of_getElem? (i := 3) rfl)) (fun _ h9 => h9) rfl dX12_pour_136 ?_
                        refine lv_iload hx hb dX12_pour_139 (lv_at hl 3 rfl) ?_
                        refine lv_iload hx hb dX12_pour_141 (lv_at hl 1 rfl) ?_
                        refine va_iast hx hb hE.1 hP hD hS 8 0 rfl rfl (by rw [vp_in_iff]; first | omega | (subst_vars; rw [dec1 (by omega)]; omega) | (subst_vars; rw [inc1 (n := 1000) (by omega) (by decide +kernel)]; omega)) dX12_pour_143 (fun H locs hP hD hS => ?_)
                        obtain ⟨hP, hD⟩ := wPD [(h0, .inr (9, fs0)), (h1, .inl (T 5, 3, .inr (.inr (.inr (.inr (va_up (va_up (va_up (fun _ => none) 0 (some t0)) 1 (some t1)) 2 (some t2))))))), (h2, .inr (1, fs2)), (h4, .inl (T 0, 24, .inl fk)), (t0, .inr (0, [.int (bn 0), .ref a0])), (t1, .inr (0, [.int (bn 1), .ref a1])), (t2, .inr (0, [.int n_109, .ref a2])), (a0, .inl (T 0, 12, .inl (bf 0))), (a1, .inl (T 0, 12, .inl (upd g1 (le.toNatClampNeg) z_91))), (a2, .inl (T 0, 12, .inl f_110))] hP hD rfl
                        obtain ⟨z_113, ez_113⟩ : ∃ y : Int32, y = le + 1 := ⟨_, rfl⟩
                        refine lv_iinc (v := z_113) (lv' := [(6, .int z_113), (9, .int 1), (8, .int z_91), (7, .int ii), (5, .int (bn 1)), (4, .ref t1), (0, .ref h0), (1, .int 1), (2, .int 2), (3, .int x3)]) hx hb dX12_pour_144 hl (k := 3) rfl (by rw [ez_113]; rfl) (by decide +kernel) rfl (fun ls hl => ?_)
                        obtain ⟨z_114, ez_114⟩ : ∃ y : Int32, y = ii + 1 := ⟨_, rfl⟩
                        refine lv_iinc (v := z_114) (lv' := [(7, .int z_114), (6, .int z_113), (9, .int 1), (8, .int z_91), (5, .int (bn 1)), (4, .ref t1), (0, .ref h0), (1, .int 1), (2, .int 2), (3, .int x3)]) hx hb dX12_pour_147 hl (k := 3) rfl (by rw [ez_114]; rfl) (by decide +kernel) rfl (fun ls hl => ?_)
                        have hi9 : z_114.toInt = ii.toInt + 1 := by rw [ez_114]; exact inc1 (n := 1000) (by omega) (by decide +kernel)
                        have hl9 : z_113.toInt = le.toInt + 1 := by rw [ez_113]; exact inc1 (n := 1000) (by omega) (by decide +kernel)
                        refine lv_goto (tgt := 57) hx hb dX12_pour_150 (by decide +kernel) ?_
                        exact ih (z_114, z_113, n_109, (upd g1 (le.toNatClampNeg) z_91), f_110) ls _ _ ⟨lv_sub hl [0, 1, 4, 5, 6, 7, 8, 9] rfl, hP.sub [0, 1, 2, 3, 4, 5, 6, 7, 8, 9] rfl, hD.sub [0, 1, 2, 3, 4, 5, 6, 7, 8, 9] (by decide +kernel) rfl, hS, ⟨(by (try dsimp only); omega), (by (try dsimp only); exact pour_stepN (by omega) (by omega) hi9 hp1 hp2 hp3 hp4 hzF (fun h9 => by first | exact hM h9.1 | omega) hl9 rfl (by rw [(hap.2 (by omega)).1]) (hap.2 (by omega)).2)⟩⟩ (by (try dsimp only); omega)
                  · refine lv_if_eq (tgt := 109) hx hb dX12_pour_88 (by decide +kernel) (fun _ => ?_) (fun c9 => absurd c9 (by decide +kernel))
                    refine lv_iconst (v := 0) hx hb dX12_pour_109 (by decide +kernel) ?_
                    refine lv_istore (lv' := [(9, .int 0), (8, .int z_91), (7, .int ii), (6, .int le), (5, .int (bn 1)), (4, .ref t1), (0, .ref h0), (1, .int 1), (2, .int 2), (3, .int x3)]) hx hb dX12_pour_110 hl (by decide +kernel) rfl (fun ls hl => ?_)
                    have hM : ¬ prP x3 n9 fk z_91 = true := fun h9 => by rcases of_decide_eq_true h9 with h8 | ⟨h8, h7⟩ <;> first | omega | (rw [← ez_103] at h7; omega)
                    refine lv_iload hx hb dX12_pour_112 (lv_at hl 0 rfl) ?_
                    refine lv_if_eq (tgt := 134) hx hb dX12_pour_114 (by decide +kernel) (fun _ => ?_) (fun c9 => absurd c9 (by decide +kernel))
                    refine lv_aload hx hb dX12_pour_134 (lv_at hl 5 rfl) ?_
                    refine va_get (D := D) (ci := 0) (v := .ref a1) (C := RX1) (T := TX1) (N := 2) hx hb hts in_X12_pour_X1 hown hE.1 hP 5 rfl rfl 1 (by decide +kernel) (hts (.fieldLink RX12 308 "ClauseBook$Bag" "numbers" "[I") (List.mem_of_getElem? (i := 3) rfl)) (fun _ h9 => h9) rfl dX12_pour_136 ?_
                    refine lv_iload hx hb dX12_pour_139 (lv_at hl 3 rfl) ?_
                    refine lv_iload hx hb dX12_pour_141 (lv_at hl 1 rfl) ?_
                    refine va_iast hx hb hE.1 hP hD hS 8 0 rfl rfl (by rw [vp_in_iff]; first | omega | (subst_vars; rw [dec1 (by omega)]; omega) | (subst_vars; rw [inc1 (n := 1000) (by omega) (by decide +kernel)]; omega)) dX12_pour_143 (fun H locs hP hD hS => ?_)
                    obtain ⟨hP, hD⟩ := wPD [(h0, .inr (9, fs0)), (h1, .inl (T 5, 3, .inr (.inr (.inr (.inr (va_up (va_up (va_up (fun _ => none) 0 (some t0)) 1 (some t1)) 2 (some t2))))))), (h2, .inr (1, fs2)), (h4, .inl (T 0, 24, .inl fk)), (t0, .inr (0, [.int (bn 0), .ref a0])), (t1, .inr (0, [.int (bn 1), .ref a1])), (t2, .inr (0, [.int qq, .ref a2])), (a0, .inl (T 0, 12, .inl (bf 0))), (a1, .inl (T 0, 12, .inl (upd g1 (le.toNatClampNeg) z_91))), (a2, .inl (T 0, 12, .inl g2))] hP hD rfl
                    obtain ⟨z_115, ez_115⟩ : ∃ y : Int32, y = le + 1 := ⟨_, rfl⟩
                    refine lv_iinc (v := z_115) (lv' := [(6, .int z_115), (9, .int 0), (8, .int z_91), (7, .int ii), (5, .int (bn 1)), (4, .ref t1), (0, .ref h0), (1, .int 1), (2, .int 2), (3, .int x3)]) hx hb dX12_pour_144 hl (k := 3) rfl (by rw [ez_115]; rfl) (by decide +kernel) rfl (fun ls hl => ?_)
                    obtain ⟨z_116, ez_116⟩ : ∃ y : Int32, y = ii + 1 := ⟨_, rfl⟩
                    refine lv_iinc (v := z_116) (lv' := [(7, .int z_116), (6, .int z_115), (9, .int 0), (8, .int z_91), (5, .int (bn 1)), (4, .ref t1), (0, .ref h0), (1, .int 1), (2, .int 2), (3, .int x3)]) hx hb dX12_pour_147 hl (k := 3) rfl (by rw [ez_116]; rfl) (by decide +kernel) rfl (fun ls hl => ?_)
                    have hi9 : z_116.toInt = ii.toInt + 1 := by rw [ez_116]; exact inc1 (n := 1000) (by omega) (by decide +kernel)
                    have hl9 : z_115.toInt = le.toInt + 1 := by rw [ez_115]; exact inc1 (n := 1000) (by omega) (by decide +kernel)
                    refine lv_goto (tgt := 57) hx hb dX12_pour_150 (by decide +kernel) ?_
                    exact ih (z_116, z_115, qq, (upd g1 (le.toNatClampNeg) z_91), g2) ls _ _ ⟨lv_sub hl [0, 1, 4, 5, 6, 7, 8, 9] rfl, hP.sub [0, 1, 2, 3, 4, 5, 6, 7, 8, 9] rfl, hD.sub [0, 1, 2, 3, 4, 5, 6, 7, 8, 9] (by decide +kernel) rfl, hS, ⟨(by (try dsimp only); omega), (by (try dsimp only); exact pour_stepN (by omega) (by omega) hi9 hp1 hp2 hp3 hp4 hzF (fun h9 => by first | exact hM h9.1 | omega) hl9 rfl rfl rfl)⟩⟩ (by (try dsimp only); omega)
          · rcases in3 (x := x2) (by omega) with rfl | rfl | rfl
            · refine lv_aload_n hx hb dX12_pour_36 rfl (lv_at hl 0 rfl) ?_
              refine va_get (D := D) (ci := 9) (v := .ref h1) (C := RX12) (T := TX12) (N := 11) hx hb hts in_X12_pour_X12 hown hE.1 hP 0 rfl rfl 5 (by decide +kernel) (hts (.fieldLink RX12 37 "ClauseBook" "bags" "[LClauseBook$Bag;") (List.mem_of_getElem? (i := 1) rfl)) (fun _ h9 => h9) e0_5 dX12_pour_37 ?_
              refine lv_iload_n hx hb dX12_pour_40 rfl (lv_at hl 1 rfl) ?_
              refine va_aldq hx hb hE.1 hP 1 5 rfl rfl (by unfold vp_in; decide) dX12_pour_41 ?_
              refine W.eq (g2 := F0 m 42 ls [.ref t2]) rfl ?_
              refine lv_astore (lv' := [(4, .ref t2), (0, .ref h0), (1, .int 2), (2, .int 0), (3, .int x3)]) hx hb dX12_pour_42 hl (by decide +kernel) rfl (fun ls hl => ?_)
              refine lv_aload hx hb dX12_pour_44 (lv_at hl 0 rfl) ?_
              refine va_get (D := D) (ci := 0) (v := .int (bn 2)) (C := RX1) (T := TX1) (N := 2) hx hb hts in_X12_pour_X1 hown hE.1 hP 6 rfl rfl 0 (by decide +kernel) (hts (.fieldLink RX12 307 "ClauseBook$Bag" "size" "I") (List.mem_of_getElem? (i := 2) rfl)) (fun _ h9 => h9) rfl dX12_pour_46 ?_
              refine lv_istore (lv' := [(5, .int (bn 2)), (4, .ref t2), (0, .ref h0), (1, .int 2), (2, .int 0), (3, .int x3)]) hx hb dX12_pour_49 hl (by decide +kernel) rfl (fun ls hl => ?_)
              refine lv_iconst (v := 0) hx hb dX12_pour_51 (by decide +kernel) ?_
              refine lv_istore (lv' := [(6, .int 0), (5, .int (bn 2)), (4, .ref t2), (0, .ref h0), (1, .int 2), (2, .int 0), (3, .int x3)]) hx hb dX12_pour_52 hl (by decide +kernel) rfl (fun ls hl => ?_)
              refine lv_iconst (v := 0) hx hb dX12_pour_54 (by decide +kernel) ?_
              refine lv_istore (lv' := [(7, .int 0), (6, .int 0), (5, .int (bn 2)), (4, .ref t2), (0, .ref h0), (1, .int 2), (2, .int 0), (3, .int x3)]) hx hb dX12_pour_55 hl (by decide +kernel) rfl (fun ls hl => ?_)
              refine loopW (σ := (Int32) × (Int32) × (Int32) × (Nat → Int32) × (Nat → Int32)) (fun x9 ls H locs => lv_has ls 10 [(7, .int x9.1), (6, .int x9.2.1), (5, .int (bn 2)), (4, .ref t2), (0, .ref h0), (1, .int 2), (2, .int 0), (3, .int x3)] ∧ va_P D vwCl [(h0, .inr (9, fs0)), (h1, .inl (T 5, 3, .inr (.inr (.inr (.inr (va_up (va_up (va_up (fun _ => none) 0 (some t0)) 1 (some t1)) 2 (some t2))))))), (h2, .inr (1, fs2)), (h4, .inl (T 0, 24, .inl fk)), (t0, .inr (0, [.int x9.2.2.1, .ref a0])), (t1, .inr (0, [.int (bn 1), .ref a1])), (t2, .inr (0, [.int (bn 2), .ref a2])), (a0, .inl (T 0, 12, .inl x9.2.2.2.2)), (a1, .inl (T 0, 12, .inl (bf 1))), (a2, .inl (T 0, 12, .inl x9.2.2.2.1))] H ∧ va_D A [(h0, .inr (9, fs0)), (h1, .inl (T 5, 3, .inr (.inr (.inr (.inr (va_up (va_up (va_up (fun _ => none) 0 (some t0)) 1 (some t1)) 2 (some t2))))))), (h2, .inr (1, fs2)), (h4, .inl (T 0, 24, .inl fk)), (t0, .inr (0, [.int x9.2.2.1, .ref a0])), (t1, .inr (0, [.int (bn 1), .ref a1])), (t2, .inr (0, [.int (bn 2), .ref a2])), (a0, .inl (T 0, 12, .inl x9.2.2.2.2)), (a1, .inl (T 0, 12, .inl (bf 1))), (a2, .inl (T 0, 12, .inl x9.2.2.2.1))] ∧ va_S A s.heap H locs ∧ (((0 ≤ x9.2.1.toInt ∧ x9.2.1.toInt ≤ x9.1.toInt ∧ x9.1.toInt ≤ (bn 2).toInt) ∧ 0 ≤ x9.2.2.1.toInt ∧ x9.2.2.1.toInt ≤ 12) ∧ x9.2.1.toInt = (pourF (prP x3 n9 fk) (bf 2) (bf 0) ((bn 0).toNatClampNeg) (x9.1.toNatClampNeg)).1 ∧ x9.2.2.2.1 = (pourF (prP x3 n9 fk) (bf 2) (bf 0) ((bn 0).toNatClampNeg) (x9.1.toNatClampNeg)).2.1 ∧ x9.2.2.1.toInt = (pourF (prP x3 n9 fk) (bf 2) (bf 0) ((bn 0).toNatClampNeg) (x9.1.toNatClampNeg)).2.2.1 ∧ x9.2.2.2.2 = (pourF (prP x3 n9 fk) (bf 2) (bf 0) ((bn 0).toNatClampNeg) (x9.1.toNatClampNeg)).2.2.2)) (fun x9 => (12 - x9.1.toInt).toNat) (fun x9 ls H locs hI ih => ?_) (0, 0, (bn 0), (bf 2), (bf 0)) ls ⟨lv_sub hl [0, 1, 2, 3, 4, 5, 6, 7] rfl, hP.sub [0, 1, 2, 3, 4, 5, 6, 7, 8, 9] rfl, hD.sub [0, 1, 2, 3, 4, 5, 6, 7, 8, 9] (by decide +kernel) rfl, hS, ⟨(by (try dsimp only); simp only [ti_0]; omega), (by (try dsimp only); rw [tn0']; rfl), (by (try dsimp only); rw [tn0']; rfl), (by (try dsimp only); rw [tn0']; exact (tn (by omega)).symm), (by (try dsimp only); rw [tn0']; rfl)⟩⟩
              obtain ⟨ii, le, qq, g2, g0⟩ := x9
              obtain ⟨hl, hP, hD, hS, hinv⟩ := hI
              have hl : lv_has ls 10 [(7, .int ii), (6, .int le), (5, .int (bn 2)), (4, .ref t2), (0, .ref h0), (1, .int 2), (2, .int 0), (3, .int x3)] := hl
              have hP : va_P D vwCl [(h0, .inr (9, fs0)), (h1, .inl (T 5, 3, .inr (.inr (.inr (.inr (va_up (va_up (va_up (fun _ => none) 0 (some t0)) 1 (some t1)) 2 (some t2))))))), (h2, .inr (1, fs2)), (h4, .inl (T 0, 24, .inl fk)), (t0, .inr (0, [.int qq, .ref a0])), (t1, .inr (0, [.int (bn 1), .ref a1])), (t2, .inr (0, [.int (bn 2), .ref a2])), (a0, .inl (T 0, 12, .inl g0)), (a1, .inl (T 0, 12, .inl (bf 1))), (a2, .inl (T 0, 12, .inl g2))] H := hP
              have hD : va_D A [(h0, .inr (9, fs0)), (h1, .inl (T 5, 3, .inr (.inr (.inr (.inr (va_up (va_up (va_up (fun _ => none) 0 (some t0)) 1 (some t1)) 2 (some t2))))))), (h2, .inr (1, fs2)), (h4, .inl (T 0, 24, .inl fk)), (t0, .inr (0, [.int qq, .ref a0])), (t1, .inr (0, [.int (bn 1), .ref a1])), (t2, .inr (0, [.int (bn 2), .ref a2])), (a0, .inl (T 0, 12, .inl g0)), (a1, .inl (T 0, 12, .inl (bf 1))), (a2, .inl (T 0, 12, .inl g2))] := hD
              have hinv : ((0 ≤ le.toInt ∧ le.toInt ≤ ii.toInt ∧ ii.toInt ≤ (bn 2).toInt) ∧ 0 ≤ qq.toInt ∧ qq.toInt ≤ 12) ∧ le.toInt = (pourF (prP x3 n9 fk) (bf 2) (bf 0) ((bn 0).toNatClampNeg) (ii.toNatClampNeg)).1 ∧ g2 = (pourF (prP x3 n9 fk) (bf 2) (bf 0) ((bn 0).toNatClampNeg) (ii.toNatClampNeg)).2.1 ∧ qq.toInt = (pourF (prP x3 n9 fk) (bf 2) (bf 0) ((bn 0).toNatClampNeg) (ii.toNatClampNeg)).2.2.1 ∧ g0 = (pourF (prP x3 n9 fk) (bf 2) (bf 0) ((bn 0).toNatClampNeg) (ii.toNatClampNeg)).2.2.2 := hinv
              obtain ⟨hinv, hp1, hp2, hp3, hp4⟩ := hinv
              refine lv_iload hx hb dX12_pour_57 (lv_at hl 0 rfl) ?_
              refine lv_iload hx hb dX12_pour_59 (lv_at hl 2 rfl) ?_
              refine lv_icmp_ge (tgt := 153) hx hb dX12_pour_61 (by decide +kernel) (fun c_117 => ?_) (fun c_117 => ?_)
              · rw [fa_le] at c_117
                have e9 : ii = (bn 2) := Int32.toInt_inj.1 (by omega)
                rw [e9] at hp1 hp2 hp3 hp4
                refine lv_aload hx hb dX12_pour_153 (lv_at hl 3 rfl) ?_
                refine lv_iload hx hb dX12_pour_155 (lv_at hl 1 rfl) ?_
                refine va_put (D := D) (ci := 0) (v := .int le) (ty := .int) (C := RX1) (T := TX1) (N := 2) hx hb hts in_X12_pour_X1 tyX1 tyX1_ok nmX1 hown hE.1 hP hD hS 6 rfl rfl 0 (by decide +kernel) (hts (.fieldLink RX12 307 "ClauseBook$Bag" "size" "I") (List.mem_of_getElem? (i := 2) rfl)) (fun _ h9 => h9) rfl (by decide +kernel) rfl rfl (Nat.le_of_ble_eq_true rfl) dX12_pour_157 (fun H locs hP hD hS => ?_)
                obtain ⟨hP, hD⟩ := wPD [(h0, .inr (9, fs0)), (h1, .inl (T 5, 3, .inr (.inr (.inr (.inr (va_up (va_up (va_up (fun _ => none) 0 (some t0)) 1 (some t1)) 2 (some t2))))))), (h2, .inr (1, fs2)), (h4, .inl (T 0, 24, .inl fk)), (t0, .inr (0, [.int qq, .ref a0])), (t1, .inr (0, [.int (bn 1), .ref a1])), (t2, .inr (0, [.int le, .ref a2])), (a0, .inl (T 0, 12, .inl g0)), (a1, .inl (T 0, 12, .inl (bf 1))), (a2, .inl (T 0, 12, .inl g2))] hP hD rfl
                refine lv_iload hx hb dX12_pour_160 (lv_at hl 2 rfl) ?_
                refine lv_iload hx hb dX12_pour_162 (lv_at hl 1 rfl) ?_
                refine lv_isub hx hb dX12_pour_164 ?_
                exact W.iret hx hb hr (fun t ht hW => ⟨⟨_, ((fun k => [qq, (bn 1), le].getD k 0), (fun k => [g0, (bf 1), g2].getD k g0)), rfl, ⟨(show 0 ≤ (qq).toInt ∧ (qq).toInt ≤ 12 from by (try subst_vars); first | omega | (rw [dec1 (by omega)]; omega)), (show 0 ≤ ((bn 1)).toInt ∧ ((bn 1)).toInt ≤ 12 from by (try subst_vars); first | omega | (rw [dec1 (by omega)]; omega)), (show 0 ≤ (le).toInt ∧ (le).toInt ≤ 12 from by (try subst_vars); first | omega | (rw [dec1 (by omega)]; omega)), (Or.inr ⟨⟨⟨⟨by decide, by decide⟩, by decide, by decide⟩, by decide, by omega⟩, _, rfl, (show (((bn 2) - le) : Int32).toInt = (bn 2).toInt - (((pourF (prP x3 n9 fk) (bf 2) (bf 0) ((bn 0).toNatClampNeg) ((bn 2).toNatClampNeg)).1 : Nat) : Int) from by have h8 := hp1; rw [fb_subI (by omega) (by omega)]; omega), all3 ⟨(fun h9 => absurd h9 (by decide +kernel)), (fun _ => ⟨hp3, hp4⟩), (fun _ h9 => absurd (by decide +kernel) h9)⟩ ⟨(fun h9 => absurd h9 (by decide +kernel)), (fun h9 => absurd h9 (by decide +kernel)), (fun _ _ => ⟨rfl, rfl⟩)⟩ ⟨(fun _ => ⟨hp1, hp2⟩), (fun h9 => absurd h9 (by decide +kernel)), (fun h9 => absurd (by decide +kernel) h9)⟩⟩)⟩, by rw [ht]; exact hP.sub [0, 1, 2, 3, 4, 5, 6, 7, 8, 9] rfl, hD.sub [0, 1, 2, 3, 4, 5, 6, 7, 8, 9] (by decide +kernel) rfl⟩, hS.F ht⟩) hS.2.2 dX12_pour_165
              · rw [fa_le] at c_117
                refine lv_aload hx hb dX12_pour_64 (lv_at hl 3 rfl) ?_
                refine va_get (D := D) (ci := 0) (v := .ref a2) (C := RX1) (T := TX1) (N := 2) hx hb hts in_X12_pour_X1 hown hE.1 hP 6 rfl rfl 1 (by decide +kernel) (hts (.fieldLink RX12 308 "ClauseBook$Bag" "numbers" "[I") (List.mem_of_getElem? (i := 3) rfl)) (fun _ h9 => h9) rfl dX12_pour_66 ?_
                refine lv_iload hx hb dX12_pour_69 (lv_at hl 0 rfl) ?_
                refine va_iald hx hb hE.1 hP 9 0 rfl rfl (by rw [vp_in_iff]; first | omega | (subst_vars; rw [dec1 (by omega)]; omega) | (subst_vars; rw [inc1 (n := 1000) (by omega) (by decide +kernel)]; omega)) dX12_pour_71 ?_
                refine lv_topi (fun z_118 ez_118 => ?_)
                have hzF : z_118 = (bf 2) (ii.toNatClampNeg) := by rw [ez_118, hp2]; exact pourF_keep _ _ (by have h8 := tn (x := ii) (by omega); omega)
                refine lv_istore (lv' := [(8, .int z_118), (7, .int ii), (6, .int le), (5, .int (bn 2)), (4, .ref t2), (0, .ref h0), (1, .int 2), (2, .int 0), (3, .int x3)]) hx hb dX12_pour_72 hl (by decide +kernel) rfl (fun ls hl => ?_)
                refine lv_iload_n hx hb dX12_pour_74 rfl (lv_at hl 8 rfl) ?_
                refine lv_iconst (v := (-1)) hx hb dX12_pour_75 (by decide +kernel) ?_
                refine lv_icmp_eq (tgt := 105) hx hb dX12_pour_76 (by decide +kernel) (fun c_119 => ?_) (fun c_119 => ?_)
                · rw [fa_eq] at c_119
                  try rw [ti_n1] at c_119
                  refine lv_iconst (v := 1) hx hb dX12_pour_105 (by decide +kernel) ?_
                  refine lv_goto (tgt := 110) hx hb dX12_pour_106 (by decide +kernel) ?_
                  refine lv_istore (lv' := [(9, .int 1), (8, .int z_118), (7, .int ii), (6, .int le), (5, .int (bn 2)), (4, .ref t2), (0, .ref h0), (1, .int 2), (2, .int 0), (3, .int x3)]) hx hb dX12_pour_110 hl (by decide +kernel) rfl (fun ls hl => ?_)
                  have hM : prP x3 n9 fk z_118 = true := decide_eq_true (by first | exact Or.inl (by omega) | exact Or.inr ⟨(by omega), (by rw [← ez_103]; omega)⟩)
                  refine lv_iload hx hb dX12_pour_112 (lv_at hl 0 rfl) ?_
                  refine lv_if_eq (tgt := 134) hx hb dX12_pour_114 (by decide +kernel) (fun c9 => absurd c9 (by decide +kernel)) (fun _ => ?_)
                  refine lv_aload_n hx hb dX12_pour_117 rfl (lv_at hl 6 rfl) ?_
                  refine va_get (D := D) (ci := 9) (v := .ref h1) (C := RX12) (T := TX12) (N := 11) hx hb hts in_X12_pour_X12 hown hE.1 hP 0 rfl rfl 5 (by decide +kernel) (hts (.fieldLink RX12 37 "ClauseBook" "bags" "[LClauseBook$Bag;") (List.mem_of_getElem? (i := 1) rfl)) (fun _ h9 => h9) e0_5 dX12_pour_118 ?_
                  refine lv_iload_n hx hb dX12_pour_121 rfl (lv_at hl 8 rfl) ?_
                  refine va_aldq hx hb hE.1 hP 1 5 rfl rfl (by unfold vp_in; decide) dX12_pour_122 ?_
                  refine W.eq (g2 := F0 m 123 ls [.ref t0]) rfl ?_
                  refine lv_iload hx hb dX12_pour_123 (lv_at hl 1 rfl) ?_
                  have hFc := va_free (wc := [(t0, .inr (0, [.int qq, .ref a0])), (a0, .inl (T 0, 12, .inl g0))]) hD hS hA [4, 7] rfl
                  refine va_calli (va_runV (As := [.int z_118]) (rest := []) ⟨hx, hb, hml, hown, hts⟩ (c_X1_append l D T _ t0 qq a0 g0 z_118 (by omega)) (cwV 1 hts gX12_pour_X1_append rfl rfl rfl hv_X1_append ⟨Nat.le_of_ble_eq_true rfl, Nat.le_of_ble_eq_true rfl⟩) (pW_V (q := (RX1, TX1, 2)) (ci := 0) (q0 := 4) hP hE hD rfl rfl [4, 7] (by decide +kernel) rfl rfl) rfl rfl hl.1 rfl (lv_room (Nat.le_of_ble_eq_true rfl)) dX12_pour_125 ⟨Nat.le_of_ble_eq_true rfl, Nat.le_of_ble_eq_true rfl⟩) hS (fun q _ h => hFc q h) hFc (fun r_120 u_121 t H1 locs ht hvm hr_120 hB hz1 hk1 hS => ?_)
                  obtain ⟨n_122, f_123⟩ := u_121
                  have hinn_122 : 0 ≤ n_122.toInt ∧ n_122.toInt ≤ 12 := hr_120.2.1
                  have hap : ((qq).toInt < 12 → n_122.toInt = (qq).toInt + 1 ∧ f_123 = upd g0 ((qq).toNatClampNeg) z_118) ∧ (¬ (qq).toInt < 12 → n_122 = qq ∧ f_123 = g0) := hr_120.2.2
                  have hbo : r_120 = if (qq).toInt < 12 then 1 else 0 := hr_120.1
                  obtain ⟨hP1, hD1⟩ := hB
                  rw [ht] at hP1
                  obtain ⟨hP, hD⟩ := va_repl [(h0, .inr (9, fs0)), (h1, .inl (T 5, 3, .inr (.inr (.inr (.inr (va_up (va_up (va_up (fun _ => none) 0 (some t0)) 1 (some t1)) 2 (some t2))))))), (h2, .inr (1, fs2)), (h4, .inl (T 0, 24, .inl fk)), (t0, .inr (0, [.int n_122, .ref a0])), (t1, .inr (0, [.int (bn 1), .ref a1])), (t2, .inr (0, [.int (bn 2), .ref a2])), (a0, .inl (T 0, 12, .inl f_123)), (a1, .inl (T 0, 12, .inl (bf 1))), (a2, .inl (T 0, 12, .inl g2))] hP hD [4, 7] [4, 7] rfl (by decide +kernel) rfl rfl rfl hk1 hP1
                  clear hP1 hD1 hFc
                  generalize H1 = H at hP hS ⊢
                  rcases bool_post hbo with ⟨c_124, rfl⟩ | ⟨c_124, rfl⟩
                  · refine lv_if_eq (tgt := 134) hx hb dX12_pour_128 (by decide +kernel) (fun c9 => absurd c9 (by decide +kernel)) (fun _ => ?_)
                    refine lv_goto (tgt := 147) hx hb dX12_pour_131 (by decide +kernel) ?_
                    obtain ⟨z_125, ez_125⟩ : ∃ y : Int32, y = ii + 1 := ⟨_, rfl⟩
                    refine lv_iinc (v := z_125) (lv' := [(7, .int z_125), (9, .int 1), (8, .int z_118), (6, .int le), (5, .int (bn 2)), (4, .ref t2), (0, .ref h0), (1, .int 2), (2, .int 0), (3, .int x3)]) hx hb dX12_pour_147 hl (k := 2) rfl (by rw [ez_125]; rfl) (by decide +kernel) rfl (fun ls hl => ?_)
                    have hi9 : z_125.toInt = ii.toInt + 1 := by rw [ez_125]; exact inc1 (n := 1000) (by omega) (by decide +kernel)
                    refine lv_goto (tgt := 57) hx hb dX12_pour_150 (by decide +kernel) ?_
                    exact ih (z_125, le, n_122, g2, f_123) ls _ _ ⟨lv_sub hl [0, 3, 4, 5, 6, 7, 8, 9] rfl, hP.sub [0, 1, 2, 3, 4, 5, 6, 7, 8, 9] rfl, hD.sub [0, 1, 2, 3, 4, 5, 6, 7, 8, 9] (by decide +kernel) rfl, hS, ⟨(by (try dsimp only); omega), (by (try dsimp only); exact pour_stepY (by omega) hi9 hp1 hp2 hp3 hp4 hzF hM (by omega) (hap.1 (by omega)).1 (hap.1 (by omega)).2)⟩⟩ (by (try dsimp only); omega)
                  · refine lv_if_eq (tgt := 134) hx hb dX12_pour_128 (by decide +kernel) (fun _ => ?_) (fun c9 => absurd c9 (by decide +kernel))
                    refine lv_aload hx hb dX12_pour_134 (lv_at hl 5 rfl) ?_
                    refine va_get (D := D) (ci := 0) (v := .ref a2) (C := RX1) (T := TX1) (N := 2) hx hb hts in_X12_pour_X1 hown hE.1 hP 6 rfl rfl 1 (by decide +kernel) (hts (.fieldLink RX12 308 "ClauseBook$Bag" "numbers" "[I") (List.mem_of_getElem? (i := 3) rfl)) (fun _ h9 => h9) rfl dX12_pour_136 ?_
                    refine lv_iload hx hb dX12_pour_139 (lv_at hl 3 rfl) ?_
                    refine lv_iload hx hb dX12_pour_141 (lv_at hl 1 rfl) ?_
                    refine va_iast hx hb hE.1 hP hD hS 9 0 rfl rfl (by rw [vp_in_iff]; first | omega | (subst_vars; rw [dec1 (by omega)]; omega) | (subst_vars; rw [inc1 (n := 1000) (by omega) (by decide +kernel)]; omega)) dX12_pour_143 (fun H locs hP hD hS => ?_)
                    obtain ⟨hP, hD⟩ := wPD [(h0, .inr (9, fs0)), (h1, .inl (T 5, 3, .inr (.inr (.inr (.inr (va_up (va_up (va_up (fun _ => none) 0 (some t0)) 1 (some t1)) 2 (some t2))))))), (h2, .inr (1, fs2)), (h4, .inl (T 0, 24, .inl fk)), (t0, .inr (0, [.int n_122, .ref a0])), (t1, .inr (0, [.int (bn 1), .ref a1])), (t2, .inr (0, [.int (bn 2), .ref a2])), (a0, .inl (T 0, 12, .inl f_123)), (a1, .inl (T 0, 12, .inl (bf 1))), (a2, .inl (T 0, 12, .inl (upd g2 (le.toNatClampNeg) z_118)))] hP hD rfl
                    obtain ⟨z_126, ez_126⟩ : ∃ y : Int32, y = le + 1 := ⟨_, rfl⟩
                    refine lv_iinc (v := z_126) (lv' := [(6, .int z_126), (9, .int 1), (8, .int z_118), (7, .int ii), (5, .int (bn 2)), (4, .ref t2), (0, .ref h0), (1, .int 2), (2, .int 0), (3, .int x3)]) hx hb dX12_pour_144 hl (k := 3) rfl (by rw [ez_126]; rfl) (by decide +kernel) rfl (fun ls hl => ?_)
                    obtain ⟨z_127, ez_127⟩ : ∃ y : Int32, y = ii + 1 := ⟨_, rfl⟩
                    refine lv_iinc (v := z_127) (lv' := [(7, .int z_127), (6, .int z_126), (9, .int 1), (8, .int z_118), (5, .int (bn 2)), (4, .ref t2), (0, .ref h0), (1, .int 2), (2, .int 0), (3, .int x3)]) hx hb dX12_pour_147 hl (k := 3) rfl (by rw [ez_127]; rfl) (by decide +kernel) rfl (fun ls hl => ?_)
                    have hi9 : z_127.toInt = ii.toInt + 1 := by rw [ez_127]; exact inc1 (n := 1000) (by omega) (by decide +kernel)
                    have hl9 : z_126.toInt = le.toInt + 1 := by rw [ez_126]; exact inc1 (n := 1000) (by omega) (by decide +kernel)
                    refine lv_goto (tgt := 57) hx hb dX12_pour_150 (by decide +kernel) ?_
                    exact ih (z_127, z_126, n_122, (upd g2 (le.toNatClampNeg) z_118), f_123) ls _ _ ⟨lv_sub hl [0, 1, 4, 5, 6, 7, 8, 9] rfl, hP.sub [0, 1, 2, 3, 4, 5, 6, 7, 8, 9] rfl, hD.sub [0, 1, 2, 3, 4, 5, 6, 7, 8, 9] (by decide +kernel) rfl, hS, ⟨(by (try dsimp only); omega), (by (try dsimp only); exact pour_stepN (by omega) (by omega) hi9 hp1 hp2 hp3 hp4 hzF (fun h9 => by first | exact hM h9.1 | omega) hl9 rfl (by rw [(hap.2 (by omega)).1]) (hap.2 (by omega)).2)⟩⟩ (by (try dsimp only); omega)
                · rw [fa_eq] at c_119
                  try rw [ti_n1] at c_119
                  refine lv_aload_n hx hb dX12_pour_79 rfl (lv_at hl 5 rfl) ?_
                  refine va_get (D := D) (ci := 9) (v := .ref h2) (C := RX12) (T := TX12) (N := 11) hx hb hts in_X12_pour_X12 hown hE.1 hP 0 rfl rfl 4 (by decide +kernel) (hts (.fieldLink RX12 32 "ClauseBook" "clauses" "LClauseBook$Clauses;") (List.mem_of_getElem? (i := 4) rfl)) (fun _ h9 => h9) e0_4 dX12_pour_80 ?_
                  refine lv_iload hx hb dX12_pour_83 (lv_at hl 0 rfl) ?_
                  refine vp_callSi (W.runV (As := [.int z_118]) (rest := []) ⟨hx, hb, hml, hown, hts⟩ (c_X2_has l D T h2 fs2 z_118 n9 e2_0 (by omega)) (cwV 1 hts gX12_pour_X2_has rfl rfl rfl hv_X2_has ⟨Nat.le_of_ble_eq_true rfl, Nat.le_of_ble_eq_true rfl⟩) (pR_V (q := (RX2, TX2, 8)) (ci := 1) (q0 := 2) hP hE rfl rfl [2] rfl) rfl rfl hl.1 rfl (lv_room (Nat.le_of_ble_eq_true rfl)) dX12_pour_85 ⟨Nat.le_of_ble_eq_true rfl, Nat.le_of_ble_eq_true rfl⟩) (fun r_128 hr_128 => ?_)
                  rcases bool_post hr_128 with ⟨c_129, rfl⟩ | ⟨c_129, rfl⟩
                  · refine lv_if_eq (tgt := 109) hx hb dX12_pour_88 (by decide +kernel) (fun c9 => absurd c9 (by decide +kernel)) (fun _ => ?_)
                    refine lv_aload_n hx hb dX12_pour_91 rfl (lv_at hl 5 rfl) ?_
                    refine va_get (D := D) (ci := 9) (v := .ref h2) (C := RX12) (T := TX12) (N := 11) hx hb hts in_X12_pour_X12 hown hE.1 hP 0 rfl rfl 4 (by decide +kernel) (hts (.fieldLink RX12 32 "ClauseBook" "clauses" "LClauseBook$Clauses;") (List.mem_of_getElem? (i := 4) rfl)) (fun _ h9 => h9) e0_4 dX12_pour_92 ?_
                    refine va_get (D := D) (ci := 1) (v := .ref h4) (C := RX2) (T := TX2) (N := 8) hx hb hts in_X12_pour_X2 hown hE.1 hP 2 rfl rfl 1 (by decide +kernel) (hts (.fieldLink RX12 153 "ClauseBook$Clauses" "kind" "[I") (List.mem_of_getElem? (i := 5) rfl)) (fun _ h9 => h9) e2_1 dX12_pour_95 ?_
                    refine lv_iload hx hb dX12_pour_98 (lv_at hl 0 rfl) ?_
                    refine va_iald hx hb hE.1 hP 3 0 rfl rfl (by rw [vp_in_iff]; first | omega | (subst_vars; rw [dec1 (by omega)]; omega) | (subst_vars; rw [inc1 (n := 1000) (by omega) (by decide +kernel)]; omega)) dX12_pour_100 ?_
                    refine lv_topi (fun z_130 ez_130 => ?_)
                    refine lv_iload_n hx hb dX12_pour_101 rfl (lv_at hl 8 rfl) ?_
                    refine lv_icmp_ne (tgt := 109) hx hb dX12_pour_102 (by decide +kernel) (fun c_131 => ?_) (fun c_131 => ?_)
                    · rw [fa_eq] at c_131
                      refine lv_iconst (v := 0) hx hb dX12_pour_109 (by decide +kernel) ?_
                      refine lv_istore (lv' := [(9, .int 0), (8, .int z_118), (7, .int ii), (6, .int le), (5, .int (bn 2)), (4, .ref t2), (0, .ref h0), (1, .int 2), (2, .int 0), (3, .int x3)]) hx hb dX12_pour_110 hl (by decide +kernel) rfl (fun ls hl => ?_)
                      have hM : ¬ prP x3 n9 fk z_118 = true := fun h9 => by rcases of_decide_eq_true h9 with h8 | ⟨h8, h7⟩ <;> first | omega | (rw [← ez_130] at h7; omega)
                      refine lv_iload hx hb dX12_pour_112 (lv_at hl 0 rfl) ?_
                      refine lv_if_eq (tgt := 134) hx hb dX12_pour_114 (by decide +kernel) (fun _ => ?_) (fun c9 => absurd c9 (by decide +kernel))
                      refine lv_aload hx hb dX12_pour_134 (lv_at hl 5 rfl) ?_
                      refine va_get (D := D) (ci := 0) (v := .ref a2) (C := RX1) (T := TX1) (N := 2) hx hb hts in_X12_pour_X1 hown hE.1 hP 6 rfl rfl 1 (by decide +kernel) (hts (.fieldLink RX12 308 "ClauseBook$Bag" "numbers" "[I") (List.mem_of_getElem? (i := 3) rfl)) (fun _ h9 => h9) rfl dX12_pour_136 ?_
                      refine lv_iload hx hb dX12_pour_139 (lv_at hl 3 rfl) ?_
                      refine lv_iload hx hb dX12_pour_141 (lv_at hl 1 rfl) ?_
                      refine va_iast hx hb hE.1 hP hD hS 9 0 rfl rfl (by rw [vp_in_iff]; first | omega | (subst_vars; rw [dec1 (by omega)]; omega) | (subst_vars; rw [inc1 (n := 1000) (by omega) (by decide +kernel)]; omega)) dX12_pour_143 (fun H locs hP hD hS => ?_)
                      obtain ⟨hP, hD⟩ := wPD [(h0, .inr (9, fs0)), (h1, .inl (T 5, 3, .inr (.inr (.inr (.inr (va_up (va_up (va_up (fun _ => none) 0 (some t0)) 1 (some t1)) 2 (some t2))))))), (h2, .inr (1, fs2)), (h4, .inl (T 0, 24, .inl fk)), (t0, .inr (0, [.int qq, .ref a0])), (t1, .inr (0, [.int (bn 1), .ref a1])), (t2, .inr (0, [.int (bn 2), .ref a2])), (a0, .inl (T 0, 12, .inl g0)), (a1, .inl (T 0, 12, .inl (bf 1))), (a2, .inl (T 0, 12, .inl (upd g2 (le.toNatClampNeg) z_118)))] hP hD rfl
                      obtain ⟨z_132, ez_132⟩ : ∃ y : Int32, y = le + 1 := ⟨_, rfl⟩
                      refine lv_iinc (v := z_132) (lv' := [(6, .int z_132), (9, .int 0), (8, .int z_118), (7, .int ii), (5, .int (bn 2)), (4, .ref t2), (0, .ref h0), (1, .int 2), (2, .int 0), (3, .int x3)]) hx hb dX12_pour_144 hl (k := 3) rfl (by rw [ez_132]; rfl) (by decide +kernel) rfl (fun ls hl => ?_)
                      obtain ⟨z_133, ez_133⟩ : ∃ y : Int32, y = ii + 1 := ⟨_, rfl⟩
                      refine lv_iinc (v := z_133) (lv' := [(7, .int z_133), (6, .int z_132), (9, .int 0), (8, .int z_118), (5, .int (bn 2)), (4, .ref t2), (0, .ref h0), (1, .int 2), (2, .int 0), (3, .int x3)]) hx hb dX12_pour_147 hl (k := 3) rfl (by rw [ez_133]; rfl) (by decide +kernel) rfl (fun ls hl => ?_)
                      have hi9 : z_133.toInt = ii.toInt + 1 := by rw [ez_133]; exact inc1 (n := 1000) (by omega) (by decide +kernel)
                      have hl9 : z_132.toInt = le.toInt + 1 := by rw [ez_132]; exact inc1 (n := 1000) (by omega) (by decide +kernel)
                      refine lv_goto (tgt := 57) hx hb dX12_pour_150 (by decide +kernel) ?_
                      exact ih (z_133, z_132, qq, (upd g2 (le.toNatClampNeg) z_118), g0) ls _ _ ⟨lv_sub hl [0, 1, 4, 5, 6, 7, 8, 9] rfl, hP.sub [0, 1, 2, 3, 4, 5, 6, 7, 8, 9] rfl, hD.sub [0, 1, 2, 3, 4, 5, 6, 7, 8, 9] (by decide +kernel) rfl, hS, ⟨(by (try dsimp only); omega), (by (try dsimp only); exact pour_stepN (by omega) (by omega) hi9 hp1 hp2 hp3 hp4 hzF (fun h9 => by first | exact hM h9.1 | omega) hl9 rfl rfl rfl)⟩⟩ (by (try dsimp only); omega)
                    · rw [fa_eq] at c_131
                      refine lv_iconst (v := 1) hx hb dX12_pour_105 (by decide +kernel) ?_
                      refine lv_goto (tgt := 110) hx hb dX12_pour_106 (by decide +kernel) ?_
                      refine lv_istore (lv' := [(9, .int 1), (8, .int z_118), (7, .int ii), (6, .int le), (5, .int (bn 2)), (4, .ref t2), (0, .ref h0), (1, .int 2), (2, .int 0), (3, .int x3)]) hx hb dX12_pour_110 hl (by decide +kernel) rfl (fun ls hl => ?_)
                      have hM : prP x3 n9 fk z_118 = true := decide_eq_true (by first | exact Or.inl (by omega) | exact Or.inr ⟨(by omega), (by rw [← ez_130]; omega)⟩)
                      refine lv_iload hx hb dX12_pour_112 (lv_at hl 0 rfl) ?_
                      refine lv_if_eq (tgt := 134) hx hb dX12_pour_114 (by decide +kernel) (fun c9 => absurd c9 (by decide +kernel)) (fun _ => ?_)
                      refine lv_aload_n hx hb dX12_pour_117 rfl (lv_at hl 6 rfl) ?_
                      refine va_get (D := D) (ci := 9) (v := .ref h1) (C := RX12) (T := TX12) (N := 11) hx hb hts in_X12_pour_X12 hown hE.1 hP 0 rfl rfl 5 (by decide +kernel) (hts (.fieldLink RX12 37 "ClauseBook" "bags" "[LClauseBook$Bag;") (List.mem_of_getElem? (i := 1) rfl)) (fun _ h9 => h9) e0_5 dX12_pour_118 ?_
                      refine lv_iload_n hx hb dX12_pour_121 rfl (lv_at hl 8 rfl) ?_
                      refine va_aldq hx hb hE.1 hP 1 5 rfl rfl (by unfold vp_in; decide) dX12_pour_122 ?_
                      refine W.eq (g2 := F0 m 123 ls [.ref t0]) rfl ?_
                      refine lv_iload hx hb dX12_pour_123 (lv_at hl 1 rfl) ?_
                      have hFc := va_free (wc := [(t0, .inr (0, [.int qq, .ref a0])), (a0, .inl (T 0, 12, .inl g0))]) hD hS hA [4, 7] rfl
                      refine va_calli (va_runV (As := [.int z_118]) (rest := []) ⟨hx, hb, hml, hown, hts⟩ (c_X1_append l D T _ t0 qq a0 g0 z_118 (by omega)) (cwV 1 hts gX12_pour_X1_append rfl rfl rfl hv_X1_append ⟨Nat.le_of_ble_eq_true rfl, Nat.le_of_ble_eq_true rfl⟩) (pW_V (q := (RX1, TX1, 2)) (ci := 0) (q0 := 4) hP hE hD rfl rfl [4, 7] (by decide +kernel) rfl rfl) rfl rfl hl.1 rfl (lv_room (Nat.le_of_ble_eq_true rfl)) dX12_pour_125 ⟨Nat.le_of_ble_eq_true rfl, Nat.le_of_ble_eq_true rfl⟩) hS (fun q _ h => hFc q h) hFc (fun r_134 u_135 t H1 locs ht hvm hr_134 hB hz1 hk1 hS => ?_)
                      obtain ⟨n_136, f_137⟩ := u_135
                      have hinn_136 : 0 ≤ n_136.toInt ∧ n_136.toInt ≤ 12 := hr_134.2.1
                      have hap : ((qq).toInt < 12 → n_136.toInt = (qq).toInt + 1 ∧ f_137 = upd g0 ((qq).toNatClampNeg) z_118) ∧ (¬ (qq).toInt < 12 → n_136 = qq ∧ f_137 = g0) := hr_134.2.2
                      have hbo : r_134 = if (qq).toInt < 12 then 1 else 0 := hr_134.1
                      obtain ⟨hP1, hD1⟩ := hB
                      rw [ht] at hP1
                      obtain ⟨hP, hD⟩ := va_repl [(h0, .inr (9, fs0)), (h1, .inl (T 5, 3, .inr (.inr (.inr (.inr (va_up (va_up (va_up (fun _ => none) 0 (some t0)) 1 (some t1)) 2 (some t2))))))), (h2, .inr (1, fs2)), (h4, .inl (T 0, 24, .inl fk)), (t0, .inr (0, [.int n_136, .ref a0])), (t1, .inr (0, [.int (bn 1), .ref a1])), (t2, .inr (0, [.int (bn 2), .ref a2])), (a0, .inl (T 0, 12, .inl f_137)), (a1, .inl (T 0, 12, .inl (bf 1))), (a2, .inl (T 0, 12, .inl g2))] hP hD [4, 7] [4, 7] rfl (by decide +kernel) rfl rfl rfl hk1 hP1
                      clear hP1 hD1 hFc
                      generalize H1 = H at hP hS ⊢
                      rcases bool_post hbo with ⟨c_138, rfl⟩ | ⟨c_138, rfl⟩
                      · refine lv_if_eq (tgt := 134) hx hb dX12_pour_128 (by decide +kernel) (fun c9 => absurd c9 (by decide +kernel)) (fun _ => ?_)
                        refine lv_goto (tgt := 147) hx hb dX12_pour_131 (by decide +kernel) ?_
                        obtain ⟨z_139, ez_139⟩ : ∃ y : Int32, y = ii + 1 := ⟨_, rfl⟩
                        refine lv_iinc (v := z_139) (lv' := [(7, .int z_139), (9, .int 1), (8, .int z_118), (6, .int le), (5, .int (bn 2)), (4, .ref t2), (0, .ref h0), (1, .int 2), (2, .int 0), (3, .int x3)]) hx hb dX12_pour_147 hl (k := 2) rfl (by rw [ez_139]; rfl) (by decide +kernel) rfl (fun ls hl => ?_)
                        have hi9 : z_139.toInt = ii.toInt + 1 := by rw [ez_139]; exact inc1 (n := 1000) (by omega) (by decide +kernel)
                        refine lv_goto (tgt := 57) hx hb dX12_pour_150 (by decide +kernel) ?_
                        exact ih (z_139, le, n_136, g2, f_137) ls _ _ ⟨lv_sub hl [0, 3, 4, 5, 6, 7, 8, 9] rfl, hP.sub [0, 1, 2, 3, 4, 5, 6, 7, 8, 9] rfl, hD.sub [0, 1, 2, 3, 4, 5, 6, 7, 8, 9] (by decide +kernel) rfl, hS, ⟨(by (try dsimp only); omega), (by (try dsimp only); exact pour_stepY (by omega) hi9 hp1 hp2 hp3 hp4 hzF hM (by omega) (hap.1 (by omega)).1 (hap.1 (by omega)).2)⟩⟩ (by (try dsimp only); omega)
                      · refine lv_if_eq (tgt := 134) hx hb dX12_pour_128 (by decide +kernel) (fun _ => ?_) (fun c9 => absurd c9 (by decide +kernel))
                        refine lv_aload hx hb dX12_pour_134 (lv_at hl 5 rfl) ?_
                        refine va_get (D := D) (ci := 0) (v := .ref a2) (C := RX1) (T := TX1) (N := 2) hx hb hts in_X12_pour_X1 hown hE.1 hP 6 rfl rfl 1 (by decide +kernel) (hts (.fieldLink RX12 308 "ClauseBook$Bag" "numbers" "[I") (List.mem_of_getElem? (i := 3) rfl)) (fun _ h9 => h9) rfl dX12_pour_136 ?_
                        refine lv_iload hx hb dX12_pour_139 (lv_at hl 3 rfl) ?_
                        refine lv_iload hx hb dX12_pour_141 (lv_at hl 1 rfl) ?_
                        refine va_iast hx hb hE.1 hP hD hS 9 0 rfl rfl (by rw [vp_in_iff]; first | omega | (subst_vars; rw [dec1 (by omega)]; omega) | (subst_vars; rw [inc1 (n := 1000) (by omega) (by decide +kernel)]; omega)) dX12_pour_143 (fun H locs hP hD hS => ?_)
                        obtain ⟨hP, hD⟩ := wPD [(h0, .inr (9, fs0)), (h1, .inl (T 5, 3, .inr (.inr (.inr (.inr (va_up (va_up (va_up (fun _ => none) 0 (some t0)) 1 (some t1)) 2 (some t2))))))), (h2, .inr (1, fs2)), (h4, .inl (T 0, 24, .inl fk)), (t0, .inr (0, [.int n_136, .ref a0])), (t1, .inr (0, [.int (bn 1), .ref a1])), (t2, .inr (0, [.int (bn 2), .ref a2])), (a0, .inl (T 0, 12, .inl f_137)), (a1, .inl (T 0, 12, .inl (bf 1))), (a2, .inl (T 0, 12, .inl (upd g2 (le.toNatClampNeg) z_118)))] hP hD rfl
                        obtain ⟨z_140, ez_140⟩ : ∃ y : Int32, y = le + 1 := ⟨_, rfl⟩
                        refine lv_iinc (v := z_140) (lv' := [(6, .int z_140), (9, .int 1), (8, .int z_118), (7, .int ii), (5, .int (bn 2)), (4, .ref t2), (0, .ref h0), (1, .int 2), (2, .int 0), (3, .int x3)]) hx hb dX12_pour_144 hl (k := 3) rfl (by rw [ez_140]; rfl) (by decide +kernel) rfl (fun ls hl => ?_)
                        obtain ⟨z_141, ez_141⟩ : ∃ y : Int32, y = ii + 1 := ⟨_, rfl⟩
                        refine lv_iinc (v := z_141) (lv' := [(7, .int z_141), (6, .int z_140), (9, .int 1), (8, .int z_118), (5, .int (bn 2)), (4, .ref t2), (0, .ref h0), (1, .int 2), (2, .int 0), (3, .int x3)]) hx hb dX12_pour_147 hl (k := 3) rfl (by rw [ez_141]; rfl) (by decide +kernel) rfl (fun ls hl => ?_)
                        have hi9 : z_141.toInt = ii.toInt + 1 := by rw [ez_141]; exact inc1 (n := 1000) (by omega) (by decide +kernel)
                        have hl9 : z_140.toInt = le.toInt + 1 := by rw [ez_140]; exact inc1 (n := 1000) (by omega) (by decide +kernel)
                        refine lv_goto (tgt := 57) hx hb dX12_pour_150 (by decide +kernel) ?_
                        exact ih (z_141, z_140, n_136, (upd g2 (le.toNatClampNeg) z_118), f_137) ls _ _ ⟨lv_sub hl [0, 1, 4, 5, 6, 7, 8, 9] rfl, hP.sub [0, 1, 2, 3, 4, 5, 6, 7, 8, 9] rfl, hD.sub [0, 1, 2, 3, 4, 5, 6, 7, 8, 9] (by decide +kernel) rfl, hS, ⟨(by (try dsimp only); omega), (by (try dsimp only); exact pour_stepN (by omega) (by omega) hi9 hp1 hp2 hp3 hp4 hzF (fun h9 => by first | exact hM h9.1 | omega) hl9 rfl (by rw [(hap.2 (by omega)).1]) (hap.2 (by omega)).2)⟩⟩ (by (try dsimp only); omega)
                  · refine lv_if_eq (tgt := 109) hx hb dX12_pour_88 (by decide +kernel) (fun _ => ?_) (fun c9 => absurd c9 (by decide +kernel))
                    refine lv_iconst (v := 0) hx hb dX12_pour_109 (by decide +kernel) ?_
                    refine lv_istore (lv' := [(9, .int 0), (8, .int z_118), (7, .int ii), (6, .int le), (5, .int (bn 2)), (4, .ref t2), (0, .ref h0), (1, .int 2), (2, .int 0), (3, .int x3)]) hx hb dX12_pour_110 hl (by decide +kernel) rfl (fun ls hl => ?_)
                    have hM : ¬ prP x3 n9 fk z_118 = true := fun h9 => by rcases of_decide_eq_true h9 with h8 | ⟨h8, h7⟩ <;> first | omega | (rw [← ez_130] at h7; omega)
                    refine lv_iload hx hb dX12_pour_112 (lv_at hl 0 rfl) ?_
                    refine lv_if_eq (tgt := 134) hx hb dX12_pour_114 (by decide +kernel) (fun _ => ?_) (fun c9 => absurd c9 (by decide +kernel))
                    refine lv_aload hx hb dX12_pour_134 (lv_at hl 5 rfl) ?_
                    refine va_get (D := D) (ci := 0) (v := .ref a2) (C := RX1) (T := TX1) (N := 2) hx hb hts in_X12_pour_X1 hown hE.1 hP 6 rfl rfl 1 (by decide +kernel) (hts (.fieldLink RX12 308 "ClauseBook$Bag" "numbers" "[I") (List.mem_of_getElem? (i := 3) rfl)) (fun _ h9 => h9) rfl dX12_pour_136 ?_
                    refine lv_iload hx hb dX12_pour_139 (lv_at hl 3 rfl) ?_
                    refine lv_iload hx hb dX12_pour_141 (lv_at hl 1 rfl) ?_
                    refine va_iast hx hb hE.1 hP hD hS 9 0 rfl rfl (by rw [vp_in_iff]; first | omega | (subst_vars; rw [dec1 (by omega)]; omega) | (subst_vars; rw [inc1 (n := 1000) (by omega) (by decide +kernel)]; omega)) dX12_pour_143 (fun H locs hP hD hS => ?_)
                    obtain ⟨hP, hD⟩ := wPD [(h0, .inr (9, fs0)), (h1, .inl (T 5, 3, .inr (.inr (.inr (.inr (va_up (va_up (va_up (fun _ => none) 0 (some t0)) 1 (some t1)) 2 (some t2))))))), (h2, .inr (1, fs2)), (h4, .inl (T 0, 24, .inl fk)), (t0, .inr (0, [.int qq, .ref a0])), (t1, .inr (0, [.int (bn 1), .ref a1])), (t2, .inr (0, [.int (bn 2), .ref a2])), (a0, .inl (T 0, 12, .inl g0)), (a1, .inl (T 0, 12, .inl (bf 1))), (a2, .inl (T 0, 12, .inl (upd g2 (le.toNatClampNeg) z_118)))] hP hD rfl
                    obtain ⟨z_142, ez_142⟩ : ∃ y : Int32, y = le + 1 := ⟨_, rfl⟩
                    refine lv_iinc (v := z_142) (lv' := [(6, .int z_142), (9, .int 0), (8, .int z_118), (7, .int ii), (5, .int (bn 2)), (4, .ref t2), (0, .ref h0), (1, .int 2), (2, .int 0), (3, .int x3)]) hx hb dX12_pour_144 hl (k := 3) rfl (by rw [ez_142]; rfl) (by decide +kernel) rfl (fun ls hl => ?_)
                    obtain ⟨z_143, ez_143⟩ : ∃ y : Int32, y = ii + 1 := ⟨_, rfl⟩
                    refine lv_iinc (v := z_143) (lv' := [(7, .int z_143), (6, .int z_142), (9, .int 0), (8, .int z_118), (5, .int (bn 2)), (4, .ref t2), (0, .ref h0), (1, .int 2), (2, .int 0), (3, .int x3)]) hx hb dX12_pour_147 hl (k := 3) rfl (by rw [ez_143]; rfl) (by decide +kernel) rfl (fun ls hl => ?_)
                    have hi9 : z_143.toInt = ii.toInt + 1 := by rw [ez_143]; exact inc1 (n := 1000) (by omega) (by decide +kernel)
                    have hl9 : z_142.toInt = le.toInt + 1 := by rw [ez_142]; exact inc1 (n := 1000) (by omega) (by decide +kernel)
                    refine lv_goto (tgt := 57) hx hb dX12_pour_150 (by decide +kernel) ?_
                    exact ih (z_143, z_142, qq, (upd g2 (le.toNatClampNeg) z_118), g0) ls _ _ ⟨lv_sub hl [0, 1, 4, 5, 6, 7, 8, 9] rfl, hP.sub [0, 1, 2, 3, 4, 5, 6, 7, 8, 9] rfl, hD.sub [0, 1, 2, 3, 4, 5, 6, 7, 8, 9] (by decide +kernel) rfl, hS, ⟨(by (try dsimp only); omega), (by (try dsimp only); exact pour_stepN (by omega) (by omega) hi9 hp1 hp2 hp3 hp4 hzF (fun h9 => by first | exact hM h9.1 | omega) hl9 rfl rfl rfl)⟩⟩ (by (try dsimp only); omega)
            · refine lv_aload_n hx hb dX12_pour_36 rfl (lv_at hl 0 rfl) ?_
              refine va_get (D := D) (ci := 9) (v := .ref h1) (C := RX12) (T := TX12) (N := 11) hx hb hts in_X12_pour_X12 hown hE.1 hP 0 rfl rfl 5 (by decide +kernel) (hts (.fieldLink RX12 37 "ClauseBook" "bags" "[LClauseBook$Bag;") (List.mem_of_getElem? (i := 1) rfl)) (fun _ h9 => h9) e0_5 dX12_pour_37 ?_
              refine lv_iload_n hx hb dX12_pour_40 rfl (lv_at hl 1 rfl) ?_
              refine va_aldq hx hb hE.1 hP 1 5 rfl rfl (by unfold vp_in; decide) dX12_pour_41 ?_
              refine W.eq (g2 := F0 m 42 ls [.ref t2]) rfl ?_
              refine lv_astore (lv' := [(4, .ref t2), (0, .ref h0), (1, .int 2), (2, .int 1), (3, .int x3)]) hx hb dX12_pour_42 hl (by decide +kernel) rfl (fun ls hl => ?_)
              refine lv_aload hx hb dX12_pour_44 (lv_at hl 0 rfl) ?_
              refine va_get (D := D) (ci := 0) (v := .int (bn 2)) (C := RX1) (T := TX1) (N := 2) hx hb hts in_X12_pour_X1 hown hE.1 hP 6 rfl rfl 0 (by decide +kernel) (hts (.fieldLink RX12 307 "ClauseBook$Bag" "size" "I") (List.mem_of_getElem? (i := 2) rfl)) (fun _ h9 => h9) rfl dX12_pour_46 ?_
              refine lv_istore (lv' := [(5, .int (bn 2)), (4, .ref t2), (0, .ref h0), (1, .int 2), (2, .int 1), (3, .int x3)]) hx hb dX12_pour_49 hl (by decide +kernel) rfl (fun ls hl => ?_)
              refine lv_iconst (v := 0) hx hb dX12_pour_51 (by decide +kernel) ?_
              refine lv_istore (lv' := [(6, .int 0), (5, .int (bn 2)), (4, .ref t2), (0, .ref h0), (1, .int 2), (2, .int 1), (3, .int x3)]) hx hb dX12_pour_52 hl (by decide +kernel) rfl (fun ls hl => ?_)
              refine lv_iconst (v := 0) hx hb dX12_pour_54 (by decide +kernel) ?_
              refine lv_istore (lv' := [(7, .int 0), (6, .int 0), (5, .int (bn 2)), (4, .ref t2), (0, .ref h0), (1, .int 2), (2, .int 1), (3, .int x3)]) hx hb dX12_pour_55 hl (by decide +kernel) rfl (fun ls hl => ?_)
              refine loopW (σ := (Int32) × (Int32) × (Int32) × (Nat → Int32) × (Nat → Int32)) (fun x9 ls H locs => lv_has ls 10 [(7, .int x9.1), (6, .int x9.2.1), (5, .int (bn 2)), (4, .ref t2), (0, .ref h0), (1, .int 2), (2, .int 1), (3, .int x3)] ∧ va_P D vwCl [(h0, .inr (9, fs0)), (h1, .inl (T 5, 3, .inr (.inr (.inr (.inr (va_up (va_up (va_up (fun _ => none) 0 (some t0)) 1 (some t1)) 2 (some t2))))))), (h2, .inr (1, fs2)), (h4, .inl (T 0, 24, .inl fk)), (t0, .inr (0, [.int (bn 0), .ref a0])), (t1, .inr (0, [.int x9.2.2.1, .ref a1])), (t2, .inr (0, [.int (bn 2), .ref a2])), (a0, .inl (T 0, 12, .inl (bf 0))), (a1, .inl (T 0, 12, .inl x9.2.2.2.2)), (a2, .inl (T 0, 12, .inl x9.2.2.2.1))] H ∧ va_D A [(h0, .inr (9, fs0)), (h1, .inl (T 5, 3, .inr (.inr (.inr (.inr (va_up (va_up (va_up (fun _ => none) 0 (some t0)) 1 (some t1)) 2 (some t2))))))), (h2, .inr (1, fs2)), (h4, .inl (T 0, 24, .inl fk)), (t0, .inr (0, [.int (bn 0), .ref a0])), (t1, .inr (0, [.int x9.2.2.1, .ref a1])), (t2, .inr (0, [.int (bn 2), .ref a2])), (a0, .inl (T 0, 12, .inl (bf 0))), (a1, .inl (T 0, 12, .inl x9.2.2.2.2)), (a2, .inl (T 0, 12, .inl x9.2.2.2.1))] ∧ va_S A s.heap H locs ∧ (((0 ≤ x9.2.1.toInt ∧ x9.2.1.toInt ≤ x9.1.toInt ∧ x9.1.toInt ≤ (bn 2).toInt) ∧ 0 ≤ x9.2.2.1.toInt ∧ x9.2.2.1.toInt ≤ 12) ∧ x9.2.1.toInt = (pourF (prP x3 n9 fk) (bf 2) (bf 1) ((bn 1).toNatClampNeg) (x9.1.toNatClampNeg)).1 ∧ x9.2.2.2.1 = (pourF (prP x3 n9 fk) (bf 2) (bf 1) ((bn 1).toNatClampNeg) (x9.1.toNatClampNeg)).2.1 ∧ x9.2.2.1.toInt = (pourF (prP x3 n9 fk) (bf 2) (bf 1) ((bn 1).toNatClampNeg) (x9.1.toNatClampNeg)).2.2.1 ∧ x9.2.2.2.2 = (pourF (prP x3 n9 fk) (bf 2) (bf 1) ((bn 1).toNatClampNeg) (x9.1.toNatClampNeg)).2.2.2)) (fun x9 => (12 - x9.1.toInt).toNat) (fun x9 ls H locs hI ih => ?_) (0, 0, (bn 1), (bf 2), (bf 1)) ls ⟨lv_sub hl [0, 1, 2, 3, 4, 5, 6, 7] rfl, hP.sub [0, 1, 2, 3, 4, 5, 6, 7, 8, 9] rfl, hD.sub [0, 1, 2, 3, 4, 5, 6, 7, 8, 9] (by decide +kernel) rfl, hS, ⟨(by (try dsimp only); simp only [ti_0]; omega), (by (try dsimp only); rw [tn0']; rfl), (by (try dsimp only); rw [tn0']; rfl), (by (try dsimp only); rw [tn0']; exact (tn (by omega)).symm), (by (try dsimp only); rw [tn0']; rfl)⟩⟩
              obtain ⟨ii, le, qq, g2, g1⟩ := x9
              obtain ⟨hl, hP, hD, hS, hinv⟩ := hI
              have hl : lv_has ls 10 [(7, .int ii), (6, .int le), (5, .int (bn 2)), (4, .ref t2), (0, .ref h0), (1, .int 2), (2, .int 1), (3, .int x3)] := hl
              have hP : va_P D vwCl [(h0, .inr (9, fs0)), (h1, .inl (T 5, 3, .inr (.inr (.inr (.inr (va_up (va_up (va_up (fun _ => none) 0 (some t0)) 1 (some t1)) 2 (some t2))))))), (h2, .inr (1, fs2)), (h4, .inl (T 0, 24, .inl fk)), (t0, .inr (0, [.int (bn 0), .ref a0])), (t1, .inr (0, [.int qq, .ref a1])), (t2, .inr (0, [.int (bn 2), .ref a2])), (a0, .inl (T 0, 12, .inl (bf 0))), (a1, .inl (T 0, 12, .inl g1)), (a2, .inl (T 0, 12, .inl g2))] H := hP
              have hD : va_D A [(h0, .inr (9, fs0)), (h1, .inl (T 5, 3, .inr (.inr (.inr (.inr (va_up (va_up (va_up (fun _ => none) 0 (some t0)) 1 (some t1)) 2 (some t2))))))), (h2, .inr (1, fs2)), (h4, .inl (T 0, 24, .inl fk)), (t0, .inr (0, [.int (bn 0), .ref a0])), (t1, .inr (0, [.int qq, .ref a1])), (t2, .inr (0, [.int (bn 2), .ref a2])), (a0, .inl (T 0, 12, .inl (bf 0))), (a1, .inl (T 0, 12, .inl g1)), (a2, .inl (T 0, 12, .inl g2))] := hD
              have hinv : ((0 ≤ le.toInt ∧ le.toInt ≤ ii.toInt ∧ ii.toInt ≤ (bn 2).toInt) ∧ 0 ≤ qq.toInt ∧ qq.toInt ≤ 12) ∧ le.toInt = (pourF (prP x3 n9 fk) (bf 2) (bf 1) ((bn 1).toNatClampNeg) (ii.toNatClampNeg)).1 ∧ g2 = (pourF (prP x3 n9 fk) (bf 2) (bf 1) ((bn 1).toNatClampNeg) (ii.toNatClampNeg)).2.1 ∧ qq.toInt = (pourF (prP x3 n9 fk) (bf 2) (bf 1) ((bn 1).toNatClampNeg) (ii.toNatClampNeg)).2.2.1 ∧ g1 = (pourF (prP x3 n9 fk) (bf 2) (bf 1) ((bn 1).toNatClampNeg) (ii.toNatClampNeg)).2.2.2 := hinv
              obtain ⟨hinv, hp1, hp2, hp3, hp4⟩ := hinv
              refine lv_iload hx hb dX12_pour_57 (lv_at hl 0 rfl) ?_
              refine lv_iload hx hb dX12_pour_59 (lv_at hl 2 rfl) ?_
              refine lv_icmp_ge (tgt := 153) hx hb dX12_pour_61 (by decide +kernel) (fun c_144 => ?_) (fun c_144 => ?_)
              · rw [fa_le] at c_144
                have e9 : ii = (bn 2) := Int32.toInt_inj.1 (by omega)
                rw [e9] at hp1 hp2 hp3 hp4
                refine lv_aload hx hb dX12_pour_153 (lv_at hl 3 rfl) ?_
                refine lv_iload hx hb dX12_pour_155 (lv_at hl 1 rfl) ?_
                refine va_put (D := D) (ci := 0) (v := .int le) (ty := .int) (C := RX1) (T := TX1) (N := 2) hx hb hts in_X12_pour_X1 tyX1 tyX1_ok nmX1 hown hE.1 hP hD hS 6 rfl rfl 0 (by decide +kernel) (hts (.fieldLink RX12 307 "ClauseBook$Bag" "size" "I") (List.mem_of_getElem? (i := 2) rfl)) (fun _ h9 => h9) rfl (by decide +kernel) rfl rfl (Nat.le_of_ble_eq_true rfl) dX12_pour_157 (fun H locs hP hD hS => ?_)
                obtain ⟨hP, hD⟩ := wPD [(h0, .inr (9, fs0)), (h1, .inl (T 5, 3, .inr (.inr (.inr (.inr (va_up (va_up (va_up (fun _ => none) 0 (some t0)) 1 (some t1)) 2 (some t2))))))), (h2, .inr (1, fs2)), (h4, .inl (T 0, 24, .inl fk)), (t0, .inr (0, [.int (bn 0), .ref a0])), (t1, .inr (0, [.int qq, .ref a1])), (t2, .inr (0, [.int le, .ref a2])), (a0, .inl (T 0, 12, .inl (bf 0))), (a1, .inl (T 0, 12, .inl g1)), (a2, .inl (T 0, 12, .inl g2))] hP hD rfl
                refine lv_iload hx hb dX12_pour_160 (lv_at hl 2 rfl) ?_
                refine lv_iload hx hb dX12_pour_162 (lv_at hl 1 rfl) ?_
                refine lv_isub hx hb dX12_pour_164 ?_
                exact W.iret hx hb hr (fun t ht hW => ⟨⟨_, ((fun k => [(bn 0), qq, le].getD k 0), (fun k => [(bf 0), g1, g2].getD k (bf 0))), rfl, ⟨(show 0 ≤ ((bn 0)).toInt ∧ ((bn 0)).toInt ≤ 12 from by (try subst_vars); first | omega | (rw [dec1 (by omega)]; omega)), (show 0 ≤ (qq).toInt ∧ (qq).toInt ≤ 12 from by (try subst_vars); first | omega | (rw [dec1 (by omega)]; omega)), (show 0 ≤ (le).toInt ∧ (le).toInt ≤ 12 from by (try subst_vars); first | omega | (rw [dec1 (by omega)]; omega)), (Or.inr ⟨⟨⟨⟨by decide, by decide⟩, by decide, by decide⟩, by decide, by omega⟩, _, rfl, (show (((bn 2) - le) : Int32).toInt = (bn 2).toInt - (((pourF (prP x3 n9 fk) (bf 2) (bf 1) ((bn 1).toNatClampNeg) ((bn 2).toNatClampNeg)).1 : Nat) : Int) from by have h8 := hp1; rw [fb_subI (by omega) (by omega)]; omega), all3 ⟨(fun h9 => absurd h9 (by decide +kernel)), (fun h9 => absurd h9 (by decide +kernel)), (fun _ _ => ⟨rfl, rfl⟩)⟩ ⟨(fun h9 => absurd h9 (by decide +kernel)), (fun _ => ⟨hp3, hp4⟩), (fun _ h9 => absurd (by decide +kernel) h9)⟩ ⟨(fun _ => ⟨hp1, hp2⟩), (fun h9 => absurd h9 (by decide +kernel)), (fun h9 => absurd (by decide +kernel) h9)⟩⟩)⟩, by rw [ht]; exact hP.sub [0, 1, 2, 3, 4, 5, 6, 7, 8, 9] rfl, hD.sub [0, 1, 2, 3, 4, 5, 6, 7, 8, 9] (by decide +kernel) rfl⟩, hS.F ht⟩) hS.2.2 dX12_pour_165
              · rw [fa_le] at c_144
                refine lv_aload hx hb dX12_pour_64 (lv_at hl 3 rfl) ?_
                refine va_get (D := D) (ci := 0) (v := .ref a2) (C := RX1) (T := TX1) (N := 2) hx hb hts in_X12_pour_X1 hown hE.1 hP 6 rfl rfl 1 (by decide +kernel) (hts (.fieldLink RX12 308 "ClauseBook$Bag" "numbers" "[I") (List.mem_of_getElem? (i := 3) rfl)) (fun _ h9 => h9) rfl dX12_pour_66 ?_
                refine lv_iload hx hb dX12_pour_69 (lv_at hl 0 rfl) ?_
                refine va_iald hx hb hE.1 hP 9 0 rfl rfl (by rw [vp_in_iff]; first | omega | (subst_vars; rw [dec1 (by omega)]; omega) | (subst_vars; rw [inc1 (n := 1000) (by omega) (by decide +kernel)]; omega)) dX12_pour_71 ?_
                refine lv_topi (fun z_145 ez_145 => ?_)
                have hzF : z_145 = (bf 2) (ii.toNatClampNeg) := by rw [ez_145, hp2]; exact pourF_keep _ _ (by have h8 := tn (x := ii) (by omega); omega)
                refine lv_istore (lv' := [(8, .int z_145), (7, .int ii), (6, .int le), (5, .int (bn 2)), (4, .ref t2), (0, .ref h0), (1, .int 2), (2, .int 1), (3, .int x3)]) hx hb dX12_pour_72 hl (by decide +kernel) rfl (fun ls hl => ?_)
                refine lv_iload_n hx hb dX12_pour_74 rfl (lv_at hl 8 rfl) ?_
                refine lv_iconst (v := (-1)) hx hb dX12_pour_75 (by decide +kernel) ?_
                refine lv_icmp_eq (tgt := 105) hx hb dX12_pour_76 (by decide +kernel) (fun c_146 => ?_) (fun c_146 => ?_)
                · rw [fa_eq] at c_146
                  try rw [ti_n1] at c_146
                  refine lv_iconst (v := 1) hx hb dX12_pour_105 (by decide +kernel) ?_
                  refine lv_goto (tgt := 110) hx hb dX12_pour_106 (by decide +kernel) ?_
                  refine lv_istore (lv' := [(9, .int 1), (8, .int z_145), (7, .int ii), (6, .int le), (5, .int (bn 2)), (4, .ref t2), (0, .ref h0), (1, .int 2), (2, .int 1), (3, .int x3)]) hx hb dX12_pour_110 hl (by decide +kernel) rfl (fun ls hl => ?_)
                  have hM : prP x3 n9 fk z_145 = true := decide_eq_true (by first | exact Or.inl (by omega) | exact Or.inr ⟨(by omega), (by rw [← ez_130]; omega)⟩)
                  refine lv_iload hx hb dX12_pour_112 (lv_at hl 0 rfl) ?_
                  refine lv_if_eq (tgt := 134) hx hb dX12_pour_114 (by decide +kernel) (fun c9 => absurd c9 (by decide +kernel)) (fun _ => ?_)
                  refine lv_aload_n hx hb dX12_pour_117 rfl (lv_at hl 6 rfl) ?_
                  refine va_get (D := D) (ci := 9) (v := .ref h1) (C := RX12) (T := TX12) (N := 11) hx hb hts in_X12_pour_X12 hown hE.1 hP 0 rfl rfl 5 (by decide +kernel) (hts (.fieldLink RX12 37 "ClauseBook" "bags" "[LClauseBook$Bag;") (List.mem_of_getElem? (i := 1) rfl)) (fun _ h9 => h9) e0_5 dX12_pour_118 ?_
                  refine lv_iload_n hx hb dX12_pour_121 rfl (lv_at hl 8 rfl) ?_
                  refine va_aldq hx hb hE.1 hP 1 5 rfl rfl (by unfold vp_in; decide) dX12_pour_122 ?_
                  refine W.eq (g2 := F0 m 123 ls [.ref t1]) rfl ?_
                  refine lv_iload hx hb dX12_pour_123 (lv_at hl 1 rfl) ?_
                  have hFc := va_free (wc := [(t1, .inr (0, [.int qq, .ref a1])), (a1, .inl (T 0, 12, .inl g1))]) hD hS hA [5, 8] rfl
                  refine va_calli (va_runV (As := [.int z_145]) (rest := []) ⟨hx, hb, hml, hown, hts⟩ (c_X1_append l D T _ t1 qq a1 g1 z_145 (by omega)) (cwV 1 hts gX12_pour_X1_append rfl rfl rfl hv_X1_append ⟨Nat.le_of_ble_eq_true rfl, Nat.le_of_ble_eq_true rfl⟩) (pW_V (q := (RX1, TX1, 2)) (ci := 0) (q0 := 5) hP hE hD rfl rfl [5, 8] (by decide +kernel) rfl rfl) rfl rfl hl.1 rfl (lv_room (Nat.le_of_ble_eq_true rfl)) dX12_pour_125 ⟨Nat.le_of_ble_eq_true rfl, Nat.le_of_ble_eq_true rfl⟩) hS (fun q _ h => hFc q h) hFc (fun r_147 u_148 t H1 locs ht hvm hr_147 hB hz1 hk1 hS => ?_)
                  obtain ⟨n_149, f_150⟩ := u_148
                  have hinn_149 : 0 ≤ n_149.toInt ∧ n_149.toInt ≤ 12 := hr_147.2.1
                  have hap : ((qq).toInt < 12 → n_149.toInt = (qq).toInt + 1 ∧ f_150 = upd g1 ((qq).toNatClampNeg) z_145) ∧ (¬ (qq).toInt < 12 → n_149 = qq ∧ f_150 = g1) := hr_147.2.2
                  have hbo : r_147 = if (qq).toInt < 12 then 1 else 0 := hr_147.1
                  obtain ⟨hP1, hD1⟩ := hB
                  rw [ht] at hP1
                  obtain ⟨hP, hD⟩ := va_repl [(h0, .inr (9, fs0)), (h1, .inl (T 5, 3, .inr (.inr (.inr (.inr (va_up (va_up (va_up (fun _ => none) 0 (some t0)) 1 (some t1)) 2 (some t2))))))), (h2, .inr (1, fs2)), (h4, .inl (T 0, 24, .inl fk)), (t0, .inr (0, [.int (bn 0), .ref a0])), (t1, .inr (0, [.int n_149, .ref a1])), (t2, .inr (0, [.int (bn 2), .ref a2])), (a0, .inl (T 0, 12, .inl (bf 0))), (a1, .inl (T 0, 12, .inl f_150)), (a2, .inl (T 0, 12, .inl g2))] hP hD [5, 8] [5, 8] rfl (by decide +kernel) rfl rfl rfl hk1 hP1
                  clear hP1 hD1 hFc
                  generalize H1 = H at hP hS ⊢
                  rcases bool_post hbo with ⟨c_151, rfl⟩ | ⟨c_151, rfl⟩
                  · refine lv_if_eq (tgt := 134) hx hb dX12_pour_128 (by decide +kernel) (fun c9 => absurd c9 (by decide +kernel)) (fun _ => ?_)
                    refine lv_goto (tgt := 147) hx hb dX12_pour_131 (by decide +kernel) ?_
                    obtain ⟨z_152, ez_152⟩ : ∃ y : Int32, y = ii + 1 := ⟨_, rfl⟩
                    refine lv_iinc (v := z_152) (lv' := [(7, .int z_152), (9, .int 1), (8, .int z_145), (6, .int le), (5, .int (bn 2)), (4, .ref t2), (0, .ref h0), (1, .int 2), (2, .int 1), (3, .int x3)]) hx hb dX12_pour_147 hl (k := 2) rfl (by rw [ez_152]; rfl) (by decide +kernel) rfl (fun ls hl => ?_)
                    have hi9 : z_152.toInt = ii.toInt + 1 := by rw [ez_152]; exact inc1 (n := 1000) (by omega) (by decide +kernel)
                    refine lv_goto (tgt := 57) hx hb dX12_pour_150 (by decide +kernel) ?_
                    exact ih (z_152, le, n_149, g2, f_150) ls _ _ ⟨lv_sub hl [0, 3, 4, 5, 6, 7, 8, 9] rfl, hP.sub [0, 1, 2, 3, 4, 5, 6, 7, 8, 9] rfl, hD.sub [0, 1, 2, 3, 4, 5, 6, 7, 8, 9] (by decide +kernel) rfl, hS, ⟨(by (try dsimp only); omega), (by (try dsimp only); exact pour_stepY (by omega) hi9 hp1 hp2 hp3 hp4 hzF hM (by omega) (hap.1 (by omega)).1 (hap.1 (by omega)).2)⟩⟩ (by (try dsimp only); omega)
                  · refine lv_if_eq (tgt := 134) hx hb dX12_pour_128 (by decide +kernel) (fun _ => ?_) (fun c9 => absurd c9 (by decide +kernel))
                    refine lv_aload hx hb dX12_pour_134 (lv_at hl 5 rfl) ?_
                    refine va_get (D := D) (ci := 0) (v := .ref a2) (C := RX1) (T := TX1) (N := 2) hx hb hts in_X12_pour_X1 hown hE.1 hP 6 rfl rfl 1 (by decide +kernel) (hts (.fieldLink RX12 308 "ClauseBook$Bag" "numbers" "[I") (List.mem_of_getElem? (i := 3) rfl)) (fun _ h9 => h9) rfl dX12_pour_136 ?_
                    refine lv_iload hx hb dX12_pour_139 (lv_at hl 3 rfl) ?_
                    refine lv_iload hx hb dX12_pour_141 (lv_at hl 1 rfl) ?_
                    refine va_iast hx hb hE.1 hP hD hS 9 0 rfl rfl (by rw [vp_in_iff]; first | omega | (subst_vars; rw [dec1 (by omega)]; omega) | (subst_vars; rw [inc1 (n := 1000) (by omega) (by decide +kernel)]; omega)) dX12_pour_143 (fun H locs hP hD hS => ?_)
                    obtain ⟨hP, hD⟩ := wPD [(h0, .inr (9, fs0)), (h1, .inl (T 5, 3, .inr (.inr (.inr (.inr (va_up (va_up (va_up (fun _ => none) 0 (some t0)) 1 (some t1)) 2 (some t2))))))), (h2, .inr (1, fs2)), (h4, .inl (T 0, 24, .inl fk)), (t0, .inr (0, [.int (bn 0), .ref a0])), (t1, .inr (0, [.int n_149, .ref a1])), (t2, .inr (0, [.int (bn 2), .ref a2])), (a0, .inl (T 0, 12, .inl (bf 0))), (a1, .inl (T 0, 12, .inl f_150)), (a2, .inl (T 0, 12, .inl (upd g2 (le.toNatClampNeg) z_145)))] hP hD rfl
                    obtain ⟨z_153, ez_153⟩ : ∃ y : Int32, y = le + 1 := ⟨_, rfl⟩
                    refine lv_iinc (v := z_153) (lv' := [(6, .int z_153), (9, .int 1), (8, .int z_145), (7, .int ii), (5, .int (bn 2)), (4, .ref t2), (0, .ref h0), (1, .int 2), (2, .int 1), (3, .int x3)]) hx hb dX12_pour_144 hl (k := 3) rfl (by rw [ez_153]; rfl) (by decide +kernel) rfl (fun ls hl => ?_)
                    obtain ⟨z_154, ez_154⟩ : ∃ y : Int32, y = ii + 1 := ⟨_, rfl⟩
                    refine lv_iinc (v := z_154) (lv' := [(7, .int z_154), (6, .int z_153), (9, .int 1), (8, .int z_145), (5, .int (bn 2)), (4, .ref t2), (0, .ref h0), (1, .int 2), (2, .int 1), (3, .int x3)]) hx hb dX12_pour_147 hl (k := 3) rfl (by rw [ez_154]; rfl) (by decide +kernel) rfl (fun ls hl => ?_)
                    have hi9 : z_154.toInt = ii.toInt + 1 := by rw [ez_154]; exact inc1 (n := 1000) (by omega) (by decide +kernel)
                    have hl9 : z_153.toInt = le.toInt + 1 := by rw [ez_153]; exact inc1 (n := 1000) (by omega) (by decide +kernel)
                    refine lv_goto (tgt := 57) hx hb dX12_pour_150 (by decide +kernel) ?_
                    exact ih (z_154, z_153, n_149, (upd g2 (le.toNatClampNeg) z_145), f_150) ls _ _ ⟨lv_sub hl [0, 1, 4, 5, 6, 7, 8, 9] rfl, hP.sub [0, 1, 2, 3, 4, 5, 6, 7, 8, 9] rfl, hD.sub [0, 1, 2, 3, 4, 5, 6, 7, 8, 9] (by decide +kernel) rfl, hS, ⟨(by (try dsimp only); omega), (by (try dsimp only); exact pour_stepN (by omega) (by omega) hi9 hp1 hp2 hp3 hp4 hzF (fun h9 => by first | exact hM h9.1 | omega) hl9 rfl (by rw [(hap.2 (by omega)).1]) (hap.2 (by omega)).2)⟩⟩ (by (try dsimp only); omega)
                · rw [fa_eq] at c_146
                  try rw [ti_n1] at c_146
                  refine lv_aload_n hx hb dX12_pour_79 rfl (lv_at hl 5 rfl) ?_
                  refine va_get (D := D) (ci := 9) (v := .ref h2) (C := RX12) (T := TX12) (N := 11) hx hb hts in_X12_pour_X12 hown hE.1 hP 0 rfl rfl 4 (by decide +kernel) (hts (.fieldLink RX12 32 "ClauseBook" "clauses" "LClauseBook$Clauses;") (List.mem_of_getElem? (i := 4) rfl)) (fun _ h9 => h9) e0_4 dX12_pour_80 ?_
                  refine lv_iload hx hb dX12_pour_83 (lv_at hl 0 rfl) ?_
                  refine vp_callSi (W.runV (As := [.int z_145]) (rest := []) ⟨hx, hb, hml, hown, hts⟩ (c_X2_has l D T h2 fs2 z_145 n9 e2_0 (by omega)) (cwV 1 hts gX12_pour_X2_has rfl rfl rfl hv_X2_has ⟨Nat.le_of_ble_eq_true rfl, Nat.le_of_ble_eq_true rfl⟩) (pR_V (q := (RX2, TX2, 8)) (ci := 1) (q0 := 2) hP hE rfl rfl [2] rfl) rfl rfl hl.1 rfl (lv_room (Nat.le_of_ble_eq_true rfl)) dX12_pour_85 ⟨Nat.le_of_ble_eq_true rfl, Nat.le_of_ble_eq_true rfl⟩) (fun r_155 hr_155 => ?_)
                  rcases bool_post hr_155 with ⟨c_156, rfl⟩ | ⟨c_156, rfl⟩
                  · refine lv_if_eq (tgt := 109) hx hb dX12_pour_88 (by decide +kernel) (fun c9 => absurd c9 (by decide +kernel)) (fun _ => ?_)
                    refine lv_aload_n hx hb dX12_pour_91 rfl (lv_at hl 5 rfl) ?_
                    refine va_get (D := D) (ci := 9) (v := .ref h2) (C := RX12) (T := TX12) (N := 11) hx hb hts in_X12_pour_X12 hown hE.1 hP 0 rfl rfl 4 (by decide +kernel) (hts (.fieldLink RX12 32 "ClauseBook" "clauses" "LClauseBook$Clauses;") (List.mem_of_getElem? (i := 4) rfl)) (fun _ h9 => h9) e0_4 dX12_pour_92 ?_
                    refine va_get (D := D) (ci := 1) (v := .ref h4) (C := RX2) (T := TX2) (N := 8) hx hb hts in_X12_pour_X2 hown hE.1 hP 2 rfl rfl 1 (by decide +kernel) (hts (.fieldLink RX12 153 "ClauseBook$Clauses" "kind" "[I") (List.mem_of_getElem? (i := 5) rfl)) (fun _ h9 => h9) e2_1 dX12_pour_95 ?_
                    refine lv_iload hx hb dX12_pour_98 (lv_at hl 0 rfl) ?_
                    refine va_iald hx hb hE.1 hP 3 0 rfl rfl (by rw [vp_in_iff]; first | omega | (subst_vars; rw [dec1 (by omega)]; omega) | (subst_vars; rw [inc1 (n := 1000) (by omega) (by decide +kernel)]; omega)) dX12_pour_100 ?_
                    refine lv_topi (fun z_157 ez_157 => ?_)
                    refine lv_iload_n hx hb dX12_pour_101 rfl (lv_at hl 8 rfl) ?_
                    refine lv_icmp_ne (tgt := 109) hx hb dX12_pour_102 (by decide +kernel) (fun c_158 => ?_) (fun c_158 => ?_)
                    · rw [fa_eq] at c_158
                      refine lv_iconst (v := 0) hx hb dX12_pour_109 (by decide +kernel) ?_
                      refine lv_istore (lv' := [(9, .int 0), (8, .int z_145), (7, .int ii), (6, .int le), (5, .int (bn 2)), (4, .ref t2), (0, .ref h0), (1, .int 2), (2, .int 1), (3, .int x3)]) hx hb dX12_pour_110 hl (by decide +kernel) rfl (fun ls hl => ?_)
                      have hM : ¬ prP x3 n9 fk z_145 = true := fun h9 => by rcases of_decide_eq_true h9 with h8 | ⟨h8, h7⟩ <;> first | omega | (rw [← ez_157] at h7; omega)
                      refine lv_iload hx hb dX12_pour_112 (lv_at hl 0 rfl) ?_
                      refine lv_if_eq (tgt := 134) hx hb dX12_pour_114 (by decide +kernel) (fun _ => ?_) (fun c9 => absurd c9 (by decide +kernel))
                      refine lv_aload hx hb dX12_pour_134 (lv_at hl 5 rfl) ?_
                      refine va_get (D := D) (ci := 0) (v := .ref a2) (C := RX1) (T := TX1) (N := 2) hx hb hts in_X12_pour_X1 hown hE.1 hP 6 rfl rfl 1 (by decide +kernel) (hts (.fieldLink RX12 308 "ClauseBook$Bag" "numbers" "[I") (List.mem_of_getElem? (i := 3) rfl)) (fun _ h9 => h9) rfl dX12_pour_136 ?_
                      refine lv_iload hx hb dX12_pour_139 (lv_at hl 3 rfl) ?_
                      refine lv_iload hx hb dX12_pour_141 (lv_at hl 1 rfl) ?_
                      refine va_iast hx hb hE.1 hP hD hS 9 0 rfl rfl (by rw [vp_in_iff]; first | omega | (subst_vars; rw [dec1 (by omega)]; omega) | (subst_vars; rw [inc1 (n := 1000) (by omega) (by decide +kernel)]; omega)) dX12_pour_143 (fun H locs hP hD hS => ?_)
                      obtain ⟨hP, hD⟩ := wPD [(h0, .inr (9, fs0)), (h1, .inl (T 5, 3, .inr (.inr (.inr (.inr (va_up (va_up (va_up (fun _ => none) 0 (some t0)) 1 (some t1)) 2 (some t2))))))), (h2, .inr (1, fs2)), (h4, .inl (T 0, 24, .inl fk)), (t0, .inr (0, [.int (bn 0), .ref a0])), (t1, .inr (0, [.int qq, .ref a1])), (t2, .inr (0, [.int (bn 2), .ref a2])), (a0, .inl (T 0, 12, .inl (bf 0))), (a1, .inl (T 0, 12, .inl g1)), (a2, .inl (T 0, 12, .inl (upd g2 (le.toNatClampNeg) z_145)))] hP hD rfl
                      obtain ⟨z_159, ez_159⟩ : ∃ y : Int32, y = le + 1 := ⟨_, rfl⟩
                      refine lv_iinc (v := z_159) (lv' := [(6, .int z_159), (9, .int 0), (8, .int z_145), (7, .int ii), (5, .int (bn 2)), (4, .ref t2), (0, .ref h0), (1, .int 2), (2, .int 1), (3, .int x3)]) hx hb dX12_pour_144 hl (k := 3) rfl (by rw [ez_159]; rfl) (by decide +kernel) rfl (fun ls hl => ?_)
                      obtain ⟨z_160, ez_160⟩ : ∃ y : Int32, y = ii + 1 := ⟨_, rfl⟩
                      refine lv_iinc (v := z_160) (lv' := [(7, .int z_160), (6, .int z_159), (9, .int 0), (8, .int z_145), (5, .int (bn 2)), (4, .ref t2), (0, .ref h0), (1, .int 2), (2, .int 1), (3, .int x3)]) hx hb dX12_pour_147 hl (k := 3) rfl (by rw [ez_160]; rfl) (by decide +kernel) rfl (fun ls hl => ?_)
                      have hi9 : z_160.toInt = ii.toInt + 1 := by rw [ez_160]; exact inc1 (n := 1000) (by omega) (by decide +kernel)
                      have hl9 : z_159.toInt = le.toInt + 1 := by rw [ez_159]; exact inc1 (n := 1000) (by omega) (by decide +kernel)
                      refine lv_goto (tgt := 57) hx hb dX12_pour_150 (by decide +kernel) ?_
                      exact ih (z_160, z_159, qq, (upd g2 (le.toNatClampNeg) z_145), g1) ls _ _ ⟨lv_sub hl [0, 1, 4, 5, 6, 7, 8, 9] rfl, hP.sub [0, 1, 2, 3, 4, 5, 6, 7, 8, 9] rfl, hD.sub [0, 1, 2, 3, 4, 5, 6, 7, 8, 9] (by decide +kernel) rfl, hS, ⟨(by (try dsimp only); omega), (by (try dsimp only); exact pour_stepN (by omega) (by omega) hi9 hp1 hp2 hp3 hp4 hzF (fun h9 => by first | exact hM h9.1 | omega) hl9 rfl rfl rfl)⟩⟩ (by (try dsimp only); omega)
                    · rw [fa_eq] at c_158
                      refine lv_iconst (v := 1) hx hb dX12_pour_105 (by decide +kernel) ?_
                      refine lv_goto (tgt := 110) hx hb dX12_pour_106 (by decide +kernel) ?_
                      refine lv_istore (lv' := [(9, .int 1), (8, .int z_145), (7, .int ii), (6, .int le), (5, .int (bn 2)), (4, .ref t2), (0, .ref h0), (1, .int 2), (2, .int 1), (3, .int x3)]) hx hb dX12_pour_110 hl (by decide +kernel) rfl (fun ls hl => ?_)
                      have hM : prP x3 n9 fk z_145 = true := decide_eq_true (by first | exact Or.inl (by omega) | exact Or.inr ⟨(by omega), (by rw [← ez_157]; omega)⟩)
                      refine lv_iload hx hb dX12_pour_112 (lv_at hl 0 rfl) ?_
                      refine lv_if_eq (tgt := 134) hx hb dX12_pour_114 (by decide +kernel) (fun c9 => absurd c9 (by decide +kernel)) (fun _ => ?_)
                      refine lv_aload_n hx hb dX12_pour_117 rfl (lv_at hl 6 rfl) ?_
                      refine va_get (D := D) (ci := 9) (v := .ref h1) (C := RX12) (T := TX12) (N := 11) hx hb hts in_X12_pour_X12 hown hE.1 hP 0 rfl rfl 5 (by decide +kernel) (hts (.fieldLink RX12 37 "ClauseBook" "bags" "[LClauseBook$Bag;") (List.mem_of_getElem? (i := 1) rfl)) (fun _ h9 => h9) e0_5 dX12_pour_118 ?_
                      refine lv_iload_n hx hb dX12_pour_121 rfl (lv_at hl 8 rfl) ?_
                      refine va_aldq hx hb hE.1 hP 1 5 rfl rfl (by unfold vp_in; decide) dX12_pour_122 ?_
                      refine W.eq (g2 := F0 m 123 ls [.ref t1]) rfl ?_
                      refine lv_iload hx hb dX12_pour_123 (lv_at hl 1 rfl) ?_
                      have hFc := va_free (wc := [(t1, .inr (0, [.int qq, .ref a1])), (a1, .inl (T 0, 12, .inl g1))]) hD hS hA [5, 8] rfl
                      refine va_calli (va_runV (As := [.int z_145]) (rest := []) ⟨hx, hb, hml, hown, hts⟩ (c_X1_append l D T _ t1 qq a1 g1 z_145 (by omega)) (cwV 1 hts gX12_pour_X1_append rfl rfl rfl hv_X1_append ⟨Nat.le_of_ble_eq_true rfl, Nat.le_of_ble_eq_true rfl⟩) (pW_V (q := (RX1, TX1, 2)) (ci := 0) (q0 := 5) hP hE hD rfl rfl [5, 8] (by decide +kernel) rfl rfl) rfl rfl hl.1 rfl (lv_room (Nat.le_of_ble_eq_true rfl)) dX12_pour_125 ⟨Nat.le_of_ble_eq_true rfl, Nat.le_of_ble_eq_true rfl⟩) hS (fun q _ h => hFc q h) hFc (fun r_161 u_162 t H1 locs ht hvm hr_161 hB hz1 hk1 hS => ?_)
                      obtain ⟨n_163, f_164⟩ := u_162
                      have hinn_163 : 0 ≤ n_163.toInt ∧ n_163.toInt ≤ 12 := hr_161.2.1
                      have hap : ((qq).toInt < 12 → n_163.toInt = (qq).toInt + 1 ∧ f_164 = upd g1 ((qq).toNatClampNeg) z_145) ∧ (¬ (qq).toInt < 12 → n_163 = qq ∧ f_164 = g1) := hr_161.2.2
                      have hbo : r_161 = if (qq).toInt < 12 then 1 else 0 := hr_161.1
                      obtain ⟨hP1, hD1⟩ := hB
                      rw [ht] at hP1
                      obtain ⟨hP, hD⟩ := va_repl [(h0, .inr (9, fs0)), (h1, .inl (T 5, 3, .inr (.inr (.inr (.inr (va_up (va_up (va_up (fun _ => none) 0 (some t0)) 1 (some t1)) 2 (some t2))))))), (h2, .inr (1, fs2)), (h4, .inl (T 0, 24, .inl fk)), (t0, .inr (0, [.int (bn 0), .ref a0])), (t1, .inr (0, [.int n_163, .ref a1])), (t2, .inr (0, [.int (bn 2), .ref a2])), (a0, .inl (T 0, 12, .inl (bf 0))), (a1, .inl (T 0, 12, .inl f_164)), (a2, .inl (T 0, 12, .inl g2))] hP hD [5, 8] [5, 8] rfl (by decide +kernel) rfl rfl rfl hk1 hP1
                      clear hP1 hD1 hFc
                      generalize H1 = H at hP hS ⊢
                      rcases bool_post hbo with ⟨c_165, rfl⟩ | ⟨c_165, rfl⟩
                      · refine lv_if_eq (tgt := 134) hx hb dX12_pour_128 (by decide +kernel) (fun c9 => absurd c9 (by decide +kernel)) (fun _ => ?_)
                        refine lv_goto (tgt := 147) hx hb dX12_pour_131 (by decide +kernel) ?_
                        obtain ⟨z_166, ez_166⟩ : ∃ y : Int32, y = ii + 1 := ⟨_, rfl⟩
                        refine lv_iinc (v := z_166) (lv' := [(7, .int z_166), (9, .int 1), (8, .int z_145), (6, .int le), (5, .int (bn 2)), (4, .ref t2), (0, .ref h0), (1, .int 2), (2, .int 1), (3, .int x3)]) hx hb dX12_pour_147 hl (k := 2) rfl (by rw [ez_166]; rfl) (by decide +kernel) rfl (fun ls hl => ?_)
                        have hi9 : z_166.toInt = ii.toInt + 1 := by rw [ez_166]; exact inc1 (n := 1000) (by omega) (by decide +kernel)
                        refine lv_goto (tgt := 57) hx hb dX12_pour_150 (by decide +kernel) ?_
                        exact ih (z_166, le, n_163, g2, f_164) ls _ _ ⟨lv_sub hl [0, 3, 4, 5, 6, 7, 8, 9] rfl, hP.sub [0, 1, 2, 3, 4, 5, 6, 7, 8, 9] rfl, hD.sub [0, 1, 2, 3, 4, 5, 6, 7, 8, 9] (by decide +kernel) rfl, hS, ⟨(by (try dsimp only); omega), (by (try dsimp only); exact pour_stepY (by omega) hi9 hp1 hp2 hp3 hp4 hzF hM (by omega) (hap.1 (by omega)).1 (hap.1 (by omega)).2)⟩⟩ (by (try dsimp only); omega)
                      · refine lv_if_eq (tgt := 134) hx hb dX12_pour_128 (by decide +kernel) (fun _ => ?_) (fun c9 => absurd c9 (by decide +kernel))
                        refine lv_aload hx hb dX12_pour_134 (lv_at hl 5 rfl) ?_
                        refine va_get (D := D) (ci := 0) (v := .ref a2) (C := RX1) (T := TX1) (N := 2) hx hb hts in_X12_pour_X1 hown hE.1 hP 6 rfl rfl 1 (by decide +kernel) (hts (.fieldLink RX12 308 "ClauseBook$Bag" "numbers" "[I") (List.mem_of_getElem? (i := 3) rfl)) (fun _ h9 => h9) rfl dX12_pour_136 ?_
                        refine lv_iload hx hb dX12_pour_139 (lv_at hl 3 rfl) ?_
                        refine lv_iload hx hb dX12_pour_141 (lv_at hl 1 rfl) ?_
                        refine va_iast hx hb hE.1 hP hD hS 9 0 rfl rfl (by rw [vp_in_iff]; first | omega | (subst_vars; rw [dec1 (by omega)]; omega) | (subst_vars; rw [inc1 (n := 1000) (by omega) (by decide +kernel)]; omega)) dX12_pour_143 (fun H locs hP hD hS => ?_)
                        obtain ⟨hP, hD⟩ := wPD [(h0, .inr (9, fs0)), (h1, .inl (T 5, 3, .inr (.inr (.inr (.inr (va_up (va_up (va_up (fun _ => none) 0 (some t0)) 1 (some t1)) 2 (some t2))))))), (h2, .inr (1, fs2)), (h4, .inl (T 0, 24, .inl fk)), (t0, .inr (0, [.int (bn 0), .ref a0])), (t1, .inr (0, [.int n_163, .ref a1])), (t2, .inr (0, [.int (bn 2), .ref a2])), (a0, .inl (T 0, 12, .inl (bf 0))), (a1, .inl (T 0, 12, .inl f_164)), (a2, .inl (T 0, 12, .inl (upd g2 (le.toNatClampNeg) z_145)))] hP hD rfl
                        obtain ⟨z_167, ez_167⟩ : ∃ y : Int32, y = le + 1 := ⟨_, rfl⟩
                        refine lv_iinc (v := z_167) (lv' := [(6, .int z_167), (9, .int 1), (8, .int z_145), (7, .int ii), (5, .int (bn 2)), (4, .ref t2), (0, .ref h0), (1, .int 2), (2, .int 1), (3, .int x3)]) hx hb dX12_pour_144 hl (k := 3) rfl (by rw [ez_167]; rfl) (by decide +kernel) rfl (fun ls hl => ?_)
                        obtain ⟨z_168, ez_168⟩ : ∃ y : Int32, y = ii + 1 := ⟨_, rfl⟩
                        refine lv_iinc (v := z_168) (lv' := [(7, .int z_168), (6, .int z_167), (9, .int 1), (8, .int z_145), (5, .int (bn 2)), (4, .ref t2), (0, .ref h0), (1, .int 2), (2, .int 1), (3, .int x3)]) hx hb dX12_pour_147 hl (k := 3) rfl (by rw [ez_168]; rfl) (by decide +kernel) rfl (fun ls hl => ?_)
                        have hi9 : z_168.toInt = ii.toInt + 1 := by rw [ez_168]; exact inc1 (n := 1000) (by omega) (by decide +kernel)
                        have hl9 : z_167.toInt = le.toInt + 1 := by rw [ez_167]; exact inc1 (n := 1000) (by omega) (by decide +kernel)
                        refine lv_goto (tgt := 57) hx hb dX12_pour_150 (by decide +kernel) ?_
                        exact ih (z_168, z_167, n_163, (upd g2 (le.toNatClampNeg) z_145), f_164) ls _ _ ⟨lv_sub hl [0, 1, 4, 5, 6, 7, 8, 9] rfl, hP.sub [0, 1, 2, 3, 4, 5, 6, 7, 8, 9] rfl, hD.sub [0, 1, 2, 3, 4, 5, 6, 7, 8, 9] (by decide +kernel) rfl, hS, ⟨(by (try dsimp only); omega), (by (try dsimp only); exact pour_stepN (by omega) (by omega) hi9 hp1 hp2 hp3 hp4 hzF (fun h9 => by first | exact hM h9.1 | omega) hl9 rfl (by rw [(hap.2 (by omega)).1]) (hap.2 (by omega)).2)⟩⟩ (by (try dsimp only); omega)
                  · refine lv_if_eq (tgt := 109) hx hb dX12_pour_88 (by decide +kernel) (fun _ => ?_) (fun c9 => absurd c9 (by decide +kernel))
                    refine lv_iconst (v := 0) hx hb dX12_pour_109 (by decide +kernel) ?_
                    refine lv_istore (lv' := [(9, .int 0), (8, .int z_145), (7, .int ii), (6, .int le), (5, .int (bn 2)), (4, .ref t2), (0, .ref h0), (1, .int 2), (2, .int 1), (3, .int x3)]) hx hb dX12_pour_110 hl (by decide +kernel) rfl (fun ls hl => ?_)
                    have hM : ¬ prP x3 n9 fk z_145 = true := fun h9 => by rcases of_decide_eq_true h9 with h8 | ⟨h8, h7⟩ <;> first | omega | (rw [← ez_157] at h7; omega)
                    refine lv_iload hx hb dX12_pour_112 (lv_at hl 0 rfl) ?_
                    refine lv_if_eq (tgt := 134) hx hb dX12_pour_114 (by decide +kernel) (fun _ => ?_) (fun c9 => absurd c9 (by decide +kernel))
                    refine lv_aload hx hb dX12_pour_134 (lv_at hl 5 rfl) ?_
                    refine va_get (D := D) (ci := 0) (v := .ref a2) (C := RX1) (T := TX1) (N := 2) hx hb hts in_X12_pour_X1 hown hE.1 hP 6 rfl rfl 1 (by decide +kernel) (hts (.fieldLink RX12 308 "ClauseBook$Bag" "numbers" "[I") (List.mem_of_getElem? (i := 3) rfl)) (fun _ h9 => h9) rfl dX12_pour_136 ?_
                    refine lv_iload hx hb dX12_pour_139 (lv_at hl 3 rfl) ?_
                    refine lv_iload hx hb dX12_pour_141 (lv_at hl 1 rfl) ?_
                    refine va_iast hx hb hE.1 hP hD hS 9 0 rfl rfl (by rw [vp_in_iff]; first | omega | (subst_vars; rw [dec1 (by omega)]; omega) | (subst_vars; rw [inc1 (n := 1000) (by omega) (by decide +kernel)]; omega)) dX12_pour_143 (fun H locs hP hD hS => ?_)
                    obtain ⟨hP, hD⟩ := wPD [(h0, .inr (9, fs0)), (h1, .inl (T 5, 3, .inr (.inr (.inr (.inr (va_up (va_up (va_up (fun _ => none) 0 (some t0)) 1 (some t1)) 2 (some t2))))))), (h2, .inr (1, fs2)), (h4, .inl (T 0, 24, .inl fk)), (t0, .inr (0, [.int (bn 0), .ref a0])), (t1, .inr (0, [.int qq, .ref a1])), (t2, .inr (0, [.int (bn 2), .ref a2])), (a0, .inl (T 0, 12, .inl (bf 0))), (a1, .inl (T 0, 12, .inl g1)), (a2, .inl (T 0, 12, .inl (upd g2 (le.toNatClampNeg) z_145)))] hP hD rfl
                    obtain ⟨z_169, ez_169⟩ : ∃ y : Int32, y = le + 1 := ⟨_, rfl⟩
                    refine lv_iinc (v := z_169) (lv' := [(6, .int z_169), (9, .int 0), (8, .int z_145), (7, .int ii), (5, .int (bn 2)), (4, .ref t2), (0, .ref h0), (1, .int 2), (2, .int 1), (3, .int x3)]) hx hb dX12_pour_144 hl (k := 3) rfl (by rw [ez_169]; rfl) (by decide +kernel) rfl (fun ls hl => ?_)
                    obtain ⟨z_170, ez_170⟩ : ∃ y : Int32, y = ii + 1 := ⟨_, rfl⟩
                    refine lv_iinc (v := z_170) (lv' := [(7, .int z_170), (6, .int z_169), (9, .int 0), (8, .int z_145), (5, .int (bn 2)), (4, .ref t2), (0, .ref h0), (1, .int 2), (2, .int 1), (3, .int x3)]) hx hb dX12_pour_147 hl (k := 3) rfl (by rw [ez_170]; rfl) (by decide +kernel) rfl (fun ls hl => ?_)
                    have hi9 : z_170.toInt = ii.toInt + 1 := by rw [ez_170]; exact inc1 (n := 1000) (by omega) (by decide +kernel)
                    have hl9 : z_169.toInt = le.toInt + 1 := by rw [ez_169]; exact inc1 (n := 1000) (by omega) (by decide +kernel)
                    refine lv_goto (tgt := 57) hx hb dX12_pour_150 (by decide +kernel) ?_
                    exact ih (z_170, z_169, qq, (upd g2 (le.toNatClampNeg) z_145), g1) ls _ _ ⟨lv_sub hl [0, 1, 4, 5, 6, 7, 8, 9] rfl, hP.sub [0, 1, 2, 3, 4, 5, 6, 7, 8, 9] rfl, hD.sub [0, 1, 2, 3, 4, 5, 6, 7, 8, 9] (by decide +kernel) rfl, hS, ⟨(by (try dsimp only); omega), (by (try dsimp only); exact pour_stepN (by omega) (by omega) hi9 hp1 hp2 hp3 hp4 hzF (fun h9 => by first | exact hM h9.1 | omega) hl9 rfl rfl rfl)⟩⟩ (by (try dsimp only); omega)
            · omega
        · refine lv_if_ne (tgt := 36) hx hb dX12_pour_30 (by decide +kernel) (fun c9 => absurd c9 (by decide +kernel)) (fun _ => ?_)
          refine lv_bipush (v := (-2)) hx hb dX12_pour_33 (by decide +kernel) ?_
          exact W.iret hx hb hr (fun t ht hW => ⟨⟨_, ((fun k => [(bn 0), (bn 1), (bn 2)].getD k 0), (fun k => [(bf 0), (bf 1), (bf 2)].getD k (bf 0))), rfl, ⟨(show 0 ≤ ((bn 0)).toInt ∧ ((bn 0)).toInt ≤ 12 from by (try subst_vars); first | omega | (rw [dec1 (by omega)]; omega)), (show 0 ≤ ((bn 1)).toInt ∧ ((bn 1)).toInt ≤ 12 from by (try subst_vars); first | omega | (rw [dec1 (by omega)]; omega)), (show 0 ≤ ((bn 2)).toInt ∧ ((bn 2)).toInt ≤ 12 from by (try subst_vars); first | omega | (rw [dec1 (by omega)]; omega)), (Or.inl ⟨(fun h9 => by obtain ⟨⟨h1, h2⟩, h3, h4⟩ := h9; omega), (by decide +kernel), all3 ⟨rfl, rfl⟩ ⟨rfl, rfl⟩ ⟨rfl, rfl⟩⟩)⟩, by rw [ht]; exact hP.sub [0, 1, 2, 3, 4, 5, 6, 7, 8, 9] rfl, hD.sub [0, 1, 2, 3, 4, 5, 6, 7, 8, 9] (by decide +kernel) rfl⟩, hS.F ht⟩) hS.2.2 dX12_pour_35
    · refine lv_if_eq (tgt := 33) hx hb dX12_pour_11 (by decide +kernel) (fun _ => ?_) (fun c9 => absurd c9 (by decide +kernel))
      refine lv_bipush (v := (-2)) hx hb dX12_pour_33 (by decide +kernel) ?_
      exact W.iret hx hb hr (fun t ht hW => ⟨⟨_, ((fun k => [(bn 0), (bn 1), (bn 2)].getD k 0), (fun k => [(bf 0), (bf 1), (bf 2)].getD k (bf 0))), rfl, ⟨(show 0 ≤ ((bn 0)).toInt ∧ ((bn 0)).toInt ≤ 12 from by (try subst_vars); first | omega | (rw [dec1 (by omega)]; omega)), (show 0 ≤ ((bn 1)).toInt ∧ ((bn 1)).toInt ≤ 12 from by (try subst_vars); first | omega | (rw [dec1 (by omega)]; omega)), (show 0 ≤ ((bn 2)).toInt ∧ ((bn 2)).toInt ≤ 12 from by (try subst_vars); first | omega | (rw [dec1 (by omega)]; omega)), (Or.inl ⟨(fun h9 => by obtain ⟨⟨h1, h2⟩, h3, h4⟩ := h9; omega), (by decide +kernel), all3 ⟨rfl, rfl⟩ ⟨rfl, rfl⟩ ⟨rfl, rfl⟩⟩)⟩, by rw [ht]; exact hP.sub [0, 1, 2, 3, 4, 5, 6, 7, 8, 9] rfl, hD.sub [0, 1, 2, 3, 4, 5, 6, 7, 8, 9] (by decide +kernel) rfl⟩, hS.F ht⟩) hS.2.2 dX12_pour_35
  · refine lv_if_eq (tgt := 33) hx hb dX12_pour_4 (by decide +kernel) (fun _ => ?_) (fun c9 => absurd c9 (by decide +kernel))
    refine lv_bipush (v := (-2)) hx hb dX12_pour_33 (by decide +kernel) ?_
    exact W.iret hx hb hr (fun t ht hW => ⟨⟨_, ((fun k => [(bn 0), (bn 1), (bn 2)].getD k 0), (fun k => [(bf 0), (bf 1), (bf 2)].getD k (bf 0))), rfl, ⟨(show 0 ≤ ((bn 0)).toInt ∧ ((bn 0)).toInt ≤ 12 from by (try subst_vars); first | omega | (rw [dec1 (by omega)]; omega)), (show 0 ≤ ((bn 1)).toInt ∧ ((bn 1)).toInt ≤ 12 from by (try subst_vars); first | omega | (rw [dec1 (by omega)]; omega)), (show 0 ≤ ((bn 2)).toInt ∧ ((bn 2)).toInt ≤ 12 from by (try subst_vars); first | omega | (rw [dec1 (by omega)]; omega)), (Or.inl ⟨(fun h9 => by obtain ⟨⟨h1, h2⟩, h3, h4⟩ := h9; omega), (by decide +kernel), all3 ⟨rfl, rfl⟩ ⟨rfl, rfl⟩ ⟨rfl, rfl⟩⟩)⟩, by rw [ht]; exact hP.sub [0, 1, 2, 3, 4, 5, 6, 7, 8, 9] rfl, hD.sub [0, 1, 2, 3, 4, 5, 6, 7, 8, 9] (by decide +kernel) rfl⟩, hS.F ht⟩) hS.2.2 dX12_pour_35
end
section
theorem sum_step {f : Nat → Int32} {i i' n : Int32} (h : ∀ j : Nat, (j : Int) < i.toInt → 0 ≤ (f j).toInt ∧ (f j).toInt < n.toInt) (hi : i'.toInt = i.toInt + 1) (h0 : 0 ≤ i.toInt ∧ i.toInt < 12) (hv : 0 ≤ (f i.toNatClampNeg).toInt ∧ (f i.toNatClampNeg).toInt < n.toInt) : ∀ j : Nat, (j : Int) < i'.toInt → 0 ≤ (f j).toInt ∧ (f j).toInt < n.toInt := by
  intro j hj
  obtain ⟨q, hq, e⟩ := nI_of (x := i) (by rw [fa_lt, ti_0]; omega)
  subst e
  rw [nI_clamp hq] at hv
  rw [nI_toInt hq] at *
  by_cases hjq : j = q
  · subst hjq; exact hv
  · exact h j (by omega)
theorem sum_at {f : Nat → Int32} {i k n : Int32} (h : ∀ j : Nat, (j : Int) < k.toInt → 0 ≤ (f j).toInt ∧ (f j).toInt < n.toInt) (hi : 0 ≤ i.toInt ∧ i.toInt < k.toInt) : 0 ≤ (f i.toNatClampNeg).toInt ∧ (f i.toNatClampNeg).toInt < n.toInt := by
  obtain ⟨q, hq, e⟩ := nI_of (x := i) (by rw [fa_lt, ti_0]; omega)
  subst e
  rw [nI_clamp hq]
  rw [nI_toInt hq] at hi
  exact h q hi.2
theorem ti_5' : (5 : Int32).toNatClampNeg = 5 := by decide
theorem nm5 : (nmT 5).toInt = 2 := by decide
theorem dX12_sum_0 : decode cX12_sum 0 = .ok (.iload_n 1, 1) := by decide +kernel
theorem dX12_sum_1 : decode cX12_sum 1 = .ok (.invokestatic 300, 3) := by decide +kernel
theorem dX12_sum_10 : decode cX12_sum 10 = .ok (.aload_n 0, 1) := by decide +kernel
theorem dX12_sum_101 : decode cX12_sum 101 = .ok (.aload_n 0, 1) := by decide +kernel
theorem dX12_sum_102 : decode cX12_sum 102 = .ok (.getfield 32, 3) := by decide +kernel
theorem dX12_sum_105 : decode cX12_sum 105 = .ok (.getstatic 311, 3) := by decide +kernel
theorem dX12_sum_108 : decode cX12_sum 108 = .ok (.getfield 314, 3) := by decide +kernel
theorem dX12_sum_11 : decode cX12_sum 11 = .ok (.getfield 37, 3) := by decide +kernel
theorem dX12_sum_111 : decode cX12_sum 111 = .ok (.iconst 0, 1) := by decide +kernel
theorem dX12_sum_112 : decode cX12_sum 112 = .ok (.iload_n 3, 1) := by decide +kernel
theorem dX12_sum_113 : decode cX12_sum 113 = .ok (.aload_n 2, 1) := by decide +kernel
theorem dX12_sum_114 : decode cX12_sum 114 = .ok (.getfield 308, 3) := by decide +kernel
theorem dX12_sum_117 : decode cX12_sum 117 = .ok (.iload 4, 2) := by decide +kernel
theorem dX12_sum_119 : decode cX12_sum 119 = .ok (.iaload, 1) := by decide +kernel
theorem dX12_sum_120 : decode cX12_sum 120 = .ok (.invokevirtual 146, 3) := by decide +kernel
theorem dX12_sum_123 : decode cX12_sum 123 = .ok (.istore_n 3, 1) := by decide +kernel
theorem dX12_sum_124 : decode cX12_sum 124 = .ok (.iinc 4 1, 3) := by decide +kernel
theorem dX12_sum_127 : decode cX12_sum 127 = .ok (.goto (-35), 3) := by decide +kernel
theorem dX12_sum_130 : decode cX12_sum 130 = .ok (.iload_n 3, 1) := by decide +kernel
theorem dX12_sum_131 : decode cX12_sum 131 = .ok (.ireturn, 1) := by decide +kernel
theorem dX12_sum_14 : decode cX12_sum 14 = .ok (.iload_n 1, 1) := by decide +kernel
theorem dX12_sum_15 : decode cX12_sum 15 = .ok (.aaload, 1) := by decide +kernel
theorem dX12_sum_16 : decode cX12_sum 16 = .ok (.astore_n 2, 1) := by decide +kernel
theorem dX12_sum_17 : decode cX12_sum 17 = .ok (.aload_n 2, 1) := by decide +kernel
theorem dX12_sum_18 : decode cX12_sum 18 = .ok (.getfield 307, 3) := by decide +kernel
theorem dX12_sum_21 : decode cX12_sum 21 = .ok (.ifCond .ne 5, 3) := by decide +kernel
theorem dX12_sum_24 : decode cX12_sum 24 = .ok (.iconst (-1), 1) := by decide +kernel
theorem dX12_sum_25 : decode cX12_sum 25 = .ok (.ireturn, 1) := by decide +kernel
theorem dX12_sum_26 : decode cX12_sum 26 = .ok (.iconst 0, 1) := by decide +kernel
theorem dX12_sum_27 : decode cX12_sum 27 = .ok (.istore_n 3, 1) := by decide +kernel
theorem dX12_sum_28 : decode cX12_sum 28 = .ok (.iload_n 3, 1) := by decide +kernel
theorem dX12_sum_29 : decode cX12_sum 29 = .ok (.aload_n 2, 1) := by decide +kernel
theorem dX12_sum_30 : decode cX12_sum 30 = .ok (.getfield 307, 3) := by decide +kernel
theorem dX12_sum_33 : decode cX12_sum 33 = .ok (.if_icmp .ge 27, 3) := by decide +kernel
theorem dX12_sum_36 : decode cX12_sum 36 = .ok (.aload_n 0, 1) := by decide +kernel
theorem dX12_sum_37 : decode cX12_sum 37 = .ok (.getfield 32, 3) := by decide +kernel
theorem dX12_sum_4 : decode cX12_sum 4 = .ok (.ifCond .ne 6, 3) := by decide +kernel
theorem dX12_sum_40 : decode cX12_sum 40 = .ok (.aload_n 2, 1) := by decide +kernel
theorem dX12_sum_41 : decode cX12_sum 41 = .ok (.getfield 308, 3) := by decide +kernel
theorem dX12_sum_44 : decode cX12_sum 44 = .ok (.iload_n 3, 1) := by decide +kernel
theorem dX12_sum_45 : decode cX12_sum 45 = .ok (.iaload, 1) := by decide +kernel
theorem dX12_sum_46 : decode cX12_sum 46 = .ok (.invokevirtual 150, 3) := by decide +kernel
theorem dX12_sum_49 : decode cX12_sum 49 = .ok (.ifCond .ne 5, 3) := by decide +kernel
theorem dX12_sum_52 : decode cX12_sum 52 = .ok (.iconst (-1), 1) := by decide +kernel
theorem dX12_sum_53 : decode cX12_sum 53 = .ok (.ireturn, 1) := by decide +kernel
theorem dX12_sum_54 : decode cX12_sum 54 = .ok (.iinc 3 1, 3) := by decide +kernel
theorem dX12_sum_57 : decode cX12_sum 57 = .ok (.goto (-29), 3) := by decide +kernel
theorem dX12_sum_60 : decode cX12_sum 60 = .ok (.aload_n 0, 1) := by decide +kernel
theorem dX12_sum_61 : decode cX12_sum 61 = .ok (.getfield 32, 3) := by decide +kernel
theorem dX12_sum_64 : decode cX12_sum 64 = .ok (.getfield 138, 3) := by decide +kernel
theorem dX12_sum_67 : decode cX12_sum 67 = .ok (.aload_n 2, 1) := by decide +kernel
theorem dX12_sum_68 : decode cX12_sum 68 = .ok (.getfield 307, 3) := by decide +kernel
theorem dX12_sum_7 : decode cX12_sum 7 = .ok (.bipush (-2), 2) := by decide +kernel
theorem dX12_sum_71 : decode cX12_sum 71 = .ok (.iadd, 1) := by decide +kernel
theorem dX12_sum_72 : decode cX12_sum 72 = .ok (.iconst 1, 1) := by decide +kernel
theorem dX12_sum_73 : decode cX12_sum 73 = .ok (.isub, 1) := by decide +kernel
theorem dX12_sum_74 : decode cX12_sum 74 = .ok (.bipush 24, 2) := by decide +kernel
theorem dX12_sum_76 : decode cX12_sum 76 = .ok (.if_icmp .le 6, 3) := by decide +kernel
theorem dX12_sum_79 : decode cX12_sum 79 = .ok (.bipush (-4), 2) := by decide +kernel
theorem dX12_sum_81 : decode cX12_sum 81 = .ok (.ireturn, 1) := by decide +kernel
theorem dX12_sum_82 : decode cX12_sum 82 = .ok (.aload_n 2, 1) := by decide +kernel
theorem dX12_sum_83 : decode cX12_sum 83 = .ok (.getfield 308, 3) := by decide +kernel
theorem dX12_sum_86 : decode cX12_sum 86 = .ok (.iconst 0, 1) := by decide +kernel
theorem dX12_sum_87 : decode cX12_sum 87 = .ok (.iaload, 1) := by decide +kernel
theorem dX12_sum_88 : decode cX12_sum 88 = .ok (.istore_n 3, 1) := by decide +kernel
theorem dX12_sum_89 : decode cX12_sum 89 = .ok (.iconst 1, 1) := by decide +kernel
theorem dX12_sum_9 : decode cX12_sum 9 = .ok (.ireturn, 1) := by decide +kernel
theorem dX12_sum_90 : decode cX12_sum 90 = .ok (.istore 4, 2) := by decide +kernel
theorem dX12_sum_92 : decode cX12_sum 92 = .ok (.iload 4, 2) := by decide +kernel
theorem dX12_sum_94 : decode cX12_sum 94 = .ok (.aload_n 2, 1) := by decide +kernel
theorem dX12_sum_95 : decode cX12_sum 95 = .ok (.getfield 307, 3) := by decide +kernel
theorem dX12_sum_98 : decode cX12_sum 98 = .ok (.if_icmp .ge 32, 3) := by decide +kernel
set_option maxRecDepth 20000 in
theorem ggX12_sum_X12_isBag : GoodIn wsX12_sum wsX12_isBag := goodIn_r _ [11, 12, 13, 10, 14] rfl (by decide +kernel)
set_option maxRecDepth 20000 in
theorem ggX12_sum_X2_append : GoodIn wsX12_sum wsX2_append := goodIn_r _ [24, 20, 25, 26, 27, 28, 29, 18, 30, 31, 32, 33, 34, 35, 36, 37, 38, 39, 40, 41, 42, 43, 44, 45, 46, 47, 48, 49, 50, 51, 52, 66, 67, 68, 69, 70, 71, 72, 73] rfl (by decide +kernel)
set_option maxRecDepth 20000 in
theorem ggX12_sum_X2_has : GoodIn wsX12_sum wsX2_has := goodIn_r _ [19, 20, 13, 10, 14, 66, 67, 68, 69, 70, 71, 72, 73] rfl (by decide +kernel)
set_option maxRecDepth 20000 in
theorem gX12_sum_X12_isBag : GoodIn wsX12_sum (va_wsS RX12 300 yX12_isBag wsX12_isBag) := goodIn_app (goodIn_of _ (by decide +kernel)) ggX12_sum_X12_isBag
set_option maxRecDepth 20000 in
theorem gX12_sum_X2_append : GoodIn wsX12_sum (wsV RX12 146 RX2 yX2_append wsX2_append) := goodIn_app (goodIn_r _ [21, 22, 23, 18] rfl (by decide +kernel)) ggX12_sum_X2_append
set_option maxRecDepth 20000 in
theorem gX12_sum_X2_has : GoodIn wsX12_sum (wsV RX12 150 RX2 yX2_has wsX2_has) := goodIn_app (goodIn_r _ [15, 16, 17, 18] rfl (by decide +kernel)) ggX12_sum_X2_has
set_option maxRecDepth 20000 in
theorem in_X12_sum_X1 : ∀ w ∈ wsX10, w ∈ wsX12_sum := sub_r [64, 65] rfl
set_option maxRecDepth 20000 in
theorem in_X12_sum_X12 : ∀ w ∈ wsX120, w ∈ wsX12_sum := sub_r [53, 54, 55, 56, 57, 58, 59, 60, 61, 62, 63] rfl
set_option maxRecDepth 20000 in
theorem in_X12_sum_X2 : ∀ w ∈ wsX20, w ∈ wsX12_sum := sub_r [66, 67, 68, 69, 70, 71, 72, 73] rfl
set_option maxHeartbeats 4000000 in
set_option maxRecDepth 100000 in
theorem c_X12_sum (l : Launch) (D : va_G) (T : Nat → ClassId) (ad sa av : Nat → Nat) (ta : Nat) (sz : Nat) (h0 : Nat) (h1 : Nat) (h2 : Nat) (fs0 : List Value) (n0 : Int32) (c1 : Nat) (c2 : Nat) (c3 : Nat) (c4 : Nat) (c5 : Nat) (c6 : Nat) (c7 : Nat) (f1 : Nat → Int32) (f2 : Nat → Int32) (f3 : Nat → Int32) (f4 : Nat → Int32) (f5 : Nat → Int32) (f6 : Nat → Int32) (f7 : Nat → Int32) (t0 : Nat) (t1 : Nat) (t2 : Nat) (a0 : Nat) (a1 : Nat) (a2 : Nat) (bn : Nat → Int32) (bf : Nat → Nat → Int32) (x1 : Int32) (e0_5 : fs0[5]? = some (.ref h1)) (e0_4 : fs0[4]? = some (.ref h2)) (hn0 : 0 ≤ n0.toInt ∧ n0.toInt ≤ 24) (hok : okC f1 f3 f4 f5) (hb0 : 0 ≤ (bn 0).toInt ∧ (bn 0).toInt ≤ 12) (hb1 : 0 ≤ (bn 1).toInt ∧ (bn 1).toInt ≤ 12) (hb2 : 0 ≤ (bn 2).toInt ∧ (bn 2).toInt ≤ 12) (hme : ∀ j : Nat, (j : Int) < n0.toInt → mesP f1 f2 f3 f4 f5 f6 f7 j) : Met l yX12_sum wsX12_sum ({ frames := 4, cells := 0, slots := 0, locals := 115 }) (pWk [.ref h0, .int x1] D T [(h0, .inr (9, fs0)), (h1, .inl (T 5, 3, .inr (.inr (.inr (.inr (va_up (va_up (va_up (fun _ => none) 0 (some t0)) 1 (some t1)) 2 (some t2))))))), (h2, .inr (1, [.int n0, .ref c1, .ref c2, .ref c3, .ref c4, .ref c5, .ref c6, .ref c7])), (c1, .inl (T 0, 24, .inl f1)), (c2, .inl (T 0, 24, .inl f2)), (c3, .inl (T 0, 24, .inl f3)), (c4, .inl (T 0, 24, .inl f4)), (c5, .inl (T 0, 24, .inl f5)), (c6, .inl (T 0, 24, .inl f6)), (c7, .inl (T 0, 24, .inl f7)), (t0, .inr (0, [.int (bn 0), .ref a0])), (t1, .inr (0, [.int (bn 1), .ref a1])), (t2, .inr (0, [.int (bn 2), .ref a2])), (a0, .inl (T 0, 12, .inl (bf 0))), (a1, .inl (T 0, 12, .inl (bf 1))), (a2, .inl (T 0, 12, .inl (bf 2)))] sz ad sa av ta) (va_Qi (fun (r : Int32) (u : Nat → Nat → Int32) => ((0 ≤ (u 0 0).toInt ∧ (u 0 0).toInt ≤ 24) ∧ okC (u 1) (u 3) (u 4) (u 5)) ∧ sumC n0 r (u 0 0) (bn x1.toNatClampNeg) (bf x1.toNatClampNeg) f1 f2 f3 f4 (u 1) (u 2) (u 3) (u 4) (¬ (0 ≤ x1.toInt ∧ x1.toInt ≤ 2)) ∧ (∀ j : Nat, (j : Int) < (u 0 0).toInt → mesP (u 1) (u 2) (u 3) (u 4) (u 5) (u 6) (u 7) j)) (bW D (va_A [(h0, .inr (9, fs0)), (h1, .inl (T 5, 3, .inr (.inr (.inr (.inr (va_up (va_up (va_up (fun _ => none) 0 (some t0)) 1 (some t1)) 2 (some t2))))))), (h2, .inr (1, [.int n0, .ref c1, .ref c2, .ref c3, .ref c4, .ref c5, .ref c6, .ref c7])), (c1, .inl (T 0, 24, .inl f1)), (c2, .inl (T 0, 24, .inl f2)), (c3, .inl (T 0, 24, .inl f3)), (c4, .inl (T 0, 24, .inl f4)), (c5, .inl (T 0, 24, .inl f5)), (c6, .inl (T 0, 24, .inl f6)), (c7, .inl (T 0, 24, .inl f7)), (t0, .inr (0, [.int (bn 0), .ref a0])), (t1, .inr (0, [.int (bn 1), .ref a1])), (t2, .inr (0, [.int (bn 2), .ref a2])), (a0, .inl (T 0, 12, .inl (bf 0))), (a1, .inl (T 0, 12, .inl (bf 1))), (a2, .inl (T 0, 12, .inl (bf 2)))] sz) (fun (u : Nat → Nat → Int32) => [(h0, .inr (9, fs0)), (h1, .inl (T 5, 3, .inr (.inr (.inr (.inr (va_up (va_up (va_up (fun _ => none) 0 (some t0)) 1 (some t1)) 2 (some t2))))))), (h2, .inr (1, [.int (u 0 0), .ref c1, .ref c2, .ref c3, .ref c4, .ref c5, .ref c6, .ref c7])), (c1, .inl (T 0, 24, .inl (u 1))), (c2, .inl (T 0, 24, .inl (u 2))), (c3, .inl (T 0, 24, .inl (u 3))), (c4, .inl (T 0, 24, .inl (u 4))), (c5, .inl (T 0, 24, .inl (u 5))), (c6, .inl (T 0, 24, .inl (u 6))), (c7, .inl (T 0, 24, .inl (u 7))), (t0, .inr (0, [.int (bn 0), .ref a0])), (t1, .inr (0, [.int (bn 1), .ref a1])), (t2, .inr (0, [.int (bn 2), .ref a2])), (a0, .inl (T 0, 12, .inl (bf 0))), (a1, .inl (T 0, 12, .inl (bf 1))), (a2, .inl (T 0, 12, .inl (bf 2)))])) (va_A [(h0, .inr (9, fs0)), (h1, .inl (T 5, 3, .inr (.inr (.inr (.inr (va_up (va_up (va_up (fun _ => none) 0 (some t0)) 1 (some t1)) 2 (some t2))))))), (h2, .inr (1, [.int n0, .ref c1, .ref c2, .ref c3, .ref c4, .ref c5, .ref c6, .ref c7])), (c1, .inl (T 0, 24, .inl f1)), (c2, .inl (T 0, 24, .inl f2)), (c3, .inl (T 0, 24, .inl f3)), (c4, .inl (T 0, 24, .inl f4)), (c5, .inl (T 0, 24, .inl f5)), (c6, .inl (T 0, 24, .inl f6)), (c7, .inl (T 0, 24, .inl f7)), (t0, .inr (0, [.int (bn 0), .ref a0])), (t1, .inr (0, [.int (bn 1), .ref a1])), (t2, .inr (0, [.int (bn 2), .ref a2])), (a0, .inl (T 0, 12, .inl (bf 0))), (a1, .inl (T 0, 12, .inl (bf 1))), (a2, .inl (T 0, 12, .inl (bf 2)))] sz)) 0 0 (va_A [(h0, .inr (9, fs0)), (h1, .inl (T 5, 3, .inr (.inr (.inr (.inr (va_up (va_up (va_up (fun _ => none) 0 (some t0)) 1 (some t1)) 2 (some t2))))))), (h2, .inr (1, [.int n0, .ref c1, .ref c2, .ref c3, .ref c4, .ref c5, .ref c6, .ref c7])), (c1, .inl (T 0, 24, .inl f1)), (c2, .inl (T 0, 24, .inl f2)), (c3, .inl (T 0, 24, .inl f3)), (c4, .inl (T 0, 24, .inl f4)), (c5, .inl (T 0, 24, .inl f5)), (c6, .inl (T 0, 24, .inl f6)), (c7, .inl (T 0, 24, .inl f7)), (t0, .inr (0, [.int (bn 0), .ref a0])), (t1, .inr (0, [.int (bn 1), .ref a1])), (t2, .inr (0, [.int (bn 2), .ref a2])), (a0, .inl (T 0, 12, .inl (bf 0))), (a1, .inl (T 0, 12, .inl (bf 1))), (a2, .inl (T 0, 12, .inl (bf 2)))] sz) := by
  refine Met.ofW (cc := cX12_sum) (maxL := 5) (ret := (some .int)) (by decide +kernel) rfl ?_
  intro p e s m args below meth c s₁ B hml hv
  obtain ⟨rfl, hsz, hP, hE, hD0, hV⟩ := hv
  have hx := B.exec
  have hb := B.bytes
  have hr := B.returns
  have hts := atoms_spec (ws := wsX12_sum) B.pre
  have hown : s.vm.findClass RX12 = some m.cls := findClass_of_methodNamed B.named
  have hlocks := B.notSynchronized
  subst hsz
  have hD := hD0.self (sz := s.heap.size)
  generalize hAe : va_A [(h0, .inr (9, fs0)), (h1, .inl (T 5, 3, .inr (.inr (.inr (.inr (va_up (va_up (va_up (fun _ => none) 0 (some t0)) 1 (some t1)) 2 (some t2))))))), (h2, .inr (1, [.int n0, .ref c1, .ref c2, .ref c3, .ref c4, .ref c5, .ref c6, .ref c7])), (c1, .inl (T 0, 24, .inl f1)), (c2, .inl (T 0, 24, .inl f2)), (c3, .inl (T 0, 24, .inl f3)), (c4, .inl (T 0, 24, .inl f4)), (c5, .inl (T 0, 24, .inl f5)), (c6, .inl (T 0, 24, .inl f6)), (c7, .inl (T 0, 24, .inl f7)), (t0, .inr (0, [.int (bn 0), .ref a0])), (t1, .inr (0, [.int (bn 1), .ref a1])), (t2, .inr (0, [.int (bn 2), .ref a2])), (a0, .inl (T 0, 12, .inl (bf 0))), (a1, .inl (T 0, 12, .inl (bf 1))), (a2, .inl (T 0, 12, .inl (bf 2)))] s.heap.size = A at hD hV ⊢
  have hA : ∀ q : Nat, s.heap.size ≤ q → A q := fun q h => by rw [← hAe]; exact Or.inr h
  have hS : va_S A s.heap s.heap [] := va_S.rf
  have hP : va_P D vwCl [(h0, .inr (9, fs0)), (h1, .inl (T 5, 3, .inr (.inr (.inr (.inr (va_up (va_up (va_up (fun _ => none) 0 (some t0)) 1 (some t1)) 2 (some t2))))))), (h2, .inr (1, [.int n0, .ref c1, .ref c2, .ref c3, .ref c4, .ref c5, .ref c6, .ref c7])), (c1, .inl (T 0, 24, .inl f1)), (c2, .inl (T 0, 24, .inl f2)), (c3, .inl (T 0, 24, .inl f3)), (c4, .inl (T 0, 24, .inl f4)), (c5, .inl (T 0, 24, .inl f5)), (c6, .inl (T 0, 24, .inl f6)), (c7, .inl (T 0, 24, .inl f7)), (t0, .inr (0, [.int (bn 0), .ref a0])), (t1, .inr (0, [.int (bn 1), .ref a1])), (t2, .inr (0, [.int (bn 2), .ref a2])), (a0, .inl (T 0, 12, .inl (bf 0))), (a1, .inl (T 0, 12, .inl (bf 1))), (a2, .inl (T 0, 12, .inl (bf 2)))] s.heap := hP
  have hl := lv_entry ([.ref h0, .int x1]) (n := 5) (Nat.le_of_ble_eq_true rfl)
  rw [lg_entry_eq]
  generalize (lg_sl ([.ref h0, .int x1]) ++ List.replicate (5 - (lg_sl ([.ref h0, .int x1])).length) Slot.unset).toArray = ls at hl ⊢
  have hl : lv_has ls 5 [(0, .ref h0), (1, .int x1)] := hl
  clear hD0
  refine lv_iload_n hx hb dX12_sum_0 rfl (lv_at hl 1 rfl) ?_
  refine vp_callSi (W.runS (As := [.int x1]) (rest := []) ⟨hx, hb, hml, hown, hts⟩ (c_X12_isBag l D T x1) (va_cwS 1 hts gX12_sum_X12_isBag rfl rfl rfl hs_X12_isBag ⟨Nat.le_of_ble_eq_true rfl, Nat.le_of_ble_eq_true rfl⟩) (pR_S hP hE [] rfl) rfl rfl hl.1 rfl (lv_room (Nat.le_of_ble_eq_true rfl)) dX12_sum_1 ⟨Nat.le_of_ble_eq_true rfl, Nat.le_of_ble_eq_true rfl⟩) (fun r_1 hr_1 => ?_)
  rcases bool_post hr_1 with ⟨c_2, rfl⟩ | ⟨c_2, rfl⟩
  · refine lv_if_ne (tgt := 10) hx hb dX12_sum_4 (by decide +kernel) (fun _ => ?_) (fun c9 => absurd c9 (by decide +kernel))
    rcases in3 (x := x1) (by omega) with rfl | rfl | rfl
    · refine lv_aload_n hx hb dX12_sum_10 rfl (lv_at hl 0 rfl) ?_
      refine va_get (D := D) (ci := 9) (v := .ref h1) (C := RX12) (T := TX12) (N := 11) hx hb hts in_X12_sum_X12 hown hE.1 hP 0 rfl rfl 5 (by decide +kernel) (hts (.fieldLink RX12 37 "ClauseBook" "bags" "[LClauseBook$Bag;") (List.mem_of_getElem? (i := 1) rfl)) (fun _ h9 => h9) e0_5 dX12_sum_11 ?_
      refine lv_iload_n hx hb dX12_sum_14 rfl (lv_at hl 1 rfl) ?_
      refine va_aldq hx hb hE.1 hP 1 5 rfl rfl (by unfold vp_in; decide) dX12_sum_15 ?_
      refine W.eq (g2 := F0 m 16 ls [.ref t0]) rfl ?_
      refine lv_astore_n (lv' := [(2, .ref t0), (0, .ref h0), (1, .int 0)]) hx hb dX12_sum_16 rfl hl (by decide +kernel) rfl (fun ls hl => ?_)
      refine lv_aload_n hx hb dX12_sum_17 rfl (lv_at hl 0 rfl) ?_
      refine va_get (D := D) (ci := 0) (v := .int (bn 0)) (C := RX1) (T := TX1) (N := 2) hx hb hts in_X12_sum_X1 hown hE.1 hP 10 rfl rfl 0 (by decide +kernel) (hts (.fieldLink RX12 307 "ClauseBook$Bag" "size" "I") (List.mem_of_getElem? (i := 2) rfl)) (fun _ h9 => h9) rfl dX12_sum_18 ?_
      refine lv_if_ne (tgt := 26) hx hb dX12_sum_21 (by decide +kernel) (fun c_3 => ?_) (fun c_3 => ?_)
      · rw [fa_eq] at c_3
        try rw [ti_0] at c_3
        refine lv_iconst (v := 0) hx hb dX12_sum_26 (by decide +kernel) ?_
        refine lv_istore_n (lv' := [(3, .int 0), (2, .ref t0), (0, .ref h0), (1, .int 0)]) hx hb dX12_sum_27 rfl hl (by decide +kernel) rfl (fun ls hl => ?_)
        refine loopR (σ := (Int32)) (fun x9 ls => lv_has ls 5 [(3, .int x9), (2, .ref t0), (0, .ref h0), (1, .int 0)] ∧ (0 ≤ x9.toInt ∧ ∀ j : Nat, (j : Int) < x9.toInt → 0 ≤ (bf 0 j).toInt ∧ (bf 0 j).toInt < n0.toInt)) (fun x9 => (12 - x9.toInt).toNat) (fun x9 ls hI ih => ?_) 0 ls ⟨lv_sub hl [0, 1, 2, 3] rfl, ⟨(by (try dsimp only); decide), (fun j hj => absurd hj (by (try dsimp only); rw [ti_0]; omega))⟩⟩
        obtain ⟨ii, rfl⟩ : ∃ z, z = x9 := ⟨_, rfl⟩
        obtain ⟨hl, hinv⟩ := hI
        have hl : lv_has ls 5 [(3, .int ii), (2, .ref t0), (0, .ref h0), (1, .int 0)] := hl
        have hinv : 0 ≤ ii.toInt ∧ ∀ j : Nat, (j : Int) < ii.toInt → 0 ≤ (bf 0 j).toInt ∧ (bf 0 j).toInt < n0.toInt := hinv
        obtain ⟨hii, hall⟩ := hinv
        refine lv_iload_n hx hb dX12_sum_28 rfl (lv_at hl 0 rfl) ?_
        refine lv_aload_n hx hb dX12_sum_29 rfl (lv_at hl 1 rfl) ?_
        refine va_get (D := D) (ci := 0) (v := .int (bn 0)) (C := RX1) (T := TX1) (N := 2) hx hb hts in_X12_sum_X1 hown hE.1 hP 10 rfl rfl 0 (by decide +kernel) (hts (.fieldLink RX12 307 "ClauseBook$Bag" "size" "I") (List.mem_of_getElem? (i := 2) rfl)) (fun _ h9 => h9) rfl dX12_sum_30 ?_
        refine lv_icmp_ge (tgt := 60) hx hb dX12_sum_33 (by decide +kernel) (fun c_4 => ?_) (fun c_4 => ?_)
        · rw [fa_le] at c_4
          have hall2 : ∀ j : Nat, (j : Int) < (bn 0).toInt → 0 ≤ (bf 0 j).toInt ∧ (bf 0 j).toInt < n0.toInt := fun j hj => hall j (by omega)
          refine lv_aload_n hx hb dX12_sum_60 rfl (lv_at hl 2 rfl) ?_
          refine va_get (D := D) (ci := 9) (v := .ref h2) (C := RX12) (T := TX12) (N := 11) hx hb hts in_X12_sum_X12 hown hE.1 hP 0 rfl rfl 4 (by decide +kernel) (hts (.fieldLink RX12 32 "ClauseBook" "clauses" "LClauseBook$Clauses;") (List.mem_of_getElem? (i := 3) rfl)) (fun _ h9 => h9) e0_4 dX12_sum_61 ?_
          refine va_get (D := D) (ci := 1) (v := .int n0) (C := RX2) (T := TX2) (N := 8) hx hb hts in_X12_sum_X2 hown hE.1 hP 2 rfl rfl 0 (by decide +kernel) (hts (.fieldLink RX12 138 "ClauseBook$Clauses" "size" "I") (List.mem_of_getElem? (i := 5) rfl)) (fun _ h9 => h9) rfl dX12_sum_64 ?_
          refine lv_aload_n hx hb dX12_sum_67 rfl (lv_at hl 1 rfl) ?_
          refine va_get (D := D) (ci := 0) (v := .int (bn 0)) (C := RX1) (T := TX1) (N := 2) hx hb hts in_X12_sum_X1 hown hE.1 hP 10 rfl rfl 0 (by decide +kernel) (hts (.fieldLink RX12 307 "ClauseBook$Bag" "size" "I") (List.mem_of_getElem? (i := 2) rfl)) (fun _ h9 => h9) rfl dX12_sum_68 ?_
          refine lv_iadd hx hb dX12_sum_71 ?_
          refine lv_iconst (v := 1) hx hb dX12_sum_72 (by decide +kernel) ?_
          refine lv_isub hx hb dX12_sum_73 ?_
          refine lv_bipush (v := 24) hx hb dX12_sum_74 (by decide +kernel) ?_
          refine lv_icmp_le (tgt := 82) hx hb dX12_sum_76 (by decide +kernel) (fun c_5 => ?_) (fun c_5 => ?_)
          · rw [fa_le] at c_5
            try rw [ti_24] at c_5
            have hs9 : (n0 + (bn 0)).toInt = n0.toInt + (bn 0).toInt := fb_addI (by omega) (by omega)
            have hs8 := dec1 (i := n0 + (bn 0)) (by omega)
            refine lv_aload_n hx hb dX12_sum_82 rfl (lv_at hl 1 rfl) ?_
            refine va_get (D := D) (ci := 0) (v := .ref a0) (C := RX1) (T := TX1) (N := 2) hx hb hts in_X12_sum_X1 hown hE.1 hP 10 rfl rfl 1 (by decide +kernel) (hts (.fieldLink RX12 308 "ClauseBook$Bag" "numbers" "[I") (List.mem_of_getElem? (i := 4) rfl)) (fun _ h9 => h9) rfl dX12_sum_83 ?_
            refine lv_iconst (v := 0) hx hb dX12_sum_86 (by decide +kernel) ?_
            refine va_iald hx hb hE.1 hP 13 0 rfl rfl (by unfold vp_in; decide) dX12_sum_87 ?_
            refine lv_topi (fun z_6 ez_6 => ?_)
            have hz9 : 0 ≤ z_6.toInt ∧ z_6.toInt < n0.toInt := by rw [ez_6]; exact hall 0 (by omega)
            refine lv_istore_n (lv' := [(3, .int z_6), (2, .ref t0), (0, .ref h0), (1, .int 0)]) hx hb dX12_sum_88 rfl hl (by decide +kernel) rfl (fun ls hl => ?_)
            refine lv_iconst (v := 1) hx hb dX12_sum_89 (by decide +kernel) ?_
            refine lv_istore (lv' := [(4, .int 1), (3, .int z_6), (2, .ref t0), (0, .ref h0), (1, .int 0)]) hx hb dX12_sum_90 hl (by decide +kernel) rfl (fun ls hl => ?_)
            refine loopW (σ := (Int32) × (Int32) × (Int32) × (Nat → Int32) × (Nat → Int32) × (Nat → Int32) × (Nat → Int32) × (Nat → Int32) × (Nat → Int32) × (Nat → Int32)) (fun x9 ls H locs => lv_has ls 5 [(4, .int x9.1), (3, .int x9.2.1), (2, .ref t0), (0, .ref h0), (1, .int 0)] ∧ va_P D vwCl [(h0, .inr (9, fs0)), (h1, .inl (T 5, 3, .inr (.inr (.inr (.inr (va_up (va_up (va_up (fun _ => none) 0 (some t0)) 1 (some t1)) 2 (some t2))))))), (h2, .inr (1, [.int x9.2.2.1, .ref c1, .ref c2, .ref c3, .ref c4, .ref c5, .ref c6, .ref c7])), (c1, .inl (T 0, 24, .inl x9.2.2.2.1)), (c2, .inl (T 0, 24, .inl x9.2.2.2.2.1)), (c3, .inl (T 0, 24, .inl x9.2.2.2.2.2.1)), (c4, .inl (T 0, 24, .inl x9.2.2.2.2.2.2.1)), (c5, .inl (T 0, 24, .inl x9.2.2.2.2.2.2.2.1)), (c6, .inl (T 0, 24, .inl x9.2.2.2.2.2.2.2.2.1)), (c7, .inl (T 0, 24, .inl x9.2.2.2.2.2.2.2.2.2)), (t0, .inr (0, [.int (bn 0), .ref a0])), (t1, .inr (0, [.int (bn 1), .ref a1])), (t2, .inr (0, [.int (bn 2), .ref a2])), (a0, .inl (T 0, 12, .inl (bf 0))), (a1, .inl (T 0, 12, .inl (bf 1))), (a2, .inl (T 0, 12, .inl (bf 2)))] H ∧ va_D A [(h0, .inr (9, fs0)), (h1, .inl (T 5, 3, .inr (.inr (.inr (.inr (va_up (va_up (va_up (fun _ => none) 0 (some t0)) 1 (some t1)) 2 (some t2))))))), (h2, .inr (1, [.int x9.2.2.1, .ref c1, .ref c2, .ref c3, .ref c4, .ref c5, .ref c6, .ref c7])), (c1, .inl (T 0, 24, .inl x9.2.2.2.1)), (c2, .inl (T 0, 24, .inl x9.2.2.2.2.1)), (c3, .inl (T 0, 24, .inl x9.2.2.2.2.2.1)), (c4, .inl (T 0, 24, .inl x9.2.2.2.2.2.2.1)), (c5, .inl (T 0, 24, .inl x9.2.2.2.2.2.2.2.1)), (c6, .inl (T 0, 24, .inl x9.2.2.2.2.2.2.2.2.1)), (c7, .inl (T 0, 24, .inl x9.2.2.2.2.2.2.2.2.2)), (t0, .inr (0, [.int (bn 0), .ref a0])), (t1, .inr (0, [.int (bn 1), .ref a1])), (t2, .inr (0, [.int (bn 2), .ref a2])), (a0, .inl (T 0, 12, .inl (bf 0))), (a1, .inl (T 0, 12, .inl (bf 1))), (a2, .inl (T 0, 12, .inl (bf 2)))] ∧ va_S A s.heap H locs ∧ ((1 ≤ x9.1.toInt ∧ x9.1.toInt ≤ (bn 0).toInt ∧ x9.2.2.1.toInt = n0.toInt + x9.1.toInt - 1 ∧ 0 ≤ x9.2.1.toInt ∧ x9.2.1.toInt < x9.2.2.1.toInt) ∧ okC x9.2.2.2.1 x9.2.2.2.2.2.1 x9.2.2.2.2.2.2.1 x9.2.2.2.2.2.2.2.1 ∧ (∀ A : clsA, rlC n0 f1 f2 f3 f4 A → x9.2.1 = (sumF (bf 0) A (x9.1.toNatClampNeg - 1)).1 ∧ rlC x9.2.2.1 x9.2.2.2.1 x9.2.2.2.2.1 x9.2.2.2.2.2.1 x9.2.2.2.2.2.2.1 (sumF (bf 0) A (x9.1.toNatClampNeg - 1)).2) ∧ ∀ j : Nat, (j : Int) < x9.2.2.1.toInt → mesP x9.2.2.2.1 x9.2.2.2.2.1 x9.2.2.2.2.2.1 x9.2.2.2.2.2.2.1 x9.2.2.2.2.2.2.2.1 x9.2.2.2.2.2.2.2.2.1 x9.2.2.2.2.2.2.2.2.2 j)) (fun x9 => (12 - x9.1.toInt).toNat) (fun x9 ls H locs hI ih => ?_) (1, z_6, n0, f1, f2, f3, f4, f5, f6, f7) ls ⟨lv_sub hl [0, 1, 2, 3, 4] rfl, hP.sub [0, 1, 2, 3, 4, 5, 6, 7, 8, 9, 10, 11, 12, 13, 14, 15] rfl, hD.sub [0, 1, 2, 3, 4, 5, 6, 7, 8, 9, 10, 11, 12, 13, 14, 15] (by decide +kernel) rfl, hS, ⟨(by (try dsimp only); rw [ti_1]; omega), hok, (by (try dsimp only); intro A hA; rw [tn1']; exact ⟨(show z_6 = (bf 0) 0 from ez_6), hA⟩), hme⟩⟩
            obtain ⟨ii, al, nn, v1, v2, v3, v4, v5, v6, v7⟩ := x9
            obtain ⟨hl, hP, hD, hS, hinv⟩ := hI
            have hl : lv_has ls 5 [(4, .int ii), (3, .int al), (2, .ref t0), (0, .ref h0), (1, .int 0)] := hl
            have hP : va_P D vwCl [(h0, .inr (9, fs0)), (h1, .inl (T 5, 3, .inr (.inr (.inr (.inr (va_up (va_up (va_up (fun _ => none) 0 (some t0)) 1 (some t1)) 2 (some t2))))))), (h2, .inr (1, [.int nn, .ref c1, .ref c2, .ref c3, .ref c4, .ref c5, .ref c6, .ref c7])), (c1, .inl (T 0, 24, .inl v1)), (c2, .inl (T 0, 24, .inl v2)), (c3, .inl (T 0, 24, .inl v3)), (c4, .inl (T 0, 24, .inl v4)), (c5, .inl (T 0, 24, .inl v5)), (c6, .inl (T 0, 24, .inl v6)), (c7, .inl (T 0, 24, .inl v7)), (t0, .inr (0, [.int (bn 0), .ref a0])), (t1, .inr (0, [.int (bn 1), .ref a1])), (t2, .inr (0, [.int (bn 2), .ref a2])), (a0, .inl (T 0, 12, .inl (bf 0))), (a1, .inl (T 0, 12, .inl (bf 1))), (a2, .inl (T 0, 12, .inl (bf 2)))] H := hP
            have hD : va_D A [(h0, .inr (9, fs0)), (h1, .inl (T 5, 3, .inr (.inr (.inr (.inr (va_up (va_up (va_up (fun _ => none) 0 (some t0)) 1 (some t1)) 2 (some t2))))))), (h2, .inr (1, [.int nn, .ref c1, .ref c2, .ref c3, .ref c4, .ref c5, .ref c6, .ref c7])), (c1, .inl (T 0, 24, .inl v1)), (c2, .inl (T 0, 24, .inl v2)), (c3, .inl (T 0, 24, .inl v3)), (c4, .inl (T 0, 24, .inl v4)), (c5, .inl (T 0, 24, .inl v5)), (c6, .inl (T 0, 24, .inl v6)), (c7, .inl (T 0, 24, .inl v7)), (t0, .inr (0, [.int (bn 0), .ref a0])), (t1, .inr (0, [.int (bn 1), .ref a1])), (t2, .inr (0, [.int (bn 2), .ref a2])), (a0, .inl (T 0, 12, .inl (bf 0))), (a1, .inl (T 0, 12, .inl (bf 1))), (a2, .inl (T 0, 12, .inl (bf 2)))] := hD
            have hinv : (1 ≤ ii.toInt ∧ ii.toInt ≤ (bn 0).toInt ∧ nn.toInt = n0.toInt + ii.toInt - 1 ∧ 0 ≤ al.toInt ∧ al.toInt < nn.toInt) ∧ okC v1 v3 v4 v5 ∧ (∀ A : clsA, rlC n0 f1 f2 f3 f4 A → al = (sumF (bf 0) A (ii.toNatClampNeg - 1)).1 ∧ rlC nn v1 v2 v3 v4 (sumF (bf 0) A (ii.toNatClampNeg - 1)).2) ∧ ∀ j : Nat, (j : Int) < nn.toInt → mesP v1 v2 v3 v4 v5 v6 v7 j := hinv
            obtain ⟨hii, hok, hsA, hme⟩ := hinv
            refine lv_iload hx hb dX12_sum_92 (lv_at hl 0 rfl) ?_
            refine lv_aload_n hx hb dX12_sum_94 rfl (lv_at hl 2 rfl) ?_
            refine va_get (D := D) (ci := 0) (v := .int (bn 0)) (C := RX1) (T := TX1) (N := 2) hx hb hts in_X12_sum_X1 hown hE.1 hP 10 rfl rfl 0 (by decide +kernel) (hts (.fieldLink RX12 307 "ClauseBook$Bag" "size" "I") (List.mem_of_getElem? (i := 2) rfl)) (fun _ h9 => h9) rfl dX12_sum_95 ?_
            refine lv_icmp_ge (tgt := 130) hx hb dX12_sum_98 (by decide +kernel) (fun c_7 => ?_) (fun c_7 => ?_)
            · rw [fa_le] at c_7
              refine lv_iload_n hx hb dX12_sum_130 rfl (lv_at hl 1 rfl) ?_
              exact W.iret hx hb hr (fun t ht hW => ⟨⟨_, (fun k => [fun _ => nn, v1, v2, v3, v4, v5, v6, v7].getD k f1), rfl, ⟨⟨(show 0 ≤ (nn).toInt ∧ (nn).toInt ≤ 24 from by omega), (show okC v1 v3 v4 v5 from by first | exact hok | assumption)⟩, (Or.inr (Or.inr (Or.inr ⟨(fun h9 => h9 ⟨by decide, by decide⟩), ⟨(show 1 ≤ (bn 0).toInt from by omega), hall2⟩, (show n0.toInt + (bn 0).toInt - 1 ≤ 24 from by omega), (show ii = (bn 0) from Int32.toInt_inj.1 (by omega)) ▸ hsA⟩))), hme⟩, by rw [ht]; exact hP.sub [0, 1, 2, 3, 4, 5, 6, 7, 8, 9, 10, 11, 12, 13, 14, 15] rfl, hD.sub [0, 1, 2, 3, 4, 5, 6, 7, 8, 9, 10, 11, 12, 13, 14, 15] (by decide +kernel) rfl⟩, hS.F ht⟩) hS.2.2 dX12_sum_131
            · rw [fa_le] at c_7
              refine lv_aload_n hx hb dX12_sum_101 rfl (lv_at hl 3 rfl) ?_
              refine va_get (D := D) (ci := 9) (v := .ref h2) (C := RX12) (T := TX12) (N := 11) hx hb hts in_X12_sum_X12 hown hE.1 hP 0 rfl rfl 4 (by decide +kernel) (hts (.fieldLink RX12 32 "ClauseBook" "clauses" "LClauseBook$Clauses;") (List.mem_of_getElem? (i := 3) rfl)) (fun _ h9 => h9) e0_4 dX12_sum_102 ?_
              refine va_gets (v := .ref (ad 5)) hx hb (hV.1.1.1 5 (by decide +kernel)).1 hS hown (hts (.fieldLink RX12 311 "ClauseBook$Kind" "BOTH" "LClauseBook$Kind;") (List.mem_of_getElem? (i := 6) rfl)) (fun _ h9 => h9) dX12_sum_105 ?_
              refine va_getE (i := 5) hx hb hV.1.1 (by decide +kernel) hS hown (q := kdQ "number" [0, 1, 2, 3, 4, 5, 6, 7, 8, 9, 10, 11, 12]) (List.mem_of_getElem? (i := 3) rfl) (hts (.fieldLink RX12 314 "ClauseBook$Kind" "number" "I") (List.mem_of_getElem? (i := 7) rfl)) (fun _ h9 => h9) dX12_sum_108 ?_
              refine W.eq (g2 := F0 m 111 ls [.int 5, .ref h2]) rfl ?_
              refine lv_iconst (v := 0) hx hb dX12_sum_111 (by decide +kernel) ?_
              refine lv_iload_n hx hb dX12_sum_112 rfl (lv_at hl 1 rfl) ?_
              refine lv_aload_n hx hb dX12_sum_113 rfl (lv_at hl 2 rfl) ?_
              refine va_get (D := D) (ci := 0) (v := .ref a0) (C := RX1) (T := TX1) (N := 2) hx hb hts in_X12_sum_X1 hown hE.1 hP 10 rfl rfl 1 (by decide +kernel) (hts (.fieldLink RX12 308 "ClauseBook$Bag" "numbers" "[I") (List.mem_of_getElem? (i := 4) rfl)) (fun _ h9 => h9) rfl dX12_sum_114 ?_
              refine lv_iload hx hb dX12_sum_117 (lv_at hl 0 rfl) ?_
              refine va_iald hx hb hE.1 hP 13 0 rfl rfl (by rw [vp_in_iff]; first | omega | (subst_vars; rw [dec1 (by omega)]; omega) | (subst_vars; rw [inc1 (n := 1000) (by omega) (by decide +kernel)]; omega)) dX12_sum_119 ?_
              refine lv_topi (fun z_8 ez_8 => ?_)
              have hz8 : 0 ≤ z_8.toInt ∧ z_8.toInt < n0.toInt := by rw [ez_8]; exact sum_at hall (by omega)
              have hFc := va_free (wc := [(h2, .inr (1, [.int nn, .ref c1, .ref c2, .ref c3, .ref c4, .ref c5, .ref c6, .ref c7])), (c1, .inl (T 0, 24, .inl v1)), (c2, .inl (T 0, 24, .inl v2)), (c3, .inl (T 0, 24, .inl v3)), (c4, .inl (T 0, 24, .inl v4)), (c5, .inl (T 0, 24, .inl v5)), (c6, .inl (T 0, 24, .inl v6)), (c7, .inl (T 0, 24, .inl v7))]) hD hS hA [2, 3, 4, 5, 6, 7, 8, 9] rfl
              refine va_calli (va_runV (As := [.int 5, .int 0, .int al, .int z_8]) (rest := []) ⟨hx, hb, hml, hown, hts⟩ (c_X2_append l D T ad sa av ta _ h2 nn c1 c2 c3 c4 c5 c6 c7 v1 v2 v3 v4 v5 v6 v7 5 0 al z_8 (by omega) hok (by decide +kernel) (fun _ => by omega) (fun _ => by omega) hme) (cwV 4 hts gX12_sum_X2_append rfl rfl rfl hv_X2_append ⟨Nat.le_of_ble_eq_true rfl, Nat.le_of_ble_eq_true rfl⟩) (pWk_V (q := (RX2, TX2, 8)) (ci := 1) (q0 := 2) hP hE hD hV hS hFc rfl rfl [2, 3, 4, 5, 6, 7, 8, 9] (by decide +kernel) rfl rfl) rfl rfl hl.1 rfl (lv_room (Nat.le_of_ble_eq_true rfl)) dX12_sum_120 ⟨Nat.le_of_ble_eq_true rfl, Nat.le_of_ble_eq_true rfl⟩) hS (fun q _ h => hFc q h) hFc (fun r_9 u_10 t H1 locs ht hvm hr_9 hB hz1 hk1 hS => ?_)
              obtain ⟨haru_10, ⟨hszu_10, hok⟩, hapu_10, hme⟩ := hr_9
              have hapu_10 : ((nn.toInt < 24 → (u_10 1) = upd v1 (nn.toNatClampNeg) (5 : Int32) ∧ (u_10 2) = upd v2 (nn.toNatClampNeg) (0 : Int32) ∧ (u_10 3) = upd v3 (nn.toNatClampNeg) (if 1 ≤ (nmT ((5 : Int32).toNatClampNeg)).toInt then al else -1) ∧ (u_10 4) = upd v4 (nn.toNatClampNeg) (if (nmT ((5 : Int32).toNatClampNeg)).toInt = 2 then z_8 else -1)) ∧ (¬ nn.toInt < 24 → (u_10 1) = v1 ∧ (u_10 2) = v2 ∧ (u_10 3) = v3 ∧ (u_10 4) = v4)) := hapu_10
              have hme : (∀ j : Nat, (j : Int) < (u_10 0 0).toInt → mesP (u_10 1) (u_10 2) (u_10 3) (u_10 4) (u_10 5) (u_10 6) (u_10 7) j) := hme
              obtain ⟨hP1, hD1⟩ := hB
              rw [ht] at hP1
              obtain ⟨hP, hD⟩ := va_repl [(h0, .inr (9, fs0)), (h1, .inl (T 5, 3, .inr (.inr (.inr (.inr (va_up (va_up (va_up (fun _ => none) 0 (some t0)) 1 (some t1)) 2 (some t2))))))), (h2, .inr (1, [.int (u_10 0 0), .ref c1, .ref c2, .ref c3, .ref c4, .ref c5, .ref c6, .ref c7])), (c1, .inl (T 0, 24, .inl (u_10 1))), (c2, .inl (T 0, 24, .inl (u_10 2))), (c3, .inl (T 0, 24, .inl (u_10 3))), (c4, .inl (T 0, 24, .inl (u_10 4))), (c5, .inl (T 0, 24, .inl (u_10 5))), (c6, .inl (T 0, 24, .inl (u_10 6))), (c7, .inl (T 0, 24, .inl (u_10 7))), (t0, .inr (0, [.int (bn 0), .ref a0])), (t1, .inr (0, [.int (bn 1), .ref a1])), (t2, .inr (0, [.int (bn 2), .ref a2])), (a0, .inl (T 0, 12, .inl (bf 0))), (a1, .inl (T 0, 12, .inl (bf 1))), (a2, .inl (T 0, 12, .inl (bf 2)))] hP hD [2, 3, 4, 5, 6, 7, 8, 9] [2, 3, 4, 5, 6, 7, 8, 9] rfl (by decide +kernel) rfl rfl rfl hk1 hP1
              clear hP1 hD1 hFc
              generalize H1 = H at hP hS ⊢
              obtain ⟨hr9, hr8, hr7⟩ := haru_10.resolve_left (by intro h9; omega)
              have hr6 : r_9.toInt = nn.toInt := by rw [hr8]
              refine lv_istore_n (lv' := [(3, .int r_9), (4, .int ii), (2, .ref t0), (0, .ref h0), (1, .int 0)]) hx hb dX12_sum_123 rfl hl (by decide +kernel) rfl (fun ls hl => ?_)
              obtain ⟨z_11, ez_11⟩ : ∃ y : Int32, y = ii + 1 := ⟨_, rfl⟩
              refine lv_iinc (v := z_11) (lv' := [(4, .int z_11), (3, .int r_9), (2, .ref t0), (0, .ref h0), (1, .int 0)]) hx hb dX12_sum_124 hl (k := 1) rfl (by rw [ez_11]; rfl) (by decide +kernel) rfl (fun ls hl => ?_)
              have hi9 : z_11.toInt = ii.toInt + 1 := by rw [ez_11]; exact inc1 (n := 1000) (by omega) (by decide +kernel)
              refine lv_goto (tgt := 92) hx hb dX12_sum_127 (by decide +kernel) ?_
              exact ih (z_11, r_9, (u_10 0 0), (u_10 1), (u_10 2), (u_10 3), (u_10 4), (u_10 5), (u_10 6), (u_10 7)) ls _ _ ⟨lv_sub hl [0, 1, 2, 3, 4] rfl, hP.sub [0, 1, 2, 3, 4, 5, 6, 7, 8, 9, 10, 11, 12, 13, 14, 15] rfl, hD.sub [0, 1, 2, 3, 4, 5, 6, 7, 8, 9, 10, 11, 12, 13, 14, 15] (by decide +kernel) rfl, hS, ⟨(by (try dsimp only); omega), hok, (by (try dsimp only); exact sum_stepC (by omega) hi9 hsA ez_8 hr8 hr7 (hapu_10.1 (by omega))), hme⟩⟩ (by subst_vars; (try dsimp only); rw [inc1 (i := ii) (n := 1000) (by omega) (by decide +kernel)]; omega)
          · rw [fa_le] at c_5
            try rw [ti_24] at c_5
            have hs9 : (n0 + (bn 0)).toInt = n0.toInt + (bn 0).toInt := fb_addI (by omega) (by omega)
            have hs8 := dec1 (i := n0 + (bn 0)) (by omega)
            refine lv_bipush (v := (-4)) hx hb dX12_sum_79 (by decide +kernel) ?_
            exact W.iret hx hb hr (fun t ht hW => ⟨⟨_, (fun k => [fun _ => n0, f1, f2, f3, f4, f5, f6, f7].getD k f1), rfl, ⟨⟨(show 0 ≤ (n0).toInt ∧ (n0).toInt ≤ 24 from by omega), (show okC f1 f3 f4 f5 from by first | exact hok | assumption)⟩, (Or.inr (Or.inr (Or.inl ⟨(fun h9 => h9 ⟨by decide, by decide⟩), ⟨(show 1 ≤ (bn 0).toInt from by omega), hall2⟩, (show 24 < n0.toInt + (bn 0).toInt - 1 from by omega), (by decide +kernel), ⟨rfl, rfl, rfl, rfl, rfl⟩⟩))), hme⟩, by rw [ht]; exact hP.sub [0, 1, 2, 3, 4, 5, 6, 7, 8, 9, 10, 11, 12, 13, 14, 15] rfl, hD.sub [0, 1, 2, 3, 4, 5, 6, 7, 8, 9, 10, 11, 12, 13, 14, 15] (by decide +kernel) rfl⟩, hS.F ht⟩) hS.2.2 dX12_sum_81
        · rw [fa_le] at c_4
          refine lv_aload_n hx hb dX12_sum_36 rfl (lv_at hl 2 rfl) ?_
          refine va_get (D := D) (ci := 9) (v := .ref h2) (C := RX12) (T := TX12) (N := 11) hx hb hts in_X12_sum_X12 hown hE.1 hP 0 rfl rfl 4 (by decide +kernel) (hts (.fieldLink RX12 32 "ClauseBook" "clauses" "LClauseBook$Clauses;") (List.mem_of_getElem? (i := 3) rfl)) (fun _ h9 => h9) e0_4 dX12_sum_37 ?_
          refine lv_aload_n hx hb dX12_sum_40 rfl (lv_at hl 1 rfl) ?_
          refine va_get (D := D) (ci := 0) (v := .ref a0) (C := RX1) (T := TX1) (N := 2) hx hb hts in_X12_sum_X1 hown hE.1 hP 10 rfl rfl 1 (by decide +kernel) (hts (.fieldLink RX12 308 "ClauseBook$Bag" "numbers" "[I") (List.mem_of_getElem? (i := 4) rfl)) (fun _ h9 => h9) rfl dX12_sum_41 ?_
          refine lv_iload_n hx hb dX12_sum_44 rfl (lv_at hl 0 rfl) ?_
          refine va_iald hx hb hE.1 hP 13 0 rfl rfl (by rw [vp_in_iff]; first | omega | (subst_vars; rw [dec1 (by omega)]; omega) | (subst_vars; rw [inc1 (n := 1000) (by omega) (by decide +kernel)]; omega)) dX12_sum_45 ?_
          refine lv_topi (fun z_12 ez_12 => ?_)
          refine vp_callSi (W.runV (As := [.int z_12]) (rest := []) ⟨hx, hb, hml, hown, hts⟩ (c_X2_has l D T h2 [.int n0, .ref c1, .ref c2, .ref c3, .ref c4, .ref c5, .ref c6, .ref c7] z_12 n0 rfl (by omega)) (cwV 1 hts gX12_sum_X2_has rfl rfl rfl hv_X2_has ⟨Nat.le_of_ble_eq_true rfl, Nat.le_of_ble_eq_true rfl⟩) (pR_V (q := (RX2, TX2, 8)) (ci := 1) (q0 := 2) hP hE rfl rfl [2] rfl) rfl rfl hl.1 rfl (lv_room (Nat.le_of_ble_eq_true rfl)) dX12_sum_46 ⟨Nat.le_of_ble_eq_true rfl, Nat.le_of_ble_eq_true rfl⟩) (fun r_13 hr_13 => ?_)
          rcases bool_post hr_13 with ⟨c_14, rfl⟩ | ⟨c_14, rfl⟩
          · refine lv_if_ne (tgt := 54) hx hb dX12_sum_49 (by decide +kernel) (fun _ => ?_) (fun c9 => absurd c9 (by decide +kernel))
            obtain ⟨z_15, ez_15⟩ : ∃ y : Int32, y = ii + 1 := ⟨_, rfl⟩
            refine lv_iinc (v := z_15) (lv' := [(3, .int z_15), (2, .ref t0), (0, .ref h0), (1, .int 0)]) hx hb dX12_sum_54 hl (k := 0) rfl (by rw [ez_15]; rfl) (by decide +kernel) rfl (fun ls hl => ?_)
            refine lv_goto (tgt := 28) hx hb dX12_sum_57 (by decide +kernel) ?_
            exact ih z_15 ls ⟨lv_sub hl [0, 1, 2, 3] rfl, ⟨(by subst_vars; (try dsimp only); rw [inc1 (i := ii) (n := 1000) (by omega) (by decide +kernel)]; omega), sum_step hall (by subst_vars; (try dsimp only); exact inc1 (i := ii) (n := 1000) (by omega) (by decide +kernel)) (by omega) (by rw [← ez_12]; omega)⟩⟩ (by subst_vars; (try dsimp only); rw [inc1 (i := ii) (n := 1000) (by omega) (by decide +kernel)]; omega)
          · refine lv_if_ne (tgt := 54) hx hb dX12_sum_49 (by decide +kernel) (fun c9 => absurd c9 (by decide +kernel)) (fun _ => ?_)
            refine lv_iconst (v := (-1)) hx hb dX12_sum_52 (by decide +kernel) ?_
            exact W.iret hx hb hr (fun t ht hW => ⟨⟨_, (fun k => [fun _ => n0, f1, f2, f3, f4, f5, f6, f7].getD k f1), rfl, ⟨⟨(show 0 ≤ (n0).toInt ∧ (n0).toInt ≤ 24 from by omega), (show okC f1 f3 f4 f5 from by first | exact hok | assumption)⟩, (Or.inr (Or.inl ⟨(fun h9 => h9 ⟨by decide, by decide⟩), (fun h9 => by
                  have h8 : 0 ≤ (bf 0 (ii.toNatClampNeg)).toInt ∧ (bf 0 (ii.toNatClampNeg)).toInt < n0.toInt := h9.2 (ii.toNatClampNeg) (by show ((ii.toNatClampNeg : Nat) : Int) < (bn 0).toInt; have h7 := tn (x := ii) (by omega); omega)
                  rw [← ez_12] at h8
                  omega), (by decide +kernel), ⟨rfl, rfl, rfl, rfl, rfl⟩⟩)), hme⟩, by rw [ht]; exact hP.sub [0, 1, 2, 3, 4, 5, 6, 7, 8, 9, 10, 11, 12, 13, 14, 15] rfl, hD.sub [0, 1, 2, 3, 4, 5, 6, 7, 8, 9, 10, 11, 12, 13, 14, 15] (by decide +kernel) rfl⟩, hS.F ht⟩) hS.2.2 dX12_sum_53
      · rw [fa_eq] at c_3
        try rw [ti_0] at c_3
        refine lv_iconst (v := (-1)) hx hb dX12_sum_24 (by decide +kernel) ?_
        exact W.iret hx hb hr (fun t ht hW => ⟨⟨_, (fun k => [fun _ => n0, f1, f2, f3, f4, f5, f6, f7].getD k f1), rfl, ⟨⟨(show 0 ≤ (n0).toInt ∧ (n0).toInt ≤ 24 from by omega), (show okC f1 f3 f4 f5 from by first | exact hok | assumption)⟩, (Or.inr (Or.inl ⟨(fun h9 => h9 ⟨by decide, by decide⟩), (fun h9 => by have h8 : 1 ≤ (bn 0).toInt := h9.1; omega), (by decide +kernel), ⟨rfl, rfl, rfl, rfl, rfl⟩⟩)), hme⟩, by rw [ht]; exact hP.sub [0, 1, 2, 3, 4, 5, 6, 7, 8, 9, 10, 11, 12, 13, 14, 15] rfl, hD.sub [0, 1, 2, 3, 4, 5, 6, 7, 8, 9, 10, 11, 12, 13, 14, 15] (by decide +kernel) rfl⟩, hS.F ht⟩) hS.2.2 dX12_sum_25
    · refine lv_aload_n hx hb dX12_sum_10 rfl (lv_at hl 0 rfl) ?_
      refine va_get (D := D) (ci := 9) (v := .ref h1) (C := RX12) (T := TX12) (N := 11) hx hb hts in_X12_sum_X12 hown hE.1 hP 0 rfl rfl 5 (by decide +kernel) (hts (.fieldLink RX12 37 "ClauseBook" "bags" "[LClauseBook$Bag;") (List.mem_of_getElem? (i := 1) rfl)) (fun _ h9 => h9) e0_5 dX12_sum_11 ?_
      refine lv_iload_n hx hb dX12_sum_14 rfl (lv_at hl 1 rfl) ?_
      refine va_aldq hx hb hE.1 hP 1 5 rfl rfl (by unfold vp_in; decide) dX12_sum_15 ?_
      refine W.eq (g2 := F0 m 16 ls [.ref t1]) rfl ?_
      refine lv_astore_n (lv' := [(2, .ref t1), (0, .ref h0), (1, .int 1)]) hx hb dX12_sum_16 rfl hl (by decide +kernel) rfl (fun ls hl => ?_)
      refine lv_aload_n hx hb dX12_sum_17 rfl (lv_at hl 0 rfl) ?_
      refine va_get (D := D) (ci := 0) (v := .int (bn 1)) (C := RX1) (T := TX1) (N := 2) hx hb hts in_X12_sum_X1 hown hE.1 hP 11 rfl rfl 0 (by decide +kernel) (hts (.fieldLink RX12 307 "ClauseBook$Bag" "size" "I") (List.mem_of_getElem? (i := 2) rfl)) (fun _ h9 => h9) rfl dX12_sum_18 ?_
      refine lv_if_ne (tgt := 26) hx hb dX12_sum_21 (by decide +kernel) (fun c_16 => ?_) (fun c_16 => ?_)
      · rw [fa_eq] at c_16
        try rw [ti_0] at c_16
        refine lv_iconst (v := 0) hx hb dX12_sum_26 (by decide +kernel) ?_
        refine lv_istore_n (lv' := [(3, .int 0), (2, .ref t1), (0, .ref h0), (1, .int 1)]) hx hb dX12_sum_27 rfl hl (by decide +kernel) rfl (fun ls hl => ?_)
        refine loopR (σ := (Int32)) (fun x9 ls => lv_has ls 5 [(3, .int x9), (2, .ref t1), (0, .ref h0), (1, .int 1)] ∧ (0 ≤ x9.toInt ∧ ∀ j : Nat, (j : Int) < x9.toInt → 0 ≤ (bf 1 j).toInt ∧ (bf 1 j).toInt < n0.toInt)) (fun x9 => (12 - x9.toInt).toNat) (fun x9 ls hI ih => ?_) 0 ls ⟨lv_sub hl [0, 1, 2, 3] rfl, ⟨(by (try dsimp only); decide), (fun j hj => absurd hj (by (try dsimp only); rw [ti_0]; omega))⟩⟩
        obtain ⟨ii, rfl⟩ : ∃ z, z = x9 := ⟨_, rfl⟩
        obtain ⟨hl, hinv⟩ := hI
        have hl : lv_has ls 5 [(3, .int ii), (2, .ref t1), (0, .ref h0), (1, .int 1)] := hl
        have hinv : 0 ≤ ii.toInt ∧ ∀ j : Nat, (j : Int) < ii.toInt → 0 ≤ (bf 1 j).toInt ∧ (bf 1 j).toInt < n0.toInt := hinv
        obtain ⟨hii, hall⟩ := hinv
        refine lv_iload_n hx hb dX12_sum_28 rfl (lv_at hl 0 rfl) ?_
        refine lv_aload_n hx hb dX12_sum_29 rfl (lv_at hl 1 rfl) ?_
        refine va_get (D := D) (ci := 0) (v := .int (bn 1)) (C := RX1) (T := TX1) (N := 2) hx hb hts in_X12_sum_X1 hown hE.1 hP 11 rfl rfl 0 (by decide +kernel) (hts (.fieldLink RX12 307 "ClauseBook$Bag" "size" "I") (List.mem_of_getElem? (i := 2) rfl)) (fun _ h9 => h9) rfl dX12_sum_30 ?_
        refine lv_icmp_ge (tgt := 60) hx hb dX12_sum_33 (by decide +kernel) (fun c_17 => ?_) (fun c_17 => ?_)
        · rw [fa_le] at c_17
          have hall2 : ∀ j : Nat, (j : Int) < (bn 1).toInt → 0 ≤ (bf 1 j).toInt ∧ (bf 1 j).toInt < n0.toInt := fun j hj => hall j (by omega)
          refine lv_aload_n hx hb dX12_sum_60 rfl (lv_at hl 2 rfl) ?_
          refine va_get (D := D) (ci := 9) (v := .ref h2) (C := RX12) (T := TX12) (N := 11) hx hb hts in_X12_sum_X12 hown hE.1 hP 0 rfl rfl 4 (by decide +kernel) (hts (.fieldLink RX12 32 "ClauseBook" "clauses" "LClauseBook$Clauses;") (List.mem_of_getElem? (i := 3) rfl)) (fun _ h9 => h9) e0_4 dX12_sum_61 ?_
          refine va_get (D := D) (ci := 1) (v := .int n0) (C := RX2) (T := TX2) (N := 8) hx hb hts in_X12_sum_X2 hown hE.1 hP 2 rfl rfl 0 (by decide +kernel) (hts (.fieldLink RX12 138 "ClauseBook$Clauses" "size" "I") (List.mem_of_getElem? (i := 5) rfl)) (fun _ h9 => h9) rfl dX12_sum_64 ?_
          refine lv_aload_n hx hb dX12_sum_67 rfl (lv_at hl 1 rfl) ?_
          refine va_get (D := D) (ci := 0) (v := .int (bn 1)) (C := RX1) (T := TX1) (N := 2) hx hb hts in_X12_sum_X1 hown hE.1 hP 11 rfl rfl 0 (by decide +kernel) (hts (.fieldLink RX12 307 "ClauseBook$Bag" "size" "I") (List.mem_of_getElem? (i := 2) rfl)) (fun _ h9 => h9) rfl dX12_sum_68 ?_
          refine lv_iadd hx hb dX12_sum_71 ?_
          refine lv_iconst (v := 1) hx hb dX12_sum_72 (by decide +kernel) ?_
          refine lv_isub hx hb dX12_sum_73 ?_
          refine lv_bipush (v := 24) hx hb dX12_sum_74 (by decide +kernel) ?_
          refine lv_icmp_le (tgt := 82) hx hb dX12_sum_76 (by decide +kernel) (fun c_18 => ?_) (fun c_18 => ?_)
          · rw [fa_le] at c_18
            try rw [ti_24] at c_18
            have hs9 : (n0 + (bn 1)).toInt = n0.toInt + (bn 1).toInt := fb_addI (by omega) (by omega)
            have hs8 := dec1 (i := n0 + (bn 1)) (by omega)
            refine lv_aload_n hx hb dX12_sum_82 rfl (lv_at hl 1 rfl) ?_
            refine va_get (D := D) (ci := 0) (v := .ref a1) (C := RX1) (T := TX1) (N := 2) hx hb hts in_X12_sum_X1 hown hE.1 hP 11 rfl rfl 1 (by decide +kernel) (hts (.fieldLink RX12 308 "ClauseBook$Bag" "numbers" "[I") (List.mem_of_getElem? (i := 4) rfl)) (fun _ h9 => h9) rfl dX12_sum_83 ?_
            refine lv_iconst (v := 0) hx hb dX12_sum_86 (by decide +kernel) ?_
            refine va_iald hx hb hE.1 hP 14 0 rfl rfl (by unfold vp_in; decide) dX12_sum_87 ?_
            refine lv_topi (fun z_19 ez_19 => ?_)
            have hz9 : 0 ≤ z_19.toInt ∧ z_19.toInt < n0.toInt := by rw [ez_19]; exact hall 0 (by omega)
            refine lv_istore_n (lv' := [(3, .int z_19), (2, .ref t1), (0, .ref h0), (1, .int 1)]) hx hb dX12_sum_88 rfl hl (by decide +kernel) rfl (fun ls hl => ?_)
            refine lv_iconst (v := 1) hx hb dX12_sum_89 (by decide +kernel) ?_
            refine lv_istore (lv' := [(4, .int 1), (3, .int z_19), (2, .ref t1), (0, .ref h0), (1, .int 1)]) hx hb dX12_sum_90 hl (by decide +kernel) rfl (fun ls hl => ?_)
            refine loopW (σ := (Int32) × (Int32) × (Int32) × (Nat → Int32) × (Nat → Int32) × (Nat → Int32) × (Nat → Int32) × (Nat → Int32) × (Nat → Int32) × (Nat → Int32)) (fun x9 ls H locs => lv_has ls 5 [(4, .int x9.1), (3, .int x9.2.1), (2, .ref t1), (0, .ref h0), (1, .int 1)] ∧ va_P D vwCl [(h0, .inr (9, fs0)), (h1, .inl (T 5, 3, .inr (.inr (.inr (.inr (va_up (va_up (va_up (fun _ => none) 0 (some t0)) 1 (some t1)) 2 (some t2))))))), (h2, .inr (1, [.int x9.2.2.1, .ref c1, .ref c2, .ref c3, .ref c4, .ref c5, .ref c6, .ref c7])), (c1, .inl (T 0, 24, .inl x9.2.2.2.1)), (c2, .inl (T 0, 24, .inl x9.2.2.2.2.1)), (c3, .inl (T 0, 24, .inl x9.2.2.2.2.2.1)), (c4, .inl (T 0, 24, .inl x9.2.2.2.2.2.2.1)), (c5, .inl (T 0, 24, .inl x9.2.2.2.2.2.2.2.1)), (c6, .inl (T 0, 24, .inl x9.2.2.2.2.2.2.2.2.1)), (c7, .inl (T 0, 24, .inl x9.2.2.2.2.2.2.2.2.2)), (t0, .inr (0, [.int (bn 0), .ref a0])), (t1, .inr (0, [.int (bn 1), .ref a1])), (t2, .inr (0, [.int (bn 2), .ref a2])), (a0, .inl (T 0, 12, .inl (bf 0))), (a1, .inl (T 0, 12, .inl (bf 1))), (a2, .inl (T 0, 12, .inl (bf 2)))] H ∧ va_D A [(h0, .inr (9, fs0)), (h1, .inl (T 5, 3, .inr (.inr (.inr (.inr (va_up (va_up (va_up (fun _ => none) 0 (some t0)) 1 (some t1)) 2 (some t2))))))), (h2, .inr (1, [.int x9.2.2.1, .ref c1, .ref c2, .ref c3, .ref c4, .ref c5, .ref c6, .ref c7])), (c1, .inl (T 0, 24, .inl x9.2.2.2.1)), (c2, .inl (T 0, 24, .inl x9.2.2.2.2.1)), (c3, .inl (T 0, 24, .inl x9.2.2.2.2.2.1)), (c4, .inl (T 0, 24, .inl x9.2.2.2.2.2.2.1)), (c5, .inl (T 0, 24, .inl x9.2.2.2.2.2.2.2.1)), (c6, .inl (T 0, 24, .inl x9.2.2.2.2.2.2.2.2.1)), (c7, .inl (T 0, 24, .inl x9.2.2.2.2.2.2.2.2.2)), (t0, .inr (0, [.int (bn 0), .ref a0])), (t1, .inr (0, [.int (bn 1), .ref a1])), (t2, .inr (0, [.int (bn 2), .ref a2])), (a0, .inl (T 0, 12, .inl (bf 0))), (a1, .inl (T 0, 12, .inl (bf 1))), (a2, .inl (T 0, 12, .inl (bf 2)))] ∧ va_S A s.heap H locs ∧ ((1 ≤ x9.1.toInt ∧ x9.1.toInt ≤ (bn 1).toInt ∧ x9.2.2.1.toInt = n0.toInt + x9.1.toInt - 1 ∧ 0 ≤ x9.2.1.toInt ∧ x9.2.1.toInt < x9.2.2.1.toInt) ∧ okC x9.2.2.2.1 x9.2.2.2.2.2.1 x9.2.2.2.2.2.2.1 x9.2.2.2.2.2.2.2.1 ∧ (∀ A : clsA, rlC n0 f1 f2 f3 f4 A → x9.2.1 = (sumF (bf 1) A (x9.1.toNatClampNeg - 1)).1 ∧ rlC x9.2.2.1 x9.2.2.2.1 x9.2.2.2.2.1 x9.2.2.2.2.2.1 x9.2.2.2.2.2.2.1 (sumF (bf 1) A (x9.1.toNatClampNeg - 1)).2) ∧ ∀ j : Nat, (j : Int) < x9.2.2.1.toInt → mesP x9.2.2.2.1 x9.2.2.2.2.1 x9.2.2.2.2.2.1 x9.2.2.2.2.2.2.1 x9.2.2.2.2.2.2.2.1 x9.2.2.2.2.2.2.2.2.1 x9.2.2.2.2.2.2.2.2.2 j)) (fun x9 => (12 - x9.1.toInt).toNat) (fun x9 ls H locs hI ih => ?_) (1, z_19, n0, f1, f2, f3, f4, f5, f6, f7) ls ⟨lv_sub hl [0, 1, 2, 3, 4] rfl, hP.sub [0, 1, 2, 3, 4, 5, 6, 7, 8, 9, 10, 11, 12, 13, 14, 15] rfl, hD.sub [0, 1, 2, 3, 4, 5, 6, 7, 8, 9, 10, 11, 12, 13, 14, 15] (by decide +kernel) rfl, hS, ⟨(by (try dsimp only); rw [ti_1]; omega), hok, (by (try dsimp only); intro A hA; rw [tn1']; exact ⟨(show z_19 = (bf 1) 0 from ez_19), hA⟩), hme⟩⟩
            obtain ⟨ii, al, nn, v1, v2, v3, v4, v5, v6, v7⟩ := x9
            obtain ⟨hl, hP, hD, hS, hinv⟩ := hI
            have hl : lv_has ls 5 [(4, .int ii), (3, .int al), (2, .ref t1), (0, .ref h0), (1, .int 1)] := hl
            have hP : va_P D vwCl [(h0, .inr (9, fs0)), (h1, .inl (T 5, 3, .inr (.inr (.inr (.inr (va_up (va_up (va_up (fun _ => none) 0 (some t0)) 1 (some t1)) 2 (some t2))))))), (h2, .inr (1, [.int nn, .ref c1, .ref c2, .ref c3, .ref c4, .ref c5, .ref c6, .ref c7])), (c1, .inl (T 0, 24, .inl v1)), (c2, .inl (T 0, 24, .inl v2)), (c3, .inl (T 0, 24, .inl v3)), (c4, .inl (T 0, 24, .inl v4)), (c5, .inl (T 0, 24, .inl v5)), (c6, .inl (T 0, 24, .inl v6)), (c7, .inl (T 0, 24, .inl v7)), (t0, .inr (0, [.int (bn 0), .ref a0])), (t1, .inr (0, [.int (bn 1), .ref a1])), (t2, .inr (0, [.int (bn 2), .ref a2])), (a0, .inl (T 0, 12, .inl (bf 0))), (a1, .inl (T 0, 12, .inl (bf 1))), (a2, .inl (T 0, 12, .inl (bf 2)))] H := hP
            have hD : va_D A [(h0, .inr (9, fs0)), (h1, .inl (T 5, 3, .inr (.inr (.inr (.inr (va_up (va_up (va_up (fun _ => none) 0 (some t0)) 1 (some t1)) 2 (some t2))))))), (h2, .inr (1, [.int nn, .ref c1, .ref c2, .ref c3, .ref c4, .ref c5, .ref c6, .ref c7])), (c1, .inl (T 0, 24, .inl v1)), (c2, .inl (T 0, 24, .inl v2)), (c3, .inl (T 0, 24, .inl v3)), (c4, .inl (T 0, 24, .inl v4)), (c5, .inl (T 0, 24, .inl v5)), (c6, .inl (T 0, 24, .inl v6)), (c7, .inl (T 0, 24, .inl v7)), (t0, .inr (0, [.int (bn 0), .ref a0])), (t1, .inr (0, [.int (bn 1), .ref a1])), (t2, .inr (0, [.int (bn 2), .ref a2])), (a0, .inl (T 0, 12, .inl (bf 0))), (a1, .inl (T 0, 12, .inl (bf 1))), (a2, .inl (T 0, 12, .inl (bf 2)))] := hD
            have hinv : (1 ≤ ii.toInt ∧ ii.toInt ≤ (bn 1).toInt ∧ nn.toInt = n0.toInt + ii.toInt - 1 ∧ 0 ≤ al.toInt ∧ al.toInt < nn.toInt) ∧ okC v1 v3 v4 v5 ∧ (∀ A : clsA, rlC n0 f1 f2 f3 f4 A → al = (sumF (bf 1) A (ii.toNatClampNeg - 1)).1 ∧ rlC nn v1 v2 v3 v4 (sumF (bf 1) A (ii.toNatClampNeg - 1)).2) ∧ ∀ j : Nat, (j : Int) < nn.toInt → mesP v1 v2 v3 v4 v5 v6 v7 j := hinv
            obtain ⟨hii, hok, hsA, hme⟩ := hinv
            refine lv_iload hx hb dX12_sum_92 (lv_at hl 0 rfl) ?_
            refine lv_aload_n hx hb dX12_sum_94 rfl (lv_at hl 2 rfl) ?_
            refine va_get (D := D) (ci := 0) (v := .int (bn 1)) (C := RX1) (T := TX1) (N := 2) hx hb hts in_X12_sum_X1 hown hE.1 hP 11 rfl rfl 0 (by decide +kernel) (hts (.fieldLink RX12 307 "ClauseBook$Bag" "size" "I") (List.mem_of_getElem? (i := 2) rfl)) (fun _ h9 => h9) rfl dX12_sum_95 ?_
            refine lv_icmp_ge (tgt := 130) hx hb dX12_sum_98 (by decide +kernel) (fun c_20 => ?_) (fun c_20 => ?_)
            · rw [fa_le] at c_20
              refine lv_iload_n hx hb dX12_sum_130 rfl (lv_at hl 1 rfl) ?_
              exact W.iret hx hb hr (fun t ht hW => ⟨⟨_, (fun k => [fun _ => nn, v1, v2, v3, v4, v5, v6, v7].getD k f1), rfl, ⟨⟨(show 0 ≤ (nn).toInt ∧ (nn).toInt ≤ 24 from by omega), (show okC v1 v3 v4 v5 from by first | exact hok | assumption)⟩, (Or.inr (Or.inr (Or.inr ⟨(fun h9 => h9 ⟨by decide, by decide⟩), ⟨(show 1 ≤ (bn 1).toInt from by omega), hall2⟩, (show n0.toInt + (bn 1).toInt - 1 ≤ 24 from by omega), (show ii = (bn 1) from Int32.toInt_inj.1 (by omega)) ▸ hsA⟩))), hme⟩, by rw [ht]; exact hP.sub [0, 1, 2, 3, 4, 5, 6, 7, 8, 9, 10, 11, 12, 13, 14, 15] rfl, hD.sub [0, 1, 2, 3, 4, 5, 6, 7, 8, 9, 10, 11, 12, 13, 14, 15] (by decide +kernel) rfl⟩, hS.F ht⟩) hS.2.2 dX12_sum_131
            · rw [fa_le] at c_20
              refine lv_aload_n hx hb dX12_sum_101 rfl (lv_at hl 3 rfl) ?_
              refine va_get (D := D) (ci := 9) (v := .ref h2) (C := RX12) (T := TX12) (N := 11) hx hb hts in_X12_sum_X12 hown hE.1 hP 0 rfl rfl 4 (by decide +kernel) (hts (.fieldLink RX12 32 "ClauseBook" "clauses" "LClauseBook$Clauses;") (List.mem_of_getElem? (i := 3) rfl)) (fun _ h9 => h9) e0_4 dX12_sum_102 ?_
              refine va_gets (v := .ref (ad 5)) hx hb (hV.1.1.1 5 (by decide +kernel)).1 hS hown (hts (.fieldLink RX12 311 "ClauseBook$Kind" "BOTH" "LClauseBook$Kind;") (List.mem_of_getElem? (i := 6) rfl)) (fun _ h9 => h9) dX12_sum_105 ?_
              refine va_getE (i := 5) hx hb hV.1.1 (by decide +kernel) hS hown (q := kdQ "number" [0, 1, 2, 3, 4, 5, 6, 7, 8, 9, 10, 11, 12]) (List.mem_of_getElem? (i := 3) rfl) (hts (.fieldLink RX12 314 "ClauseBook$Kind" "number" "I") (List.mem_of_getElem? (i := 7) rfl)) (fun _ h9 => h9) dX12_sum_108 ?_
              refine W.eq (g2 := F0 m 111 ls [.int 5, .ref h2]) rfl ?_
              refine lv_iconst (v := 0) hx hb dX12_sum_111 (by decide +kernel) ?_
              refine lv_iload_n hx hb dX12_sum_112 rfl (lv_at hl 1 rfl) ?_
              refine lv_aload_n hx hb dX12_sum_113 rfl (lv_at hl 2 rfl) ?_
              refine va_get (D := D) (ci := 0) (v := .ref a1) (C := RX1) (T := TX1) (N := 2) hx hb hts in_X12_sum_X1 hown hE.1 hP 11 rfl rfl 1 (by decide +kernel) (hts (.fieldLink RX12 308 "ClauseBook$Bag" "numbers" "[I") (List.mem_of_getElem? (i := 4) rfl)) (fun _ h9 => h9) rfl dX12_sum_114 ?_
              refine lv_iload hx hb dX12_sum_117 (lv_at hl 0 rfl) ?_
              refine va_iald hx hb hE.1 hP 14 0 rfl rfl (by rw [vp_in_iff]; first | omega | (subst_vars; rw [dec1 (by omega)]; omega) | (subst_vars; rw [inc1 (n := 1000) (by omega) (by decide +kernel)]; omega)) dX12_sum_119 ?_
              refine lv_topi (fun z_21 ez_21 => ?_)
              have hz8 : 0 ≤ z_21.toInt ∧ z_21.toInt < n0.toInt := by rw [ez_21]; exact sum_at hall (by omega)
              have hFc := va_free (wc := [(h2, .inr (1, [.int nn, .ref c1, .ref c2, .ref c3, .ref c4, .ref c5, .ref c6, .ref c7])), (c1, .inl (T 0, 24, .inl v1)), (c2, .inl (T 0, 24, .inl v2)), (c3, .inl (T 0, 24, .inl v3)), (c4, .inl (T 0, 24, .inl v4)), (c5, .inl (T 0, 24, .inl v5)), (c6, .inl (T 0, 24, .inl v6)), (c7, .inl (T 0, 24, .inl v7))]) hD hS hA [2, 3, 4, 5, 6, 7, 8, 9] rfl
              refine va_calli (va_runV (As := [.int 5, .int 0, .int al, .int z_21]) (rest := []) ⟨hx, hb, hml, hown, hts⟩ (c_X2_append l D T ad sa av ta _ h2 nn c1 c2 c3 c4 c5 c6 c7 v1 v2 v3 v4 v5 v6 v7 5 0 al z_21 (by omega) hok (by decide +kernel) (fun _ => by omega) (fun _ => by omega) hme) (cwV 4 hts gX12_sum_X2_append rfl rfl rfl hv_X2_append ⟨Nat.le_of_ble_eq_true rfl, Nat.le_of_ble_eq_true rfl⟩) (pWk_V (q := (RX2, TX2, 8)) (ci := 1) (q0 := 2) hP hE hD hV hS hFc rfl rfl [2, 3, 4, 5, 6, 7, 8, 9] (by decide +kernel) rfl rfl) rfl rfl hl.1 rfl (lv_room (Nat.le_of_ble_eq_true rfl)) dX12_sum_120 ⟨Nat.le_of_ble_eq_true rfl, Nat.le_of_ble_eq_true rfl⟩) hS (fun q _ h => hFc q h) hFc (fun r_22 u_23 t H1 locs ht hvm hr_22 hB hz1 hk1 hS => ?_)
              obtain ⟨haru_23, ⟨hszu_23, hok⟩, hapu_23, hme⟩ := hr_22
              have hapu_23 : ((nn.toInt < 24 → (u_23 1) = upd v1 (nn.toNatClampNeg) (5 : Int32) ∧ (u_23 2) = upd v2 (nn.toNatClampNeg) (0 : Int32) ∧ (u_23 3) = upd v3 (nn.toNatClampNeg) (if 1 ≤ (nmT ((5 : Int32).toNatClampNeg)).toInt then al else -1) ∧ (u_23 4) = upd v4 (nn.toNatClampNeg) (if (nmT ((5 : Int32).toNatClampNeg)).toInt = 2 then z_21 else -1)) ∧ (¬ nn.toInt < 24 → (u_23 1) = v1 ∧ (u_23 2) = v2 ∧ (u_23 3) = v3 ∧ (u_23 4) = v4)) := hapu_23
              have hme : (∀ j : Nat, (j : Int) < (u_23 0 0).toInt → mesP (u_23 1) (u_23 2) (u_23 3) (u_23 4) (u_23 5) (u_23 6) (u_23 7) j) := hme
              obtain ⟨hP1, hD1⟩ := hB
              rw [ht] at hP1
              obtain ⟨hP, hD⟩ := va_repl [(h0, .inr (9, fs0)), (h1, .inl (T 5, 3, .inr (.inr (.inr (.inr (va_up (va_up (va_up (fun _ => none) 0 (some t0)) 1 (some t1)) 2 (some t2))))))), (h2, .inr (1, [.int (u_23 0 0), .ref c1, .ref c2, .ref c3, .ref c4, .ref c5, .ref c6, .ref c7])), (c1, .inl (T 0, 24, .inl (u_23 1))), (c2, .inl (T 0, 24, .inl (u_23 2))), (c3, .inl (T 0, 24, .inl (u_23 3))), (c4, .inl (T 0, 24, .inl (u_23 4))), (c5, .inl (T 0, 24, .inl (u_23 5))), (c6, .inl (T 0, 24, .inl (u_23 6))), (c7, .inl (T 0, 24, .inl (u_23 7))), (t0, .inr (0, [.int (bn 0), .ref a0])), (t1, .inr (0, [.int (bn 1), .ref a1])), (t2, .inr (0, [.int (bn 2), .ref a2])), (a0, .inl (T 0, 12, .inl (bf 0))), (a1, .inl (T 0, 12, .inl (bf 1))), (a2, .inl (T 0, 12, .inl (bf 2)))] hP hD [2, 3, 4, 5, 6, 7, 8, 9] [2, 3, 4, 5, 6, 7, 8, 9] rfl (by decide +kernel) rfl rfl rfl hk1 hP1
              clear hP1 hD1 hFc
              generalize H1 = H at hP hS ⊢
              obtain ⟨hr9, hr8, hr7⟩ := haru_23.resolve_left (by intro h9; omega)
              have hr6 : r_22.toInt = nn.toInt := by rw [hr8]
              refine lv_istore_n (lv' := [(3, .int r_22), (4, .int ii), (2, .ref t1), (0, .ref h0), (1, .int 1)]) hx hb dX12_sum_123 rfl hl (by decide +kernel) rfl (fun ls hl => ?_)
              obtain ⟨z_24, ez_24⟩ : ∃ y : Int32, y = ii + 1 := ⟨_, rfl⟩
              refine lv_iinc (v := z_24) (lv' := [(4, .int z_24), (3, .int r_22), (2, .ref t1), (0, .ref h0), (1, .int 1)]) hx hb dX12_sum_124 hl (k := 1) rfl (by rw [ez_24]; rfl) (by decide +kernel) rfl (fun ls hl => ?_)
              have hi9 : z_24.toInt = ii.toInt + 1 := by rw [ez_24]; exact inc1 (n := 1000) (by omega) (by decide +kernel)
              refine lv_goto (tgt := 92) hx hb dX12_sum_127 (by decide +kernel) ?_
              exact ih (z_24, r_22, (u_23 0 0), (u_23 1), (u_23 2), (u_23 3), (u_23 4), (u_23 5), (u_23 6), (u_23 7)) ls _ _ ⟨lv_sub hl [0, 1, 2, 3, 4] rfl, hP.sub [0, 1, 2, 3, 4, 5, 6, 7, 8, 9, 10, 11, 12, 13, 14, 15] rfl, hD.sub [0, 1, 2, 3, 4, 5, 6, 7, 8, 9, 10, 11, 12, 13, 14, 15] (by decide +kernel) rfl, hS, ⟨(by (try dsimp only); omega), hok, (by (try dsimp only); exact sum_stepC (by omega) hi9 hsA ez_21 hr8 hr7 (hapu_23.1 (by omega))), hme⟩⟩ (by subst_vars; (try dsimp only); rw [inc1 (i := ii) (n := 1000) (by omega) (by decide +kernel)]; omega)
          · rw [fa_le] at c_18
            try rw [ti_24] at c_18
            have hs9 : (n0 + (bn 1)).toInt = n0.toInt + (bn 1).toInt := fb_addI (by omega) (by omega)
            have hs8 := dec1 (i := n0 + (bn 1)) (by omega)
            refine lv_bipush (v := (-4)) hx hb dX12_sum_79 (by decide +kernel) ?_
            exact W.iret hx hb hr (fun t ht hW => ⟨⟨_, (fun k => [fun _ => n0, f1, f2, f3, f4, f5, f6, f7].getD k f1), rfl, ⟨⟨(show 0 ≤ (n0).toInt ∧ (n0).toInt ≤ 24 from by omega), (show okC f1 f3 f4 f5 from by first | exact hok | assumption)⟩, (Or.inr (Or.inr (Or.inl ⟨(fun h9 => h9 ⟨by decide, by decide⟩), ⟨(show 1 ≤ (bn 1).toInt from by omega), hall2⟩, (show 24 < n0.toInt + (bn 1).toInt - 1 from by omega), (by decide +kernel), ⟨rfl, rfl, rfl, rfl, rfl⟩⟩))), hme⟩, by rw [ht]; exact hP.sub [0, 1, 2, 3, 4, 5, 6, 7, 8, 9, 10, 11, 12, 13, 14, 15] rfl, hD.sub [0, 1, 2, 3, 4, 5, 6, 7, 8, 9, 10, 11, 12, 13, 14, 15] (by decide +kernel) rfl⟩, hS.F ht⟩) hS.2.2 dX12_sum_81
        · rw [fa_le] at c_17
          refine lv_aload_n hx hb dX12_sum_36 rfl (lv_at hl 2 rfl) ?_
          refine va_get (D := D) (ci := 9) (v := .ref h2) (C := RX12) (T := TX12) (N := 11) hx hb hts in_X12_sum_X12 hown hE.1 hP 0 rfl rfl 4 (by decide +kernel) (hts (.fieldLink RX12 32 "ClauseBook" "clauses" "LClauseBook$Clauses;") (List.mem_of_getElem? (i := 3) rfl)) (fun _ h9 => h9) e0_4 dX12_sum_37 ?_
          refine lv_aload_n hx hb dX12_sum_40 rfl (lv_at hl 1 rfl) ?_
          refine va_get (D := D) (ci := 0) (v := .ref a1) (C := RX1) (T := TX1) (N := 2) hx hb hts in_X12_sum_X1 hown hE.1 hP 11 rfl rfl 1 (by decide +kernel) (hts (.fieldLink RX12 308 "ClauseBook$Bag" "numbers" "[I") (List.mem_of_getElem? (i := 4) rfl)) (fun _ h9 => h9) rfl dX12_sum_41 ?_
          refine lv_iload_n hx hb dX12_sum_44 rfl (lv_at hl 0 rfl) ?_
          refine va_iald hx hb hE.1 hP 14 0 rfl rfl (by rw [vp_in_iff]; first | omega | (subst_vars; rw [dec1 (by omega)]; omega) | (subst_vars; rw [inc1 (n := 1000) (by omega) (by decide +kernel)]; omega)) dX12_sum_45 ?_
          refine lv_topi (fun z_25 ez_25 => ?_)
          refine vp_callSi (W.runV (As := [.int z_25]) (rest := []) ⟨hx, hb, hml, hown, hts⟩ (c_X2_has l D T h2 [.int n0, .ref c1, .ref c2, .ref c3, .ref c4, .ref c5, .ref c6, .ref c7] z_25 n0 rfl (by omega)) (cwV 1 hts gX12_sum_X2_has rfl rfl rfl hv_X2_has ⟨Nat.le_of_ble_eq_true rfl, Nat.le_of_ble_eq_true rfl⟩) (pR_V (q := (RX2, TX2, 8)) (ci := 1) (q0 := 2) hP hE rfl rfl [2] rfl) rfl rfl hl.1 rfl (lv_room (Nat.le_of_ble_eq_true rfl)) dX12_sum_46 ⟨Nat.le_of_ble_eq_true rfl, Nat.le_of_ble_eq_true rfl⟩) (fun r_26 hr_26 => ?_)
          rcases bool_post hr_26 with ⟨c_27, rfl⟩ | ⟨c_27, rfl⟩
          · refine lv_if_ne (tgt := 54) hx hb dX12_sum_49 (by decide +kernel) (fun _ => ?_) (fun c9 => absurd c9 (by decide +kernel))
            obtain ⟨z_28, ez_28⟩ : ∃ y : Int32, y = ii + 1 := ⟨_, rfl⟩
            refine lv_iinc (v := z_28) (lv' := [(3, .int z_28), (2, .ref t1), (0, .ref h0), (1, .int 1)]) hx hb dX12_sum_54 hl (k := 0) rfl (by rw [ez_28]; rfl) (by decide +kernel) rfl (fun ls hl => ?_)
            refine lv_goto (tgt := 28) hx hb dX12_sum_57 (by decide +kernel) ?_
            exact ih z_28 ls ⟨lv_sub hl [0, 1, 2, 3] rfl, ⟨(by subst_vars; (try dsimp only); rw [inc1 (i := ii) (n := 1000) (by omega) (by decide +kernel)]; omega), sum_step hall (by subst_vars; (try dsimp only); exact inc1 (i := ii) (n := 1000) (by omega) (by decide +kernel)) (by omega) (by rw [← ez_25]; omega)⟩⟩ (by subst_vars; (try dsimp only); rw [inc1 (i := ii) (n := 1000) (by omega) (by decide +kernel)]; omega)
          · refine lv_if_ne (tgt := 54) hx hb dX12_sum_49 (by decide +kernel) (fun c9 => absurd c9 (by decide +kernel)) (fun _ => ?_)
            refine lv_iconst (v := (-1)) hx hb dX12_sum_52 (by decide +kernel) ?_
            exact W.iret hx hb hr (fun t ht hW => ⟨⟨_, (fun k => [fun _ => n0, f1, f2, f3, f4, f5, f6, f7].getD k f1), rfl, ⟨⟨(show 0 ≤ (n0).toInt ∧ (n0).toInt ≤ 24 from by omega), (show okC f1 f3 f4 f5 from by first | exact hok | assumption)⟩, (Or.inr (Or.inl ⟨(fun h9 => h9 ⟨by decide, by decide⟩), (fun h9 => by
                  have h8 : 0 ≤ (bf 1 (ii.toNatClampNeg)).toInt ∧ (bf 1 (ii.toNatClampNeg)).toInt < n0.toInt := h9.2 (ii.toNatClampNeg) (by show ((ii.toNatClampNeg : Nat) : Int) < (bn 1).toInt; have h7 := tn (x := ii) (by omega); omega)
                  rw [← ez_25] at h8
                  omega), (by decide +kernel), ⟨rfl, rfl, rfl, rfl, rfl⟩⟩)), hme⟩, by rw [ht]; exact hP.sub [0, 1, 2, 3, 4, 5, 6, 7, 8, 9, 10, 11, 12, 13, 14, 15] rfl, hD.sub [0, 1, 2, 3, 4, 5, 6, 7, 8, 9, 10, 11, 12, 13, 14, 15] (by decide +kernel) rfl⟩, hS.F ht⟩) hS.2.2 dX12_sum_53
      · rw [fa_eq] at c_16
        try rw [ti_0] at c_16
        refine lv_iconst (v := (-1)) hx hb dX12_sum_24 (by decide +kernel) ?_
        exact W.iret hx hb hr (fun t ht hW => ⟨⟨_, (fun k => [fun _ => n0, f1, f2, f3, f4, f5, f6, f7].getD k f1), rfl, ⟨⟨(show 0 ≤ (n0).toInt ∧ (n0).toInt ≤ 24 from by omega), (show okC f1 f3 f4 f5 from by first | exact hok | assumption)⟩, (Or.inr (Or.inl ⟨(fun h9 => h9 ⟨by decide, by decide⟩), (fun h9 => by have h8 : 1 ≤ (bn 1).toInt := h9.1; omega), (by decide +kernel), ⟨rfl, rfl, rfl, rfl, rfl⟩⟩)), hme⟩, by rw [ht]; exact hP.sub [0, 1, 2, 3, 4, 5, 6, 7, 8, 9, 10, 11, 12, 13, 14, 15] rfl, hD.sub [0, 1, 2, 3, 4, 5, 6, 7, 8, 9, 10, 11, 12, 13, 14, 15] (by decide +kernel) rfl⟩, hS.F ht⟩) hS.2.2 dX12_sum_25
    · refine lv_aload_n hx hb dX12_sum_10 rfl (lv_at hl 0 rfl) ?_
      refine va_get (D := D) (ci := 9) (v := .ref h1) (C := RX12) (T := TX12) (N := 11) hx hb hts in_X12_sum_X12 hown hE.1 hP 0 rfl rfl 5 (by decide +kernel) (hts (.fieldLink RX12 37 "ClauseBook" "bags" "[LClauseBook$Bag;") (List.mem_of_getElem? (i := 1) rfl)) (fun _ h9 => h9) e0_5 dX12_sum_11 ?_
      refine lv_iload_n hx hb dX12_sum_14 rfl (lv_at hl 1 rfl) ?_
      refine va_aldq hx hb hE.1 hP 1 5 rfl rfl (by unfold vp_in; decide) dX12_sum_15 ?_
      refine W.eq (g2 := F0 m 16 ls [.ref t2]) rfl ?_
      refine lv_astore_n (lv' := [(2, .ref t2), (0, .ref h0), (1, .int 2)]) hx hb dX12_sum_16 rfl hl (by decide +kernel) rfl (fun ls hl => ?_)
      refine lv_aload_n hx hb dX12_sum_17 rfl (lv_at hl 0 rfl) ?_
      refine va_get (D := D) (ci := 0) (v := .int (bn 2)) (C := RX1) (T := TX1) (N := 2) hx hb hts in_X12_sum_X1 hown hE.1 hP 12 rfl rfl 0 (by decide +kernel) (hts (.fieldLink RX12 307 "ClauseBook$Bag" "size" "I") (List.mem_of_getElem? (i := 2) rfl)) (fun _ h9 => h9) rfl dX12_sum_18 ?_
      refine lv_if_ne (tgt := 26) hx hb dX12_sum_21 (by decide +kernel) (fun c_29 => ?_) (fun c_29 => ?_)
      · rw [fa_eq] at c_29
        try rw [ti_0] at c_29
        refine lv_iconst (v := 0) hx hb dX12_sum_26 (by decide +kernel) ?_
        refine lv_istore_n (lv' := [(3, .int 0), (2, .ref t2), (0, .ref h0), (1, .int 2)]) hx hb dX12_sum_27 rfl hl (by decide +kernel) rfl (fun ls hl => ?_)
        refine loopR (σ := (Int32)) (fun x9 ls => lv_has ls 5 [(3, .int x9), (2, .ref t2), (0, .ref h0), (1, .int 2)] ∧ (0 ≤ x9.toInt ∧ ∀ j : Nat, (j : Int) < x9.toInt → 0 ≤ (bf 2 j).toInt ∧ (bf 2 j).toInt < n0.toInt)) (fun x9 => (12 - x9.toInt).toNat) (fun x9 ls hI ih => ?_) 0 ls ⟨lv_sub hl [0, 1, 2, 3] rfl, ⟨(by (try dsimp only); decide), (fun j hj => absurd hj (by (try dsimp only); rw [ti_0]; omega))⟩⟩
        obtain ⟨ii, rfl⟩ : ∃ z, z = x9 := ⟨_, rfl⟩
        obtain ⟨hl, hinv⟩ := hI
        have hl : lv_has ls 5 [(3, .int ii), (2, .ref t2), (0, .ref h0), (1, .int 2)] := hl
        have hinv : 0 ≤ ii.toInt ∧ ∀ j : Nat, (j : Int) < ii.toInt → 0 ≤ (bf 2 j).toInt ∧ (bf 2 j).toInt < n0.toInt := hinv
        obtain ⟨hii, hall⟩ := hinv
        refine lv_iload_n hx hb dX12_sum_28 rfl (lv_at hl 0 rfl) ?_
        refine lv_aload_n hx hb dX12_sum_29 rfl (lv_at hl 1 rfl) ?_
        refine va_get (D := D) (ci := 0) (v := .int (bn 2)) (C := RX1) (T := TX1) (N := 2) hx hb hts in_X12_sum_X1 hown hE.1 hP 12 rfl rfl 0 (by decide +kernel) (hts (.fieldLink RX12 307 "ClauseBook$Bag" "size" "I") (List.mem_of_getElem? (i := 2) rfl)) (fun _ h9 => h9) rfl dX12_sum_30 ?_
        refine lv_icmp_ge (tgt := 60) hx hb dX12_sum_33 (by decide +kernel) (fun c_30 => ?_) (fun c_30 => ?_)
        · rw [fa_le] at c_30
          have hall2 : ∀ j : Nat, (j : Int) < (bn 2).toInt → 0 ≤ (bf 2 j).toInt ∧ (bf 2 j).toInt < n0.toInt := fun j hj => hall j (by omega)
          refine lv_aload_n hx hb dX12_sum_60 rfl (lv_at hl 2 rfl) ?_
          refine va_get (D := D) (ci := 9) (v := .ref h2) (C := RX12) (T := TX12) (N := 11) hx hb hts in_X12_sum_X12 hown hE.1 hP 0 rfl rfl 4 (by decide +kernel) (hts (.fieldLink RX12 32 "ClauseBook" "clauses" "LClauseBook$Clauses;") (List.mem_of_getElem? (i := 3) rfl)) (fun _ h9 => h9) e0_4 dX12_sum_61 ?_
          refine va_get (D := D) (ci := 1) (v := .int n0) (C := RX2) (T := TX2) (N := 8) hx hb hts in_X12_sum_X2 hown hE.1 hP 2 rfl rfl 0 (by decide +kernel) (hts (.fieldLink RX12 138 "ClauseBook$Clauses" "size" "I") (List.mem_of_getElem? (i := 5) rfl)) (fun _ h9 => h9) rfl dX12_sum_64 ?_
          refine lv_aload_n hx hb dX12_sum_67 rfl (lv_at hl 1 rfl) ?_
          refine va_get (D := D) (ci := 0) (v := .int (bn 2)) (C := RX1) (T := TX1) (N := 2) hx hb hts in_X12_sum_X1 hown hE.1 hP 12 rfl rfl 0 (by decide +kernel) (hts (.fieldLink RX12 307 "ClauseBook$Bag" "size" "I") (List.mem_of_getElem? (i := 2) rfl)) (fun _ h9 => h9) rfl dX12_sum_68 ?_
          refine lv_iadd hx hb dX12_sum_71 ?_
          refine lv_iconst (v := 1) hx hb dX12_sum_72 (by decide +kernel) ?_
          refine lv_isub hx hb dX12_sum_73 ?_
          refine lv_bipush (v := 24) hx hb dX12_sum_74 (by decide +kernel) ?_
          refine lv_icmp_le (tgt := 82) hx hb dX12_sum_76 (by decide +kernel) (fun c_31 => ?_) (fun c_31 => ?_)
          · rw [fa_le] at c_31
            try rw [ti_24] at c_31
            have hs9 : (n0 + (bn 2)).toInt = n0.toInt + (bn 2).toInt := fb_addI (by omega) (by omega)
            have hs8 := dec1 (i := n0 + (bn 2)) (by omega)
            refine lv_aload_n hx hb dX12_sum_82 rfl (lv_at hl 1 rfl) ?_
            refine va_get (D := D) (ci := 0) (v := .ref a2) (C := RX1) (T := TX1) (N := 2) hx hb hts in_X12_sum_X1 hown hE.1 hP 12 rfl rfl 1 (by decide +kernel) (hts (.fieldLink RX12 308 "ClauseBook$Bag" "numbers" "[I") (List.mem_of_getElem? (i := 4) rfl)) (fun _ h9 => h9) rfl dX12_sum_83 ?_
            refine lv_iconst (v := 0) hx hb dX12_sum_86 (by decide +kernel) ?_
            refine va_iald hx hb hE.1 hP 15 0 rfl rfl (by unfold vp_in; decide) dX12_sum_87 ?_
            refine lv_topi (fun z_32 ez_32 => ?_)
            have hz9 : 0 ≤ z_32.toInt ∧ z_32.toInt < n0.toInt := by rw [ez_32]; exact hall 0 (by omega)
            refine lv_istore_n (lv' := [(3, .int z_32), (2, .ref t2), (0, .ref h0), (1, .int 2)]) hx hb dX12_sum_88 rfl hl (by decide +kernel) rfl (fun ls hl => ?_)
            refine lv_iconst (v := 1) hx hb dX12_sum_89 (by decide +kernel) ?_
            refine lv_istore (lv' := [(4, .int 1), (3, .int z_32), (2, .ref t2), (0, .ref h0), (1, .int 2)]) hx hb dX12_sum_90 hl (by decide +kernel) rfl (fun ls hl => ?_)
            refine loopW (σ := (Int32) × (Int32) × (Int32) × (Nat → Int32) × (Nat → Int32) × (Nat → Int32) × (Nat → Int32) × (Nat → Int32) × (Nat → Int32) × (Nat → Int32)) (fun x9 ls H locs => lv_has ls 5 [(4, .int x9.1), (3, .int x9.2.1), (2, .ref t2), (0, .ref h0), (1, .int 2)] ∧ va_P D vwCl [(h0, .inr (9, fs0)), (h1, .inl (T 5, 3, .inr (.inr (.inr (.inr (va_up (va_up (va_up (fun _ => none) 0 (some t0)) 1 (some t1)) 2 (some t2))))))), (h2, .inr (1, [.int x9.2.2.1, .ref c1, .ref c2, .ref c3, .ref c4, .ref c5, .ref c6, .ref c7])), (c1, .inl (T 0, 24, .inl x9.2.2.2.1)), (c2, .inl (T 0, 24, .inl x9.2.2.2.2.1)), (c3, .inl (T 0, 24, .inl x9.2.2.2.2.2.1)), (c4, .inl (T 0, 24, .inl x9.2.2.2.2.2.2.1)), (c5, .inl (T 0, 24, .inl x9.2.2.2.2.2.2.2.1)), (c6, .inl (T 0, 24, .inl x9.2.2.2.2.2.2.2.2.1)), (c7, .inl (T 0, 24, .inl x9.2.2.2.2.2.2.2.2.2)), (t0, .inr (0, [.int (bn 0), .ref a0])), (t1, .inr (0, [.int (bn 1), .ref a1])), (t2, .inr (0, [.int (bn 2), .ref a2])), (a0, .inl (T 0, 12, .inl (bf 0))), (a1, .inl (T 0, 12, .inl (bf 1))), (a2, .inl (T 0, 12, .inl (bf 2)))] H ∧ va_D A [(h0, .inr (9, fs0)), (h1, .inl (T 5, 3, .inr (.inr (.inr (.inr (va_up (va_up (va_up (fun _ => none) 0 (some t0)) 1 (some t1)) 2 (some t2))))))), (h2, .inr (1, [.int x9.2.2.1, .ref c1, .ref c2, .ref c3, .ref c4, .ref c5, .ref c6, .ref c7])), (c1, .inl (T 0, 24, .inl x9.2.2.2.1)), (c2, .inl (T 0, 24, .inl x9.2.2.2.2.1)), (c3, .inl (T 0, 24, .inl x9.2.2.2.2.2.1)), (c4, .inl (T 0, 24, .inl x9.2.2.2.2.2.2.1)), (c5, .inl (T 0, 24, .inl x9.2.2.2.2.2.2.2.1)), (c6, .inl (T 0, 24, .inl x9.2.2.2.2.2.2.2.2.1)), (c7, .inl (T 0, 24, .inl x9.2.2.2.2.2.2.2.2.2)), (t0, .inr (0, [.int (bn 0), .ref a0])), (t1, .inr (0, [.int (bn 1), .ref a1])), (t2, .inr (0, [.int (bn 2), .ref a2])), (a0, .inl (T 0, 12, .inl (bf 0))), (a1, .inl (T 0, 12, .inl (bf 1))), (a2, .inl (T 0, 12, .inl (bf 2)))] ∧ va_S A s.heap H locs ∧ ((1 ≤ x9.1.toInt ∧ x9.1.toInt ≤ (bn 2).toInt ∧ x9.2.2.1.toInt = n0.toInt + x9.1.toInt - 1 ∧ 0 ≤ x9.2.1.toInt ∧ x9.2.1.toInt < x9.2.2.1.toInt) ∧ okC x9.2.2.2.1 x9.2.2.2.2.2.1 x9.2.2.2.2.2.2.1 x9.2.2.2.2.2.2.2.1 ∧ (∀ A : clsA, rlC n0 f1 f2 f3 f4 A → x9.2.1 = (sumF (bf 2) A (x9.1.toNatClampNeg - 1)).1 ∧ rlC x9.2.2.1 x9.2.2.2.1 x9.2.2.2.2.1 x9.2.2.2.2.2.1 x9.2.2.2.2.2.2.1 (sumF (bf 2) A (x9.1.toNatClampNeg - 1)).2) ∧ ∀ j : Nat, (j : Int) < x9.2.2.1.toInt → mesP x9.2.2.2.1 x9.2.2.2.2.1 x9.2.2.2.2.2.1 x9.2.2.2.2.2.2.1 x9.2.2.2.2.2.2.2.1 x9.2.2.2.2.2.2.2.2.1 x9.2.2.2.2.2.2.2.2.2 j)) (fun x9 => (12 - x9.1.toInt).toNat) (fun x9 ls H locs hI ih => ?_) (1, z_32, n0, f1, f2, f3, f4, f5, f6, f7) ls ⟨lv_sub hl [0, 1, 2, 3, 4] rfl, hP.sub [0, 1, 2, 3, 4, 5, 6, 7, 8, 9, 10, 11, 12, 13, 14, 15] rfl, hD.sub [0, 1, 2, 3, 4, 5, 6, 7, 8, 9, 10, 11, 12, 13, 14, 15] (by decide +kernel) rfl, hS, ⟨(by (try dsimp only); rw [ti_1]; omega), hok, (by (try dsimp only); intro A hA; rw [tn1']; exact ⟨(show z_32 = (bf 2) 0 from ez_32), hA⟩), hme⟩⟩
            obtain ⟨ii, al, nn, v1, v2, v3, v4, v5, v6, v7⟩ := x9
            obtain ⟨hl, hP, hD, hS, hinv⟩ := hI
            have hl : lv_has ls 5 [(4, .int ii), (3, .int al), (2, .ref t2), (0, .ref h0), (1, .int 2)] := hl
            have hP : va_P D vwCl [(h0, .inr (9, fs0)), (h1, .inl (T 5, 3, .inr (.inr (.inr (.inr (va_up (va_up (va_up (fun _ => none) 0 (some t0)) 1 (some t1)) 2 (some t2))))))), (h2, .inr (1, [.int nn, .ref c1, .ref c2, .ref c3, .ref c4, .ref c5, .ref c6, .ref c7])), (c1, .inl (T 0, 24, .inl v1)), (c2, .inl (T 0, 24, .inl v2)), (c3, .inl (T 0, 24, .inl v3)), (c4, .inl (T 0, 24, .inl v4)), (c5, .inl (T 0, 24, .inl v5)), (c6, .inl (T 0, 24, .inl v6)), (c7, .inl (T 0, 24, .inl v7)), (t0, .inr (0, [.int (bn 0), .ref a0])), (t1, .inr (0, [.int (bn 1), .ref a1])), (t2, .inr (0, [.int (bn 2), .ref a2])), (a0, .inl (T 0, 12, .inl (bf 0))), (a1, .inl (T 0, 12, .inl (bf 1))), (a2, .inl (T 0, 12, .inl (bf 2)))] H := hP
            have hD : va_D A [(h0, .inr (9, fs0)), (h1, .inl (T 5, 3, .inr (.inr (.inr (.inr (va_up (va_up (va_up (fun _ => none) 0 (some t0)) 1 (some t1)) 2 (some t2))))))), (h2, .inr (1, [.int nn, .ref c1, .ref c2, .ref c3, .ref c4, .ref c5, .ref c6, .ref c7])), (c1, .inl (T 0, 24, .inl v1)), (c2, .inl (T 0, 24, .inl v2)), (c3, .inl (T 0, 24, .inl v3)), (c4, .inl (T 0, 24, .inl v4)), (c5, .inl (T 0, 24, .inl v5)), (c6, .inl (T 0, 24, .inl v6)), (c7, .inl (T 0, 24, .inl v7)), (t0, .inr (0, [.int (bn 0), .ref a0])), (t1, .inr (0, [.int (bn 1), .ref a1])), (t2, .inr (0, [.int (bn 2), .ref a2])), (a0, .inl (T 0, 12, .inl (bf 0))), (a1, .inl (T 0, 12, .inl (bf 1))), (a2, .inl (T 0, 12, .inl (bf 2)))] := hD
            have hinv : (1 ≤ ii.toInt ∧ ii.toInt ≤ (bn 2).toInt ∧ nn.toInt = n0.toInt + ii.toInt - 1 ∧ 0 ≤ al.toInt ∧ al.toInt < nn.toInt) ∧ okC v1 v3 v4 v5 ∧ (∀ A : clsA, rlC n0 f1 f2 f3 f4 A → al = (sumF (bf 2) A (ii.toNatClampNeg - 1)).1 ∧ rlC nn v1 v2 v3 v4 (sumF (bf 2) A (ii.toNatClampNeg - 1)).2) ∧ ∀ j : Nat, (j : Int) < nn.toInt → mesP v1 v2 v3 v4 v5 v6 v7 j := hinv
            obtain ⟨hii, hok, hsA, hme⟩ := hinv
            refine lv_iload hx hb dX12_sum_92 (lv_at hl 0 rfl) ?_
            refine lv_aload_n hx hb dX12_sum_94 rfl (lv_at hl 2 rfl) ?_
            refine va_get (D := D) (ci := 0) (v := .int (bn 2)) (C := RX1) (T := TX1) (N := 2) hx hb hts in_X12_sum_X1 hown hE.1 hP 12 rfl rfl 0 (by decide +kernel) (hts (.fieldLink RX12 307 "ClauseBook$Bag" "size" "I") (List.mem_of_getElem? (i := 2) rfl)) (fun _ h9 => h9) rfl dX12_sum_95 ?_
            refine lv_icmp_ge (tgt := 130) hx hb dX12_sum_98 (by decide +kernel) (fun c_33 => ?_) (fun c_33 => ?_)
            · rw [fa_le] at c_33
              refine lv_iload_n hx hb dX12_sum_130 rfl (lv_at hl 1 rfl) ?_
              exact W.iret hx hb hr (fun t ht hW => ⟨⟨_, (fun k => [fun _ => nn, v1, v2, v3, v4, v5, v6, v7].getD k f1), rfl, ⟨⟨(show 0 ≤ (nn).toInt ∧ (nn).toInt ≤ 24 from by omega), (show okC v1 v3 v4 v5 from by first | exact hok | assumption)⟩, (Or.inr (Or.inr (Or.inr ⟨(fun h9 => h9 ⟨by decide, by decide⟩), ⟨(show 1 ≤ (bn 2).toInt from by omega), hall2⟩, (show n0.toInt + (bn 2).toInt - 1 ≤ 24 from by omega), (show ii = (bn 2) from Int32.toInt_inj.1 (by omega)) ▸ hsA⟩))), hme⟩, by rw [ht]; exact hP.sub [0, 1, 2, 3, 4, 5, 6, 7, 8, 9, 10, 11, 12, 13, 14, 15] rfl, hD.sub [0, 1, 2, 3, 4, 5, 6, 7, 8, 9, 10, 11, 12, 13, 14, 15] (by decide +kernel) rfl⟩, hS.F ht⟩) hS.2.2 dX12_sum_131
            · rw [fa_le] at c_33
              refine lv_aload_n hx hb dX12_sum_101 rfl (lv_at hl 3 rfl) ?_
              refine va_get (D := D) (ci := 9) (v := .ref h2) (C := RX12) (T := TX12) (N := 11) hx hb hts in_X12_sum_X12 hown hE.1 hP 0 rfl rfl 4 (by decide +kernel) (hts (.fieldLink RX12 32 "ClauseBook" "clauses" "LClauseBook$Clauses;") (List.mem_of_getElem? (i := 3) rfl)) (fun _ h9 => h9) e0_4 dX12_sum_102 ?_
              refine va_gets (v := .ref (ad 5)) hx hb (hV.1.1.1 5 (by decide +kernel)).1 hS hown (hts (.fieldLink RX12 311 "ClauseBook$Kind" "BOTH" "LClauseBook$Kind;") (List.mem_of_getElem? (i := 6) rfl)) (fun _ h9 => h9) dX12_sum_105 ?_
              refine va_getE (i := 5) hx hb hV.1.1 (by decide +kernel) hS hown (q := kdQ "number" [0, 1, 2, 3, 4, 5, 6, 7, 8, 9, 10, 11, 12]) (List.mem_of_getElem? (i := 3) rfl) (hts (.fieldLink RX12 314 "ClauseBook$Kind" "number" "I") (List.mem_of_getElem? (i := 7) rfl)) (fun _ h9 => h9) dX12_sum_108 ?_
              refine W.eq (g2 := F0 m 111 ls [.int 5, .ref h2]) rfl ?_
              refine lv_iconst (v := 0) hx hb dX12_sum_111 (by decide +kernel) ?_
              refine lv_iload_n hx hb dX12_sum_112 rfl (lv_at hl 1 rfl) ?_
              refine lv_aload_n hx hb dX12_sum_113 rfl (lv_at hl 2 rfl) ?_
              refine va_get (D := D) (ci := 0) (v := .ref a2) (C := RX1) (T := TX1) (N := 2) hx hb hts in_X12_sum_X1 hown hE.1 hP 12 rfl rfl 1 (by decide +kernel) (hts (.fieldLink RX12 308 "ClauseBook$Bag" "numbers" "[I") (List.mem_of_getElem? (i := 4) rfl)) (fun _ h9 => h9) rfl dX12_sum_114 ?_
              refine lv_iload hx hb dX12_sum_117 (lv_at hl 0 rfl) ?_
              refine va_iald hx hb hE.1 hP 15 0 rfl rfl (by rw [vp_in_iff]; first | omega | (subst_vars; rw [dec1 (by omega)]; omega) | (subst_vars; rw [inc1 (n := 1000) (by omega) (by decide +kernel)]; omega)) dX12_sum_119 ?_
              refine lv_topi (fun z_34 ez_34 => ?_)
              have hz8 : 0 ≤ z_34.toInt ∧ z_34.toInt < n0.toInt := by rw [ez_34]; exact sum_at hall (by omega)
              have hFc := va_free (wc := [(h2, .inr (1, [.int nn, .ref c1, .ref c2, .ref c3, .ref c4, .ref c5, .ref c6, .ref c7])), (c1, .inl (T 0, 24, .inl v1)), (c2, .inl (T 0, 24, .inl v2)), (c3, .inl (T 0, 24, .inl v3)), (c4, .inl (T 0, 24, .inl v4)), (c5, .inl (T 0, 24, .inl v5)), (c6, .inl (T 0, 24, .inl v6)), (c7, .inl (T 0, 24, .inl v7))]) hD hS hA [2, 3, 4, 5, 6, 7, 8, 9] rfl
              refine va_calli (va_runV (As := [.int 5, .int 0, .int al, .int z_34]) (rest := []) ⟨hx, hb, hml, hown, hts⟩ (c_X2_append l D T ad sa av ta _ h2 nn c1 c2 c3 c4 c5 c6 c7 v1 v2 v3 v4 v5 v6 v7 5 0 al z_34 (by omega) hok (by decide +kernel) (fun _ => by omega) (fun _ => by omega) hme) (cwV 4 hts gX12_sum_X2_append rfl rfl rfl hv_X2_append ⟨Nat.le_of_ble_eq_true rfl, Nat.le_of_ble_eq_true rfl⟩) (pWk_V (q := (RX2, TX2, 8)) (ci := 1) (q0 := 2) hP hE hD hV hS hFc rfl rfl [2, 3, 4, 5, 6, 7, 8, 9] (by decide +kernel) rfl rfl) rfl rfl hl.1 rfl (lv_room (Nat.le_of_ble_eq_true rfl)) dX12_sum_120 ⟨Nat.le_of_ble_eq_true rfl, Nat.le_of_ble_eq_true rfl⟩) hS (fun q _ h => hFc q h) hFc (fun r_35 u_36 t H1 locs ht hvm hr_35 hB hz1 hk1 hS => ?_)
              obtain ⟨haru_36, ⟨hszu_36, hok⟩, hapu_36, hme⟩ := hr_35
              have hapu_36 : ((nn.toInt < 24 → (u_36 1) = upd v1 (nn.toNatClampNeg) (5 : Int32) ∧ (u_36 2) = upd v2 (nn.toNatClampNeg) (0 : Int32) ∧ (u_36 3) = upd v3 (nn.toNatClampNeg) (if 1 ≤ (nmT ((5 : Int32).toNatClampNeg)).toInt then al else -1) ∧ (u_36 4) = upd v4 (nn.toNatClampNeg) (if (nmT ((5 : Int32).toNatClampNeg)).toInt = 2 then z_34 else -1)) ∧ (¬ nn.toInt < 24 → (u_36 1) = v1 ∧ (u_36 2) = v2 ∧ (u_36 3) = v3 ∧ (u_36 4) = v4)) := hapu_36
              have hme : (∀ j : Nat, (j : Int) < (u_36 0 0).toInt → mesP (u_36 1) (u_36 2) (u_36 3) (u_36 4) (u_36 5) (u_36 6) (u_36 7) j) := hme
              obtain ⟨hP1, hD1⟩ := hB
              rw [ht] at hP1
              obtain ⟨hP, hD⟩ := va_repl [(h0, .inr (9, fs0)), (h1, .inl (T 5, 3, .inr (.inr (.inr (.inr (va_up (va_up (va_up (fun _ => none) 0 (some t0)) 1 (some t1)) 2 (some t2))))))), (h2, .inr (1, [.int (u_36 0 0), .ref c1, .ref c2, .ref c3, .ref c4, .ref c5, .ref c6, .ref c7])), (c1, .inl (T 0, 24, .inl (u_36 1))), (c2, .inl (T 0, 24, .inl (u_36 2))), (c3, .inl (T 0, 24, .inl (u_36 3))), (c4, .inl (T 0, 24, .inl (u_36 4))), (c5, .inl (T 0, 24, .inl (u_36 5))), (c6, .inl (T 0, 24, .inl (u_36 6))), (c7, .inl (T 0, 24, .inl (u_36 7))), (t0, .inr (0, [.int (bn 0), .ref a0])), (t1, .inr (0, [.int (bn 1), .ref a1])), (t2, .inr (0, [.int (bn 2), .ref a2])), (a0, .inl (T 0, 12, .inl (bf 0))), (a1, .inl (T 0, 12, .inl (bf 1))), (a2, .inl (T 0, 12, .inl (bf 2)))] hP hD [2, 3, 4, 5, 6, 7, 8, 9] [2, 3, 4, 5, 6, 7, 8, 9] rfl (by decide +kernel) rfl rfl rfl hk1 hP1
              clear hP1 hD1 hFc
              generalize H1 = H at hP hS ⊢
              obtain ⟨hr9, hr8, hr7⟩ := haru_36.resolve_left (by intro h9; omega)
              have hr6 : r_35.toInt = nn.toInt := by rw [hr8]
              refine lv_istore_n (lv' := [(3, .int r_35), (4, .int ii), (2, .ref t2), (0, .ref h0), (1, .int 2)]) hx hb dX12_sum_123 rfl hl (by decide +kernel) rfl (fun ls hl => ?_)
              obtain ⟨z_37, ez_37⟩ : ∃ y : Int32, y = ii + 1 := ⟨_, rfl⟩
              refine lv_iinc (v := z_37) (lv' := [(4, .int z_37), (3, .int r_35), (2, .ref t2), (0, .ref h0), (1, .int 2)]) hx hb dX12_sum_124 hl (k := 1) rfl (by rw [ez_37]; rfl) (by decide +kernel) rfl (fun ls hl => ?_)
              have hi9 : z_37.toInt = ii.toInt + 1 := by rw [ez_37]; exact inc1 (n := 1000) (by omega) (by decide +kernel)
              refine lv_goto (tgt := 92) hx hb dX12_sum_127 (by decide +kernel) ?_
              exact ih (z_37, r_35, (u_36 0 0), (u_36 1), (u_36 2), (u_36 3), (u_36 4), (u_36 5), (u_36 6), (u_36 7)) ls _ _ ⟨lv_sub hl [0, 1, 2, 3, 4] rfl, hP.sub [0, 1, 2, 3, 4, 5, 6, 7, 8, 9, 10, 11, 12, 13, 14, 15] rfl, hD.sub [0, 1, 2, 3, 4, 5, 6, 7, 8, 9, 10, 11, 12, 13, 14, 15] (by decide +kernel) rfl, hS, ⟨(by (try dsimp only); omega), hok, (by (try dsimp only); exact sum_stepC (by omega) hi9 hsA ez_34 hr8 hr7 (hapu_36.1 (by omega))), hme⟩⟩ (by subst_vars; (try dsimp only); rw [inc1 (i := ii) (n := 1000) (by omega) (by decide +kernel)]; omega)
          · rw [fa_le] at c_31
            try rw [ti_24] at c_31
            have hs9 : (n0 + (bn 2)).toInt = n0.toInt + (bn 2).toInt := fb_addI (by omega) (by omega)
            have hs8 := dec1 (i := n0 + (bn 2)) (by omega)
            refine lv_bipush (v := (-4)) hx hb dX12_sum_79 (by decide +kernel) ?_
            exact W.iret hx hb hr (fun t ht hW => ⟨⟨_, (fun k => [fun _ => n0, f1, f2, f3, f4, f5, f6, f7].getD k f1), rfl, ⟨⟨(show 0 ≤ (n0).toInt ∧ (n0).toInt ≤ 24 from by omega), (show okC f1 f3 f4 f5 from by first | exact hok | assumption)⟩, (Or.inr (Or.inr (Or.inl ⟨(fun h9 => h9 ⟨by decide, by decide⟩), ⟨(show 1 ≤ (bn 2).toInt from by omega), hall2⟩, (show 24 < n0.toInt + (bn 2).toInt - 1 from by omega), (by decide +kernel), ⟨rfl, rfl, rfl, rfl, rfl⟩⟩))), hme⟩, by rw [ht]; exact hP.sub [0, 1, 2, 3, 4, 5, 6, 7, 8, 9, 10, 11, 12, 13, 14, 15] rfl, hD.sub [0, 1, 2, 3, 4, 5, 6, 7, 8, 9, 10, 11, 12, 13, 14, 15] (by decide +kernel) rfl⟩, hS.F ht⟩) hS.2.2 dX12_sum_81
        · rw [fa_le] at c_30
          refine lv_aload_n hx hb dX12_sum_36 rfl (lv_at hl 2 rfl) ?_
          refine va_get (D := D) (ci := 9) (v := .ref h2) (C := RX12) (T := TX12) (N := 11) hx hb hts in_X12_sum_X12 hown hE.1 hP 0 rfl rfl 4 (by decide +kernel) (hts (.fieldLink RX12 32 "ClauseBook" "clauses" "LClauseBook$Clauses;") (List.mem_of_getElem? (i := 3) rfl)) (fun _ h9 => h9) e0_4 dX12_sum_37 ?_
          refine lv_aload_n hx hb dX12_sum_40 rfl (lv_at hl 1 rfl) ?_
          refine va_get (D := D) (ci := 0) (v := .ref a2) (C := RX1) (T := TX1) (N := 2) hx hb hts in_X12_sum_X1 hown hE.1 hP 12 rfl rfl 1 (by decide +kernel) (hts (.fieldLink RX12 308 "ClauseBook$Bag" "numbers" "[I") (List.mem_of_getElem? (i := 4) rfl)) (fun _ h9 => h9) rfl dX12_sum_41 ?_
          refine lv_iload_n hx hb dX12_sum_44 rfl (lv_at hl 0 rfl) ?_
          refine va_iald hx hb hE.1 hP 15 0 rfl rfl (by rw [vp_in_iff]; first | omega | (subst_vars; rw [dec1 (by omega)]; omega) | (subst_vars; rw [inc1 (n := 1000) (by omega) (by decide +kernel)]; omega)) dX12_sum_45 ?_
          refine lv_topi (fun z_38 ez_38 => ?_)
          refine vp_callSi (W.runV (As := [.int z_38]) (rest := []) ⟨hx, hb, hml, hown, hts⟩ (c_X2_has l D T h2 [.int n0, .ref c1, .ref c2, .ref c3, .ref c4, .ref c5, .ref c6, .ref c7] z_38 n0 rfl (by omega)) (cwV 1 hts gX12_sum_X2_has rfl rfl rfl hv_X2_has ⟨Nat.le_of_ble_eq_true rfl, Nat.le_of_ble_eq_true rfl⟩) (pR_V (q := (RX2, TX2, 8)) (ci := 1) (q0 := 2) hP hE rfl rfl [2] rfl) rfl rfl hl.1 rfl (lv_room (Nat.le_of_ble_eq_true rfl)) dX12_sum_46 ⟨Nat.le_of_ble_eq_true rfl, Nat.le_of_ble_eq_true rfl⟩) (fun r_39 hr_39 => ?_)
          rcases bool_post hr_39 with ⟨c_40, rfl⟩ | ⟨c_40, rfl⟩
          · refine lv_if_ne (tgt := 54) hx hb dX12_sum_49 (by decide +kernel) (fun _ => ?_) (fun c9 => absurd c9 (by decide +kernel))
            obtain ⟨z_41, ez_41⟩ : ∃ y : Int32, y = ii + 1 := ⟨_, rfl⟩
            refine lv_iinc (v := z_41) (lv' := [(3, .int z_41), (2, .ref t2), (0, .ref h0), (1, .int 2)]) hx hb dX12_sum_54 hl (k := 0) rfl (by rw [ez_41]; rfl) (by decide +kernel) rfl (fun ls hl => ?_)
            refine lv_goto (tgt := 28) hx hb dX12_sum_57 (by decide +kernel) ?_
            exact ih z_41 ls ⟨lv_sub hl [0, 1, 2, 3] rfl, ⟨(by subst_vars; (try dsimp only); rw [inc1 (i := ii) (n := 1000) (by omega) (by decide +kernel)]; omega), sum_step hall (by subst_vars; (try dsimp only); exact inc1 (i := ii) (n := 1000) (by omega) (by decide +kernel)) (by omega) (by rw [← ez_38]; omega)⟩⟩ (by subst_vars; (try dsimp only); rw [inc1 (i := ii) (n := 1000) (by omega) (by decide +kernel)]; omega)
          · refine lv_if_ne (tgt := 54) hx hb dX12_sum_49 (by decide +kernel) (fun c9 => absurd c9 (by decide +kernel)) (fun _ => ?_)
            refine lv_iconst (v := (-1)) hx hb dX12_sum_52 (by decide +kernel) ?_
            exact W.iret hx hb hr (fun t ht hW => ⟨⟨_, (fun k => [fun _ => n0, f1, f2, f3, f4, f5, f6, f7].getD k f1), rfl, ⟨⟨(show 0 ≤ (n0).toInt ∧ (n0).toInt ≤ 24 from by omega), (show okC f1 f3 f4 f5 from by first | exact hok | assumption)⟩, (Or.inr (Or.inl ⟨(fun h9 => h9 ⟨by decide, by decide⟩), (fun h9 => by
                  have h8 : 0 ≤ (bf 2 (ii.toNatClampNeg)).toInt ∧ (bf 2 (ii.toNatClampNeg)).toInt < n0.toInt := h9.2 (ii.toNatClampNeg) (by show ((ii.toNatClampNeg : Nat) : Int) < (bn 2).toInt; have h7 := tn (x := ii) (by omega); omega)
                  rw [← ez_38] at h8
                  omega), (by decide +kernel), ⟨rfl, rfl, rfl, rfl, rfl⟩⟩)), hme⟩, by rw [ht]; exact hP.sub [0, 1, 2, 3, 4, 5, 6, 7, 8, 9, 10, 11, 12, 13, 14, 15] rfl, hD.sub [0, 1, 2, 3, 4, 5, 6, 7, 8, 9, 10, 11, 12, 13, 14, 15] (by decide +kernel) rfl⟩, hS.F ht⟩) hS.2.2 dX12_sum_53
      · rw [fa_eq] at c_29
        try rw [ti_0] at c_29
        refine lv_iconst (v := (-1)) hx hb dX12_sum_24 (by decide +kernel) ?_
        exact W.iret hx hb hr (fun t ht hW => ⟨⟨_, (fun k => [fun _ => n0, f1, f2, f3, f4, f5, f6, f7].getD k f1), rfl, ⟨⟨(show 0 ≤ (n0).toInt ∧ (n0).toInt ≤ 24 from by omega), (show okC f1 f3 f4 f5 from by first | exact hok | assumption)⟩, (Or.inr (Or.inl ⟨(fun h9 => h9 ⟨by decide, by decide⟩), (fun h9 => by have h8 : 1 ≤ (bn 2).toInt := h9.1; omega), (by decide +kernel), ⟨rfl, rfl, rfl, rfl, rfl⟩⟩)), hme⟩, by rw [ht]; exact hP.sub [0, 1, 2, 3, 4, 5, 6, 7, 8, 9, 10, 11, 12, 13, 14, 15] rfl, hD.sub [0, 1, 2, 3, 4, 5, 6, 7, 8, 9, 10, 11, 12, 13, 14, 15] (by decide +kernel) rfl⟩, hS.F ht⟩) hS.2.2 dX12_sum_25
  · refine lv_if_ne (tgt := 10) hx hb dX12_sum_4 (by decide +kernel) (fun c9 => absurd c9 (by decide +kernel)) (fun _ => ?_)
    refine lv_bipush (v := (-2)) hx hb dX12_sum_7 (by decide +kernel) ?_
    exact W.iret hx hb hr (fun t ht hW => ⟨⟨_, (fun k => [fun _ => n0, f1, f2, f3, f4, f5, f6, f7].getD k f1), rfl, ⟨⟨(show 0 ≤ (n0).toInt ∧ (n0).toInt ≤ 24 from by omega), (show okC f1 f3 f4 f5 from by first | exact hok | assumption)⟩, (Or.inl ⟨(by omega), (by decide +kernel), ⟨rfl, rfl, rfl, rfl, rfl⟩⟩), hme⟩, by rw [ht]; exact hP.sub [0, 1, 2, 3, 4, 5, 6, 7, 8, 9, 10, 11, 12, 13, 14, 15] rfl, hD.sub [0, 1, 2, 3, 4, 5, 6, 7, 8, 9, 10, 11, 12, 13, 14, 15] (by decide +kernel) rfl⟩, hS.F ht⟩) hS.2.2 dX12_sum_9
end
section
/-! worth of clauses, by numbers: l the lattice's seven numbers, fk fn fc fd kinds, numbers, names, fe ends; MUCH is (0, 0) -/
def mulW (p : Int64 × Int64) (v w : Int64) : Int64 × Int64 := if p.2.toInt = 0 ∨ ¬ fitM p.1 v ∨ ¬ fitM p.2 w then (0, 0) else redW (p.1 * v) (p.2 * w)
def addW (p q : Int64 × Int64) : Int64 × Int64 := if p.2.toInt = 0 ∨ q.2.toInt = 0 ∨ ¬ fitM p.1 q.2 ∨ ¬ fitM q.1 p.2 ∨ ¬ fitM p.2 q.2 ∨ ¬ fitA (p.1 * q.2) (q.1 * p.2) then (0, 0) else redW (p.1 * q.2 + q.1 * p.2) (p.2 * q.2)
def cmpP (p q : Int64 × Int64) : Int := cmpW p.1.toInt p.2.toInt q.1.toInt q.2.toInt
/-- the greater one; the first, if they are alike -/
def maxW (p q : Int64 × Int64) : Int64 × Int64 := if p.2.toInt = 0 ∨ q.2.toInt = 0 then (0, 0) else if 0 < cmpP q p then q else p
def prW (l : Nat → Int32) (t k : Int32) : Int32 := ((l 0 + (l 1 * k)) - (l 2 * (t - k)))
def wtW (l : Nat → Int32) : Int64 × Int64 := redW (l 5).toInt64 ((l 6 * l 4).toInt64)
/-- MEAN of the next day's -/
def avgW (l : Nat → Int32) (V : Int32 → Int32 → Int32 → Int64 × Int64) (x t k : Int32) : Int64 × Int64 := mulW (addW (mulW (V x (t + 1) (k + 1)) (l 3).toInt64 1) (mulW (V x (t + 1) k) (l 4 - l 3).toInt64 1)) (wtW l).1 (wtW l).2
/-- which one stands for x there; -5, if that can't be told -/
def pickW (l fk fn fc fd fe : Nat → Int32) (V : Int32 → Int32 → Int32 → Int64 × Int64) (x t k : Int32) : Int32 := if (fk x.toNatClampNeg).toNatClampNeg = 8 then fc x.toNatClampNeg else if (fk x.toNatClampNeg).toNatClampNeg = 12 then (if (fn x.toNatClampNeg).toInt ≤ (prW l t k).toInt then fc x.toNatClampNeg else fd x.toNatClampNeg) else if (fe (fc x.toNatClampNeg).toNatClampNeg).toInt < t.toInt then fd x.toNatClampNeg else if (fk x.toNatClampNeg).toNatClampNeg = 9 ∨ (fe (fd x.toNatClampNeg).toNatClampNeg).toInt < t.toInt then fc x.toNatClampNeg else if (V (fc x.toNatClampNeg) t k).2.toInt = 0 ∨ (V (fd x.toNatClampNeg) t k).2.toInt = 0 then -5 else if ((fk x.toNatClampNeg).toNatClampNeg = 6 ∧ 0 < cmpP (V (fd x.toNatClampNeg) t k) (V (fc x.toNatClampNeg) t k)) ∨ ((fk x.toNatClampNeg).toNatClampNeg ≠ 6 ∧ cmpP (V (fd x.toNatClampNeg) t k) (V (fc x.toNatClampNeg) t k) < 0) then fd x.toNatClampNeg else fc x.toNatClampNeg
/-- VALUE, out of that of earlier clauses and later days -/
def stepW (l fk fn fc fd fe : Nat → Int32) (V : Int32 → Int32 → Int32 → Int64 × Int64) (x t k : Int32) : Int64 × Int64 := if (fe x.toNatClampNeg).toInt < t.toInt then (0, 1) else if (fk x.toNatClampNeg).toNatClampNeg = 0 then (0, 1) else if (fk x.toNatClampNeg).toNatClampNeg = 1 then (1, 1) else if (fk x.toNatClampNeg).toNatClampNeg = 2 then mulW (V (fc x.toNatClampNeg) t k) (-1) 1 else if (fk x.toNatClampNeg).toNatClampNeg = 3 then mulW (V (fc x.toNatClampNeg) t k) (fn x.toNatClampNeg).toInt64 1 else if (fk x.toNatClampNeg).toNatClampNeg = 4 then mulW (V (fc x.toNatClampNeg) t k) (prW l t k).toInt64 1 else if (fk x.toNatClampNeg).toNatClampNeg = 5 then addW (V (fc x.toNatClampNeg) t k) (V (fd x.toNatClampNeg) t k) else if (fk x.toNatClampNeg).toNatClampNeg = 10 then (if t.toInt = (fe x.toNatClampNeg).toInt then V (fc x.toNatClampNeg) t k else avgW l V x t k) else if (fk x.toNatClampNeg).toNatClampNeg = 11 then (if t.toInt = (fe x.toNatClampNeg).toInt then V (fc x.toNatClampNeg) t k else maxW (avgW l V x t k) (V (fc x.toNatClampNeg) t k)) else if pickW l fk fn fc fd fe V x t k = -5 then (0, 0) else V (pickW l fk fn fc fd fe V x t k) t k
def valF (l fk fn fc fd fe : Nat → Int32) : Nat → Int32 → Int32 → Int32 → Int64 × Int64
  | 0, _, _, _ => (0, 0)
  | d + 1, x, t, k => stepW l fk fn fc fd fe (valF l fk fn fc fd fe d) x t k
/-- VALUE of clause x at spot k of day t -/
abbrev VALW (l fk fn fc fd fe : Nat → Int32) : Int32 → Int32 → Int32 → Int64 × Int64 := valF l fk fn fc fd fe 31
theorem pick_ext {l l' fk fk' fn fn' fc fc' fd fd' fe fe' : Nat → Int32} {V V' : Int32 → Int32 → Int32 → Int64 × Int64} {x t k : Int32} (hl : l 0 = l' 0 ∧ l 1 = l' 1 ∧ l 2 = l' 2) (hk : fk x.toNatClampNeg = fk' x.toNatClampNeg) (hn : fn x.toNatClampNeg = fn' x.toNatClampNeg)
    (hc : fc x.toNatClampNeg = fc' x.toNatClampNeg ∧ fe (fc x.toNatClampNeg).toNatClampNeg = fe' (fc x.toNatClampNeg).toNatClampNeg ∧ V (fc x.toNatClampNeg) t k = V' (fc x.toNatClampNeg) t k)
    (hd : (fk x.toNatClampNeg).toNatClampNeg = 8 ∨ (fd x.toNatClampNeg = fd' x.toNatClampNeg ∧ fe (fd x.toNatClampNeg).toNatClampNeg = fe' (fd x.toNatClampNeg).toNatClampNeg ∧ V (fd x.toNatClampNeg) t k = V' (fd x.toNatClampNeg) t k)) : pickW l fk fn fc fd fe V x t k = pickW l' fk' fn' fc' fd' fe' V' x t k := by
  have hp : prW l t k = prW l' t k := by unfold prW; rw [hl.1, hl.2.1, hl.2.2]
  unfold pickW
  rcases hd with hd | hd
  · rw [if_pos hd, if_pos (by rw [← hk]; exact hd)]
    exact hc.1
  · rw [← hk, ← hn, ← hc.1, ← hd.1, ← hc.2.1, ← hd.2.1, ← hc.2.2, ← hd.2.2, hp]
theorem pick_in {l fk fn fc fd fe : Nat → Int32} {V : Int32 → Int32 → Int32 → Int64 × Int64} {x t k : Int32} : pickW l fk fn fc fd fe V x t k = -5 ∨ pickW l fk fn fc fd fe V x t k = fc x.toNatClampNeg ∨ ((fk x.toNatClampNeg).toNatClampNeg ≠ 8 ∧ pickW l fk fn fc fd fe V x t k = fd x.toNatClampNeg) := by
  unfold pickW
  by_cases h8 : (fk x.toNatClampNeg).toNatClampNeg = 8
  · rw [if_pos h8]; exact Or.inr (Or.inl rfl)
  · rw [if_neg h8]
    split
    · split
      · exact Or.inr (Or.inl rfl)
      · exact Or.inr (Or.inr ⟨h8, rfl⟩)
    · split
      · exact Or.inr (Or.inr ⟨h8, rfl⟩)
      · split
        · exact Or.inr (Or.inl rfl)
        · split
          · exact Or.inl rfl
          · split
            · exact Or.inr (Or.inr ⟨h8, rfl⟩)
            · exact Or.inr (Or.inl rfl)
theorem avg_ext {l l' : Nat → Int32} {V V' : Int32 → Int32 → Int32 → Int64 × Int64} {x t k : Int32} (hl : l 3 = l' 3 ∧ l 4 = l' 4 ∧ l 5 = l' 5 ∧ l 6 = l' 6) (h : V x (t + 1) (k + 1) = V' x (t + 1) (k + 1) ∧ V x (t + 1) k = V' x (t + 1) k) : avgW l V x t k = avgW l' V' x t k := by
  unfold avgW wtW
  rw [h.1, h.2, hl.1, hl.2.1, hl.2.2.1, hl.2.2.2]
/-- how many a clause of kind K names -/
theorem nmT_tab : ∀ K : Fin 13, (nmT K.val).toInt = if K.val < 2 then 0 else if K.val = 5 ∨ K.val = 6 ∨ K.val = 7 ∨ K.val = 9 ∨ K.val = 12 then 2 else 1 := by decide
theorem step_ext {l l' fk fk' fn fn' fc fc' fd fd' fe fe' : Nat → Int32} {V V' : Int32 → Int32 → Int32 → Int64 × Int64} {x t k : Int32} (hl : ∀ j : Nat, j < 7 → l j = l' j) (hK : (fk x.toNatClampNeg).toNatClampNeg < 13) (hk : fk x.toNatClampNeg = fk' x.toNatClampNeg) (hn : fn x.toNatClampNeg = fn' x.toNatClampNeg) (he : fe x.toNatClampNeg = fe' x.toNatClampNeg) (h6 : (fe x.toNatClampNeg).toInt ≤ 6)
    (hc : 1 ≤ (nmT (fk x.toNatClampNeg).toNatClampNeg).toInt → fc x.toNatClampNeg = fc' x.toNatClampNeg ∧ fe (fc x.toNatClampNeg).toNatClampNeg = fe' (fc x.toNatClampNeg).toNatClampNeg ∧ V (fc x.toNatClampNeg) t k = V' (fc x.toNatClampNeg) t k)
    (hd : (nmT (fk x.toNatClampNeg).toNatClampNeg).toInt = 2 → fd x.toNatClampNeg = fd' x.toNatClampNeg ∧ fe (fd x.toNatClampNeg).toNatClampNeg = fe' (fd x.toNatClampNeg).toNatClampNeg ∧ V (fd x.toNatClampNeg) t k = V' (fd x.toNatClampNeg) t k)
    (hm : t.toInt < 6 → V x (t + 1) (k + 1) = V' x (t + 1) (k + 1) ∧ V x (t + 1) k = V' x (t + 1) k) : stepW l fk fn fc fd fe V x t k = stepW l' fk' fn' fc' fd' fe' V' x t k := by
  have hT := nmT_tab ⟨_, hK⟩
  have hT : (nmT (fk x.toNatClampNeg).toNatClampNeg).toInt = if (fk x.toNatClampNeg).toNatClampNeg < 2 then 0 else if (fk x.toNatClampNeg).toNatClampNeg = 5 ∨ (fk x.toNatClampNeg).toNatClampNeg = 6 ∨ (fk x.toNatClampNeg).toNatClampNeg = 7 ∨ (fk x.toNatClampNeg).toNatClampNeg = 9 ∨ (fk x.toNatClampNeg).toNatClampNeg = 12 then 2 else 1 := hT
  have hp : prW l t k = prW l' t k := by unfold prW; rw [hl 0 (by decide +kernel), hl 1 (by decide +kernel), hl 2 (by decide +kernel)]
  have hA : t.toInt < 6 → avgW l V x t k = avgW l' V' x t k := fun h => avg_ext ⟨hl 3 (by decide +kernel), hl 4 (by decide +kernel), hl 5 (by decide +kernel), hl 6 (by decide +kernel)⟩ (hm h)
  unfold stepW
  rw [← he, ← hk]
  by_cases h0 : (fe x.toNatClampNeg).toInt < t.toInt
  · rw [if_pos h0, if_pos h0]
  rw [if_neg h0, if_neg h0]
  by_cases k0 : (fk x.toNatClampNeg).toNatClampNeg = 0
  · rw [if_pos k0, if_pos k0]
  rw [if_neg k0, if_neg k0]
  by_cases k1 : (fk x.toNatClampNeg).toNatClampNeg = 1
  · rw [if_pos k1, if_pos k1]
  rw [if_neg k1, if_neg k1]
  rw [if_neg (by omega)] at hT
  have hc := hc (by rw [hT]; split <;> decide)
  by_cases k2 : (fk x.toNatClampNeg).toNatClampNeg = 2
  · rw [if_pos k2, if_pos k2, ← hc.1, ← hc.2.2]
  rw [if_neg k2, if_neg k2]
  by_cases k3 : (fk x.toNatClampNeg).toNatClampNeg = 3
  · rw [if_pos k3, if_pos k3, ← hc.1, ← hc.2.2, hn]
  rw [if_neg k3, if_neg k3]
  by_cases k4 : (fk x.toNatClampNeg).toNatClampNeg = 4
  · rw [if_pos k4, if_pos k4, ← hc.1, ← hc.2.2, hp]
  rw [if_neg k4, if_neg k4]
  by_cases k5 : (fk x.toNatClampNeg).toNatClampNeg = 5
  · have hd := hd (by rw [hT, if_pos (by omega)])
    rw [if_pos k5, if_pos k5, ← hc.1, ← hc.2.2, ← hd.1, ← hd.2.2]
  rw [if_neg k5, if_neg k5]
  by_cases k10 : (fk x.toNatClampNeg).toNatClampNeg = 10
  · rw [if_pos k10, if_pos k10]
    by_cases h1 : t.toInt = (fe x.toNatClampNeg).toInt
    · rw [if_pos h1, if_pos h1, ← hc.1, ← hc.2.2]
    · rw [if_neg h1, if_neg h1, hA (by omega)]
  rw [if_neg k10, if_neg k10]
  by_cases k11 : (fk x.toNatClampNeg).toNatClampNeg = 11
  · rw [if_pos k11, if_pos k11]
    by_cases h1 : t.toInt = (fe x.toNatClampNeg).toInt
    · rw [if_pos h1, if_pos h1, ← hc.1, ← hc.2.2]
    · rw [if_neg h1, if_neg h1, hA (by omega), ← hc.1, ← hc.2.2]
  rw [if_neg k11, if_neg k11]
  have hd8 : (fk x.toNatClampNeg).toNatClampNeg = 8 ∨ (fd x.toNatClampNeg = fd' x.toNatClampNeg ∧ fe (fd x.toNatClampNeg).toNatClampNeg = fe' (fd x.toNatClampNeg).toNatClampNeg ∧ V (fd x.toNatClampNeg) t k = V' (fd x.toNatClampNeg) t k) := by
    by_cases k8 : (fk x.toNatClampNeg).toNatClampNeg = 8
    · exact Or.inl k8
    · exact Or.inr (hd (by rw [hT, if_pos (by omega)]))
  have hP := pick_ext (l := l) (l' := l') (t := t) (k := k) ⟨hl 0 (by decide +kernel), hl 1 (by decide +kernel), hl 2 (by decide +kernel)⟩ hk hn hc hd8
  rw [← hP]
  by_cases h5 : pickW l fk fn fc fd fe V x t k = -5
  · rw [if_pos h5, if_pos h5]
  rw [if_neg h5, if_neg h5]
  rcases pick_in (l := l) (fk := fk) (fn := fn) (fc := fc) (fd := fd) (fe := fe) (V := V) (x := x) (t := t) (k := k) with h | h | ⟨h8, h⟩
  · exact absurd h h5
  · rw [h]; exact hc.2.2
  · rw [h]; exact (hd8.resolve_left h8).2.2
theorem valF_ext {l l' fk fk' fn fn' fc fc' fd fd' fe fe' : Nat → Int32} {n : Nat} (hn : n ≤ 24) (hok : okC fk fc fd fe) (hl : ∀ j : Nat, j < 7 → l j = l' j) (h : ∀ j : Nat, j < n → fk j = fk' j ∧ fn j = fn' j ∧ (1 ≤ (nmT (fk j).toNatClampNeg).toInt → fc j = fc' j) ∧ ((nmT (fk j).toNatClampNeg).toInt = 2 → fd j = fd' j) ∧ fe j = fe' j) : ∀ (d : Nat) (x t k : Int32), 0 ≤ x.toInt ∧ x.toInt < n → 0 ≤ t.toInt ∧ t.toInt ≤ 6 → valF l fk fn fc fd fe d x t k = valF l' fk' fn' fc' fd' fe' d x t k
  | 0, _, _, _, _, _ => rfl
  | d + 1, x, t, k, hx, ht => by
    have ih := valF_ext hn hok hl h d
    have h1 := tn hx.1
    obtain ⟨a1, a2, a3, a4, a5⟩ := h x.toNatClampNeg (by omega)
    obtain ⟨o1, o2, o3, o4⟩ := hok x.toNatClampNeg (by omega)
    have h2 := tn o1.1
    refine step_ext hl (by omega) a1 a2 a5 o4 (fun q => ?_) (fun q => ?_) (fun q => ?_)
    · have c := o2 q
      have c2 := tn c.1
      exact ⟨a3 q, (h _ (by omega)).2.2.2.2, ih _ _ _ ⟨c.1, by omega⟩ ht⟩
    · have c := o3 q
      have c2 := tn c.1
      exact ⟨a4 q, (h _ (by omega)).2.2.2.2, ih _ _ _ ⟨c.1, by omega⟩ ht⟩
    · have e := inc1 (i := t) (n := 6) q (by decide +kernel)
      exact ⟨ih _ _ _ hx ⟨by omega, by omega⟩, ih _ _ _ hx ⟨by omega, by omega⟩⟩
theorem valF_succ {l fk fn fc fd fe : Nat → Int32} (hok : okC fk fc fd fe) : ∀ (d : Nat) (x t k : Int32), 0 ≤ x.toInt ∧ x.toInt < 24 → 0 ≤ t.toInt ∧ t.toInt ≤ 6 → x.toInt + (6 - t.toInt) < d → valF l fk fn fc fd fe (d + 1) x t k = valF l fk fn fc fd fe d x t k
  | 0, x, t, k, hx, ht, hd => by omega
  | d + 1, x, t, k, hx, ht, hd => by
    have ih := valF_succ (l := l) (fn := fn) hok d
    have h1 := tn hx.1
    obtain ⟨o1, o2, o3, o4⟩ := hok x.toNatClampNeg (by omega)
    have h2 := tn o1.1
    show stepW l fk fn fc fd fe (valF l fk fn fc fd fe (d + 1)) x t k = stepW l fk fn fc fd fe (valF l fk fn fc fd fe d) x t k
    refine step_ext (fun _ _ => rfl) (by omega) rfl rfl rfl o4 (fun q => ?_) (fun q => ?_) (fun q => ?_)
    · have c := o2 q
      exact ⟨rfl, rfl, ih _ _ _ ⟨c.1, by omega⟩ ht (by omega)⟩
    · have c := o3 q
      exact ⟨rfl, rfl, ih _ _ _ ⟨c.1, by omega⟩ ht (by omega)⟩
    · have e := inc1 (i := t) (n := 6) q (by decide +kernel)
      exact ⟨ih _ _ _ hx ⟨by omega, by omega⟩ (by omega), ih _ _ _ hx ⟨by omega, by omega⟩ (by omega)⟩
theorem VAL_step {l fk fn fc fd fe : Nat → Int32} (hok : okC fk fc fd fe) {x t k : Int32} (hx : 0 ≤ x.toInt ∧ x.toInt < 24) (ht : 0 ≤ t.toInt ∧ t.toInt ≤ 6) : VALW l fk fn fc fd fe x t k = stepW l fk fn fc fd fe (VALW l fk fn fc fd fe) x t k := (valF_succ hok 31 x t k hx ht (by omega)).symm
/-! lowest terms -/
def lowW (p : Int64 × Int64) : Prop := p = (0, 0) ∨ (1 ≤ p.2.toInt ∧ Nat.gcd p.1.toInt.natAbs p.2.toInt.natAbs = 1)
theorem redW_low {x y : Int64} (hy : 1 ≤ y.toInt) : lowW (redW x y) := by
  have h := gI_toInt (x := x) hy
  refine Or.inr ⟨redW_pos hy, ?_⟩
  show Nat.gcd (x / gI x y).toInt.natAbs (y / gI x y).toInt.natAbs = 1
  rw [l_div h.2.1, l_div h.2.1, Int.natAbs_tdiv, Int.natAbs_tdiv]
  have e : (gI x y).toInt.natAbs = Nat.gcd x.toInt.natAbs y.toInt.natAbs := by omega
  rw [e]
  exact Nat.gcd_div_gcd_div_gcd_of_pos_right (by omega)
theorem mulW_low {p : Int64 × Int64} {v w : Int64} (hp : lowW p) (hw : 1 ≤ w.toInt) : lowW (mulW p v w) := by
  unfold mulW
  by_cases h : p.2.toInt = 0 ∨ ¬ fitM p.1 v ∨ ¬ fitM p.2 w
  · rw [if_pos h]; exact Or.inl rfl
  · rw [if_neg h]
    have h1 : 1 ≤ p.2.toInt := by
      rcases hp with e | e
      · rw [e] at h; exact absurd (Or.inl (by decide +kernel)) h
      · exact e.1
    have h2 : fitM p.2 w := Classical.byContradiction fun q => h (Or.inr (Or.inr q))
    refine redW_low ?_
    rw [l_mul h2.1 h2.2]
    have h3 : 1 * 1 ≤ p.2.toInt * w.toInt := Int.mul_le_mul h1 hw (by omega) (by omega)
    omega
theorem addW_low {p q : Int64 × Int64} (hp : lowW p) (hq : lowW q) : lowW (addW p q) := by
  unfold addW
  by_cases h : p.2.toInt = 0 ∨ q.2.toInt = 0 ∨ ¬ fitM p.1 q.2 ∨ ¬ fitM q.1 p.2 ∨ ¬ fitM p.2 q.2 ∨ ¬ fitA (p.1 * q.2) (q.1 * p.2)
  · rw [if_pos h]; exact Or.inl rfl
  · rw [if_neg h]
    have h1 : 1 ≤ p.2.toInt := by
      rcases hp with e | e
      · rw [e] at h; exact absurd (Or.inl (by decide +kernel)) h
      · exact e.1
    have h1' : 1 ≤ q.2.toInt := by
      rcases hq with e | e
      · rw [e] at h; exact absurd (Or.inr (Or.inl (by decide +kernel))) h
      · exact e.1
    have h2 : fitM p.2 q.2 := Classical.byContradiction fun q => h (Or.inr (Or.inr (Or.inr (Or.inr (Or.inl q)))))
    refine redW_low ?_
    rw [l_mul h2.1 h2.2]
    have h3 : 1 * 1 ≤ p.2.toInt * q.2.toInt := Int.mul_le_mul h1 h1' (by omega) (by omega)
    omega
theorem low_01 : lowW (0, 1) := Or.inr ⟨by decide, by decide⟩
theorem low_11 : lowW (1, 1) := Or.inr ⟨by decide, by decide⟩
theorem wt_pos {l : Nat → Int32} (hq : 1 ≤ (l 4).toInt ∧ (l 4).toInt ≤ 9) (hb : 1 ≤ (l 6).toInt ∧ (l 6).toInt ≤ 9) : 1 ≤ (wtW l).2.toInt := by
  refine redW_pos ?_
  rw [Int32.toInt_toInt64]
  have h1 : (l 6).toInt * (l 4).toInt ≤ 9 * 9 := Int.mul_le_mul hb.2 hq.2 (by omega) (by omega)
  have h2 : 1 * 1 ≤ (l 6).toInt * (l 4).toInt := Int.mul_le_mul hb.1 hq.1 (by omega) (by omega)
  rw [fb_mulI (by omega) (by omega)]
  omega
theorem maxW_low {p q : Int64 × Int64} (hp : lowW p) (hq : lowW q) : lowW (maxW p q) := by
  unfold maxW
  split
  · exact Or.inl rfl
  · split
    · exact hq
    · exact hp
theorem VAL_low {l fk fn fc fd fe : Nat → Int32} (hq : 1 ≤ (l 4).toInt ∧ (l 4).toInt ≤ 9) (hb : 1 ≤ (l 6).toInt ∧ (l 6).toInt ≤ 9) : ∀ (d : Nat) (x t k : Int32), lowW (valF l fk fn fc fd fe d x t k)
  | 0, _, _, _ => Or.inl rfl
  | d + 1, x, t, k => by
    have ih := VAL_low (fk := fk) (fn := fn) (fc := fc) (fd := fd) (fe := fe) hq hb d
    have hA : lowW (avgW l (valF l fk fn fc fd fe d) x t k) := mulW_low (addW_low (mulW_low (ih _ _ _) (by decide +kernel)) (mulW_low (ih _ _ _) (by decide +kernel))) (wt_pos hq hb)
    show lowW (stepW l fk fn fc fd fe (valF l fk fn fc fd fe d) x t k)
    unfold stepW
    split
    · exact low_01
    split
    · exact low_01
    split
    · exact low_11
    split
    · exact mulW_low (ih _ _ _) (by decide +kernel)
    split
    · exact mulW_low (ih _ _ _) (by decide +kernel)
    split
    · exact mulW_low (ih _ _ _) (by decide +kernel)
    split
    · exact addW_low (ih _ _ _) (ih _ _ _)
    split
    · split
      · exact ih _ _ _
      · exact hA
    split
    · split
      · exact ih _ _ _
      · exact maxW_low hA (ih _ _ _)
    split
    · exact Or.inl rfl
    · exact ih _ _ _
/-- alike, in lowest terms: the same -/
theorem low_eq {p q : Int64 × Int64} (hp : lowW p) (hq : lowW q) (p1 : p.2.toInt ≠ 0) (q1 : q.2.toInt ≠ 0) (h : cmpP p q = 0) : p = q := by
  rcases hp with e | ⟨a1, a2⟩
  · rw [e] at p1; exact absurd (by decide +kernel) p1
  rcases hq with e | ⟨b1, b2⟩
  · rw [e] at q1; exact absurd (by decide +kernel) q1
  have h1 : p.1.toInt * q.2.toInt = q.1.toInt * p.2.toInt := by
    have h2 : (p.1.toInt * q.2.toInt - q.1.toInt * p.2.toInt).sign = 0 := h
    have h3 := Int.sign_eq_zero_iff_zero.mp h2
    omega
  have h4 : p.1.toInt.natAbs * q.2.toInt.natAbs = q.1.toInt.natAbs * p.2.toInt.natAbs := by
    rw [← Int.natAbs_mul, ← Int.natAbs_mul, h1]
  have d1 : p.2.toInt.natAbs ∣ q.2.toInt.natAbs := by
    refine Nat.Coprime.dvd_of_dvd_mul_left (m := p.1.toInt.natAbs) ?_ ?_
    · show Nat.gcd _ _ = 1
      rw [Nat.gcd_comm]; exact a2
    · rw [h4]; exact Nat.dvd_mul_left _ _
  have d2 : q.2.toInt.natAbs ∣ p.2.toInt.natAbs := by
    refine Nat.Coprime.dvd_of_dvd_mul_left (m := q.1.toInt.natAbs) ?_ ?_
    · show Nat.gcd _ _ = 1
      rw [Nat.gcd_comm]; exact b2
    · rw [← h4]; exact Nat.dvd_mul_left _ _
  have e2 : p.2.toInt = q.2.toInt := by
    have h5 := Nat.dvd_antisymm d1 d2
    omega
  have e1 : p.1.toInt = q.1.toInt := by
    rw [e2] at h1
    exact Int.eq_of_mul_eq_mul_right (by omega) h1
  exact Prod.ext (Int64.toInt_inj.1 e1) (Int64.toInt_inj.1 e2)
/-! slots: what is put there, which of two is more -/
theorem updL_self {f : Nat → Int64} {k : Nat} : vp_updL f k (f k) = f := by
  funext j
  simp only [vp_updL]
  by_cases h : j = k
  · rw [if_pos h, h]
  · rw [if_neg h]
theorem updL_ne {f : Nat → Int64} {k j : Nat} {v : Int64} (h : j ≠ k) : vp_updL f k v j = f j := by
  simp only [vp_updL, if_neg h]
theorem fitM_pos {a b : Int64} (ha : 1 ≤ a.toInt) (hb : 1 ≤ b.toInt) (h : fitM a b) : 1 ≤ (a * b).toInt := by
  rw [l_mul h.1 h.2]
  have h3 : 1 * 1 ≤ a.toInt * b.toInt := Int.mul_le_mul ha hb (by omega) (by omega)
  omega
theorem mulW_no {p : Int64 × Int64} {v w : Int64} (h : p.2.toInt = 0 ∨ ¬ fitM p.1 v ∨ ¬ fitM p.2 w) : mulW p v w = (0, 0) := if_pos h
theorem mulW_yes {p : Int64 × Int64} {v w : Int64} (h0 : ¬ p.2.toInt = 0) (h1 : fitM p.1 v) (h2 : fitM p.2 w) : mulW p v w = redW (p.1 * v) (p.2 * w) := if_neg (fun q => by
  rcases q with q | q | q
  · exact h0 q
  · exact q h1
  · exact q h2)
theorem addW_no {p q : Int64 × Int64} (h : p.2.toInt = 0 ∨ q.2.toInt = 0 ∨ ¬ fitM p.1 q.2 ∨ ¬ fitM q.1 p.2 ∨ ¬ fitM p.2 q.2 ∨ ¬ fitA (p.1 * q.2) (q.1 * p.2)) : addW p q = (0, 0) := if_pos h
theorem addW_yes {p q : Int64 × Int64} (h0 : ¬ p.2.toInt = 0) (h1 : ¬ q.2.toInt = 0) (h2 : fitM p.1 q.2) (h3 : fitM q.1 p.2) (h4 : fitM p.2 q.2) (h5 : fitA (p.1 * q.2) (q.1 * p.2)) : addW p q = redW (p.1 * q.2 + q.1 * p.2) (p.2 * q.2) := if_neg (fun q => by
  rcases q with q | q | q | q | q | q
  · exact h0 q
  · exact h1 q
  · exact q h2
  · exact q h3
  · exact q h4
  · exact q h5)
theorem maxW_much {p q : Int64 × Int64} (h : p.2.toInt = 0 ∨ q.2.toInt = 0) : maxW p q = (0, 0) := if_pos h
theorem maxW_q {p q : Int64 × Int64} (h : ¬ (p.2.toInt = 0 ∨ q.2.toInt = 0)) (c : 0 < cmpP q p) : maxW p q = q := by
  unfold maxW
  rw [if_neg h, if_pos c]
theorem maxW_p {p q : Int64 × Int64} (h : ¬ (p.2.toInt = 0 ∨ q.2.toInt = 0)) (c : ¬ 0 < cmpP q p) : maxW p q = p := by
  unfold maxW
  rw [if_neg h, if_neg c]
/-- floorMod -/
theorem fmA {x y z : Int64} (hy : 1 ≤ y.toInt) (hz : z = x - x / y * y) (h : 0 ≤ (x ^^^ y).toInt) : z.toInt = x.toInt % y.toInt := by
  have h2 := xor_neg (x := x) (y := y) (by omega)
  rw [hz, l_rem (by omega) (Or.inr hy), Int.tmod_eq_emod_of_nonneg (by omega)]
theorem fmB {x y z : Int64} (hy : 1 ≤ y.toInt) (hz : z = x - x / y * y) (h0 : z.toInt = 0) : z.toInt = x.toInt % y.toInt := by
  have e : z.toInt = x.toInt.tmod y.toInt := by rw [hz]; exact l_rem (by omega) (Or.inr hy)
  rw [h0] at e
  have h1 := Int.dvd_of_tmod_eq_zero e.symm
  rw [h0, Int.emod_eq_zero_of_dvd h1]
theorem fmC {x y z : Int64} (hy : 1 ≤ y.toInt) (hz : z = x - x / y * y) (h : ¬ 0 ≤ (x ^^^ y).toInt) (h0 : ¬ z.toInt = 0) : (z + y).toInt = x.toInt % y.toInt := by
  have hx := (xor_neg (x := x) (y := y) (by omega)).mp (by omega)
  have e : z.toInt = x.toInt.tmod y.toInt := by rw [hz]; exact l_rem (by omega) (Or.inr hy)
  have hnd : ¬ (0 ≤ x.toInt ∨ y.toInt ∣ x.toInt) := by
    intro q
    rcases q with q | q
    · omega
    · exact h0 (by rw [e]; exact Int.tmod_eq_zero_of_dvd q)
  have e2 := Int.tmod_eq_emod (a := x.toInt) (b := y.toInt)
  rw [if_neg hnd, ← e] at e2
  have h3 := Int.emod_nonneg x.toInt (show y.toInt ≠ 0 by omega)
  have h4 := Int.emod_lt_of_pos x.toInt (show 0 < y.toInt by omega)
  have h5 := l_rng y
  obtain ⟨k, hk⟩ := add_bm z y
  have h6 := l_rng (z + y)
  omega
/-- order, turn by turn: C is what it is to answer -/
def ordI (C : Int) (ii mo : Int32) (ww vv yy xx : Int64) : Prop := (0 ≤ ii.toInt ∧ ii.toInt ≤ 200) ∧ (1 ≤ yy.toInt ∧ 1 ≤ ww.toInt) ∧ (mo.toInt = 1 ∨ mo.toInt = -1) ∧ mo.toInt * cmpW xx.toInt yy.toInt vv.toInt ww.toInt = C ∧ (ii.toInt = 0 ∨ (yy.toInt < xx.toInt ∧ (xx.toInt * yy.toInt) * 2 ^ ii.toNatClampNeg < 2 ^ 128))
theorem ord_init {x y v w : Int64} (hy : 1 ≤ y.toInt) (hw : 1 ≤ w.toInt) : ordI (cmpW x.toInt y.toInt v.toInt w.toInt) 0 1 w v y x := by
  refine ⟨by decide, ⟨hy, hw⟩, Or.inl (by decide +kernel), ?_, Or.inl (by decide +kernel)⟩
  rw [show (1 : Int32).toInt = 1 from by decide, Int.one_mul]
theorem neg_mo {mo : Int32} (h : mo.toInt = 1 ∨ mo.toInt = -1) : (-mo).toInt = -mo.toInt := by
  rw [Int32.toInt_neg, Int.bmod_eq_of_le (by omega) (by omega)]
theorem ord_back {C : Int} {ii mo ii' : Int32} {ww vv yy xx r s : Int64} (h : ordI C ii mo ww vv yy xx) (h2 : ii.toInt < 200) (hi : ii'.toInt = ii.toInt + 1) (he : xx.toInt / yy.toInt = vv.toInt / ww.toInt) (hr : r.toInt = xx.toInt % yy.toInt) (hs : s.toInt = vv.toInt % ww.toInt) (r0 : ¬ r.toInt = 0) (s0 : ¬ s.toInt = 0) : ordI C ii' (-mo) s ww r yy := by
  obtain ⟨a, ⟨b1, b2⟩, c, d, e⟩ := h
  have r1 := Int.emod_nonneg xx.toInt (show yy.toInt ≠ 0 by omega)
  have r2 := Int.emod_lt_of_pos xx.toInt (show 0 < yy.toInt by omega)
  have s1 := Int.emod_nonneg vv.toInt (show ww.toInt ≠ 0 by omega)
  refine ⟨⟨by omega, by omega⟩, ⟨by omega, by omega⟩, by rw [neg_mo c]; omega, ?_, Or.inr ⟨by omega, ?_⟩⟩
  · rw [neg_mo c, hr, hs, ← d, cmpW_turn he, Int.neg_mul, Int.mul_neg]
  · rw [tnS a.1 hi]
    rcases e with e | ⟨e1, e2⟩
    · have t := tn a.1
      have e0 : ii.toNatClampNeg = 0 := by omega
      rw [e0]
      have h3 := l_rng yy
      have h4 : yy.toInt * r.toInt ≤ 9223372036854775808 * 9223372036854775808 := Int.mul_le_mul (by omega) (by omega) (by omega) (by omega)
      have h5 : (9223372036854775808 * 9223372036854775808 : Int) * 2 ^ (0 + 1) < 2 ^ 128 := by decide
      have h6 : yy.toInt * r.toInt * 2 ^ (0 + 1) ≤ (9223372036854775808 * 9223372036854775808 : Int) * 2 ^ (0 + 1) := Int.mul_le_mul_of_nonneg_right h4 (by decide +kernel)
      omega
    · have h3 := mod_half (x := xx.toInt) (y := yy.toInt) (by omega) (by omega)
      have h4 : (yy.toInt * r.toInt) * 2 ≤ xx.toInt * yy.toInt := by
        rw [Int.mul_comm xx.toInt, Int.mul_assoc]
        exact Int.mul_le_mul_of_nonneg_left (by omega) (by omega)
      have h5 : (0 : Int) < 2 ^ ii.toNatClampNeg := Int.pow_pos (by decide +kernel)
      have h6 : ((yy.toInt * r.toInt) * 2) * 2 ^ ii.toNatClampNeg ≤ (xx.toInt * yy.toInt) * 2 ^ ii.toNatClampNeg := Int.mul_le_mul_of_nonneg_right h4 (by omega)
      have h7 : (yy.toInt * r.toInt) * 2 ^ (ii.toNatClampNeg + 1) = ((yy.toInt * r.toInt) * 2) * 2 ^ ii.toNatClampNeg := by
        rw [Int.pow_succ, Int.mul_comm ((2 : Int) ^ ii.toNatClampNeg) 2, Int.mul_assoc]
        simp only [Int.mul_assoc]
      omega
theorem ord_end {C : Int} {ii mo : Int32} {ww vv yy xx : Int64} (h : ordI C ii mo ww vv yy xx) (h2 : 200 ≤ ii.toInt) : False := by
  obtain ⟨a, ⟨b1, b2⟩, c, d, e⟩ := h
  rcases e with e | ⟨e1, e2⟩
  · omega
  · have t := tn a.1
    have h1 : 1 * 1 ≤ xx.toInt * yy.toInt := Int.mul_le_mul (by omega) b1 (by omega) (by omega)
    have h3 : (2 : Nat) ^ 128 ≤ 2 ^ ii.toNatClampNeg := Nat.pow_le_pow_right (by omega) (by omega)
    have h2 : (2 : Int) ^ 128 ≤ 2 ^ ii.toNatClampNeg := by exact_mod_cast h3
    have h4 : 1 * 2 ^ ii.toNatClampNeg ≤ (xx.toInt * yy.toInt) * 2 ^ ii.toNatClampNeg := Int.mul_le_mul_of_nonneg_right (by omega) (by omega)
    omega
theorem ord_gt {C : Int} {ii mo : Int32} {ww vv yy xx q p : Int64} (h : ordI C ii mo ww vv yy xx) (hq : q.toInt = xx.toInt / yy.toInt) (hp : p.toInt = vv.toInt / ww.toInt) (c : p.toInt < q.toInt) : mo.toInt = C := by
  obtain ⟨a, ⟨b1, b2⟩, c9, d, e⟩ := h
  rw [← d, cmpW_gt (by omega) (by omega) (by omega), Int.mul_one]
theorem ord_lt {C : Int} {ii mo : Int32} {ww vv yy xx q p : Int64} (h : ordI C ii mo ww vv yy xx) (hq : q.toInt = xx.toInt / yy.toInt) (hp : p.toInt = vv.toInt / ww.toInt) (c : q.toInt < p.toInt) : (-mo).toInt = C := by
  obtain ⟨a, ⟨b1, b2⟩, c9, d, e⟩ := h
  rw [neg_mo c9, ← d, cmpW_lt (by omega) (by omega) (by omega), Int.mul_neg, Int.mul_one]
theorem ord_0 {C : Int} {ii mo : Int32} {ww vv yy xx r s : Int64} (h : ordI C ii mo ww vv yy xx) (he : xx.toInt / yy.toInt = vv.toInt / ww.toInt) (hr : r.toInt = xx.toInt % yy.toInt) (hs : s.toInt = vv.toInt % ww.toInt) (r0 : r.toInt = 0) (s0 : s.toInt = 0) : (0 : Int32).toInt = C := by
  obtain ⟨a, ⟨b1, b2⟩, c9, d, e⟩ := h
  rw [← d, cmpW_0 he (by omega) (by omega), Int.mul_zero]
  decide
theorem ord_s {C : Int} {ii mo : Int32} {ww vv yy xx r s : Int64} (h : ordI C ii mo ww vv yy xx) (he : xx.toInt / yy.toInt = vv.toInt / ww.toInt) (hr : r.toInt = xx.toInt % yy.toInt) (hs : s.toInt = vv.toInt % ww.toInt) (r0 : ¬ r.toInt = 0) (s0 : s.toInt = 0) : mo.toInt = C := by
  obtain ⟨a, ⟨b1, b2⟩, c9, d, e⟩ := h
  have r1 := Int.emod_nonneg xx.toInt (show yy.toInt ≠ 0 by omega)
  rw [← d, cmpW_s (by omega) he (by omega) (by omega), Int.mul_one]
theorem ord_r {C : Int} {ii mo : Int32} {ww vv yy xx r s : Int64} (h : ordI C ii mo ww vv yy xx) (he : xx.toInt / yy.toInt = vv.toInt / ww.toInt) (hr : r.toInt = xx.toInt % yy.toInt) (hs : s.toInt = vv.toInt % ww.toInt) (r0 : r.toInt = 0) (s0 : ¬ s.toInt = 0) : (-mo).toInt = C := by
  obtain ⟨a, ⟨b1, b2⟩, c9, d, e⟩ := h
  have s1 := Int.emod_nonneg vv.toInt (show ww.toInt ≠ 0 by omega)
  rw [neg_mo c9, ← d, cmpW_r (by omega) he (by omega) (by omega), Int.mul_neg, Int.mul_one]
/-- a part of what lies in a slot; NO and MUCH, if it is too much -/
def partW (p : Int64 × Int64) (k : Int32) (r : Int64) : Prop := (p.2.toInt = 0 ∧ r.toInt = -4611686018427387909) ∨ (p.2.toInt ≠ 0 ∧ ((k.toInt = 0 ∧ r = p.1) ∨ (k.toInt ≠ 0 ∧ r = p.2)))
theorem partW_uniq {p : Int64 × Int64} {k : Int32} {r r' : Int64} (a : partW p k r) (b : partW p k r') : r = r' := by
  rcases a with ⟨a1, a2⟩ | ⟨a1, a2⟩
  · rcases b with ⟨b1, b2⟩ | ⟨b1, b2⟩
    · exact Int64.toInt_inj.1 (by omega)
    · exact absurd a1 b1
  · rcases b with ⟨b1, b2⟩ | ⟨b1, b2⟩
    · exact absurd b1 a1
    · rcases a2 with ⟨a2, a3⟩ | ⟨a2, a3⟩
      · rcases b2 with ⟨b2, b3⟩ | ⟨b2, b3⟩
        · rw [a3, b3]
        · exact absurd a2 b2
      · rcases b2 with ⟨b2, b3⟩ | ⟨b2, b3⟩
        · exact absurd b2 a2
        · rw [a3, b3]
end
