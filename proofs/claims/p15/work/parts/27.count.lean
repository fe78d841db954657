theorem dX2_unnamed_0 : decode cX2_unnamed 0 = .ok (.iconst 0, 1) := by decide +kernel
theorem dX2_unnamed_1 : decode cX2_unnamed 1 = .ok (.istore_n 1, 1) := by decide +kernel
theorem dX2_unnamed_12 : decode cX2_unnamed 12 = .ok (.aload_n 0, 1) := by decide +kernel
theorem dX2_unnamed_13 : decode cX2_unnamed 13 = .ok (.getfield 22, 3) := by decide +kernel
theorem dX2_unnamed_16 : decode cX2_unnamed 16 = .ok (.iload_n 2, 1) := by decide +kernel
theorem dX2_unnamed_17 : decode cX2_unnamed 17 = .ok (.iaload, 1) := by decide +kernel
theorem dX2_unnamed_18 : decode cX2_unnamed 18 = .ok (.iconst (-1), 1) := by decide +kernel
theorem dX2_unnamed_19 : decode cX2_unnamed 19 = .ok (.if_icmp .eq 14, 3) := by decide +kernel
theorem dX2_unnamed_2 : decode cX2_unnamed 2 = .ok (.iconst 0, 1) := by decide +kernel
theorem dX2_unnamed_22 : decode cX2_unnamed 22 = .ok (.iload_n 1, 1) := by decide +kernel
theorem dX2_unnamed_23 : decode cX2_unnamed 23 = .ok (.iconst 1, 1) := by decide +kernel
theorem dX2_unnamed_24 : decode cX2_unnamed 24 = .ok (.aload_n 0, 1) := by decide +kernel
theorem dX2_unnamed_25 : decode cX2_unnamed 25 = .ok (.getfield 22, 3) := by decide +kernel
theorem dX2_unnamed_28 : decode cX2_unnamed 28 = .ok (.iload_n 2, 1) := by decide +kernel
theorem dX2_unnamed_29 : decode cX2_unnamed 29 = .ok (.iaload, 1) := by decide +kernel
theorem dX2_unnamed_3 : decode cX2_unnamed 3 = .ok (.istore_n 2, 1) := by decide +kernel
theorem dX2_unnamed_30 : decode cX2_unnamed 30 = .ok (.ishl, 1) := by decide +kernel
theorem dX2_unnamed_31 : decode cX2_unnamed 31 = .ok (.ior, 1) := by decide +kernel
theorem dX2_unnamed_32 : decode cX2_unnamed 32 = .ok (.istore_n 1, 1) := by decide +kernel
theorem dX2_unnamed_33 : decode cX2_unnamed 33 = .ok (.aload_n 0, 1) := by decide +kernel
theorem dX2_unnamed_34 : decode cX2_unnamed 34 = .ok (.getfield 25, 3) := by decide +kernel
theorem dX2_unnamed_37 : decode cX2_unnamed 37 = .ok (.iload_n 2, 1) := by decide +kernel
theorem dX2_unnamed_38 : decode cX2_unnamed 38 = .ok (.iaload, 1) := by decide +kernel
theorem dX2_unnamed_39 : decode cX2_unnamed 39 = .ok (.iconst (-1), 1) := by decide +kernel
theorem dX2_unnamed_4 : decode cX2_unnamed 4 = .ok (.iload_n 2, 1) := by decide +kernel
theorem dX2_unnamed_40 : decode cX2_unnamed 40 = .ok (.if_icmp .eq 14, 3) := by decide +kernel
theorem dX2_unnamed_43 : decode cX2_unnamed 43 = .ok (.iload_n 1, 1) := by decide +kernel
theorem dX2_unnamed_44 : decode cX2_unnamed 44 = .ok (.iconst 1, 1) := by decide +kernel
theorem dX2_unnamed_45 : decode cX2_unnamed 45 = .ok (.aload_n 0, 1) := by decide +kernel
theorem dX2_unnamed_46 : decode cX2_unnamed 46 = .ok (.getfield 25, 3) := by decide +kernel
theorem dX2_unnamed_49 : decode cX2_unnamed 49 = .ok (.iload_n 2, 1) := by decide +kernel
theorem dX2_unnamed_5 : decode cX2_unnamed 5 = .ok (.aload_n 0, 1) := by decide +kernel
theorem dX2_unnamed_50 : decode cX2_unnamed 50 = .ok (.iaload, 1) := by decide +kernel
theorem dX2_unnamed_51 : decode cX2_unnamed 51 = .ok (.ishl, 1) := by decide +kernel
theorem dX2_unnamed_52 : decode cX2_unnamed 52 = .ok (.ior, 1) := by decide +kernel
theorem dX2_unnamed_53 : decode cX2_unnamed 53 = .ok (.istore_n 1, 1) := by decide +kernel
theorem dX2_unnamed_54 : decode cX2_unnamed 54 = .ok (.iinc 2 1, 3) := by decide +kernel
theorem dX2_unnamed_57 : decode cX2_unnamed 57 = .ok (.goto (-53), 3) := by decide +kernel
theorem dX2_unnamed_6 : decode cX2_unnamed 6 = .ok (.getfield 9, 3) := by decide +kernel
theorem dX2_unnamed_60 : decode cX2_unnamed 60 = .ok (.aload_n 0, 1) := by decide +kernel
theorem dX2_unnamed_61 : decode cX2_unnamed 61 = .ok (.getfield 9, 3) := by decide +kernel
theorem dX2_unnamed_64 : decode cX2_unnamed 64 = .ok (.iload_n 1, 1) := by decide +kernel
theorem dX2_unnamed_65 : decode cX2_unnamed 65 = .ok (.invokestatic 75, 3) := by decide +kernel
theorem dX2_unnamed_68 : decode cX2_unnamed 68 = .ok (.isub, 1) := by decide +kernel
theorem dX2_unnamed_69 : decode cX2_unnamed 69 = .ok (.ireturn, 1) := by decide +kernel
theorem dX2_unnamed_9 : decode cX2_unnamed 9 = .ok (.if_icmp .ge 51, 3) := by decide +kernel
set_option maxRecDepth 20000 in
theorem ggX2_unnamed_J6_bitCount_0f7a4 : GoodIn wsX2_unnamed wsJ6_bitCount_0f7a4 := goodIn_r _ [7, 8, 9, 10] rfl (by decide +kernel)
set_option maxRecDepth 20000 in
theorem gX2_unnamed_J6_bitCount_0f7a4 : GoodIn wsX2_unnamed (va_wsS RX2 75 yJ6_bitCount_0f7a4 wsJ6_bitCount_0f7a4) := goodIn_app (goodIn_of _ (by decide +kernel)) ggX2_unnamed_J6_bitCount_0f7a4
set_option maxRecDepth 20000 in
theorem in_X2_unnamed_X2 : ∀ w ∈ wsX20, w ∈ wsX2_unnamed := sub_r [11, 12, 13, 14, 15, 16, 17, 18] rfl
set_option maxHeartbeats 4000000 in
set_option maxRecDepth 100000 in
theorem c_X2_unnamed (l : Launch) (D : va_G) (T : Nat → ClassId) (h0 : Nat) (fs0 : List Value) (h1 : Nat) (f1 : Nat → Int32) (h2 : Nat) (f2 : Nat → Int32) (n : Int32) (e0_0 : fs0[0]? = some (.int n)) (e0_3 : fs0[3]? = some (.ref h1)) (e0_4 : fs0[4]? = some (.ref h2)) (hn0 : 0 ≤ n.toInt ∧ n.toInt ≤ 24) : Met l yX2_unnamed wsX2_unnamed ({ frames := 1, cells := 0, slots := 0, locals := 20 }) (pR [.ref h0] D T [(h0, .inr (1, fs0)), (h1, .inl (T 0, 24, .inl f1)), (h2, .inl (T 0, 24, .inl f2))]) (vp_Si (fun r => True)) 0 0 (fun _ => False) := by
  refine Met.ofW (cc := cX2_unnamed) (maxL := 3) (ret := (some .int)) (by decide +kernel) rfl ?_
  intro p e s m args below meth c s₁ B hml hv
  obtain ⟨rfl, hP, hE⟩ := hv
  have hx := B.exec
  have hb := B.bytes
  have hr := B.returns
  have hts := atoms_spec (ws := wsX2_unnamed) B.pre
  have hown : s.vm.findClass RX2 = some m.cls := findClass_of_methodNamed B.named
  have hlocks := B.notSynchronized
  have hP : va_P D vwCl [(h0, .inr (1, fs0)), (h1, .inl (T 0, 24, .inl f1)), (h2, .inl (T 0, 24, .inl f2))] s.heap := hP
  have hl := lv_entry ([.ref h0]) (n := 3) (Nat.le_of_ble_eq_true rfl)
  rw [lg_entry_eq]
  generalize (lg_sl ([.ref h0]) ++ List.replicate (3 - (lg_sl ([.ref h0])).length) Slot.unset).toArray = ls at hl ⊢
  have hl : lv_has ls 3 [(0, .ref h0)] := hl
  refine lv_iconst (v := 0) hx hb dX2_unnamed_0 (by decide +kernel) ?_
  refine lv_istore_n (lv' := [(1, .int 0), (0, .ref h0)]) hx hb dX2_unnamed_1 rfl hl (by decide +kernel) rfl (fun ls hl => ?_)
  refine lv_iconst (v := 0) hx hb dX2_unnamed_2 (by decide +kernel) ?_
  refine lv_istore_n (lv' := [(2, .int 0), (1, .int 0), (0, .ref h0)]) hx hb dX2_unnamed_3 rfl hl (by decide +kernel) rfl (fun ls hl => ?_)
  refine loopR (σ := (Int32) × (Int32)) (fun x9 ls => lv_has ls 3 [(2, .int x9.1), (1, .int x9.2), (0, .ref h0)] ∧ (0 ≤ x9.1.toInt)) (fun x9 => (24 - x9.1.toInt).toNat) (fun x9 ls hI ih => ?_) (0, 0) ls ⟨lv_sub hl [0, 1, 2] rfl, (by (try dsimp only); decide)⟩
  obtain ⟨ii, nm⟩ := x9
  obtain ⟨hl, hinv⟩ := hI
  have hl : lv_has ls 3 [(2, .int ii), (1, .int nm), (0, .ref h0)] := hl
  have hinv : 0 ≤ ii.toInt := hinv
  refine lv_iload_n hx hb dX2_unnamed_4 rfl (lv_at hl 0 rfl) ?_
  refine lv_aload_n hx hb dX2_unnamed_5 rfl (lv_at hl 2 rfl) ?_
  refine va_get (D := D) (ci := 1) (v := .int n) (C := RX2) (T := TX2) (N := 8) hx hb hts in_X2_unnamed_X2 hown hE.1 hP 0 rfl rfl 0 (by decide +kernel) (hts (.fieldLink RX2 9 "ClauseBook$Clauses" "size" "I") (List.mem_of_getElem? (i := 1) rfl)) (fun _ h9 => h9) e0_0 dX2_unnamed_6 ?_
  refine lv_icmp_ge (tgt := 60) hx hb dX2_unnamed_9 (by decide +kernel) (fun c_1 => ?_) (fun c_1 => ?_)
  · rw [fa_le] at c_1
    refine lv_aload_n hx hb dX2_unnamed_60 rfl (lv_at hl 2 rfl) ?_
    refine va_get (D := D) (ci := 1) (v := .int n) (C := RX2) (T := TX2) (N := 8) hx hb hts in_X2_unnamed_X2 hown hE.1 hP 0 rfl rfl 0 (by decide +kernel) (hts (.fieldLink RX2 9 "ClauseBook$Clauses" "size" "I") (List.mem_of_getElem? (i := 1) rfl)) (fun _ h9 => h9) e0_0 dX2_unnamed_61 ?_
    refine lv_iload_n hx hb dX2_unnamed_64 rfl (lv_at hl 1 rfl) ?_
    refine vp_callSi (W.runS (As := [.int nm]) (rest := [.int n]) ⟨hx, hb, hml, hown, hts⟩ (c_J6_bitCount_0f7a4 l D T nm) (va_cwS 1 hts gX2_unnamed_J6_bitCount_0f7a4 rfl rfl rfl hs_J6_bitCount_0f7a4 ⟨Nat.le_of_ble_eq_true rfl, Nat.le_of_ble_eq_true rfl⟩) (pR_S hP hE [] rfl) rfl rfl hl.1 rfl (lv_room (Nat.le_of_ble_eq_true rfl)) dX2_unnamed_65 ⟨Nat.le_of_ble_eq_true rfl, Nat.le_of_ble_eq_true rfl⟩) (fun r_2 hr_2 => ?_)
    obtain rfl : (sp_bits nm) = r_2 := (hr_2).symm
    refine lv_isub hx hb dX2_unnamed_68 ?_
    exact W.iret hx hb hr (fun t ht hW => ⟨_, rfl, trivial, ht⟩) (fun _ h => by cases h) dX2_unnamed_69
  · rw [fa_le] at c_1
    refine lv_aload_n hx hb dX2_unnamed_12 rfl (lv_at hl 2 rfl) ?_
    refine va_get (D := D) (ci := 1) (v := .ref h1) (C := RX2) (T := TX2) (N := 8) hx hb hts in_X2_unnamed_X2 hown hE.1 hP 0 rfl rfl 3 (by decide +kernel) (hts (.fieldLink RX2 22 "ClauseBook$Clauses" "c" "[I") (List.mem_of_getElem? (i := 2) rfl)) (fun _ h9 => h9) e0_3 dX2_unnamed_13 ?_
    refine lv_iload_n hx hb dX2_unnamed_16 rfl (lv_at hl 0 rfl) ?_
    refine va_iald hx hb hE.1 hP 1 0 rfl rfl (by rw [vp_in_iff]; first | omega | (subst_vars; rw [dec1 (by omega)]; omega) | (subst_vars; rw [inc1 (n := 1000) (by omega) (by decide +kernel)]; omega)) dX2_unnamed_17 ?_
    refine lv_topi (fun z_3 ez_3 => ?_)
    refine lv_iconst (v := (-1)) hx hb dX2_unnamed_18 (by decide +kernel) ?_
    refine lv_icmp_eq (tgt := 33) hx hb dX2_unnamed_19 (by decide +kernel) (fun c_4 => ?_) (fun c_4 => ?_)
    · rw [fa_eq] at c_4
      try rw [ti_n1] at c_4
      refine lv_aload_n hx hb dX2_unnamed_33 rfl (lv_at hl 2 rfl) ?_
      refine va_get (D := D) (ci := 1) (v := .ref h2) (C := RX2) (T := TX2) (N := 8) hx hb hts in_X2_unnamed_X2 hown hE.1 hP 0 rfl rfl 4 (by decide +kernel) (hts (.fieldLink RX2 25 "ClauseBook$Clauses" "d" "[I") (List.mem_of_getElem? (i := 3) rfl)) (fun _ h9 => h9) e0_4 dX2_unnamed_34 ?_
      refine lv_iload_n hx hb dX2_unnamed_37 rfl (lv_at hl 0 rfl) ?_
      refine va_iald hx hb hE.1 hP 2 0 rfl rfl (by rw [vp_in_iff]; first | omega | (subst_vars; rw [dec1 (by omega)]; omega) | (subst_vars; rw [inc1 (n := 1000) (by omega) (by decide +kernel)]; omega)) dX2_unnamed_38 ?_
      refine lv_topi (fun z_5 ez_5 => ?_)
      refine lv_iconst (v := (-1)) hx hb dX2_unnamed_39 (by decide +kernel) ?_
      refine lv_icmp_eq (tgt := 54) hx hb dX2_unnamed_40 (by decide +kernel) (fun c_6 => ?_) (fun c_6 => ?_)
      · rw [fa_eq] at c_6
        try rw [ti_n1] at c_6
        obtain ⟨z_7, ez_7⟩ : ∃ y : Int32, y = ii + 1 := ⟨_, rfl⟩
        refine lv_iinc (v := z_7) (lv' := [(2, .int z_7), (1, .int nm), (0, .ref h0)]) hx hb dX2_unnamed_54 hl (k := 0) rfl (by rw [ez_7]; rfl) (by decide +kernel) rfl (fun ls hl => ?_)
        refine lv_goto (tgt := 4) hx hb dX2_unnamed_57 (by decide +kernel) ?_
        exact ih (z_7, nm) ls ⟨lv_sub hl [0, 1, 2] rfl, (by subst_vars; (try dsimp only); rw [inc1 (n := 1000) (by omega) (by decide +kernel)]; omega)⟩ (by subst_vars; (try dsimp only); rw [inc1 (n := 1000) (by omega) (by decide +kernel)]; omega)
      · rw [fa_eq] at c_6
        try rw [ti_n1] at c_6
        refine lv_iload_n hx hb dX2_unnamed_43 rfl (lv_at hl 1 rfl) ?_
        refine lv_iconst (v := 1) hx hb dX2_unnamed_44 (by decide +kernel) ?_
        refine lv_aload_n hx hb dX2_unnamed_45 rfl (lv_at hl 2 rfl) ?_
        refine va_get (D := D) (ci := 1) (v := .ref h2) (C := RX2) (T := TX2) (N := 8) hx hb hts in_X2_unnamed_X2 hown hE.1 hP 0 rfl rfl 4 (by decide +kernel) (hts (.fieldLink RX2 25 "ClauseBook$Clauses" "d" "[I") (List.mem_of_getElem? (i := 3) rfl)) (fun _ h9 => h9) e0_4 dX2_unnamed_46 ?_
        refine lv_iload_n hx hb dX2_unnamed_49 rfl (lv_at hl 0 rfl) ?_
        refine va_iald hx hb hE.1 hP 2 0 rfl rfl (by rw [vp_in_iff]; first | omega | (subst_vars; rw [dec1 (by omega)]; omega) | (subst_vars; rw [inc1 (n := 1000) (by omega) (by decide +kernel)]; omega)) dX2_unnamed_50 ?_
        refine lv_topi (fun z_8 ez_8 => ?_)
        refine lv_ishl hx hb dX2_unnamed_51 ?_
        refine lv_ior hx hb dX2_unnamed_52 ?_
        refine lv_topi (fun z_9 ez_9 => ?_)
        refine lv_istore_n (lv' := [(1, .int z_9), (2, .int ii), (0, .ref h0)]) hx hb dX2_unnamed_53 rfl hl (by decide +kernel) rfl (fun ls hl => ?_)
        obtain ⟨z_10, ez_10⟩ : ∃ y : Int32, y = ii + 1 := ⟨_, rfl⟩
        refine lv_iinc (v := z_10) (lv' := [(2, .int z_10), (1, .int z_9), (0, .ref h0)]) hx hb dX2_unnamed_54 hl (k := 1) rfl (by rw [ez_10]; rfl) (by decide +kernel) rfl (fun ls hl => ?_)
        refine lv_goto (tgt := 4) hx hb dX2_unnamed_57 (by decide +kernel) ?_
        exact ih (z_10, z_9) ls ⟨lv_sub hl [0, 1, 2] rfl, (by subst_vars; (try dsimp only); rw [inc1 (n := 1000) (by omega) (by decide +kernel)]; omega)⟩ (by subst_vars; (try dsimp only); rw [inc1 (n := 1000) (by omega) (by decide +kernel)]; omega)
    · rw [fa_eq] at c_4
      try rw [ti_n1] at c_4
      refine lv_iload_n hx hb dX2_unnamed_22 rfl (lv_at hl 1 rfl) ?_
      refine lv_iconst (v := 1) hx hb dX2_unnamed_23 (by decide +kernel) ?_
      refine lv_aload_n hx hb dX2_unnamed_24 rfl (lv_at hl 2 rfl) ?_
      refine va_get (D := D) (ci := 1) (v := .ref h1) (C := RX2) (T := TX2) (N := 8) hx hb hts in_X2_unnamed_X2 hown hE.1 hP 0 rfl rfl 3 (by decide +kernel) (hts (.fieldLink RX2 22 "ClauseBook$Clauses" "c" "[I") (List.mem_of_getElem? (i := 2) rfl)) (fun _ h9 => h9) e0_3 dX2_unnamed_25 ?_
      refine lv_iload_n hx hb dX2_unnamed_28 rfl (lv_at hl 0 rfl) ?_
      refine va_iald hx hb hE.1 hP 1 0 rfl rfl (by rw [vp_in_iff]; first | omega | (subst_vars; rw [dec1 (by omega)]; omega) | (subst_vars; rw [inc1 (n := 1000) (by omega) (by decide +kernel)]; omega)) dX2_unnamed_29 ?_
      refine lv_topi (fun z_11 ez_11 => ?_)
      refine lv_ishl hx hb dX2_unnamed_30 ?_
      refine lv_ior hx hb dX2_unnamed_31 ?_
      refine lv_topi (fun z_12 ez_12 => ?_)
      refine lv_istore_n (lv' := [(1, .int z_12), (2, .int ii), (0, .ref h0)]) hx hb dX2_unnamed_32 rfl hl (by decide +kernel) rfl (fun ls hl => ?_)
      refine lv_aload_n hx hb dX2_unnamed_33 rfl (lv_at hl 2 rfl) ?_
      refine va_get (D := D) (ci := 1) (v := .ref h2) (C := RX2) (T := TX2) (N := 8) hx hb hts in_X2_unnamed_X2 hown hE.1 hP 0 rfl rfl 4 (by decide +kernel) (hts (.fieldLink RX2 25 "ClauseBook$Clauses" "d" "[I") (List.mem_of_getElem? (i := 3) rfl)) (fun _ h9 => h9) e0_4 dX2_unnamed_34 ?_
      refine lv_iload_n hx hb dX2_unnamed_37 rfl (lv_at hl 1 rfl) ?_
      refine va_iald hx hb hE.1 hP 2 0 rfl rfl (by rw [vp_in_iff]; first | omega | (subst_vars; rw [dec1 (by omega)]; omega) | (subst_vars; rw [inc1 (n := 1000) (by omega) (by decide +kernel)]; omega)) dX2_unnamed_38 ?_
      refine lv_topi (fun z_13 ez_13 => ?_)
      refine lv_iconst (v := (-1)) hx hb dX2_unnamed_39 (by decide +kernel) ?_
      refine lv_icmp_eq (tgt := 54) hx hb dX2_unnamed_40 (by decide +kernel) (fun c_14 => ?_) (fun c_14 => ?_)
      · rw [fa_eq] at c_14
        try rw [ti_n1] at c_14
        obtain ⟨z_15, ez_15⟩ : ∃ y : Int32, y = ii + 1 := ⟨_, rfl⟩
        refine lv_iinc (v := z_15) (lv' := [(2, .int z_15), (1, .int z_12), (0, .ref h0)]) hx hb dX2_unnamed_54 hl (k := 1) rfl (by rw [ez_15]; rfl) (by decide +kernel) rfl (fun ls hl => ?_)
        refine lv_goto (tgt := 4) hx hb dX2_unnamed_57 (by decide +kernel) ?_
        exact ih (z_15, z_12) ls ⟨lv_sub hl [0, 1, 2] rfl, (by subst_vars; (try dsimp only); rw [inc1 (n := 1000) (by omega) (by decide +kernel)]; omega)⟩ (by subst_vars; (try dsimp only); rw [inc1 (n := 1000) (by omega) (by decide +kernel)]; omega)
      · rw [fa_eq] at c_14
        try rw [ti_n1] at c_14
        refine lv_iload_n hx hb dX2_unnamed_43 rfl (lv_at hl 0 rfl) ?_
        refine lv_iconst (v := 1) hx hb dX2_unnamed_44 (by decide +kernel) ?_
        refine lv_aload_n hx hb dX2_unnamed_45 rfl (lv_at hl 2 rfl) ?_
        refine va_get (D := D) (ci := 1) (v := .ref h2) (C := RX2) (T := TX2) (N := 8) hx hb hts in_X2_unnamed_X2 hown hE.1 hP 0 rfl rfl 4 (by decide +kernel) (hts (.fieldLink RX2 25 "ClauseBook$Clauses" "d" "[I") (List.mem_of_getElem? (i := 3) rfl)) (fun _ h9 => h9) e0_4 dX2_unnamed_46 ?_
        refine lv_iload_n hx hb dX2_unnamed_49 rfl (lv_at hl 1 rfl) ?_
        refine va_iald hx hb hE.1 hP 2 0 rfl rfl (by rw [vp_in_iff]; first | omega | (subst_vars; rw [dec1 (by omega)]; omega) | (subst_vars; rw [inc1 (n := 1000) (by omega) (by decide +kernel)]; omega)) dX2_unnamed_50 ?_
        refine lv_topi (fun z_16 ez_16 => ?_)
        refine lv_ishl hx hb dX2_unnamed_51 ?_
        refine lv_ior hx hb dX2_unnamed_52 ?_
        refine lv_topi (fun z_17 ez_17 => ?_)
        refine lv_istore_n (lv' := [(1, .int z_17), (2, .int ii), (0, .ref h0)]) hx hb dX2_unnamed_53 rfl hl (by decide +kernel) rfl (fun ls hl => ?_)
        obtain ⟨z_18, ez_18⟩ : ∃ y : Int32, y = ii + 1 := ⟨_, rfl⟩
        refine lv_iinc (v := z_18) (lv' := [(2, .int z_18), (1, .int z_17), (0, .ref h0)]) hx hb dX2_unnamed_54 hl (k := 1) rfl (by rw [ez_18]; rfl) (by decide +kernel) rfl (fun ls hl => ?_)
        refine lv_goto (tgt := 4) hx hb dX2_unnamed_57 (by decide +kernel) ?_
        exact ih (z_18, z_17) ls ⟨lv_sub hl [0, 1, 2] rfl, (by subst_vars; (try dsimp only); rw [inc1 (n := 1000) (by omega) (by decide +kernel)]; omega)⟩ (by subst_vars; (try dsimp only); rw [inc1 (n := 1000) (by omega) (by decide +kernel)]; omega)
theorem dX12_inBags_0 : decode cX12_inBags 0 = .ok (.iconst 0, 1) := by decide +kernel
theorem dX12_inBags_1 : decode cX12_inBags 1 = .ok (.istore_n 1, 1) := by decide +kernel
theorem dX12_inBags_10 : decode cX12_inBags 10 = .ok (.istore_n 3, 1) := by decide +kernel
theorem dX12_inBags_11 : decode cX12_inBags 11 = .ok (.iload_n 3, 1) := by decide +kernel
theorem dX12_inBags_12 : decode cX12_inBags 12 = .ok (.aload_n 0, 1) := by decide +kernel
theorem dX12_inBags_13 : decode cX12_inBags 13 = .ok (.getfield 37, 3) := by decide +kernel
theorem dX12_inBags_16 : decode cX12_inBags 16 = .ok (.iload_n 2, 1) := by decide +kernel
theorem dX12_inBags_17 : decode cX12_inBags 17 = .ok (.aaload, 1) := by decide +kernel
theorem dX12_inBags_18 : decode cX12_inBags 18 = .ok (.getfield 307, 3) := by decide +kernel
theorem dX12_inBags_2 : decode cX12_inBags 2 = .ok (.iconst 0, 1) := by decide +kernel
theorem dX12_inBags_21 : decode cX12_inBags 21 = .ok (.if_icmp .ge 33, 3) := by decide +kernel
theorem dX12_inBags_24 : decode cX12_inBags 24 = .ok (.aload_n 0, 1) := by decide +kernel
theorem dX12_inBags_25 : decode cX12_inBags 25 = .ok (.getfield 32, 3) := by decide +kernel
theorem dX12_inBags_28 : decode cX12_inBags 28 = .ok (.aload_n 0, 1) := by decide +kernel
theorem dX12_inBags_29 : decode cX12_inBags 29 = .ok (.getfield 37, 3) := by decide +kernel
theorem dX12_inBags_3 : decode cX12_inBags 3 = .ok (.istore_n 2, 1) := by decide +kernel
theorem dX12_inBags_32 : decode cX12_inBags 32 = .ok (.iload_n 2, 1) := by decide +kernel
theorem dX12_inBags_33 : decode cX12_inBags 33 = .ok (.aaload, 1) := by decide +kernel
theorem dX12_inBags_34 : decode cX12_inBags 34 = .ok (.getfield 308, 3) := by decide +kernel
theorem dX12_inBags_37 : decode cX12_inBags 37 = .ok (.iload_n 3, 1) := by decide +kernel
theorem dX12_inBags_38 : decode cX12_inBags 38 = .ok (.iaload, 1) := by decide +kernel
theorem dX12_inBags_39 : decode cX12_inBags 39 = .ok (.invokevirtual 150, 3) := by decide +kernel
theorem dX12_inBags_4 : decode cX12_inBags 4 = .ok (.iload_n 2, 1) := by decide +kernel
theorem dX12_inBags_42 : decode cX12_inBags 42 = .ok (.ifCond .eq 6, 3) := by decide +kernel
theorem dX12_inBags_45 : decode cX12_inBags 45 = .ok (.iinc 1 1, 3) := by decide +kernel
theorem dX12_inBags_48 : decode cX12_inBags 48 = .ok (.iinc 3 1, 3) := by decide +kernel
theorem dX12_inBags_5 : decode cX12_inBags 5 = .ok (.iconst 3, 1) := by decide +kernel
theorem dX12_inBags_51 : decode cX12_inBags 51 = .ok (.goto (-40), 3) := by decide +kernel
theorem dX12_inBags_54 : decode cX12_inBags 54 = .ok (.iinc 2 1, 3) := by decide +kernel
theorem dX12_inBags_57 : decode cX12_inBags 57 = .ok (.goto (-53), 3) := by decide +kernel
theorem dX12_inBags_6 : decode cX12_inBags 6 = .ok (.if_icmp .ge 54, 3) := by decide +kernel
theorem dX12_inBags_60 : decode cX12_inBags 60 = .ok (.iload_n 1, 1) := by decide +kernel
theorem dX12_inBags_61 : decode cX12_inBags 61 = .ok (.ireturn, 1) := by decide +kernel
theorem dX12_inBags_9 : decode cX12_inBags 9 = .ok (.iconst 0, 1) := by decide +kernel
set_option maxRecDepth 20000 in
theorem ggX12_inBags_X2_has : GoodIn wsX12_inBags wsX2_has := goodIn_r _ [9, 10, 11, 12, 13, 27, 28, 29, 30, 31, 32, 33, 34] rfl (by decide +kernel)
set_option maxRecDepth 20000 in
theorem gX12_inBags_X2_has : GoodIn wsX12_inBags (wsV RX12 150 RX2 yX2_has wsX2_has) := goodIn_app (goodIn_r _ [5, 6, 7, 8] rfl (by decide +kernel)) ggX12_inBags_X2_has
set_option maxRecDepth 20000 in
theorem in_X12_inBags_X1 : ∀ w ∈ wsX10, w ∈ wsX12_inBags := sub_r [25, 26] rfl
set_option maxRecDepth 20000 in
theorem in_X12_inBags_X12 : ∀ w ∈ wsX120, w ∈ wsX12_inBags := sub_r [14, 15, 16, 17, 18, 19, 20, 21, 22, 23, 24] rfl
set_option maxHeartbeats 4000000 in
set_option maxRecDepth 100000 in
theorem c_X12_inBags (l : Launch) (D : va_G) (T : Nat → ClassId) (h0 : Nat) (fs0 : List Value) (h1 : Nat) (f1 : Nat → Option Nat) (h2 : Nat) (fs2 : List Value) (h3 : Nat) (fs3 : List Value) (h4 : Nat) (fs4 : List Value) (h5 : Nat) (fs5 : List Value) (h6 : Nat) (f6 : Nat → Int32) (h7 : Nat) (f7 : Nat → Int32) (h8 : Nat) (f8 : Nat → Int32) (n9 : Int32) (n0 : Int32) (n1 : Int32) (n2 : Int32) (e0_5 : fs0[5]? = some (.ref h1)) (e0_4 : fs0[4]? = some (.ref h2)) (e1_0 : f1 0 = some h3) (e1_1 : f1 1 = some h4) (e1_2 : f1 2 = some h5) (e2_0 : fs2[0]? = some (.int n9)) (e3_0 : fs3[0]? = some (.int n0)) (e3_1 : fs3[1]? = some (.ref h6)) (e4_0 : fs4[0]? = some (.int n1)) (e4_1 : fs4[1]? = some (.ref h7)) (e5_0 : fs5[0]? = some (.int n2)) (e5_1 : fs5[1]? = some (.ref h8)) (hn : 0 ≤ n9.toInt ∧ n9.toInt ≤ 24) (hb0 : 0 ≤ n0.toInt ∧ n0.toInt ≤ 12) (hb1 : 0 ≤ n1.toInt ∧ n1.toInt ≤ 12) (hb2 : 0 ≤ n2.toInt ∧ n2.toInt ≤ 12) : Met l yX12_inBags wsX12_inBags ({ frames := 2, cells := 0, slots := 0, locals := 43 }) (pR [.ref h0] D T [(h0, .inr (9, fs0)), (h1, .inl (T 5, 3, .inr (.inr (.inr (.inr f1))))), (h2, .inr (1, fs2)), (h3, .inr (0, fs3)), (h4, .inr (0, fs4)), (h5, .inr (0, fs5)), (h6, .inl (T 0, 12, .inl f6)), (h7, .inl (T 0, 12, .inl f7)), (h8, .inl (T 0, 12, .inl f8))]) (vp_Si (fun r => True)) 0 0 (fun _ => False) := by
  refine Met.ofW (cc := cX12_inBags) (maxL := 4) (ret := (some .int)) (by decide +kernel) rfl ?_
  intro p e s m args below meth c s₁ B hml hv
  obtain ⟨rfl, hP, hE⟩ := hv
  have hx := B.exec
  have hb := B.bytes
  have hr := B.returns
  have hts := atoms_spec (ws := wsX12_inBags) B.pre
  have hown : s.vm.findClass RX12 = some m.cls := findClass_of_methodNamed B.named
  have hlocks := B.notSynchronized
  have hP : va_P D vwCl [(h0, .inr (9, fs0)), (h1, .inl (T 5, 3, .inr (.inr (.inr (.inr f1))))), (h2, .inr (1, fs2)), (h3, .inr (0, fs3)), (h4, .inr (0, fs4)), (h5, .inr (0, fs5)), (h6, .inl (T 0, 12, .inl f6)), (h7, .inl (T 0, 12, .inl f7)), (h8, .inl (T 0, 12, .inl f8))] s.heap := hP
  have hl := lv_entry ([.ref h0]) (n := 4) (Nat.le_of_ble_eq_true rfl)
  rw [lg_entry_eq]
  generalize (lg_sl ([.ref h0]) ++ List.replicate (4 - (lg_sl ([.ref h0])).length) Slot.unset).toArray = ls at hl ⊢
  have hl : lv_has ls 4 [(0, .ref h0)] := hl
  refine lv_iconst (v := 0) hx hb dX12_inBags_0 (by decide +kernel) ?_
  refine lv_istore_n (lv' := [(1, .int 0), (0, .ref h0)]) hx hb dX12_inBags_1 rfl hl (by decide +kernel) rfl (fun ls hl => ?_)
  refine lv_iconst (v := 0) hx hb dX12_inBags_2 (by decide +kernel) ?_
  refine lv_istore_n (lv' := [(2, .int 0), (1, .int 0), (0, .ref h0)]) hx hb dX12_inBags_3 rfl hl (by decide +kernel) rfl (fun ls hl => ?_)
  refine lv_iload_n hx hb dX12_inBags_4 rfl (lv_at hl 0 rfl) ?_
  refine lv_iconst (v := 3) hx hb dX12_inBags_5 (by decide +kernel) ?_
  refine lv_icmp_ge (tgt := 60) hx hb dX12_inBags_6 (by decide +kernel) (fun c9 => absurd c9 (by decide +kernel)) (fun _ => ?_)
  refine lv_iconst (v := 0) hx hb dX12_inBags_9 (by decide +kernel) ?_
  refine lv_istore_n (lv' := [(3, .int 0), (2, .int 0), (1, .int 0), (0, .ref h0)]) hx hb dX12_inBags_10 rfl hl (by decide +kernel) rfl (fun ls hl => ?_)
  refine loopR (σ := (Int32) × (Int32)) (fun x9 ls => lv_has ls 4 [(3, .int x9.1), (1, .int x9.2), (0, .ref h0), (2, .int 0)] ∧ (0 ≤ x9.1.toInt)) (fun x9 => (12 - x9.1.toInt).toNat) (fun x9 ls hI ih => ?_) (0, 0) ls ⟨lv_sub hl [0, 2, 3, 1] rfl, (by (try dsimp only); decide)⟩
  obtain ⟨ii, al⟩ := x9
  obtain ⟨hl, hinv⟩ := hI
  have hl : lv_has ls 4 [(3, .int ii), (1, .int al), (0, .ref h0), (2, .int 0)] := hl
  have hinv : 0 ≤ ii.toInt := hinv
  refine lv_iload_n hx hb dX12_inBags_11 rfl (lv_at hl 0 rfl) ?_
  refine lv_aload_n hx hb dX12_inBags_12 rfl (lv_at hl 2 rfl) ?_
  refine va_get (D := D) (ci := 9) (v := .ref h1) (C := RX12) (T := TX12) (N := 11) hx hb hts in_X12_inBags_X12 hown hE.1 hP 0 rfl rfl 5 (by decide +kernel) (hts (.fieldLink RX12 37 "ClauseBook" "bags" "[LClauseBook$Bag;") (List.mem_of_getElem? (i := 1) rfl)) (fun _ h9 => h9) e0_5 dX12_inBags_13 ?_
  refine lv_iload_n hx hb dX12_inBags_16 rfl (lv_at hl 3 rfl) ?_
  refine va_aldq hx hb hE.1 hP 1 5 rfl rfl (by unfold vp_in; decide) dX12_inBags_17 ?_
  refine W.eq (g2 := F0 m 18 ls [.ref h3, .int ii]) (by rw [show (0 : Int32).toNatClampNeg = 0 from rfl, e1_0]; rfl) ?_
  refine va_get (D := D) (ci := 0) (v := .int n0) (C := RX1) (T := TX1) (N := 2) hx hb hts in_X12_inBags_X1 hown hE.1 hP 3 rfl rfl 0 (by decide +kernel) (hts (.fieldLink RX12 307 "ClauseBook$Bag" "size" "I") (List.mem_of_getElem? (i := 2) rfl)) (fun _ h9 => h9) e3_0 dX12_inBags_18 ?_
  refine lv_icmp_ge (tgt := 54) hx hb dX12_inBags_21 (by decide +kernel) (fun c_1 => ?_) (fun c_1 => ?_)
  · rw [fa_le] at c_1
    refine lv_iinc (v := 1) (lv' := [(2, .int 1), (3, .int ii), (1, .int al), (0, .ref h0)]) hx hb dX12_inBags_54 hl (k := 3) rfl (by decide +kernel) (by decide +kernel) rfl (fun ls hl => ?_)
    refine lv_goto (tgt := 4) hx hb dX12_inBags_57 (by decide +kernel) ?_
    refine lv_iload_n hx hb dX12_inBags_4 rfl (lv_at hl 0 rfl) ?_
    refine lv_iconst (v := 3) hx hb dX12_inBags_5 (by decide +kernel) ?_
    refine lv_icmp_ge (tgt := 60) hx hb dX12_inBags_6 (by decide +kernel) (fun c9 => absurd c9 (by decide +kernel)) (fun _ => ?_)
    refine lv_iconst (v := 0) hx hb dX12_inBags_9 (by decide +kernel) ?_
    refine lv_istore_n (lv' := [(3, .int 0), (2, .int 1), (1, .int al), (0, .ref h0)]) hx hb dX12_inBags_10 rfl hl (by decide +kernel) rfl (fun ls hl => ?_)
    refine loopR (σ := (Int32) × (Int32)) (fun x9 ls => lv_has ls 4 [(3, .int x9.1), (1, .int x9.2), (0, .ref h0), (2, .int 1)] ∧ (0 ≤ x9.1.toInt)) (fun x9 => (12 - x9.1.toInt).toNat) (fun x9 ls hI ih => ?_) (0, al) ls ⟨lv_sub hl [0, 2, 3, 1] rfl, (by (try dsimp only); decide)⟩
    obtain ⟨ii, al⟩ := x9
    obtain ⟨hl, hinv⟩ := hI
    have hl : lv_has ls 4 [(3, .int ii), (1, .int al), (0, .ref h0), (2, .int 1)] := hl
    have hinv : 0 ≤ ii.toInt := hinv
    refine lv_iload_n hx hb dX12_inBags_11 rfl (lv_at hl 0 rfl) ?_
    refine lv_aload_n hx hb dX12_inBags_12 rfl (lv_at hl 2 rfl) ?_
    refine va_get (D := D) (ci := 9) (v := .ref h1) (C := RX12) (T := TX12) (N := 11) hx hb hts in_X12_inBags_X12 hown hE.1 hP 0 rfl rfl 5 (by decide +kernel) (hts (.fieldLink RX12 37 "ClauseBook" "bags" "[LClauseBook$Bag;") (List.mem_of_getElem? (i := 1) rfl)) (fun _ h9 => h9) e0_5 dX12_inBags_13 ?_
    refine lv_iload_n hx hb dX12_inBags_16 rfl (lv_at hl 3 rfl) ?_
    refine va_aldq hx hb hE.1 hP 1 5 rfl rfl (by unfold vp_in; decide) dX12_inBags_17 ?_
    refine W.eq (g2 := F0 m 18 ls [.ref h4, .int ii]) (by rw [show (1 : Int32).toNatClampNeg = 1 from rfl, e1_1]; rfl) ?_
    refine va_get (D := D) (ci := 0) (v := .int n1) (C := RX1) (T := TX1) (N := 2) hx hb hts in_X12_inBags_X1 hown hE.1 hP 4 rfl rfl 0 (by decide +kernel) (hts (.fieldLink RX12 307 "ClauseBook$Bag" "size" "I") (List.mem_of_getElem? (i := 2) rfl)) (fun _ h9 => h9) e4_0 dX12_inBags_18 ?_
    refine lv_icmp_ge (tgt := 54) hx hb dX12_inBags_21 (by decide +kernel) (fun c_2 => ?_) (fun c_2 => ?_)
    · rw [fa_le] at c_2
      refine lv_iinc (v := 2) (lv' := [(2, .int 2), (3, .int ii), (1, .int al), (0, .ref h0)]) hx hb dX12_inBags_54 hl (k := 3) rfl (by decide +kernel) (by decide +kernel) rfl (fun ls hl => ?_)
      refine lv_goto (tgt := 4) hx hb dX12_inBags_57 (by decide +kernel) ?_
      refine lv_iload_n hx hb dX12_inBags_4 rfl (lv_at hl 0 rfl) ?_
      refine lv_iconst (v := 3) hx hb dX12_inBags_5 (by decide +kernel) ?_
      refine lv_icmp_ge (tgt := 60) hx hb dX12_inBags_6 (by decide +kernel) (fun c9 => absurd c9 (by decide +kernel)) (fun _ => ?_)
      refine lv_iconst (v := 0) hx hb dX12_inBags_9 (by decide +kernel) ?_
      refine lv_istore_n (lv' := [(3, .int 0), (2, .int 2), (1, .int al), (0, .ref h0)]) hx hb dX12_inBags_10 rfl hl (by decide +kernel) rfl (fun ls hl => ?_)
      refine loopR (σ := (Int32) × (Int32)) (fun x9 ls => lv_has ls 4 [(3, .int x9.1), (1, .int x9.2), (0, .ref h0), (2, .int 2)] ∧ (0 ≤ x9.1.toInt)) (fun x9 => (12 - x9.1.toInt).toNat) (fun x9 ls hI ih => ?_) (0, al) ls ⟨lv_sub hl [0, 2, 3, 1] rfl, (by (try dsimp only); decide)⟩
      obtain ⟨ii, al⟩ := x9
      obtain ⟨hl, hinv⟩ := hI
      have hl : lv_has ls 4 [(3, .int ii), (1, .int al), (0, .ref h0), (2, .int 2)] := hl
      have hinv : 0 ≤ ii.toInt := hinv
      refine lv_iload_n hx hb dX12_inBags_11 rfl (lv_at hl 0 rfl) ?_
      refine lv_aload_n hx hb dX12_inBags_12 rfl (lv_at hl 2 rfl) ?_
      refine va_get (D := D) (ci := 9) (v := .ref h1) (C := RX12) (T := TX12) (N := 11) hx hb hts in_X12_inBags_X12 hown hE.1 hP 0 rfl rfl 5 (by decide +kernel) (hts (.fieldLink RX12 37 "ClauseBook" "bags" "[LClauseBook$Bag;") (List.mem_of_getElem? (i := 1) rfl)) (fun _ h9 => h9) e0_5 dX12_inBags_13 ?_
      refine lv_iload_n hx hb dX12_inBags_16 rfl (lv_at hl 3 rfl) ?_
      refine va_aldq hx hb hE.1 hP 1 5 rfl rfl (by unfold vp_in; decide) dX12_inBags_17 ?_
      refine W.eq (g2 := F0 m 18 ls [.ref h5, .int ii]) (by rw [show (2 : Int32).toNatClampNeg = 2 from rfl, e1_2]; rfl) ?_
      refine va_get (D := D) (ci := 0) (v := .int n2) (C := RX1) (T := TX1) (N := 2) hx hb hts in_X12_inBags_X1 hown hE.1 hP 5 rfl rfl 0 (by decide +kernel) (hts (.fieldLink RX12 307 "ClauseBook$Bag" "size" "I") (List.mem_of_getElem? (i := 2) rfl)) (fun _ h9 => h9) e5_0 dX12_inBags_18 ?_
      refine lv_icmp_ge (tgt := 54) hx hb dX12_inBags_21 (by decide +kernel) (fun c_3 => ?_) (fun c_3 => ?_)
      · rw [fa_le] at c_3
        refine lv_iinc (v := 3) (lv' := [(2, .int 3), (3, .int ii), (1, .int al), (0, .ref h0)]) hx hb dX12_inBags_54 hl (k := 3) rfl (by decide +kernel) (by decide +kernel) rfl (fun ls hl => ?_)
        refine lv_goto (tgt := 4) hx hb dX12_inBags_57 (by decide +kernel) ?_
        refine lv_iload_n hx hb dX12_inBags_4 rfl (lv_at hl 0 rfl) ?_
        refine lv_iconst (v := 3) hx hb dX12_inBags_5 (by decide +kernel) ?_
        refine lv_icmp_ge (tgt := 60) hx hb dX12_inBags_6 (by decide +kernel) (fun _ => ?_) (fun c9 => absurd c9 (by decide +kernel))
        refine lv_iload_n hx hb dX12_inBags_60 rfl (lv_at hl 2 rfl) ?_
        exact W.iret hx hb hr (fun t ht hW => ⟨_, rfl, trivial, ht⟩) (fun _ h => by cases h) dX12_inBags_61
      · rw [fa_le] at c_3
        refine lv_aload_n hx hb dX12_inBags_24 rfl (lv_at hl 2 rfl) ?_
        refine va_get (D := D) (ci := 9) (v := .ref h2) (C := RX12) (T := TX12) (N := 11) hx hb hts in_X12_inBags_X12 hown hE.1 hP 0 rfl rfl 4 (by decide +kernel) (hts (.fieldLink RX12 32 "ClauseBook" "clauses" "LClauseBook$Clauses;") (List.mem_of_getElem? (i := 3) rfl)) (fun _ h9 => h9) e0_4 dX12_inBags_25 ?_
        refine lv_aload_n hx hb dX12_inBags_28 rfl (lv_at hl 2 rfl) ?_
        refine va_get (D := D) (ci := 9) (v := .ref h1) (C := RX12) (T := TX12) (N := 11) hx hb hts in_X12_inBags_X12 hown hE.1 hP 0 rfl rfl 5 (by decide +kernel) (hts (.fieldLink RX12 37 "ClauseBook" "bags" "[LClauseBook$Bag;") (List.mem_of_getElem? (i := 1) rfl)) (fun _ h9 => h9) e0_5 dX12_inBags_29 ?_
        refine lv_iload_n hx hb dX12_inBags_32 rfl (lv_at hl 3 rfl) ?_
        refine va_aldq hx hb hE.1 hP 1 5 rfl rfl (by unfold vp_in; decide) dX12_inBags_33 ?_
        refine W.eq (g2 := F0 m 34 ls [.ref h5, .ref h2]) (by rw [show (2 : Int32).toNatClampNeg = 2 from rfl, e1_2]; rfl) ?_
        refine va_get (D := D) (ci := 0) (v := .ref h8) (C := RX1) (T := TX1) (N := 2) hx hb hts in_X12_inBags_X1 hown hE.1 hP 5 rfl rfl 1 (by decide +kernel) (hts (.fieldLink RX12 308 "ClauseBook$Bag" "numbers" "[I") (List.mem_of_getElem? (i := 4) rfl)) (fun _ h9 => h9) e5_1 dX12_inBags_34 ?_
        refine lv_iload_n hx hb dX12_inBags_37 rfl (lv_at hl 0 rfl) ?_
        refine va_iald hx hb hE.1 hP 8 0 rfl rfl (by rw [vp_in_iff]; first | omega | (subst_vars; rw [dec1 (by omega)]; omega) | (subst_vars; rw [inc1 (n := 1000) (by omega) (by decide +kernel)]; omega)) dX12_inBags_38 ?_
        refine lv_topi (fun z_4 ez_4 => ?_)
        refine vp_callSi (W.runV (As := [.int z_4]) (rest := []) ⟨hx, hb, hml, hown, hts⟩ (c_X2_has l D T h2 fs2 z_4 n9 e2_0 (by omega)) (cwV 1 hts gX12_inBags_X2_has rfl rfl rfl hv_X2_has ⟨Nat.le_of_ble_eq_true rfl, Nat.le_of_ble_eq_true rfl⟩) (pR_V (q := (RX2, TX2, 8)) (ci := 1) (q0 := 2) hP hE rfl rfl [2] rfl) rfl rfl hl.1 rfl (lv_room (Nat.le_of_ble_eq_true rfl)) dX12_inBags_39 ⟨Nat.le_of_ble_eq_true rfl, Nat.le_of_ble_eq_true rfl⟩) (fun r_5 hr_5 => ?_)
        rcases bool_post hr_5 with ⟨c_6, rfl⟩ | ⟨c_6, rfl⟩
        · refine lv_if_eq (tgt := 48) hx hb dX12_inBags_42 (by decide +kernel) (fun c9 => absurd c9 (by decide +kernel)) (fun _ => ?_)
          obtain ⟨z_7, ez_7⟩ : ∃ y : Int32, y = al + 1 := ⟨_, rfl⟩
          refine lv_iinc (v := z_7) (lv' := [(1, .int z_7), (3, .int ii), (0, .ref h0), (2, .int 2)]) hx hb dX12_inBags_45 hl (k := 1) rfl (by rw [ez_7]; rfl) (by decide +kernel) rfl (fun ls hl => ?_)
          obtain ⟨z_8, ez_8⟩ : ∃ y : Int32, y = ii + 1 := ⟨_, rfl⟩
          refine lv_iinc (v := z_8) (lv' := [(3, .int z_8), (1, .int z_7), (0, .ref h0), (2, .int 2)]) hx hb dX12_inBags_48 hl (k := 1) rfl (by rw [ez_8]; rfl) (by decide +kernel) rfl (fun ls hl => ?_)
          refine lv_goto (tgt := 11) hx hb dX12_inBags_51 (by decide +kernel) ?_
          exact ih (z_8, z_7) ls ⟨lv_sub hl [0, 1, 2, 3] rfl, (by subst_vars; (try dsimp only); rw [inc1 (n := 1000) (by omega) (by decide +kernel)]; omega)⟩ (by subst_vars; (try dsimp only); rw [inc1 (n := 1000) (by omega) (by decide +kernel)]; omega)
        · refine lv_if_eq (tgt := 48) hx hb dX12_inBags_42 (by decide +kernel) (fun _ => ?_) (fun c9 => absurd c9 (by decide +kernel))
          obtain ⟨z_9, ez_9⟩ : ∃ y : Int32, y = ii + 1 := ⟨_, rfl⟩
          refine lv_iinc (v := z_9) (lv' := [(3, .int z_9), (1, .int al), (0, .ref h0), (2, .int 2)]) hx hb dX12_inBags_48 hl (k := 0) rfl (by rw [ez_9]; rfl) (by decide +kernel) rfl (fun ls hl => ?_)
          refine lv_goto (tgt := 11) hx hb dX12_inBags_51 (by decide +kernel) ?_
          exact ih (z_9, al) ls ⟨lv_sub hl [0, 1, 2, 3] rfl, (by subst_vars; (try dsimp only); rw [inc1 (n := 1000) (by omega) (by decide +kernel)]; omega)⟩ (by subst_vars; (try dsimp only); rw [inc1 (n := 1000) (by omega) (by decide +kernel)]; omega)
    · rw [fa_le] at c_2
      refine lv_aload_n hx hb dX12_inBags_24 rfl (lv_at hl 2 rfl) ?_
      refine va_get (D := D) (ci := 9) (v := .ref h2) (C := RX12) (T := TX12) (N := 11) hx hb hts in_X12_inBags_X12 hown hE.1 hP 0 rfl rfl 4 (by decide +kernel) (hts (.fieldLink RX12 32 "ClauseBook" "clauses" "LClauseBook$Clauses;") (List.mem_of_getElem? (i := 3) rfl)) (fun _ h9 => h9) e0_4 dX12_inBags_25 ?_
      refine lv_aload_n hx hb dX12_inBags_28 rfl (lv_at hl 2 rfl) ?_
      refine va_get (D := D) (ci := 9) (v := .ref h1) (C := RX12) (T := TX12) (N := 11) hx hb hts in_X12_inBags_X12 hown hE.1 hP 0 rfl rfl 5 (by decide +kernel) (hts (.fieldLink RX12 37 "ClauseBook" "bags" "[LClauseBook$Bag;") (List.mem_of_getElem? (i := 1) rfl)) (fun _ h9 => h9) e0_5 dX12_inBags_29 ?_
      refine lv_iload_n hx hb dX12_inBags_32 rfl (lv_at hl 3 rfl) ?_
      refine va_aldq hx hb hE.1 hP 1 5 rfl rfl (by unfold vp_in; decide) dX12_inBags_33 ?_
      refine W.eq (g2 := F0 m 34 ls [.ref h4, .ref h2]) (by rw [show (1 : Int32).toNatClampNeg = 1 from rfl, e1_1]; rfl) ?_
      refine va_get (D := D) (ci := 0) (v := .ref h7) (C := RX1) (T := TX1) (N := 2) hx hb hts in_X12_inBags_X1 hown hE.1 hP 4 rfl rfl 1 (by decide +kernel) (hts (.fieldLink RX12 308 "ClauseBook$Bag" "numbers" "[I") (List.mem_of_getElem? (i := 4) rfl)) (fun _ h9 => h9) e4_1 dX12_inBags_34 ?_
      refine lv_iload_n hx hb dX12_inBags_37 rfl (lv_at hl 0 rfl) ?_
      refine va_iald hx hb hE.1 hP 7 0 rfl rfl (by rw [vp_in_iff]; first | omega | (subst_vars; rw [dec1 (by omega)]; omega) | (subst_vars; rw [inc1 (n := 1000) (by omega) (by decide +kernel)]; omega)) dX12_inBags_38 ?_
      refine lv_topi (fun z_10 ez_10 => ?_)
      refine vp_callSi (W.runV (As := [.int z_10]) (rest := []) ⟨hx, hb, hml, hown, hts⟩ (c_X2_has l D T h2 fs2 z_10 n9 e2_0 (by omega)) (cwV 1 hts gX12_inBags_X2_has rfl rfl rfl hv_X2_has ⟨Nat.le_of_ble_eq_true rfl, Nat.le_of_ble_eq_true rfl⟩) (pR_V (q := (RX2, TX2, 8)) (ci := 1) (q0 := 2) hP hE rfl rfl [2] rfl) rfl rfl hl.1 rfl (lv_room (Nat.le_of_ble_eq_true rfl)) dX12_inBags_39 ⟨Nat.le_of_ble_eq_true rfl, Nat.le_of_ble_eq_true rfl⟩) (fun r_11 hr_11 => ?_)
      rcases bool_post hr_11 with ⟨c_12, rfl⟩ | ⟨c_12, rfl⟩
      · refine lv_if_eq (tgt := 48) hx hb dX12_inBags_42 (by decide +kernel) (fun c9 => absurd c9 (by decide +kernel)) (fun _ => ?_)
        obtain ⟨z_13, ez_13⟩ : ∃ y : Int32, y = al + 1 := ⟨_, rfl⟩
        refine lv_iinc (v := z_13) (lv' := [(1, .int z_13), (3, .int ii), (0, .ref h0), (2, .int 1)]) hx hb dX12_inBags_45 hl (k := 1) rfl (by rw [ez_13]; rfl) (by decide +kernel) rfl (fun ls hl => ?_)
        obtain ⟨z_14, ez_14⟩ : ∃ y : Int32, y = ii + 1 := ⟨_, rfl⟩
        refine lv_iinc (v := z_14) (lv' := [(3, .int z_14), (1, .int z_13), (0, .ref h0), (2, .int 1)]) hx hb dX12_inBags_48 hl (k := 1) rfl (by rw [ez_14]; rfl) (by decide +kernel) rfl (fun ls hl => ?_)
        refine lv_goto (tgt := 11) hx hb dX12_inBags_51 (by decide +kernel) ?_
        exact ih (z_14, z_13) ls ⟨lv_sub hl [0, 1, 2, 3] rfl, (by subst_vars; (try dsimp only); rw [inc1 (n := 1000) (by omega) (by decide +kernel)]; omega)⟩ (by subst_vars; (try dsimp only); rw [inc1 (n := 1000) (by omega) (by decide +kernel)]; omega)
      · refine lv_if_eq (tgt := 48) hx hb dX12_inBags_42 (by decide +kernel) (fun _ => ?_) (fun c9 => absurd c9 (by decide +kernel))
        obtain ⟨z_15, ez_15⟩ : ∃ y : Int32, y = ii + 1 := ⟨_, rfl⟩
        refine lv_iinc (v := z_15) (lv' := [(3, .int z_15), (1, .int al), (0, .ref h0), (2, .int 1)]) hx hb dX12_inBags_48 hl (k := 0) rfl (by rw [ez_15]; rfl) (by decide +kernel) rfl (fun ls hl => ?_)
        refine lv_goto (tgt := 11) hx hb dX12_inBags_51 (by decide +kernel) ?_
        exact ih (z_15, al) ls ⟨lv_sub hl [0, 1, 2, 3] rfl, (by subst_vars; (try dsimp only); rw [inc1 (n := 1000) (by omega) (by decide +kernel)]; omega)⟩ (by subst_vars; (try dsimp only); rw [inc1 (n := 1000) (by omega) (by decide +kernel)]; omega)
  · rw [fa_le] at c_1
    refine lv_aload_n hx hb dX12_inBags_24 rfl (lv_at hl 2 rfl) ?_
    refine va_get (D := D) (ci := 9) (v := .ref h2) (C := RX12) (T := TX12) (N := 11) hx hb hts in_X12_inBags_X12 hown hE.1 hP 0 rfl rfl 4 (by decide +kernel) (hts (.fieldLink RX12 32 "ClauseBook" "clauses" "LClauseBook$Clauses;") (List.mem_of_getElem? (i := 3) rfl)) (fun _ h9 => h9) e0_4 dX12_inBags_25 ?_
    refine lv_aload_n hx hb dX12_inBags_28 rfl (lv_at hl 2 rfl) ?_
    refine va_get (D := D) (ci := 9) (v := .ref h1) (C := RX12) (T := TX12) (N := 11) hx hb hts in_X12_inBags_X12 hown hE.1 hP 0 rfl rfl 5 (by decide +kernel) (hts (.fieldLink RX12 37 "ClauseBook" "bags" "[LClauseBook$Bag;") (List.mem_of_getElem? (i := 1) rfl)) (fun _ h9 => h9) e0_5 dX12_inBags_29 ?_
    refine lv_iload_n hx hb dX12_inBags_32 rfl (lv_at hl 3 rfl) ?_
    refine va_aldq hx hb hE.1 hP 1 5 rfl rfl (by unfold vp_in; decide) dX12_inBags_33 ?_
    refine W.eq (g2 := F0 m 34 ls [.ref h3, .ref h2]) (by rw [show (0 : Int32).toNatClampNeg = 0 from rfl, e1_0]; rfl) ?_
    refine va_get (D := D) (ci := 0) (v := .ref h6) (C := RX1) (T := TX1) (N := 2) hx hb hts in_X12_inBags_X1 hown hE.1 hP 3 rfl rfl 1 (by decide +kernel) (hts (.fieldLink RX12 308 "ClauseBook$Bag" "numbers" "[I") (List.mem_of_getElem? (i := 4) rfl)) (fun _ h9 => h9) e3_1 dX12_inBags_34 ?_
    refine lv_iload_n hx hb dX12_inBags_37 rfl (lv_at hl 0 rfl) ?_
    refine va_iald hx hb hE.1 hP 6 0 rfl rfl (by rw [vp_in_iff]; first | omega | (subst_vars; rw [dec1 (by omega)]; omega) | (subst_vars; rw [inc1 (n := 1000) (by omega) (by decide +kernel)]; omega)) dX12_inBags_38 ?_
    refine lv_topi (fun z_16 ez_16 => ?_)
    refine vp_callSi (W.runV (As := [.int z_16]) (rest := []) ⟨hx, hb, hml, hown, hts⟩ (c_X2_has l D T h2 fs2 z_16 n9 e2_0 (by omega)) (cwV 1 hts gX12_inBags_X2_has rfl rfl rfl hv_X2_has ⟨Nat.le_of_ble_eq_true rfl, Nat.le_of_ble_eq_true rfl⟩) (pR_V (q := (RX2, TX2, 8)) (ci := 1) (q0 := 2) hP hE rfl rfl [2] rfl) rfl rfl hl.1 rfl (lv_room (Nat.le_of_ble_eq_true rfl)) dX12_inBags_39 ⟨Nat.le_of_ble_eq_true rfl, Nat.le_of_ble_eq_true rfl⟩) (fun r_17 hr_17 => ?_)
    rcases bool_post hr_17 with ⟨c_18, rfl⟩ | ⟨c_18, rfl⟩
    · refine lv_if_eq (tgt := 48) hx hb dX12_inBags_42 (by decide +kernel) (fun c9 => absurd c9 (by decide +kernel)) (fun _ => ?_)
      obtain ⟨z_19, ez_19⟩ : ∃ y : Int32, y = al + 1 := ⟨_, rfl⟩
      refine lv_iinc (v := z_19) (lv' := [(1, .int z_19), (3, .int ii), (0, .ref h0), (2, .int 0)]) hx hb dX12_inBags_45 hl (k := 1) rfl (by rw [ez_19]; rfl) (by decide +kernel) rfl (fun ls hl => ?_)
      obtain ⟨z_20, ez_20⟩ : ∃ y : Int32, y = ii + 1 := ⟨_, rfl⟩
      refine lv_iinc (v := z_20) (lv' := [(3, .int z_20), (1, .int z_19), (0, .ref h0), (2, .int 0)]) hx hb dX12_inBags_48 hl (k := 1) rfl (by rw [ez_20]; rfl) (by decide +kernel) rfl (fun ls hl => ?_)
      refine lv_goto (tgt := 11) hx hb dX12_inBags_51 (by decide +kernel) ?_
      exact ih (z_20, z_19) ls ⟨lv_sub hl [0, 1, 2, 3] rfl, (by subst_vars; (try dsimp only); rw [inc1 (n := 1000) (by omega) (by decide +kernel)]; omega)⟩ (by subst_vars; (try dsimp only); rw [inc1 (n := 1000) (by omega) (by decide +kernel)]; omega)
    · refine lv_if_eq (tgt := 48) hx hb dX12_inBags_42 (by decide +kernel) (fun _ => ?_) (fun c9 => absurd c9 (by decide +kernel))
      obtain ⟨z_21, ez_21⟩ : ∃ y : Int32, y = ii + 1 := ⟨_, rfl⟩
      refine lv_iinc (v := z_21) (lv' := [(3, .int z_21), (1, .int al), (0, .ref h0), (2, .int 0)]) hx hb dX12_inBags_48 hl (k := 0) rfl (by rw [ez_21]; rfl) (by decide +kernel) rfl (fun ls hl => ?_)
      refine lv_goto (tgt := 11) hx hb dX12_inBags_51 (by decide +kernel) ?_
      exact ih (z_21, al) ls ⟨lv_sub hl [0, 1, 2, 3] rfl, (by subst_vars; (try dsimp only); rw [inc1 (n := 1000) (by omega) (by decide +kernel)]; omega)⟩ (by subst_vars; (try dsimp only); rw [inc1 (n := 1000) (by omega) (by decide +kernel)]; omega)
theorem dX12_count_0 : decode cX12_count 0 = .ok (.iload_n 1, 1) := by decide +kernel
theorem dX12_count_1 : decode cX12_count 1 = .ok (.tableswitch 60 0 3 #[31, 39, 47, 55], 31) := by decide +kernel
theorem dX12_count_32 : decode cX12_count 32 = .ok (.aload_n 0, 1) := by decide +kernel
theorem dX12_count_33 : decode cX12_count 33 = .ok (.getfield 32, 3) := by decide +kernel
theorem dX12_count_36 : decode cX12_count 36 = .ok (.getfield 138, 3) := by decide +kernel
theorem dX12_count_39 : decode cX12_count 39 = .ok (.ireturn, 1) := by decide +kernel
theorem dX12_count_40 : decode cX12_count 40 = .ok (.aload_n 0, 1) := by decide +kernel
theorem dX12_count_41 : decode cX12_count 41 = .ok (.getfield 27, 3) := by decide +kernel
theorem dX12_count_44 : decode cX12_count 44 = .ok (.getfield 81, 3) := by decide +kernel
theorem dX12_count_47 : decode cX12_count 47 = .ok (.ireturn, 1) := by decide +kernel
theorem dX12_count_48 : decode cX12_count 48 = .ok (.aload_n 0, 1) := by decide +kernel
theorem dX12_count_49 : decode cX12_count 49 = .ok (.getfield 32, 3) := by decide +kernel
theorem dX12_count_52 : decode cX12_count 52 = .ok (.invokevirtual 380, 3) := by decide +kernel
theorem dX12_count_55 : decode cX12_count 55 = .ok (.ireturn, 1) := by decide +kernel
theorem dX12_count_56 : decode cX12_count 56 = .ok (.aload_n 0, 1) := by decide +kernel
theorem dX12_count_57 : decode cX12_count 57 = .ok (.invokevirtual 383, 3) := by decide +kernel
theorem dX12_count_60 : decode cX12_count 60 = .ok (.ireturn, 1) := by decide +kernel
theorem dX12_count_61 : decode cX12_count 61 = .ok (.bipush (-2), 2) := by decide +kernel
theorem dX12_count_63 : decode cX12_count 63 = .ok (.ireturn, 1) := by decide +kernel
set_option maxRecDepth 20000 in
theorem ggX12_count_X12_inBags : GoodIn wsX12_count wsX12_inBags := goodIn_r _ [24, 25, 26, 1, 27, 28, 29, 30, 8, 31, 10, 32, 23, 33, 34, 35, 36, 37, 38, 39, 40, 41, 42, 43, 44, 60, 61, 45, 46, 47, 48, 49, 50, 51, 52] rfl (by decide +kernel)
set_option maxRecDepth 20000 in
theorem ggX12_count_X2_unnamed : GoodIn wsX12_count wsX2_unnamed := goodIn_r _ [9, 10, 11, 12, 13, 14, 15, 16, 17, 18, 19, 45, 46, 47, 48, 49, 50, 51, 52] rfl (by decide +kernel)
set_option maxRecDepth 20000 in
theorem gX12_count_X12_inBags : GoodIn wsX12_count (wsV RX12 383 RX12 yX12_inBags wsX12_inBags) := goodIn_app (goodIn_r _ [20, 21, 22, 23] rfl (by decide +kernel)) ggX12_count_X12_inBags
set_option maxRecDepth 20000 in
theorem gX12_count_X2_unnamed : GoodIn wsX12_count (wsV RX12 380 RX2 yX2_unnamed wsX2_unnamed) := goodIn_app (goodIn_r _ [5, 6, 7, 8] rfl (by decide +kernel)) ggX12_count_X2_unnamed
theorem hv_X12_inBags : yX12_inBags.cls = RX12 ∧ yX12_inBags.cls ≠ "java/lang/invoke/MethodHandle" ∧ yX12_inBags.cls ≠ "java/lang/invoke/VarHandle" ∧ (parseMethodDescriptor yX12_inBags.desc).map (fun d => d.parameters.length) = some 0 := by decide +kernel
theorem hv_X2_unnamed : yX2_unnamed.cls = RX2 ∧ yX2_unnamed.cls ≠ "java/lang/invoke/MethodHandle" ∧ yX2_unnamed.cls ≠ "java/lang/invoke/VarHandle" ∧ (parseMethodDescriptor yX2_unnamed.desc).map (fun d => d.parameters.length) = some 0 := by decide +kernel
set_option maxRecDepth 20000 in
theorem in_X12_count_X12 : ∀ w ∈ wsX120, w ∈ wsX12_count := sub_r [34, 35, 36, 37, 38, 39, 40, 41, 42, 43, 44] rfl
set_option maxRecDepth 20000 in
theorem in_X12_count_X2 : ∀ w ∈ wsX20, w ∈ wsX12_count := sub_r [45, 46, 47, 48, 49, 50, 51, 52] rfl
set_option maxRecDepth 20000 in
theorem in_X12_count_X8 : ∀ w ∈ wsX80, w ∈ wsX12_count := sub_r [53, 54, 55, 56, 57, 58, 59] rfl
set_option maxHeartbeats 4000000 in
set_option maxRecDepth 100000 in
theorem c_X12_count (l : Launch) (D : va_G) (T : Nat → ClassId) (h0 : Nat) (fs0 : List Value) (h1 : Nat) (f1 : Nat → Option Nat) (h2 : Nat) (fs2 : List Value) (h3 : Nat) (fs3 : List Value) (h4 : Nat) (fs4 : List Value) (h5 : Nat) (fs5 : List Value) (h6 : Nat) (f6 : Nat → Int32) (h7 : Nat) (f7 : Nat → Int32) (h8 : Nat) (f8 : Nat → Int32) (h9 : Nat) (fs9 : List Value) (h10 : Nat) (f10 : Nat → Int32) (h11 : Nat) (f11 : Nat → Int32) (x1 : Int32) (n9 : Int32) (n0 : Int32) (n1 : Int32) (n2 : Int32) (l0 : Int32) (e0_5 : fs0[5]? = some (.ref h1)) (e0_4 : fs0[4]? = some (.ref h2)) (e0_3 : fs0[3]? = some (.ref h9)) (e1_0 : f1 0 = some h3) (e1_1 : f1 1 = some h4) (e1_2 : f1 2 = some h5) (e2_0 : fs2[0]? = some (.int n9)) (e2_3 : fs2[3]? = some (.ref h10)) (e2_4 : fs2[4]? = some (.ref h11)) (e3_0 : fs3[0]? = some (.int n0)) (e3_1 : fs3[1]? = some (.ref h6)) (e4_0 : fs4[0]? = some (.int n1)) (e4_1 : fs4[1]? = some (.ref h7)) (e5_0 : fs5[0]? = some (.int n2)) (e5_1 : fs5[1]? = some (.ref h8)) (e9_0 : fs9[0]? = some (.int l0)) (hn : 0 ≤ n9.toInt ∧ n9.toInt ≤ 24) (hb0 : 0 ≤ n0.toInt ∧ n0.toInt ≤ 12) (hb1 : 0 ≤ n1.toInt ∧ n1.toInt ≤ 12) (hb2 : 0 ≤ n2.toInt ∧ n2.toInt ≤ 12) : Met l yX12_count wsX12_count ({ frames := 3, cells := 0, slots := 0, locals := 66 }) (pR [.ref h0, .int x1] D T [(h0, .inr (9, fs0)), (h1, .inl (T 5, 3, .inr (.inr (.inr (.inr f1))))), (h2, .inr (1, fs2)), (h3, .inr (0, fs3)), (h4, .inr (0, fs4)), (h5, .inr (0, fs5)), (h6, .inl (T 0, 12, .inl f6)), (h7, .inl (T 0, 12, .inl f7)), (h8, .inl (T 0, 12, .inl f8)), (h9, .inr (5, fs9)), (h10, .inl (T 0, 24, .inl f10)), (h11, .inl (T 0, 24, .inl f11))]) (vp_Si (fun r => True)) 0 0 (fun _ => False) := by
  refine Met.ofW (cc := cX12_count) (maxL := 2) (ret := (some .int)) (by decide +kernel) rfl ?_
  intro p e s m args below meth c s₁ B hml hv
  obtain ⟨rfl, hP, hE⟩ := hv
  have hx := B.exec
  have hb := B.bytes
  have hr := B.returns
  have hts := atoms_spec (ws := wsX12_count) B.pre
  have hown : s.vm.findClass RX12 = some m.cls := findClass_of_methodNamed B.named
  have hlocks := B.notSynchronized
  have hP : va_P D vwCl [(h0, .inr (9, fs0)), (h1, .inl (T 5, 3, .inr (.inr (.inr (.inr f1))))), (h2, .inr (1, fs2)), (h3, .inr (0, fs3)), (h4, .inr (0, fs4)), (h5, .inr (0, fs5)), (h6, .inl (T 0, 12, .inl f6)), (h7, .inl (T 0, 12, .inl f7)), (h8, .inl (T 0, 12, .inl f8)), (h9, .inr (5, fs9)), (h10, .inl (T 0, 24, .inl f10)), (h11, .inl (T 0, 24, .inl f11))] s.heap := hP
  have hl := lv_entry ([.ref h0, .int x1]) (n := 2) (Nat.le_of_ble_eq_true rfl)
  rw [lg_entry_eq]
  generalize (lg_sl ([.ref h0, .int x1]) ++ List.replicate (2 - (lg_sl ([.ref h0, .int x1])).length) Slot.unset).toArray = ls at hl ⊢
  have hl : lv_has ls 2 [(0, .ref h0), (1, .int x1)] := hl
  refine lv_iload_n hx hb dX12_count_0 rfl (lv_at hl 1 rfl) ?_
  by_cases k_1 : x1 = 0
  · subst k_1
    refine lv_tableIn (off := 31) (tgt := 32) hx hb dX12_count_1 (by decide +kernel) (by decide +kernel) (by decide +kernel) (by decide +kernel) ?_
    refine lv_aload_n hx hb dX12_count_32 rfl (lv_at hl 0 rfl) ?_
    refine va_get (D := D) (ci := 9) (v := .ref h2) (C := RX12) (T := TX12) (N := 11) hx hb hts in_X12_count_X12 hown hE.1 hP 0 rfl rfl 4 (by decide +kernel) (hts (.fieldLink RX12 32 "ClauseBook" "clauses" "LClauseBook$Clauses;") (List.mem_of_getElem? (i := 1) rfl)) (fun _ h9 => h9) e0_4 dX12_count_33 ?_
    refine va_get (D := D) (ci := 1) (v := .int n9) (C := RX2) (T := TX2) (N := 8) hx hb hts in_X12_count_X2 hown hE.1 hP 2 rfl rfl 0 (by decide +kernel) (hts (.fieldLink RX12 138 "ClauseBook$Clauses" "size" "I") (List.mem_of_getElem? (i := 2) rfl)) (fun _ h9 => h9) e2_0 dX12_count_36 ?_
    exact W.iret hx hb hr (fun t ht hW => ⟨_, rfl, trivial, ht⟩) (fun _ h => by cases h) dX12_count_39
  by_cases k_2 : x1 = 1
  · subst k_2
    refine lv_tableIn (off := 39) (tgt := 40) hx hb dX12_count_1 (by decide +kernel) (by decide +kernel) (by decide +kernel) (by decide +kernel) ?_
    refine lv_aload_n hx hb dX12_count_40 rfl (lv_at hl 0 rfl) ?_
    refine va_get (D := D) (ci := 9) (v := .ref h9) (C := RX12) (T := TX12) (N := 11) hx hb hts in_X12_count_X12 hown hE.1 hP 0 rfl rfl 3 (by decide +kernel) (hts (.fieldLink RX12 27 "ClauseBook" "lattice" "LClauseBook$Lattice;") (List.mem_of_getElem? (i := 3) rfl)) (fun _ h9 => h9) e0_3 dX12_count_41 ?_
    refine va_get (D := D) (ci := 5) (v := .int l0) (C := RX8) (T := TX8) (N := 7) hx hb hts in_X12_count_X8 hown hE.1 hP 9 rfl rfl 0 (by decide +kernel) (hts (.fieldLink RX12 81 "ClauseBook$Lattice" "start" "I") (List.mem_of_getElem? (i := 4) rfl)) (fun _ h9 => h9) e9_0 dX12_count_44 ?_
    exact W.iret hx hb hr (fun t ht hW => ⟨_, rfl, trivial, ht⟩) (fun _ h => by cases h) dX12_count_47
  by_cases k_3 : x1 = 2
  · subst k_3
    refine lv_tableIn (off := 47) (tgt := 48) hx hb dX12_count_1 (by decide +kernel) (by decide +kernel) (by decide +kernel) (by decide +kernel) ?_
    refine lv_aload_n hx hb dX12_count_48 rfl (lv_at hl 0 rfl) ?_
    refine va_get (D := D) (ci := 9) (v := .ref h2) (C := RX12) (T := TX12) (N := 11) hx hb hts in_X12_count_X12 hown hE.1 hP 0 rfl rfl 4 (by decide +kernel) (hts (.fieldLink RX12 32 "ClauseBook" "clauses" "LClauseBook$Clauses;") (List.mem_of_getElem? (i := 1) rfl)) (fun _ h9 => h9) e0_4 dX12_count_49 ?_
    refine vp_callSi (W.runV (As := []) (rest := []) ⟨hx, hb, hml, hown, hts⟩ (c_X2_unnamed l D T h2 fs2 h10 f10 h11 f11 n9 e2_0 e2_3 e2_4 (by omega)) (cwV 0 hts gX12_count_X2_unnamed rfl rfl rfl hv_X2_unnamed ⟨Nat.le_of_ble_eq_true rfl, Nat.le_of_ble_eq_true rfl⟩) (pR_V (q := (RX2, TX2, 8)) (ci := 1) (q0 := 2) hP hE rfl rfl [2, 10, 11] rfl) rfl rfl hl.1 rfl (lv_room (Nat.le_of_ble_eq_true rfl)) dX12_count_52 ⟨Nat.le_of_ble_eq_true rfl, Nat.le_of_ble_eq_true rfl⟩) (fun r_4 hr_4 => ?_)
    exact W.iret hx hb hr (fun t ht hW => ⟨_, rfl, trivial, ht⟩) (fun _ h => by cases h) dX12_count_55
  by_cases k_5 : x1 = 3
  · subst k_5
    refine lv_tableIn (off := 55) (tgt := 56) hx hb dX12_count_1 (by decide +kernel) (by decide +kernel) (by decide +kernel) (by decide +kernel) ?_
    refine lv_aload_n hx hb dX12_count_56 rfl (lv_at hl 0 rfl) ?_
    refine vp_callSi (W.runV (As := []) (rest := []) ⟨hx, hb, hml, hown, hts⟩ (c_X12_inBags l D T h0 fs0 h1 f1 h2 fs2 h3 fs3 h4 fs4 h5 fs5 h6 f6 h7 f7 h8 f8 n9 n0 n1 n2 e0_5 e0_4 e1_0 e1_1 e1_2 e2_0 e3_0 e3_1 e4_0 e4_1 e5_0 e5_1 (by omega) (by omega) (by omega) (by omega)) (cwV 0 hts gX12_count_X12_inBags rfl rfl rfl hv_X12_inBags ⟨Nat.le_of_ble_eq_true rfl, Nat.le_of_ble_eq_true rfl⟩) (pR_V (q := (RX12, TX12, 11)) (ci := 9) (q0 := 0) hP hE rfl rfl [0, 1, 2, 3, 4, 5, 6, 7, 8] rfl) rfl rfl hl.1 rfl (lv_room (Nat.le_of_ble_eq_true rfl)) dX12_count_57 ⟨Nat.le_of_ble_eq_true rfl, Nat.le_of_ble_eq_true rfl⟩) (fun r_6 hr_6 => ?_)
    exact W.iret hx hb hr (fun t ht hW => ⟨_, rfl, trivial, ht⟩) (fun _ h => by cases h) dX12_count_60
  rw [fa_eq] at k_1 k_2 k_3 k_5
  try simp only [ti_0, ti_1, ti_2, ti_3] at k_1 k_2 k_3 k_5
  refine lv_tableOut (tgt := 61) hx hb dX12_count_1 (by omega) (by decide +kernel) ?_
  refine lv_bipush (v := (-2)) hx hb dX12_count_61 (by decide +kernel) ?_
  exact W.iret hx hb hr (fun t ht hW => ⟨_, rfl, trivial, ht⟩) (fun _ h => by cases h) dX12_count_63
theorem dX12_asClause_0 : decode cX12_asClause 0 = .ok (.iload_n 1, 1) := by decide +kernel
theorem dX12_asClause_1 : decode cX12_asClause 1 = .ok (.invokestatic 352, 3) := by decide +kernel
theorem dX12_asClause_10 : decode cX12_asClause 10 = .ok (.invokestatic 77, 3) := by decide +kernel
theorem dX12_asClause_101 : decode cX12_asClause 101 = .ok (.iaload, 1) := by decide +kernel
theorem dX12_asClause_102 : decode cX12_asClause 102 = .ok (.ireturn, 1) := by decide +kernel
theorem dX12_asClause_13 : decode cX12_asClause 13 = .ok (.ifCond .ne 6, 3) := by decide +kernel
theorem dX12_asClause_16 : decode cX12_asClause 16 = .ok (.bipush (-2), 2) := by decide +kernel
theorem dX12_asClause_18 : decode cX12_asClause 18 = .ok (.ireturn, 1) := by decide +kernel
theorem dX12_asClause_19 : decode cX12_asClause 19 = .ok (.aload_n 0, 1) := by decide +kernel
theorem dX12_asClause_20 : decode cX12_asClause 20 = .ok (.getfield 71, 3) := by decide +kernel
theorem dX12_asClause_23 : decode cX12_asClause 23 = .ok (.iload_n 1, 1) := by decide +kernel
theorem dX12_asClause_24 : decode cX12_asClause 24 = .ok (.aaload, 1) := by decide +kernel
theorem dX12_asClause_25 : decode cX12_asClause 25 = .ok (.astore_n 3, 1) := by decide +kernel
theorem dX12_asClause_26 : decode cX12_asClause 26 = .ok (.aload_n 3, 1) := by decide +kernel
theorem dX12_asClause_27 : decode cX12_asClause 27 = .ok (.getfield 359, 3) := by decide +kernel
theorem dX12_asClause_30 : decode cX12_asClause 30 = .ok (.ifCond .ne 6, 3) := by decide +kernel
theorem dX12_asClause_33 : decode cX12_asClause 33 = .ok (.bipush (-11), 2) := by decide +kernel
theorem dX12_asClause_35 : decode cX12_asClause 35 = .ok (.ireturn, 1) := by decide +kernel
theorem dX12_asClause_36 : decode cX12_asClause 36 = .ok (.aload_n 3, 1) := by decide +kernel
theorem dX12_asClause_37 : decode cX12_asClause 37 = .ok (.getfield 359, 3) := by decide +kernel
theorem dX12_asClause_4 : decode cX12_asClause 4 = .ok (.ifCond .eq 12, 3) := by decide +kernel
theorem dX12_asClause_40 : decode cX12_asClause 40 = .ok (.iconst 1, 1) := by decide +kernel
theorem dX12_asClause_41 : decode cX12_asClause 41 = .ok (.if_icmp .eq 6, 3) := by decide +kernel
theorem dX12_asClause_44 : decode cX12_asClause 44 = .ok (.bipush (-13), 2) := by decide +kernel
theorem dX12_asClause_46 : decode cX12_asClause 46 = .ok (.ireturn, 1) := by decide +kernel
theorem dX12_asClause_47 : decode cX12_asClause 47 = .ok (.aload_n 0, 1) := by decide +kernel
theorem dX12_asClause_48 : decode cX12_asClause 48 = .ok (.getfield 32, 3) := by decide +kernel
theorem dX12_asClause_51 : decode cX12_asClause 51 = .ok (.aload_n 3, 1) := by decide +kernel
theorem dX12_asClause_52 : decode cX12_asClause 52 = .ok (.getfield 360, 3) := by decide +kernel
theorem dX12_asClause_55 : decode cX12_asClause 55 = .ok (.invokevirtual 150, 3) := by decide +kernel
theorem dX12_asClause_58 : decode cX12_asClause 58 = .ok (.ifCond .ne 6, 3) := by decide +kernel
theorem dX12_asClause_61 : decode cX12_asClause 61 = .ok (.bipush (-11), 2) := by decide +kernel
theorem dX12_asClause_63 : decode cX12_asClause 63 = .ok (.ireturn, 1) := by decide +kernel
theorem dX12_asClause_64 : decode cX12_asClause 64 = .ok (.iload_n 2, 1) := by decide +kernel
theorem dX12_asClause_65 : decode cX12_asClause 65 = .ok (.iconst 3, 1) := by decide +kernel
theorem dX12_asClause_66 : decode cX12_asClause 66 = .ok (.if_icmp .eq 24, 3) := by decide +kernel
theorem dX12_asClause_69 : decode cX12_asClause 69 = .ok (.aload_n 0, 1) := by decide +kernel
theorem dX12_asClause_7 : decode cX12_asClause 7 = .ok (.iload_n 2, 1) := by decide +kernel
theorem dX12_asClause_70 : decode cX12_asClause 70 = .ok (.getfield 32, 3) := by decide +kernel
theorem dX12_asClause_73 : decode cX12_asClause 73 = .ok (.aload_n 3, 1) := by decide +kernel
theorem dX12_asClause_74 : decode cX12_asClause 74 = .ok (.getfield 360, 3) := by decide +kernel
theorem dX12_asClause_77 : decode cX12_asClause 77 = .ok (.invokevirtual 175, 3) := by decide +kernel
theorem dX12_asClause_8 : decode cX12_asClause 8 = .ok (.iconst 0, 1) := by decide +kernel
theorem dX12_asClause_80 : decode cX12_asClause 80 = .ok (.getfield 370, 3) := by decide +kernel
theorem dX12_asClause_83 : decode cX12_asClause 83 = .ok (.iload_n 2, 1) := by decide +kernel
theorem dX12_asClause_84 : decode cX12_asClause 84 = .ok (.if_icmp .eq 6, 3) := by decide +kernel
theorem dX12_asClause_87 : decode cX12_asClause 87 = .ok (.bipush (-13), 2) := by decide +kernel
theorem dX12_asClause_89 : decode cX12_asClause 89 = .ok (.ireturn, 1) := by decide +kernel
theorem dX12_asClause_9 : decode cX12_asClause 9 = .ok (.iconst 3, 1) := by decide +kernel
theorem dX12_asClause_90 : decode cX12_asClause 90 = .ok (.aload_n 0, 1) := by decide +kernel
theorem dX12_asClause_91 : decode cX12_asClause 91 = .ok (.getfield 32, 3) := by decide +kernel
theorem dX12_asClause_94 : decode cX12_asClause 94 = .ok (.getfield 153, 3) := by decide +kernel
theorem dX12_asClause_97 : decode cX12_asClause 97 = .ok (.aload_n 3, 1) := by decide +kernel
theorem dX12_asClause_98 : decode cX12_asClause 98 = .ok (.getfield 360, 3) := by decide +kernel
set_option maxRecDepth 20000 in
theorem ggX12_asClause_X12_isHand : GoodIn wsX12_asClause wsX12_isHand := goodIn_r _ [10, 11, 12, 9, 13] rfl (by decide +kernel)
set_option maxRecDepth 20000 in
theorem ggX12_asClause_X12_within : GoodIn wsX12_asClause wsX12_within := goodIn_r _ [13] rfl (by decide +kernel)
set_option maxRecDepth 20000 in
theorem ggX12_asClause_X2_has : GoodIn wsX12_asClause wsX2_has := goodIn_r _ [18, 19, 12, 9, 13, 40, 41, 42, 43, 44, 45, 46, 47] rfl (by decide +kernel)
set_option maxRecDepth 20000 in
theorem ggX12_asClause_X2_kindOf : GoodIn wsX12_asClause wsX2_kindOf := goodIn_r _ [23, 24, 40, 41, 42, 43, 44, 45, 46, 47] rfl (by decide +kernel)
set_option maxRecDepth 20000 in
theorem gX12_asClause_X12_isHand : GoodIn wsX12_asClause (va_wsS RX12 352 yX12_isHand wsX12_isHand) := goodIn_app (goodIn_of _ (by decide +kernel)) ggX12_asClause_X12_isHand
set_option maxRecDepth 20000 in
theorem gX12_asClause_X12_within : GoodIn wsX12_asClause (va_wsS RX12 77 yX12_within wsX12_within) := goodIn_app (goodIn_of _ (by decide +kernel)) ggX12_asClause_X12_within
set_option maxRecDepth 20000 in
theorem gX12_asClause_X2_has : GoodIn wsX12_asClause (wsV RX12 150 RX2 yX2_has wsX2_has) := goodIn_app (goodIn_r _ [14, 15, 16, 17] rfl (by decide +kernel)) ggX12_asClause_X2_has
set_option maxRecDepth 20000 in
theorem gX12_asClause_X2_kindOf : GoodIn wsX12_asClause (wsV RX12 175 RX2 yX2_kindOf wsX2_kindOf) := goodIn_app (goodIn_r _ [20, 21, 22, 17] rfl (by decide +kernel)) ggX12_asClause_X2_kindOf
set_option maxRecDepth 20000 in
theorem in_X12_asClause_X12 : ∀ w ∈ wsX120, w ∈ wsX12_asClause := sub_r [25, 26, 27, 28, 29, 30, 31, 32, 33, 34, 35] rfl
set_option maxRecDepth 20000 in
theorem in_X12_asClause_X2 : ∀ w ∈ wsX20, w ∈ wsX12_asClause := sub_r [40, 41, 42, 43, 44, 45, 46, 47] rfl
set_option maxRecDepth 20000 in
theorem in_X12_asClause_X4 : ∀ w ∈ wsX40, w ∈ wsX12_asClause := sub_r [36, 37, 38, 39] rfl
set_option maxHeartbeats 4000000 in
set_option maxRecDepth 100000 in
theorem c_X12_asClause (l : Launch) (D : va_G) (T : Nat → ClassId) (ad sa av : Nat → Nat) (ta : Nat) (h0 : Nat) (fs0 : List Value) (h1 : Nat) (f1 : Nat → Option Nat) (h2 : Nat) (fs2 : List Value) (h3 : Nat) (fs3 : List Value) (h4 : Nat) (fs4 : List Value) (h5 : Nat) (fs5 : List Value) (h6 : Nat) (fs6 : List Value) (h7 : Nat) (f7 : Nat → Int32) (x1 : Int32) (x2 : Int32) (n9 : Int32) (n0 : Int32) (m0 : Int32) (n1 : Int32) (m1 : Int32) (n2 : Int32) (m2 : Int32) (n3 : Int32) (m3 : Int32) (gc : Nat → Int32) (gd : Nat → Int32) (ge : Nat → Int32) (e0_10 : fs0[10]? = some (.ref h1)) (e0_4 : fs0[4]? = some (.ref h2)) (e1_0 : f1 0 = some h3) (e1_1 : f1 1 = some h4) (e1_2 : f1 2 = some h5) (e1_3 : f1 3 = some h6) (e2_0 : fs2[0]? = some (.int n9)) (e2_1 : fs2[1]? = some (.ref h7)) (e3_0 : fs3[0]? = some (.int n0)) (e3_1 : fs3[1]? = some (.int m0)) (e4_0 : fs4[0]? = some (.int n1)) (e4_1 : fs4[1]? = some (.int m1)) (e5_0 : fs5[0]? = some (.int n2)) (e5_1 : fs5[1]? = some (.int m2)) (e6_0 : fs6[0]? = some (.int n3)) (e6_1 : fs6[1]? = some (.int m3)) (hn : 0 ≤ n9.toInt ∧ n9.toInt ≤ 24) (hok : okC f7 gc gd ge) : Met l yX12_asClause wsX12_asClause ({ frames := 2, cells := 0, slots := 0, locals := 43 }) (pRk [.ref h0, .int x1, .int x2] D T [(h0, .inr (9, fs0)), (h1, .inl (T 7, 4, .inr (.inr (.inr (.inr f1))))), (h2, .inr (1, fs2)), (h3, .inr (3, fs3)), (h4, .inr (3, fs4)), (h5, .inr (3, fs5)), (h6, .inr (3, fs6)), (h7, .inl (T 0, 24, .inl f7))] ad sa av ta) (vp_Si (fun r => asCl n9 x1 x2 ([n0, n1, n2, n3].getD x1.toNatClampNeg 0) ([m0, m1, m2, m3].getD x1.toNatClampNeg 0) f7 r)) 0 0 (fun _ => False) := by
  refine Met.ofW (cc := cX12_asClause) (maxL := 4) (ret := (some .int)) (by decide +kernel) rfl ?_
  intro p e s m args below meth c s₁ B hml hv
  obtain ⟨rfl, hP, hE, hV⟩ := hv
  have hS : va_S (fun _ => False) s.heap s.heap [] := va_S.rf
  have hx := B.exec
  have hb := B.bytes
  have hr := B.returns
  have hts := atoms_spec (ws := wsX12_asClause) B.pre
  have hown : s.vm.findClass RX12 = some m.cls := findClass_of_methodNamed B.named
  have hlocks := B.notSynchronized
  have hP : va_P D vwCl [(h0, .inr (9, fs0)), (h1, .inl (T 7, 4, .inr (.inr (.inr (.inr f1))))), (h2, .inr (1, fs2)), (h3, .inr (3, fs3)), (h4, .inr (3, fs4)), (h5, .inr (3, fs5)), (h6, .inr (3, fs6)), (h7, .inl (T 0, 24, .inl f7))] s.heap := hP
  have hl := lv_entry ([.ref h0, .int x1, .int x2]) (n := 4) (Nat.le_of_ble_eq_true rfl)
  rw [lg_entry_eq]
  generalize (lg_sl ([.ref h0, .int x1, .int x2]) ++ List.replicate (4 - (lg_sl ([.ref h0, .int x1, .int x2])).length) Slot.unset).toArray = ls at hl ⊢
  have hl : lv_has ls 4 [(0, .ref h0), (1, .int x1), (2, .int x2)] := hl
  refine lv_iload_n hx hb dX12_asClause_0 rfl (lv_at hl 1 rfl) ?_
  refine vp_callSi (W.runS (As := [.int x1]) (rest := []) ⟨hx, hb, hml, hown, hts⟩ (c_X12_isHand l D T x1) (va_cwS 1 hts gX12_asClause_X12_isHand rfl rfl rfl hs_X12_isHand ⟨Nat.le_of_ble_eq_true rfl, Nat.le_of_ble_eq_true rfl⟩) (pR_S hP hE [] rfl) rfl rfl hl.1 rfl (lv_room (Nat.le_of_ble_eq_true rfl)) dX12_asClause_1 ⟨Nat.le_of_ble_eq_true rfl, Nat.le_of_ble_eq_true rfl⟩) (fun r_1 hr_1 => ?_)
  rcases bool_post hr_1 with ⟨c_2, rfl⟩ | ⟨c_2, rfl⟩
  · refine lv_if_eq (tgt := 16) hx hb dX12_asClause_4 (by decide +kernel) (fun c9 => absurd c9 (by decide +kernel)) (fun _ => ?_)
    refine lv_iload_n hx hb dX12_asClause_7 rfl (lv_at hl 2 rfl) ?_
    refine lv_iconst (v := 0) hx hb dX12_asClause_8 (by decide +kernel) ?_
    refine lv_iconst (v := 3) hx hb dX12_asClause_9 (by decide +kernel) ?_
    refine vp_callSi (W.runS (As := [.int x2, .int 0, .int 3]) (rest := []) ⟨hx, hb, hml, hown, hts⟩ (c_X12_within l D T x2 0 3 0 3 (by decide +kernel) (by decide +kernel)) (va_cwS 3 hts gX12_asClause_X12_within rfl rfl rfl hs_X12_within ⟨Nat.le_of_ble_eq_true rfl, Nat.le_of_ble_eq_true rfl⟩) (pR_S hP hE [] rfl) rfl rfl hl.1 rfl (lv_room (Nat.le_of_ble_eq_true rfl)) dX12_asClause_10 ⟨Nat.le_of_ble_eq_true rfl, Nat.le_of_ble_eq_true rfl⟩) (fun r_3 hr_3 => ?_)
    rcases bool_post hr_3 with ⟨c_4, rfl⟩ | ⟨c_4, rfl⟩
    · refine lv_if_ne (tgt := 19) hx hb dX12_asClause_13 (by decide +kernel) (fun _ => ?_) (fun c9 => absurd c9 (by decide +kernel))
      refine lv_aload_n hx hb dX12_asClause_19 rfl (lv_at hl 0 rfl) ?_
      refine va_get (D := D) (ci := 9) (v := .ref h1) (C := RX12) (T := TX12) (N := 11) hx hb hts in_X12_asClause_X12 hown hE.1 hP 0 rfl rfl 10 (by decide +kernel) (hts (.fieldLink RX12 71 "ClauseBook" "hands" "[LClauseBook$Hand;") (List.mem_of_getElem? (i := 1) rfl)) (fun _ h9 => h9) e0_10 dX12_asClause_20 ?_
      refine lv_iload_n hx hb dX12_asClause_23 rfl (lv_at hl 1 rfl) ?_
      rcases in4 (x := x1) (by omega) with rfl | rfl | rfl | rfl
      · refine va_aldq hx hb hE.1 hP 1 7 rfl rfl (by unfold vp_in; decide) dX12_asClause_24 ?_
        refine W.eq (g2 := F0 m 25 ls [.ref h3]) (by rw [show (0 : Int32).toNatClampNeg = 0 from rfl, e1_0]; rfl) ?_
        refine lv_astore_n (lv' := [(3, .ref h3), (0, .ref h0), (1, .int 0), (2, .int x2)]) hx hb dX12_asClause_25 rfl hl (by decide +kernel) rfl (fun ls hl => ?_)
        refine lv_aload_n hx hb dX12_asClause_26 rfl (lv_at hl 0 rfl) ?_
        refine va_get (D := D) (ci := 3) (v := .int n0) (C := RX4) (T := TX4) (N := 4) hx hb hts in_X12_asClause_X4 hown hE.1 hP 3 rfl rfl 0 (by decide +kernel) (hts (.fieldLink RX12 359 "ClauseBook$Hand" "sort" "I") (List.mem_of_getElem? (i := 2) rfl)) (fun _ h9 => h9) e3_0 dX12_asClause_27 ?_
        refine lv_if_ne (tgt := 36) hx hb dX12_asClause_30 (by decide +kernel) (fun c_5 => ?_) (fun c_5 => ?_)
        · rw [fa_eq] at c_5
          try rw [ti_0] at c_5
          refine lv_aload_n hx hb dX12_asClause_36 rfl (lv_at hl 0 rfl) ?_
          refine va_get (D := D) (ci := 3) (v := .int n0) (C := RX4) (T := TX4) (N := 4) hx hb hts in_X12_asClause_X4 hown hE.1 hP 3 rfl rfl 0 (by decide +kernel) (hts (.fieldLink RX12 359 "ClauseBook$Hand" "sort" "I") (List.mem_of_getElem? (i := 2) rfl)) (fun _ h9 => h9) e3_0 dX12_asClause_37 ?_
          refine lv_iconst (v := 1) hx hb dX12_asClause_40 (by decide +kernel) ?_
          refine lv_icmp_eq (tgt := 47) hx hb dX12_asClause_41 (by decide +kernel) (fun c_6 => ?_) (fun c_6 => ?_)
          · rw [fa_eq] at c_6
            try rw [ti_1] at c_6
            refine lv_aload_n hx hb dX12_asClause_47 rfl (lv_at hl 1 rfl) ?_
            refine va_get (D := D) (ci := 9) (v := .ref h2) (C := RX12) (T := TX12) (N := 11) hx hb hts in_X12_asClause_X12 hown hE.1 hP 0 rfl rfl 4 (by decide +kernel) (hts (.fieldLink RX12 32 "ClauseBook" "clauses" "LClauseBook$Clauses;") (List.mem_of_getElem? (i := 3) rfl)) (fun _ h9 => h9) e0_4 dX12_asClause_48 ?_
            refine lv_aload_n hx hb dX12_asClause_51 rfl (lv_at hl 0 rfl) ?_
            refine va_get (D := D) (ci := 3) (v := .int m0) (C := RX4) (T := TX4) (N := 4) hx hb hts in_X12_asClause_X4 hown hE.1 hP 3 rfl rfl 1 (by decide +kernel) (hts (.fieldLink RX12 360 "ClauseBook$Hand" "number" "I") (List.mem_of_getElem? (i := 4) rfl)) (fun _ h9 => h9) e3_1 dX12_asClause_52 ?_
            refine vp_callSi (W.runV (As := [.int m0]) (rest := []) ⟨hx, hb, hml, hown, hts⟩ (c_X2_has l D T h2 fs2 m0 n9 e2_0 (by omega)) (cwV 1 hts gX12_asClause_X2_has rfl rfl rfl hv_X2_has ⟨Nat.le_of_ble_eq_true rfl, Nat.le_of_ble_eq_true rfl⟩) (pR_V (q := (RX2, TX2, 8)) (ci := 1) (q0 := 2) hP hE rfl rfl [2] rfl) rfl rfl hl.1 rfl (lv_room (Nat.le_of_ble_eq_true rfl)) dX12_asClause_55 ⟨Nat.le_of_ble_eq_true rfl, Nat.le_of_ble_eq_true rfl⟩) (fun r_7 hr_7 => ?_)
            rcases bool_post hr_7 with ⟨c_8, rfl⟩ | ⟨c_8, rfl⟩
            · refine lv_if_ne (tgt := 64) hx hb dX12_asClause_58 (by decide +kernel) (fun _ => ?_) (fun c9 => absurd c9 (by decide +kernel))
              refine lv_iload_n hx hb dX12_asClause_64 rfl (lv_at hl 3 rfl) ?_
              refine lv_iconst (v := 3) hx hb dX12_asClause_65 (by decide +kernel) ?_
              refine lv_icmp_eq (tgt := 90) hx hb dX12_asClause_66 (by decide +kernel) (fun c_9 => ?_) (fun c_9 => ?_)
              · rw [fa_eq] at c_9
                try rw [ti_3] at c_9
                refine lv_aload_n hx hb dX12_asClause_90 rfl (lv_at hl 1 rfl) ?_
                refine va_get (D := D) (ci := 9) (v := .ref h2) (C := RX12) (T := TX12) (N := 11) hx hb hts in_X12_asClause_X12 hown hE.1 hP 0 rfl rfl 4 (by decide +kernel) (hts (.fieldLink RX12 32 "ClauseBook" "clauses" "LClauseBook$Clauses;") (List.mem_of_getElem? (i := 3) rfl)) (fun _ h9 => h9) e0_4 dX12_asClause_91 ?_
                refine va_get (D := D) (ci := 1) (v := .ref h7) (C := RX2) (T := TX2) (N := 8) hx hb hts in_X12_asClause_X2 hown hE.1 hP 2 rfl rfl 1 (by decide +kernel) (hts (.fieldLink RX12 153 "ClauseBook$Clauses" "kind" "[I") (List.mem_of_getElem? (i := 6) rfl)) (fun _ h9 => h9) e2_1 dX12_asClause_94 ?_
                refine lv_aload_n hx hb dX12_asClause_97 rfl (lv_at hl 0 rfl) ?_
                refine va_get (D := D) (ci := 3) (v := .int m0) (C := RX4) (T := TX4) (N := 4) hx hb hts in_X12_asClause_X4 hown hE.1 hP 3 rfl rfl 1 (by decide +kernel) (hts (.fieldLink RX12 360 "ClauseBook$Hand" "number" "I") (List.mem_of_getElem? (i := 4) rfl)) (fun _ h9 => h9) e3_1 dX12_asClause_98 ?_
                refine va_iald hx hb hE.1 hP 7 0 rfl rfl (by rw [vp_in_iff]; first | omega | (subst_vars; omega)) dX12_asClause_101 ?_
                refine lv_topi (fun z_10 ez_10 => ?_)
                exact W.iret hx hb hr (fun t ht hW => ⟨_, rfl, (Or.inr ⟨⟨⟨by decide, by decide⟩, by omega⟩, Or.inr (Or.inr (Or.inr (Or.inr ⟨(show (n0).toInt = 1 from by omega), (show 0 ≤ (m0).toInt ∧ (m0).toInt < n9.toInt from by omega), (show ¬ (¬ x2.toInt = 3 ∧ ¬ (nmT (f7 ((m0).toNatClampNeg)).toNatClampNeg).toInt = x2.toInt) from by omega), (congrArg Int32.toInt ez_10)⟩)))⟩), ht⟩) (fun _ h => by cases h) dX12_asClause_102
              · rw [fa_eq] at c_9
                try rw [ti_3] at c_9
                refine lv_aload_n hx hb dX12_asClause_69 rfl (lv_at hl 1 rfl) ?_
                refine va_get (D := D) (ci := 9) (v := .ref h2) (C := RX12) (T := TX12) (N := 11) hx hb hts in_X12_asClause_X12 hown hE.1 hP 0 rfl rfl 4 (by decide +kernel) (hts (.fieldLink RX12 32 "ClauseBook" "clauses" "LClauseBook$Clauses;") (List.mem_of_getElem? (i := 3) rfl)) (fun _ h9 => h9) e0_4 dX12_asClause_70 ?_
                refine lv_aload_n hx hb dX12_asClause_73 rfl (lv_at hl 0 rfl) ?_
                refine va_get (D := D) (ci := 3) (v := .int m0) (C := RX4) (T := TX4) (N := 4) hx hb hts in_X12_asClause_X4 hown hE.1 hP 3 rfl rfl 1 (by decide +kernel) (hts (.fieldLink RX12 360 "ClauseBook$Hand" "number" "I") (List.mem_of_getElem? (i := 4) rfl)) (fun _ h9 => h9) e3_1 dX12_asClause_74 ?_
                refine va_cse (W.runV (As := [.int m0]) (rest := []) ⟨hx, hb, hml, hown, hts⟩ (c_X2_kindOf l D T ad sa av ta h2 fs2 h7 f7 m0 e2_1 (by omega) ((hok _ (in24 (x := m0) (by omega)).1).1)) (cwV 1 hts gX12_asClause_X2_kindOf rfl rfl rfl hv_X2_kindOf ⟨Nat.le_of_ble_eq_true rfl, Nat.le_of_ble_eq_true rfl⟩) (pRk_V (q := (RX2, TX2, 8)) (ci := 1) (q0 := 2) hP hE hV hS rfl rfl [2, 7] rfl) rfl rfl hl.1 rfl (lv_room (Nat.le_of_ble_eq_true rfl)) dX12_asClause_77 ⟨Nat.le_of_ble_eq_true rfl, Nat.le_of_ble_eq_true rfl⟩) (fun r_11 hr_11 => ?_)
                subst hr_11
                refine W.eq (g2 := F0 m 80 ls [.ref (ad ((f7 (m0.toNatClampNeg)).toNatClampNeg))]) rfl ?_
                refine va_getE (i := ((f7 (m0.toNatClampNeg)).toNatClampNeg)) hx hb hV.1.1 (in13c ((hok _ (in24 (x := m0) (by omega)).1).1)) hS hown (q := kdQ "names" [0, 0, 1, 1, 1, 2, 2, 2, 1, 2, 1, 1, 2]) (List.mem_of_getElem? (i := 0) rfl) (hts (.fieldLink RX12 370 "ClauseBook$Kind" "names" "I") (List.mem_of_getElem? (i := 5) rfl)) (fun _ h9 => h9) dX12_asClause_80 ?_
                refine W.eq (g2 := F0 m 83 ls [.int (nmT ((f7 (m0.toNatClampNeg)).toNatClampNeg))]) rfl ?_
                refine lv_iload_n hx hb dX12_asClause_83 rfl (lv_at hl 3 rfl) ?_
                refine lv_icmp_eq (tgt := 90) hx hb dX12_asClause_84 (by decide +kernel) (fun c_12 => ?_) (fun c_12 => ?_)
                · rw [fa_eq] at c_12
                  refine lv_aload_n hx hb dX12_asClause_90 rfl (lv_at hl 1 rfl) ?_
                  refine va_get (D := D) (ci := 9) (v := .ref h2) (C := RX12) (T := TX12) (N := 11) hx hb hts in_X12_asClause_X12 hown hE.1 hP 0 rfl rfl 4 (by decide +kernel) (hts (.fieldLink RX12 32 "ClauseBook" "clauses" "LClauseBook$Clauses;") (List.mem_of_getElem? (i := 3) rfl)) (fun _ h9 => h9) e0_4 dX12_asClause_91 ?_
                  refine va_get (D := D) (ci := 1) (v := .ref h7) (C := RX2) (T := TX2) (N := 8) hx hb hts in_X12_asClause_X2 hown hE.1 hP 2 rfl rfl 1 (by decide +kernel) (hts (.fieldLink RX12 153 "ClauseBook$Clauses" "kind" "[I") (List.mem_of_getElem? (i := 6) rfl)) (fun _ h9 => h9) e2_1 dX12_asClause_94 ?_
                  refine lv_aload_n hx hb dX12_asClause_97 rfl (lv_at hl 0 rfl) ?_
                  refine va_get (D := D) (ci := 3) (v := .int m0) (C := RX4) (T := TX4) (N := 4) hx hb hts in_X12_asClause_X4 hown hE.1 hP 3 rfl rfl 1 (by decide +kernel) (hts (.fieldLink RX12 360 "ClauseBook$Hand" "number" "I") (List.mem_of_getElem? (i := 4) rfl)) (fun _ h9 => h9) e3_1 dX12_asClause_98 ?_
                  refine va_iald hx hb hE.1 hP 7 0 rfl rfl (by rw [vp_in_iff]; first | omega | (subst_vars; omega)) dX12_asClause_101 ?_
                  refine lv_topi (fun z_13 ez_13 => ?_)
                  exact W.iret hx hb hr (fun t ht hW => ⟨_, rfl, (Or.inr ⟨⟨⟨by decide, by decide⟩, by omega⟩, Or.inr (Or.inr (Or.inr (Or.inr ⟨(show (n0).toInt = 1 from by omega), (show 0 ≤ (m0).toInt ∧ (m0).toInt < n9.toInt from by omega), (show ¬ (¬ x2.toInt = 3 ∧ ¬ (nmT (f7 ((m0).toNatClampNeg)).toNatClampNeg).toInt = x2.toInt) from by omega), (congrArg Int32.toInt ez_13)⟩)))⟩), ht⟩) (fun _ h => by cases h) dX12_asClause_102
                · rw [fa_eq] at c_12
                  refine lv_bipush (v := (-13)) hx hb dX12_asClause_87 (by decide +kernel) ?_
                  exact W.iret hx hb hr (fun t ht hW => ⟨_, rfl, (Or.inr ⟨⟨⟨by decide, by decide⟩, by omega⟩, Or.inr (Or.inr (Or.inr (Or.inl ⟨(show (n0).toInt = 1 from by omega), (show 0 ≤ (m0).toInt ∧ (m0).toInt < n9.toInt from by omega), ⟨by omega, (show ¬ (nmT (f7 ((m0).toNatClampNeg)).toNatClampNeg).toInt = x2.toInt from by omega)⟩, (by decide +kernel)⟩)))⟩), ht⟩) (fun _ h => by cases h) dX12_asClause_89
            · refine lv_if_ne (tgt := 64) hx hb dX12_asClause_58 (by decide +kernel) (fun c9 => absurd c9 (by decide +kernel)) (fun _ => ?_)
              refine lv_bipush (v := (-11)) hx hb dX12_asClause_61 (by decide +kernel) ?_
              exact W.iret hx hb hr (fun t ht hW => ⟨_, rfl, (Or.inr ⟨⟨⟨by decide, by decide⟩, by omega⟩, Or.inr (Or.inr (Or.inl ⟨(show (n0).toInt = 1 from by omega), (show ¬ (0 ≤ (m0).toInt ∧ (m0).toInt < n9.toInt) from by omega), (by decide +kernel)⟩))⟩), ht⟩) (fun _ h => by cases h) dX12_asClause_63
          · rw [fa_eq] at c_6
            try rw [ti_1] at c_6
            refine lv_bipush (v := (-13)) hx hb dX12_asClause_44 (by decide +kernel) ?_
            exact W.iret hx hb hr (fun t ht hW => ⟨_, rfl, (Or.inr ⟨⟨⟨by decide, by decide⟩, by omega⟩, Or.inr (Or.inl ⟨(show ¬ (n0).toInt = 0 from by omega), (show ¬ (n0).toInt = 1 from by omega), (by decide +kernel)⟩)⟩), ht⟩) (fun _ h => by cases h) dX12_asClause_46
        · rw [fa_eq] at c_5
          try rw [ti_0] at c_5
          refine lv_bipush (v := (-11)) hx hb dX12_asClause_33 (by decide +kernel) ?_
          exact W.iret hx hb hr (fun t ht hW => ⟨_, rfl, (Or.inr ⟨⟨⟨by decide, by decide⟩, by omega⟩, Or.inl ⟨(show (n0).toInt = 0 from by omega), (by decide +kernel)⟩⟩), ht⟩) (fun _ h => by cases h) dX12_asClause_35
      · refine va_aldq hx hb hE.1 hP 1 7 rfl rfl (by unfold vp_in; decide) dX12_asClause_24 ?_
        refine W.eq (g2 := F0 m 25 ls [.ref h4]) (by rw [show (1 : Int32).toNatClampNeg = 1 from rfl, e1_1]; rfl) ?_
        refine lv_astore_n (lv' := [(3, .ref h4), (0, .ref h0), (1, .int 1), (2, .int x2)]) hx hb dX12_asClause_25 rfl hl (by decide +kernel) rfl (fun ls hl => ?_)
        refine lv_aload_n hx hb dX12_asClause_26 rfl (lv_at hl 0 rfl) ?_
        refine va_get (D := D) (ci := 3) (v := .int n1) (C := RX4) (T := TX4) (N := 4) hx hb hts in_X12_asClause_X4 hown hE.1 hP 4 rfl rfl 0 (by decide +kernel) (hts (.fieldLink RX12 359 "ClauseBook$Hand" "sort" "I") (List.mem_of_getElem? (i := 2) rfl)) (fun _ h9 => h9) e4_0 dX12_asClause_27 ?_
        refine lv_if_ne (tgt := 36) hx hb dX12_asClause_30 (by decide +kernel) (fun c_14 => ?_) (fun c_14 => ?_)
        · rw [fa_eq] at c_14
          try rw [ti_0] at c_14
          refine lv_aload_n hx hb dX12_asClause_36 rfl (lv_at hl 0 rfl) ?_
          refine va_get (D := D) (ci := 3) (v := .int n1) (C := RX4) (T := TX4) (N := 4) hx hb hts in_X12_asClause_X4 hown hE.1 hP 4 rfl rfl 0 (by decide +kernel) (hts (.fieldLink RX12 359 "ClauseBook$Hand" "sort" "I") (List.mem_of_getElem? (i := 2) rfl)) (fun _ h9 => h9) e4_0 dX12_asClause_37 ?_
          refine lv_iconst (v := 1) hx hb dX12_asClause_40 (by decide +kernel) ?_
          refine lv_icmp_eq (tgt := 47) hx hb dX12_asClause_41 (by decide +kernel) (fun c_15 => ?_) (fun c_15 => ?_)
          · rw [fa_eq] at c_15
            try rw [ti_1] at c_15
            refine lv_aload_n hx hb dX12_asClause_47 rfl (lv_at hl 1 rfl) ?_
            refine va_get (D := D) (ci := 9) (v := .ref h2) (C := RX12) (T := TX12) (N := 11) hx hb hts in_X12_asClause_X12 hown hE.1 hP 0 rfl rfl 4 (by decide +kernel) (hts (.fieldLink RX12 32 "ClauseBook" "clauses" "LClauseBook$Clauses;") (List.mem_of_getElem? (i := 3) rfl)) (fun _ h9 => h9) e0_4 dX12_asClause_48 ?_
            refine lv_aload_n hx hb dX12_asClause_51 rfl (lv_at hl 0 rfl) ?_
            refine va_get (D := D) (ci := 3) (v := .int m1) (C := RX4) (T := TX4) (N := 4) hx hb hts in_X12_asClause_X4 hown hE.1 hP 4 rfl rfl 1 (by decide +kernel) (hts (.fieldLink RX12 360 "ClauseBook$Hand" "number" "I") (List.mem_of_getElem? (i := 4) rfl)) (fun _ h9 => h9) e4_1 dX12_asClause_52 ?_
            refine vp_callSi (W.runV (As := [.int m1]) (rest := []) ⟨hx, hb, hml, hown, hts⟩ (c_X2_has l D T h2 fs2 m1 n9 e2_0 (by omega)) (cwV 1 hts gX12_asClause_X2_has rfl rfl rfl hv_X2_has ⟨Nat.le_of_ble_eq_true rfl, Nat.le_of_ble_eq_true rfl⟩) (pR_V (q := (RX2, TX2, 8)) (ci := 1) (q0 := 2) hP hE rfl rfl [2] rfl) rfl rfl hl.1 rfl (lv_room (Nat.le_of_ble_eq_true rfl)) dX12_asClause_55 ⟨Nat.le_of_ble_eq_true rfl, Nat.le_of_ble_eq_true rfl⟩) (fun r_16 hr_16 => ?_)
            rcases bool_post hr_16 with ⟨c_17, rfl⟩ | ⟨c_17, rfl⟩
            · refine lv_if_ne (tgt := 64) hx hb dX12_asClause_58 (by decide +kernel) (fun _ => ?_) (fun c9 => absurd c9 (by decide +kernel))
              refine lv_iload_n hx hb dX12_asClause_64 rfl (lv_at hl 3 rfl) ?_
              refine lv_iconst (v := 3) hx hb dX12_asClause_65 (by decide +kernel) ?_
              refine lv_icmp_eq (tgt := 90) hx hb dX12_asClause_66 (by decide +kernel) (fun c_18 => ?_) (fun c_18 => ?_)
              · rw [fa_eq] at c_18
                try rw [ti_3] at c_18
                refine lv_aload_n hx hb dX12_asClause_90 rfl (lv_at hl 1 rfl) ?_
                refine va_get (D := D) (ci := 9) (v := .ref h2) (C := RX12) (T := TX12) (N := 11) hx hb hts in_X12_asClause_X12 hown hE.1 hP 0 rfl rfl 4 (by decide +kernel) (hts (.fieldLink RX12 32 "ClauseBook" "clauses" "LClauseBook$Clauses;") (List.mem_of_getElem? (i := 3) rfl)) (fun _ h9 => h9) e0_4 dX12_asClause_91 ?_
                refine va_get (D := D) (ci := 1) (v := .ref h7) (C := RX2) (T := TX2) (N := 8) hx hb hts in_X12_asClause_X2 hown hE.1 hP 2 rfl rfl 1 (by decide +kernel) (hts (.fieldLink RX12 153 "ClauseBook$Clauses" "kind" "[I") (List.mem_of_getElem? (i := 6) rfl)) (fun _ h9 => h9) e2_1 dX12_asClause_94 ?_
                refine lv_aload_n hx hb dX12_asClause_97 rfl (lv_at hl 0 rfl) ?_
                refine va_get (D := D) (ci := 3) (v := .int m1) (C := RX4) (T := TX4) (N := 4) hx hb hts in_X12_asClause_X4 hown hE.1 hP 4 rfl rfl 1 (by decide +kernel) (hts (.fieldLink RX12 360 "ClauseBook$Hand" "number" "I") (List.mem_of_getElem? (i := 4) rfl)) (fun _ h9 => h9) e4_1 dX12_asClause_98 ?_
                refine va_iald hx hb hE.1 hP 7 0 rfl rfl (by rw [vp_in_iff]; first | omega | (subst_vars; omega)) dX12_asClause_101 ?_
                refine lv_topi (fun z_19 ez_19 => ?_)
                exact W.iret hx hb hr (fun t ht hW => ⟨_, rfl, (Or.inr ⟨⟨⟨by decide, by decide⟩, by omega⟩, Or.inr (Or.inr (Or.inr (Or.inr ⟨(show (n1).toInt = 1 from by omega), (show 0 ≤ (m1).toInt ∧ (m1).toInt < n9.toInt from by omega), (show ¬ (¬ x2.toInt = 3 ∧ ¬ (nmT (f7 ((m1).toNatClampNeg)).toNatClampNeg).toInt = x2.toInt) from by omega), (congrArg Int32.toInt ez_19)⟩)))⟩), ht⟩) (fun _ h => by cases h) dX12_asClause_102
              · rw [fa_eq] at c_18
                try rw [ti_3] at c_18
                refine lv_aload_n hx hb dX12_asClause_69 rfl (lv_at hl 1 rfl) ?_
                refine va_get (D := D) (ci := 9) (v := .ref h2) (C := RX12) (T := TX12) (N := 11) hx hb hts in_X12_asClause_X12 hown hE.1 hP 0 rfl rfl 4 (by decide +kernel) (hts (.fieldLink RX12 32 "ClauseBook" "clauses" "LClauseBook$Clauses;") (List.mem_of_getElem? (i := 3) rfl)) (fun _ h9 => h9) e0_4 dX12_asClause_70 ?_
                refine lv_aload_n hx hb dX12_asClause_73 rfl (lv_at hl 0 rfl) ?_
                refine va_get (D := D) (ci := 3) (v := .int m1) (C := RX4) (T := TX4) (N := 4) hx hb hts in_X12_asClause_X4 hown hE.1 hP 4 rfl rfl 1 (by decide +kernel) (hts (.fieldLink RX12 360 "ClauseBook$Hand" "number" "I") (List.mem_of_getElem? (i := 4) rfl)) (fun _ h9 => h9) e4_1 dX12_asClause_74 ?_
                refine va_cse (W.runV (As := [.int m1]) (rest := []) ⟨hx, hb, hml, hown, hts⟩ (c_X2_kindOf l D T ad sa av ta h2 fs2 h7 f7 m1 e2_1 (by omega) ((hok _ (in24 (x := m1) (by omega)).1).1)) (cwV 1 hts gX12_asClause_X2_kindOf rfl rfl rfl hv_X2_kindOf ⟨Nat.le_of_ble_eq_true rfl, Nat.le_of_ble_eq_true rfl⟩) (pRk_V (q := (RX2, TX2, 8)) (ci := 1) (q0 := 2) hP hE hV hS rfl rfl [2, 7] rfl) rfl rfl hl.1 rfl (lv_room (Nat.le_of_ble_eq_true rfl)) dX12_asClause_77 ⟨Nat.le_of_ble_eq_true rfl, Nat.le_of_ble_eq_true rfl⟩) (fun r_20 hr_20 => ?_)
                subst hr_20
                refine W.eq (g2 := F0 m 80 ls [.ref (ad ((f7 (m1.toNatClampNeg)).toNatClampNeg))]) rfl ?_
                refine va_getE (i := ((f7 (m1.toNatClampNeg)).toNatClampNeg)) hx hb hV.1.1 (in13c ((hok _ (in24 (x := m1) (by omega)).1).1)) hS hown (q := kdQ "names" [0, 0, 1, 1, 1, 2, 2, 2, 1, 2, 1, 1, 2]) (List.mem_of_getElem? (i := 0) rfl) (hts (.fieldLink RX12 370 "ClauseBook$Kind" "names" "I") (List.mem_of_getElem? (i := 5) rfl)) (fun _ h9 => h9) dX12_asClause_80 ?_
                refine W.eq (g2 := F0 m 83 ls [.int (nmT ((f7 (m1.toNatClampNeg)).toNatClampNeg))]) rfl ?_
                refine lv_iload_n hx hb dX12_asClause_83 rfl (lv_at hl 3 rfl) ?_
                refine lv_icmp_eq (tgt := 90) hx hb dX12_asClause_84 (by decide +kernel) (fun c_21 => ?_) (fun c_21 => ?_)
                · rw [fa_eq] at c_21
                  refine lv_aload_n hx hb dX12_asClause_90 rfl (lv_at hl 1 rfl) ?_
                  refine va_get (D := D) (ci := 9) (v := .ref h2) (C := RX12) (T := TX12) (N := 11) hx hb hts in_X12_asClause_X12 hown hE.1 hP 0 rfl rfl 4 (by decide +kernel) (hts (.fieldLink RX12 32 "ClauseBook" "clauses" "LClauseBook$Clauses;") (List.mem_of_getElem? (i := 3) rfl)) (fun _ h9 => h9) e0_4 dX12_asClause_91 ?_
                  refine va_get (D := D) (ci := 1) (v := .ref h7) (C := RX2) (T := TX2) (N := 8) hx hb hts in_X12_asClause_X2 hown hE.1 hP 2 rfl rfl 1 (by decide +kernel) (hts (.fieldLink RX12 153 "ClauseBook$Clauses" "kind" "[I") (List.mem_of_getElem? (i := 6) rfl)) (fun _ h9 => h9) e2_1 dX12_asClause_94 ?_
                  refine lv_aload_n hx hb dX12_asClause_97 rfl (lv_at hl 0 rfl) ?_
                  refine va_get (D := D) (ci := 3) (v := .int m1) (C := RX4) (T := TX4) (N := 4) hx hb hts in_X12_asClause_X4 hown hE.1 hP 4 rfl rfl 1 (by decide +kernel) (hts (.fieldLink RX12 360 "ClauseBook$Hand" "number" "I") (List.mem_of_getElem? (i := 4) rfl)) (fun _ h9 => h9) e4_1 dX12_asClause_98 ?_
                  refine va_iald hx hb hE.1 hP 7 0 rfl rfl (by rw [vp_in_iff]; first | omega | (subst_vars; omega)) dX12_asClause_101 ?_
                  refine lv_topi (fun z_22 ez_22 => ?_)
                  exact W.iret hx hb hr (fun t ht hW => ⟨_, rfl, (Or.inr ⟨⟨⟨by decide, by decide⟩, by omega⟩, Or.inr (Or.inr (Or.inr (Or.inr ⟨(show (n1).toInt = 1 from by omega), (show 0 ≤ (m1).toInt ∧ (m1).toInt < n9.toInt from by omega), (show ¬ (¬ x2.toInt = 3 ∧ ¬ (nmT (f7 ((m1).toNatClampNeg)).toNatClampNeg).toInt = x2.toInt) from by omega), (congrArg Int32.toInt ez_22)⟩)))⟩), ht⟩) (fun _ h => by cases h) dX12_asClause_102
                · rw [fa_eq] at c_21
                  refine lv_bipush (v := (-13)) hx hb dX12_asClause_87 (by decide +kernel) ?_
                  exact W.iret hx hb hr (fun t ht hW => ⟨_, rfl, (Or.inr ⟨⟨⟨by decide, by decide⟩, by omega⟩, Or.inr (Or.inr (Or.inr (Or.inl ⟨(show (n1).toInt = 1 from by omega), (show 0 ≤ (m1).toInt ∧ (m1).toInt < n9.toInt from by omega), ⟨by omega, (show ¬ (nmT (f7 ((m1).toNatClampNeg)).toNatClampNeg).toInt = x2.toInt from by omega)⟩, (by decide +kernel)⟩)))⟩), ht⟩) (fun _ h => by cases h) dX12_asClause_89
            · refine lv_if_ne (tgt := 64) hx hb dX12_asClause_58 (by decide +kernel) (fun c9 => absurd c9 (by decide +kernel)) (fun _ => ?_)
              refine lv_bipush (v := (-11)) hx hb dX12_asClause_61 (by decide +kernel) ?_
              exact W.iret hx hb hr (fun t ht hW => ⟨_, rfl, (Or.inr ⟨⟨⟨by decide, by decide⟩, by omega⟩, Or.inr (Or.inr (Or.inl ⟨(show (n1).toInt = 1 from by omega), (show ¬ (0 ≤ (m1).toInt ∧ (m1).toInt < n9.toInt) from by omega), (by decide +kernel)⟩))⟩), ht⟩) (fun _ h => by cases h) dX12_asClause_63
          · rw [fa_eq] at c_15
            try rw [ti_1] at c_15
            refine lv_bipush (v := (-13)) hx hb dX12_asClause_44 (by decide +kernel) ?_
            exact W.iret hx hb hr (fun t ht hW => ⟨_, rfl, (Or.inr ⟨⟨⟨by decide, by decide⟩, by omega⟩, Or.inr (Or.inl ⟨(show ¬ (n1).toInt = 0 from by omega), (show ¬ (n1).toInt = 1 from by omega), (by decide +kernel)⟩)⟩), ht⟩) (fun _ h => by cases h) dX12_asClause_46
        · rw [fa_eq] at c_14
          try rw [ti_0] at c_14
          refine lv_bipush (v := (-11)) hx hb dX12_asClause_33 (by decide +kernel) ?_
          exact W.iret hx hb hr (fun t ht hW => ⟨_, rfl, (Or.inr ⟨⟨⟨by decide, by decide⟩, by omega⟩, Or.inl ⟨(show (n1).toInt = 0 from by omega), (by decide +kernel)⟩⟩), ht⟩) (fun _ h => by cases h) dX12_asClause_35
      · refine va_aldq hx hb hE.1 hP 1 7 rfl rfl (by unfold vp_in; decide) dX12_asClause_24 ?_
        refine W.eq (g2 := F0 m 25 ls [.ref h5]) (by rw [show (2 : Int32).toNatClampNeg = 2 from rfl, e1_2]; rfl) ?_
        refine lv_astore_n (lv' := [(3, .ref h5), (0, .ref h0), (1, .int 2), (2, .int x2)]) hx hb dX12_asClause_25 rfl hl (by decide +kernel) rfl (fun ls hl => ?_)
        refine lv_aload_n hx hb dX12_asClause_26 rfl (lv_at hl 0 rfl) ?_
        refine va_get (D := D) (ci := 3) (v := .int n2) (C := RX4) (T := TX4) (N := 4) hx hb hts in_X12_asClause_X4 hown hE.1 hP 5 rfl rfl 0 (by decide +kernel) (hts (.fieldLink RX12 359 "ClauseBook$Hand" "sort" "I") (List.mem_of_getElem? (i := 2) rfl)) (fun _ h9 => h9) e5_0 dX12_asClause_27 ?_
        refine lv_if_ne (tgt := 36) hx hb dX12_asClause_30 (by decide +kernel) (fun c_23 => ?_) (fun c_23 => ?_)
        · rw [fa_eq] at c_23
          try rw [ti_0] at c_23
          refine lv_aload_n hx hb dX12_asClause_36 rfl (lv_at hl 0 rfl) ?_
          refine va_get (D := D) (ci := 3) (v := .int n2) (C := RX4) (T := TX4) (N := 4) hx hb hts in_X12_asClause_X4 hown hE.1 hP 5 rfl rfl 0 (by decide +kernel) (hts (.fieldLink RX12 359 "ClauseBook$Hand" "sort" "I") (List.mem_of_getElem? (i := 2) rfl)) (fun _ h9 => h9) e5_0 dX12_asClause_37 ?_
          refine lv_iconst (v := 1) hx hb dX12_asClause_40 (by decide +kernel) ?_
          refine lv_icmp_eq (tgt := 47) hx hb dX12_asClause_41 (by decide +kernel) (fun c_24 => ?_) (fun c_24 => ?_)
          · rw [fa_eq] at c_24
            try rw [ti_1] at c_24
            refine lv_aload_n hx hb dX12_asClause_47 rfl (lv_at hl 1 rfl) ?_
            refine va_get (D := D) (ci := 9) (v := .ref h2) (C := RX12) (T := TX12) (N := 11) hx hb hts in_X12_asClause_X12 hown hE.1 hP 0 rfl rfl 4 (by decide +kernel) (hts (.fieldLink RX12 32 "ClauseBook" "clauses" "LClauseBook$Clauses;") (List.mem_of_getElem? (i := 3) rfl)) (fun _ h9 => h9) e0_4 dX12_asClause_48 ?_
            refine lv_aload_n hx hb dX12_asClause_51 rfl (lv_at hl 0 rfl) ?_
            refine va_get (D := D) (ci := 3) (v := .int m2) (C := RX4) (T := TX4) (N := 4) hx hb hts in_X12_asClause_X4 hown hE.1 hP 5 rfl rfl 1 (by decide +kernel) (hts (.fieldLink RX12 360 "ClauseBook$Hand" "number" "I") (List.mem_of_getElem? (i := 4) rfl)) (fun _ h9 => h9) e5_1 dX12_asClause_52 ?_
            refine vp_callSi (W.runV (As := [.int m2]) (rest := []) ⟨hx, hb, hml, hown, hts⟩ (c_X2_has l D T h2 fs2 m2 n9 e2_0 (by omega)) (cwV 1 hts gX12_asClause_X2_has rfl rfl rfl hv_X2_has ⟨Nat.le_of_ble_eq_true rfl, Nat.le_of_ble_eq_true rfl⟩) (pR_V (q := (RX2, TX2, 8)) (ci := 1) (q0 := 2) hP hE rfl rfl [2] rfl) rfl rfl hl.1 rfl (lv_room (Nat.le_of_ble_eq_true rfl)) dX12_asClause_55 ⟨Nat.le_of_ble_eq_true rfl, Nat.le_of_ble_eq_true rfl⟩) (fun r_25 hr_25 => ?_)
            rcases bool_post hr_25 with ⟨c_26, rfl⟩ | ⟨c_26, rfl⟩
            · refine lv_if_ne (tgt := 64) hx hb dX12_asClause_58 (by decide +kernel) (fun _ => ?_) (fun c9 => absurd c9 (by decide +kernel))
              refine lv_iload_n hx hb dX12_asClause_64 rfl (lv_at hl 3 rfl) ?_
              refine lv_iconst (v := 3) hx hb dX12_asClause_65 (by decide +kernel) ?_
              refine lv_icmp_eq (tgt := 90) hx hb dX12_asClause_66 (by decide +kernel) (fun c_27 => ?_) (fun c_27 => ?_)
              · rw [fa_eq] at c_27
                try rw [ti_3] at c_27
                refine lv_aload_n hx hb dX12_asClause_90 rfl (lv_at hl 1 rfl) ?_
                refine va_get (D := D) (ci := 9) (v := .ref h2) (C := RX12) (T := TX12) (N := 11) hx hb hts in_X12_asClause_X12 hown hE.1 hP 0 rfl rfl 4 (by decide +kernel) (hts (.fieldLink RX12 32 "ClauseBook" "clauses" "LClauseBook$Clauses;") (List.mem_of_getElem? (i := 3) rfl)) (fun _ h9 => h9) e0_4 dX12_asClause_91 ?_
                refine va_get (D := D) (ci := 1) (v := .ref h7) (C := RX2) (T := TX2) (N := 8) hx hb hts in_X12_asClause_X2 hown hE.1 hP 2 rfl rfl 1 (by decide +kernel) (hts (.fieldLink RX12 153 "ClauseBook$Clauses" "kind" "[I") (List.mem_of_getElem? (i := 6) rfl)) (fun _ h9 => h9) e2_1 dX12_asClause_94 ?_
                refine lv_aload_n hx hb dX12_asClause_97 rfl (lv_at hl 0 rfl) ?_
                refine va_get (D := D) (ci := 3) (v := .int m2) (C := RX4) (T := TX4) (N := 4) hx hb hts in_X12_asClause_X4 hown hE.1 hP 5 rfl rfl 1 (by decide +kernel) (hts (.fieldLink RX12 360 "ClauseBook$Hand" "number" "I") (List.mem_of_getElem? (i := 4) rfl)) (fun _ h9 => h9) e5_1 dX12_asClause_98 ?_
                refine va_iald hx hb hE.1 hP 7 0 rfl rfl (by rw [vp_in_iff]; first | omega | (subst_vars; omega)) dX12_asClause_101 ?_
                refine lv_topi (fun z_28 ez_28 => ?_)
                exact W.iret hx hb hr (fun t ht hW => ⟨_, rfl, (Or.inr ⟨⟨⟨by decide, by decide⟩, by omega⟩, Or.inr (Or.inr (Or.inr (Or.inr ⟨(show (n2).toInt = 1 from by omega), (show 0 ≤ (m2).toInt ∧ (m2).toInt < n9.toInt from by omega), (show ¬ (¬ x2.toInt = 3 ∧ ¬ (nmT (f7 ((m2).toNatClampNeg)).toNatClampNeg).toInt = x2.toInt) from by omega), (congrArg Int32.toInt ez_28)⟩)))⟩), ht⟩) (fun _ h => by cases h) dX12_asClause_102
              · rw [fa_eq] at c_27
                try rw [ti_3] at c_27
                refine lv_aload_n hx hb dX12_asClause_69 rfl (lv_at hl 1 rfl) ?_
                refine va_get (D := D) (ci := 9) (v := .ref h2) (C := RX12) (T := TX12) (N := 11) hx hb hts in_X12_asClause_X12 hown hE.1 hP 0 rfl rfl 4 (by decide +kernel) (hts (.fieldLink RX12 32 "ClauseBook" "clauses" "LClauseBook$Clauses;") (List.mem_of_getElem? (i := 3) rfl)) (fun _ h9 => h9) e0_4 dX12_asClause_70 ?_
                refine lv_aload_n hx hb dX12_asClause_73 rfl (lv_at hl 0 rfl) ?_
                refine va_get (D := D) (ci := 3) (v := .int m2) (C := RX4) (T := TX4) (N := 4) hx hb hts in_X12_asClause_X4 hown hE.1 hP 5 rfl rfl 1 (by decide +kernel) (hts (.fieldLink RX12 360 "ClauseBook$Hand" "number" "I") (List.mem_of_getElem? (i := 4) rfl)) (fun _ h9 => h9) e5_1 dX12_asClause_74 ?_
                refine va_cse (W.runV (As := [.int m2]) (rest := []) ⟨hx, hb, hml, hown, hts⟩ (c_X2_kindOf l D T ad sa av ta h2 fs2 h7 f7 m2 e2_1 (by omega) ((hok _ (in24 (x := m2) (by omega)).1).1)) (cwV 1 hts gX12_asClause_X2_kindOf rfl rfl rfl hv_X2_kindOf ⟨Nat.le_of_ble_eq_true rfl, Nat.le_of_ble_eq_true rfl⟩) (pRk_V (q := (RX2, TX2, 8)) (ci := 1) (q0 := 2) hP hE hV hS rfl rfl [2, 7] rfl) rfl rfl hl.1 rfl (lv_room (Nat.le_of_ble_eq_true rfl)) dX12_asClause_77 ⟨Nat.le_of_ble_eq_true rfl, Nat.le_of_ble_eq_true rfl⟩) (fun r_29 hr_29 => ?_)
                subst hr_29
                refine W.eq (g2 := F0 m 80 ls [.ref (ad ((f7 (m2.toNatClampNeg)).toNatClampNeg))]) rfl ?_
                refine va_getE (i := ((f7 (m2.toNatClampNeg)).toNatClampNeg)) hx hb hV.1.1 (in13c ((hok _ (in24 (x := m2) (by omega)).1).1)) hS hown (q := kdQ "names" [0, 0, 1, 1, 1, 2, 2, 2, 1, 2, 1, 1, 2]) (List.mem_of_getElem? (i := 0) rfl) (hts (.fieldLink RX12 370 "ClauseBook$Kind" "names" "I") (List.mem_of_getElem? (i := 5) rfl)) (fun _ h9 => h9) dX12_asClause_80 ?_
                refine W.eq (g2 := F0 m 83 ls [.int (nmT ((f7 (m2.toNatClampNeg)).toNatClampNeg))]) rfl ?_
                refine lv_iload_n hx hb dX12_asClause_83 rfl (lv_at hl 3 rfl) ?_
                refine lv_icmp_eq (tgt := 90) hx hb dX12_asClause_84 (by decide +kernel) (fun c_30 => ?_) (fun c_30 => ?_)
                · rw [fa_eq] at c_30
                  refine lv_aload_n hx hb dX12_asClause_90 rfl (lv_at hl 1 rfl) ?_
                  refine va_get (D := D) (ci := 9) (v := .ref h2) (C := RX12) (T := TX12) (N := 11) hx hb hts in_X12_asClause_X12 hown hE.1 hP 0 rfl rfl 4 (by decide +kernel) (hts (.fieldLink RX12 32 "ClauseBook" "clauses" "LClauseBook$Clauses;") (List.mem_of_getElem? (i := 3) rfl)) (fun _ h9 => h9) e0_4 dX12_asClause_91 ?_
                  refine va_get (D := D) (ci := 1) (v := .ref h7) (C := RX2) (T := TX2) (N := 8) hx hb hts in_X12_asClause_X2 hown hE.1 hP 2 rfl rfl 1 (by decide +kernel) (hts (.fieldLink RX12 153 "ClauseBook$Clauses" "kind" "[I") (List.mem_of_getElem? (i := 6) rfl)) (fun _ h9 => h9) e2_1 dX12_asClause_94 ?_
                  refine lv_aload_n hx hb dX12_asClause_97 rfl (lv_at hl 0 rfl) ?_
                  refine va_get (D := D) (ci := 3) (v := .int m2) (C := RX4) (T := TX4) (N := 4) hx hb hts in_X12_asClause_X4 hown hE.1 hP 5 rfl rfl 1 (by decide +kernel) (hts (.fieldLink RX12 360 "ClauseBook$Hand" "number" "I") (List.mem_of_getElem? (i := 4) rfl)) (fun _ h9 => h9) e5_1 dX12_asClause_98 ?_
                  refine va_iald hx hb hE.1 hP 7 0 rfl rfl (by rw [vp_in_iff]; first | omega | (subst_vars; omega)) dX12_asClause_101 ?_
                  refine lv_topi (fun z_31 ez_31 => ?_)
                  exact W.iret hx hb hr (fun t ht hW => ⟨_, rfl, (Or.inr ⟨⟨⟨by decide, by decide⟩, by omega⟩, Or.inr (Or.inr (Or.inr (Or.inr ⟨(show (n2).toInt = 1 from by omega), (show 0 ≤ (m2).toInt ∧ (m2).toInt < n9.toInt from by omega), (show ¬ (¬ x2.toInt = 3 ∧ ¬ (nmT (f7 ((m2).toNatClampNeg)).toNatClampNeg).toInt = x2.toInt) from by omega), (congrArg Int32.toInt ez_31)⟩)))⟩), ht⟩) (fun _ h => by cases h) dX12_asClause_102
                · rw [fa_eq] at c_30
                  refine lv_bipush (v := (-13)) hx hb dX12_asClause_87 (by decide +kernel) ?_
                  exact W.iret hx hb hr (fun t ht hW => ⟨_, rfl, (Or.inr ⟨⟨⟨by decide, by decide⟩, by omega⟩, Or.inr (Or.inr (Or.inr (Or.inl ⟨(show (n2).toInt = 1 from by omega), (show 0 ≤ (m2).toInt ∧ (m2).toInt < n9.toInt from by omega), ⟨by omega, (show ¬ (nmT (f7 ((m2).toNatClampNeg)).toNatClampNeg).toInt = x2.toInt from by omega)⟩, (by decide +kernel)⟩)))⟩), ht⟩) (fun _ h => by cases h) dX12_asClause_89
            · refine lv_if_ne (tgt := 64) hx hb dX12_asClause_58 (by decide +kernel) (fun c9 => absurd c9 (by decide +kernel)) (fun _ => ?_)
              refine lv_bipush (v := (-11)) hx hb dX12_asClause_61 (by decide +kernel) ?_
              exact W.iret hx hb hr (fun t ht hW => ⟨_, rfl, (Or.inr ⟨⟨⟨by decide, by decide⟩, by omega⟩, Or.inr (Or.inr (Or.inl ⟨(show (n2).toInt = 1 from by omega), (show ¬ (0 ≤ (m2).toInt ∧ (m2).toInt < n9.toInt) from by omega), (by decide +kernel)⟩))⟩), ht⟩) (fun _ h => by cases h) dX12_asClause_63
          · rw [fa_eq] at c_24
            try rw [ti_1] at c_24
            refine lv_bipush (v := (-13)) hx hb dX12_asClause_44 (by decide +kernel) ?_
            exact W.iret hx hb hr (fun t ht hW => ⟨_, rfl, (Or.inr ⟨⟨⟨by decide, by decide⟩, by omega⟩, Or.inr (Or.inl ⟨(show ¬ (n2).toInt = 0 from by omega), (show ¬ (n2).toInt = 1 from by omega), (by decide +kernel)⟩)⟩), ht⟩) (fun _ h => by cases h) dX12_asClause_46
        · rw [fa_eq] at c_23
          try rw [ti_0] at c_23
          refine lv_bipush (v := (-11)) hx hb dX12_asClause_33 (by decide +kernel) ?_
          exact W.iret hx hb hr (fun t ht hW => ⟨_, rfl, (Or.inr ⟨⟨⟨by decide, by decide⟩, by omega⟩, Or.inl ⟨(show (n2).toInt = 0 from by omega), (by decide +kernel)⟩⟩), ht⟩) (fun _ h => by cases h) dX12_asClause_35
      · refine va_aldq hx hb hE.1 hP 1 7 rfl rfl (by unfold vp_in; decide) dX12_asClause_24 ?_
        refine W.eq (g2 := F0 m 25 ls [.ref h6]) (by rw [show (3 : Int32).toNatClampNeg = 3 from rfl, e1_3]; rfl) ?_
        refine lv_astore_n (lv' := [(3, .ref h6), (0, .ref h0), (1, .int 3), (2, .int x2)]) hx hb dX12_asClause_25 rfl hl (by decide +kernel) rfl (fun ls hl => ?_)
        refine lv_aload_n hx hb dX12_asClause_26 rfl (lv_at hl 0 rfl) ?_
        refine va_get (D := D) (ci := 3) (v := .int n3) (C := RX4) (T := TX4) (N := 4) hx hb hts in_X12_asClause_X4 hown hE.1 hP 6 rfl rfl 0 (by decide +kernel) (hts (.fieldLink RX12 359 "ClauseBook$Hand" "sort" "I") (List.mem_of_getElem? (i := 2) rfl)) (fun _ h9 => h9) e6_0 dX12_asClause_27 ?_
        refine lv_if_ne (tgt := 36) hx hb dX12_asClause_30 (by decide +kernel) (fun c_32 => ?_) (fun c_32 => ?_)
        · rw [fa_eq] at c_32
          try rw [ti_0] at c_32
          refine lv_aload_n hx hb dX12_asClause_36 rfl (lv_at hl 0 rfl) ?_
          refine va_get (D := D) (ci := 3) (v := .int n3) (C := RX4) (T := TX4) (N := 4) hx hb hts in_X12_asClause_X4 hown hE.1 hP 6 rfl rfl 0 (by decide +kernel) (hts (.fieldLink RX12 359 "ClauseBook$Hand" "sort" "I") (List.mem_of_getElem? (i := 2) rfl)) (fun _ h9 => h9) e6_0 dX12_asClause_37 ?_
          refine lv_iconst (v := 1) hx hb dX12_asClause_40 (by decide +kernel) ?_
          refine lv_icmp_eq (tgt := 47) hx hb dX12_asClause_41 (by decide +kernel) (fun c_33 => ?_) (fun c_33 => ?_)
          · rw [fa_eq] at c_33
            try rw [ti_1] at c_33
            refine lv_aload_n hx hb dX12_asClause_47 rfl (lv_at hl 1 rfl) ?_
            refine va_get (D := D) (ci := 9) (v := .ref h2) (C := RX12) (T := TX12) (N := 11) hx hb hts in_X12_asClause_X12 hown hE.1 hP 0 rfl rfl 4 (by decide +kernel) (hts (.fieldLink RX12 32 "ClauseBook" "clauses" "LClauseBook$Clauses;") (List.mem_of_getElem? (i := 3) rfl)) (fun _ h9 => h9) e0_4 dX12_asClause_48 ?_
            refine lv_aload_n hx hb dX12_asClause_51 rfl (lv_at hl 0 rfl) ?_
            refine va_get (D := D) (ci := 3) (v := .int m3) (C := RX4) (T := TX4) (N := 4) hx hb hts in_X12_asClause_X4 hown hE.1 hP 6 rfl rfl 1 (by decide +kernel) (hts (.fieldLink RX12 360 "ClauseBook$Hand" "number" "I") (List.mem_of_getElem? (i := 4) rfl)) (fun _ h9 => h9) e6_1 dX12_asClause_52 ?_
            refine vp_callSi (W.runV (As := [.int m3]) (rest := []) ⟨hx, hb, hml, hown, hts⟩ (c_X2_has l D T h2 fs2 m3 n9 e2_0 (by omega)) (cwV 1 hts gX12_asClause_X2_has rfl rfl rfl hv_X2_has ⟨Nat.le_of_ble_eq_true rfl, Nat.le_of_ble_eq_true rfl⟩) (pR_V (q := (RX2, TX2, 8)) (ci := 1) (q0 := 2) hP hE rfl rfl [2] rfl) rfl rfl hl.1 rfl (lv_room (Nat.le_of_ble_eq_true rfl)) dX12_asClause_55 ⟨Nat.le_of_ble_eq_true rfl, Nat.le_of_ble_eq_true rfl⟩) (fun r_34 hr_34 => ?_)
            rcases bool_post hr_34 with ⟨c_35, rfl⟩ | ⟨c_35, rfl⟩
            · refine lv_if_ne (tgt := 64) hx hb dX12_asClause_58 (by decide +kernel) (fun _ => ?_) (fun c9 => absurd c9 (by decide +kernel))
              refine lv_iload_n hx hb dX12_asClause_64 rfl (lv_at hl 3 rfl) ?_
              refine lv_iconst (v := 3) hx hb dX12_asClause_65 (by decide +kernel) ?_
              refine lv_icmp_eq (tgt := 90) hx hb dX12_asClause_66 (by decide +kernel) (fun c_36 => ?_) (fun c_36 => ?_)
              · rw [fa_eq] at c_36
                try rw [ti_3] at c_36
                refine lv_aload_n hx hb dX12_asClause_90 rfl (lv_at hl 1 rfl) ?_
                refine va_get (D := D) (ci := 9) (v := .ref h2) (C := RX12) (T := TX12) (N := 11) hx hb hts in_X12_asClause_X12 hown hE.1 hP 0 rfl rfl 4 (by decide +kernel) (hts (.fieldLink RX12 32 "ClauseBook" "clauses" "LClauseBook$Clauses;") (List.mem_of_getElem? (i := 3) rfl)) (fun _ h9 => h9) e0_4 dX12_asClause_91 ?_
                refine va_get (D := D) (ci := 1) (v := .ref h7) (C := RX2) (T := TX2) (N := 8) hx hb hts in_X12_asClause_X2 hown hE.1 hP 2 rfl rfl 1 (by decide +kernel) (hts (.fieldLink RX12 153 "ClauseBook$Clauses" "kind" "[I") (List.mem_of_getElem? (i := 6) rfl)) (fun _ h9 => h9) e2_1 dX12_asClause_94 ?_
                refine lv_aload_n hx hb dX12_asClause_97 rfl (lv_at hl 0 rfl) ?_
                refine va_get (D := D) (ci := 3) (v := .int m3) (C := RX4) (T := TX4) (N := 4) hx hb hts in_X12_asClause_X4 hown hE.1 hP 6 rfl rfl 1 (by decide +kernel) (hts (.fieldLink RX12 360 "ClauseBook$Hand" "number" "I") (List.mem_of_getElem? (i := 4) rfl)) (fun _ h9 => h9) e6_1 dX12_asClause_98 ?_
                refine va_iald hx hb hE.1 hP 7 0 rfl rfl (by rw [vp_in_iff]; first | omega | (subst_vars; omega)) dX12_asClause_101 ?_
                refine lv_topi (fun z_37 ez_37 => ?_)
                exact W.iret hx hb hr (fun t ht hW => ⟨_, rfl, (Or.inr ⟨⟨⟨by decide, by decide⟩, by omega⟩, Or.inr (Or.inr (Or.inr (Or.inr ⟨(show (n3).toInt = 1 from by omega), (show 0 ≤ (m3).toInt ∧ (m3).toInt < n9.toInt from by omega), (show ¬ (¬ x2.toInt = 3 ∧ ¬ (nmT (f7 ((m3).toNatClampNeg)).toNatClampNeg).toInt = x2.toInt) from by omega), (congrArg Int32.toInt ez_37)⟩)))⟩), ht⟩) (fun _ h => by cases h) dX12_asClause_102
              · rw [fa_eq] at c_36
                try rw [ti_3] at c_36
                refine lv_aload_n hx hb dX12_asClause_69 rfl (lv_at hl 1 rfl) ?_
                refine va_get (D := D) (ci := 9) (v := .ref h2) (C := RX12) (T := TX12) (N := 11) hx hb hts in_X12_asClause_X12 hown hE.1 hP 0 rfl rfl 4 (by decide +kernel) (hts (.fieldLink RX12 32 "ClauseBook" "clauses" "LClauseBook$Clauses;") (List.mem_of_getElem? (i := 3) rfl)) (fun _ h9 => h9) e0_4 dX12_asClause_70 ?_
                refine lv_aload_n hx hb dX12_asClause_73 rfl (lv_at hl 0 rfl) ?_
                refine va_get (D := D) (ci := 3) (v := .int m3) (C := RX4) (T := TX4) (N := 4) hx hb hts in_X12_asClause_X4 hown hE.1 hP 6 rfl rfl 1 (by decide +kernel) (hts (.fieldLink RX12 360 "ClauseBook$Hand" "number" "I") (List.mem_of_getElem? (i := 4) rfl)) (fun _ h9 => h9) e6_1 dX12_asClause_74 ?_
                refine va_cse (W.runV (As := [.int m3]) (rest := []) ⟨hx, hb, hml, hown, hts⟩ (c_X2_kindOf l D T ad sa av ta h2 fs2 h7 f7 m3 e2_1 (by omega) ((hok _ (in24 (x := m3) (by omega)).1).1)) (cwV 1 hts gX12_asClause_X2_kindOf rfl rfl rfl hv_X2_kindOf ⟨Nat.le_of_ble_eq_true rfl, Nat.le_of_ble_eq_true rfl⟩) (pRk_V (q := (RX2, TX2, 8)) (ci := 1) (q0 := 2) hP hE hV hS rfl rfl [2, 7] rfl) rfl rfl hl.1 rfl (lv_room (Nat.le_of_ble_eq_true rfl)) dX12_asClause_77 ⟨Nat.le_of_ble_eq_true rfl, Nat.le_of_ble_eq_true rfl⟩) (fun r_38 hr_38 => ?_)
                subst hr_38
                refine W.eq (g2 := F0 m 80 ls [.ref (ad ((f7 (m3.toNatClampNeg)).toNatClampNeg))]) rfl ?_
                refine va_getE (i := ((f7 (m3.toNatClampNeg)).toNatClampNeg)) hx hb hV.1.1 (in13c ((hok _ (in24 (x := m3) (by omega)).1).1)) hS hown (q := kdQ "names" [0, 0, 1, 1, 1, 2, 2, 2, 1, 2, 1, 1, 2]) (List.mem_of_getElem? (i := 0) rfl) (hts (.fieldLink RX12 370 "ClauseBook$Kind" "names" "I") (List.mem_of_getElem? (i := 5) rfl)) (fun _ h9 => h9) dX12_asClause_80 ?_
                refine W.eq (g2 := F0 m 83 ls [.int (nmT ((f7 (m3.toNatClampNeg)).toNatClampNeg))]) rfl ?_
                refine lv_iload_n hx hb dX12_asClause_83 rfl (lv_at hl 3 rfl) ?_
                refine lv_icmp_eq (tgt := 90) hx hb dX12_asClause_84 (by decide +kernel) (fun c_39 => ?_) (fun c_39 => ?_)
                · rw [fa_eq] at c_39
                  refine lv_aload_n hx hb dX12_asClause_90 rfl (lv_at hl 1 rfl) ?_
                  refine va_get (D := D) (ci := 9) (v := .ref h2) (C := RX12) (T := TX12) (N := 11) hx hb hts in_X12_asClause_X12 hown hE.1 hP 0 rfl rfl 4 (by decide +kernel) (hts (.fieldLink RX12 32 "ClauseBook" "clauses" "LClauseBook$Clauses;") (List.mem_of_getElem? (i := 3) rfl)) (fun _ h9 => h9) e0_4 dX12_asClause_91 ?_
                  refine va_get (D := D) (ci := 1) (v := .ref h7) (C := RX2) (T := TX2) (N := 8) hx hb hts in_X12_asClause_X2 hown hE.1 hP 2 rfl rfl 1 (by decide +kernel) (hts (.fieldLink RX12 153 "ClauseBook$Clauses" "kind" "[I") (List.mem_of_getElem? (i := 6) rfl)) (fun _ h9 => h9) e2_1 dX12_asClause_94 ?_
                  refine lv_aload_n hx hb dX12_asClause_97 rfl (lv_at hl 0 rfl) ?_
                  refine va_get (D := D) (ci := 3) (v := .int m3) (C := RX4) (T := TX4) (N := 4) hx hb hts in_X12_asClause_X4 hown hE.1 hP 6 rfl rfl 1 (by decide +kernel) (hts (.fieldLink RX12 360 "ClauseBook$Hand" "number" "I") (List.mem_of_getElem? (i := 4) rfl)) (fun _ h9 => h9) e6_1 dX12_asClause_98 ?_
                  refine va_iald hx hb hE.1 hP 7 0 rfl rfl (by rw [vp_in_iff]; first | omega | (subst_vars; omega)) dX12_asClause_101 ?_
                  refine lv_topi (fun z_40 ez_40 => ?_)
                  exact W.iret hx hb hr (fun t ht hW => ⟨_, rfl, (Or.inr ⟨⟨⟨by decide, by decide⟩, by omega⟩, Or.inr (Or.inr (Or.inr (Or.inr ⟨(show (n3).toInt = 1 from by omega), (show 0 ≤ (m3).toInt ∧ (m3).toInt < n9.toInt from by omega), (show ¬ (¬ x2.toInt = 3 ∧ ¬ (nmT (f7 ((m3).toNatClampNeg)).toNatClampNeg).toInt = x2.toInt) from by omega), (congrArg Int32.toInt ez_40)⟩)))⟩), ht⟩) (fun _ h => by cases h) dX12_asClause_102
                · rw [fa_eq] at c_39
                  refine lv_bipush (v := (-13)) hx hb dX12_asClause_87 (by decide +kernel) ?_
                  exact W.iret hx hb hr (fun t ht hW => ⟨_, rfl, (Or.inr ⟨⟨⟨by decide, by decide⟩, by omega⟩, Or.inr (Or.inr (Or.inr (Or.inl ⟨(show (n3).toInt = 1 from by omega), (show 0 ≤ (m3).toInt ∧ (m3).toInt < n9.toInt from by omega), ⟨by omega, (show ¬ (nmT (f7 ((m3).toNatClampNeg)).toNatClampNeg).toInt = x2.toInt from by omega)⟩, (by decide +kernel)⟩)))⟩), ht⟩) (fun _ h => by cases h) dX12_asClause_89
            · refine lv_if_ne (tgt := 64) hx hb dX12_asClause_58 (by decide +kernel) (fun c9 => absurd c9 (by decide +kernel)) (fun _ => ?_)
              refine lv_bipush (v := (-11)) hx hb dX12_asClause_61 (by decide +kernel) ?_
              exact W.iret hx hb hr (fun t ht hW => ⟨_, rfl, (Or.inr ⟨⟨⟨by decide, by decide⟩, by omega⟩, Or.inr (Or.inr (Or.inl ⟨(show (n3).toInt = 1 from by omega), (show ¬ (0 ≤ (m3).toInt ∧ (m3).toInt < n9.toInt) from by omega), (by decide +kernel)⟩))⟩), ht⟩) (fun _ h => by cases h) dX12_asClause_63
          · rw [fa_eq] at c_33
            try rw [ti_1] at c_33
            refine lv_bipush (v := (-13)) hx hb dX12_asClause_44 (by decide +kernel) ?_
            exact W.iret hx hb hr (fun t ht hW => ⟨_, rfl, (Or.inr ⟨⟨⟨by decide, by decide⟩, by omega⟩, Or.inr (Or.inl ⟨(show ¬ (n3).toInt = 0 from by omega), (show ¬ (n3).toInt = 1 from by omega), (by decide +kernel)⟩)⟩), ht⟩) (fun _ h => by cases h) dX12_asClause_46
        · rw [fa_eq] at c_32
          try rw [ti_0] at c_32
          refine lv_bipush (v := (-11)) hx hb dX12_asClause_33 (by decide +kernel) ?_
          exact W.iret hx hb hr (fun t ht hW => ⟨_, rfl, (Or.inr ⟨⟨⟨by decide, by decide⟩, by omega⟩, Or.inl ⟨(show (n3).toInt = 0 from by omega), (by decide +kernel)⟩⟩), ht⟩) (fun _ h => by cases h) dX12_asClause_35
    · refine lv_if_ne (tgt := 19) hx hb dX12_asClause_13 (by decide +kernel) (fun c9 => absurd c9 (by decide +kernel)) (fun _ => ?_)
      refine lv_bipush (v := (-2)) hx hb dX12_asClause_16 (by decide +kernel) ?_
      exact W.iret hx hb hr (fun t ht hW => ⟨_, rfl, (Or.inl ⟨(by omega), (by decide +kernel)⟩), ht⟩) (fun _ h => by cases h) dX12_asClause_18
  · refine lv_if_eq (tgt := 16) hx hb dX12_asClause_4 (by decide +kernel) (fun _ => ?_) (fun c9 => absurd c9 (by decide +kernel))
    refine lv_bipush (v := (-2)) hx hb dX12_asClause_16 (by decide +kernel) ?_
    exact W.iret hx hb hr (fun t ht hW => ⟨_, rfl, (Or.inl ⟨(by omega), (by decide +kernel)⟩), ht⟩) (fun _ h => by cases h) dX12_asClause_18
