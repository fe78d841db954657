theorem dX13_passesRow_0 : decode cX13_passesRow 0 = .ok (.iconst 0, 1) := by decide +kernel
theorem dX13_passesRow_1 : decode cX13_passesRow 1 = .ok (.istore_n 2, 1) := by decide +kernel
theorem dX13_passesRow_10 : decode cX13_passesRow 10 = .ok (.aload_n 0, 1) := by decide +kernel
theorem dX13_passesRow_11 : decode cX13_passesRow 11 = .ok (.aload_n 1, 1) := by decide +kernel
theorem dX13_passesRow_12 : decode cX13_passesRow 12 = .ok (.iload_n 2, 1) := by decide +kernel
theorem dX13_passesRow_13 : decode cX13_passesRow 13 = .ok (.iaload, 1) := by decide +kernel
theorem dX13_passesRow_14 : decode cX13_passesRow 14 = .ok (.invokevirtual 429, 3) := by decide +kernel
theorem dX13_passesRow_17 : decode cX13_passesRow 17 = .ok (.iastore, 1) := by decide +kernel
theorem dX13_passesRow_18 : decode cX13_passesRow 18 = .ok (.iinc 2 1, 3) := by decide +kernel
theorem dX13_passesRow_2 : decode cX13_passesRow 2 = .ok (.iload_n 2, 1) := by decide +kernel
theorem dX13_passesRow_21 : decode cX13_passesRow 21 = .ok (.goto (-19), 3) := by decide +kernel
theorem dX13_passesRow_24 : decode cX13_passesRow 24 = .ok (.return_, 1) := by decide +kernel
theorem dX13_passesRow_3 : decode cX13_passesRow 3 = .ok (.aload_n 1, 1) := by decide +kernel
theorem dX13_passesRow_4 : decode cX13_passesRow 4 = .ok (.arraylength, 1) := by decide +kernel
theorem dX13_passesRow_5 : decode cX13_passesRow 5 = .ok (.if_icmp .ge 19, 3) := by decide +kernel
theorem dX13_passesRow_8 : decode cX13_passesRow 8 = .ok (.aload_n 1, 1) := by decide +kernel
theorem dX13_passesRow_9 : decode cX13_passesRow 9 = .ok (.iload_n 2, 1) := by decide +kernel
set_option maxRecDepth 20000 in
theorem ggX13_passesRow_X13_passes : GoodIn wsX13_passesRow wsX13_passes := goodIn_r _ [5, 6, 7, 8, 9, 10, 11, 12, 13, 14, 15, 16, 17, 18, 19, 20, 21, 22, 23, 24, 25, 26, 27, 28, 29, 30, 31, 32, 33, 34, 35, 36, 37, 38, 39, 40, 41, 42, 43, 44, 45, 46, 47, 48, 49, 50, 51, 52, 53] (by decide +kernel) (by decide +kernel)
set_option maxRecDepth 20000 in
theorem gX13_passesRow_X13_passes : GoodIn wsX13_passesRow (wsV RX13 429 RX13 yX13_passes wsX13_passes) := goodIn_app (goodIn_of _ (by decide +kernel)) ggX13_passesRow_X13_passes
set_option maxHeartbeats 4000000 in
set_option maxRecDepth 100000 in
theorem f_X13_passesRow_24 (l : Launch) (D : va_G) (T : Nat → ClassId) (sz : Nat) (h0 : Nat) (fs0 : List Value) (w0 : Value) (w1 : Value) (w2 : Value) (w3 : Value) (w4 : Value) (w5 : Value) (w6 : Value) (w7 : Value) (w8 : Value) (w9 : Value) (w10 : Value) (w11 : Value) (w12 : Value) (w13 : Value) (a0 : Nat) (fk : Nat → Int32) (o1 : Nat) (fo : Nat → Int32) (pn : Int32) (pn2 : Int32) (hl0 : fs0.length = 45) (e0_0 : fs0[0]? = some w0) (e0_1 : fs0[1]? = some w1) (e0_2 : fs0[2]? = some w2) (e0_3 : fs0[3]? = some w3) (e0_4 : fs0[4]? = some w4) (e0_5 : fs0[5]? = some w5) (e0_6 : fs0[6]? = some w6) (e0_7 : fs0[7]? = some w7) (e0_8 : fs0[8]? = some w8) (e0_9 : fs0[9]? = some w9) (e0_10 : fs0[10]? = some w10) (e0_11 : fs0[11]? = some w11) (e0_12 : fs0[12]? = some w12) (e0_13 : fs0[13]? = some w13) (e0_42 : fs0[42]? = some (.ref a0)) (e0_43 : fs0[43]? = some (.int pn)) (e0_44 : fs0[44]? = some (.int 1)) (hpn : 0 ≤ pn.toInt ∧ pn.toInt + 24 = pn2.toInt ∧ pn2.toInt ≤ 143) : Met l yX13_passesRow wsX13_passesRow ({ frames := 1, cells := 0, slots := 0, locals := 22 }) (pW [.ref h0, .ref o1] D T [(h0, .inr (10, fs0)), (a0, .inl (T 0, 143, .inl fk)), (o1, .inl (T 0, 24, .inl fo))] sz) (va_Qv (fun (u : List Value × (Nat → Int32)) => u.1.length = 45 ∧ u.1[0]? = some (w0) ∧ u.1[1]? = some (w1) ∧ u.1[2]? = some (w2) ∧ u.1[3]? = some (w3) ∧ u.1[4]? = some (w4) ∧ u.1[5]? = some (w5) ∧ u.1[6]? = some (w6) ∧ u.1[7]? = some (w7) ∧ u.1[8]? = some (w8) ∧ u.1[9]? = some (w9) ∧ u.1[10]? = some (w10) ∧ u.1[11]? = some (w11) ∧ u.1[12]? = some (w12) ∧ u.1[13]? = some (w13) ∧ u.1[42]? = some (.ref a0) ∧ u.1[43]? = some (.int pn2) ∧ u.1[44]? = some (.int 1)) (bW D (va_A [(h0, .inr (10, fs0)), (a0, .inl (T 0, 143, .inl fk)), (o1, .inl (T 0, 24, .inl fo))] sz) (fun (u : List Value × (Nat → Int32)) => [(h0, .inr (10, u.1)), (a0, .inl (T 0, 143, .inl u.2))])) (va_A [(h0, .inr (10, fs0)), (a0, .inl (T 0, 143, .inl fk)), (o1, .inl (T 0, 24, .inl fo))] sz)) 0 0 (va_A [(h0, .inr (10, fs0)), (a0, .inl (T 0, 143, .inl fk)), (o1, .inl (T 0, 24, .inl fo))] sz) := by
  refine Met.ofW (cc := cX13_passesRow) (maxL := 3) (ret := none) (by decide) rfl ?_
  intro p e s m args below meth c s₁ B hml hv
  obtain ⟨rfl, hsz, hP, hE, hD0⟩ := hv
  have hx := B.exec
  have hb := B.bytes
  have hr := B.returns
  have hts := atoms_spec (ws := wsX13_passesRow) B.pre
  have hown : s.vm.findClass RX13 = some m.cls := findClass_of_methodNamed B.named
  have hlocks := B.notSynchronized
  subst hsz
  have hD := hD0.self (sz := s.heap.size)
  generalize hAe : va_A [(h0, .inr (10, fs0)), (a0, .inl (T 0, 143, .inl fk)), (o1, .inl (T 0, 24, .inl fo))] s.heap.size = A at hD ⊢
  have hA : ∀ q : Nat, s.heap.size ≤ q → A q := fun q h => by rw [← hAe]; exact Or.inr h
  have hS : va_S A s.heap s.heap [] := va_S.rf
  have hP : va_P D vwCl [(h0, .inr (10, fs0)), (a0, .inl (T 0, 143, .inl fk)), (o1, .inl (T 0, 24, .inl fo))] s.heap := hP
  have hl := lv_entry ([.ref h0, .ref o1]) (n := 3) (Nat.le_of_ble_eq_true rfl)
  rw [lg_entry_eq]
  generalize (lg_sl ([.ref h0, .ref o1]) ++ List.replicate (3 - (lg_sl ([.ref h0, .ref o1])).length) Slot.unset).toArray = ls at hl ⊢
  have hl : lv_has ls 3 [(0, .ref h0), (1, .ref o1)] := hl
  clear hD0
  refine lv_iconst (v := 0) hx hb dX13_passesRow_0 (by decide) ?_
  refine lv_istore_n (lv' := [(2, .int 0), (0, .ref h0), (1, .ref o1)]) hx hb dX13_passesRow_1 rfl hl (by decide) rfl (fun ls hl => ?_)
  refine loopW (σ := (Int32) × (Int32) × (List Value) × (Nat → Int32) × (Nat → Int32)) (fun x9 ls H locs => lv_has ls 3 [(2, .int x9.1), (0, .ref h0), (1, .ref o1)] ∧ va_P D vwCl [(h0, .inr (10, x9.2.2.1)), (a0, .inl (T 0, 143, .inl x9.2.2.2.1)), (o1, .inl (T 0, 24, .inl x9.2.2.2.2))] H ∧ va_D A [(h0, .inr (10, x9.2.2.1)), (a0, .inl (T 0, 143, .inl x9.2.2.2.1)), (o1, .inl (T 0, 24, .inl x9.2.2.2.2))] ∧ va_S A s.heap H locs ∧ ((0 ≤ x9.1.toInt ∧ x9.1.toInt ≤ 24 ∧ x9.2.1.toInt = pn.toInt + x9.1.toInt) ∧ x9.2.2.1.length = 45 ∧ x9.2.2.1[0]? = some (w0) ∧ x9.2.2.1[1]? = some (w1) ∧ x9.2.2.1[2]? = some (w2) ∧ x9.2.2.1[3]? = some (w3) ∧ x9.2.2.1[4]? = some (w4) ∧ x9.2.2.1[5]? = some (w5) ∧ x9.2.2.1[6]? = some (w6) ∧ x9.2.2.1[7]? = some (w7) ∧ x9.2.2.1[8]? = some (w8) ∧ x9.2.2.1[9]? = some (w9) ∧ x9.2.2.1[10]? = some (w10) ∧ x9.2.2.1[11]? = some (w11) ∧ x9.2.2.1[12]? = some (w12) ∧ x9.2.2.1[13]? = some (w13) ∧ x9.2.2.1[42]? = some (.ref a0) ∧ x9.2.2.1[43]? = some (.int x9.2.1) ∧ x9.2.2.1[44]? = some (.int 1))) (fun x9 => (24 - x9.1.toInt).toNat) (fun x9 ls H locs hI ih => ?_) (0, pn, fs0, fk, fo) ls ⟨lv_sub hl [0, 1, 2] rfl, hP.sub [0, 1, 2] rfl, hD.sub [0, 1, 2] (by decide) rfl, hS, ⟨(by (try dsimp only); rw [ti_0]; omega), hl0, e0_0, e0_1, e0_2, e0_3, e0_4, e0_5, e0_6, e0_7, e0_8, e0_9, e0_10, e0_11, e0_12, e0_13, e0_42, e0_43, e0_44⟩⟩
  obtain ⟨ii, pi, gs, fk9, fo9⟩ := x9
  obtain ⟨hl, hP, hD, hS, hinv⟩ := hI
  have hl : lv_has ls 3 [(2, .int ii), (0, .ref h0), (1, .ref o1)] := hl
  have hP : va_P D vwCl [(h0, .inr (10, gs)), (a0, .inl (T 0, 143, .inl fk9)), (o1, .inl (T 0, 24, .inl fo9))] H := hP
  have hD : va_D A [(h0, .inr (10, gs)), (a0, .inl (T 0, 143, .inl fk9)), (o1, .inl (T 0, 24, .inl fo9))] := hD
  have hinv : (0 ≤ ii.toInt ∧ ii.toInt ≤ 24 ∧ pi.toInt = pn.toInt + ii.toInt) ∧ gs.length = 45 ∧ gs[0]? = some (w0) ∧ gs[1]? = some (w1) ∧ gs[2]? = some (w2) ∧ gs[3]? = some (w3) ∧ gs[4]? = some (w4) ∧ gs[5]? = some (w5) ∧ gs[6]? = some (w6) ∧ gs[7]? = some (w7) ∧ gs[8]? = some (w8) ∧ gs[9]? = some (w9) ∧ gs[10]? = some (w10) ∧ gs[11]? = some (w11) ∧ gs[12]? = some (w12) ∧ gs[13]? = some (w13) ∧ gs[42]? = some (.ref a0) ∧ gs[43]? = some (.int pi) ∧ gs[44]? = some (.int 1) := hinv
  obtain ⟨hii, lgs, ki_0, ki_1, ki_2, ki_3, ki_4, ki_5, ki_6, ki_7, ki_8, ki_9, ki_10, ki_11, ki_12, ki_13, ki_42, ki_43, ki_44⟩ := hinv
  refine lv_iload_n hx hb dX13_passesRow_2 rfl (lv_at hl 0 rfl) ?_
  refine lv_aload_n hx hb dX13_passesRow_3 rfl (lv_at hl 2 rfl) ?_
  refine va_alen (v := 24) hx hb hE.1 hP 2 0 rfl rfl rfl dX13_passesRow_4 ?_
  refine lv_icmp_ge (tgt := 24) hx hb dX13_passesRow_5 (by decide) (fun c_1 => ?_) (fun c_1 => ?_)
  · rw [fa_le] at c_1
    try rw [ti_24] at c_1
    obtain rfl : pi = pn2 := (fa_eq _ _).2 (by omega)
    exact W.vret hx hb hr (fun t ht hW => ⟨⟨(gs, fk9), rfl, ⟨lgs, ki_0, ki_1, ki_2, ki_3, ki_4, ki_5, ki_6, ki_7, ki_8, ki_9, ki_10, ki_11, ki_12, ki_13, ki_42, ki_43, ki_44⟩, by rw [ht]; exact hP.sub [0, 1] rfl, hD.sub [0, 1] (by decide) rfl⟩, hS.F ht⟩) hS.2.2 dX13_passesRow_24
  · rw [fa_le] at c_1
    try rw [ti_24] at c_1
    refine lv_aload_n hx hb dX13_passesRow_8 rfl (lv_at hl 2 rfl) ?_
    refine lv_iload_n hx hb dX13_passesRow_9 rfl (lv_at hl 0 rfl) ?_
    refine lv_aload_n hx hb dX13_passesRow_10 rfl (lv_at hl 1 rfl) ?_
    refine lv_aload_n hx hb dX13_passesRow_11 rfl (lv_at hl 2 rfl) ?_
    refine lv_iload_n hx hb dX13_passesRow_12 rfl (lv_at hl 0 rfl) ?_
    refine va_iald hx hb hE.1 hP 2 0 rfl rfl (by rw [vp_in_iff]; omega) dX13_passesRow_13 ?_
    refine lv_topi (fun z_2 ez_2 => ?_)
    have hFc := va_free (wc := [(h0, .inr (10, gs)), (a0, .inl (T 0, 143, .inl fk9))]) hD hS hA [0, 1] rfl
    refine va_calli (va_runV (As := [.int z_2]) (rest := [.int ii, .ref o1]) ⟨hx, hb, hml, hown, hts⟩ (f_X13_passes l D T _ h0 gs (w0) (w1) (w2) (w3) (w4) (w5) (w6) (w7) (w8) (w9) (w10) (w11) (w12) (w13) a0 fk9 pi (pi + 1) z_2 lgs ki_0 ki_1 ki_2 ki_3 ki_4 ki_5 ki_6 ki_7 ki_8 ki_9 ki_10 ki_11 ki_12 ki_13 ki_42 ki_43 ki_44 (by rw [vp_in_iff]; omega) rfl) (cwV 1 hts gX13_passesRow_X13_passes rfl rfl rfl (by decide +kernel) ⟨Nat.le_of_ble_eq_true rfl, Nat.le_of_ble_eq_true rfl⟩) (pW_V (ci := 10) (q0 := 0) hP hE hD rfl rfl [0, 1] (by decide) rfl rfl) rfl rfl hl.1 rfl (lv_room (Nat.le_of_ble_eq_true rfl)) dX13_passesRow_14 ⟨Nat.le_of_ble_eq_true rfl, Nat.le_of_ble_eq_true rfl⟩) hS (fun q _ h => hFc q h) hFc (fun r_3 u_4 t H1 locs ht hvm hr_3 hB hz1 hk1 hS => ?_)
    obtain ⟨g_5, f_6⟩ := u_4
    obtain ⟨hxg_5, lg_5, kg_5_0, kg_5_1, kg_5_2, kg_5_3, kg_5_4, kg_5_5, kg_5_6, kg_5_7, kg_5_8, kg_5_9, kg_5_10, kg_5_11, kg_5_12, kg_5_13, kg_5_42, kg_5_43, kg_5_44⟩ := hr_3
    obtain ⟨hP1, hD1⟩ := hB
    rw [ht] at hP1
    obtain ⟨hP, hD⟩ := va_join (wr := [(o1, .inl (T 0, 24, .inl fo9))]) (w1 := [(h0, .inr (10, g_5)), (a0, .inl (T 0, 143, .inl f_6))]) hP hD [0, 1] [2] rfl rfl (by decide) (by decide) hk1 hFc hP1 hD1
    clear hP1 hD1 hFc
    generalize H1 = H at hP hS ⊢
    have hP : va_P D vwCl [(o1, .inl (T 0, 24, .inl fo9)), (h0, .inr (10, g_5)), (a0, .inl (T 0, 143, .inl f_6))] H := hP
    have hD : va_D A [(o1, .inl (T 0, 24, .inl fo9)), (h0, .inr (10, g_5)), (a0, .inl (T 0, 143, .inl f_6))] := hD
    obtain rfl : z_2 = r_3 := (hxg_5).symm
    refine va_iast hx hb hE.1 hP hD hS 0 0 rfl rfl (by rw [vp_in_iff]; omega) dX13_passesRow_17 (fun H locs hP hD hS => ?_)
    have hP : va_P D vwCl [(o1, .inl (T 0, 24, .inl (upd fo9 (ii.toNatClampNeg) z_2))), (h0, .inr (10, g_5)), (a0, .inl (T 0, 143, .inl f_6))] H := hP
    have hD : va_D A [(o1, .inl (T 0, 24, .inl (upd fo9 (ii.toNatClampNeg) z_2))), (h0, .inr (10, g_5)), (a0, .inl (T 0, 143, .inl f_6))] := hD
    obtain ⟨z_7, ez_7⟩ : ∃ y : Int32, y = ii + 1 := ⟨_, rfl⟩
    refine lv_iinc (v := z_7) (lv' := [(2, .int z_7), (0, .ref h0), (1, .ref o1)]) hx hb dX13_passesRow_18 hl (k := 0) rfl (by rw [ez_7]; rfl) (by decide) rfl (fun ls hl => ?_)
    refine lv_goto (tgt := 2) hx hb dX13_passesRow_21 (by decide) ?_
    exact ih (z_7, (pi + 1), g_5, f_6, (upd fo9 (ii.toNatClampNeg) z_2)) ls _ _ ⟨lv_sub hl [0, 1, 2] rfl, hP.sub [1, 2, 0] rfl, hD.sub [1, 2, 0] (by decide) rfl, hS, ⟨(by subst_vars; (try dsimp only); rw [inc1 (n := 24) (by omega) (by decide), inc1 (n := 143) (by omega) (by decide)]; omega), lg_5, kg_5_0, kg_5_1, kg_5_2, kg_5_3, kg_5_4, kg_5_5, kg_5_6, kg_5_7, kg_5_8, kg_5_9, kg_5_10, kg_5_11, kg_5_12, kg_5_13, kg_5_42, kg_5_43, kg_5_44⟩⟩ (by subst_vars; (try dsimp only); rw [inc1 (n := 24) (by omega) (by decide)]; omega)
set_option maxHeartbeats 4000000 in
set_option maxRecDepth 100000 in
theorem f_X13_passesRow_36 (l : Launch) (D : va_G) (T : Nat → ClassId) (sz : Nat) (h0 : Nat) (fs0 : List Value) (w0 : Value) (w1 : Value) (w2 : Value) (w3 : Value) (w4 : Value) (w5 : Value) (w6 : Value) (w7 : Value) (w8 : Value) (w9 : Value) (w10 : Value) (w11 : Value) (w12 : Value) (w13 : Value) (a0 : Nat) (fk : Nat → Int32) (o1 : Nat) (fo : Nat → Int32) (pn : Int32) (pn2 : Int32) (hl0 : fs0.length = 45) (e0_0 : fs0[0]? = some w0) (e0_1 : fs0[1]? = some w1) (e0_2 : fs0[2]? = some w2) (e0_3 : fs0[3]? = some w3) (e0_4 : fs0[4]? = some w4) (e0_5 : fs0[5]? = some w5) (e0_6 : fs0[6]? = some w6) (e0_7 : fs0[7]? = some w7) (e0_8 : fs0[8]? = some w8) (e0_9 : fs0[9]? = some w9) (e0_10 : fs0[10]? = some w10) (e0_11 : fs0[11]? = some w11) (e0_12 : fs0[12]? = some w12) (e0_13 : fs0[13]? = some w13) (e0_42 : fs0[42]? = some (.ref a0)) (e0_43 : fs0[43]? = some (.int pn)) (e0_44 : fs0[44]? = some (.int 1)) (hpn : 0 ≤ pn.toInt ∧ pn.toInt + 36 = pn2.toInt ∧ pn2.toInt ≤ 143) : Met l yX13_passesRow wsX13_passesRow ({ frames := 1, cells := 0, slots := 0, locals := 22 }) (pW [.ref h0, .ref o1] D T [(h0, .inr (10, fs0)), (a0, .inl (T 0, 143, .inl fk)), (o1, .inl (T 0, 36, .inl fo))] sz) (va_Qv (fun (u : List Value × (Nat → Int32)) => u.1.length = 45 ∧ u.1[0]? = some (w0) ∧ u.1[1]? = some (w1) ∧ u.1[2]? = some (w2) ∧ u.1[3]? = some (w3) ∧ u.1[4]? = some (w4) ∧ u.1[5]? = some (w5) ∧ u.1[6]? = some (w6) ∧ u.1[7]? = some (w7) ∧ u.1[8]? = some (w8) ∧ u.1[9]? = some (w9) ∧ u.1[10]? = some (w10) ∧ u.1[11]? = some (w11) ∧ u.1[12]? = some (w12) ∧ u.1[13]? = some (w13) ∧ u.1[42]? = some (.ref a0) ∧ u.1[43]? = some (.int pn2) ∧ u.1[44]? = some (.int 1)) (bW D (va_A [(h0, .inr (10, fs0)), (a0, .inl (T 0, 143, .inl fk)), (o1, .inl (T 0, 36, .inl fo))] sz) (fun (u : List Value × (Nat → Int32)) => [(h0, .inr (10, u.1)), (a0, .inl (T 0, 143, .inl u.2))])) (va_A [(h0, .inr (10, fs0)), (a0, .inl (T 0, 143, .inl fk)), (o1, .inl (T 0, 36, .inl fo))] sz)) 0 0 (va_A [(h0, .inr (10, fs0)), (a0, .inl (T 0, 143, .inl fk)), (o1, .inl (T 0, 36, .inl fo))] sz) := by
  refine Met.ofW (cc := cX13_passesRow) (maxL := 3) (ret := none) (by decide) rfl ?_
  intro p e s m args below meth c s₁ B hml hv
  obtain ⟨rfl, hsz, hP, hE, hD0⟩ := hv
  have hx := B.exec
  have hb := B.bytes
  have hr := B.returns
  have hts := atoms_spec (ws := wsX13_passesRow) B.pre
  have hown : s.vm.findClass RX13 = some m.cls := findClass_of_methodNamed B.named
  have hlocks := B.notSynchronized
  subst hsz
  have hD := hD0.self (sz := s.heap.size)
  generalize hAe : va_A [(h0, .inr (10, fs0)), (a0, .inl (T 0, 143, .inl fk)), (o1, .inl (T 0, 36, .inl fo))] s.heap.size = A at hD ⊢
  have hA : ∀ q : Nat, s.heap.size ≤ q → A q := fun q h => by rw [← hAe]; exact Or.inr h
  have hS : va_S A s.heap s.heap [] := va_S.rf
  have hP : va_P D vwCl [(h0, .inr (10, fs0)), (a0, .inl (T 0, 143, .inl fk)), (o1, .inl (T 0, 36, .inl fo))] s.heap := hP
  have hl := lv_entry ([.ref h0, .ref o1]) (n := 3) (Nat.le_of_ble_eq_true rfl)
  rw [lg_entry_eq]
  generalize (lg_sl ([.ref h0, .ref o1]) ++ List.replicate (3 - (lg_sl ([.ref h0, .ref o1])).length) Slot.unset).toArray = ls at hl ⊢
  have hl : lv_has ls 3 [(0, .ref h0), (1, .ref o1)] := hl
  clear hD0
  refine lv_iconst (v := 0) hx hb dX13_passesRow_0 (by decide) ?_
  refine lv_istore_n (lv' := [(2, .int 0), (0, .ref h0), (1, .ref o1)]) hx hb dX13_passesRow_1 rfl hl (by decide) rfl (fun ls hl => ?_)
  refine loopW (σ := (Int32) × (Int32) × (List Value) × (Nat → Int32) × (Nat → Int32)) (fun x9 ls H locs => lv_has ls 3 [(2, .int x9.1), (0, .ref h0), (1, .ref o1)] ∧ va_P D vwCl [(h0, .inr (10, x9.2.2.1)), (a0, .inl (T 0, 143, .inl x9.2.2.2.1)), (o1, .inl (T 0, 36, .inl x9.2.2.2.2))] H ∧ va_D A [(h0, .inr (10, x9.2.2.1)), (a0, .inl (T 0, 143, .inl x9.2.2.2.1)), (o1, .inl (T 0, 36, .inl x9.2.2.2.2))] ∧ va_S A s.heap H locs ∧ ((0 ≤ x9.1.toInt ∧ x9.1.toInt ≤ 36 ∧ x9.2.1.toInt = pn.toInt + x9.1.toInt) ∧ x9.2.2.1.length = 45 ∧ x9.2.2.1[0]? = some (w0) ∧ x9.2.2.1[1]? = some (w1) ∧ x9.2.2.1[2]? = some (w2) ∧ x9.2.2.1[3]? = some (w3) ∧ x9.2.2.1[4]? = some (w4) ∧ x9.2.2.1[5]? = some (w5) ∧ x9.2.2.1[6]? = some (w6) ∧ x9.2.2.1[7]? = some (w7) ∧ x9.2.2.1[8]? = some (w8) ∧ x9.2.2.1[9]? = some (w9) ∧ x9.2.2.1[10]? = some (w10) ∧ x9.2.2.1[11]? = some (w11) ∧ x9.2.2.1[12]? = some (w12) ∧ x9.2.2.1[13]? = some (w13) ∧ x9.2.2.1[42]? = some (.ref a0) ∧ x9.2.2.1[43]? = some (.int x9.2.1) ∧ x9.2.2.1[44]? = some (.int 1))) (fun x9 => (36 - x9.1.toInt).toNat) (fun x9 ls H locs hI ih => ?_) (0, pn, fs0, fk, fo) ls ⟨lv_sub hl [0, 1, 2] rfl, hP.sub [0, 1, 2] rfl, hD.sub [0, 1, 2] (by decide) rfl, hS, ⟨(by (try dsimp only); rw [ti_0]; omega), hl0, e0_0, e0_1, e0_2, e0_3, e0_4, e0_5, e0_6, e0_7, e0_8, e0_9, e0_10, e0_11, e0_12, e0_13, e0_42, e0_43, e0_44⟩⟩
  obtain ⟨ii, pi, gs, fk9, fo9⟩ := x9
  obtain ⟨hl, hP, hD, hS, hinv⟩ := hI
  have hl : lv_has ls 3 [(2, .int ii), (0, .ref h0), (1, .ref o1)] := hl
  have hP : va_P D vwCl [(h0, .inr (10, gs)), (a0, .inl (T 0, 143, .inl fk9)), (o1, .inl (T 0, 36, .inl fo9))] H := hP
  have hD : va_D A [(h0, .inr (10, gs)), (a0, .inl (T 0, 143, .inl fk9)), (o1, .inl (T 0, 36, .inl fo9))] := hD
  have hinv : (0 ≤ ii.toInt ∧ ii.toInt ≤ 36 ∧ pi.toInt = pn.toInt + ii.toInt) ∧ gs.length = 45 ∧ gs[0]? = some (w0) ∧ gs[1]? = some (w1) ∧ gs[2]? = some (w2) ∧ gs[3]? = some (w3) ∧ gs[4]? = some (w4) ∧ gs[5]? = some (w5) ∧ gs[6]? = some (w6) ∧ gs[7]? = some (w7) ∧ gs[8]? = some (w8) ∧ gs[9]? = some (w9) ∧ gs[10]? = some (w10) ∧ gs[11]? = some (w11) ∧ gs[12]? = some (w12) ∧ gs[13]? = some (w13) ∧ gs[42]? = some (.ref a0) ∧ gs[43]? = some (.int pi) ∧ gs[44]? = some (.int 1) := hinv
  obtain ⟨hii, lgs, ki_0, ki_1, ki_2, ki_3, ki_4, ki_5, ki_6, ki_7, ki_8, ki_9, ki_10, ki_11, ki_12, ki_13, ki_42, ki_43, ki_44⟩ := hinv
  refine lv_iload_n hx hb dX13_passesRow_2 rfl (lv_at hl 0 rfl) ?_
  refine lv_aload_n hx hb dX13_passesRow_3 rfl (lv_at hl 2 rfl) ?_
  refine va_alen (v := 36) hx hb hE.1 hP 2 0 rfl rfl rfl dX13_passesRow_4 ?_
  refine lv_icmp_ge (tgt := 24) hx hb dX13_passesRow_5 (by decide) (fun c_1 => ?_) (fun c_1 => ?_)
  · rw [fa_le] at c_1
    try rw [ti_36] at c_1
    obtain rfl : pi = pn2 := (fa_eq _ _).2 (by omega)
    exact W.vret hx hb hr (fun t ht hW => ⟨⟨(gs, fk9), rfl, ⟨lgs, ki_0, ki_1, ki_2, ki_3, ki_4, ki_5, ki_6, ki_7, ki_8, ki_9, ki_10, ki_11, ki_12, ki_13, ki_42, ki_43, ki_44⟩, by rw [ht]; exact hP.sub [0, 1] rfl, hD.sub [0, 1] (by decide) rfl⟩, hS.F ht⟩) hS.2.2 dX13_passesRow_24
  · rw [fa_le] at c_1
    try rw [ti_36] at c_1
    refine lv_aload_n hx hb dX13_passesRow_8 rfl (lv_at hl 2 rfl) ?_
    refine lv_iload_n hx hb dX13_passesRow_9 rfl (lv_at hl 0 rfl) ?_
    refine lv_aload_n hx hb dX13_passesRow_10 rfl (lv_at hl 1 rfl) ?_
    refine lv_aload_n hx hb dX13_passesRow_11 rfl (lv_at hl 2 rfl) ?_
    refine lv_iload_n hx hb dX13_passesRow_12 rfl (lv_at hl 0 rfl) ?_
    refine va_iald hx hb hE.1 hP 2 0 rfl rfl (by rw [vp_in_iff]; omega) dX13_passesRow_13 ?_
    refine lv_topi (fun z_2 ez_2 => ?_)
    have hFc := va_free (wc := [(h0, .inr (10, gs)), (a0, .inl (T 0, 143, .inl fk9))]) hD hS hA [0, 1] rfl
    refine va_calli (va_runV (As := [.int z_2]) (rest := [.int ii, .ref o1]) ⟨hx, hb, hml, hown, hts⟩ (f_X13_passes l D T _ h0 gs (w0) (w1) (w2) (w3) (w4) (w5) (w6) (w7) (w8) (w9) (w10) (w11) (w12) (w13) a0 fk9 pi (pi + 1) z_2 lgs ki_0 ki_1 ki_2 ki_3 ki_4 ki_5 ki_6 ki_7 ki_8 ki_9 ki_10 ki_11 ki_12 ki_13 ki_42 ki_43 ki_44 (by rw [vp_in_iff]; omega) rfl) (cwV 1 hts gX13_passesRow_X13_passes rfl rfl rfl (by decide +kernel) ⟨Nat.le_of_ble_eq_true rfl, Nat.le_of_ble_eq_true rfl⟩) (pW_V (ci := 10) (q0 := 0) hP hE hD rfl rfl [0, 1] (by decide) rfl rfl) rfl rfl hl.1 rfl (lv_room (Nat.le_of_ble_eq_true rfl)) dX13_passesRow_14 ⟨Nat.le_of_ble_eq_true rfl, Nat.le_of_ble_eq_true rfl⟩) hS (fun q _ h => hFc q h) hFc (fun r_3 u_4 t H1 locs ht hvm hr_3 hB hz1 hk1 hS => ?_)
    obtain ⟨g_5, f_6⟩ := u_4
    obtain ⟨hxg_5, lg_5, kg_5_0, kg_5_1, kg_5_2, kg_5_3, kg_5_4, kg_5_5, kg_5_6, kg_5_7, kg_5_8, kg_5_9, kg_5_10, kg_5_11, kg_5_12, kg_5_13, kg_5_42, kg_5_43, kg_5_44⟩ := hr_3
    obtain ⟨hP1, hD1⟩ := hB
    rw [ht] at hP1
    obtain ⟨hP, hD⟩ := va_join (wr := [(o1, .inl (T 0, 36, .inl fo9))]) (w1 := [(h0, .inr (10, g_5)), (a0, .inl (T 0, 143, .inl f_6))]) hP hD [0, 1] [2] rfl rfl (by decide) (by decide) hk1 hFc hP1 hD1
    clear hP1 hD1 hFc
    generalize H1 = H at hP hS ⊢
    have hP : va_P D vwCl [(o1, .inl (T 0, 36, .inl fo9)), (h0, .inr (10, g_5)), (a0, .inl (T 0, 143, .inl f_6))] H := hP
    have hD : va_D A [(o1, .inl (T 0, 36, .inl fo9)), (h0, .inr (10, g_5)), (a0, .inl (T 0, 143, .inl f_6))] := hD
    obtain rfl : z_2 = r_3 := (hxg_5).symm
    refine va_iast hx hb hE.1 hP hD hS 0 0 rfl rfl (by rw [vp_in_iff]; omega) dX13_passesRow_17 (fun H locs hP hD hS => ?_)
    have hP : va_P D vwCl [(o1, .inl (T 0, 36, .inl (upd fo9 (ii.toNatClampNeg) z_2))), (h0, .inr (10, g_5)), (a0, .inl (T 0, 143, .inl f_6))] H := hP
    have hD : va_D A [(o1, .inl (T 0, 36, .inl (upd fo9 (ii.toNatClampNeg) z_2))), (h0, .inr (10, g_5)), (a0, .inl (T 0, 143, .inl f_6))] := hD
    obtain ⟨z_7, ez_7⟩ : ∃ y : Int32, y = ii + 1 := ⟨_, rfl⟩
    refine lv_iinc (v := z_7) (lv' := [(2, .int z_7), (0, .ref h0), (1, .ref o1)]) hx hb dX13_passesRow_18 hl (k := 0) rfl (by rw [ez_7]; rfl) (by decide) rfl (fun ls hl => ?_)
    refine lv_goto (tgt := 2) hx hb dX13_passesRow_21 (by decide) ?_
    exact ih (z_7, (pi + 1), g_5, f_6, (upd fo9 (ii.toNatClampNeg) z_2)) ls _ _ ⟨lv_sub hl [0, 1, 2] rfl, hP.sub [1, 2, 0] rfl, hD.sub [1, 2, 0] (by decide) rfl, hS, ⟨(by subst_vars; (try dsimp only); rw [inc1 (n := 36) (by omega) (by decide), inc1 (n := 143) (by omega) (by decide)]; omega), lg_5, kg_5_0, kg_5_1, kg_5_2, kg_5_3, kg_5_4, kg_5_5, kg_5_6, kg_5_7, kg_5_8, kg_5_9, kg_5_10, kg_5_11, kg_5_12, kg_5_13, kg_5_42, kg_5_43, kg_5_44⟩⟩ (by subst_vars; (try dsimp only); rw [inc1 (n := 36) (by omega) (by decide)]; omega)
set_option maxHeartbeats 4000000 in
set_option maxRecDepth 100000 in
theorem f_X13_passesRow_3 (l : Launch) (D : va_G) (T : Nat → ClassId) (sz : Nat) (h0 : Nat) (fs0 : List Value) (w0 : Value) (w1 : Value) (w2 : Value) (w3 : Value) (w4 : Value) (w5 : Value) (w6 : Value) (w7 : Value) (w8 : Value) (w9 : Value) (w10 : Value) (w11 : Value) (w12 : Value) (w13 : Value) (a0 : Nat) (fk : Nat → Int32) (o1 : Nat) (fo : Nat → Int32) (pn : Int32) (pn2 : Int32) (hl0 : fs0.length = 45) (e0_0 : fs0[0]? = some w0) (e0_1 : fs0[1]? = some w1) (e0_2 : fs0[2]? = some w2) (e0_3 : fs0[3]? = some w3) (e0_4 : fs0[4]? = some w4) (e0_5 : fs0[5]? = some w5) (e0_6 : fs0[6]? = some w6) (e0_7 : fs0[7]? = some w7) (e0_8 : fs0[8]? = some w8) (e0_9 : fs0[9]? = some w9) (e0_10 : fs0[10]? = some w10) (e0_11 : fs0[11]? = some w11) (e0_12 : fs0[12]? = some w12) (e0_13 : fs0[13]? = some w13) (e0_42 : fs0[42]? = some (.ref a0)) (e0_43 : fs0[43]? = some (.int pn)) (e0_44 : fs0[44]? = some (.int 1)) (hpn : 0 ≤ pn.toInt ∧ pn.toInt + 3 = pn2.toInt ∧ pn2.toInt ≤ 143) : Met l yX13_passesRow wsX13_passesRow ({ frames := 1, cells := 0, slots := 0, locals := 22 }) (pW [.ref h0, .ref o1] D T [(h0, .inr (10, fs0)), (a0, .inl (T 0, 143, .inl fk)), (o1, .inl (T 0, 3, .inl fo))] sz) (va_Qv (fun (u : List Value × (Nat → Int32)) => u.1.length = 45 ∧ u.1[0]? = some (w0) ∧ u.1[1]? = some (w1) ∧ u.1[2]? = some (w2) ∧ u.1[3]? = some (w3) ∧ u.1[4]? = some (w4) ∧ u.1[5]? = some (w5) ∧ u.1[6]? = some (w6) ∧ u.1[7]? = some (w7) ∧ u.1[8]? = some (w8) ∧ u.1[9]? = some (w9) ∧ u.1[10]? = some (w10) ∧ u.1[11]? = some (w11) ∧ u.1[12]? = some (w12) ∧ u.1[13]? = some (w13) ∧ u.1[42]? = some (.ref a0) ∧ u.1[43]? = some (.int pn2) ∧ u.1[44]? = some (.int 1)) (bW D (va_A [(h0, .inr (10, fs0)), (a0, .inl (T 0, 143, .inl fk)), (o1, .inl (T 0, 3, .inl fo))] sz) (fun (u : List Value × (Nat → Int32)) => [(h0, .inr (10, u.1)), (a0, .inl (T 0, 143, .inl u.2))])) (va_A [(h0, .inr (10, fs0)), (a0, .inl (T 0, 143, .inl fk)), (o1, .inl (T 0, 3, .inl fo))] sz)) 0 0 (va_A [(h0, .inr (10, fs0)), (a0, .inl (T 0, 143, .inl fk)), (o1, .inl (T 0, 3, .inl fo))] sz) := by
  refine Met.ofW (cc := cX13_passesRow) (maxL := 3) (ret := none) (by decide) rfl ?_
  intro p e s m args below meth c s₁ B hml hv
  obtain ⟨rfl, hsz, hP, hE, hD0⟩ := hv
  have hx := B.exec
  have hb := B.bytes
  have hr := B.returns
  have hts := atoms_spec (ws := wsX13_passesRow) B.pre
  have hown : s.vm.findClass RX13 = some m.cls := findClass_of_methodNamed B.named
  have hlocks := B.notSynchronized
  subst hsz
  have hD := hD0.self (sz := s.heap.size)
  generalize hAe : va_A [(h0, .inr (10, fs0)), (a0, .inl (T 0, 143, .inl fk)), (o1, .inl (T 0, 3, .inl fo))] s.heap.size = A at hD ⊢
  have hA : ∀ q : Nat, s.heap.size ≤ q → A q := fun q h => by rw [← hAe]; exact Or.inr h
  have hS : va_S A s.heap s.heap [] := va_S.rf
  have hP : va_P D vwCl [(h0, .inr (10, fs0)), (a0, .inl (T 0, 143, .inl fk)), (o1, .inl (T 0, 3, .inl fo))] s.heap := hP
  have hl := lv_entry ([.ref h0, .ref o1]) (n := 3) (Nat.le_of_ble_eq_true rfl)
  rw [lg_entry_eq]
  generalize (lg_sl ([.ref h0, .ref o1]) ++ List.replicate (3 - (lg_sl ([.ref h0, .ref o1])).length) Slot.unset).toArray = ls at hl ⊢
  have hl : lv_has ls 3 [(0, .ref h0), (1, .ref o1)] := hl
  clear hD0
  refine lv_iconst (v := 0) hx hb dX13_passesRow_0 (by decide) ?_
  refine lv_istore_n (lv' := [(2, .int 0), (0, .ref h0), (1, .ref o1)]) hx hb dX13_passesRow_1 rfl hl (by decide) rfl (fun ls hl => ?_)
  refine loopW (σ := (Int32) × (Int32) × (List Value) × (Nat → Int32) × (Nat → Int32)) (fun x9 ls H locs => lv_has ls 3 [(2, .int x9.1), (0, .ref h0), (1, .ref o1)] ∧ va_P D vwCl [(h0, .inr (10, x9.2.2.1)), (a0, .inl (T 0, 143, .inl x9.2.2.2.1)), (o1, .inl (T 0, 3, .inl x9.2.2.2.2))] H ∧ va_D A [(h0, .inr (10, x9.2.2.1)), (a0, .inl (T 0, 143, .inl x9.2.2.2.1)), (o1, .inl (T 0, 3, .inl x9.2.2.2.2))] ∧ va_S A s.heap H locs ∧ ((0 ≤ x9.1.toInt ∧ x9.1.toInt ≤ 3 ∧ x9.2.1.toInt = pn.toInt + x9.1.toInt) ∧ x9.2.2.1.length = 45 ∧ x9.2.2.1[0]? = some (w0) ∧ x9.2.2.1[1]? = some (w1) ∧ x9.2.2.1[2]? = some (w2) ∧ x9.2.2.1[3]? = some (w3) ∧ x9.2.2.1[4]? = some (w4) ∧ x9.2.2.1[5]? = some (w5) ∧ x9.2.2.1[6]? = some (w6) ∧ x9.2.2.1[7]? = some (w7) ∧ x9.2.2.1[8]? = some (w8) ∧ x9.2.2.1[9]? = some (w9) ∧ x9.2.2.1[10]? = some (w10) ∧ x9.2.2.1[11]? = some (w11) ∧ x9.2.2.1[12]? = some (w12) ∧ x9.2.2.1[13]? = some (w13) ∧ x9.2.2.1[42]? = some (.ref a0) ∧ x9.2.2.1[43]? = some (.int x9.2.1) ∧ x9.2.2.1[44]? = some (.int 1))) (fun x9 => (3 - x9.1.toInt).toNat) (fun x9 ls H locs hI ih => ?_) (0, pn, fs0, fk, fo) ls ⟨lv_sub hl [0, 1, 2] rfl, hP.sub [0, 1, 2] rfl, hD.sub [0, 1, 2] (by decide) rfl, hS, ⟨(by (try dsimp only); rw [ti_0]; omega), hl0, e0_0, e0_1, e0_2, e0_3, e0_4, e0_5, e0_6, e0_7, e0_8, e0_9, e0_10, e0_11, e0_12, e0_13, e0_42, e0_43, e0_44⟩⟩
  obtain ⟨ii, pi, gs, fk9, fo9⟩ := x9
  obtain ⟨hl, hP, hD, hS, hinv⟩ := hI
  have hl : lv_has ls 3 [(2, .int ii), (0, .ref h0), (1, .ref o1)] := hl
  have hP : va_P D vwCl [(h0, .inr (10, gs)), (a0, .inl (T 0, 143, .inl fk9)), (o1, .inl (T 0, 3, .inl fo9))] H := hP
  have hD : va_D A [(h0, .inr (10, gs)), (a0, .inl (T 0, 143, .inl fk9)), (o1, .inl (T 0, 3, .inl fo9))] := hD
  have hinv : (0 ≤ ii.toInt ∧ ii.toInt ≤ 3 ∧ pi.toInt = pn.toInt + ii.toInt) ∧ gs.length = 45 ∧ gs[0]? = some (w0) ∧ gs[1]? = some (w1) ∧ gs[2]? = some (w2) ∧ gs[3]? = some (w3) ∧ gs[4]? = some (w4) ∧ gs[5]? = some (w5) ∧ gs[6]? = some (w6) ∧ gs[7]? = some (w7) ∧ gs[8]? = some (w8) ∧ gs[9]? = some (w9) ∧ gs[10]? = some (w10) ∧ gs[11]? = some (w11) ∧ gs[12]? = some (w12) ∧ gs[13]? = some (w13) ∧ gs[42]? = some (.ref a0) ∧ gs[43]? = some (.int pi) ∧ gs[44]? = some (.int 1) := hinv
  obtain ⟨hii, lgs, ki_0, ki_1, ki_2, ki_3, ki_4, ki_5, ki_6, ki_7, ki_8, ki_9, ki_10, ki_11, ki_12, ki_13, ki_42, ki_43, ki_44⟩ := hinv
  refine lv_iload_n hx hb dX13_passesRow_2 rfl (lv_at hl 0 rfl) ?_
  refine lv_aload_n hx hb dX13_passesRow_3 rfl (lv_at hl 2 rfl) ?_
  refine va_alen (v := 3) hx hb hE.1 hP 2 0 rfl rfl rfl dX13_passesRow_4 ?_
  refine lv_icmp_ge (tgt := 24) hx hb dX13_passesRow_5 (by decide) (fun c_1 => ?_) (fun c_1 => ?_)
  · rw [fa_le] at c_1
    try rw [ti_3] at c_1
    obtain rfl : pi = pn2 := (fa_eq _ _).2 (by omega)
    exact W.vret hx hb hr (fun t ht hW => ⟨⟨(gs, fk9), rfl, ⟨lgs, ki_0, ki_1, ki_2, ki_3, ki_4, ki_5, ki_6, ki_7, ki_8, ki_9, ki_10, ki_11, ki_12, ki_13, ki_42, ki_43, ki_44⟩, by rw [ht]; exact hP.sub [0, 1] rfl, hD.sub [0, 1] (by decide) rfl⟩, hS.F ht⟩) hS.2.2 dX13_passesRow_24
  · rw [fa_le] at c_1
    try rw [ti_3] at c_1
    refine lv_aload_n hx hb dX13_passesRow_8 rfl (lv_at hl 2 rfl) ?_
    refine lv_iload_n hx hb dX13_passesRow_9 rfl (lv_at hl 0 rfl) ?_
    refine lv_aload_n hx hb dX13_passesRow_10 rfl (lv_at hl 1 rfl) ?_
    refine lv_aload_n hx hb dX13_passesRow_11 rfl (lv_at hl 2 rfl) ?_
    refine lv_iload_n hx hb dX13_passesRow_12 rfl (lv_at hl 0 rfl) ?_
    refine va_iald hx hb hE.1 hP 2 0 rfl rfl (by rw [vp_in_iff]; omega) dX13_passesRow_13 ?_
    refine lv_topi (fun z_2 ez_2 => ?_)
    have hFc := va_free (wc := [(h0, .inr (10, gs)), (a0, .inl (T 0, 143, .inl fk9))]) hD hS hA [0, 1] rfl
    refine va_calli (va_runV (As := [.int z_2]) (rest := [.int ii, .ref o1]) ⟨hx, hb, hml, hown, hts⟩ (f_X13_passes l D T _ h0 gs (w0) (w1) (w2) (w3) (w4) (w5) (w6) (w7) (w8) (w9) (w10) (w11) (w12) (w13) a0 fk9 pi (pi + 1) z_2 lgs ki_0 ki_1 ki_2 ki_3 ki_4 ki_5 ki_6 ki_7 ki_8 ki_9 ki_10 ki_11 ki_12 ki_13 ki_42 ki_43 ki_44 (by rw [vp_in_iff]; omega) rfl) (cwV 1 hts gX13_passesRow_X13_passes rfl rfl rfl (by decide +kernel) ⟨Nat.le_of_ble_eq_true rfl, Nat.le_of_ble_eq_true rfl⟩) (pW_V (ci := 10) (q0 := 0) hP hE hD rfl rfl [0, 1] (by decide) rfl rfl) rfl rfl hl.1 rfl (lv_room (Nat.le_of_ble_eq_true rfl)) dX13_passesRow_14 ⟨Nat.le_of_ble_eq_true rfl, Nat.le_of_ble_eq_true rfl⟩) hS (fun q _ h => hFc q h) hFc (fun r_3 u_4 t H1 locs ht hvm hr_3 hB hz1 hk1 hS => ?_)
    obtain ⟨g_5, f_6⟩ := u_4
    obtain ⟨hxg_5, lg_5, kg_5_0, kg_5_1, kg_5_2, kg_5_3, kg_5_4, kg_5_5, kg_5_6, kg_5_7, kg_5_8, kg_5_9, kg_5_10, kg_5_11, kg_5_12, kg_5_13, kg_5_42, kg_5_43, kg_5_44⟩ := hr_3
    obtain ⟨hP1, hD1⟩ := hB
    rw [ht] at hP1
    obtain ⟨hP, hD⟩ := va_join (wr := [(o1, .inl (T 0, 3, .inl fo9))]) (w1 := [(h0, .inr (10, g_5)), (a0, .inl (T 0, 143, .inl f_6))]) hP hD [0, 1] [2] rfl rfl (by decide) (by decide) hk1 hFc hP1 hD1
    clear hP1 hD1 hFc
    generalize H1 = H at hP hS ⊢
    have hP : va_P D vwCl [(o1, .inl (T 0, 3, .inl fo9)), (h0, .inr (10, g_5)), (a0, .inl (T 0, 143, .inl f_6))] H := hP
    have hD : va_D A [(o1, .inl (T 0, 3, .inl fo9)), (h0, .inr (10, g_5)), (a0, .inl (T 0, 143, .inl f_6))] := hD
    obtain rfl : z_2 = r_3 := (hxg_5).symm
    refine va_iast hx hb hE.1 hP hD hS 0 0 rfl rfl (by rw [vp_in_iff]; omega) dX13_passesRow_17 (fun H locs hP hD hS => ?_)
    have hP : va_P D vwCl [(o1, .inl (T 0, 3, .inl (upd fo9 (ii.toNatClampNeg) z_2))), (h0, .inr (10, g_5)), (a0, .inl (T 0, 143, .inl f_6))] H := hP
    have hD : va_D A [(o1, .inl (T 0, 3, .inl (upd fo9 (ii.toNatClampNeg) z_2))), (h0, .inr (10, g_5)), (a0, .inl (T 0, 143, .inl f_6))] := hD
    obtain ⟨z_7, ez_7⟩ : ∃ y : Int32, y = ii + 1 := ⟨_, rfl⟩
    refine lv_iinc (v := z_7) (lv' := [(2, .int z_7), (0, .ref h0), (1, .ref o1)]) hx hb dX13_passesRow_18 hl (k := 0) rfl (by rw [ez_7]; rfl) (by decide) rfl (fun ls hl => ?_)
    refine lv_goto (tgt := 2) hx hb dX13_passesRow_21 (by decide) ?_
    exact ih (z_7, (pi + 1), g_5, f_6, (upd fo9 (ii.toNatClampNeg) z_2)) ls _ _ ⟨lv_sub hl [0, 1, 2] rfl, hP.sub [1, 2, 0] rfl, hD.sub [1, 2, 0] (by decide) rfl, hS, ⟨(by subst_vars; (try dsimp only); rw [inc1 (n := 3) (by omega) (by decide), inc1 (n := 143) (by omega) (by decide)]; omega), lg_5, kg_5_0, kg_5_1, kg_5_2, kg_5_3, kg_5_4, kg_5_5, kg_5_6, kg_5_7, kg_5_8, kg_5_9, kg_5_10, kg_5_11, kg_5_12, kg_5_13, kg_5_42, kg_5_43, kg_5_44⟩⟩ (by subst_vars; (try dsimp only); rw [inc1 (n := 3) (by omega) (by decide)]; omega)
theorem dX13_passesAll_0 : decode cX13_passesAll 0 = .ok (.aload_n 0, 1) := by decide +kernel
theorem dX13_passesAll_1 : decode cX13_passesAll 1 = .ok (.iload_n 1, 1) := by decide +kernel
theorem dX13_passesAll_10 : decode cX13_passesAll 10 = .ok (.aload_n 0, 1) := by decide +kernel
theorem dX13_passesAll_100 : decode cX13_passesAll 100 = .ok (.invokevirtual 429, 3) := by decide +kernel
theorem dX13_passesAll_103 : decode cX13_passesAll 103 = .ok (.putfield 205, 3) := by decide +kernel
theorem dX13_passesAll_106 : decode cX13_passesAll 106 = .ok (.aload_n 0, 1) := by decide +kernel
theorem dX13_passesAll_107 : decode cX13_passesAll 107 = .ok (.aload_n 0, 1) := by decide +kernel
theorem dX13_passesAll_108 : decode cX13_passesAll 108 = .ok (.getfield 28, 3) := by decide +kernel
theorem dX13_passesAll_11 : decode cX13_passesAll 11 = .ok (.aload_n 0, 1) := by decide +kernel
theorem dX13_passesAll_111 : decode cX13_passesAll 111 = .ok (.invokevirtual 432, 3) := by decide +kernel
theorem dX13_passesAll_114 : decode cX13_passesAll 114 = .ok (.aload_n 0, 1) := by decide +kernel
theorem dX13_passesAll_115 : decode cX13_passesAll 115 = .ok (.aload_n 0, 1) := by decide +kernel
theorem dX13_passesAll_116 : decode cX13_passesAll 116 = .ok (.getfield 32, 3) := by decide +kernel
theorem dX13_passesAll_119 : decode cX13_passesAll 119 = .ok (.invokevirtual 432, 3) := by decide +kernel
theorem dX13_passesAll_12 : decode cX13_passesAll 12 = .ok (.aload_n 0, 1) := by decide +kernel
theorem dX13_passesAll_122 : decode cX13_passesAll 122 = .ok (.aload_n 0, 1) := by decide +kernel
theorem dX13_passesAll_123 : decode cX13_passesAll 123 = .ok (.aload_n 0, 1) := by decide +kernel
theorem dX13_passesAll_124 : decode cX13_passesAll 124 = .ok (.getfield 35, 3) := by decide +kernel
theorem dX13_passesAll_127 : decode cX13_passesAll 127 = .ok (.invokevirtual 432, 3) := by decide +kernel
theorem dX13_passesAll_13 : decode cX13_passesAll 13 = .ok (.getfield 181, 3) := by decide +kernel
theorem dX13_passesAll_130 : decode cX13_passesAll 130 = .ok (.aload_n 0, 1) := by decide +kernel
theorem dX13_passesAll_131 : decode cX13_passesAll 131 = .ok (.aload_n 0, 1) := by decide +kernel
theorem dX13_passesAll_132 : decode cX13_passesAll 132 = .ok (.getfield 38, 3) := by decide +kernel
theorem dX13_passesAll_135 : decode cX13_passesAll 135 = .ok (.invokevirtual 432, 3) := by decide +kernel
theorem dX13_passesAll_138 : decode cX13_passesAll 138 = .ok (.aload_n 0, 1) := by decide +kernel
theorem dX13_passesAll_139 : decode cX13_passesAll 139 = .ok (.aload_n 0, 1) := by decide +kernel
theorem dX13_passesAll_140 : decode cX13_passesAll 140 = .ok (.getfield 41, 3) := by decide +kernel
theorem dX13_passesAll_143 : decode cX13_passesAll 143 = .ok (.invokevirtual 432, 3) := by decide +kernel
theorem dX13_passesAll_146 : decode cX13_passesAll 146 = .ok (.aload_n 0, 1) := by decide +kernel
theorem dX13_passesAll_147 : decode cX13_passesAll 147 = .ok (.aload_n 0, 1) := by decide +kernel
theorem dX13_passesAll_148 : decode cX13_passesAll 148 = .ok (.getfield 44, 3) := by decide +kernel
theorem dX13_passesAll_151 : decode cX13_passesAll 151 = .ok (.invokevirtual 432, 3) := by decide +kernel
theorem dX13_passesAll_154 : decode cX13_passesAll 154 = .ok (.return_, 1) := by decide +kernel
theorem dX13_passesAll_16 : decode cX13_passesAll 16 = .ok (.invokevirtual 429, 3) := by decide +kernel
theorem dX13_passesAll_19 : decode cX13_passesAll 19 = .ok (.putfield 181, 3) := by decide +kernel
theorem dX13_passesAll_2 : decode cX13_passesAll 2 = .ok (.putfield 423, 3) := by decide +kernel
theorem dX13_passesAll_22 : decode cX13_passesAll 22 = .ok (.aload_n 0, 1) := by decide +kernel
theorem dX13_passesAll_23 : decode cX13_passesAll 23 = .ok (.aload_n 0, 1) := by decide +kernel
theorem dX13_passesAll_24 : decode cX13_passesAll 24 = .ok (.aload_n 0, 1) := by decide +kernel
theorem dX13_passesAll_25 : decode cX13_passesAll 25 = .ok (.getfield 7, 3) := by decide +kernel
theorem dX13_passesAll_28 : decode cX13_passesAll 28 = .ok (.invokevirtual 429, 3) := by decide +kernel
theorem dX13_passesAll_31 : decode cX13_passesAll 31 = .ok (.putfield 7, 3) := by decide +kernel
theorem dX13_passesAll_34 : decode cX13_passesAll 34 = .ok (.aload_n 0, 1) := by decide +kernel
theorem dX13_passesAll_35 : decode cX13_passesAll 35 = .ok (.aload_n 0, 1) := by decide +kernel
theorem dX13_passesAll_36 : decode cX13_passesAll 36 = .ok (.aload_n 0, 1) := by decide +kernel
theorem dX13_passesAll_37 : decode cX13_passesAll 37 = .ok (.getfield 13, 3) := by decide +kernel
theorem dX13_passesAll_40 : decode cX13_passesAll 40 = .ok (.invokevirtual 429, 3) := by decide +kernel
theorem dX13_passesAll_43 : decode cX13_passesAll 43 = .ok (.putfield 13, 3) := by decide +kernel
theorem dX13_passesAll_46 : decode cX13_passesAll 46 = .ok (.aload_n 0, 1) := by decide +kernel
theorem dX13_passesAll_47 : decode cX13_passesAll 47 = .ok (.aload_n 0, 1) := by decide +kernel
theorem dX13_passesAll_48 : decode cX13_passesAll 48 = .ok (.aload_n 0, 1) := by decide +kernel
theorem dX13_passesAll_49 : decode cX13_passesAll 49 = .ok (.getfield 16, 3) := by decide +kernel
theorem dX13_passesAll_5 : decode cX13_passesAll 5 = .ok (.aload_n 0, 1) := by decide +kernel
theorem dX13_passesAll_52 : decode cX13_passesAll 52 = .ok (.invokevirtual 429, 3) := by decide +kernel
theorem dX13_passesAll_55 : decode cX13_passesAll 55 = .ok (.putfield 16, 3) := by decide +kernel
theorem dX13_passesAll_58 : decode cX13_passesAll 58 = .ok (.aload_n 0, 1) := by decide +kernel
theorem dX13_passesAll_59 : decode cX13_passesAll 59 = .ok (.aload_n 0, 1) := by decide +kernel
theorem dX13_passesAll_6 : decode cX13_passesAll 6 = .ok (.iconst 0, 1) := by decide +kernel
theorem dX13_passesAll_60 : decode cX13_passesAll 60 = .ok (.aload_n 0, 1) := by decide +kernel
theorem dX13_passesAll_61 : decode cX13_passesAll 61 = .ok (.getfield 19, 3) := by decide +kernel
theorem dX13_passesAll_64 : decode cX13_passesAll 64 = .ok (.invokevirtual 429, 3) := by decide +kernel
theorem dX13_passesAll_67 : decode cX13_passesAll 67 = .ok (.putfield 19, 3) := by decide +kernel
theorem dX13_passesAll_7 : decode cX13_passesAll 7 = .ok (.putfield 426, 3) := by decide +kernel
theorem dX13_passesAll_70 : decode cX13_passesAll 70 = .ok (.aload_n 0, 1) := by decide +kernel
theorem dX13_passesAll_71 : decode cX13_passesAll 71 = .ok (.aload_n 0, 1) := by decide +kernel
theorem dX13_passesAll_72 : decode cX13_passesAll 72 = .ok (.aload_n 0, 1) := by decide +kernel
theorem dX13_passesAll_73 : decode cX13_passesAll 73 = .ok (.getfield 22, 3) := by decide +kernel
theorem dX13_passesAll_76 : decode cX13_passesAll 76 = .ok (.invokevirtual 429, 3) := by decide +kernel
theorem dX13_passesAll_79 : decode cX13_passesAll 79 = .ok (.putfield 22, 3) := by decide +kernel
theorem dX13_passesAll_82 : decode cX13_passesAll 82 = .ok (.aload_n 0, 1) := by decide +kernel
theorem dX13_passesAll_83 : decode cX13_passesAll 83 = .ok (.aload_n 0, 1) := by decide +kernel
theorem dX13_passesAll_84 : decode cX13_passesAll 84 = .ok (.aload_n 0, 1) := by decide +kernel
theorem dX13_passesAll_85 : decode cX13_passesAll 85 = .ok (.getfield 25, 3) := by decide +kernel
theorem dX13_passesAll_88 : decode cX13_passesAll 88 = .ok (.invokevirtual 429, 3) := by decide +kernel
theorem dX13_passesAll_91 : decode cX13_passesAll 91 = .ok (.putfield 25, 3) := by decide +kernel
theorem dX13_passesAll_94 : decode cX13_passesAll 94 = .ok (.aload_n 0, 1) := by decide +kernel
theorem dX13_passesAll_95 : decode cX13_passesAll 95 = .ok (.aload_n 0, 1) := by decide +kernel
theorem dX13_passesAll_96 : decode cX13_passesAll 96 = .ok (.aload_n 0, 1) := by decide +kernel
theorem dX13_passesAll_97 : decode cX13_passesAll 97 = .ok (.getfield 205, 3) := by decide +kernel
set_option maxRecDepth 20000 in
theorem ggX13_passesAll_X13_passes : GoodIn wsX13_passesAll wsX13_passes := goodIn_r _ [21, 1, 22, 2, 27, 28, 29, 30, 31, 32, 33, 34, 35, 36, 37, 38, 39, 40, 41, 42, 43, 44, 45, 46, 47, 48, 49, 50, 51, 52, 53, 54, 55, 56, 57, 58, 59, 60, 61, 62, 63, 64, 65, 66, 67, 68, 69, 70, 71] (by decide +kernel) (by decide +kernel)
set_option maxRecDepth 20000 in
theorem ggX13_passesAll_X13_passesRow : GoodIn wsX13_passesAll wsX13_passesRow := goodIn_r _ [26, 17, 18, 19, 20, 21, 1, 22, 2, 27, 28, 29, 30, 31, 32, 33, 34, 35, 36, 37, 38, 39, 40, 41, 42, 43, 44, 45, 46, 47, 48, 49, 50, 51, 52, 53, 54, 55, 56, 57, 58, 59, 60, 61, 62, 63, 64, 65, 66, 67, 68, 69, 70, 71] (by decide +kernel) (by decide +kernel)
set_option maxRecDepth 20000 in
theorem gX13_passesAll_X13_passes : GoodIn wsX13_passesAll (wsV RX13 429 RX13 yX13_passes wsX13_passes) := goodIn_app (goodIn_of _ (by decide +kernel)) ggX13_passesAll_X13_passes
set_option maxRecDepth 20000 in
theorem gX13_passesAll_X13_passesRow : GoodIn wsX13_passesAll (wsV RX13 432 RX13 yX13_passesRow wsX13_passesRow) := goodIn_app (goodIn_of _ (by decide +kernel)) ggX13_passesAll_X13_passesRow
set_option maxRecDepth 20000 in
theorem in_X13_passesAll_X13 : ∀ w ∈ wsX130, w ∈ wsX13_passesAll := by decide +kernel
set_option maxHeartbeats 4000000 in
set_option maxRecDepth 100000 in
theorem f_X13_passesAll (l : Launch) (D : va_G) (T : Nat → ClassId) (sz : Nat) (h0 : Nat) (fs0 : List Value) (n0 : Int32) (n1 : Int32) (n2 : Int32) (n3 : Int32) (n4 : Int32) (n5 : Int32) (n6 : Int32) (a0 : Nat) (fk : Nat → Int32) (b8 : Nat) (g8 : Nat → Int32) (b9 : Nat) (g9 : Nat → Int32) (b10 : Nat) (g10 : Nat → Int32) (b11 : Nat) (g11 : Nat → Int32) (b12 : Nat) (g12 : Nat → Int32) (b13 : Nat) (g13 : Nat → Int32) (hl0 : fs0.length = 45) (e0_0 : fs0[0]? = some (.int n0)) (e0_1 : fs0[1]? = some (.int n1)) (e0_2 : fs0[2]? = some (.int n2)) (e0_3 : fs0[3]? = some (.int n3)) (e0_4 : fs0[4]? = some (.int n4)) (e0_5 : fs0[5]? = some (.int n5)) (e0_6 : fs0[6]? = some (.int n6)) (e0_7 : fs0[7]? = some (.int 0)) (e0_8 : fs0[8]? = some (.ref b8)) (e0_9 : fs0[9]? = some (.ref b9)) (e0_10 : fs0[10]? = some (.ref b10)) (e0_11 : fs0[11]? = some (.ref b11)) (e0_12 : fs0[12]? = some (.ref b12)) (e0_13 : fs0[13]? = some (.ref b13)) (e0_42 : fs0[42]? = some (.ref a0)) : Met l yX13_passesAll wsX13_passesAll ({ frames := 2, cells := 0, slots := 0, locals := 44 }) (pW [.ref h0, .int 1] D T [(h0, .inr (10, fs0)), (a0, .inl (T 0, 143, .inl fk)), (b8, .inl (T 0, 24, .inl g8)), (b9, .inl (T 0, 24, .inl g9)), (b10, .inl (T 0, 24, .inl g10)), (b11, .inl (T 0, 24, .inl g11)), (b12, .inl (T 0, 36, .inl g12)), (b13, .inl (T 0, 3, .inl g13))] sz) (va_Qv (fun (u : List Value) => u.length = 45 ∧ u[7]? = some (.int 0)) (bW D (va_A [(h0, .inr (10, fs0)), (a0, .inl (T 0, 143, .inl fk)), (b8, .inl (T 0, 24, .inl g8)), (b9, .inl (T 0, 24, .inl g9)), (b10, .inl (T 0, 24, .inl g10)), (b11, .inl (T 0, 24, .inl g11)), (b12, .inl (T 0, 36, .inl g12)), (b13, .inl (T 0, 3, .inl g13))] sz) (fun (u : List Value) => [(h0, .inr (10, u))])) (va_A [(h0, .inr (10, fs0)), (a0, .inl (T 0, 143, .inl fk)), (b8, .inl (T 0, 24, .inl g8)), (b9, .inl (T 0, 24, .inl g9)), (b10, .inl (T 0, 24, .inl g10)), (b11, .inl (T 0, 24, .inl g11)), (b12, .inl (T 0, 36, .inl g12)), (b13, .inl (T 0, 3, .inl g13))] sz)) 0 0 (va_A [(h0, .inr (10, fs0)), (a0, .inl (T 0, 143, .inl fk)), (b8, .inl (T 0, 24, .inl g8)), (b9, .inl (T 0, 24, .inl g9)), (b10, .inl (T 0, 24, .inl g10)), (b11, .inl (T 0, 24, .inl g11)), (b12, .inl (T 0, 36, .inl g12)), (b13, .inl (T 0, 3, .inl g13))] sz) := by
  refine Met.ofW (cc := cX13_passesAll) (maxL := 2) (ret := none) (by decide) rfl ?_
  intro p e s m args below meth c s₁ B hml hv
  obtain ⟨rfl, hsz, hP, hE, hD0⟩ := hv
  have hx := B.exec
  have hb := B.bytes
  have hr := B.returns
  have hts := atoms_spec (ws := wsX13_passesAll) B.pre
  have hown : s.vm.findClass RX13 = some m.cls := findClass_of_methodNamed B.named
  have hlocks := B.notSynchronized
  subst hsz
  have hD := hD0.self (sz := s.heap.size)
  generalize hAe : va_A [(h0, .inr (10, fs0)), (a0, .inl (T 0, 143, .inl fk)), (b8, .inl (T 0, 24, .inl g8)), (b9, .inl (T 0, 24, .inl g9)), (b10, .inl (T 0, 24, .inl g10)), (b11, .inl (T 0, 24, .inl g11)), (b12, .inl (T 0, 36, .inl g12)), (b13, .inl (T 0, 3, .inl g13))] s.heap.size = A at hD ⊢
  have hA : ∀ q : Nat, s.heap.size ≤ q → A q := fun q h => by rw [← hAe]; exact Or.inr h
  have hS : va_S A s.heap s.heap [] := va_S.rf
  have hP : va_P D vwCl [(h0, .inr (10, fs0)), (a0, .inl (T 0, 143, .inl fk)), (b8, .inl (T 0, 24, .inl g8)), (b9, .inl (T 0, 24, .inl g9)), (b10, .inl (T 0, 24, .inl g10)), (b11, .inl (T 0, 24, .inl g11)), (b12, .inl (T 0, 36, .inl g12)), (b13, .inl (T 0, 3, .inl g13))] s.heap := hP
  have hl := lv_entry ([.ref h0, .int 1]) (n := 2) (Nat.le_of_ble_eq_true rfl)
  rw [lg_entry_eq]
  generalize (lg_sl ([.ref h0, .int 1]) ++ List.replicate (2 - (lg_sl ([.ref h0, .int 1])).length) Slot.unset).toArray = ls at hl ⊢
  have hl : lv_has ls 2 [(0, .ref h0), (1, .int 1)] := hl
  clear hD0
  refine lv_aload_n hx hb dX13_passesAll_0 rfl (lv_at hl 0 rfl) ?_
  refine lv_iload_n hx hb dX13_passesAll_1 rfl (lv_at hl 1 rfl) ?_
  refine va_put (D := D) (ci := 10) (v := .int 1) (ty := .boolean) (C := RX13) (T := TX13) (N := 45) hx hb hts in_X13_passesAll_X13 tyX13 tyX13_ok nmX13 hown hE.1 hP hD hS 0 rfl rfl 44 (by decide) (hts (.fieldLink RX13 423 "ClauseBookModel" "isKeeping" "Z") (List.mem_of_getElem? (i := 1) rfl)) (fun _ h9 => h9) rfl (by decide +kernel) rfl rfl (by rw [hl0]; decide) dX13_passesAll_2 (fun H locs hP hD hS => ?_)
  obtain ⟨g_1, eg_1⟩ : ∃ z : List Value, z = fs0.set 44 (.int 1) := ⟨_, rfl⟩
  have hP : va_P D vwCl [(h0, .inr (10, g_1)), (a0, .inl (T 0, 143, .inl fk)), (b8, .inl (T 0, 24, .inl g8)), (b9, .inl (T 0, 24, .inl g9)), (b10, .inl (T 0, 24, .inl g10)), (b11, .inl (T 0, 24, .inl g11)), (b12, .inl (T 0, 36, .inl g12)), (b13, .inl (T 0, 3, .inl g13))] H := by rw [eg_1]; exact hP
  have hD : va_D A [(h0, .inr (10, g_1)), (a0, .inl (T 0, 143, .inl fk)), (b8, .inl (T 0, 24, .inl g8)), (b9, .inl (T 0, 24, .inl g9)), (b10, .inl (T 0, 24, .inl g10)), (b11, .inl (T 0, 24, .inl g11)), (b12, .inl (T 0, 36, .inl g12)), (b13, .inl (T 0, 3, .inl g13))] := by rw [eg_1]; exact hD
  have lg_1 : g_1.length = 45 := by rw [eg_1, List.length_set]; exact hl0
  have kg_1_44 : g_1[44]? = some (.int 1) := by rw [eg_1]; exact List.getElem?_set_self (by rw [hl0]; decide)
  have kg_1_0 : g_1[0]? = some (.int n0) := by rw [eg_1, List.getElem?_set_ne (by decide)]; exact e0_0
  have kg_1_1 : g_1[1]? = some (.int n1) := by rw [eg_1, List.getElem?_set_ne (by decide)]; exact e0_1
  have kg_1_2 : g_1[2]? = some (.int n2) := by rw [eg_1, List.getElem?_set_ne (by decide)]; exact e0_2
  have kg_1_3 : g_1[3]? = some (.int n3) := by rw [eg_1, List.getElem?_set_ne (by decide)]; exact e0_3
  have kg_1_4 : g_1[4]? = some (.int n4) := by rw [eg_1, List.getElem?_set_ne (by decide)]; exact e0_4
  have kg_1_5 : g_1[5]? = some (.int n5) := by rw [eg_1, List.getElem?_set_ne (by decide)]; exact e0_5
  have kg_1_6 : g_1[6]? = some (.int n6) := by rw [eg_1, List.getElem?_set_ne (by decide)]; exact e0_6
  have kg_1_7 : g_1[7]? = some (.int 0) := by rw [eg_1, List.getElem?_set_ne (by decide)]; exact e0_7
  have kg_1_8 : g_1[8]? = some (.ref b8) := by rw [eg_1, List.getElem?_set_ne (by decide)]; exact e0_8
  have kg_1_9 : g_1[9]? = some (.ref b9) := by rw [eg_1, List.getElem?_set_ne (by decide)]; exact e0_9
  have kg_1_10 : g_1[10]? = some (.ref b10) := by rw [eg_1, List.getElem?_set_ne (by decide)]; exact e0_10
  have kg_1_11 : g_1[11]? = some (.ref b11) := by rw [eg_1, List.getElem?_set_ne (by decide)]; exact e0_11
  have kg_1_12 : g_1[12]? = some (.ref b12) := by rw [eg_1, List.getElem?_set_ne (by decide)]; exact e0_12
  have kg_1_13 : g_1[13]? = some (.ref b13) := by rw [eg_1, List.getElem?_set_ne (by decide)]; exact e0_13
  have kg_1_42 : g_1[42]? = some (.ref a0) := by rw [eg_1, List.getElem?_set_ne (by decide)]; exact e0_42
  refine lv_aload_n hx hb dX13_passesAll_5 rfl (lv_at hl 0 rfl) ?_
  refine lv_iconst (v := 0) hx hb dX13_passesAll_6 (by decide) ?_
  refine va_put (D := D) (ci := 10) (v := .int 0) (ty := .int) (C := RX13) (T := TX13) (N := 45) hx hb hts in_X13_passesAll_X13 tyX13 tyX13_ok nmX13 hown hE.1 hP hD hS 0 rfl rfl 43 (by decide) (hts (.fieldLink RX13 426 "ClauseBookModel" "passed" "I") (List.mem_of_getElem? (i := 2) rfl)) (fun _ h9 => h9) rfl (by decide +kernel) rfl rfl (by rw [lg_1]; decide) dX13_passesAll_7 (fun H locs hP hD hS => ?_)
  obtain ⟨g_2, eg_2⟩ : ∃ z : List Value, z = g_1.set 43 (.int 0) := ⟨_, rfl⟩
  have hP : va_P D vwCl [(h0, .inr (10, g_2)), (a0, .inl (T 0, 143, .inl fk)), (b8, .inl (T 0, 24, .inl g8)), (b9, .inl (T 0, 24, .inl g9)), (b10, .inl (T 0, 24, .inl g10)), (b11, .inl (T 0, 24, .inl g11)), (b12, .inl (T 0, 36, .inl g12)), (b13, .inl (T 0, 3, .inl g13))] H := by rw [eg_2]; exact hP
  have hD : va_D A [(h0, .inr (10, g_2)), (a0, .inl (T 0, 143, .inl fk)), (b8, .inl (T 0, 24, .inl g8)), (b9, .inl (T 0, 24, .inl g9)), (b10, .inl (T 0, 24, .inl g10)), (b11, .inl (T 0, 24, .inl g11)), (b12, .inl (T 0, 36, .inl g12)), (b13, .inl (T 0, 3, .inl g13))] := by rw [eg_2]; exact hD
  have lg_2 : g_2.length = 45 := by rw [eg_2, List.length_set]; exact lg_1
  have kg_2_43 : g_2[43]? = some (.int 0) := by rw [eg_2]; exact List.getElem?_set_self (by rw [lg_1]; decide)
  have kg_2_44 : g_2[44]? = some (.int 1) := by rw [eg_2, List.getElem?_set_ne (by decide)]; exact kg_1_44
  have kg_2_0 : g_2[0]? = some (.int n0) := by rw [eg_2, List.getElem?_set_ne (by decide)]; exact kg_1_0
  have kg_2_1 : g_2[1]? = some (.int n1) := by rw [eg_2, List.getElem?_set_ne (by decide)]; exact kg_1_1
  have kg_2_2 : g_2[2]? = some (.int n2) := by rw [eg_2, List.getElem?_set_ne (by decide)]; exact kg_1_2
  have kg_2_3 : g_2[3]? = some (.int n3) := by rw [eg_2, List.getElem?_set_ne (by decide)]; exact kg_1_3
  have kg_2_4 : g_2[4]? = some (.int n4) := by rw [eg_2, List.getElem?_set_ne (by decide)]; exact kg_1_4
  have kg_2_5 : g_2[5]? = some (.int n5) := by rw [eg_2, List.getElem?_set_ne (by decide)]; exact kg_1_5
  have kg_2_6 : g_2[6]? = some (.int n6) := by rw [eg_2, List.getElem?_set_ne (by decide)]; exact kg_1_6
  have kg_2_7 : g_2[7]? = some (.int 0) := by rw [eg_2, List.getElem?_set_ne (by decide)]; exact kg_1_7
  have kg_2_8 : g_2[8]? = some (.ref b8) := by rw [eg_2, List.getElem?_set_ne (by decide)]; exact kg_1_8
  have kg_2_9 : g_2[9]? = some (.ref b9) := by rw [eg_2, List.getElem?_set_ne (by decide)]; exact kg_1_9
  have kg_2_10 : g_2[10]? = some (.ref b10) := by rw [eg_2, List.getElem?_set_ne (by decide)]; exact kg_1_10
  have kg_2_11 : g_2[11]? = some (.ref b11) := by rw [eg_2, List.getElem?_set_ne (by decide)]; exact kg_1_11
  have kg_2_12 : g_2[12]? = some (.ref b12) := by rw [eg_2, List.getElem?_set_ne (by decide)]; exact kg_1_12
  have kg_2_13 : g_2[13]? = some (.ref b13) := by rw [eg_2, List.getElem?_set_ne (by decide)]; exact kg_1_13
  have kg_2_42 : g_2[42]? = some (.ref a0) := by rw [eg_2, List.getElem?_set_ne (by decide)]; exact kg_1_42
  refine lv_aload_n hx hb dX13_passesAll_10 rfl (lv_at hl 0 rfl) ?_
  refine lv_aload_n hx hb dX13_passesAll_11 rfl (lv_at hl 0 rfl) ?_
  refine lv_aload_n hx hb dX13_passesAll_12 rfl (lv_at hl 0 rfl) ?_
  refine va_get (D := D) (ci := 10) (v := .int n0) (C := RX13) (T := TX13) (N := 45) hx hb hts in_X13_passesAll_X13 hown hE.1 hP 0 rfl rfl 0 (by decide) (hts (.fieldLink RX13 181 "ClauseBookModel" "start" "I") (List.mem_of_getElem? (i := 3) rfl)) (fun _ h9 => h9) kg_2_0 dX13_passesAll_13 ?_
  have hFc := va_free (wc := [(h0, .inr (10, g_2)), (a0, .inl (T 0, 143, .inl fk))]) hD hS hA [0, 1] rfl
  refine va_calli (va_runV (As := [.int n0]) (rest := [.ref h0]) ⟨hx, hb, hml, hown, hts⟩ (f_X13_passes l D T _ h0 g_2 (.int n0) (.int n1) (.int n2) (.int n3) (.int n4) (.int n5) (.int n6) (.int 0) (.ref b8) (.ref b9) (.ref b10) (.ref b11) (.ref b12) (.ref b13) a0 fk 0 1 n0 lg_2 kg_2_0 kg_2_1 kg_2_2 kg_2_3 kg_2_4 kg_2_5 kg_2_6 kg_2_7 kg_2_8 kg_2_9 kg_2_10 kg_2_11 kg_2_12 kg_2_13 kg_2_42 kg_2_43 kg_2_44 (by unfold vp_in; decide) (by decide)) (cwV 1 hts gX13_passesAll_X13_passes rfl rfl rfl (by decide +kernel) ⟨Nat.le_of_ble_eq_true rfl, Nat.le_of_ble_eq_true rfl⟩) (pW_V (ci := 10) (q0 := 0) hP hE hD rfl rfl [0, 1] (by decide) rfl rfl) rfl rfl hl.1 rfl (lv_room (Nat.le_of_ble_eq_true rfl)) dX13_passesAll_16 ⟨Nat.le_of_ble_eq_true rfl, Nat.le_of_ble_eq_true rfl⟩) hS (fun q _ h => hFc q h) hFc (fun r_3 u_4 t H1 locs ht hvm hr_3 hB hz1 hk1 hS => ?_)
  obtain ⟨g_5, f_6⟩ := u_4
  obtain ⟨hxg_5, lg_5, kg_5_0, kg_5_1, kg_5_2, kg_5_3, kg_5_4, kg_5_5, kg_5_6, kg_5_7, kg_5_8, kg_5_9, kg_5_10, kg_5_11, kg_5_12, kg_5_13, kg_5_42, kg_5_43, kg_5_44⟩ := hr_3
  obtain ⟨hP1, hD1⟩ := hB
  rw [ht] at hP1
  obtain ⟨hP, hD⟩ := va_join (wr := [(b8, .inl (T 0, 24, .inl g8)), (b9, .inl (T 0, 24, .inl g9)), (b10, .inl (T 0, 24, .inl g10)), (b11, .inl (T 0, 24, .inl g11)), (b12, .inl (T 0, 36, .inl g12)), (b13, .inl (T 0, 3, .inl g13))]) (w1 := [(h0, .inr (10, g_5)), (a0, .inl (T 0, 143, .inl f_6))]) hP hD [0, 1] [2, 3, 4, 5, 6, 7] rfl rfl (by decide) (by decide) hk1 hFc hP1 hD1
  clear hP1 hD1 hFc
  generalize H1 = H at hP hS ⊢
  have hP : va_P D vwCl [(b8, .inl (T 0, 24, .inl g8)), (b9, .inl (T 0, 24, .inl g9)), (b10, .inl (T 0, 24, .inl g10)), (b11, .inl (T 0, 24, .inl g11)), (b12, .inl (T 0, 36, .inl g12)), (b13, .inl (T 0, 3, .inl g13)), (h0, .inr (10, g_5)), (a0, .inl (T 0, 143, .inl f_6))] H := hP
  have hD : va_D A [(b8, .inl (T 0, 24, .inl g8)), (b9, .inl (T 0, 24, .inl g9)), (b10, .inl (T 0, 24, .inl g10)), (b11, .inl (T 0, 24, .inl g11)), (b12, .inl (T 0, 36, .inl g12)), (b13, .inl (T 0, 3, .inl g13)), (h0, .inr (10, g_5)), (a0, .inl (T 0, 143, .inl f_6))] := hD
  obtain rfl : n0 = r_3 := (hxg_5).symm
  refine va_put (D := D) (ci := 10) (v := .int n0) (ty := .int) (C := RX13) (T := TX13) (N := 45) hx hb hts in_X13_passesAll_X13 tyX13 tyX13_ok nmX13 hown hE.1 hP hD hS 6 rfl rfl 0 (by decide) (hts (.fieldLink RX13 181 "ClauseBookModel" "start" "I") (List.mem_of_getElem? (i := 3) rfl)) (fun _ h9 => h9) rfl (by decide +kernel) rfl rfl (by rw [lg_5]; decide) dX13_passesAll_19 (fun H locs hP hD hS => ?_)
  obtain ⟨g_7, eg_7⟩ : ∃ z : List Value, z = g_5.set 0 (.int n0) := ⟨_, rfl⟩
  have hP : va_P D vwCl [(b8, .inl (T 0, 24, .inl g8)), (b9, .inl (T 0, 24, .inl g9)), (b10, .inl (T 0, 24, .inl g10)), (b11, .inl (T 0, 24, .inl g11)), (b12, .inl (T 0, 36, .inl g12)), (b13, .inl (T 0, 3, .inl g13)), (h0, .inr (10, g_7)), (a0, .inl (T 0, 143, .inl f_6))] H := by rw [eg_7]; exact hP
  have hD : va_D A [(b8, .inl (T 0, 24, .inl g8)), (b9, .inl (T 0, 24, .inl g9)), (b10, .inl (T 0, 24, .inl g10)), (b11, .inl (T 0, 24, .inl g11)), (b12, .inl (T 0, 36, .inl g12)), (b13, .inl (T 0, 3, .inl g13)), (h0, .inr (10, g_7)), (a0, .inl (T 0, 143, .inl f_6))] := by rw [eg_7]; exact hD
  have lg_7 : g_7.length = 45 := by rw [eg_7, List.length_set]; exact lg_5
  have kg_7_0 : g_7[0]? = some (.int n0) := by rw [eg_7]; exact List.getElem?_set_self (by rw [lg_5]; decide)
  have kg_7_1 : g_7[1]? = some (.int n1) := by rw [eg_7, List.getElem?_set_ne (by decide)]; exact kg_5_1
  have kg_7_2 : g_7[2]? = some (.int n2) := by rw [eg_7, List.getElem?_set_ne (by decide)]; exact kg_5_2
  have kg_7_3 : g_7[3]? = some (.int n3) := by rw [eg_7, List.getElem?_set_ne (by decide)]; exact kg_5_3
  have kg_7_4 : g_7[4]? = some (.int n4) := by rw [eg_7, List.getElem?_set_ne (by decide)]; exact kg_5_4
  have kg_7_5 : g_7[5]? = some (.int n5) := by rw [eg_7, List.getElem?_set_ne (by decide)]; exact kg_5_5
  have kg_7_6 : g_7[6]? = some (.int n6) := by rw [eg_7, List.getElem?_set_ne (by decide)]; exact kg_5_6
  have kg_7_7 : g_7[7]? = some (.int 0) := by rw [eg_7, List.getElem?_set_ne (by decide)]; exact kg_5_7
  have kg_7_8 : g_7[8]? = some (.ref b8) := by rw [eg_7, List.getElem?_set_ne (by decide)]; exact kg_5_8
  have kg_7_9 : g_7[9]? = some (.ref b9) := by rw [eg_7, List.getElem?_set_ne (by decide)]; exact kg_5_9
  have kg_7_10 : g_7[10]? = some (.ref b10) := by rw [eg_7, List.getElem?_set_ne (by decide)]; exact kg_5_10
  have kg_7_11 : g_7[11]? = some (.ref b11) := by rw [eg_7, List.getElem?_set_ne (by decide)]; exact kg_5_11
  have kg_7_12 : g_7[12]? = some (.ref b12) := by rw [eg_7, List.getElem?_set_ne (by decide)]; exact kg_5_12
  have kg_7_13 : g_7[13]? = some (.ref b13) := by rw [eg_7, List.getElem?_set_ne (by decide)]; exact kg_5_13
  have kg_7_42 : g_7[42]? = some (.ref a0) := by rw [eg_7, List.getElem?_set_ne (by decide)]; exact kg_5_42
  have kg_7_43 : g_7[43]? = some (.int 1) := by rw [eg_7, List.getElem?_set_ne (by decide)]; exact kg_5_43
  have kg_7_44 : g_7[44]? = some (.int 1) := by rw [eg_7, List.getElem?_set_ne (by decide)]; exact kg_5_44
  refine lv_aload_n hx hb dX13_passesAll_22 rfl (lv_at hl 0 rfl) ?_
  refine lv_aload_n hx hb dX13_passesAll_23 rfl (lv_at hl 0 rfl) ?_
  refine lv_aload_n hx hb dX13_passesAll_24 rfl (lv_at hl 0 rfl) ?_
  refine va_get (D := D) (ci := 10) (v := .int n1) (C := RX13) (T := TX13) (N := 45) hx hb hts in_X13_passesAll_X13 hown hE.1 hP 6 rfl rfl 1 (by decide) (hts (.fieldLink RX13 7 "ClauseBookModel" "up" "I") (List.mem_of_getElem? (i := 4) rfl)) (fun _ h9 => h9) kg_7_1 dX13_passesAll_25 ?_
  have hFc := va_free (wc := [(h0, .inr (10, g_7)), (a0, .inl (T 0, 143, .inl f_6))]) hD hS hA [6, 7] rfl
  refine va_calli (va_runV (As := [.int n1]) (rest := [.ref h0]) ⟨hx, hb, hml, hown, hts⟩ (f_X13_passes l D T _ h0 g_7 (.int n0) (.int n1) (.int n2) (.int n3) (.int n4) (.int n5) (.int n6) (.int 0) (.ref b8) (.ref b9) (.ref b10) (.ref b11) (.ref b12) (.ref b13) a0 f_6 1 2 n1 lg_7 kg_7_0 kg_7_1 kg_7_2 kg_7_3 kg_7_4 kg_7_5 kg_7_6 kg_7_7 kg_7_8 kg_7_9 kg_7_10 kg_7_11 kg_7_12 kg_7_13 kg_7_42 kg_7_43 kg_7_44 (by unfold vp_in; decide) (by decide)) (cwV 1 hts gX13_passesAll_X13_passes rfl rfl rfl (by decide +kernel) ⟨Nat.le_of_ble_eq_true rfl, Nat.le_of_ble_eq_true rfl⟩) (pW_V (ci := 10) (q0 := 6) hP hE hD rfl rfl [6, 7] (by decide) rfl rfl) rfl rfl hl.1 rfl (lv_room (Nat.le_of_ble_eq_true rfl)) dX13_passesAll_28 ⟨Nat.le_of_ble_eq_true rfl, Nat.le_of_ble_eq_true rfl⟩) hS (fun q _ h => hFc q h) hFc (fun r_8 u_9 t H1 locs ht hvm hr_8 hB hz1 hk1 hS => ?_)
  obtain ⟨g_10, f_11⟩ := u_9
  obtain ⟨hxg_10, lg_10, kg_10_0, kg_10_1, kg_10_2, kg_10_3, kg_10_4, kg_10_5, kg_10_6, kg_10_7, kg_10_8, kg_10_9, kg_10_10, kg_10_11, kg_10_12, kg_10_13, kg_10_42, kg_10_43, kg_10_44⟩ := hr_8
  obtain ⟨hP1, hD1⟩ := hB
  rw [ht] at hP1
  obtain ⟨hP, hD⟩ := va_join (wr := [(b8, .inl (T 0, 24, .inl g8)), (b9, .inl (T 0, 24, .inl g9)), (b10, .inl (T 0, 24, .inl g10)), (b11, .inl (T 0, 24, .inl g11)), (b12, .inl (T 0, 36, .inl g12)), (b13, .inl (T 0, 3, .inl g13))]) (w1 := [(h0, .inr (10, g_10)), (a0, .inl (T 0, 143, .inl f_11))]) hP hD [6, 7] [0, 1, 2, 3, 4, 5] rfl rfl (by decide) (by decide) hk1 hFc hP1 hD1
  clear hP1 hD1 hFc
  generalize H1 = H at hP hS ⊢
  have hP : va_P D vwCl [(b8, .inl (T 0, 24, .inl g8)), (b9, .inl (T 0, 24, .inl g9)), (b10, .inl (T 0, 24, .inl g10)), (b11, .inl (T 0, 24, .inl g11)), (b12, .inl (T 0, 36, .inl g12)), (b13, .inl (T 0, 3, .inl g13)), (h0, .inr (10, g_10)), (a0, .inl (T 0, 143, .inl f_11))] H := hP
  have hD : va_D A [(b8, .inl (T 0, 24, .inl g8)), (b9, .inl (T 0, 24, .inl g9)), (b10, .inl (T 0, 24, .inl g10)), (b11, .inl (T 0, 24, .inl g11)), (b12, .inl (T 0, 36, .inl g12)), (b13, .inl (T 0, 3, .inl g13)), (h0, .inr (10, g_10)), (a0, .inl (T 0, 143, .inl f_11))] := hD
  obtain rfl : n1 = r_8 := (hxg_10).symm
  refine va_put (D := D) (ci := 10) (v := .int n1) (ty := .int) (C := RX13) (T := TX13) (N := 45) hx hb hts in_X13_passesAll_X13 tyX13 tyX13_ok nmX13 hown hE.1 hP hD hS 6 rfl rfl 1 (by decide) (hts (.fieldLink RX13 7 "ClauseBookModel" "up" "I") (List.mem_of_getElem? (i := 4) rfl)) (fun _ h9 => h9) rfl (by decide +kernel) rfl rfl (by rw [lg_10]; decide) dX13_passesAll_31 (fun H locs hP hD hS => ?_)
  obtain ⟨g_12, eg_12⟩ : ∃ z : List Value, z = g_10.set 1 (.int n1) := ⟨_, rfl⟩
  have hP : va_P D vwCl [(b8, .inl (T 0, 24, .inl g8)), (b9, .inl (T 0, 24, .inl g9)), (b10, .inl (T 0, 24, .inl g10)), (b11, .inl (T 0, 24, .inl g11)), (b12, .inl (T 0, 36, .inl g12)), (b13, .inl (T 0, 3, .inl g13)), (h0, .inr (10, g_12)), (a0, .inl (T 0, 143, .inl f_11))] H := by rw [eg_12]; exact hP
  have hD : va_D A [(b8, .inl (T 0, 24, .inl g8)), (b9, .inl (T 0, 24, .inl g9)), (b10, .inl (T 0, 24, .inl g10)), (b11, .inl (T 0, 24, .inl g11)), (b12, .inl (T 0, 36, .inl g12)), (b13, .inl (T 0, 3, .inl g13)), (h0, .inr (10, g_12)), (a0, .inl (T 0, 143, .inl f_11))] := by rw [eg_12]; exact hD
  have lg_12 : g_12.length = 45 := by rw [eg_12, List.length_set]; exact lg_10
  have kg_12_1 : g_12[1]? = some (.int n1) := by rw [eg_12]; exact List.getElem?_set_self (by rw [lg_10]; decide)
  have kg_12_0 : g_12[0]? = some (.int n0) := by rw [eg_12, List.getElem?_set_ne (by decide)]; exact kg_10_0
  have kg_12_2 : g_12[2]? = some (.int n2) := by rw [eg_12, List.getElem?_set_ne (by decide)]; exact kg_10_2
  have kg_12_3 : g_12[3]? = some (.int n3) := by rw [eg_12, List.getElem?_set_ne (by decide)]; exact kg_10_3
  have kg_12_4 : g_12[4]? = some (.int n4) := by rw [eg_12, List.getElem?_set_ne (by decide)]; exact kg_10_4
  have kg_12_5 : g_12[5]? = some (.int n5) := by rw [eg_12, List.getElem?_set_ne (by decide)]; exact kg_10_5
  have kg_12_6 : g_12[6]? = some (.int n6) := by rw [eg_12, List.getElem?_set_ne (by decide)]; exact kg_10_6
  have kg_12_7 : g_12[7]? = some (.int 0) := by rw [eg_12, List.getElem?_set_ne (by decide)]; exact kg_10_7
  have kg_12_8 : g_12[8]? = some (.ref b8) := by rw [eg_12, List.getElem?_set_ne (by decide)]; exact kg_10_8
  have kg_12_9 : g_12[9]? = some (.ref b9) := by rw [eg_12, List.getElem?_set_ne (by decide)]; exact kg_10_9
  have kg_12_10 : g_12[10]? = some (.ref b10) := by rw [eg_12, List.getElem?_set_ne (by decide)]; exact kg_10_10
  have kg_12_11 : g_12[11]? = some (.ref b11) := by rw [eg_12, List.getElem?_set_ne (by decide)]; exact kg_10_11
  have kg_12_12 : g_12[12]? = some (.ref b12) := by rw [eg_12, List.getElem?_set_ne (by decide)]; exact kg_10_12
  have kg_12_13 : g_12[13]? = some (.ref b13) := by rw [eg_12, List.getElem?_set_ne (by decide)]; exact kg_10_13
  have kg_12_42 : g_12[42]? = some (.ref a0) := by rw [eg_12, List.getElem?_set_ne (by decide)]; exact kg_10_42
  have kg_12_43 : g_12[43]? = some (.int 2) := by rw [eg_12, List.getElem?_set_ne (by decide)]; exact kg_10_43
  have kg_12_44 : g_12[44]? = some (.int 1) := by rw [eg_12, List.getElem?_set_ne (by decide)]; exact kg_10_44
  refine lv_aload_n hx hb dX13_passesAll_34 rfl (lv_at hl 0 rfl) ?_
  refine lv_aload_n hx hb dX13_passesAll_35 rfl (lv_at hl 0 rfl) ?_
  refine lv_aload_n hx hb dX13_passesAll_36 rfl (lv_at hl 0 rfl) ?_
  refine va_get (D := D) (ci := 10) (v := .int n2) (C := RX13) (T := TX13) (N := 45) hx hb hts in_X13_passesAll_X13 hown hE.1 hP 6 rfl rfl 2 (by decide) (hts (.fieldLink RX13 13 "ClauseBookModel" "down" "I") (List.mem_of_getElem? (i := 5) rfl)) (fun _ h9 => h9) kg_12_2 dX13_passesAll_37 ?_
  have hFc := va_free (wc := [(h0, .inr (10, g_12)), (a0, .inl (T 0, 143, .inl f_11))]) hD hS hA [6, 7] rfl
  refine va_calli (va_runV (As := [.int n2]) (rest := [.ref h0]) ⟨hx, hb, hml, hown, hts⟩ (f_X13_passes l D T _ h0 g_12 (.int n0) (.int n1) (.int n2) (.int n3) (.int n4) (.int n5) (.int n6) (.int 0) (.ref b8) (.ref b9) (.ref b10) (.ref b11) (.ref b12) (.ref b13) a0 f_11 2 3 n2 lg_12 kg_12_0 kg_12_1 kg_12_2 kg_12_3 kg_12_4 kg_12_5 kg_12_6 kg_12_7 kg_12_8 kg_12_9 kg_12_10 kg_12_11 kg_12_12 kg_12_13 kg_12_42 kg_12_43 kg_12_44 (by unfold vp_in; decide) (by decide)) (cwV 1 hts gX13_passesAll_X13_passes rfl rfl rfl (by decide +kernel) ⟨Nat.le_of_ble_eq_true rfl, Nat.le_of_ble_eq_true rfl⟩) (pW_V (ci := 10) (q0 := 6) hP hE hD rfl rfl [6, 7] (by decide) rfl rfl) rfl rfl hl.1 rfl (lv_room (Nat.le_of_ble_eq_true rfl)) dX13_passesAll_40 ⟨Nat.le_of_ble_eq_true rfl, Nat.le_of_ble_eq_true rfl⟩) hS (fun q _ h => hFc q h) hFc (fun r_13 u_14 t H1 locs ht hvm hr_13 hB hz1 hk1 hS => ?_)
  obtain ⟨g_15, f_16⟩ := u_14
  obtain ⟨hxg_15, lg_15, kg_15_0, kg_15_1, kg_15_2, kg_15_3, kg_15_4, kg_15_5, kg_15_6, kg_15_7, kg_15_8, kg_15_9, kg_15_10, kg_15_11, kg_15_12, kg_15_13, kg_15_42, kg_15_43, kg_15_44⟩ := hr_13
  obtain ⟨hP1, hD1⟩ := hB
  rw [ht] at hP1
  obtain ⟨hP, hD⟩ := va_join (wr := [(b8, .inl (T 0, 24, .inl g8)), (b9, .inl (T 0, 24, .inl g9)), (b10, .inl (T 0, 24, .inl g10)), (b11, .inl (T 0, 24, .inl g11)), (b12, .inl (T 0, 36, .inl g12)), (b13, .inl (T 0, 3, .inl g13))]) (w1 := [(h0, .inr (10, g_15)), (a0, .inl (T 0, 143, .inl f_16))]) hP hD [6, 7] [0, 1, 2, 3, 4, 5] rfl rfl (by decide) (by decide) hk1 hFc hP1 hD1
  clear hP1 hD1 hFc
  generalize H1 = H at hP hS ⊢
  have hP : va_P D vwCl [(b8, .inl (T 0, 24, .inl g8)), (b9, .inl (T 0, 24, .inl g9)), (b10, .inl (T 0, 24, .inl g10)), (b11, .inl (T 0, 24, .inl g11)), (b12, .inl (T 0, 36, .inl g12)), (b13, .inl (T 0, 3, .inl g13)), (h0, .inr (10, g_15)), (a0, .inl (T 0, 143, .inl f_16))] H := hP
  have hD : va_D A [(b8, .inl (T 0, 24, .inl g8)), (b9, .inl (T 0, 24, .inl g9)), (b10, .inl (T 0, 24, .inl g10)), (b11, .inl (T 0, 24, .inl g11)), (b12, .inl (T 0, 36, .inl g12)), (b13, .inl (T 0, 3, .inl g13)), (h0, .inr (10, g_15)), (a0, .inl (T 0, 143, .inl f_16))] := hD
  obtain rfl : n2 = r_13 := (hxg_15).symm
  refine va_put (D := D) (ci := 10) (v := .int n2) (ty := .int) (C := RX13) (T := TX13) (N := 45) hx hb hts in_X13_passesAll_X13 tyX13 tyX13_ok nmX13 hown hE.1 hP hD hS 6 rfl rfl 2 (by decide) (hts (.fieldLink RX13 13 "ClauseBookModel" "down" "I") (List.mem_of_getElem? (i := 5) rfl)) (fun _ h9 => h9) rfl (by decide +kernel) rfl rfl (by rw [lg_15]; decide) dX13_passesAll_43 (fun H locs hP hD hS => ?_)
  obtain ⟨g_17, eg_17⟩ : ∃ z : List Value, z = g_15.set 2 (.int n2) := ⟨_, rfl⟩
  have hP : va_P D vwCl [(b8, .inl (T 0, 24, .inl g8)), (b9, .inl (T 0, 24, .inl g9)), (b10, .inl (T 0, 24, .inl g10)), (b11, .inl (T 0, 24, .inl g11)), (b12, .inl (T 0, 36, .inl g12)), (b13, .inl (T 0, 3, .inl g13)), (h0, .inr (10, g_17)), (a0, .inl (T 0, 143, .inl f_16))] H := by rw [eg_17]; exact hP
  have hD : va_D A [(b8, .inl (T 0, 24, .inl g8)), (b9, .inl (T 0, 24, .inl g9)), (b10, .inl (T 0, 24, .inl g10)), (b11, .inl (T 0, 24, .inl g11)), (b12, .inl (T 0, 36, .inl g12)), (b13, .inl (T 0, 3, .inl g13)), (h0, .inr (10, g_17)), (a0, .inl (T 0, 143, .inl f_16))] := by rw [eg_17]; exact hD
  have lg_17 : g_17.length = 45 := by rw [eg_17, List.length_set]; exact lg_15
  have kg_17_2 : g_17[2]? = some (.int n2) := by rw [eg_17]; exact List.getElem?_set_self (by rw [lg_15]; decide)
  have kg_17_0 : g_17[0]? = some (.int n0) := by rw [eg_17, List.getElem?_set_ne (by decide)]; exact kg_15_0
  have kg_17_1 : g_17[1]? = some (.int n1) := by rw [eg_17, List.getElem?_set_ne (by decide)]; exact kg_15_1
  have kg_17_3 : g_17[3]? = some (.int n3) := by rw [eg_17, List.getElem?_set_ne (by decide)]; exact kg_15_3
  have kg_17_4 : g_17[4]? = some (.int n4) := by rw [eg_17, List.getElem?_set_ne (by decide)]; exact kg_15_4
  have kg_17_5 : g_17[5]? = some (.int n5) := by rw [eg_17, List.getElem?_set_ne (by decide)]; exact kg_15_5
  have kg_17_6 : g_17[6]? = some (.int n6) := by rw [eg_17, List.getElem?_set_ne (by decide)]; exact kg_15_6
  have kg_17_7 : g_17[7]? = some (.int 0) := by rw [eg_17, List.getElem?_set_ne (by decide)]; exact kg_15_7
  have kg_17_8 : g_17[8]? = some (.ref b8) := by rw [eg_17, List.getElem?_set_ne (by decide)]; exact kg_15_8
  have kg_17_9 : g_17[9]? = some (.ref b9) := by rw [eg_17, List.getElem?_set_ne (by decide)]; exact kg_15_9
  have kg_17_10 : g_17[10]? = some (.ref b10) := by rw [eg_17, List.getElem?_set_ne (by decide)]; exact kg_15_10
  have kg_17_11 : g_17[11]? = some (.ref b11) := by rw [eg_17, List.getElem?_set_ne (by decide)]; exact kg_15_11
  have kg_17_12 : g_17[12]? = some (.ref b12) := by rw [eg_17, List.getElem?_set_ne (by decide)]; exact kg_15_12
  have kg_17_13 : g_17[13]? = some (.ref b13) := by rw [eg_17, List.getElem?_set_ne (by decide)]; exact kg_15_13
  have kg_17_42 : g_17[42]? = some (.ref a0) := by rw [eg_17, List.getElem?_set_ne (by decide)]; exact kg_15_42
  have kg_17_43 : g_17[43]? = some (.int 3) := by rw [eg_17, List.getElem?_set_ne (by decide)]; exact kg_15_43
  have kg_17_44 : g_17[44]? = some (.int 1) := by rw [eg_17, List.getElem?_set_ne (by decide)]; exact kg_15_44
  refine lv_aload_n hx hb dX13_passesAll_46 rfl (lv_at hl 0 rfl) ?_
  refine lv_aload_n hx hb dX13_passesAll_47 rfl (lv_at hl 0 rfl) ?_
  refine lv_aload_n hx hb dX13_passesAll_48 rfl (lv_at hl 0 rfl) ?_
  refine va_get (D := D) (ci := 10) (v := .int n3) (C := RX13) (T := TX13) (N := 45) hx hb hts in_X13_passesAll_X13 hown hE.1 hP 6 rfl rfl 3 (by decide) (hts (.fieldLink RX13 16 "ClauseBookModel" "oddsP" "I") (List.mem_of_getElem? (i := 6) rfl)) (fun _ h9 => h9) kg_17_3 dX13_passesAll_49 ?_
  have hFc := va_free (wc := [(h0, .inr (10, g_17)), (a0, .inl (T 0, 143, .inl f_16))]) hD hS hA [6, 7] rfl
  refine va_calli (va_runV (As := [.int n3]) (rest := [.ref h0]) ⟨hx, hb, hml, hown, hts⟩ (f_X13_passes l D T _ h0 g_17 (.int n0) (.int n1) (.int n2) (.int n3) (.int n4) (.int n5) (.int n6) (.int 0) (.ref b8) (.ref b9) (.ref b10) (.ref b11) (.ref b12) (.ref b13) a0 f_16 3 4 n3 lg_17 kg_17_0 kg_17_1 kg_17_2 kg_17_3 kg_17_4 kg_17_5 kg_17_6 kg_17_7 kg_17_8 kg_17_9 kg_17_10 kg_17_11 kg_17_12 kg_17_13 kg_17_42 kg_17_43 kg_17_44 (by unfold vp_in; decide) (by decide)) (cwV 1 hts gX13_passesAll_X13_passes rfl rfl rfl (by decide +kernel) ⟨Nat.le_of_ble_eq_true rfl, Nat.le_of_ble_eq_true rfl⟩) (pW_V (ci := 10) (q0 := 6) hP hE hD rfl rfl [6, 7] (by decide) rfl rfl) rfl rfl hl.1 rfl (lv_room (Nat.le_of_ble_eq_true rfl)) dX13_passesAll_52 ⟨Nat.le_of_ble_eq_true rfl, Nat.le_of_ble_eq_true rfl⟩) hS (fun q _ h => hFc q h) hFc (fun r_18 u_19 t H1 locs ht hvm hr_18 hB hz1 hk1 hS => ?_)
  obtain ⟨g_20, f_21⟩ := u_19
  obtain ⟨hxg_20, lg_20, kg_20_0, kg_20_1, kg_20_2, kg_20_3, kg_20_4, kg_20_5, kg_20_6, kg_20_7, kg_20_8, kg_20_9, kg_20_10, kg_20_11, kg_20_12, kg_20_13, kg_20_42, kg_20_43, kg_20_44⟩ := hr_18
  obtain ⟨hP1, hD1⟩ := hB
  rw [ht] at hP1
  obtain ⟨hP, hD⟩ := va_join (wr := [(b8, .inl (T 0, 24, .inl g8)), (b9, .inl (T 0, 24, .inl g9)), (b10, .inl (T 0, 24, .inl g10)), (b11, .inl (T 0, 24, .inl g11)), (b12, .inl (T 0, 36, .inl g12)), (b13, .inl (T 0, 3, .inl g13))]) (w1 := [(h0, .inr (10, g_20)), (a0, .inl (T 0, 143, .inl f_21))]) hP hD [6, 7] [0, 1, 2, 3, 4, 5] rfl rfl (by decide) (by decide) hk1 hFc hP1 hD1
  clear hP1 hD1 hFc
  generalize H1 = H at hP hS ⊢
  have hP : va_P D vwCl [(b8, .inl (T 0, 24, .inl g8)), (b9, .inl (T 0, 24, .inl g9)), (b10, .inl (T 0, 24, .inl g10)), (b11, .inl (T 0, 24, .inl g11)), (b12, .inl (T 0, 36, .inl g12)), (b13, .inl (T 0, 3, .inl g13)), (h0, .inr (10, g_20)), (a0, .inl (T 0, 143, .inl f_21))] H := hP
  have hD : va_D A [(b8, .inl (T 0, 24, .inl g8)), (b9, .inl (T 0, 24, .inl g9)), (b10, .inl (T 0, 24, .inl g10)), (b11, .inl (T 0, 24, .inl g11)), (b12, .inl (T 0, 36, .inl g12)), (b13, .inl (T 0, 3, .inl g13)), (h0, .inr (10, g_20)), (a0, .inl (T 0, 143, .inl f_21))] := hD
  obtain rfl : n3 = r_18 := (hxg_20).symm
  refine va_put (D := D) (ci := 10) (v := .int n3) (ty := .int) (C := RX13) (T := TX13) (N := 45) hx hb hts in_X13_passesAll_X13 tyX13 tyX13_ok nmX13 hown hE.1 hP hD hS 6 rfl rfl 3 (by decide) (hts (.fieldLink RX13 16 "ClauseBookModel" "oddsP" "I") (List.mem_of_getElem? (i := 6) rfl)) (fun _ h9 => h9) rfl (by decide +kernel) rfl rfl (by rw [lg_20]; decide) dX13_passesAll_55 (fun H locs hP hD hS => ?_)
  obtain ⟨g_22, eg_22⟩ : ∃ z : List Value, z = g_20.set 3 (.int n3) := ⟨_, rfl⟩
  have hP : va_P D vwCl [(b8, .inl (T 0, 24, .inl g8)), (b9, .inl (T 0, 24, .inl g9)), (b10, .inl (T 0, 24, .inl g10)), (b11, .inl (T 0, 24, .inl g11)), (b12, .inl (T 0, 36, .inl g12)), (b13, .inl (T 0, 3, .inl g13)), (h0, .inr (10, g_22)), (a0, .inl (T 0, 143, .inl f_21))] H := by rw [eg_22]; exact hP
  have hD : va_D A [(b8, .inl (T 0, 24, .inl g8)), (b9, .inl (T 0, 24, .inl g9)), (b10, .inl (T 0, 24, .inl g10)), (b11, .inl (T 0, 24, .inl g11)), (b12, .inl (T 0, 36, .inl g12)), (b13, .inl (T 0, 3, .inl g13)), (h0, .inr (10, g_22)), (a0, .inl (T 0, 143, .inl f_21))] := by rw [eg_22]; exact hD
  have lg_22 : g_22.length = 45 := by rw [eg_22, List.length_set]; exact lg_20
  have kg_22_3 : g_22[3]? = some (.int n3) := by rw [eg_22]; exact List.getElem?_set_self (by rw [lg_20]; decide)
  have kg_22_0 : g_22[0]? = some (.int n0) := by rw [eg_22, List.getElem?_set_ne (by decide)]; exact kg_20_0
  have kg_22_1 : g_22[1]? = some (.int n1) := by rw [eg_22, List.getElem?_set_ne (by decide)]; exact kg_20_1
  have kg_22_2 : g_22[2]? = some (.int n2) := by rw [eg_22, List.getElem?_set_ne (by decide)]; exact kg_20_2
  have kg_22_4 : g_22[4]? = some (.int n4) := by rw [eg_22, List.getElem?_set_ne (by decide)]; exact kg_20_4
  have kg_22_5 : g_22[5]? = some (.int n5) := by rw [eg_22, List.getElem?_set_ne (by decide)]; exact kg_20_5
  have kg_22_6 : g_22[6]? = some (.int n6) := by rw [eg_22, List.getElem?_set_ne (by decide)]; exact kg_20_6
  have kg_22_7 : g_22[7]? = some (.int 0) := by rw [eg_22, List.getElem?_set_ne (by decide)]; exact kg_20_7
  have kg_22_8 : g_22[8]? = some (.ref b8) := by rw [eg_22, List.getElem?_set_ne (by decide)]; exact kg_20_8
  have kg_22_9 : g_22[9]? = some (.ref b9) := by rw [eg_22, List.getElem?_set_ne (by decide)]; exact kg_20_9
  have kg_22_10 : g_22[10]? = some (.ref b10) := by rw [eg_22, List.getElem?_set_ne (by decide)]; exact kg_20_10
  have kg_22_11 : g_22[11]? = some (.ref b11) := by rw [eg_22, List.getElem?_set_ne (by decide)]; exact kg_20_11
  have kg_22_12 : g_22[12]? = some (.ref b12) := by rw [eg_22, List.getElem?_set_ne (by decide)]; exact kg_20_12
  have kg_22_13 : g_22[13]? = some (.ref b13) := by rw [eg_22, List.getElem?_set_ne (by decide)]; exact kg_20_13
  have kg_22_42 : g_22[42]? = some (.ref a0) := by rw [eg_22, List.getElem?_set_ne (by decide)]; exact kg_20_42
  have kg_22_43 : g_22[43]? = some (.int 4) := by rw [eg_22, List.getElem?_set_ne (by decide)]; exact kg_20_43
  have kg_22_44 : g_22[44]? = some (.int 1) := by rw [eg_22, List.getElem?_set_ne (by decide)]; exact kg_20_44
  refine lv_aload_n hx hb dX13_passesAll_58 rfl (lv_at hl 0 rfl) ?_
  refine lv_aload_n hx hb dX13_passesAll_59 rfl (lv_at hl 0 rfl) ?_
  refine lv_aload_n hx hb dX13_passesAll_60 rfl (lv_at hl 0 rfl) ?_
  refine va_get (D := D) (ci := 10) (v := .int n4) (C := RX13) (T := TX13) (N := 45) hx hb hts in_X13_passesAll_X13 hown hE.1 hP 6 rfl rfl 4 (by decide) (hts (.fieldLink RX13 19 "ClauseBookModel" "oddsQ" "I") (List.mem_of_getElem? (i := 7) rfl)) (fun _ h9 => h9) kg_22_4 dX13_passesAll_61 ?_
  have hFc := va_free (wc := [(h0, .inr (10, g_22)), (a0, .inl (T 0, 143, .inl f_21))]) hD hS hA [6, 7] rfl
  refine va_calli (va_runV (As := [.int n4]) (rest := [.ref h0]) ⟨hx, hb, hml, hown, hts⟩ (f_X13_passes l D T _ h0 g_22 (.int n0) (.int n1) (.int n2) (.int n3) (.int n4) (.int n5) (.int n6) (.int 0) (.ref b8) (.ref b9) (.ref b10) (.ref b11) (.ref b12) (.ref b13) a0 f_21 4 5 n4 lg_22 kg_22_0 kg_22_1 kg_22_2 kg_22_3 kg_22_4 kg_22_5 kg_22_6 kg_22_7 kg_22_8 kg_22_9 kg_22_10 kg_22_11 kg_22_12 kg_22_13 kg_22_42 kg_22_43 kg_22_44 (by unfold vp_in; decide) (by decide)) (cwV 1 hts gX13_passesAll_X13_passes rfl rfl rfl (by decide +kernel) ⟨Nat.le_of_ble_eq_true rfl, Nat.le_of_ble_eq_true rfl⟩) (pW_V (ci := 10) (q0 := 6) hP hE hD rfl rfl [6, 7] (by decide) rfl rfl) rfl rfl hl.1 rfl (lv_room (Nat.le_of_ble_eq_true rfl)) dX13_passesAll_64 ⟨Nat.le_of_ble_eq_true rfl, Nat.le_of_ble_eq_true rfl⟩) hS (fun q _ h => hFc q h) hFc (fun r_23 u_24 t H1 locs ht hvm hr_23 hB hz1 hk1 hS => ?_)
  obtain ⟨g_25, f_26⟩ := u_24
  obtain ⟨hxg_25, lg_25, kg_25_0, kg_25_1, kg_25_2, kg_25_3, kg_25_4, kg_25_5, kg_25_6, kg_25_7, kg_25_8, kg_25_9, kg_25_10, kg_25_11, kg_25_12, kg_25_13, kg_25_42, kg_25_43, kg_25_44⟩ := hr_23
  obtain ⟨hP1, hD1⟩ := hB
  rw [ht] at hP1
  obtain ⟨hP, hD⟩ := va_join (wr := [(b8, .inl (T 0, 24, .inl g8)), (b9, .inl (T 0, 24, .inl g9)), (b10, .inl (T 0, 24, .inl g10)), (b11, .inl (T 0, 24, .inl g11)), (b12, .inl (T 0, 36, .inl g12)), (b13, .inl (T 0, 3, .inl g13))]) (w1 := [(h0, .inr (10, g_25)), (a0, .inl (T 0, 143, .inl f_26))]) hP hD [6, 7] [0, 1, 2, 3, 4, 5] rfl rfl (by decide) (by decide) hk1 hFc hP1 hD1
  clear hP1 hD1 hFc
  generalize H1 = H at hP hS ⊢
  have hP : va_P D vwCl [(b8, .inl (T 0, 24, .inl g8)), (b9, .inl (T 0, 24, .inl g9)), (b10, .inl (T 0, 24, .inl g10)), (b11, .inl (T 0, 24, .inl g11)), (b12, .inl (T 0, 36, .inl g12)), (b13, .inl (T 0, 3, .inl g13)), (h0, .inr (10, g_25)), (a0, .inl (T 0, 143, .inl f_26))] H := hP
  have hD : va_D A [(b8, .inl (T 0, 24, .inl g8)), (b9, .inl (T 0, 24, .inl g9)), (b10, .inl (T 0, 24, .inl g10)), (b11, .inl (T 0, 24, .inl g11)), (b12, .inl (T 0, 36, .inl g12)), (b13, .inl (T 0, 3, .inl g13)), (h0, .inr (10, g_25)), (a0, .inl (T 0, 143, .inl f_26))] := hD
  obtain rfl : n4 = r_23 := (hxg_25).symm
  refine va_put (D := D) (ci := 10) (v := .int n4) (ty := .int) (C := RX13) (T := TX13) (N := 45) hx hb hts in_X13_passesAll_X13 tyX13 tyX13_ok nmX13 hown hE.1 hP hD hS 6 rfl rfl 4 (by decide) (hts (.fieldLink RX13 19 "ClauseBookModel" "oddsQ" "I") (List.mem_of_getElem? (i := 7) rfl)) (fun _ h9 => h9) rfl (by decide +kernel) rfl rfl (by rw [lg_25]; decide) dX13_passesAll_67 (fun H locs hP hD hS => ?_)
  obtain ⟨g_27, eg_27⟩ : ∃ z : List Value, z = g_25.set 4 (.int n4) := ⟨_, rfl⟩
  have hP : va_P D vwCl [(b8, .inl (T 0, 24, .inl g8)), (b9, .inl (T 0, 24, .inl g9)), (b10, .inl (T 0, 24, .inl g10)), (b11, .inl (T 0, 24, .inl g11)), (b12, .inl (T 0, 36, .inl g12)), (b13, .inl (T 0, 3, .inl g13)), (h0, .inr (10, g_27)), (a0, .inl (T 0, 143, .inl f_26))] H := by rw [eg_27]; exact hP
  have hD : va_D A [(b8, .inl (T 0, 24, .inl g8)), (b9, .inl (T 0, 24, .inl g9)), (b10, .inl (T 0, 24, .inl g10)), (b11, .inl (T 0, 24, .inl g11)), (b12, .inl (T 0, 36, .inl g12)), (b13, .inl (T 0, 3, .inl g13)), (h0, .inr (10, g_27)), (a0, .inl (T 0, 143, .inl f_26))] := by rw [eg_27]; exact hD
  have lg_27 : g_27.length = 45 := by rw [eg_27, List.length_set]; exact lg_25
  have kg_27_4 : g_27[4]? = some (.int n4) := by rw [eg_27]; exact List.getElem?_set_self (by rw [lg_25]; decide)
  have kg_27_0 : g_27[0]? = some (.int n0) := by rw [eg_27, List.getElem?_set_ne (by decide)]; exact kg_25_0
  have kg_27_1 : g_27[1]? = some (.int n1) := by rw [eg_27, List.getElem?_set_ne (by decide)]; exact kg_25_1
  have kg_27_2 : g_27[2]? = some (.int n2) := by rw [eg_27, List.getElem?_set_ne (by decide)]; exact kg_25_2
  have kg_27_3 : g_27[3]? = some (.int n3) := by rw [eg_27, List.getElem?_set_ne (by decide)]; exact kg_25_3
  have kg_27_5 : g_27[5]? = some (.int n5) := by rw [eg_27, List.getElem?_set_ne (by decide)]; exact kg_25_5
  have kg_27_6 : g_27[6]? = some (.int n6) := by rw [eg_27, List.getElem?_set_ne (by decide)]; exact kg_25_6
  have kg_27_7 : g_27[7]? = some (.int 0) := by rw [eg_27, List.getElem?_set_ne (by decide)]; exact kg_25_7
  have kg_27_8 : g_27[8]? = some (.ref b8) := by rw [eg_27, List.getElem?_set_ne (by decide)]; exact kg_25_8
  have kg_27_9 : g_27[9]? = some (.ref b9) := by rw [eg_27, List.getElem?_set_ne (by decide)]; exact kg_25_9
  have kg_27_10 : g_27[10]? = some (.ref b10) := by rw [eg_27, List.getElem?_set_ne (by decide)]; exact kg_25_10
  have kg_27_11 : g_27[11]? = some (.ref b11) := by rw [eg_27, List.getElem?_set_ne (by decide)]; exact kg_25_11
  have kg_27_12 : g_27[12]? = some (.ref b12) := by rw [eg_27, List.getElem?_set_ne (by decide)]; exact kg_25_12
  have kg_27_13 : g_27[13]? = some (.ref b13) := by rw [eg_27, List.getElem?_set_ne (by decide)]; exact kg_25_13
  have kg_27_42 : g_27[42]? = some (.ref a0) := by rw [eg_27, List.getElem?_set_ne (by decide)]; exact kg_25_42
  have kg_27_43 : g_27[43]? = some (.int 5) := by rw [eg_27, List.getElem?_set_ne (by decide)]; exact kg_25_43
  have kg_27_44 : g_27[44]? = some (.int 1) := by rw [eg_27, List.getElem?_set_ne (by decide)]; exact kg_25_44
  refine lv_aload_n hx hb dX13_passesAll_70 rfl (lv_at hl 0 rfl) ?_
  refine lv_aload_n hx hb dX13_passesAll_71 rfl (lv_at hl 0 rfl) ?_
  refine lv_aload_n hx hb dX13_passesAll_72 rfl (lv_at hl 0 rfl) ?_
  refine va_get (D := D) (ci := 10) (v := .int n5) (C := RX13) (T := TX13) (N := 45) hx hb hts in_X13_passesAll_X13 hown hE.1 hP 6 rfl rfl 5 (by decide) (hts (.fieldLink RX13 22 "ClauseBookModel" "waitA" "I") (List.mem_of_getElem? (i := 8) rfl)) (fun _ h9 => h9) kg_27_5 dX13_passesAll_73 ?_
  have hFc := va_free (wc := [(h0, .inr (10, g_27)), (a0, .inl (T 0, 143, .inl f_26))]) hD hS hA [6, 7] rfl
  refine va_calli (va_runV (As := [.int n5]) (rest := [.ref h0]) ⟨hx, hb, hml, hown, hts⟩ (f_X13_passes l D T _ h0 g_27 (.int n0) (.int n1) (.int n2) (.int n3) (.int n4) (.int n5) (.int n6) (.int 0) (.ref b8) (.ref b9) (.ref b10) (.ref b11) (.ref b12) (.ref b13) a0 f_26 5 6 n5 lg_27 kg_27_0 kg_27_1 kg_27_2 kg_27_3 kg_27_4 kg_27_5 kg_27_6 kg_27_7 kg_27_8 kg_27_9 kg_27_10 kg_27_11 kg_27_12 kg_27_13 kg_27_42 kg_27_43 kg_27_44 (by unfold vp_in; decide) (by decide)) (cwV 1 hts gX13_passesAll_X13_passes rfl rfl rfl (by decide +kernel) ⟨Nat.le_of_ble_eq_true rfl, Nat.le_of_ble_eq_true rfl⟩) (pW_V (ci := 10) (q0 := 6) hP hE hD rfl rfl [6, 7] (by decide) rfl rfl) rfl rfl hl.1 rfl (lv_room (Nat.le_of_ble_eq_true rfl)) dX13_passesAll_76 ⟨Nat.le_of_ble_eq_true rfl, Nat.le_of_ble_eq_true rfl⟩) hS (fun q _ h => hFc q h) hFc (fun r_28 u_29 t H1 locs ht hvm hr_28 hB hz1 hk1 hS => ?_)
  obtain ⟨g_30, f_31⟩ := u_29
  obtain ⟨hxg_30, lg_30, kg_30_0, kg_30_1, kg_30_2, kg_30_3, kg_30_4, kg_30_5, kg_30_6, kg_30_7, kg_30_8, kg_30_9, kg_30_10, kg_30_11, kg_30_12, kg_30_13, kg_30_42, kg_30_43, kg_30_44⟩ := hr_28
  obtain ⟨hP1, hD1⟩ := hB
  rw [ht] at hP1
  obtain ⟨hP, hD⟩ := va_join (wr := [(b8, .inl (T 0, 24, .inl g8)), (b9, .inl (T 0, 24, .inl g9)), (b10, .inl (T 0, 24, .inl g10)), (b11, .inl (T 0, 24, .inl g11)), (b12, .inl (T 0, 36, .inl g12)), (b13, .inl (T 0, 3, .inl g13))]) (w1 := [(h0, .inr (10, g_30)), (a0, .inl (T 0, 143, .inl f_31))]) hP hD [6, 7] [0, 1, 2, 3, 4, 5] rfl rfl (by decide) (by decide) hk1 hFc hP1 hD1
  clear hP1 hD1 hFc
  generalize H1 = H at hP hS ⊢
  have hP : va_P D vwCl [(b8, .inl (T 0, 24, .inl g8)), (b9, .inl (T 0, 24, .inl g9)), (b10, .inl (T 0, 24, .inl g10)), (b11, .inl (T 0, 24, .inl g11)), (b12, .inl (T 0, 36, .inl g12)), (b13, .inl (T 0, 3, .inl g13)), (h0, .inr (10, g_30)), (a0, .inl (T 0, 143, .inl f_31))] H := hP
  have hD : va_D A [(b8, .inl (T 0, 24, .inl g8)), (b9, .inl (T 0, 24, .inl g9)), (b10, .inl (T 0, 24, .inl g10)), (b11, .inl (T 0, 24, .inl g11)), (b12, .inl (T 0, 36, .inl g12)), (b13, .inl (T 0, 3, .inl g13)), (h0, .inr (10, g_30)), (a0, .inl (T 0, 143, .inl f_31))] := hD
  obtain rfl : n5 = r_28 := (hxg_30).symm
  refine va_put (D := D) (ci := 10) (v := .int n5) (ty := .int) (C := RX13) (T := TX13) (N := 45) hx hb hts in_X13_passesAll_X13 tyX13 tyX13_ok nmX13 hown hE.1 hP hD hS 6 rfl rfl 5 (by decide) (hts (.fieldLink RX13 22 "ClauseBookModel" "waitA" "I") (List.mem_of_getElem? (i := 8) rfl)) (fun _ h9 => h9) rfl (by decide +kernel) rfl rfl (by rw [lg_30]; decide) dX13_passesAll_79 (fun H locs hP hD hS => ?_)
  obtain ⟨g_32, eg_32⟩ : ∃ z : List Value, z = g_30.set 5 (.int n5) := ⟨_, rfl⟩
  have hP : va_P D vwCl [(b8, .inl (T 0, 24, .inl g8)), (b9, .inl (T 0, 24, .inl g9)), (b10, .inl (T 0, 24, .inl g10)), (b11, .inl (T 0, 24, .inl g11)), (b12, .inl (T 0, 36, .inl g12)), (b13, .inl (T 0, 3, .inl g13)), (h0, .inr (10, g_32)), (a0, .inl (T 0, 143, .inl f_31))] H := by rw [eg_32]; exact hP
  have hD : va_D A [(b8, .inl (T 0, 24, .inl g8)), (b9, .inl (T 0, 24, .inl g9)), (b10, .inl (T 0, 24, .inl g10)), (b11, .inl (T 0, 24, .inl g11)), (b12, .inl (T 0, 36, .inl g12)), (b13, .inl (T 0, 3, .inl g13)), (h0, .inr (10, g_32)), (a0, .inl (T 0, 143, .inl f_31))] := by rw [eg_32]; exact hD
  have lg_32 : g_32.length = 45 := by rw [eg_32, List.length_set]; exact lg_30
  have kg_32_5 : g_32[5]? = some (.int n5) := by rw [eg_32]; exact List.getElem?_set_self (by rw [lg_30]; decide)
  have kg_32_0 : g_32[0]? = some (.int n0) := by rw [eg_32, List.getElem?_set_ne (by decide)]; exact kg_30_0
  have kg_32_1 : g_32[1]? = some (.int n1) := by rw [eg_32, List.getElem?_set_ne (by decide)]; exact kg_30_1
  have kg_32_2 : g_32[2]? = some (.int n2) := by rw [eg_32, List.getElem?_set_ne (by decide)]; exact kg_30_2
  have kg_32_3 : g_32[3]? = some (.int n3) := by rw [eg_32, List.getElem?_set_ne (by decide)]; exact kg_30_3
  have kg_32_4 : g_32[4]? = some (.int n4) := by rw [eg_32, List.getElem?_set_ne (by decide)]; exact kg_30_4
  have kg_32_6 : g_32[6]? = some (.int n6) := by rw [eg_32, List.getElem?_set_ne (by decide)]; exact kg_30_6
  have kg_32_7 : g_32[7]? = some (.int 0) := by rw [eg_32, List.getElem?_set_ne (by decide)]; exact kg_30_7
  have kg_32_8 : g_32[8]? = some (.ref b8) := by rw [eg_32, List.getElem?_set_ne (by decide)]; exact kg_30_8
  have kg_32_9 : g_32[9]? = some (.ref b9) := by rw [eg_32, List.getElem?_set_ne (by decide)]; exact kg_30_9
  have kg_32_10 : g_32[10]? = some (.ref b10) := by rw [eg_32, List.getElem?_set_ne (by decide)]; exact kg_30_10
  have kg_32_11 : g_32[11]? = some (.ref b11) := by rw [eg_32, List.getElem?_set_ne (by decide)]; exact kg_30_11
  have kg_32_12 : g_32[12]? = some (.ref b12) := by rw [eg_32, List.getElem?_set_ne (by decide)]; exact kg_30_12
  have kg_32_13 : g_32[13]? = some (.ref b13) := by rw [eg_32, List.getElem?_set_ne (by decide)]; exact kg_30_13
  have kg_32_42 : g_32[42]? = some (.ref a0) := by rw [eg_32, List.getElem?_set_ne (by decide)]; exact kg_30_42
  have kg_32_43 : g_32[43]? = some (.int 6) := by rw [eg_32, List.getElem?_set_ne (by decide)]; exact kg_30_43
  have kg_32_44 : g_32[44]? = some (.int 1) := by rw [eg_32, List.getElem?_set_ne (by decide)]; exact kg_30_44
  refine lv_aload_n hx hb dX13_passesAll_82 rfl (lv_at hl 0 rfl) ?_
  refine lv_aload_n hx hb dX13_passesAll_83 rfl (lv_at hl 0 rfl) ?_
  refine lv_aload_n hx hb dX13_passesAll_84 rfl (lv_at hl 0 rfl) ?_
  refine va_get (D := D) (ci := 10) (v := .int n6) (C := RX13) (T := TX13) (N := 45) hx hb hts in_X13_passesAll_X13 hown hE.1 hP 6 rfl rfl 6 (by decide) (hts (.fieldLink RX13 25 "ClauseBookModel" "waitB" "I") (List.mem_of_getElem? (i := 9) rfl)) (fun _ h9 => h9) kg_32_6 dX13_passesAll_85 ?_
  have hFc := va_free (wc := [(h0, .inr (10, g_32)), (a0, .inl (T 0, 143, .inl f_31))]) hD hS hA [6, 7] rfl
  refine va_calli (va_runV (As := [.int n6]) (rest := [.ref h0]) ⟨hx, hb, hml, hown, hts⟩ (f_X13_passes l D T _ h0 g_32 (.int n0) (.int n1) (.int n2) (.int n3) (.int n4) (.int n5) (.int n6) (.int 0) (.ref b8) (.ref b9) (.ref b10) (.ref b11) (.ref b12) (.ref b13) a0 f_31 6 7 n6 lg_32 kg_32_0 kg_32_1 kg_32_2 kg_32_3 kg_32_4 kg_32_5 kg_32_6 kg_32_7 kg_32_8 kg_32_9 kg_32_10 kg_32_11 kg_32_12 kg_32_13 kg_32_42 kg_32_43 kg_32_44 (by unfold vp_in; decide) (by decide)) (cwV 1 hts gX13_passesAll_X13_passes rfl rfl rfl (by decide +kernel) ⟨Nat.le_of_ble_eq_true rfl, Nat.le_of_ble_eq_true rfl⟩) (pW_V (ci := 10) (q0 := 6) hP hE hD rfl rfl [6, 7] (by decide) rfl rfl) rfl rfl hl.1 rfl (lv_room (Nat.le_of_ble_eq_true rfl)) dX13_passesAll_88 ⟨Nat.le_of_ble_eq_true rfl, Nat.le_of_ble_eq_true rfl⟩) hS (fun q _ h => hFc q h) hFc (fun r_33 u_34 t H1 locs ht hvm hr_33 hB hz1 hk1 hS => ?_)
  obtain ⟨g_35, f_36⟩ := u_34
  obtain ⟨hxg_35, lg_35, kg_35_0, kg_35_1, kg_35_2, kg_35_3, kg_35_4, kg_35_5, kg_35_6, kg_35_7, kg_35_8, kg_35_9, kg_35_10, kg_35_11, kg_35_12, kg_35_13, kg_35_42, kg_35_43, kg_35_44⟩ := hr_33
  obtain ⟨hP1, hD1⟩ := hB
  rw [ht] at hP1
  obtain ⟨hP, hD⟩ := va_join (wr := [(b8, .inl (T 0, 24, .inl g8)), (b9, .inl (T 0, 24, .inl g9)), (b10, .inl (T 0, 24, .inl g10)), (b11, .inl (T 0, 24, .inl g11)), (b12, .inl (T 0, 36, .inl g12)), (b13, .inl (T 0, 3, .inl g13))]) (w1 := [(h0, .inr (10, g_35)), (a0, .inl (T 0, 143, .inl f_36))]) hP hD [6, 7] [0, 1, 2, 3, 4, 5] rfl rfl (by decide) (by decide) hk1 hFc hP1 hD1
  clear hP1 hD1 hFc
  generalize H1 = H at hP hS ⊢
  have hP : va_P D vwCl [(b8, .inl (T 0, 24, .inl g8)), (b9, .inl (T 0, 24, .inl g9)), (b10, .inl (T 0, 24, .inl g10)), (b11, .inl (T 0, 24, .inl g11)), (b12, .inl (T 0, 36, .inl g12)), (b13, .inl (T 0, 3, .inl g13)), (h0, .inr (10, g_35)), (a0, .inl (T 0, 143, .inl f_36))] H := hP
  have hD : va_D A [(b8, .inl (T 0, 24, .inl g8)), (b9, .inl (T 0, 24, .inl g9)), (b10, .inl (T 0, 24, .inl g10)), (b11, .inl (T 0, 24, .inl g11)), (b12, .inl (T 0, 36, .inl g12)), (b13, .inl (T 0, 3, .inl g13)), (h0, .inr (10, g_35)), (a0, .inl (T 0, 143, .inl f_36))] := hD
  obtain rfl : n6 = r_33 := (hxg_35).symm
  refine va_put (D := D) (ci := 10) (v := .int n6) (ty := .int) (C := RX13) (T := TX13) (N := 45) hx hb hts in_X13_passesAll_X13 tyX13 tyX13_ok nmX13 hown hE.1 hP hD hS 6 rfl rfl 6 (by decide) (hts (.fieldLink RX13 25 "ClauseBookModel" "waitB" "I") (List.mem_of_getElem? (i := 9) rfl)) (fun _ h9 => h9) rfl (by decide +kernel) rfl rfl (by rw [lg_35]; decide) dX13_passesAll_91 (fun H locs hP hD hS => ?_)
  obtain ⟨g_37, eg_37⟩ : ∃ z : List Value, z = g_35.set 6 (.int n6) := ⟨_, rfl⟩
  have hP : va_P D vwCl [(b8, .inl (T 0, 24, .inl g8)), (b9, .inl (T 0, 24, .inl g9)), (b10, .inl (T 0, 24, .inl g10)), (b11, .inl (T 0, 24, .inl g11)), (b12, .inl (T 0, 36, .inl g12)), (b13, .inl (T 0, 3, .inl g13)), (h0, .inr (10, g_37)), (a0, .inl (T 0, 143, .inl f_36))] H := by rw [eg_37]; exact hP
  have hD : va_D A [(b8, .inl (T 0, 24, .inl g8)), (b9, .inl (T 0, 24, .inl g9)), (b10, .inl (T 0, 24, .inl g10)), (b11, .inl (T 0, 24, .inl g11)), (b12, .inl (T 0, 36, .inl g12)), (b13, .inl (T 0, 3, .inl g13)), (h0, .inr (10, g_37)), (a0, .inl (T 0, 143, .inl f_36))] := by rw [eg_37]; exact hD
  have lg_37 : g_37.length = 45 := by rw [eg_37, List.length_set]; exact lg_35
  have kg_37_6 : g_37[6]? = some (.int n6) := by rw [eg_37]; exact List.getElem?_set_self (by rw [lg_35]; decide)
  have kg_37_0 : g_37[0]? = some (.int n0) := by rw [eg_37, List.getElem?_set_ne (by decide)]; exact kg_35_0
  have kg_37_1 : g_37[1]? = some (.int n1) := by rw [eg_37, List.getElem?_set_ne (by decide)]; exact kg_35_1
  have kg_37_2 : g_37[2]? = some (.int n2) := by rw [eg_37, List.getElem?_set_ne (by decide)]; exact kg_35_2
  have kg_37_3 : g_37[3]? = some (.int n3) := by rw [eg_37, List.getElem?_set_ne (by decide)]; exact kg_35_3
  have kg_37_4 : g_37[4]? = some (.int n4) := by rw [eg_37, List.getElem?_set_ne (by decide)]; exact kg_35_4
  have kg_37_5 : g_37[5]? = some (.int n5) := by rw [eg_37, List.getElem?_set_ne (by decide)]; exact kg_35_5
  have kg_37_7 : g_37[7]? = some (.int 0) := by rw [eg_37, List.getElem?_set_ne (by decide)]; exact kg_35_7
  have kg_37_8 : g_37[8]? = some (.ref b8) := by rw [eg_37, List.getElem?_set_ne (by decide)]; exact kg_35_8
  have kg_37_9 : g_37[9]? = some (.ref b9) := by rw [eg_37, List.getElem?_set_ne (by decide)]; exact kg_35_9
  have kg_37_10 : g_37[10]? = some (.ref b10) := by rw [eg_37, List.getElem?_set_ne (by decide)]; exact kg_35_10
  have kg_37_11 : g_37[11]? = some (.ref b11) := by rw [eg_37, List.getElem?_set_ne (by decide)]; exact kg_35_11
  have kg_37_12 : g_37[12]? = some (.ref b12) := by rw [eg_37, List.getElem?_set_ne (by decide)]; exact kg_35_12
  have kg_37_13 : g_37[13]? = some (.ref b13) := by rw [eg_37, List.getElem?_set_ne (by decide)]; exact kg_35_13
  have kg_37_42 : g_37[42]? = some (.ref a0) := by rw [eg_37, List.getElem?_set_ne (by decide)]; exact kg_35_42
  have kg_37_43 : g_37[43]? = some (.int 7) := by rw [eg_37, List.getElem?_set_ne (by decide)]; exact kg_35_43
  have kg_37_44 : g_37[44]? = some (.int 1) := by rw [eg_37, List.getElem?_set_ne (by decide)]; exact kg_35_44
  refine lv_aload_n hx hb dX13_passesAll_94 rfl (lv_at hl 0 rfl) ?_
  refine lv_aload_n hx hb dX13_passesAll_95 rfl (lv_at hl 0 rfl) ?_
  refine lv_aload_n hx hb dX13_passesAll_96 rfl (lv_at hl 0 rfl) ?_
  refine va_get (D := D) (ci := 10) (v := .int 0) (C := RX13) (T := TX13) (N := 45) hx hb hts in_X13_passesAll_X13 hown hE.1 hP 6 rfl rfl 7 (by decide) (hts (.fieldLink RX13 205 "ClauseBookModel" "many" "I") (List.mem_of_getElem? (i := 10) rfl)) (fun _ h9 => h9) kg_37_7 dX13_passesAll_97 ?_
  have hFc := va_free (wc := [(h0, .inr (10, g_37)), (a0, .inl (T 0, 143, .inl f_36))]) hD hS hA [6, 7] rfl
  refine va_calli (va_runV (As := [.int 0]) (rest := [.ref h0]) ⟨hx, hb, hml, hown, hts⟩ (f_X13_passes l D T _ h0 g_37 (.int n0) (.int n1) (.int n2) (.int n3) (.int n4) (.int n5) (.int n6) (.int 0) (.ref b8) (.ref b9) (.ref b10) (.ref b11) (.ref b12) (.ref b13) a0 f_36 7 8 0 lg_37 kg_37_0 kg_37_1 kg_37_2 kg_37_3 kg_37_4 kg_37_5 kg_37_6 kg_37_7 kg_37_8 kg_37_9 kg_37_10 kg_37_11 kg_37_12 kg_37_13 kg_37_42 kg_37_43 kg_37_44 (by unfold vp_in; decide) (by decide)) (cwV 1 hts gX13_passesAll_X13_passes rfl rfl rfl (by decide +kernel) ⟨Nat.le_of_ble_eq_true rfl, Nat.le_of_ble_eq_true rfl⟩) (pW_V (ci := 10) (q0 := 6) hP hE hD rfl rfl [6, 7] (by decide) rfl rfl) rfl rfl hl.1 rfl (lv_room (Nat.le_of_ble_eq_true rfl)) dX13_passesAll_100 ⟨Nat.le_of_ble_eq_true rfl, Nat.le_of_ble_eq_true rfl⟩) hS (fun q _ h => hFc q h) hFc (fun r_38 u_39 t H1 locs ht hvm hr_38 hB hz1 hk1 hS => ?_)
  obtain ⟨g_40, f_41⟩ := u_39
  obtain ⟨hxg_40, lg_40, kg_40_0, kg_40_1, kg_40_2, kg_40_3, kg_40_4, kg_40_5, kg_40_6, kg_40_7, kg_40_8, kg_40_9, kg_40_10, kg_40_11, kg_40_12, kg_40_13, kg_40_42, kg_40_43, kg_40_44⟩ := hr_38
  obtain ⟨hP1, hD1⟩ := hB
  rw [ht] at hP1
  obtain ⟨hP, hD⟩ := va_join (wr := [(b8, .inl (T 0, 24, .inl g8)), (b9, .inl (T 0, 24, .inl g9)), (b10, .inl (T 0, 24, .inl g10)), (b11, .inl (T 0, 24, .inl g11)), (b12, .inl (T 0, 36, .inl g12)), (b13, .inl (T 0, 3, .inl g13))]) (w1 := [(h0, .inr (10, g_40)), (a0, .inl (T 0, 143, .inl f_41))]) hP hD [6, 7] [0, 1, 2, 3, 4, 5] rfl rfl (by decide) (by decide) hk1 hFc hP1 hD1
  clear hP1 hD1 hFc
  generalize H1 = H at hP hS ⊢
  have hP : va_P D vwCl [(b8, .inl (T 0, 24, .inl g8)), (b9, .inl (T 0, 24, .inl g9)), (b10, .inl (T 0, 24, .inl g10)), (b11, .inl (T 0, 24, .inl g11)), (b12, .inl (T 0, 36, .inl g12)), (b13, .inl (T 0, 3, .inl g13)), (h0, .inr (10, g_40)), (a0, .inl (T 0, 143, .inl f_41))] H := hP
  have hD : va_D A [(b8, .inl (T 0, 24, .inl g8)), (b9, .inl (T 0, 24, .inl g9)), (b10, .inl (T 0, 24, .inl g10)), (b11, .inl (T 0, 24, .inl g11)), (b12, .inl (T 0, 36, .inl g12)), (b13, .inl (T 0, 3, .inl g13)), (h0, .inr (10, g_40)), (a0, .inl (T 0, 143, .inl f_41))] := hD
  obtain rfl : 0 = r_38 := (hxg_40).symm
  refine va_put (D := D) (ci := 10) (v := .int 0) (ty := .int) (C := RX13) (T := TX13) (N := 45) hx hb hts in_X13_passesAll_X13 tyX13 tyX13_ok nmX13 hown hE.1 hP hD hS 6 rfl rfl 7 (by decide) (hts (.fieldLink RX13 205 "ClauseBookModel" "many" "I") (List.mem_of_getElem? (i := 10) rfl)) (fun _ h9 => h9) rfl (by decide +kernel) rfl rfl (by rw [lg_40]; decide) dX13_passesAll_103 (fun H locs hP hD hS => ?_)
  obtain ⟨g_42, eg_42⟩ : ∃ z : List Value, z = g_40.set 7 (.int 0) := ⟨_, rfl⟩
  have hP : va_P D vwCl [(b8, .inl (T 0, 24, .inl g8)), (b9, .inl (T 0, 24, .inl g9)), (b10, .inl (T 0, 24, .inl g10)), (b11, .inl (T 0, 24, .inl g11)), (b12, .inl (T 0, 36, .inl g12)), (b13, .inl (T 0, 3, .inl g13)), (h0, .inr (10, g_42)), (a0, .inl (T 0, 143, .inl f_41))] H := by rw [eg_42]; exact hP
  have hD : va_D A [(b8, .inl (T 0, 24, .inl g8)), (b9, .inl (T 0, 24, .inl g9)), (b10, .inl (T 0, 24, .inl g10)), (b11, .inl (T 0, 24, .inl g11)), (b12, .inl (T 0, 36, .inl g12)), (b13, .inl (T 0, 3, .inl g13)), (h0, .inr (10, g_42)), (a0, .inl (T 0, 143, .inl f_41))] := by rw [eg_42]; exact hD
  have lg_42 : g_42.length = 45 := by rw [eg_42, List.length_set]; exact lg_40
  have kg_42_7 : g_42[7]? = some (.int 0) := by rw [eg_42]; exact List.getElem?_set_self (by rw [lg_40]; decide)
  have kg_42_0 : g_42[0]? = some (.int n0) := by rw [eg_42, List.getElem?_set_ne (by decide)]; exact kg_40_0
  have kg_42_1 : g_42[1]? = some (.int n1) := by rw [eg_42, List.getElem?_set_ne (by decide)]; exact kg_40_1
  have kg_42_2 : g_42[2]? = some (.int n2) := by rw [eg_42, List.getElem?_set_ne (by decide)]; exact kg_40_2
  have kg_42_3 : g_42[3]? = some (.int n3) := by rw [eg_42, List.getElem?_set_ne (by decide)]; exact kg_40_3
  have kg_42_4 : g_42[4]? = some (.int n4) := by rw [eg_42, List.getElem?_set_ne (by decide)]; exact kg_40_4
  have kg_42_5 : g_42[5]? = some (.int n5) := by rw [eg_42, List.getElem?_set_ne (by decide)]; exact kg_40_5
  have kg_42_6 : g_42[6]? = some (.int n6) := by rw [eg_42, List.getElem?_set_ne (by decide)]; exact kg_40_6
  have kg_42_8 : g_42[8]? = some (.ref b8) := by rw [eg_42, List.getElem?_set_ne (by decide)]; exact kg_40_8
  have kg_42_9 : g_42[9]? = some (.ref b9) := by rw [eg_42, List.getElem?_set_ne (by decide)]; exact kg_40_9
  have kg_42_10 : g_42[10]? = some (.ref b10) := by rw [eg_42, List.getElem?_set_ne (by decide)]; exact kg_40_10
  have kg_42_11 : g_42[11]? = some (.ref b11) := by rw [eg_42, List.getElem?_set_ne (by decide)]; exact kg_40_11
  have kg_42_12 : g_42[12]? = some (.ref b12) := by rw [eg_42, List.getElem?_set_ne (by decide)]; exact kg_40_12
  have kg_42_13 : g_42[13]? = some (.ref b13) := by rw [eg_42, List.getElem?_set_ne (by decide)]; exact kg_40_13
  have kg_42_42 : g_42[42]? = some (.ref a0) := by rw [eg_42, List.getElem?_set_ne (by decide)]; exact kg_40_42
  have kg_42_43 : g_42[43]? = some (.int 8) := by rw [eg_42, List.getElem?_set_ne (by decide)]; exact kg_40_43
  have kg_42_44 : g_42[44]? = some (.int 1) := by rw [eg_42, List.getElem?_set_ne (by decide)]; exact kg_40_44
  refine lv_aload_n hx hb dX13_passesAll_106 rfl (lv_at hl 0 rfl) ?_
  refine lv_aload_n hx hb dX13_passesAll_107 rfl (lv_at hl 0 rfl) ?_
  refine va_get (D := D) (ci := 10) (v := .ref b8) (C := RX13) (T := TX13) (N := 45) hx hb hts in_X13_passesAll_X13 hown hE.1 hP 6 rfl rfl 8 (by decide) (hts (.fieldLink RX13 28 "ClauseBookModel" "kind" "[I") (List.mem_of_getElem? (i := 11) rfl)) (fun _ h9 => h9) kg_42_8 dX13_passesAll_108 ?_
  have hFc := va_free (wc := [(h0, .inr (10, g_42)), (a0, .inl (T 0, 143, .inl f_41)), (b8, .inl (T 0, 24, .inl g8))]) hD hS hA [6, 7, 0] rfl
  refine va_callv (va_runV (As := [.ref b8]) (rest := []) ⟨hx, hb, hml, hown, hts⟩ (f_X13_passesRow_24 l D T _ h0 g_42 (.int n0) (.int n1) (.int n2) (.int n3) (.int n4) (.int n5) (.int n6) (.int 0) (.ref b8) (.ref b9) (.ref b10) (.ref b11) (.ref b12) (.ref b13) a0 f_41 b8 g8 8 32 lg_42 kg_42_0 kg_42_1 kg_42_2 kg_42_3 kg_42_4 kg_42_5 kg_42_6 kg_42_7 kg_42_8 kg_42_9 kg_42_10 kg_42_11 kg_42_12 kg_42_13 kg_42_42 kg_42_43 kg_42_44 (by decide)) (cwV 1 hts gX13_passesAll_X13_passesRow rfl rfl rfl (by decide +kernel) ⟨Nat.le_of_ble_eq_true rfl, Nat.le_of_ble_eq_true rfl⟩) (pW_V (ci := 10) (q0 := 6) hP hE hD rfl rfl [6, 7, 0] (by decide) rfl rfl) rfl rfl hl.1 rfl (lv_room (Nat.le_of_ble_eq_true rfl)) dX13_passesAll_111 ⟨Nat.le_of_ble_eq_true rfl, Nat.le_of_ble_eq_true rfl⟩) hS (fun q _ h => hFc q h) hFc (fun u_44 t H1 locs ht hvm hr_43 hB hz1 hk1 hS => ?_)
  obtain ⟨g_45, f_46⟩ := u_44
  obtain ⟨lg_45, kg_45_0, kg_45_1, kg_45_2, kg_45_3, kg_45_4, kg_45_5, kg_45_6, kg_45_7, kg_45_8, kg_45_9, kg_45_10, kg_45_11, kg_45_12, kg_45_13, kg_45_42, kg_45_43, kg_45_44⟩ := hr_43
  obtain ⟨hP1, hD1⟩ := hB
  rw [ht] at hP1
  obtain ⟨hP, hD⟩ := va_join (wr := [(b9, .inl (T 0, 24, .inl g9)), (b10, .inl (T 0, 24, .inl g10)), (b11, .inl (T 0, 24, .inl g11)), (b12, .inl (T 0, 36, .inl g12)), (b13, .inl (T 0, 3, .inl g13))]) (w1 := [(h0, .inr (10, g_45)), (a0, .inl (T 0, 143, .inl f_46))]) hP hD [6, 7, 0] [1, 2, 3, 4, 5] rfl rfl (by decide) (by decide) hk1 hFc hP1 hD1
  clear hP1 hD1 hFc
  generalize H1 = H at hP hS ⊢
  have hP : va_P D vwCl [(b9, .inl (T 0, 24, .inl g9)), (b10, .inl (T 0, 24, .inl g10)), (b11, .inl (T 0, 24, .inl g11)), (b12, .inl (T 0, 36, .inl g12)), (b13, .inl (T 0, 3, .inl g13)), (h0, .inr (10, g_45)), (a0, .inl (T 0, 143, .inl f_46))] H := hP
  have hD : va_D A [(b9, .inl (T 0, 24, .inl g9)), (b10, .inl (T 0, 24, .inl g10)), (b11, .inl (T 0, 24, .inl g11)), (b12, .inl (T 0, 36, .inl g12)), (b13, .inl (T 0, 3, .inl g13)), (h0, .inr (10, g_45)), (a0, .inl (T 0, 143, .inl f_46))] := hD
  refine lv_aload_n hx hb dX13_passesAll_114 rfl (lv_at hl 0 rfl) ?_
  refine lv_aload_n hx hb dX13_passesAll_115 rfl (lv_at hl 0 rfl) ?_
  refine va_get (D := D) (ci := 10) (v := .ref b9) (C := RX13) (T := TX13) (N := 45) hx hb hts in_X13_passesAll_X13 hown hE.1 hP 5 rfl rfl 9 (by decide) (hts (.fieldLink RX13 32 "ClauseBookModel" "number" "[I") (List.mem_of_getElem? (i := 12) rfl)) (fun _ h9 => h9) kg_45_9 dX13_passesAll_116 ?_
  have hFc := va_free (wc := [(h0, .inr (10, g_45)), (a0, .inl (T 0, 143, .inl f_46)), (b9, .inl (T 0, 24, .inl g9))]) hD hS hA [5, 6, 0] rfl
  refine va_callv (va_runV (As := [.ref b9]) (rest := []) ⟨hx, hb, hml, hown, hts⟩ (f_X13_passesRow_24 l D T _ h0 g_45 (.int n0) (.int n1) (.int n2) (.int n3) (.int n4) (.int n5) (.int n6) (.int 0) (.ref b8) (.ref b9) (.ref b10) (.ref b11) (.ref b12) (.ref b13) a0 f_46 b9 g9 32 56 lg_45 kg_45_0 kg_45_1 kg_45_2 kg_45_3 kg_45_4 kg_45_5 kg_45_6 kg_45_7 kg_45_8 kg_45_9 kg_45_10 kg_45_11 kg_45_12 kg_45_13 kg_45_42 kg_45_43 kg_45_44 (by decide)) (cwV 1 hts gX13_passesAll_X13_passesRow rfl rfl rfl (by decide +kernel) ⟨Nat.le_of_ble_eq_true rfl, Nat.le_of_ble_eq_true rfl⟩) (pW_V (ci := 10) (q0 := 5) hP hE hD rfl rfl [5, 6, 0] (by decide) rfl rfl) rfl rfl hl.1 rfl (lv_room (Nat.le_of_ble_eq_true rfl)) dX13_passesAll_119 ⟨Nat.le_of_ble_eq_true rfl, Nat.le_of_ble_eq_true rfl⟩) hS (fun q _ h => hFc q h) hFc (fun u_48 t H1 locs ht hvm hr_47 hB hz1 hk1 hS => ?_)
  obtain ⟨g_49, f_50⟩ := u_48
  obtain ⟨lg_49, kg_49_0, kg_49_1, kg_49_2, kg_49_3, kg_49_4, kg_49_5, kg_49_6, kg_49_7, kg_49_8, kg_49_9, kg_49_10, kg_49_11, kg_49_12, kg_49_13, kg_49_42, kg_49_43, kg_49_44⟩ := hr_47
  obtain ⟨hP1, hD1⟩ := hB
  rw [ht] at hP1
  obtain ⟨hP, hD⟩ := va_join (wr := [(b10, .inl (T 0, 24, .inl g10)), (b11, .inl (T 0, 24, .inl g11)), (b12, .inl (T 0, 36, .inl g12)), (b13, .inl (T 0, 3, .inl g13))]) (w1 := [(h0, .inr (10, g_49)), (a0, .inl (T 0, 143, .inl f_50))]) hP hD [5, 6, 0] [1, 2, 3, 4] rfl rfl (by decide) (by decide) hk1 hFc hP1 hD1
  clear hP1 hD1 hFc
  generalize H1 = H at hP hS ⊢
  have hP : va_P D vwCl [(b10, .inl (T 0, 24, .inl g10)), (b11, .inl (T 0, 24, .inl g11)), (b12, .inl (T 0, 36, .inl g12)), (b13, .inl (T 0, 3, .inl g13)), (h0, .inr (10, g_49)), (a0, .inl (T 0, 143, .inl f_50))] H := hP
  have hD : va_D A [(b10, .inl (T 0, 24, .inl g10)), (b11, .inl (T 0, 24, .inl g11)), (b12, .inl (T 0, 36, .inl g12)), (b13, .inl (T 0, 3, .inl g13)), (h0, .inr (10, g_49)), (a0, .inl (T 0, 143, .inl f_50))] := hD
  refine lv_aload_n hx hb dX13_passesAll_122 rfl (lv_at hl 0 rfl) ?_
  refine lv_aload_n hx hb dX13_passesAll_123 rfl (lv_at hl 0 rfl) ?_
  refine va_get (D := D) (ci := 10) (v := .ref b10) (C := RX13) (T := TX13) (N := 45) hx hb hts in_X13_passesAll_X13 hown hE.1 hP 4 rfl rfl 10 (by decide) (hts (.fieldLink RX13 35 "ClauseBookModel" "one" "[I") (List.mem_of_getElem? (i := 13) rfl)) (fun _ h9 => h9) kg_49_10 dX13_passesAll_124 ?_
  have hFc := va_free (wc := [(h0, .inr (10, g_49)), (a0, .inl (T 0, 143, .inl f_50)), (b10, .inl (T 0, 24, .inl g10))]) hD hS hA [4, 5, 0] rfl
  refine va_callv (va_runV (As := [.ref b10]) (rest := []) ⟨hx, hb, hml, hown, hts⟩ (f_X13_passesRow_24 l D T _ h0 g_49 (.int n0) (.int n1) (.int n2) (.int n3) (.int n4) (.int n5) (.int n6) (.int 0) (.ref b8) (.ref b9) (.ref b10) (.ref b11) (.ref b12) (.ref b13) a0 f_50 b10 g10 56 80 lg_49 kg_49_0 kg_49_1 kg_49_2 kg_49_3 kg_49_4 kg_49_5 kg_49_6 kg_49_7 kg_49_8 kg_49_9 kg_49_10 kg_49_11 kg_49_12 kg_49_13 kg_49_42 kg_49_43 kg_49_44 (by decide)) (cwV 1 hts gX13_passesAll_X13_passesRow rfl rfl rfl (by decide +kernel) ⟨Nat.le_of_ble_eq_true rfl, Nat.le_of_ble_eq_true rfl⟩) (pW_V (ci := 10) (q0 := 4) hP hE hD rfl rfl [4, 5, 0] (by decide) rfl rfl) rfl rfl hl.1 rfl (lv_room (Nat.le_of_ble_eq_true rfl)) dX13_passesAll_127 ⟨Nat.le_of_ble_eq_true rfl, Nat.le_of_ble_eq_true rfl⟩) hS (fun q _ h => hFc q h) hFc (fun u_52 t H1 locs ht hvm hr_51 hB hz1 hk1 hS => ?_)
  obtain ⟨g_53, f_54⟩ := u_52
  obtain ⟨lg_53, kg_53_0, kg_53_1, kg_53_2, kg_53_3, kg_53_4, kg_53_5, kg_53_6, kg_53_7, kg_53_8, kg_53_9, kg_53_10, kg_53_11, kg_53_12, kg_53_13, kg_53_42, kg_53_43, kg_53_44⟩ := hr_51
  obtain ⟨hP1, hD1⟩ := hB
  rw [ht] at hP1
  obtain ⟨hP, hD⟩ := va_join (wr := [(b11, .inl (T 0, 24, .inl g11)), (b12, .inl (T 0, 36, .inl g12)), (b13, .inl (T 0, 3, .inl g13))]) (w1 := [(h0, .inr (10, g_53)), (a0, .inl (T 0, 143, .inl f_54))]) hP hD [4, 5, 0] [1, 2, 3] rfl rfl (by decide) (by decide) hk1 hFc hP1 hD1
  clear hP1 hD1 hFc
  generalize H1 = H at hP hS ⊢
  have hP : va_P D vwCl [(b11, .inl (T 0, 24, .inl g11)), (b12, .inl (T 0, 36, .inl g12)), (b13, .inl (T 0, 3, .inl g13)), (h0, .inr (10, g_53)), (a0, .inl (T 0, 143, .inl f_54))] H := hP
  have hD : va_D A [(b11, .inl (T 0, 24, .inl g11)), (b12, .inl (T 0, 36, .inl g12)), (b13, .inl (T 0, 3, .inl g13)), (h0, .inr (10, g_53)), (a0, .inl (T 0, 143, .inl f_54))] := hD
  refine lv_aload_n hx hb dX13_passesAll_130 rfl (lv_at hl 0 rfl) ?_
  refine lv_aload_n hx hb dX13_passesAll_131 rfl (lv_at hl 0 rfl) ?_
  refine va_get (D := D) (ci := 10) (v := .ref b11) (C := RX13) (T := TX13) (N := 45) hx hb hts in_X13_passesAll_X13 hown hE.1 hP 3 rfl rfl 11 (by decide) (hts (.fieldLink RX13 38 "ClauseBookModel" "two" "[I") (List.mem_of_getElem? (i := 14) rfl)) (fun _ h9 => h9) kg_53_11 dX13_passesAll_132 ?_
  have hFc := va_free (wc := [(h0, .inr (10, g_53)), (a0, .inl (T 0, 143, .inl f_54)), (b11, .inl (T 0, 24, .inl g11))]) hD hS hA [3, 4, 0] rfl
  refine va_callv (va_runV (As := [.ref b11]) (rest := []) ⟨hx, hb, hml, hown, hts⟩ (f_X13_passesRow_24 l D T _ h0 g_53 (.int n0) (.int n1) (.int n2) (.int n3) (.int n4) (.int n5) (.int n6) (.int 0) (.ref b8) (.ref b9) (.ref b10) (.ref b11) (.ref b12) (.ref b13) a0 f_54 b11 g11 80 104 lg_53 kg_53_0 kg_53_1 kg_53_2 kg_53_3 kg_53_4 kg_53_5 kg_53_6 kg_53_7 kg_53_8 kg_53_9 kg_53_10 kg_53_11 kg_53_12 kg_53_13 kg_53_42 kg_53_43 kg_53_44 (by decide)) (cwV 1 hts gX13_passesAll_X13_passesRow rfl rfl rfl (by decide +kernel) ⟨Nat.le_of_ble_eq_true rfl, Nat.le_of_ble_eq_true rfl⟩) (pW_V (ci := 10) (q0 := 3) hP hE hD rfl rfl [3, 4, 0] (by decide) rfl rfl) rfl rfl hl.1 rfl (lv_room (Nat.le_of_ble_eq_true rfl)) dX13_passesAll_135 ⟨Nat.le_of_ble_eq_true rfl, Nat.le_of_ble_eq_true rfl⟩) hS (fun q _ h => hFc q h) hFc (fun u_56 t H1 locs ht hvm hr_55 hB hz1 hk1 hS => ?_)
  obtain ⟨g_57, f_58⟩ := u_56
  obtain ⟨lg_57, kg_57_0, kg_57_1, kg_57_2, kg_57_3, kg_57_4, kg_57_5, kg_57_6, kg_57_7, kg_57_8, kg_57_9, kg_57_10, kg_57_11, kg_57_12, kg_57_13, kg_57_42, kg_57_43, kg_57_44⟩ := hr_55
  obtain ⟨hP1, hD1⟩ := hB
  rw [ht] at hP1
  obtain ⟨hP, hD⟩ := va_join (wr := [(b12, .inl (T 0, 36, .inl g12)), (b13, .inl (T 0, 3, .inl g13))]) (w1 := [(h0, .inr (10, g_57)), (a0, .inl (T 0, 143, .inl f_58))]) hP hD [3, 4, 0] [1, 2] rfl rfl (by decide) (by decide) hk1 hFc hP1 hD1
  clear hP1 hD1 hFc
  generalize H1 = H at hP hS ⊢
  have hP : va_P D vwCl [(b12, .inl (T 0, 36, .inl g12)), (b13, .inl (T 0, 3, .inl g13)), (h0, .inr (10, g_57)), (a0, .inl (T 0, 143, .inl f_58))] H := hP
  have hD : va_D A [(b12, .inl (T 0, 36, .inl g12)), (b13, .inl (T 0, 3, .inl g13)), (h0, .inr (10, g_57)), (a0, .inl (T 0, 143, .inl f_58))] := hD
  refine lv_aload_n hx hb dX13_passesAll_138 rfl (lv_at hl 0 rfl) ?_
  refine lv_aload_n hx hb dX13_passesAll_139 rfl (lv_at hl 0 rfl) ?_
  refine va_get (D := D) (ci := 10) (v := .ref b12) (C := RX13) (T := TX13) (N := 45) hx hb hts in_X13_passesAll_X13 hown hE.1 hP 2 rfl rfl 12 (by decide) (hts (.fieldLink RX13 41 "ClauseBookModel" "bag" "[I") (List.mem_of_getElem? (i := 15) rfl)) (fun _ h9 => h9) kg_57_12 dX13_passesAll_140 ?_
  have hFc := va_free (wc := [(h0, .inr (10, g_57)), (a0, .inl (T 0, 143, .inl f_58)), (b12, .inl (T 0, 36, .inl g12))]) hD hS hA [2, 3, 0] rfl
  refine va_callv (va_runV (As := [.ref b12]) (rest := []) ⟨hx, hb, hml, hown, hts⟩ (f_X13_passesRow_36 l D T _ h0 g_57 (.int n0) (.int n1) (.int n2) (.int n3) (.int n4) (.int n5) (.int n6) (.int 0) (.ref b8) (.ref b9) (.ref b10) (.ref b11) (.ref b12) (.ref b13) a0 f_58 b12 g12 104 140 lg_57 kg_57_0 kg_57_1 kg_57_2 kg_57_3 kg_57_4 kg_57_5 kg_57_6 kg_57_7 kg_57_8 kg_57_9 kg_57_10 kg_57_11 kg_57_12 kg_57_13 kg_57_42 kg_57_43 kg_57_44 (by decide)) (cwV 1 hts gX13_passesAll_X13_passesRow rfl rfl rfl (by decide +kernel) ⟨Nat.le_of_ble_eq_true rfl, Nat.le_of_ble_eq_true rfl⟩) (pW_V (ci := 10) (q0 := 2) hP hE hD rfl rfl [2, 3, 0] (by decide) rfl rfl) rfl rfl hl.1 rfl (lv_room (Nat.le_of_ble_eq_true rfl)) dX13_passesAll_143 ⟨Nat.le_of_ble_eq_true rfl, Nat.le_of_ble_eq_true rfl⟩) hS (fun q _ h => hFc q h) hFc (fun u_60 t H1 locs ht hvm hr_59 hB hz1 hk1 hS => ?_)
  obtain ⟨g_61, f_62⟩ := u_60
  obtain ⟨lg_61, kg_61_0, kg_61_1, kg_61_2, kg_61_3, kg_61_4, kg_61_5, kg_61_6, kg_61_7, kg_61_8, kg_61_9, kg_61_10, kg_61_11, kg_61_12, kg_61_13, kg_61_42, kg_61_43, kg_61_44⟩ := hr_59
  obtain ⟨hP1, hD1⟩ := hB
  rw [ht] at hP1
  obtain ⟨hP, hD⟩ := va_join (wr := [(b13, .inl (T 0, 3, .inl g13))]) (w1 := [(h0, .inr (10, g_61)), (a0, .inl (T 0, 143, .inl f_62))]) hP hD [2, 3, 0] [1] rfl rfl (by decide) (by decide) hk1 hFc hP1 hD1
  clear hP1 hD1 hFc
  generalize H1 = H at hP hS ⊢
  have hP : va_P D vwCl [(b13, .inl (T 0, 3, .inl g13)), (h0, .inr (10, g_61)), (a0, .inl (T 0, 143, .inl f_62))] H := hP
  have hD : va_D A [(b13, .inl (T 0, 3, .inl g13)), (h0, .inr (10, g_61)), (a0, .inl (T 0, 143, .inl f_62))] := hD
  refine lv_aload_n hx hb dX13_passesAll_146 rfl (lv_at hl 0 rfl) ?_
  refine lv_aload_n hx hb dX13_passesAll_147 rfl (lv_at hl 0 rfl) ?_
  refine va_get (D := D) (ci := 10) (v := .ref b13) (C := RX13) (T := TX13) (N := 45) hx hb hts in_X13_passesAll_X13 hown hE.1 hP 1 rfl rfl 13 (by decide) (hts (.fieldLink RX13 44 "ClauseBookModel" "bagged" "[I") (List.mem_of_getElem? (i := 16) rfl)) (fun _ h9 => h9) kg_61_13 dX13_passesAll_148 ?_
  have hFc := va_free (wc := [(h0, .inr (10, g_61)), (a0, .inl (T 0, 143, .inl f_62)), (b13, .inl (T 0, 3, .inl g13))]) hD hS hA [1, 2, 0] rfl
  refine va_callv (va_runV (As := [.ref b13]) (rest := []) ⟨hx, hb, hml, hown, hts⟩ (f_X13_passesRow_3 l D T _ h0 g_61 (.int n0) (.int n1) (.int n2) (.int n3) (.int n4) (.int n5) (.int n6) (.int 0) (.ref b8) (.ref b9) (.ref b10) (.ref b11) (.ref b12) (.ref b13) a0 f_62 b13 g13 140 143 lg_61 kg_61_0 kg_61_1 kg_61_2 kg_61_3 kg_61_4 kg_61_5 kg_61_6 kg_61_7 kg_61_8 kg_61_9 kg_61_10 kg_61_11 kg_61_12 kg_61_13 kg_61_42 kg_61_43 kg_61_44 (by decide)) (cwV 1 hts gX13_passesAll_X13_passesRow rfl rfl rfl (by decide +kernel) ⟨Nat.le_of_ble_eq_true rfl, Nat.le_of_ble_eq_true rfl⟩) (pW_V (ci := 10) (q0 := 1) hP hE hD rfl rfl [1, 2, 0] (by decide) rfl rfl) rfl rfl hl.1 rfl (lv_room (Nat.le_of_ble_eq_true rfl)) dX13_passesAll_151 ⟨Nat.le_of_ble_eq_true rfl, Nat.le_of_ble_eq_true rfl⟩) hS (fun q _ h => hFc q h) hFc (fun u_64 t H1 locs ht hvm hr_63 hB hz1 hk1 hS => ?_)
  obtain ⟨g_65, f_66⟩ := u_64
  obtain ⟨lg_65, kg_65_0, kg_65_1, kg_65_2, kg_65_3, kg_65_4, kg_65_5, kg_65_6, kg_65_7, kg_65_8, kg_65_9, kg_65_10, kg_65_11, kg_65_12, kg_65_13, kg_65_42, kg_65_43, kg_65_44⟩ := hr_63
  obtain ⟨hP1, hD1⟩ := hB
  rw [ht] at hP1
  obtain ⟨hP, hD⟩ := va_join (wr := []) (w1 := [(h0, .inr (10, g_65)), (a0, .inl (T 0, 143, .inl f_66))]) hP hD [1, 2, 0] [] rfl rfl (by decide) (by decide) hk1 hFc hP1 hD1
  clear hP1 hD1 hFc
  generalize H1 = H at hP hS ⊢
  have hP : va_P D vwCl [(h0, .inr (10, g_65)), (a0, .inl (T 0, 143, .inl f_66))] H := hP
  have hD : va_D A [(h0, .inr (10, g_65)), (a0, .inl (T 0, 143, .inl f_66))] := hD
  exact W.vret hx hb hr (fun t ht hW => ⟨⟨g_65, rfl, ⟨lg_65, kg_65_7⟩, by rw [ht]; exact hP.sub [0] rfl, hD.sub [0] (by decide) rfl⟩, hS.F ht⟩) hS.2.2 dX13_passesAll_154
theorem dX13_image_0 : decode cX13_image 0 = .ok (.aload_n 0, 1) := by decide +kernel
theorem dX13_image_1 : decode cX13_image 1 = .ok (.iconst 1, 1) := by decide +kernel
theorem dX13_image_10 : decode cX13_image 10 = .ok (.aload_n 0, 1) := by decide +kernel
theorem dX13_image_11 : decode cX13_image 11 = .ok (.getfield 205, 3) := by decide +kernel
theorem dX13_image_14 : decode cX13_image 14 = .ok (.ireturn, 1) := by decide +kernel
theorem dX13_image_2 : decode cX13_image 2 = .ok (.putfield 436, 3) := by decide +kernel
theorem dX13_image_5 : decode cX13_image 5 = .ok (.aload_n 0, 1) := by decide +kernel
theorem dX13_image_6 : decode cX13_image 6 = .ok (.iconst 1, 1) := by decide +kernel
theorem dX13_image_7 : decode cX13_image 7 = .ok (.invokevirtual 439, 3) := by decide +kernel
set_option maxRecDepth 20000 in
theorem ggX13_image_X13_passesAll : GoodIn wsX13_image wsX13_passesAll := goodIn_r _ [7, 8, 9, 10, 11, 12, 13, 14, 15, 16, 2, 17, 18, 19, 20, 21, 22, 23, 24, 25, 6, 26, 27, 28, 29, 30, 31, 32, 33, 34, 35, 36, 37, 38, 39, 40, 41, 42, 43, 44, 45, 46, 47, 48, 49, 50, 51, 52, 53, 54, 55, 56, 57, 58, 59, 60, 61, 62, 63, 64, 65, 66, 67, 68, 69, 70, 71, 72, 73, 74, 75, 76] (by decide +kernel) (by decide +kernel)
set_option maxRecDepth 20000 in
theorem gX13_image_X13_passesAll : GoodIn wsX13_image (wsV RX13 439 RX13 yX13_passesAll wsX13_passesAll) := goodIn_app (goodIn_of _ (by decide +kernel)) ggX13_image_X13_passesAll
set_option maxRecDepth 20000 in
theorem in_X13_image_X13 : ∀ w ∈ wsX130, w ∈ wsX13_image := by decide +kernel
set_option maxHeartbeats 4000000 in
set_option maxRecDepth 100000 in
theorem f_X13_image (l : Launch) (D : va_G) (T : Nat → ClassId) (sz : Nat) (h0 : Nat) (fs0 : List Value) (n0 : Int32) (n1 : Int32) (n2 : Int32) (n3 : Int32) (n4 : Int32) (n5 : Int32) (n6 : Int32) (a0 : Nat) (fk : Nat → Int32) (b8 : Nat) (g8 : Nat → Int32) (b9 : Nat) (g9 : Nat → Int32) (b10 : Nat) (g10 : Nat → Int32) (b11 : Nat) (g11 : Nat → Int32) (b12 : Nat) (g12 : Nat → Int32) (b13 : Nat) (g13 : Nat → Int32) (hl0 : fs0.length = 45) (e0_0 : fs0[0]? = some (.int n0)) (e0_1 : fs0[1]? = some (.int n1)) (e0_2 : fs0[2]? = some (.int n2)) (e0_3 : fs0[3]? = some (.int n3)) (e0_4 : fs0[4]? = some (.int n4)) (e0_5 : fs0[5]? = some (.int n5)) (e0_6 : fs0[6]? = some (.int n6)) (e0_7 : fs0[7]? = some (.int 0)) (e0_8 : fs0[8]? = some (.ref b8)) (e0_9 : fs0[9]? = some (.ref b9)) (e0_10 : fs0[10]? = some (.ref b10)) (e0_11 : fs0[11]? = some (.ref b11)) (e0_12 : fs0[12]? = some (.ref b12)) (e0_13 : fs0[13]? = some (.ref b13)) (e0_42 : fs0[42]? = some (.ref a0)) : Met l yX13_image wsX13_image ({ frames := 3, cells := 0, slots := 0, locals := 65 }) (pW [.ref h0] D T [(h0, .inr (10, fs0)), (a0, .inl (T 0, 143, .inl fk)), (b8, .inl (T 0, 24, .inl g8)), (b9, .inl (T 0, 24, .inl g9)), (b10, .inl (T 0, 24, .inl g10)), (b11, .inl (T 0, 24, .inl g11)), (b12, .inl (T 0, 36, .inl g12)), (b13, .inl (T 0, 3, .inl g13))] sz) (va_Qi (fun (r : Int32) (u : Unit) => r = 0) (bW D (va_A [(h0, .inr (10, fs0)), (a0, .inl (T 0, 143, .inl fk)), (b8, .inl (T 0, 24, .inl g8)), (b9, .inl (T 0, 24, .inl g9)), (b10, .inl (T 0, 24, .inl g10)), (b11, .inl (T 0, 24, .inl g11)), (b12, .inl (T 0, 36, .inl g12)), (b13, .inl (T 0, 3, .inl g13))] sz) (fun (u : Unit) => ([] : va_W))) (va_A [(h0, .inr (10, fs0)), (a0, .inl (T 0, 143, .inl fk)), (b8, .inl (T 0, 24, .inl g8)), (b9, .inl (T 0, 24, .inl g9)), (b10, .inl (T 0, 24, .inl g10)), (b11, .inl (T 0, 24, .inl g11)), (b12, .inl (T 0, 36, .inl g12)), (b13, .inl (T 0, 3, .inl g13))] sz)) 0 0 (va_A [(h0, .inr (10, fs0)), (a0, .inl (T 0, 143, .inl fk)), (b8, .inl (T 0, 24, .inl g8)), (b9, .inl (T 0, 24, .inl g9)), (b10, .inl (T 0, 24, .inl g10)), (b11, .inl (T 0, 24, .inl g11)), (b12, .inl (T 0, 36, .inl g12)), (b13, .inl (T 0, 3, .inl g13))] sz) := by
  refine Met.ofW (cc := cX13_image) (maxL := 1) (ret := (some .int)) (by decide) rfl ?_
  intro p e s m args below meth c s₁ B hml hv
  obtain ⟨rfl, hsz, hP, hE, hD0⟩ := hv
  have hx := B.exec
  have hb := B.bytes
  have hr := B.returns
  have hts := atoms_spec (ws := wsX13_image) B.pre
  have hown : s.vm.findClass RX13 = some m.cls := findClass_of_methodNamed B.named
  have hlocks := B.notSynchronized
  subst hsz
  have hD := hD0.self (sz := s.heap.size)
  generalize hAe : va_A [(h0, .inr (10, fs0)), (a0, .inl (T 0, 143, .inl fk)), (b8, .inl (T 0, 24, .inl g8)), (b9, .inl (T 0, 24, .inl g9)), (b10, .inl (T 0, 24, .inl g10)), (b11, .inl (T 0, 24, .inl g11)), (b12, .inl (T 0, 36, .inl g12)), (b13, .inl (T 0, 3, .inl g13))] s.heap.size = A at hD ⊢
  have hA : ∀ q : Nat, s.heap.size ≤ q → A q := fun q h => by rw [← hAe]; exact Or.inr h
  have hS : va_S A s.heap s.heap [] := va_S.rf
  have hP : va_P D vwCl [(h0, .inr (10, fs0)), (a0, .inl (T 0, 143, .inl fk)), (b8, .inl (T 0, 24, .inl g8)), (b9, .inl (T 0, 24, .inl g9)), (b10, .inl (T 0, 24, .inl g10)), (b11, .inl (T 0, 24, .inl g11)), (b12, .inl (T 0, 36, .inl g12)), (b13, .inl (T 0, 3, .inl g13))] s.heap := hP
  have hl := lv_entry ([.ref h0]) (n := 1) (Nat.le_of_ble_eq_true rfl)
  rw [lg_entry_eq]
  generalize (lg_sl ([.ref h0]) ++ List.replicate (1 - (lg_sl ([.ref h0])).length) Slot.unset).toArray = ls at hl ⊢
  have hl : lv_has ls 1 [(0, .ref h0)] := hl
  clear hD0
  refine lv_aload_n hx hb dX13_image_0 rfl (lv_at hl 0 rfl) ?_
  refine lv_iconst (v := 1) hx hb dX13_image_1 (by decide) ?_
  refine va_put (D := D) (ci := 10) (v := .int 1) (ty := .boolean) (C := RX13) (T := TX13) (N := 45) hx hb hts in_X13_image_X13 tyX13 tyX13_ok nmX13 hown hE.1 hP hD hS 0 rfl rfl 41 (by decide) (hts (.fieldLink RX13 436 "ClauseBookModel" "isKept" "Z") (List.mem_of_getElem? (i := 1) rfl)) (fun _ h9 => h9) rfl (by decide +kernel) rfl rfl (by rw [hl0]; decide) dX13_image_2 (fun H locs hP hD hS => ?_)
  obtain ⟨g_1, eg_1⟩ : ∃ z : List Value, z = fs0.set 41 (.int 1) := ⟨_, rfl⟩
  have hP : va_P D vwCl [(h0, .inr (10, g_1)), (a0, .inl (T 0, 143, .inl fk)), (b8, .inl (T 0, 24, .inl g8)), (b9, .inl (T 0, 24, .inl g9)), (b10, .inl (T 0, 24, .inl g10)), (b11, .inl (T 0, 24, .inl g11)), (b12, .inl (T 0, 36, .inl g12)), (b13, .inl (T 0, 3, .inl g13))] H := by rw [eg_1]; exact hP
  have hD : va_D A [(h0, .inr (10, g_1)), (a0, .inl (T 0, 143, .inl fk)), (b8, .inl (T 0, 24, .inl g8)), (b9, .inl (T 0, 24, .inl g9)), (b10, .inl (T 0, 24, .inl g10)), (b11, .inl (T 0, 24, .inl g11)), (b12, .inl (T 0, 36, .inl g12)), (b13, .inl (T 0, 3, .inl g13))] := by rw [eg_1]; exact hD
  have lg_1 : g_1.length = 45 := by rw [eg_1, List.length_set]; exact hl0
  have kg_1_41 : g_1[41]? = some (.int 1) := by rw [eg_1]; exact List.getElem?_set_self (by rw [hl0]; decide)
  have kg_1_0 : g_1[0]? = some (.int n0) := by rw [eg_1, List.getElem?_set_ne (by decide)]; exact e0_0
  have kg_1_1 : g_1[1]? = some (.int n1) := by rw [eg_1, List.getElem?_set_ne (by decide)]; exact e0_1
  have kg_1_2 : g_1[2]? = some (.int n2) := by rw [eg_1, List.getElem?_set_ne (by decide)]; exact e0_2
  have kg_1_3 : g_1[3]? = some (.int n3) := by rw [eg_1, List.getElem?_set_ne (by decide)]; exact e0_3
  have kg_1_4 : g_1[4]? = some (.int n4) := by rw [eg_1, List.getElem?_set_ne (by decide)]; exact e0_4
  have kg_1_5 : g_1[5]? = some (.int n5) := by rw [eg_1, List.getElem?_set_ne (by decide)]; exact e0_5
  have kg_1_6 : g_1[6]? = some (.int n6) := by rw [eg_1, List.getElem?_set_ne (by decide)]; exact e0_6
  have kg_1_7 : g_1[7]? = some (.int 0) := by rw [eg_1, List.getElem?_set_ne (by decide)]; exact e0_7
  have kg_1_8 : g_1[8]? = some (.ref b8) := by rw [eg_1, List.getElem?_set_ne (by decide)]; exact e0_8
  have kg_1_9 : g_1[9]? = some (.ref b9) := by rw [eg_1, List.getElem?_set_ne (by decide)]; exact e0_9
  have kg_1_10 : g_1[10]? = some (.ref b10) := by rw [eg_1, List.getElem?_set_ne (by decide)]; exact e0_10
  have kg_1_11 : g_1[11]? = some (.ref b11) := by rw [eg_1, List.getElem?_set_ne (by decide)]; exact e0_11
  have kg_1_12 : g_1[12]? = some (.ref b12) := by rw [eg_1, List.getElem?_set_ne (by decide)]; exact e0_12
  have kg_1_13 : g_1[13]? = some (.ref b13) := by rw [eg_1, List.getElem?_set_ne (by decide)]; exact e0_13
  have kg_1_42 : g_1[42]? = some (.ref a0) := by rw [eg_1, List.getElem?_set_ne (by decide)]; exact e0_42
  refine lv_aload_n hx hb dX13_image_5 rfl (lv_at hl 0 rfl) ?_
  refine lv_iconst (v := 1) hx hb dX13_image_6 (by decide) ?_
  have hFc := va_free (wc := [(h0, .inr (10, g_1)), (a0, .inl (T 0, 143, .inl fk)), (b8, .inl (T 0, 24, .inl g8)), (b9, .inl (T 0, 24, .inl g9)), (b10, .inl (T 0, 24, .inl g10)), (b11, .inl (T 0, 24, .inl g11)), (b12, .inl (T 0, 36, .inl g12)), (b13, .inl (T 0, 3, .inl g13))]) hD hS hA [0, 1, 2, 3, 4, 5, 6, 7] rfl
  refine va_callv (va_runV (As := [.int 1]) (rest := []) ⟨hx, hb, hml, hown, hts⟩ (f_X13_passesAll l D T _ h0 g_1 n0 n1 n2 n3 n4 n5 n6 a0 fk b8 g8 b9 g9 b10 g10 b11 g11 b12 g12 b13 g13 lg_1 kg_1_0 kg_1_1 kg_1_2 kg_1_3 kg_1_4 kg_1_5 kg_1_6 kg_1_7 kg_1_8 kg_1_9 kg_1_10 kg_1_11 kg_1_12 kg_1_13 kg_1_42) (cwV 1 hts gX13_image_X13_passesAll rfl rfl rfl (by decide +kernel) ⟨Nat.le_of_ble_eq_true rfl, Nat.le_of_ble_eq_true rfl⟩) (pW_V (ci := 10) (q0 := 0) hP hE hD rfl rfl [0, 1, 2, 3, 4, 5, 6, 7] (by decide) rfl rfl) rfl rfl hl.1 rfl (lv_room (Nat.le_of_ble_eq_true rfl)) dX13_image_7 ⟨Nat.le_of_ble_eq_true rfl, Nat.le_of_ble_eq_true rfl⟩) hS (fun q _ h => hFc q h) hFc (fun u_3 t H1 locs ht hvm hr_2 hB hz1 hk1 hS => ?_)
  obtain ⟨lu_3, ku_3_7⟩ := hr_2
  obtain ⟨hP1, hD1⟩ := hB
  rw [ht] at hP1
  obtain ⟨hP, hD⟩ := va_join (wr := []) (w1 := [(h0, .inr (10, u_3))]) hP hD [0, 1, 2, 3, 4, 5, 6, 7] [] rfl rfl (by decide) (by decide) hk1 hFc hP1 hD1
  clear hP1 hD1 hFc
  generalize H1 = H at hP hS ⊢
  have hP : va_P D vwCl [(h0, .inr (10, u_3))] H := hP
  have hD : va_D A [(h0, .inr (10, u_3))] := hD
  refine lv_aload_n hx hb dX13_image_10 rfl (lv_at hl 0 rfl) ?_
  refine va_get (D := D) (ci := 10) (v := .int 0) (C := RX13) (T := TX13) (N := 45) hx hb hts in_X13_image_X13 hown hE.1 hP 0 rfl rfl 7 (by decide) (hts (.fieldLink RX13 205 "ClauseBookModel" "many" "I") (List.mem_of_getElem? (i := 2) rfl)) (fun _ h9 => h9) ku_3_7 dX13_image_11 ?_
  exact W.iret hx hb hr (fun t ht hW => ⟨⟨_, (), rfl, rfl, by rw [ht]; exact hP.sub [] rfl, hD.sub [] (by decide) rfl⟩, hS.F ht⟩) hS.2.2 dX13_image_14
