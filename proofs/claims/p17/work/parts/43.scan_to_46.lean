section
theorem dX10_wordEnd_0 : decode cX10_wordEnd 0 = .ok (.iload_n 1, 1) := by decide +kernel
theorem dX10_wordEnd_1 : decode cX10_wordEnd 1 = .ok (.istore_n 2, 1) := by decide +kernel
theorem dX10_wordEnd_10 : decode cX10_wordEnd 10 = .ok (.aload_n 0, 1) := by decide +kernel
theorem dX10_wordEnd_11 : decode cX10_wordEnd 11 = .ok (.getfield 15, 3) := by decide +kernel
theorem dX10_wordEnd_14 : decode cX10_wordEnd 14 = .ok (.iload_n 2, 1) := by decide +kernel
theorem dX10_wordEnd_15 : decode cX10_wordEnd 15 = .ok (.iaload, 1) := by decide +kernel
theorem dX10_wordEnd_16 : decode cX10_wordEnd 16 = .ok (.bipush 97, 2) := by decide +kernel
theorem dX10_wordEnd_18 : decode cX10_wordEnd 18 = .ok (.bipush 122, 2) := by decide +kernel
theorem dX10_wordEnd_2 : decode cX10_wordEnd 2 = .ok (.iload_n 2, 1) := by decide +kernel
theorem dX10_wordEnd_20 : decode cX10_wordEnd 20 = .ok (.invokestatic 50, 3) := by decide +kernel
theorem dX10_wordEnd_23 : decode cX10_wordEnd 23 = .ok (.ifCond .eq 9, 3) := by decide +kernel
theorem dX10_wordEnd_26 : decode cX10_wordEnd 26 = .ok (.iinc 2 1, 3) := by decide +kernel
theorem dX10_wordEnd_29 : decode cX10_wordEnd 29 = .ok (.goto (-27), 3) := by decide +kernel
theorem dX10_wordEnd_3 : decode cX10_wordEnd 3 = .ok (.aload_n 0, 1) := by decide +kernel
theorem dX10_wordEnd_32 : decode cX10_wordEnd 32 = .ok (.iload_n 2, 1) := by decide +kernel
theorem dX10_wordEnd_33 : decode cX10_wordEnd 33 = .ok (.ireturn, 1) := by decide +kernel
theorem dX10_wordEnd_4 : decode cX10_wordEnd 4 = .ok (.getfield 9, 3) := by decide +kernel
theorem dX10_wordEnd_7 : decode cX10_wordEnd 7 = .ok (.if_icmp .ge 25, 3) := by decide +kernel
set_option maxRecDepth 20000 in
theorem ggX10_wordEnd_X12_within : GoodIn wsX10_wordEnd wsX12_within := goodIn_r _ [5] rfl (by decide +kernel)
set_option maxRecDepth 20000 in
theorem gX10_wordEnd_X12_within_n50 : GoodIn wsX10_wordEnd (wsX12_within) := ggX10_wordEnd_X12_within
set_option maxRecDepth 20000 in
theorem in_X10_wordEnd_X10 : ∀ w ∈ wsX100, w ∈ wsX10_wordEnd := sub_r [6, 7, 8, 9, 10, 11, 12] rfl
set_option maxHeartbeats 4000000 in
set_option maxRecDepth 100000 in
theorem c_X10_wordEnd (l : Launch) (D : va_G) (T : Nat → ClassId) (h0 : Nat) (fs0 : List Value) (h1 : Nat) (f1 : Nat → Int32) (x1 : Int32) (n : Int32) (e0_0 : fs0[0]? = some (.int n)) (e0_1 : fs0[1]? = some (.ref h1)) (hn : 0 ≤ n.toInt ∧ n.toInt ≤ 120) (hx : 0 ≤ x1.toInt ∧ x1.toInt ≤ n.toInt) : Met l yX10_wordEnd wsX10_wordEnd ({ frames := 1, cells := 0, slots := 0, locals := 22 }) (pR [.ref h0, .int x1] D T [(h0, .inr (7, fs0)), (h1, .inl (T 0, 120, .inl f1))]) (vp_Si (fun r => rnP (isLe f1) n.toNatClampNeg x1.toNatClampNeg r.toNatClampNeg ∧ x1.toInt ≤ r.toInt ∧ r.toInt ≤ n.toInt)) 0 0 (fun _ => False) := by
  refine Met.ofW (cc := cX10_wordEnd) (maxL := 3) (ret := (some .int)) (by decide +kernel) rfl ?_
  intro p e s m args below meth c s₁ B hml hv
  obtain ⟨rfl, hP, hE⟩ := hv
  have hx := B.exec
  have hb := B.bytes
  have hr := B.returns
  have hts := atoms_spec (ws := wsX10_wordEnd) B.pre
  have hown : s.vm.findClass RX10 = some m.cls := findClass_of_methodNamed B.named
  have hlocks := B.notSynchronized
  have hP : va_P D vwCl [(h0, .inr (7, fs0)), (h1, .inl (T 0, 120, .inl f1))] s.heap := hP
  have hl := lv_entry ([.ref h0, .int x1]) (n := 3) (Nat.le_of_ble_eq_true rfl)
  rw [lg_entry_eq]
  generalize (lg_sl ([.ref h0, .int x1]) ++ List.replicate (3 - (lg_sl ([.ref h0, .int x1])).length) Slot.unset).toArray = ls at hl ⊢
  have hl : lv_has ls 3 [(0, .ref h0), (1, .int x1)] := hl
  refine lv_iload_n hx hb dX10_wordEnd_0 rfl (lv_at hl 1 rfl) ?_
  refine lv_istore_n (lv' := [(2, .int x1), (0, .ref h0), (1, .int x1)]) hx hb dX10_wordEnd_1 rfl hl (by decide +kernel) rfl (fun ls hl => ?_)
  refine loopR (σ := (Int32)) (fun x9 ls => lv_has ls 3 [(2, .int x9), (0, .ref h0), (1, .int x1)] ∧ ((x1.toInt ≤ x9.toInt ∧ x9.toInt ≤ n.toInt) ∧ ∀ j : Nat, x1.toNatClampNeg ≤ j → j < x9.toNatClampNeg → isLe f1 j)) (fun x9 => (120 - x9.toInt).toNat) (fun x9 ls hI ih => ?_) x1 ls ⟨lv_sub hl [0, 1, 2] rfl, ⟨(by (try dsimp only); omega), (fun j h8 h9 => absurd h9 (by (try dsimp only); omega))⟩⟩
  obtain ⟨ii, rfl⟩ : ∃ z, z = x9 := ⟨_, rfl⟩
  obtain ⟨hl, hinv⟩ := hI
  have hl : lv_has ls 3 [(2, .int ii), (0, .ref h0), (1, .int x1)] := hl
  have hinv : (x1.toInt ≤ ii.toInt ∧ ii.toInt ≤ n.toInt) ∧ ∀ j : Nat, x1.toNatClampNeg ≤ j → j < ii.toNatClampNeg → isLe f1 j := hinv
  obtain ⟨hinv, hal⟩ := hinv
  refine lv_iload_n hx hb dX10_wordEnd_2 rfl (lv_at hl 0 rfl) ?_
  refine lv_aload_n hx hb dX10_wordEnd_3 rfl (lv_at hl 1 rfl) ?_
  refine va_get (D := D) (ci := 7) (v := .int n) (C := RX10) (T := TX10) (N := 7) hx hb hts in_X10_wordEnd_X10 hown hE.1 hP 0 rfl rfl 0 (by decide +kernel) (hts (.fieldLink RX10 9 "ClauseBook$Tape" "size" "I") (List.mem_of_getElem? (i := 1) rfl)) (fun _ h9 => h9) e0_0 dX10_wordEnd_4 ?_
  refine lv_icmp_ge (tgt := 32) hx hb dX10_wordEnd_7 (by decide +kernel) (fun c_1 => ?_) (fun c_1 => ?_)
  · rw [fa_le] at c_1
    refine lv_iload_n hx hb dX10_wordEnd_32 rfl (lv_at hl 0 rfl) ?_
    exact W.iret hx hb hr (fun t ht hW => ⟨_, rfl, ⟨rn_end (by omega) (by omega) (by omega) hal (fun h9 => absurd h9 (by omega)), by omega⟩, ht⟩) (fun _ h => by cases h) dX10_wordEnd_33
  · rw [fa_le] at c_1
    refine lv_aload_n hx hb dX10_wordEnd_10 rfl (lv_at hl 1 rfl) ?_
    refine va_get (D := D) (ci := 7) (v := .ref h1) (C := RX10) (T := TX10) (N := 7) hx hb hts in_X10_wordEnd_X10 hown hE.1 hP 0 rfl rfl 1 (by decide +kernel) (hts (.fieldLink RX10 15 "ClauseBook$Tape" "bytes" "[I") (List.mem_of_getElem? (i := 2) rfl)) (fun _ h9 => h9) e0_1 dX10_wordEnd_11 ?_
    refine lv_iload_n hx hb dX10_wordEnd_14 rfl (lv_at hl 0 rfl) ?_
    refine va_iald hx hb hE.1 hP 1 0 rfl rfl (by rw [vp_in_iff]; first | omega | (subst_vars; omega)) dX10_wordEnd_15 ?_
    refine lv_topi (fun z_2 ez_2 => ?_)
    refine lv_bipush (v := 97) hx hb dX10_wordEnd_16 (by decide +kernel) ?_
    refine lv_bipush (v := 122) hx hb dX10_wordEnd_18 (by decide +kernel) ?_
    refine vp_callSi (va_Run.run (va_runSN (As := [.int z_2, .int 97, .int 122]) (rest := []) ⟨hx, hb, hml, hown, hts⟩ (c_X12_within l D T z_2 97 122 97 122 (by decide +kernel) (by decide +kernel)) ⟨(va_cnB 3 hts gX10_wordEnd_X12_within_n50 rfl rfl rfl (hE.2.1 (RX10, 50, yX12_within) (List.mem_of_getElem? (i := 8) rfl)) (hts (.initialized RX12) (List.mem_of_getElem? (i := 4) rfl)) hs_X12_within ⟨Nat.le_of_ble_eq_true rfl, Nat.le_of_ble_eq_true rfl⟩), (hts (.static yX12_within) (List.mem_of_getElem? (i := 3) rfl)), trivial⟩ (pR_S hP hE [] rfl) rfl rfl hl.1 rfl (lv_room (Nat.le_of_ble_eq_true rfl)) dX10_wordEnd_20 ⟨Nat.le_of_ble_eq_true rfl, Nat.le_of_ble_eq_true rfl⟩)) (fun r_3 hr_3 => ?_)
    rcases bool_post hr_3 with ⟨c_4, rfl⟩ | ⟨c_4, rfl⟩
    · refine lv_if_eq (tgt := 32) hx hb dX10_wordEnd_23 (by decide +kernel) (fun c9 => absurd c9 (by decide +kernel)) (fun _ => ?_)
      obtain ⟨z_5, ez_5⟩ : ∃ y : Int32, y = ii + 1 := ⟨_, rfl⟩
      refine lv_iinc (v := z_5) (lv' := [(2, .int z_5), (0, .ref h0), (1, .int x1)]) hx hb dX10_wordEnd_26 hl (k := 0) rfl (by rw [ez_5]; rfl) (by decide +kernel) rfl (fun ls hl => ?_)
      have hi9 : z_5.toInt = ii.toInt + 1 := by rw [ez_5]; exact inc1 (n := 1000) (by omega) (by decide +kernel)
      refine lv_goto (tgt := 2) hx hb dX10_wordEnd_29 (by decide +kernel) ?_
      exact ih z_5 ls ⟨lv_sub hl [0, 1, 2] rfl, ⟨(by (try dsimp only); omega), (by (try dsimp only); exact rn_step (by omega) hi9 hal (show isLe f1 (ii.toNatClampNeg) from by unfold isLe; rw [← ez_2]; omega))⟩⟩ (by (try dsimp only); omega)
    · refine lv_if_eq (tgt := 32) hx hb dX10_wordEnd_23 (by decide +kernel) (fun _ => ?_) (fun c9 => absurd c9 (by decide +kernel))
      refine lv_iload_n hx hb dX10_wordEnd_32 rfl (lv_at hl 0 rfl) ?_
      exact W.iret hx hb hr (fun t ht hW => ⟨_, rfl, ⟨rn_end (by omega) (by omega) (by omega) hal (fun _ h8 => by unfold isLe at h8; rw [← ez_2] at h8; omega), by omega⟩, ht⟩) (fun _ h => by cases h) dX10_wordEnd_33
theorem iw_step {f : Nat → Int32} {K : Nat} {a i i' z : Int32} (ha : 0 ≤ a.toInt ∧ a.toInt ≤ 120) (h0 : 0 ≤ i.toInt ∧ i.toInt ≤ 120) (hi : i'.toInt = i.toInt + 1) (h : ∀ j : Nat, j < i.toNatClampNeg → f (a.toNatClampNeg + j) = (ksB.getD K []).getD j 0) (hz : z = f (a + i).toNatClampNeg) (hc : (ksB.getD K []).getD i.toNatClampNeg 0 = z) : ∀ j : Nat, j < i'.toNatClampNeg → f (a.toNatClampNeg + j) = (ksB.getD K []).getD j 0 := by
  intro j hj
  have e := tn1 h0.1 hi
  by_cases hji : j = i.toNatClampNeg
  · have h1 := tn ha.1
    have h2 := tn h0.1
    have e2 := fb_addI (x := a) (y := i) (by omega) (by omega)
    have h3 := tn (x := a + i) (by omega)
    rw [hji, hc, hz, show a.toNatClampNeg + i.toNatClampNeg = (a + i).toNatClampNeg by omega]
  · exact h j (by omega)
theorem iw_no {f : Nat → Int32} {K : Nat} {a b i z : Int32} (ha : 0 ≤ a.toInt ∧ a.toInt ≤ 120) (hi : 0 ≤ i.toInt ∧ i.toInt < (ksL.getD K 0 : Nat)) (hi2 : i.toInt ≤ 120) (hz : z = f (a + i).toNatClampNeg) (hc : ¬ ((ksB.getD K []).getD i.toNatClampNeg 0).toInt = z.toInt) : ¬ wordK f a.toNatClampNeg b.toNatClampNeg K := by
  intro h
  have h1 := tn ha.1
  have h2 := tn hi.1
  have e2 := fb_addI (x := a) (y := i) (by omega) (by omega)
  have h3 := tn (x := a + i) (by omega)
  have h4 := h.2.2 i.toNatClampNeg (by omega)
  rw [show a.toNatClampNeg + i.toNatClampNeg = (a + i).toNatClampNeg by omega, ← hz] at h4
  exact hc (by rw [h4])
theorem iw_len {f : Nat → Int32} {K : Nat} {a b : Int32} (ha : 0 ≤ a.toInt) (hb : 0 ≤ b.toInt) (hc : ¬ ((ksL.getD K 0 : Nat) : Int) = b.toInt - a.toInt) : ¬ wordK f a.toNatClampNeg b.toNatClampNeg K := by
  intro h
  have h1 := tn ha
  have h2 := tn hb
  have h3 := h.2.1
  omega
theorem dX10_isWord_0 : decode cX10_isWord 0 = .ok (.aload_n 1, 1) := by decide +kernel
theorem dX10_isWord_1 : decode cX10_isWord 1 = .ok (.invokevirtual 76, 3) := by decide +kernel
theorem dX10_isWord_10 : decode cX10_isWord 10 = .ok (.iconst 0, 1) := by decide +kernel
theorem dX10_isWord_11 : decode cX10_isWord 11 = .ok (.ireturn, 1) := by decide +kernel
theorem dX10_isWord_12 : decode cX10_isWord 12 = .ok (.iconst 0, 1) := by decide +kernel
theorem dX10_isWord_13 : decode cX10_isWord 13 = .ok (.istore 4, 2) := by decide +kernel
theorem dX10_isWord_15 : decode cX10_isWord 15 = .ok (.iload 4, 2) := by decide +kernel
theorem dX10_isWord_17 : decode cX10_isWord 17 = .ok (.aload_n 1, 1) := by decide +kernel
theorem dX10_isWord_18 : decode cX10_isWord 18 = .ok (.invokevirtual 76, 3) := by decide +kernel
theorem dX10_isWord_21 : decode cX10_isWord 21 = .ok (.if_icmp .ge 29, 3) := by decide +kernel
theorem dX10_isWord_24 : decode cX10_isWord 24 = .ok (.aload_n 1, 1) := by decide +kernel
theorem dX10_isWord_25 : decode cX10_isWord 25 = .ok (.iload 4, 2) := by decide +kernel
theorem dX10_isWord_27 : decode cX10_isWord 27 = .ok (.invokevirtual 82, 3) := by decide +kernel
theorem dX10_isWord_30 : decode cX10_isWord 30 = .ok (.aload_n 0, 1) := by decide +kernel
theorem dX10_isWord_31 : decode cX10_isWord 31 = .ok (.getfield 15, 3) := by decide +kernel
theorem dX10_isWord_34 : decode cX10_isWord 34 = .ok (.iload_n 2, 1) := by decide +kernel
theorem dX10_isWord_35 : decode cX10_isWord 35 = .ok (.iload 4, 2) := by decide +kernel
theorem dX10_isWord_37 : decode cX10_isWord 37 = .ok (.iadd, 1) := by decide +kernel
theorem dX10_isWord_38 : decode cX10_isWord 38 = .ok (.iaload, 1) := by decide +kernel
theorem dX10_isWord_39 : decode cX10_isWord 39 = .ok (.if_icmp .eq 5, 3) := by decide +kernel
theorem dX10_isWord_4 : decode cX10_isWord 4 = .ok (.iload_n 3, 1) := by decide +kernel
theorem dX10_isWord_42 : decode cX10_isWord 42 = .ok (.iconst 0, 1) := by decide +kernel
theorem dX10_isWord_43 : decode cX10_isWord 43 = .ok (.ireturn, 1) := by decide +kernel
theorem dX10_isWord_44 : decode cX10_isWord 44 = .ok (.iinc 4 1, 3) := by decide +kernel
theorem dX10_isWord_47 : decode cX10_isWord 47 = .ok (.goto (-32), 3) := by decide +kernel
theorem dX10_isWord_5 : decode cX10_isWord 5 = .ok (.iload_n 2, 1) := by decide +kernel
theorem dX10_isWord_50 : decode cX10_isWord 50 = .ok (.iconst 1, 1) := by decide +kernel
theorem dX10_isWord_51 : decode cX10_isWord 51 = .ok (.ireturn, 1) := by decide +kernel
theorem dX10_isWord_6 : decode cX10_isWord 6 = .ok (.isub, 1) := by decide +kernel
theorem dX10_isWord_7 : decode cX10_isWord 7 = .ok (.if_icmp .eq 5, 3) := by decide +kernel
set_option maxRecDepth 20000 in
theorem ggX10_isWord_J0_charAt_5068e : GoodIn wsX10_isWord wsJ0_charAt_5068e := goodIn_r _ [17, 7, 18, 19, 20, 5, 21, 12, 13, 22, 23, 24, 25, 26, 27, 28, 29, 30, 31, 32, 33, 34, 35, 36, 37, 38, 39, 40, 41, 42, 43, 44, 45, 46, 47, 48, 49, 50] rfl (by decide +kernel)
set_option maxRecDepth 20000 in
theorem ggX10_isWord_J0_length_8abf5 : GoodIn wsX10_isWord wsJ0_length_8abf5 := goodIn_r _ [6, 7, 8, 9, 10, 5, 11, 12, 13] rfl (by decide +kernel)
set_option maxRecDepth 20000 in
theorem gX10_isWord_J0_charAt_5068e : GoodIn wsX10_isWord (wsV RX10 82 RJ0 yJ0_charAt_5068e wsJ0_charAt_5068e) := goodIn_app (goodIn_r _ [14, 15, 16, 5] rfl (by decide +kernel)) ggX10_isWord_J0_charAt_5068e
set_option maxRecDepth 20000 in
theorem gX10_isWord_J0_length_8abf5 : GoodIn wsX10_isWord (wsV RX10 76 RJ0 yJ0_length_8abf5 wsJ0_length_8abf5) := goodIn_app (goodIn_r _ [2, 3, 4, 5] rfl (by decide +kernel)) ggX10_isWord_J0_length_8abf5
theorem hv_J0_charAt_5068e : yJ0_charAt_5068e.cls = RJ0 ∧ yJ0_charAt_5068e.cls ≠ "java/lang/invoke/MethodHandle" ∧ yJ0_charAt_5068e.cls ≠ "java/lang/invoke/VarHandle" ∧ (parseMethodDescriptor yJ0_charAt_5068e.desc).map (fun d => d.parameters.length) = some 1 := by decide +kernel
theorem hv_J0_length_8abf5 : yJ0_length_8abf5.cls = RJ0 ∧ yJ0_length_8abf5.cls ≠ "java/lang/invoke/MethodHandle" ∧ yJ0_length_8abf5.cls ≠ "java/lang/invoke/VarHandle" ∧ (parseMethodDescriptor yJ0_length_8abf5.desc).map (fun d => d.parameters.length) = some 0 := by decide +kernel
set_option maxRecDepth 20000 in
theorem in_X10_isWord_X10 : ∀ w ∈ wsX100, w ∈ wsX10_isWord := sub_r [51, 52, 53, 54, 55, 56, 57] rfl
set_option maxHeartbeats 4000000 in
set_option maxRecDepth 100000 in
theorem c_X10_isWord (l : Launch) (D : va_G) (T : Nat → ClassId) (ad sa av : Nat → Nat) (ta : Nat) (h0 : Nat) (fs0 : List Value) (h1 : Nat) (f1 : Nat → Int32) (i : Nat) (x2 : Int32) (x3 : Int32) (e0_1 : fs0[1]? = some (.ref h1)) (hi9 : i < 13) (hx : 0 ≤ x2.toInt ∧ x2.toInt ≤ x3.toInt ∧ x3.toInt ≤ 120) : Met l yX10_isWord wsX10_isWord ({ frames := 4, cells := 0, slots := 0, locals := 85 }) (pRk [.ref h0, .ref (sa i), .int x2, .int x3] D T [(h0, .inr (7, fs0)), (h1, .inl (T 0, 120, .inl f1))] ad sa av ta) (vp_Si (fun r => (r = 0 ∨ r = 1) ∧ (r.toInt = 0 → ¬ wordK f1 x2.toNatClampNeg x3.toNatClampNeg i) ∧ (¬ r.toInt = 0 → wordK f1 x2.toNatClampNeg x3.toNatClampNeg i))) 0 0 (fun _ => False) := by
  refine Met.ofW (cc := cX10_isWord) (maxL := 5) (ret := (some .boolean)) (by decide +kernel) rfl ?_
  intro p e s m args below meth c s₁ B hml hv
  obtain ⟨rfl, hP, hE, hV⟩ := hv
  have hS : va_S (fun _ => False) s.heap s.heap [] := va_S.rf
  have hx := B.exec
  have hb := B.bytes
  have hr := B.returns
  have hts := atoms_spec (ws := wsX10_isWord) B.pre
  have hown : s.vm.findClass RX10 = some m.cls := findClass_of_methodNamed B.named
  have hlocks := B.notSynchronized
  have hP : va_P D vwCl [(h0, .inr (7, fs0)), (h1, .inl (T 0, 120, .inl f1))] s.heap := hP
  have hl := lv_entry ([.ref h0, .ref (sa i), .int x2, .int x3]) (n := 5) (Nat.le_of_ble_eq_true rfl)
  rw [lg_entry_eq]
  generalize (lg_sl ([.ref h0, .ref (sa i), .int x2, .int x3]) ++ List.replicate (5 - (lg_sl ([.ref h0, .ref (sa i), .int x2, .int x3])).length) Slot.unset).toArray = ls at hl ⊢
  have hl : lv_has ls 5 [(0, .ref h0), (1, .ref (sa i)), (2, .int x2), (3, .int x3)] := hl
  have hL := nI_toInt (ks_lt i hi9)
  have hsb : (x3 - x2).toInt = x3.toInt - x2.toInt := fb_subI (by omega) (by omega)
  refine lv_aload_n hx hb dX10_isWord_0 rfl (lv_at hl 1 rfl) ?_
  refine vp_callSi (W.runV (As := []) (rest := []) ⟨hx, hb, hml, hown, hts⟩ (c_J0_length_8abf5 l D T ad sa av ta i hi9) (cwV 0 hts gX10_isWord_J0_length_8abf5 rfl rfl rfl hv_J0_length_8abf5 ⟨Nat.le_of_ble_eq_true rfl, Nat.le_of_ble_eq_true rfl⟩) (pRk_VS (i := i) hi9 hP hE hV hS [] rfl) rfl rfl hl.1 rfl (lv_room (Nat.le_of_ble_eq_true rfl)) dX10_isWord_1 ⟨Nat.le_of_ble_eq_true rfl, Nat.le_of_ble_eq_true rfl⟩) (fun r_1 hr_1 => ?_)
  obtain rfl : (nI (ksL.getD i 0)) = r_1 := (hr_1).symm
  refine lv_iload_n hx hb dX10_isWord_4 rfl (lv_at hl 3 rfl) ?_
  refine lv_iload_n hx hb dX10_isWord_5 rfl (lv_at hl 2 rfl) ?_
  refine lv_isub hx hb dX10_isWord_6 ?_
  refine lv_icmp_eq (tgt := 12) hx hb dX10_isWord_7 (by decide +kernel) (fun c_2 => ?_) (fun c_2 => ?_)
  · rw [fa_eq] at c_2
    refine lv_iconst (v := 0) hx hb dX10_isWord_12 (by decide +kernel) ?_
    refine lv_istore (lv' := [(4, .int 0), (0, .ref h0), (1, .ref (sa i)), (2, .int x2), (3, .int x3)]) hx hb dX10_isWord_13 hl (by decide +kernel) rfl (fun ls hl => ?_)
    refine loopR (σ := (Int32)) (fun x9 ls => lv_has ls 5 [(4, .int x9), (0, .ref h0), (1, .ref (sa i)), (2, .int x2), (3, .int x3)] ∧ ((0 ≤ x9.toInt ∧ x9.toInt ≤ (ksL.getD i 0 : Nat)) ∧ ∀ j : Nat, j < x9.toNatClampNeg → f1 (x2.toNatClampNeg + j) = (ksB.getD i []).getD j 0)) (fun x9 => (120 - x9.toInt).toNat) (fun x9 ls hI ih => ?_) 0 ls ⟨lv_sub hl [0, 1, 2, 3, 4] rfl, ⟨(by (try dsimp only); rw [ti_0]; omega), (by (try dsimp only); rw [tn0']; intro j h9; exact absurd h9 (Nat.not_lt_zero j))⟩⟩
    obtain ⟨ii, rfl⟩ : ∃ z, z = x9 := ⟨_, rfl⟩
    obtain ⟨hl, hinv⟩ := hI
    have hl : lv_has ls 5 [(4, .int ii), (0, .ref h0), (1, .ref (sa i)), (2, .int x2), (3, .int x3)] := hl
    have hinv : (0 ≤ ii.toInt ∧ ii.toInt ≤ (ksL.getD i 0 : Nat)) ∧ ∀ j : Nat, j < ii.toNatClampNeg → f1 (x2.toNatClampNeg + j) = (ksB.getD i []).getD j 0 := hinv
    obtain ⟨hinv, hal⟩ := hinv
    refine lv_iload hx hb dX10_isWord_15 (lv_at hl 0 rfl) ?_
    refine lv_aload_n hx hb dX10_isWord_17 rfl (lv_at hl 2 rfl) ?_
    refine vp_callSi (W.runV (As := []) (rest := [.int ii]) ⟨hx, hb, hml, hown, hts⟩ (c_J0_length_8abf5 l D T ad sa av ta i hi9) (cwV 0 hts gX10_isWord_J0_length_8abf5 rfl rfl rfl hv_J0_length_8abf5 ⟨Nat.le_of_ble_eq_true rfl, Nat.le_of_ble_eq_true rfl⟩) (pRk_VS (i := i) hi9 hP hE hV hS [] rfl) rfl rfl hl.1 rfl (lv_room (Nat.le_of_ble_eq_true rfl)) dX10_isWord_18 ⟨Nat.le_of_ble_eq_true rfl, Nat.le_of_ble_eq_true rfl⟩) (fun r_3 hr_3 => ?_)
    obtain rfl : (nI (ksL.getD i 0)) = r_3 := (hr_3).symm
    refine lv_icmp_ge (tgt := 50) hx hb dX10_isWord_21 (by decide +kernel) (fun c_4 => ?_) (fun c_4 => ?_)
    · rw [fa_le] at c_4
      refine lv_iconst (v := 1) hx hb dX10_isWord_50 (by decide +kernel) ?_
      exact W.zret hx hb hr rfl (fun t ht hW => ⟨_, rfl, ⟨Or.inr rfl, (fun h9 => absurd h9 (by decide +kernel)), (fun _ => ⟨hi9, (by have h8 := tn (x := x2) (by omega); have h7 := tn (x := x3) (by omega); omega), (fun j hj => hal j (by have h8 := tn (x := ii) (by omega); omega))⟩)⟩, ht⟩) (fun _ h => by cases h) dX10_isWord_51
    · rw [fa_le] at c_4
      refine lv_aload_n hx hb dX10_isWord_24 rfl (lv_at hl 2 rfl) ?_
      refine lv_iload hx hb dX10_isWord_25 (lv_at hl 0 rfl) ?_
      refine vp_callSi (W.runV (As := [.int ii]) (rest := []) ⟨hx, hb, hml, hown, hts⟩ (c_J0_charAt_5068e l D T ad sa av ta i ii hi9 (by omega)) (cwV 1 hts gX10_isWord_J0_charAt_5068e rfl rfl rfl hv_J0_charAt_5068e ⟨Nat.le_of_ble_eq_true rfl, Nat.le_of_ble_eq_true rfl⟩) (pRk_VS (i := i) hi9 hP hE hV hS [] rfl) rfl rfl hl.1 rfl (lv_room (Nat.le_of_ble_eq_true rfl)) dX10_isWord_27 ⟨Nat.le_of_ble_eq_true rfl, Nat.le_of_ble_eq_true rfl⟩) (fun r_5 hr_5 => ?_)
      obtain rfl : ((ksB.getD i []).getD (ii.toNatClampNeg) 0) = r_5 := (hr_5).symm
      refine lv_aload_n hx hb dX10_isWord_30 rfl (lv_at hl 1 rfl) ?_
      refine va_get (D := D) (ci := 7) (v := .ref h1) (C := RX10) (T := TX10) (N := 7) hx hb hts in_X10_isWord_X10 hown hE.1 hP 0 rfl rfl 1 (by decide +kernel) (hts (.fieldLink RX10 15 "ClauseBook$Tape" "bytes" "[I") (List.mem_of_getElem? (i := 1) rfl)) (fun _ h9 => h9) e0_1 dX10_isWord_31 ?_
      refine lv_iload_n hx hb dX10_isWord_34 rfl (lv_at hl 3 rfl) ?_
      refine lv_iload hx hb dX10_isWord_35 (lv_at hl 0 rfl) ?_
      refine lv_iadd hx hb dX10_isWord_37 ?_
      refine va_iald hx hb hE.1 hP 1 0 rfl rfl (by rw [vp_in_iff, fb_addI (by omega) (by omega)]; omega) dX10_isWord_38 ?_
      refine lv_topi (fun z_6 ez_6 => ?_)
      refine lv_icmp_eq (tgt := 44) hx hb dX10_isWord_39 (by decide +kernel) (fun c_7 => ?_) (fun c_7 => ?_)
      · rw [fa_eq] at c_7
        have hce : (ksB.getD i []).getD (ii.toNatClampNeg) 0 = z_6 := Int32.toInt_inj.1 (by omega)
        obtain ⟨z_8, ez_8⟩ : ∃ y : Int32, y = ii + 1 := ⟨_, rfl⟩
        refine lv_iinc (v := z_8) (lv' := [(4, .int z_8), (0, .ref h0), (1, .ref (sa i)), (2, .int x2), (3, .int x3)]) hx hb dX10_isWord_44 hl (k := 0) rfl (by rw [ez_8]; rfl) (by decide +kernel) rfl (fun ls hl => ?_)
        have hi9 : z_8.toInt = ii.toInt + 1 := by rw [ez_8]; exact inc1 (n := 1000) (by omega) (by decide +kernel)
        refine lv_goto (tgt := 15) hx hb dX10_isWord_47 (by decide +kernel) ?_
        exact ih z_8 ls ⟨lv_sub hl [0, 1, 2, 3, 4] rfl, ⟨(by (try dsimp only); omega), (by (try dsimp only); exact iw_step (by omega) (by omega) hi9 hal ez_6 hce)⟩⟩ (by (try dsimp only); omega)
      · rw [fa_eq] at c_7
        refine lv_iconst (v := 0) hx hb dX10_isWord_42 (by decide +kernel) ?_
        exact W.zret hx hb hr rfl (fun t ht hW => ⟨_, rfl, ⟨Or.inl rfl, (fun _ => iw_no (by omega) (by omega) (by omega) ez_6 (by omega)), (fun h9 => absurd (by decide +kernel) h9)⟩, ht⟩) (fun _ h => by cases h) dX10_isWord_43
  · rw [fa_eq] at c_2
    refine lv_iconst (v := 0) hx hb dX10_isWord_10 (by decide +kernel) ?_
    exact W.zret hx hb hr rfl (fun t ht hW => ⟨_, rfl, ⟨Or.inl rfl, (fun _ => iw_len (by omega) (by omega) (by omega)), (fun h9 => absurd (by decide +kernel) h9)⟩, ht⟩) (fun _ h => by cases h) dX10_isWord_11
theorem ka_step {P : Nat → Prop} {i i' : Int32} (h0 : 0 ≤ i.toInt) (hi : i'.toInt = i.toInt + 1) (h : ∀ j : Nat, j < i.toNatClampNeg → ¬ P j) (hp : ¬ P i.toNatClampNeg) : ∀ j : Nat, j < i'.toNatClampNeg → ¬ P j := by
  intro j hj
  have e := tn1 h0 hi
  by_cases hji : j = i.toNatClampNeg
  · rw [hji]; exact hp
  · exact h j (by omega)
theorem ka_all {f : Nat → Int32} {a b : Nat} {i : Int32} (h0 : 13 ≤ i.toInt) (h : ∀ j : Nat, j < i.toNatClampNeg → ¬ wordK f a b j) : ∀ k : Nat, ¬ wordK f a b k := by
  intro k g
  have t := tn (x := i) (by omega)
  have h2 := g.1
  exact h k (by omega) g
theorem dX10_kindAt_0 : decode cX10_kindAt 0 = .ok (.iconst 0, 1) := by decide +kernel
theorem dX10_kindAt_1 : decode cX10_kindAt 1 = .ok (.istore_n 3, 1) := by decide +kernel
theorem dX10_kindAt_10 : decode cX10_kindAt 10 = .ok (.aload_n 0, 1) := by decide +kernel
theorem dX10_kindAt_11 : decode cX10_kindAt 11 = .ok (.getstatic 34, 3) := by decide +kernel
theorem dX10_kindAt_14 : decode cX10_kindAt 14 = .ok (.iload_n 3, 1) := by decide +kernel
theorem dX10_kindAt_15 : decode cX10_kindAt 15 = .ok (.aaload, 1) := by decide +kernel
theorem dX10_kindAt_16 : decode cX10_kindAt 16 = .ok (.getfield 68, 3) := by decide +kernel
theorem dX10_kindAt_19 : decode cX10_kindAt 19 = .ok (.iload_n 1, 1) := by decide +kernel
theorem dX10_kindAt_2 : decode cX10_kindAt 2 = .ok (.iload_n 3, 1) := by decide +kernel
theorem dX10_kindAt_20 : decode cX10_kindAt 20 = .ok (.iload_n 2, 1) := by decide +kernel
theorem dX10_kindAt_21 : decode cX10_kindAt 21 = .ok (.invokevirtual 72, 3) := by decide +kernel
theorem dX10_kindAt_24 : decode cX10_kindAt 24 = .ok (.ifCond .eq 5, 3) := by decide +kernel
theorem dX10_kindAt_27 : decode cX10_kindAt 27 = .ok (.iload_n 3, 1) := by decide +kernel
theorem dX10_kindAt_28 : decode cX10_kindAt 28 = .ok (.ireturn, 1) := by decide +kernel
theorem dX10_kindAt_29 : decode cX10_kindAt 29 = .ok (.iinc 3 1, 3) := by decide +kernel
theorem dX10_kindAt_3 : decode cX10_kindAt 3 = .ok (.getstatic 34, 3) := by decide +kernel
theorem dX10_kindAt_32 : decode cX10_kindAt 32 = .ok (.goto (-30), 3) := by decide +kernel
theorem dX10_kindAt_35 : decode cX10_kindAt 35 = .ok (.iconst (-1), 1) := by decide +kernel
theorem dX10_kindAt_36 : decode cX10_kindAt 36 = .ok (.ireturn, 1) := by decide +kernel
theorem dX10_kindAt_6 : decode cX10_kindAt 6 = .ok (.arraylength, 1) := by decide +kernel
theorem dX10_kindAt_7 : decode cX10_kindAt 7 = .ok (.if_icmp .ge 28, 3) := by decide +kernel
set_option maxRecDepth 20000 in
theorem ggX10_kindAt_X10_isWord : GoodIn wsX10_kindAt wsX10_isWord := goodIn_r _ [6, 7, 8, 9, 10, 11, 12, 13, 14, 15, 16, 17, 18, 19, 20, 21, 22, 23, 24, 25, 26, 27, 28, 29, 30, 31, 32, 33, 34, 35, 36, 37, 38, 39, 40, 41, 42, 43, 44, 45, 46, 47, 48, 49, 50, 51, 52, 53, 54, 55, 56, 57, 58, 59, 60, 61, 62, 63] rfl (by decide +kernel)
set_option maxRecDepth 20000 in
theorem gX10_kindAt_X10_isWord : GoodIn wsX10_kindAt (wsV RX10 72 RX10 yX10_isWord wsX10_isWord) := goodIn_app (goodIn_r _ [2, 3, 4, 5] rfl (by decide +kernel)) ggX10_kindAt_X10_isWord
theorem hv_X10_isWord : yX10_isWord.cls = RX10 ∧ yX10_isWord.cls ≠ "java/lang/invoke/MethodHandle" ∧ yX10_isWord.cls ≠ "java/lang/invoke/VarHandle" ∧ (parseMethodDescriptor yX10_isWord.desc).map (fun d => d.parameters.length) = some 3 := by decide +kernel
set_option maxHeartbeats 4000000 in
set_option maxRecDepth 100000 in
theorem c_X10_kindAt (l : Launch) (D : va_G) (T : Nat → ClassId) (ad sa av : Nat → Nat) (ta : Nat) (h0 : Nat) (fs0 : List Value) (h1 : Nat) (f1 : Nat → Int32) (x1 : Int32) (x2 : Int32) (e0_1 : fs0[1]? = some (.ref h1)) (hx : 0 ≤ x1.toInt ∧ x1.toInt ≤ x2.toInt ∧ x2.toInt ≤ 120) : Met l yX10_kindAt wsX10_kindAt ({ frames := 5, cells := 0, slots := 0, locals := 109 }) (pRk [.ref h0, .int x1, .int x2] D T [(h0, .inr (7, fs0)), (h1, .inl (T 0, 120, .inl f1))] ad sa av ta) (vp_Si (fun r => (r.toInt = -1 ∧ ∀ k : Nat, ¬ wordK f1 x1.toNatClampNeg x2.toNatClampNeg k) ∨ ((0 ≤ r.toInt ∧ r.toInt ≤ 12) ∧ wordK f1 x1.toNatClampNeg x2.toNatClampNeg r.toNatClampNeg))) 0 0 (fun _ => False) := by
  refine Met.ofW (cc := cX10_kindAt) (maxL := 4) (ret := (some .int)) (by decide +kernel) rfl ?_
  intro p e s m args below meth c s₁ B hml hv
  obtain ⟨rfl, hP, hE, hV⟩ := hv
  have hS : va_S (fun _ => False) s.heap s.heap [] := va_S.rf
  have hx := B.exec
  have hb := B.bytes
  have hr := B.returns
  have hts := atoms_spec (ws := wsX10_kindAt) B.pre
  have hown : s.vm.findClass RX10 = some m.cls := findClass_of_methodNamed B.named
  have hlocks := B.notSynchronized
  have hP : va_P D vwCl [(h0, .inr (7, fs0)), (h1, .inl (T 0, 120, .inl f1))] s.heap := hP
  have hl := lv_entry ([.ref h0, .int x1, .int x2]) (n := 4) (Nat.le_of_ble_eq_true rfl)
  rw [lg_entry_eq]
  generalize (lg_sl ([.ref h0, .int x1, .int x2]) ++ List.replicate (4 - (lg_sl ([.ref h0, .int x1, .int x2])).length) Slot.unset).toArray = ls at hl ⊢
  have hl : lv_has ls 4 [(0, .ref h0), (1, .int x1), (2, .int x2)] := hl
  refine lv_iconst (v := 0) hx hb dX10_kindAt_0 (by decide +kernel) ?_
  refine lv_istore_n (lv' := [(3, .int 0), (0, .ref h0), (1, .int x1), (2, .int x2)]) hx hb dX10_kindAt_1 rfl hl (by decide +kernel) rfl (fun ls hl => ?_)
  refine loopR (σ := (Int32)) (fun x9 ls => lv_has ls 4 [(3, .int x9), (0, .ref h0), (1, .int x1), (2, .int x2)] ∧ ((0 ≤ x9.toInt ∧ x9.toInt ≤ 13) ∧ ∀ j : Nat, j < x9.toNatClampNeg → ¬ wordK f1 x1.toNatClampNeg x2.toNatClampNeg j)) (fun x9 => (13 - x9.toInt).toNat) (fun x9 ls hI ih => ?_) 0 ls ⟨lv_sub hl [0, 1, 2, 3] rfl, ⟨(by (try dsimp only); decide), (by (try dsimp only); rw [tn0']; intro j h9; exact absurd h9 (Nat.not_lt_zero j))⟩⟩
  obtain ⟨kk, rfl⟩ : ∃ z, z = x9 := ⟨_, rfl⟩
  obtain ⟨hl, hinv⟩ := hI
  have hl : lv_has ls 4 [(3, .int kk), (0, .ref h0), (1, .int x1), (2, .int x2)] := hl
  have hinv : (0 ≤ kk.toInt ∧ kk.toInt ≤ 13) ∧ ∀ j : Nat, j < kk.toNatClampNeg → ¬ wordK f1 x1.toNatClampNeg x2.toNatClampNeg j := hinv
  obtain ⟨hinv, hal⟩ := hinv
  refine lv_iload_n hx hb dX10_kindAt_2 rfl (lv_at hl 0 rfl) ?_
  refine va_getsN (v := .ref ta) hx hb hV.1.2.1 hS hown (va_Nw.use rfl (hE.2.2.1 (RX10, 34) (List.mem_of_getElem? (i := 2) rfl))) (fun _ h9 => h9) dX10_kindAt_3 ?_
  refine va_tlen (v := 13) hx hb hV.1.2.2 hS rfl dX10_kindAt_6 ?_
  refine lv_icmp_ge (tgt := 35) hx hb dX10_kindAt_7 (by decide +kernel) (fun c_1 => ?_) (fun c_1 => ?_)
  · rw [fa_le] at c_1
    try rw [ti_13] at c_1
    refine lv_iconst (v := (-1)) hx hb dX10_kindAt_35 (by decide +kernel) ?_
    exact W.iret hx hb hr (fun t ht hW => ⟨_, rfl, (Or.inl ⟨by decide, ka_all (by omega) hal⟩), ht⟩) (fun _ h => by cases h) dX10_kindAt_36
  · rw [fa_le] at c_1
    try rw [ti_13] at c_1
    refine lv_aload_n hx hb dX10_kindAt_10 rfl (lv_at hl 1 rfl) ?_
    refine va_getsN (v := .ref ta) hx hb hV.1.2.1 hS hown (va_Nw.use rfl (hE.2.2.1 (RX10, 34) (List.mem_of_getElem? (i := 2) rfl))) (fun _ h9 => h9) dX10_kindAt_11 ?_
    refine lv_iload_n hx hb dX10_kindAt_14 rfl (lv_at hl 0 rfl) ?_
    refine vb_tq (v := .ref (ad (kk.toNatClampNeg))) hx hb hV.1.2.2 hS (by rw [vp_in_iff]; omega) rfl dX10_kindAt_15 ?_
    refine vk_getf (v := .ref (sa (kk.toNatClampNeg))) hx hb (hV.2.2.2.1 (kk.toNatClampNeg) (in13c (by omega))) hS hown (hts (.fieldLink RX10 68 "ClauseBook$Kind" "word" "Ljava/lang/String;") (List.mem_of_getElem? (i := 1) rfl)) (fun _ h9 => h9) dX10_kindAt_16 ?_
    refine lv_iload_n hx hb dX10_kindAt_19 rfl (lv_at hl 2 rfl) ?_
    refine lv_iload_n hx hb dX10_kindAt_20 rfl (lv_at hl 3 rfl) ?_
    refine vp_callSi (W.runV (As := [.ref (sa (kk.toNatClampNeg)), .int x1, .int x2]) (rest := []) ⟨hx, hb, hml, hown, hts⟩ (c_X10_isWord l D T ad sa av ta h0 fs0 h1 f1 (kk.toNatClampNeg) x1 x2 e0_1 (in13c (by omega)) (by omega)) (cwV 3 hts gX10_kindAt_X10_isWord rfl rfl rfl hv_X10_isWord ⟨Nat.le_of_ble_eq_true rfl, Nat.le_of_ble_eq_true rfl⟩) (pRk_V (q := (RX10, TX10, 7)) (ci := 7) (q0 := 0) hP hE hV hS rfl rfl [0, 1] rfl) rfl rfl hl.1 rfl (lv_room (Nat.le_of_ble_eq_true rfl)) dX10_kindAt_21 ⟨Nat.le_of_ble_eq_true rfl, Nat.le_of_ble_eq_true rfl⟩) (fun r_2 hr_2 => ?_)
    refine lv_if_eq (tgt := 29) hx hb dX10_kindAt_24 (by decide +kernel) (fun c_3 => ?_) (fun c_3 => ?_)
    · rw [fa_eq] at c_3
      try rw [ti_0] at c_3
      obtain ⟨z_4, ez_4⟩ : ∃ y : Int32, y = kk + 1 := ⟨_, rfl⟩
      refine lv_iinc (v := z_4) (lv' := [(3, .int z_4), (0, .ref h0), (1, .int x1), (2, .int x2)]) hx hb dX10_kindAt_29 hl (k := 0) rfl (by rw [ez_4]; rfl) (by decide +kernel) rfl (fun ls hl => ?_)
      have hi9 : z_4.toInt = kk.toInt + 1 := by rw [ez_4]; exact inc1 (n := 1000) (by omega) (by decide +kernel)
      refine lv_goto (tgt := 2) hx hb dX10_kindAt_32 (by decide +kernel) ?_
      exact ih z_4 ls ⟨lv_sub hl [0, 1, 2, 3] rfl, ⟨(by (try dsimp only); omega), (by (try dsimp only); exact ka_step (by omega) hi9 hal (hr_2.2.1 (by omega)))⟩⟩ (by (try dsimp only); omega)
    · rw [fa_eq] at c_3
      try rw [ti_0] at c_3
      refine lv_iload_n hx hb dX10_kindAt_27 rfl (lv_at hl 0 rfl) ?_
      exact W.iret hx hb hr (fun t ht hW => ⟨_, rfl, (Or.inr ⟨by omega, hr_2.2.2 (by omega)⟩), ht⟩) (fun _ h => by cases h) dX10_kindAt_28
theorem lm_eq {K : Nat} (h : (msT K).toInt ≤ (lsT K).toInt) : lsT K = msT K := by
  have h1 := ls_in K
  exact Int32.toInt_inj.1 (by omega)
theorem dX7_numbered_0 : decode cX7_numbered 0 = .ok (.aload_n 0, 1) := by decide +kernel
theorem dX7_numbered_1 : decode cX7_numbered 1 = .ok (.getfield 73, 3) := by decide +kernel
theorem dX7_numbered_11 : decode cX7_numbered 11 = .ok (.iconst 1, 1) := by decide +kernel
theorem dX7_numbered_12 : decode cX7_numbered 12 = .ok (.goto 4, 3) := by decide +kernel
theorem dX7_numbered_15 : decode cX7_numbered 15 = .ok (.iconst 0, 1) := by decide +kernel
theorem dX7_numbered_16 : decode cX7_numbered 16 = .ok (.ireturn, 1) := by decide +kernel
theorem dX7_numbered_4 : decode cX7_numbered 4 = .ok (.aload_n 0, 1) := by decide +kernel
theorem dX7_numbered_5 : decode cX7_numbered 5 = .ok (.getfield 76, 3) := by decide +kernel
theorem dX7_numbered_8 : decode cX7_numbered 8 = .ok (.if_icmp .ge 7, 3) := by decide +kernel
set_option maxHeartbeats 4000000 in
set_option maxRecDepth 100000 in
theorem c_X7_numbered (l : Launch) (D : va_G) (T : Nat → ClassId) (ad sa av : Nat → Nat) (ta : Nat) (K : Nat) (hi9 : K < 13) : Met l yX7_numbered wsX7_numbered ({ frames := 0, cells := 0, slots := 0, locals := 0 }) (pRk [.ref (ad K)] D T [] ad sa av ta) (vp_Si (fun r => (r = 0 ∧ lsT K = msT K) ∨ (r = 1 ∧ lsT K ≠ msT K))) 0 0 (fun _ => False) := by
  refine Met.ofW (cc := cX7_numbered) (maxL := 1) (ret := (some .boolean)) (by decide +kernel) rfl ?_
  intro p e s m args below meth c s₁ B hml hv
  obtain ⟨rfl, hP, hE, hV⟩ := hv
  have hS : va_S (fun _ => False) s.heap s.heap [] := va_S.rf
  have hx := B.exec
  have hb := B.bytes
  have hr := B.returns
  have hts := atoms_spec (ws := wsX7_numbered) B.pre
  have hown : s.vm.findClass RX7 = some m.cls := findClass_of_methodNamed B.named
  have hlocks := B.notSynchronized
  have hP : va_P D vwCl [] s.heap := hP
  have hl := lv_entry ([.ref (ad K)]) (n := 1) (Nat.le_of_ble_eq_true rfl)
  rw [lg_entry_eq]
  generalize (lg_sl ([.ref (ad K)]) ++ List.replicate (1 - (lg_sl ([.ref (ad K)])).length) Slot.unset).toArray = ls at hl ⊢
  have hl : lv_has ls 1 [(0, .ref (ad K))] := hl
  refine lv_aload_n hx hb dX7_numbered_0 rfl (lv_at hl 0 rfl) ?_
  refine va_getE (i := K) hx hb hV.1.1 hi9 hS hown (q := kdQ "least" [0, 0, 0, -9, 0, 0, 0, 0, 0, 0, 0, 0, -99]) (List.mem_of_getElem? (i := 1) rfl) (hts (.fieldLink RX7 73 "ClauseBook$Kind" "least" "I") (List.mem_of_getElem? (i := 1) rfl)) (fun _ h9 => h9) dX7_numbered_1 ?_
  refine W.eq (g2 := F0 m 4 ls [.int (lsT K)]) rfl ?_
  refine lv_aload_n hx hb dX7_numbered_4 rfl (lv_at hl 0 rfl) ?_
  refine va_getE (i := K) hx hb hV.1.1 hi9 hS hown (q := kdQ "most" [0, 0, 0, 9, 0, 0, 0, 0, 6, 0, 0, 0, 99]) (List.mem_of_getElem? (i := 2) rfl) (hts (.fieldLink RX7 76 "ClauseBook$Kind" "most" "I") (List.mem_of_getElem? (i := 2) rfl)) (fun _ h9 => h9) dX7_numbered_5 ?_
  refine W.eq (g2 := F0 m 8 ls [.int (msT K), .int (lsT K)]) rfl ?_
  refine lv_icmp_ge (tgt := 15) hx hb dX7_numbered_8 (by decide +kernel) (fun c_1 => ?_) (fun c_1 => ?_)
  · rw [fa_le] at c_1
    refine lv_iconst (v := 0) hx hb dX7_numbered_15 (by decide +kernel) ?_
    exact W.zret hx hb hr rfl (fun t ht hW => ⟨_, rfl, (Or.inl ⟨rfl, lm_eq (by omega)⟩), ht⟩) (fun _ h => by cases h) dX7_numbered_16
  · rw [fa_le] at c_1
    refine lv_iconst (v := 1) hx hb dX7_numbered_11 (by decide +kernel) ?_
    refine lv_goto (tgt := 16) hx hb dX7_numbered_12 (by decide +kernel) ?_
    exact W.zret hx hb hr rfl (fun t ht hW => ⟨_, rfl, (Or.inr ⟨rfl, (fun h9 => by have h8 : (lsT K).toInt = (msT K).toInt := (by rw [h9]); omega)⟩), ht⟩) (fun _ h => by cases h) dX7_numbered_16
theorem dX10_numberEnd_0 : decode cX10_numberEnd 0 = .ok (.aload_n 0, 1) := by decide +kernel
theorem dX10_numberEnd_1 : decode cX10_numberEnd 1 = .ok (.getfield 15, 3) := by decide +kernel
theorem dX10_numberEnd_100 : decode cX10_numberEnd 100 = .ok (.aload_n 0, 1) := by decide +kernel
theorem dX10_numberEnd_101 : decode cX10_numberEnd 101 = .ok (.getfield 31, 3) := by decide +kernel
theorem dX10_numberEnd_104 : decode cX10_numberEnd 104 = .ok (.sipush 1000, 3) := by decide +kernel
theorem dX10_numberEnd_107 : decode cX10_numberEnd 107 = .ok (.if_icmp .eq 12, 3) := by decide +kernel
theorem dX10_numberEnd_11 : decode cX10_numberEnd 11 = .ok (.iload_n 1, 1) := by decide +kernel
theorem dX10_numberEnd_110 : decode cX10_numberEnd 110 = .ok (.aload_n 0, 1) := by decide +kernel
theorem dX10_numberEnd_111 : decode cX10_numberEnd 111 = .ok (.aload_n 0, 1) := by decide +kernel
theorem dX10_numberEnd_112 : decode cX10_numberEnd 112 = .ok (.getfield 31, 3) := by decide +kernel
theorem dX10_numberEnd_115 : decode cX10_numberEnd 115 = .ok (.ineg, 1) := by decide +kernel
theorem dX10_numberEnd_116 : decode cX10_numberEnd 116 = .ok (.putfield 31, 3) := by decide +kernel
theorem dX10_numberEnd_119 : decode cX10_numberEnd 119 = .ok (.iload_n 3, 1) := by decide +kernel
theorem dX10_numberEnd_12 : decode cX10_numberEnd 12 = .ok (.iconst 1, 1) := by decide +kernel
theorem dX10_numberEnd_120 : decode cX10_numberEnd 120 = .ok (.ireturn, 1) := by decide +kernel
theorem dX10_numberEnd_13 : decode cX10_numberEnd 13 = .ok (.iadd, 1) := by decide +kernel
theorem dX10_numberEnd_14 : decode cX10_numberEnd 14 = .ok (.goto 4, 3) := by decide +kernel
theorem dX10_numberEnd_17 : decode cX10_numberEnd 17 = .ok (.iload_n 1, 1) := by decide +kernel
theorem dX10_numberEnd_18 : decode cX10_numberEnd 18 = .ok (.istore_n 2, 1) := by decide +kernel
theorem dX10_numberEnd_19 : decode cX10_numberEnd 19 = .ok (.iload_n 2, 1) := by decide +kernel
theorem dX10_numberEnd_20 : decode cX10_numberEnd 20 = .ok (.istore_n 3, 1) := by decide +kernel
theorem dX10_numberEnd_21 : decode cX10_numberEnd 21 = .ok (.aload_n 0, 1) := by decide +kernel
theorem dX10_numberEnd_22 : decode cX10_numberEnd 22 = .ok (.iconst 0, 1) := by decide +kernel
theorem dX10_numberEnd_23 : decode cX10_numberEnd 23 = .ok (.putfield 31, 3) := by decide +kernel
theorem dX10_numberEnd_26 : decode cX10_numberEnd 26 = .ok (.iload_n 3, 1) := by decide +kernel
theorem dX10_numberEnd_27 : decode cX10_numberEnd 27 = .ok (.aload_n 0, 1) := by decide +kernel
theorem dX10_numberEnd_28 : decode cX10_numberEnd 28 = .ok (.getfield 9, 3) := by decide +kernel
theorem dX10_numberEnd_31 : decode cX10_numberEnd 31 = .ok (.if_icmp .ge 52, 3) := by decide +kernel
theorem dX10_numberEnd_34 : decode cX10_numberEnd 34 = .ok (.aload_n 0, 1) := by decide +kernel
theorem dX10_numberEnd_35 : decode cX10_numberEnd 35 = .ok (.getfield 15, 3) := by decide +kernel
theorem dX10_numberEnd_38 : decode cX10_numberEnd 38 = .ok (.iload_n 3, 1) := by decide +kernel
theorem dX10_numberEnd_39 : decode cX10_numberEnd 39 = .ok (.iaload, 1) := by decide +kernel
theorem dX10_numberEnd_4 : decode cX10_numberEnd 4 = .ok (.iload_n 1, 1) := by decide +kernel
theorem dX10_numberEnd_40 : decode cX10_numberEnd 40 = .ok (.bipush 48, 2) := by decide +kernel
theorem dX10_numberEnd_42 : decode cX10_numberEnd 42 = .ok (.bipush 57, 2) := by decide +kernel
theorem dX10_numberEnd_44 : decode cX10_numberEnd 44 = .ok (.invokestatic 50, 3) := by decide +kernel
theorem dX10_numberEnd_47 : decode cX10_numberEnd 47 = .ok (.ifCond .eq 36, 3) := by decide +kernel
theorem dX10_numberEnd_5 : decode cX10_numberEnd 5 = .ok (.iaload, 1) := by decide +kernel
theorem dX10_numberEnd_50 : decode cX10_numberEnd 50 = .ok (.aload_n 0, 1) := by decide +kernel
theorem dX10_numberEnd_51 : decode cX10_numberEnd 51 = .ok (.aload_n 0, 1) := by decide +kernel
theorem dX10_numberEnd_52 : decode cX10_numberEnd 52 = .ok (.getfield 31, 3) := by decide +kernel
theorem dX10_numberEnd_55 : decode cX10_numberEnd 55 = .ok (.bipush 10, 2) := by decide +kernel
theorem dX10_numberEnd_57 : decode cX10_numberEnd 57 = .ok (.imul, 1) := by decide +kernel
theorem dX10_numberEnd_58 : decode cX10_numberEnd 58 = .ok (.aload_n 0, 1) := by decide +kernel
theorem dX10_numberEnd_59 : decode cX10_numberEnd 59 = .ok (.getfield 15, 3) := by decide +kernel
theorem dX10_numberEnd_6 : decode cX10_numberEnd 6 = .ok (.bipush 45, 2) := by decide +kernel
theorem dX10_numberEnd_62 : decode cX10_numberEnd 62 = .ok (.iload_n 3, 1) := by decide +kernel
theorem dX10_numberEnd_63 : decode cX10_numberEnd 63 = .ok (.iaload, 1) := by decide +kernel
theorem dX10_numberEnd_64 : decode cX10_numberEnd 64 = .ok (.iadd, 1) := by decide +kernel
theorem dX10_numberEnd_65 : decode cX10_numberEnd 65 = .ok (.bipush 48, 2) := by decide +kernel
theorem dX10_numberEnd_67 : decode cX10_numberEnd 67 = .ok (.isub, 1) := by decide +kernel
theorem dX10_numberEnd_68 : decode cX10_numberEnd 68 = .ok (.sipush 1000, 3) := by decide +kernel
theorem dX10_numberEnd_71 : decode cX10_numberEnd 71 = .ok (.invokestatic 86, 3) := by decide +kernel
theorem dX10_numberEnd_74 : decode cX10_numberEnd 74 = .ok (.putfield 31, 3) := by decide +kernel
theorem dX10_numberEnd_77 : decode cX10_numberEnd 77 = .ok (.iinc 3 1, 3) := by decide +kernel
theorem dX10_numberEnd_8 : decode cX10_numberEnd 8 = .ok (.if_icmp .ne 9, 3) := by decide +kernel
theorem dX10_numberEnd_80 : decode cX10_numberEnd 80 = .ok (.goto (-54), 3) := by decide +kernel
theorem dX10_numberEnd_83 : decode cX10_numberEnd 83 = .ok (.iload_n 3, 1) := by decide +kernel
theorem dX10_numberEnd_84 : decode cX10_numberEnd 84 = .ok (.iload_n 2, 1) := by decide +kernel
theorem dX10_numberEnd_85 : decode cX10_numberEnd 85 = .ok (.if_icmp .ne 10, 3) := by decide +kernel
theorem dX10_numberEnd_88 : decode cX10_numberEnd 88 = .ok (.aload_n 0, 1) := by decide +kernel
theorem dX10_numberEnd_89 : decode cX10_numberEnd 89 = .ok (.sipush 1000, 3) := by decide +kernel
theorem dX10_numberEnd_92 : decode cX10_numberEnd 92 = .ok (.putfield 31, 3) := by decide +kernel
theorem dX10_numberEnd_95 : decode cX10_numberEnd 95 = .ok (.iload_n 2, 1) := by decide +kernel
theorem dX10_numberEnd_96 : decode cX10_numberEnd 96 = .ok (.iload_n 1, 1) := by decide +kernel
theorem dX10_numberEnd_97 : decode cX10_numberEnd 97 = .ok (.if_icmp .le 22, 3) := by decide +kernel
set_option maxRecDepth 20000 in
theorem ggX10_numberEnd_X12_within : GoodIn wsX10_numberEnd wsX12_within := goodIn_r _ [10] rfl (by decide +kernel)
set_option maxRecDepth 20000 in
theorem gX10_numberEnd_X12_within_n50 : GoodIn wsX10_numberEnd (wsX12_within) := ggX10_numberEnd_X12_within
set_option maxRecDepth 20000 in
theorem in_X10_numberEnd_X10 : ∀ w ∈ wsX100, w ∈ wsX10_numberEnd := sub_r [11, 12, 13, 14, 15, 16, 17] rfl
set_option maxHeartbeats 4000000 in
set_option maxRecDepth 100000 in
theorem c_X10_numberEnd (l : Launch) (D : va_G) (T : Nat → ClassId) (sz : Nat) (h0 : Nat) (yb : Nat) (ki : Nat) (nu : Nat) (n : Int32) (wd : Int32) (nx : Int32) (nb : Int32) (fb : Nat → Int32) (x1 : Int32) (hn : 0 ≤ n.toInt ∧ n.toInt ≤ 120) (hx : 0 ≤ x1.toInt ∧ x1.toInt < n.toInt) : Met l yX10_numberEnd wsX10_numberEnd ({ frames := 1, cells := 0, slots := 0, locals := 40 }) (pW [.ref h0, .int x1] D T [(h0, .inr (7, [.int n, .ref yb, .ref ki, .ref nu, .int wd, .int nx, .int nb])), (yb, .inl (T 0, 120, .inl fb))] sz) (va_Qi (fun (r : Int32) (u : Int32) => (x1.toInt ≤ r.toInt ∧ r.toInt ≤ n.toInt) ∧ numE fb n.toNatClampNeg x1.toNatClampNeg r.toNatClampNeg u) (bW D (va_A [(h0, .inr (7, [.int n, .ref yb, .ref ki, .ref nu, .int wd, .int nx, .int nb])), (yb, .inl (T 0, 120, .inl fb))] sz) (fun (u : Int32) => [(h0, .inr (7, [.int n, .ref yb, .ref ki, .ref nu, .int wd, .int nx, .int u])), (yb, .inl (T 0, 120, .inl fb))])) (va_A [(h0, .inr (7, [.int n, .ref yb, .ref ki, .ref nu, .int wd, .int nx, .int nb])), (yb, .inl (T 0, 120, .inl fb))] sz)) 0 0 (va_A [(h0, .inr (7, [.int n, .ref yb, .ref ki, .ref nu, .int wd, .int nx, .int nb])), (yb, .inl (T 0, 120, .inl fb))] sz) := by
  refine Met.ofW (cc := cX10_numberEnd) (maxL := 4) (ret := (some .int)) (by decide +kernel) rfl ?_
  intro p e s m args below meth c s₁ B hml hv
  obtain ⟨rfl, hsz, hP, hE, hD0⟩ := hv
  have hx := B.exec
  have hb := B.bytes
  have hr := B.returns
  have hts := atoms_spec (ws := wsX10_numberEnd) B.pre
  have hown : s.vm.findClass RX10 = some m.cls := findClass_of_methodNamed B.named
  have hlocks := B.notSynchronized
  subst hsz
  have hD := hD0.self (sz := s.heap.size)
  generalize hAe : va_A [(h0, .inr (7, [.int n, .ref yb, .ref ki, .ref nu, .int wd, .int nx, .int nb])), (yb, .inl (T 0, 120, .inl fb))] s.heap.size = A at hD ⊢
  have hA : ∀ q : Nat, s.heap.size ≤ q → A q := fun q h => by rw [← hAe]; exact Or.inr h
  have hS : va_S A s.heap s.heap [] := va_S.rf
  have hP : va_P D vwCl [(h0, .inr (7, [.int n, .ref yb, .ref ki, .ref nu, .int wd, .int nx, .int nb])), (yb, .inl (T 0, 120, .inl fb))] s.heap := hP
  have hl := lv_entry ([.ref h0, .int x1]) (n := 4) (Nat.le_of_ble_eq_true rfl)
  rw [lg_entry_eq]
  generalize (lg_sl ([.ref h0, .int x1]) ++ List.replicate (4 - (lg_sl ([.ref h0, .int x1])).length) Slot.unset).toArray = ls at hl ⊢
  have hl : lv_has ls 4 [(0, .ref h0), (1, .int x1)] := hl
  clear hD0
  refine lv_aload_n hx hb dX10_numberEnd_0 rfl (lv_at hl 0 rfl) ?_
  refine va_get (D := D) (ci := 7) (v := .ref yb) (C := RX10) (T := TX10) (N := 7) hx hb hts in_X10_numberEnd_X10 hown hE.1 hP 0 rfl rfl 1 (by decide +kernel) (hts (.fieldLink RX10 15 "ClauseBook$Tape" "bytes" "[I") (List.mem_of_getElem? (i := 1) rfl)) (fun _ h9 => h9) rfl dX10_numberEnd_1 ?_
  refine lv_iload_n hx hb dX10_numberEnd_4 rfl (lv_at hl 1 rfl) ?_
  refine va_iald hx hb hE.1 hP 1 0 rfl rfl (by rw [vp_in_iff]; first | omega | (subst_vars; omega)) dX10_numberEnd_5 ?_
  refine lv_topi (fun z_1 ez_1 => ?_)
  refine lv_bipush (v := 45) hx hb dX10_numberEnd_6 (by decide +kernel) ?_
  refine lv_icmp_ne (tgt := 17) hx hb dX10_numberEnd_8 (by decide +kernel) (fun c_2 => ?_) (fun c_2 => ?_)
  · rw [fa_eq] at c_2
    try rw [ti_45] at c_2
    refine lv_iload_n hx hb dX10_numberEnd_17 rfl (lv_at hl 1 rfl) ?_
    have hng : ¬ (fb (x1.toNatClampNeg)).toInt = 45 := by rw [← ez_1]; omega
    have hsg : sgS fb (x1.toNatClampNeg) = x1.toNatClampNeg := by unfold sgS; rw [if_neg hng]
    refine lv_istore_n (lv' := [(2, .int x1), (0, .ref h0), (1, .int x1)]) hx hb dX10_numberEnd_18 rfl hl (by decide +kernel) rfl (fun ls hl => ?_)
    refine lv_iload_n hx hb dX10_numberEnd_19 rfl (lv_at hl 0 rfl) ?_
    refine lv_istore_n (lv' := [(3, .int x1), (2, .int x1), (0, .ref h0), (1, .int x1)]) hx hb dX10_numberEnd_20 rfl hl (by decide +kernel) rfl (fun ls hl => ?_)
    refine lv_aload_n hx hb dX10_numberEnd_21 rfl (lv_at hl 2 rfl) ?_
    refine lv_iconst (v := 0) hx hb dX10_numberEnd_22 (by decide +kernel) ?_
    refine va_put (D := D) (ci := 7) (v := .int 0) (ty := .int) (C := RX10) (T := TX10) (N := 7) hx hb hts in_X10_numberEnd_X10 tyX10 tyX10_ok nmX10 hown hE.1 hP hD hS 0 rfl rfl 6 (by decide +kernel) (hts (.fieldLink RX10 31 "ClauseBook$Tape" "number" "I") (List.mem_of_getElem? (i := 2) rfl)) (fun _ h9 => h9) rfl (by decide +kernel) rfl rfl (Nat.le_of_ble_eq_true rfl) dX10_numberEnd_23 (fun H locs hP hD hS => ?_)
    obtain ⟨hP, hD⟩ := wPD [(h0, .inr (7, [.int n, .ref yb, .ref ki, .ref nu, .int wd, .int nx, .int 0])), (yb, .inl (T 0, 120, .inl fb))] hP hD rfl
    refine loopW (σ := (Int32) × (Int32)) (fun x9 ls H locs => lv_has ls 4 [(3, .int x9.1), (2, .int x1), (0, .ref h0), (1, .int x1)] ∧ va_P D vwCl [(h0, .inr (7, [.int n, .ref yb, .ref ki, .ref nu, .int wd, .int nx, .int x9.2])), (yb, .inl (T 0, 120, .inl fb))] H ∧ va_D A [(h0, .inr (7, [.int n, .ref yb, .ref ki, .ref nu, .int wd, .int nx, .int x9.2])), (yb, .inl (T 0, 120, .inl fb))] ∧ va_S A s.heap H locs ∧ ((x1.toInt ≤ x9.1.toInt ∧ x1.toInt ≤ x9.1.toInt ∧ x9.1.toInt ≤ n.toInt ∧ 0 ≤ x9.2.toInt ∧ x9.2.toInt ≤ 1000) ∧ (∀ j : Nat, x1.toNatClampNeg ≤ j → j < x9.1.toNatClampNeg → isDi fb j) ∧ x9.2.toInt = min (dvl fb x1.toNatClampNeg (x9.1.toNatClampNeg - x1.toNatClampNeg)) 1000)) (fun x9 => (120 - x9.1.toInt).toNat) (fun x9 ls H locs hI ih => ?_) (x1, 0) ls ⟨lv_sub hl [0, 1, 2, 3] rfl, hP.sub [0, 1] rfl, hD.sub [0, 1] (by decide +kernel) rfl, hS, ⟨(by (try dsimp only); (try simp only [ti_0]); omega), (fun j h8 h9 => absurd h9 (by (try dsimp only); omega)), (by (try dsimp only); rw [Nat.sub_self]; show (0 : Int32).toInt = min (0 : Int) 1000; decide)⟩⟩
    obtain ⟨ii, bb⟩ := x9
    obtain ⟨hl, hP, hD, hS, hinv⟩ := hI
    have hl : lv_has ls 4 [(3, .int ii), (2, .int x1), (0, .ref h0), (1, .int x1)] := hl
    have hP : va_P D vwCl [(h0, .inr (7, [.int n, .ref yb, .ref ki, .ref nu, .int wd, .int nx, .int bb])), (yb, .inl (T 0, 120, .inl fb))] H := hP
    have hD : va_D A [(h0, .inr (7, [.int n, .ref yb, .ref ki, .ref nu, .int wd, .int nx, .int bb])), (yb, .inl (T 0, 120, .inl fb))] := hD
    have hinv : (x1.toInt ≤ ii.toInt ∧ x1.toInt ≤ ii.toInt ∧ ii.toInt ≤ n.toInt ∧ 0 ≤ bb.toInt ∧ bb.toInt ≤ 1000) ∧ (∀ j : Nat, x1.toNatClampNeg ≤ j → j < ii.toNatClampNeg → isDi fb j) ∧ bb.toInt = min (dvl fb x1.toNatClampNeg (ii.toNatClampNeg - x1.toNatClampNeg)) 1000 := hinv
    obtain ⟨hinv, hal, hbb⟩ := hinv
    refine lv_iload_n hx hb dX10_numberEnd_26 rfl (lv_at hl 0 rfl) ?_
    refine lv_aload_n hx hb dX10_numberEnd_27 rfl (lv_at hl 2 rfl) ?_
    refine va_get (D := D) (ci := 7) (v := .int n) (C := RX10) (T := TX10) (N := 7) hx hb hts in_X10_numberEnd_X10 hown hE.1 hP 0 rfl rfl 0 (by decide +kernel) (hts (.fieldLink RX10 9 "ClauseBook$Tape" "size" "I") (List.mem_of_getElem? (i := 3) rfl)) (fun _ h9 => h9) rfl dX10_numberEnd_28 ?_
    refine lv_icmp_ge (tgt := 83) hx hb dX10_numberEnd_31 (by decide +kernel) (fun c_3 => ?_) (fun c_3 => ?_)
    · rw [fa_le] at c_3
      refine lv_iload_n hx hb dX10_numberEnd_83 rfl (lv_at hl 0 rfl) ?_
      refine lv_iload_n hx hb dX10_numberEnd_84 rfl (lv_at hl 1 rfl) ?_
      refine lv_icmp_ne (tgt := 95) hx hb dX10_numberEnd_85 (by decide +kernel) (fun c_4 => ?_) (fun c_4 => ?_)
      · rw [fa_eq] at c_4
        refine lv_iload_n hx hb dX10_numberEnd_95 rfl (lv_at hl 1 rfl) ?_
        refine lv_iload_n hx hb dX10_numberEnd_96 rfl (lv_at hl 3 rfl) ?_
        refine lv_icmp_le (tgt := 119) hx hb dX10_numberEnd_97 (by decide +kernel) (fun c_5 => ?_) (fun c_5 => ?_)
        · rw [fa_le] at c_5
          refine lv_iload_n hx hb dX10_numberEnd_119 rfl (lv_at hl 0 rfl) ?_
          exact W.iret hx hb hr (fun t ht hW => ⟨⟨_, bb, rfl, ⟨(by omega), numE_of (b := bb) hsg (rn_end (a := x1) (by omega) (by omega) (by omega) hal (fun h9 => absurd h9 (by omega))) hbb (Or.inr ⟨(by have t1 := tn (x := x1) (by omega); have t2 := tn (x := ii) (by omega); omega), (by first | exact Or.inr (Or.inl ⟨by omega, by omega⟩) | exact Or.inr (Or.inr ⟨hng, rfl⟩))⟩)⟩, by rw [ht]; exact hP.sub [0, 1] rfl, hD.sub [0, 1] (by decide +kernel) rfl⟩, hS.F ht⟩) hS.2.2 dX10_numberEnd_120
        · rw [fa_le] at c_5
          refine lv_aload_n hx hb dX10_numberEnd_100 rfl (lv_at hl 2 rfl) ?_
          refine va_get (D := D) (ci := 7) (v := .int bb) (C := RX10) (T := TX10) (N := 7) hx hb hts in_X10_numberEnd_X10 hown hE.1 hP 0 rfl rfl 6 (by decide +kernel) (hts (.fieldLink RX10 31 "ClauseBook$Tape" "number" "I") (List.mem_of_getElem? (i := 2) rfl)) (fun _ h9 => h9) rfl dX10_numberEnd_101 ?_
          refine lv_sipush (v := 1000) hx hb dX10_numberEnd_104 (by decide +kernel) ?_
          refine lv_icmp_eq (tgt := 119) hx hb dX10_numberEnd_107 (by decide +kernel) (fun c_6 => ?_) (fun c_6 => ?_)
          · rw [fa_eq] at c_6
            try rw [ti_1000] at c_6
            refine lv_iload_n hx hb dX10_numberEnd_119 rfl (lv_at hl 0 rfl) ?_
            exact W.iret hx hb hr (fun t ht hW => ⟨⟨_, bb, rfl, ⟨(by omega), numE_of (b := bb) hsg (rn_end (a := x1) (by omega) (by omega) (by omega) hal (fun h9 => absurd h9 (by omega))) hbb (Or.inr ⟨(by have t1 := tn (x := x1) (by omega); have t2 := tn (x := ii) (by omega); omega), (by first | exact Or.inr (Or.inl ⟨by omega, by omega⟩) | exact Or.inr (Or.inr ⟨hng, rfl⟩))⟩)⟩, by rw [ht]; exact hP.sub [0, 1] rfl, hD.sub [0, 1] (by decide +kernel) rfl⟩, hS.F ht⟩) hS.2.2 dX10_numberEnd_120
          · rw [fa_eq] at c_6
            try rw [ti_1000] at c_6
            refine lv_aload_n hx hb dX10_numberEnd_110 rfl (lv_at hl 2 rfl) ?_
            refine lv_aload_n hx hb dX10_numberEnd_111 rfl (lv_at hl 2 rfl) ?_
            refine va_get (D := D) (ci := 7) (v := .int bb) (C := RX10) (T := TX10) (N := 7) hx hb hts in_X10_numberEnd_X10 hown hE.1 hP 0 rfl rfl 6 (by decide +kernel) (hts (.fieldLink RX10 31 "ClauseBook$Tape" "number" "I") (List.mem_of_getElem? (i := 2) rfl)) (fun _ h9 => h9) rfl dX10_numberEnd_112 ?_
            refine lv_ineg hx hb dX10_numberEnd_115 ?_
            refine va_put (D := D) (ci := 7) (v := .int (-bb)) (ty := .int) (C := RX10) (T := TX10) (N := 7) hx hb hts in_X10_numberEnd_X10 tyX10 tyX10_ok nmX10 hown hE.1 hP hD hS 0 rfl rfl 6 (by decide +kernel) (hts (.fieldLink RX10 31 "ClauseBook$Tape" "number" "I") (List.mem_of_getElem? (i := 2) rfl)) (fun _ h9 => h9) rfl (by decide +kernel) rfl rfl (Nat.le_of_ble_eq_true rfl) dX10_numberEnd_116 (fun H locs hP hD hS => ?_)
            obtain ⟨hP, hD⟩ := wPD [(h0, .inr (7, [.int n, .ref yb, .ref ki, .ref nu, .int wd, .int nx, .int (-bb)])), (yb, .inl (T 0, 120, .inl fb))] hP hD rfl
            refine lv_iload_n hx hb dX10_numberEnd_119 rfl (lv_at hl 0 rfl) ?_
            exact W.iret hx hb hr (fun t ht hW => ⟨⟨_, (-bb), rfl, (by exfalso; omega), by rw [ht]; exact hP.sub [0, 1] rfl, hD.sub [0, 1] (by decide +kernel) rfl⟩, hS.F ht⟩) hS.2.2 dX10_numberEnd_120
      · rw [fa_eq] at c_4
        refine lv_aload_n hx hb dX10_numberEnd_88 rfl (lv_at hl 2 rfl) ?_
        refine lv_sipush (v := 1000) hx hb dX10_numberEnd_89 (by decide +kernel) ?_
        refine va_put (D := D) (ci := 7) (v := .int 1000) (ty := .int) (C := RX10) (T := TX10) (N := 7) hx hb hts in_X10_numberEnd_X10 tyX10 tyX10_ok nmX10 hown hE.1 hP hD hS 0 rfl rfl 6 (by decide +kernel) (hts (.fieldLink RX10 31 "ClauseBook$Tape" "number" "I") (List.mem_of_getElem? (i := 2) rfl)) (fun _ h9 => h9) rfl (by decide +kernel) rfl rfl (Nat.le_of_ble_eq_true rfl) dX10_numberEnd_92 (fun H locs hP hD hS => ?_)
        obtain ⟨hP, hD⟩ := wPD [(h0, .inr (7, [.int n, .ref yb, .ref ki, .ref nu, .int wd, .int nx, .int 1000])), (yb, .inl (T 0, 120, .inl fb))] hP hD rfl
        refine lv_iload_n hx hb dX10_numberEnd_95 rfl (lv_at hl 1 rfl) ?_
        refine lv_iload_n hx hb dX10_numberEnd_96 rfl (lv_at hl 3 rfl) ?_
        refine lv_icmp_le (tgt := 119) hx hb dX10_numberEnd_97 (by decide +kernel) (fun c_7 => ?_) (fun c_7 => ?_)
        · rw [fa_le] at c_7
          refine lv_iload_n hx hb dX10_numberEnd_119 rfl (lv_at hl 0 rfl) ?_
          exact W.iret hx hb hr (fun t ht hW => ⟨⟨_, 1000, rfl, ⟨(by omega), numE_of (b := bb) hsg (rn_end (a := x1) (by omega) (by omega) (by omega) hal (fun h9 => absurd h9 (by omega))) hbb (Or.inl ⟨(tneq (x := ii) (by omega) (by omega)), (by decide +kernel)⟩)⟩, by rw [ht]; exact hP.sub [0, 1] rfl, hD.sub [0, 1] (by decide +kernel) rfl⟩, hS.F ht⟩) hS.2.2 dX10_numberEnd_120
        · rw [fa_le] at c_7
          refine lv_aload_n hx hb dX10_numberEnd_100 rfl (lv_at hl 2 rfl) ?_
          refine va_get (D := D) (ci := 7) (v := .int 1000) (C := RX10) (T := TX10) (N := 7) hx hb hts in_X10_numberEnd_X10 hown hE.1 hP 0 rfl rfl 6 (by decide +kernel) (hts (.fieldLink RX10 31 "ClauseBook$Tape" "number" "I") (List.mem_of_getElem? (i := 2) rfl)) (fun _ h9 => h9) rfl dX10_numberEnd_101 ?_
          refine lv_sipush (v := 1000) hx hb dX10_numberEnd_104 (by decide +kernel) ?_
          refine lv_icmp_eq (tgt := 119) hx hb dX10_numberEnd_107 (by decide +kernel) (fun _ => ?_) (fun c9 => absurd c9 (by decide +kernel))
          refine lv_iload_n hx hb dX10_numberEnd_119 rfl (lv_at hl 0 rfl) ?_
          exact W.iret hx hb hr (fun t ht hW => ⟨⟨_, 1000, rfl, ⟨(by omega), numE_of (b := bb) hsg (rn_end (a := x1) (by omega) (by omega) (by omega) hal (fun h9 => absurd h9 (by omega))) hbb (Or.inl ⟨(tneq (x := ii) (by omega) (by omega)), (by decide +kernel)⟩)⟩, by rw [ht]; exact hP.sub [0, 1] rfl, hD.sub [0, 1] (by decide +kernel) rfl⟩, hS.F ht⟩) hS.2.2 dX10_numberEnd_120
    · rw [fa_le] at c_3
      refine lv_aload_n hx hb dX10_numberEnd_34 rfl (lv_at hl 2 rfl) ?_
      refine va_get (D := D) (ci := 7) (v := .ref yb) (C := RX10) (T := TX10) (N := 7) hx hb hts in_X10_numberEnd_X10 hown hE.1 hP 0 rfl rfl 1 (by decide +kernel) (hts (.fieldLink RX10 15 "ClauseBook$Tape" "bytes" "[I") (List.mem_of_getElem? (i := 1) rfl)) (fun _ h9 => h9) rfl dX10_numberEnd_35 ?_
      refine lv_iload_n hx hb dX10_numberEnd_38 rfl (lv_at hl 0 rfl) ?_
      refine va_iald hx hb hE.1 hP 1 0 rfl rfl (by rw [vp_in_iff]; first | omega | (subst_vars; omega)) dX10_numberEnd_39 ?_
      refine lv_topi (fun z_8 ez_8 => ?_)
      refine lv_bipush (v := 48) hx hb dX10_numberEnd_40 (by decide +kernel) ?_
      refine lv_bipush (v := 57) hx hb dX10_numberEnd_42 (by decide +kernel) ?_
      refine vp_callSi (va_Run.run (va_runSN (As := [.int z_8, .int 48, .int 57]) (rest := []) ⟨hx, hb, hml, hown, hts⟩ (c_X12_within l D T z_8 48 57 48 57 (by decide +kernel) (by decide +kernel)) ⟨(va_cnB 3 hts gX10_numberEnd_X12_within_n50 rfl rfl rfl (hE.2.1 (RX10, 50, yX12_within) (List.mem_of_getElem? (i := 8) rfl)) (hts (.initialized RX12) (List.mem_of_getElem? (i := 9) rfl)) hs_X12_within ⟨Nat.le_of_ble_eq_true rfl, Nat.le_of_ble_eq_true rfl⟩), (hts (.static yX12_within) (List.mem_of_getElem? (i := 8) rfl)), trivial⟩ (pR_S hP hE [] rfl) rfl rfl hl.1 rfl (lv_room (Nat.le_of_ble_eq_true rfl)) dX10_numberEnd_44 ⟨Nat.le_of_ble_eq_true rfl, Nat.le_of_ble_eq_true rfl⟩)) (fun r_9 hr_9 => ?_)
      rcases bool_post hr_9 with ⟨c_10, rfl⟩ | ⟨c_10, rfl⟩
      · refine lv_if_eq (tgt := 83) hx hb dX10_numberEnd_47 (by decide +kernel) (fun c9 => absurd c9 (by decide +kernel)) (fun _ => ?_)
        refine lv_aload_n hx hb dX10_numberEnd_50 rfl (lv_at hl 2 rfl) ?_
        refine lv_aload_n hx hb dX10_numberEnd_51 rfl (lv_at hl 2 rfl) ?_
        refine va_get (D := D) (ci := 7) (v := .int bb) (C := RX10) (T := TX10) (N := 7) hx hb hts in_X10_numberEnd_X10 hown hE.1 hP 0 rfl rfl 6 (by decide +kernel) (hts (.fieldLink RX10 31 "ClauseBook$Tape" "number" "I") (List.mem_of_getElem? (i := 2) rfl)) (fun _ h9 => h9) rfl dX10_numberEnd_52 ?_
        refine lv_bipush (v := 10) hx hb dX10_numberEnd_55 (by decide +kernel) ?_
        refine lv_imul hx hb dX10_numberEnd_57 ?_
        refine lv_aload_n hx hb dX10_numberEnd_58 rfl (lv_at hl 2 rfl) ?_
        refine va_get (D := D) (ci := 7) (v := .ref yb) (C := RX10) (T := TX10) (N := 7) hx hb hts in_X10_numberEnd_X10 hown hE.1 hP 0 rfl rfl 1 (by decide +kernel) (hts (.fieldLink RX10 15 "ClauseBook$Tape" "bytes" "[I") (List.mem_of_getElem? (i := 1) rfl)) (fun _ h9 => h9) rfl dX10_numberEnd_59 ?_
        refine lv_iload_n hx hb dX10_numberEnd_62 rfl (lv_at hl 0 rfl) ?_
        refine va_iald hx hb hE.1 hP 1 0 rfl rfl (by rw [vp_in_iff]; first | omega | (subst_vars; omega)) dX10_numberEnd_63 ?_
        refine lv_topi (fun z_11 ez_11 => ?_)
        refine lv_iadd hx hb dX10_numberEnd_64 ?_
        refine lv_bipush (v := 48) hx hb dX10_numberEnd_65 (by decide +kernel) ?_
        refine lv_isub hx hb dX10_numberEnd_67 ?_
        have hzz : z_11 = z_8 := by rw [ez_11, ez_8]
        have hzd : 48 ≤ z_11.toInt ∧ z_11.toInt ≤ 57 := by rw [hzz]; omega
        have hm9 : (bb * 10).toInt = bb.toInt * 10 := by rw [fb_mulI (by rw [ti_10]; omega) (by rw [ti_10]; omega), ti_10]
        have ha9 : ((bb * 10) + z_11).toInt = bb.toInt * 10 + z_11.toInt := by rw [fb_addI (by omega) (by omega), hm9]
        have hx9 : (((bb * 10) + z_11) - 48).toInt = bb.toInt * 10 + z_11.toInt - 48 := by rw [fb_subI (by rw [ti_48]; omega) (by rw [ti_48]; omega), ha9, ti_48]
        refine lv_sipush (v := 1000) hx hb dX10_numberEnd_68 (by decide +kernel) ?_
        refine va_mmin hx hb (hml.trans hl.1.symm) hown (hts (.methodLink RX10 86 Lib.Math.min.name) (List.mem_of_getElem? (i := 4) rfl)) (hts (.static Lib.Math.min.name) (List.mem_of_getElem? (i := 5) rfl)) (hts (.initialized "java/lang/Math") (List.mem_of_getElem? (i := 6) rfl)) (hts (.code Lib.Math.min.name Lib.Math.min.code 2 (some .int)) (List.mem_of_getElem? (i := 7) rfl)) (Nat.le_of_ble_eq_true rfl) (Nat.le_of_ble_eq_true rfl) (Nat.le_of_ble_eq_true rfl) (Nat.le_of_ble_eq_true rfl) dX10_numberEnd_71 ?_
        refine lv_topi (fun z_12 ez_12 => ?_)
        refine va_put (D := D) (ci := 7) (v := .int z_12) (ty := .int) (C := RX10) (T := TX10) (N := 7) hx hb hts in_X10_numberEnd_X10 tyX10 tyX10_ok nmX10 hown hE.1 hP hD hS 0 rfl rfl 6 (by decide +kernel) (hts (.fieldLink RX10 31 "ClauseBook$Tape" "number" "I") (List.mem_of_getElem? (i := 2) rfl)) (fun _ h9 => h9) rfl (by decide +kernel) rfl rfl (Nat.le_of_ble_eq_true rfl) dX10_numberEnd_74 (fun H locs hP hD hS => ?_)
        obtain ⟨hP, hD⟩ := wPD [(h0, .inr (7, [.int n, .ref yb, .ref ki, .ref nu, .int wd, .int nx, .int z_12])), (yb, .inl (T 0, 120, .inl fb))] hP hD rfl
        obtain ⟨z_13, ez_13⟩ : ∃ y : Int32, y = ii + 1 := ⟨_, rfl⟩
        refine lv_iinc (v := z_13) (lv' := [(3, .int z_13), (2, .int x1), (0, .ref h0), (1, .int x1)]) hx hb dX10_numberEnd_77 hl (k := 0) rfl (by rw [ez_13]; rfl) (by decide +kernel) rfl (fun ls hl => ?_)
        have hi9 : z_13.toInt = ii.toInt + 1 := by rw [ez_13]; exact inc1 (n := 1000) (by omega) (by decide +kernel)
        have hq9 : z_12.toInt = min (bb.toInt * 10 + z_11.toInt - 48) 1000 := by rw [min_1000 ez_12, hx9]
        have hbn := dvl_min (f := fb) (s := x1.toNatClampNeg) (s' := x1) rfl (by omega) (by omega) hi9 hal hbb ez_11 hzd hq9
        refine lv_goto (tgt := 26) hx hb dX10_numberEnd_80 (by decide +kernel) ?_
        exact ih (z_13, z_12) ls _ _ ⟨lv_sub hl [0, 1, 2, 3] rfl, hP.sub [0, 1] rfl, hD.sub [0, 1] (by decide +kernel) rfl, hS, ⟨(by (try dsimp only); omega), (by (try dsimp only); exact rn_step (by omega) hi9 hal (show isDi fb (ii.toNatClampNeg) from by unfold isDi; rw [← ez_8]; omega)), (by (try dsimp only); exact hbn)⟩⟩ (by (try dsimp only); omega)
      · refine lv_if_eq (tgt := 83) hx hb dX10_numberEnd_47 (by decide +kernel) (fun _ => ?_) (fun c9 => absurd c9 (by decide +kernel))
        refine lv_iload_n hx hb dX10_numberEnd_83 rfl (lv_at hl 0 rfl) ?_
        refine lv_iload_n hx hb dX10_numberEnd_84 rfl (lv_at hl 1 rfl) ?_
        refine lv_icmp_ne (tgt := 95) hx hb dX10_numberEnd_85 (by decide +kernel) (fun c_14 => ?_) (fun c_14 => ?_)
        · rw [fa_eq] at c_14
          refine lv_iload_n hx hb dX10_numberEnd_95 rfl (lv_at hl 1 rfl) ?_
          refine lv_iload_n hx hb dX10_numberEnd_96 rfl (lv_at hl 3 rfl) ?_
          refine lv_icmp_le (tgt := 119) hx hb dX10_numberEnd_97 (by decide +kernel) (fun c_15 => ?_) (fun c_15 => ?_)
          · rw [fa_le] at c_15
            refine lv_iload_n hx hb dX10_numberEnd_119 rfl (lv_at hl 0 rfl) ?_
            exact W.iret hx hb hr (fun t ht hW => ⟨⟨_, bb, rfl, ⟨(by omega), numE_of (b := bb) hsg (rn_end (a := x1) (by omega) (by omega) (by omega) hal (fun _ h8 => by unfold isDi at h8; rw [← ez_8] at h8; omega)) hbb (Or.inr ⟨(by have t1 := tn (x := x1) (by omega); have t2 := tn (x := ii) (by omega); omega), (by first | exact Or.inr (Or.inl ⟨by omega, by omega⟩) | exact Or.inr (Or.inr ⟨hng, rfl⟩))⟩)⟩, by rw [ht]; exact hP.sub [0, 1] rfl, hD.sub [0, 1] (by decide +kernel) rfl⟩, hS.F ht⟩) hS.2.2 dX10_numberEnd_120
          · rw [fa_le] at c_15
            refine lv_aload_n hx hb dX10_numberEnd_100 rfl (lv_at hl 2 rfl) ?_
            refine va_get (D := D) (ci := 7) (v := .int bb) (C := RX10) (T := TX10) (N := 7) hx hb hts in_X10_numberEnd_X10 hown hE.1 hP 0 rfl rfl 6 (by decide +kernel) (hts (.fieldLink RX10 31 "ClauseBook$Tape" "number" "I") (List.mem_of_getElem? (i := 2) rfl)) (fun _ h9 => h9) rfl dX10_numberEnd_101 ?_
            refine lv_sipush (v := 1000) hx hb dX10_numberEnd_104 (by decide +kernel) ?_
            refine lv_icmp_eq (tgt := 119) hx hb dX10_numberEnd_107 (by decide +kernel) (fun c_16 => ?_) (fun c_16 => ?_)
            · rw [fa_eq] at c_16
              try rw [ti_1000] at c_16
              refine lv_iload_n hx hb dX10_numberEnd_119 rfl (lv_at hl 0 rfl) ?_
              exact W.iret hx hb hr (fun t ht hW => ⟨⟨_, bb, rfl, ⟨(by omega), numE_of (b := bb) hsg (rn_end (a := x1) (by omega) (by omega) (by omega) hal (fun _ h8 => by unfold isDi at h8; rw [← ez_8] at h8; omega)) hbb (Or.inr ⟨(by have t1 := tn (x := x1) (by omega); have t2 := tn (x := ii) (by omega); omega), (by first | exact Or.inr (Or.inl ⟨by omega, by omega⟩) | exact Or.inr (Or.inr ⟨hng, rfl⟩))⟩)⟩, by rw [ht]; exact hP.sub [0, 1] rfl, hD.sub [0, 1] (by decide +kernel) rfl⟩, hS.F ht⟩) hS.2.2 dX10_numberEnd_120
            · rw [fa_eq] at c_16
              try rw [ti_1000] at c_16
              refine lv_aload_n hx hb dX10_numberEnd_110 rfl (lv_at hl 2 rfl) ?_
              refine lv_aload_n hx hb dX10_numberEnd_111 rfl (lv_at hl 2 rfl) ?_
              refine va_get (D := D) (ci := 7) (v := .int bb) (C := RX10) (T := TX10) (N := 7) hx hb hts in_X10_numberEnd_X10 hown hE.1 hP 0 rfl rfl 6 (by decide +kernel) (hts (.fieldLink RX10 31 "ClauseBook$Tape" "number" "I") (List.mem_of_getElem? (i := 2) rfl)) (fun _ h9 => h9) rfl dX10_numberEnd_112 ?_
              refine lv_ineg hx hb dX10_numberEnd_115 ?_
              refine va_put (D := D) (ci := 7) (v := .int (-bb)) (ty := .int) (C := RX10) (T := TX10) (N := 7) hx hb hts in_X10_numberEnd_X10 tyX10 tyX10_ok nmX10 hown hE.1 hP hD hS 0 rfl rfl 6 (by decide +kernel) (hts (.fieldLink RX10 31 "ClauseBook$Tape" "number" "I") (List.mem_of_getElem? (i := 2) rfl)) (fun _ h9 => h9) rfl (by decide +kernel) rfl rfl (Nat.le_of_ble_eq_true rfl) dX10_numberEnd_116 (fun H locs hP hD hS => ?_)
              obtain ⟨hP, hD⟩ := wPD [(h0, .inr (7, [.int n, .ref yb, .ref ki, .ref nu, .int wd, .int nx, .int (-bb)])), (yb, .inl (T 0, 120, .inl fb))] hP hD rfl
              refine lv_iload_n hx hb dX10_numberEnd_119 rfl (lv_at hl 0 rfl) ?_
              exact W.iret hx hb hr (fun t ht hW => ⟨⟨_, (-bb), rfl, (by exfalso; omega), by rw [ht]; exact hP.sub [0, 1] rfl, hD.sub [0, 1] (by decide +kernel) rfl⟩, hS.F ht⟩) hS.2.2 dX10_numberEnd_120
        · rw [fa_eq] at c_14
          refine lv_aload_n hx hb dX10_numberEnd_88 rfl (lv_at hl 2 rfl) ?_
          refine lv_sipush (v := 1000) hx hb dX10_numberEnd_89 (by decide +kernel) ?_
          refine va_put (D := D) (ci := 7) (v := .int 1000) (ty := .int) (C := RX10) (T := TX10) (N := 7) hx hb hts in_X10_numberEnd_X10 tyX10 tyX10_ok nmX10 hown hE.1 hP hD hS 0 rfl rfl 6 (by decide +kernel) (hts (.fieldLink RX10 31 "ClauseBook$Tape" "number" "I") (List.mem_of_getElem? (i := 2) rfl)) (fun _ h9 => h9) rfl (by decide +kernel) rfl rfl (Nat.le_of_ble_eq_true rfl) dX10_numberEnd_92 (fun H locs hP hD hS => ?_)
          obtain ⟨hP, hD⟩ := wPD [(h0, .inr (7, [.int n, .ref yb, .ref ki, .ref nu, .int wd, .int nx, .int 1000])), (yb, .inl (T 0, 120, .inl fb))] hP hD rfl
          refine lv_iload_n hx hb dX10_numberEnd_95 rfl (lv_at hl 1 rfl) ?_
          refine lv_iload_n hx hb dX10_numberEnd_96 rfl (lv_at hl 3 rfl) ?_
          refine lv_icmp_le (tgt := 119) hx hb dX10_numberEnd_97 (by decide +kernel) (fun c_17 => ?_) (fun c_17 => ?_)
          · rw [fa_le] at c_17
            refine lv_iload_n hx hb dX10_numberEnd_119 rfl (lv_at hl 0 rfl) ?_
            exact W.iret hx hb hr (fun t ht hW => ⟨⟨_, 1000, rfl, ⟨(by omega), numE_of (b := bb) hsg (rn_end (a := x1) (by omega) (by omega) (by omega) hal (fun _ h8 => by unfold isDi at h8; rw [← ez_8] at h8; omega)) hbb (Or.inl ⟨(tneq (x := ii) (by omega) (by omega)), (by decide +kernel)⟩)⟩, by rw [ht]; exact hP.sub [0, 1] rfl, hD.sub [0, 1] (by decide +kernel) rfl⟩, hS.F ht⟩) hS.2.2 dX10_numberEnd_120
          · rw [fa_le] at c_17
            refine lv_aload_n hx hb dX10_numberEnd_100 rfl (lv_at hl 2 rfl) ?_
            refine va_get (D := D) (ci := 7) (v := .int 1000) (C := RX10) (T := TX10) (N := 7) hx hb hts in_X10_numberEnd_X10 hown hE.1 hP 0 rfl rfl 6 (by decide +kernel) (hts (.fieldLink RX10 31 "ClauseBook$Tape" "number" "I") (List.mem_of_getElem? (i := 2) rfl)) (fun _ h9 => h9) rfl dX10_numberEnd_101 ?_
            refine lv_sipush (v := 1000) hx hb dX10_numberEnd_104 (by decide +kernel) ?_
            refine lv_icmp_eq (tgt := 119) hx hb dX10_numberEnd_107 (by decide +kernel) (fun _ => ?_) (fun c9 => absurd c9 (by decide +kernel))
            refine lv_iload_n hx hb dX10_numberEnd_119 rfl (lv_at hl 0 rfl) ?_
            exact W.iret hx hb hr (fun t ht hW => ⟨⟨_, 1000, rfl, ⟨(by omega), numE_of (b := bb) hsg (rn_end (a := x1) (by omega) (by omega) (by omega) hal (fun _ h8 => by unfold isDi at h8; rw [← ez_8] at h8; omega)) hbb (Or.inl ⟨(tneq (x := ii) (by omega) (by omega)), (by decide +kernel)⟩)⟩, by rw [ht]; exact hP.sub [0, 1] rfl, hD.sub [0, 1] (by decide +kernel) rfl⟩, hS.F ht⟩) hS.2.2 dX10_numberEnd_120
  · rw [fa_eq] at c_2
    try rw [ti_45] at c_2
    refine lv_iload_n hx hb dX10_numberEnd_11 rfl (lv_at hl 1 rfl) ?_
    refine lv_iconst (v := 1) hx hb dX10_numberEnd_12 (by decide +kernel) ?_
    refine lv_iadd hx hb dX10_numberEnd_13 ?_
    refine lv_goto (tgt := 18) hx hb dX10_numberEnd_14 (by decide +kernel) ?_
    refine lv_topi (fun z_18 ez_18 => ?_)
    have hz9 : z_18.toInt = x1.toInt + 1 := by rw [ez_18]; exact inc1 (n := 1000) (by omega) (by decide +kernel)
    have hng : (fb (x1.toNatClampNeg)).toInt = 45 := by rw [← ez_1]; omega
    have hsg : sgS fb (x1.toNatClampNeg) = z_18.toNatClampNeg := by unfold sgS; rw [if_pos hng, tn1 (by omega) hz9]
    refine lv_istore_n (lv' := [(2, .int z_18), (0, .ref h0), (1, .int x1)]) hx hb dX10_numberEnd_18 rfl hl (by decide +kernel) rfl (fun ls hl => ?_)
    refine lv_iload_n hx hb dX10_numberEnd_19 rfl (lv_at hl 0 rfl) ?_
    refine lv_istore_n (lv' := [(3, .int z_18), (2, .int z_18), (0, .ref h0), (1, .int x1)]) hx hb dX10_numberEnd_20 rfl hl (by decide +kernel) rfl (fun ls hl => ?_)
    refine lv_aload_n hx hb dX10_numberEnd_21 rfl (lv_at hl 2 rfl) ?_
    refine lv_iconst (v := 0) hx hb dX10_numberEnd_22 (by decide +kernel) ?_
    refine va_put (D := D) (ci := 7) (v := .int 0) (ty := .int) (C := RX10) (T := TX10) (N := 7) hx hb hts in_X10_numberEnd_X10 tyX10 tyX10_ok nmX10 hown hE.1 hP hD hS 0 rfl rfl 6 (by decide +kernel) (hts (.fieldLink RX10 31 "ClauseBook$Tape" "number" "I") (List.mem_of_getElem? (i := 2) rfl)) (fun _ h9 => h9) rfl (by decide +kernel) rfl rfl (Nat.le_of_ble_eq_true rfl) dX10_numberEnd_23 (fun H locs hP hD hS => ?_)
    obtain ⟨hP, hD⟩ := wPD [(h0, .inr (7, [.int n, .ref yb, .ref ki, .ref nu, .int wd, .int nx, .int 0])), (yb, .inl (T 0, 120, .inl fb))] hP hD rfl
    refine loopW (σ := (Int32) × (Int32)) (fun x9 ls H locs => lv_has ls 4 [(3, .int x9.1), (2, .int z_18), (0, .ref h0), (1, .int x1)] ∧ va_P D vwCl [(h0, .inr (7, [.int n, .ref yb, .ref ki, .ref nu, .int wd, .int nx, .int x9.2])), (yb, .inl (T 0, 120, .inl fb))] H ∧ va_D A [(h0, .inr (7, [.int n, .ref yb, .ref ki, .ref nu, .int wd, .int nx, .int x9.2])), (yb, .inl (T 0, 120, .inl fb))] ∧ va_S A s.heap H locs ∧ ((x1.toInt ≤ x9.1.toInt ∧ z_18.toInt ≤ x9.1.toInt ∧ x9.1.toInt ≤ n.toInt ∧ 0 ≤ x9.2.toInt ∧ x9.2.toInt ≤ 1000) ∧ (∀ j : Nat, z_18.toNatClampNeg ≤ j → j < x9.1.toNatClampNeg → isDi fb j) ∧ x9.2.toInt = min (dvl fb z_18.toNatClampNeg (x9.1.toNatClampNeg - z_18.toNatClampNeg)) 1000)) (fun x9 => (120 - x9.1.toInt).toNat) (fun x9 ls H locs hI ih => ?_) (z_18, 0) ls ⟨lv_sub hl [0, 1, 2, 3] rfl, hP.sub [0, 1] rfl, hD.sub [0, 1] (by decide +kernel) rfl, hS, ⟨(by (try dsimp only); (try simp only [ti_0]); omega), (fun j h8 h9 => absurd h9 (by (try dsimp only); omega)), (by (try dsimp only); rw [Nat.sub_self]; show (0 : Int32).toInt = min (0 : Int) 1000; decide)⟩⟩
    obtain ⟨ii, bb⟩ := x9
    obtain ⟨hl, hP, hD, hS, hinv⟩ := hI
    have hl : lv_has ls 4 [(3, .int ii), (2, .int z_18), (0, .ref h0), (1, .int x1)] := hl
    have hP : va_P D vwCl [(h0, .inr (7, [.int n, .ref yb, .ref ki, .ref nu, .int wd, .int nx, .int bb])), (yb, .inl (T 0, 120, .inl fb))] H := hP
    have hD : va_D A [(h0, .inr (7, [.int n, .ref yb, .ref ki, .ref nu, .int wd, .int nx, .int bb])), (yb, .inl (T 0, 120, .inl fb))] := hD
    have hinv : (x1.toInt ≤ ii.toInt ∧ z_18.toInt ≤ ii.toInt ∧ ii.toInt ≤ n.toInt ∧ 0 ≤ bb.toInt ∧ bb.toInt ≤ 1000) ∧ (∀ j : Nat, z_18.toNatClampNeg ≤ j → j < ii.toNatClampNeg → isDi fb j) ∧ bb.toInt = min (dvl fb z_18.toNatClampNeg (ii.toNatClampNeg - z_18.toNatClampNeg)) 1000 := hinv
    obtain ⟨hinv, hal, hbb⟩ := hinv
    refine lv_iload_n hx hb dX10_numberEnd_26 rfl (lv_at hl 0 rfl) ?_
    refine lv_aload_n hx hb dX10_numberEnd_27 rfl (lv_at hl 2 rfl) ?_
    refine va_get (D := D) (ci := 7) (v := .int n) (C := RX10) (T := TX10) (N := 7) hx hb hts in_X10_numberEnd_X10 hown hE.1 hP 0 rfl rfl 0 (by decide +kernel) (hts (.fieldLink RX10 9 "ClauseBook$Tape" "size" "I") (List.mem_of_getElem? (i := 3) rfl)) (fun _ h9 => h9) rfl dX10_numberEnd_28 ?_
    refine lv_icmp_ge (tgt := 83) hx hb dX10_numberEnd_31 (by decide +kernel) (fun c_19 => ?_) (fun c_19 => ?_)
    · rw [fa_le] at c_19
      refine lv_iload_n hx hb dX10_numberEnd_83 rfl (lv_at hl 0 rfl) ?_
      refine lv_iload_n hx hb dX10_numberEnd_84 rfl (lv_at hl 1 rfl) ?_
      refine lv_icmp_ne (tgt := 95) hx hb dX10_numberEnd_85 (by decide +kernel) (fun c_20 => ?_) (fun c_20 => ?_)
      · rw [fa_eq] at c_20
        refine lv_iload_n hx hb dX10_numberEnd_95 rfl (lv_at hl 1 rfl) ?_
        refine lv_iload_n hx hb dX10_numberEnd_96 rfl (lv_at hl 3 rfl) ?_
        refine lv_icmp_le (tgt := 119) hx hb dX10_numberEnd_97 (by decide +kernel) (fun c_21 => ?_) (fun c_21 => ?_)
        · rw [fa_le] at c_21
          refine lv_iload_n hx hb dX10_numberEnd_119 rfl (lv_at hl 0 rfl) ?_
          exact W.iret hx hb hr (fun t ht hW => ⟨⟨_, bb, rfl, ⟨(by omega), numE_of (b := bb) hsg (rn_end (a := z_18) (by omega) (by omega) (by omega) hal (fun h9 => absurd h9 (by omega))) hbb (Or.inr ⟨(by have t1 := tn (x := z_18) (by omega); have t2 := tn (x := ii) (by omega); omega), (by first | exact Or.inr (Or.inl ⟨by omega, by omega⟩) | exact Or.inr (Or.inr ⟨hng, rfl⟩))⟩)⟩, by rw [ht]; exact hP.sub [0, 1] rfl, hD.sub [0, 1] (by decide +kernel) rfl⟩, hS.F ht⟩) hS.2.2 dX10_numberEnd_120
        · rw [fa_le] at c_21
          refine lv_aload_n hx hb dX10_numberEnd_100 rfl (lv_at hl 2 rfl) ?_
          refine va_get (D := D) (ci := 7) (v := .int bb) (C := RX10) (T := TX10) (N := 7) hx hb hts in_X10_numberEnd_X10 hown hE.1 hP 0 rfl rfl 6 (by decide +kernel) (hts (.fieldLink RX10 31 "ClauseBook$Tape" "number" "I") (List.mem_of_getElem? (i := 2) rfl)) (fun _ h9 => h9) rfl dX10_numberEnd_101 ?_
          refine lv_sipush (v := 1000) hx hb dX10_numberEnd_104 (by decide +kernel) ?_
          refine lv_icmp_eq (tgt := 119) hx hb dX10_numberEnd_107 (by decide +kernel) (fun c_22 => ?_) (fun c_22 => ?_)
          · rw [fa_eq] at c_22
            try rw [ti_1000] at c_22
            refine lv_iload_n hx hb dX10_numberEnd_119 rfl (lv_at hl 0 rfl) ?_
            exact W.iret hx hb hr (fun t ht hW => ⟨⟨_, bb, rfl, ⟨(by omega), numE_of (b := bb) hsg (rn_end (a := z_18) (by omega) (by omega) (by omega) hal (fun h9 => absurd h9 (by omega))) hbb (Or.inr ⟨(by have t1 := tn (x := z_18) (by omega); have t2 := tn (x := ii) (by omega); omega), (by first | exact Or.inr (Or.inl ⟨by omega, by omega⟩) | exact Or.inr (Or.inr ⟨hng, rfl⟩))⟩)⟩, by rw [ht]; exact hP.sub [0, 1] rfl, hD.sub [0, 1] (by decide +kernel) rfl⟩, hS.F ht⟩) hS.2.2 dX10_numberEnd_120
          · rw [fa_eq] at c_22
            try rw [ti_1000] at c_22
            refine lv_aload_n hx hb dX10_numberEnd_110 rfl (lv_at hl 2 rfl) ?_
            refine lv_aload_n hx hb dX10_numberEnd_111 rfl (lv_at hl 2 rfl) ?_
            refine va_get (D := D) (ci := 7) (v := .int bb) (C := RX10) (T := TX10) (N := 7) hx hb hts in_X10_numberEnd_X10 hown hE.1 hP 0 rfl rfl 6 (by decide +kernel) (hts (.fieldLink RX10 31 "ClauseBook$Tape" "number" "I") (List.mem_of_getElem? (i := 2) rfl)) (fun _ h9 => h9) rfl dX10_numberEnd_112 ?_
            refine lv_ineg hx hb dX10_numberEnd_115 ?_
            refine va_put (D := D) (ci := 7) (v := .int (-bb)) (ty := .int) (C := RX10) (T := TX10) (N := 7) hx hb hts in_X10_numberEnd_X10 tyX10 tyX10_ok nmX10 hown hE.1 hP hD hS 0 rfl rfl 6 (by decide +kernel) (hts (.fieldLink RX10 31 "ClauseBook$Tape" "number" "I") (List.mem_of_getElem? (i := 2) rfl)) (fun _ h9 => h9) rfl (by decide +kernel) rfl rfl (Nat.le_of_ble_eq_true rfl) dX10_numberEnd_116 (fun H locs hP hD hS => ?_)
            obtain ⟨hP, hD⟩ := wPD [(h0, .inr (7, [.int n, .ref yb, .ref ki, .ref nu, .int wd, .int nx, .int (-bb)])), (yb, .inl (T 0, 120, .inl fb))] hP hD rfl
            refine lv_iload_n hx hb dX10_numberEnd_119 rfl (lv_at hl 0 rfl) ?_
            exact W.iret hx hb hr (fun t ht hW => ⟨⟨_, (-bb), rfl, ⟨(by omega), numE_of (b := bb) hsg (rn_end (a := z_18) (by omega) (by omega) (by omega) hal (fun h9 => absurd h9 (by omega))) hbb (Or.inr ⟨(by have t1 := tn (x := z_18) (by omega); have t2 := tn (x := ii) (by omega); omega), Or.inl ⟨hng, (by omega), (fb_negI (by omega))⟩⟩)⟩, by rw [ht]; exact hP.sub [0, 1] rfl, hD.sub [0, 1] (by decide +kernel) rfl⟩, hS.F ht⟩) hS.2.2 dX10_numberEnd_120
      · rw [fa_eq] at c_20
        refine lv_aload_n hx hb dX10_numberEnd_88 rfl (lv_at hl 2 rfl) ?_
        refine lv_sipush (v := 1000) hx hb dX10_numberEnd_89 (by decide +kernel) ?_
        refine va_put (D := D) (ci := 7) (v := .int 1000) (ty := .int) (C := RX10) (T := TX10) (N := 7) hx hb hts in_X10_numberEnd_X10 tyX10 tyX10_ok nmX10 hown hE.1 hP hD hS 0 rfl rfl 6 (by decide +kernel) (hts (.fieldLink RX10 31 "ClauseBook$Tape" "number" "I") (List.mem_of_getElem? (i := 2) rfl)) (fun _ h9 => h9) rfl (by decide +kernel) rfl rfl (Nat.le_of_ble_eq_true rfl) dX10_numberEnd_92 (fun H locs hP hD hS => ?_)
        obtain ⟨hP, hD⟩ := wPD [(h0, .inr (7, [.int n, .ref yb, .ref ki, .ref nu, .int wd, .int nx, .int 1000])), (yb, .inl (T 0, 120, .inl fb))] hP hD rfl
        refine lv_iload_n hx hb dX10_numberEnd_95 rfl (lv_at hl 1 rfl) ?_
        refine lv_iload_n hx hb dX10_numberEnd_96 rfl (lv_at hl 3 rfl) ?_
        refine lv_icmp_le (tgt := 119) hx hb dX10_numberEnd_97 (by decide +kernel) (fun c_23 => ?_) (fun c_23 => ?_)
        · rw [fa_le] at c_23
          refine lv_iload_n hx hb dX10_numberEnd_119 rfl (lv_at hl 0 rfl) ?_
          exact W.iret hx hb hr (fun t ht hW => ⟨⟨_, 1000, rfl, ⟨(by omega), numE_of (b := bb) hsg (rn_end (a := z_18) (by omega) (by omega) (by omega) hal (fun h9 => absurd h9 (by omega))) hbb (Or.inl ⟨(tneq (x := ii) (by omega) (by omega)), (by decide +kernel)⟩)⟩, by rw [ht]; exact hP.sub [0, 1] rfl, hD.sub [0, 1] (by decide +kernel) rfl⟩, hS.F ht⟩) hS.2.2 dX10_numberEnd_120
        · rw [fa_le] at c_23
          refine lv_aload_n hx hb dX10_numberEnd_100 rfl (lv_at hl 2 rfl) ?_
          refine va_get (D := D) (ci := 7) (v := .int 1000) (C := RX10) (T := TX10) (N := 7) hx hb hts in_X10_numberEnd_X10 hown hE.1 hP 0 rfl rfl 6 (by decide +kernel) (hts (.fieldLink RX10 31 "ClauseBook$Tape" "number" "I") (List.mem_of_getElem? (i := 2) rfl)) (fun _ h9 => h9) rfl dX10_numberEnd_101 ?_
          refine lv_sipush (v := 1000) hx hb dX10_numberEnd_104 (by decide +kernel) ?_
          refine lv_icmp_eq (tgt := 119) hx hb dX10_numberEnd_107 (by decide +kernel) (fun _ => ?_) (fun c9 => absurd c9 (by decide +kernel))
          refine lv_iload_n hx hb dX10_numberEnd_119 rfl (lv_at hl 0 rfl) ?_
          exact W.iret hx hb hr (fun t ht hW => ⟨⟨_, 1000, rfl, ⟨(by omega), numE_of (b := bb) hsg (rn_end (a := z_18) (by omega) (by omega) (by omega) hal (fun h9 => absurd h9 (by omega))) hbb (Or.inl ⟨(tneq (x := ii) (by omega) (by omega)), (by decide +kernel)⟩)⟩, by rw [ht]; exact hP.sub [0, 1] rfl, hD.sub [0, 1] (by decide +kernel) rfl⟩, hS.F ht⟩) hS.2.2 dX10_numberEnd_120
    · rw [fa_le] at c_19
      refine lv_aload_n hx hb dX10_numberEnd_34 rfl (lv_at hl 2 rfl) ?_
      refine va_get (D := D) (ci := 7) (v := .ref yb) (C := RX10) (T := TX10) (N := 7) hx hb hts in_X10_numberEnd_X10 hown hE.1 hP 0 rfl rfl 1 (by decide +kernel) (hts (.fieldLink RX10 15 "ClauseBook$Tape" "bytes" "[I") (List.mem_of_getElem? (i := 1) rfl)) (fun _ h9 => h9) rfl dX10_numberEnd_35 ?_
      refine lv_iload_n hx hb dX10_numberEnd_38 rfl (lv_at hl 0 rfl) ?_
      refine va_iald hx hb hE.1 hP 1 0 rfl rfl (by rw [vp_in_iff]; first | omega | (subst_vars; omega)) dX10_numberEnd_39 ?_
      refine lv_topi (fun z_24 ez_24 => ?_)
      refine lv_bipush (v := 48) hx hb dX10_numberEnd_40 (by decide +kernel) ?_
      refine lv_bipush (v := 57) hx hb dX10_numberEnd_42 (by decide +kernel) ?_
      refine vp_callSi (va_Run.run (va_runSN (As := [.int z_24, .int 48, .int 57]) (rest := []) ⟨hx, hb, hml, hown, hts⟩ (c_X12_within l D T z_24 48 57 48 57 (by decide +kernel) (by decide +kernel)) ⟨(va_cnB 3 hts gX10_numberEnd_X12_within_n50 rfl rfl rfl (hE.2.1 (RX10, 50, yX12_within) (List.mem_of_getElem? (i := 8) rfl)) (hts (.initialized RX12) (List.mem_of_getElem? (i := 9) rfl)) hs_X12_within ⟨Nat.le_of_ble_eq_true rfl, Nat.le_of_ble_eq_true rfl⟩), (hts (.static yX12_within) (List.mem_of_getElem? (i := 8) rfl)), trivial⟩ (pR_S hP hE [] rfl) rfl rfl hl.1 rfl (lv_room (Nat.le_of_ble_eq_true rfl)) dX10_numberEnd_44 ⟨Nat.le_of_ble_eq_true rfl, Nat.le_of_ble_eq_true rfl⟩)) (fun r_25 hr_25 => ?_)
      rcases bool_post hr_25 with ⟨c_26, rfl⟩ | ⟨c_26, rfl⟩
      · refine lv_if_eq (tgt := 83) hx hb dX10_numberEnd_47 (by decide +kernel) (fun c9 => absurd c9 (by decide +kernel)) (fun _ => ?_)
        refine lv_aload_n hx hb dX10_numberEnd_50 rfl (lv_at hl 2 rfl) ?_
        refine lv_aload_n hx hb dX10_numberEnd_51 rfl (lv_at hl 2 rfl) ?_
        refine va_get (D := D) (ci := 7) (v := .int bb) (C := RX10) (T := TX10) (N := 7) hx hb hts in_X10_numberEnd_X10 hown hE.1 hP 0 rfl rfl 6 (by decide +kernel) (hts (.fieldLink RX10 31 "ClauseBook$Tape" "number" "I") (List.mem_of_getElem? (i := 2) rfl)) (fun _ h9 => h9) rfl dX10_numberEnd_52 ?_
        refine lv_bipush (v := 10) hx hb dX10_numberEnd_55 (by decide +kernel) ?_
        refine lv_imul hx hb dX10_numberEnd_57 ?_
        refine lv_aload_n hx hb dX10_numberEnd_58 rfl (lv_at hl 2 rfl) ?_
        refine va_get (D := D) (ci := 7) (v := .ref yb) (C := RX10) (T := TX10) (N := 7) hx hb hts in_X10_numberEnd_X10 hown hE.1 hP 0 rfl rfl 1 (by decide +kernel) (hts (.fieldLink RX10 15 "ClauseBook$Tape" "bytes" "[I") (List.mem_of_getElem? (i := 1) rfl)) (fun _ h9 => h9) rfl dX10_numberEnd_59 ?_
        refine lv_iload_n hx hb dX10_numberEnd_62 rfl (lv_at hl 0 rfl) ?_
        refine va_iald hx hb hE.1 hP 1 0 rfl rfl (by rw [vp_in_iff]; first | omega | (subst_vars; omega)) dX10_numberEnd_63 ?_
        refine lv_topi (fun z_27 ez_27 => ?_)
        refine lv_iadd hx hb dX10_numberEnd_64 ?_
        refine lv_bipush (v := 48) hx hb dX10_numberEnd_65 (by decide +kernel) ?_
        refine lv_isub hx hb dX10_numberEnd_67 ?_
        have hzz : z_27 = z_24 := by rw [ez_27, ez_24]
        have hzd : 48 ≤ z_27.toInt ∧ z_27.toInt ≤ 57 := by rw [hzz]; omega
        have hm9 : (bb * 10).toInt = bb.toInt * 10 := by rw [fb_mulI (by rw [ti_10]; omega) (by rw [ti_10]; omega), ti_10]
        have ha9 : ((bb * 10) + z_27).toInt = bb.toInt * 10 + z_27.toInt := by rw [fb_addI (by omega) (by omega), hm9]
        have hx9 : (((bb * 10) + z_27) - 48).toInt = bb.toInt * 10 + z_27.toInt - 48 := by rw [fb_subI (by rw [ti_48]; omega) (by rw [ti_48]; omega), ha9, ti_48]
        refine lv_sipush (v := 1000) hx hb dX10_numberEnd_68 (by decide +kernel) ?_
        refine va_mmin hx hb (hml.trans hl.1.symm) hown (hts (.methodLink RX10 86 Lib.Math.min.name) (List.mem_of_getElem? (i := 4) rfl)) (hts (.static Lib.Math.min.name) (List.mem_of_getElem? (i := 5) rfl)) (hts (.initialized "java/lang/Math") (List.mem_of_getElem? (i := 6) rfl)) (hts (.code Lib.Math.min.name Lib.Math.min.code 2 (some .int)) (List.mem_of_getElem? (i := 7) rfl)) (Nat.le_of_ble_eq_true rfl) (Nat.le_of_ble_eq_true rfl) (Nat.le_of_ble_eq_true rfl) (Nat.le_of_ble_eq_true rfl) dX10_numberEnd_71 ?_
        refine lv_topi (fun z_28 ez_28 => ?_)
        refine va_put (D := D) (ci := 7) (v := .int z_28) (ty := .int) (C := RX10) (T := TX10) (N := 7) hx hb hts in_X10_numberEnd_X10 tyX10 tyX10_ok nmX10 hown hE.1 hP hD hS 0 rfl rfl 6 (by decide +kernel) (hts (.fieldLink RX10 31 "ClauseBook$Tape" "number" "I") (List.mem_of_getElem? (i := 2) rfl)) (fun _ h9 => h9) rfl (by decide +kernel) rfl rfl (Nat.le_of_ble_eq_true rfl) dX10_numberEnd_74 (fun H locs hP hD hS => ?_)
        obtain ⟨hP, hD⟩ := wPD [(h0, .inr (7, [.int n, .ref yb, .ref ki, .ref nu, .int wd, .int nx, .int z_28])), (yb, .inl (T 0, 120, .inl fb))] hP hD rfl
        obtain ⟨z_29, ez_29⟩ : ∃ y : Int32, y = ii + 1 := ⟨_, rfl⟩
        refine lv_iinc (v := z_29) (lv' := [(3, .int z_29), (2, .int z_18), (0, .ref h0), (1, .int x1)]) hx hb dX10_numberEnd_77 hl (k := 0) rfl (by rw [ez_29]; rfl) (by decide +kernel) rfl (fun ls hl => ?_)
        have hi9 : z_29.toInt = ii.toInt + 1 := by rw [ez_29]; exact inc1 (n := 1000) (by omega) (by decide +kernel)
        have hq9 : z_28.toInt = min (bb.toInt * 10 + z_27.toInt - 48) 1000 := by rw [min_1000 ez_28, hx9]
        have hbn := dvl_min (f := fb) (s := z_18.toNatClampNeg) (s' := z_18) rfl (by omega) (by omega) hi9 hal hbb ez_27 hzd hq9
        refine lv_goto (tgt := 26) hx hb dX10_numberEnd_80 (by decide +kernel) ?_
        exact ih (z_29, z_28) ls _ _ ⟨lv_sub hl [0, 1, 2, 3] rfl, hP.sub [0, 1] rfl, hD.sub [0, 1] (by decide +kernel) rfl, hS, ⟨(by (try dsimp only); omega), (by (try dsimp only); exact rn_step (by omega) hi9 hal (show isDi fb (ii.toNatClampNeg) from by unfold isDi; rw [← ez_24]; omega)), (by (try dsimp only); exact hbn)⟩⟩ (by (try dsimp only); omega)
      · refine lv_if_eq (tgt := 83) hx hb dX10_numberEnd_47 (by decide +kernel) (fun _ => ?_) (fun c9 => absurd c9 (by decide +kernel))
        refine lv_iload_n hx hb dX10_numberEnd_83 rfl (lv_at hl 0 rfl) ?_
        refine lv_iload_n hx hb dX10_numberEnd_84 rfl (lv_at hl 1 rfl) ?_
        refine lv_icmp_ne (tgt := 95) hx hb dX10_numberEnd_85 (by decide +kernel) (fun c_30 => ?_) (fun c_30 => ?_)
        · rw [fa_eq] at c_30
          refine lv_iload_n hx hb dX10_numberEnd_95 rfl (lv_at hl 1 rfl) ?_
          refine lv_iload_n hx hb dX10_numberEnd_96 rfl (lv_at hl 3 rfl) ?_
          refine lv_icmp_le (tgt := 119) hx hb dX10_numberEnd_97 (by decide +kernel) (fun c_31 => ?_) (fun c_31 => ?_)
          · rw [fa_le] at c_31
            refine lv_iload_n hx hb dX10_numberEnd_119 rfl (lv_at hl 0 rfl) ?_
            exact W.iret hx hb hr (fun t ht hW => ⟨⟨_, bb, rfl, ⟨(by omega), numE_of (b := bb) hsg (rn_end (a := z_18) (by omega) (by omega) (by omega) hal (fun _ h8 => by unfold isDi at h8; rw [← ez_24] at h8; omega)) hbb (Or.inr ⟨(by have t1 := tn (x := z_18) (by omega); have t2 := tn (x := ii) (by omega); omega), (by first | exact Or.inr (Or.inl ⟨by omega, by omega⟩) | exact Or.inr (Or.inr ⟨hng, rfl⟩))⟩)⟩, by rw [ht]; exact hP.sub [0, 1] rfl, hD.sub [0, 1] (by decide +kernel) rfl⟩, hS.F ht⟩) hS.2.2 dX10_numberEnd_120
          · rw [fa_le] at c_31
            refine lv_aload_n hx hb dX10_numberEnd_100 rfl (lv_at hl 2 rfl) ?_
            refine va_get (D := D) (ci := 7) (v := .int bb) (C := RX10) (T := TX10) (N := 7) hx hb hts in_X10_numberEnd_X10 hown hE.1 hP 0 rfl rfl 6 (by decide +kernel) (hts (.fieldLink RX10 31 "ClauseBook$Tape" "number" "I") (List.mem_of_getElem? (i := 2) rfl)) (fun _ h9 => h9) rfl dX10_numberEnd_101 ?_
            refine lv_sipush (v := 1000) hx hb dX10_numberEnd_104 (by decide +kernel) ?_
            refine lv_icmp_eq (tgt := 119) hx hb dX10_numberEnd_107 (by decide +kernel) (fun c_32 => ?_) (fun c_32 => ?_)
            · rw [fa_eq] at c_32
              try rw [ti_1000] at c_32
              refine lv_iload_n hx hb dX10_numberEnd_119 rfl (lv_at hl 0 rfl) ?_
              exact W.iret hx hb hr (fun t ht hW => ⟨⟨_, bb, rfl, ⟨(by omega), numE_of (b := bb) hsg (rn_end (a := z_18) (by omega) (by omega) (by omega) hal (fun _ h8 => by unfold isDi at h8; rw [← ez_24] at h8; omega)) hbb (Or.inr ⟨(by have t1 := tn (x := z_18) (by omega); have t2 := tn (x := ii) (by omega); omega), (by first | exact Or.inr (Or.inl ⟨by omega, by omega⟩) | exact Or.inr (Or.inr ⟨hng, rfl⟩))⟩)⟩, by rw [ht]; exact hP.sub [0, 1] rfl, hD.sub [0, 1] (by decide +kernel) rfl⟩, hS.F ht⟩) hS.2.2 dX10_numberEnd_120
            · rw [fa_eq] at c_32
              try rw [ti_1000] at c_32
              refine lv_aload_n hx hb dX10_numberEnd_110 rfl (lv_at hl 2 rfl) ?_
              refine lv_aload_n hx hb dX10_numberEnd_111 rfl (lv_at hl 2 rfl) ?_
              refine va_get (D := D) (ci := 7) (v := .int bb) (C := RX10) (T := TX10) (N := 7) hx hb hts in_X10_numberEnd_X10 hown hE.1 hP 0 rfl rfl 6 (by decide +kernel) (hts (.fieldLink RX10 31 "ClauseBook$Tape" "number" "I") (List.mem_of_getElem? (i := 2) rfl)) (fun _ h9 => h9) rfl dX10_numberEnd_112 ?_
              refine lv_ineg hx hb dX10_numberEnd_115 ?_
              refine va_put (D := D) (ci := 7) (v := .int (-bb)) (ty := .int) (C := RX10) (T := TX10) (N := 7) hx hb hts in_X10_numberEnd_X10 tyX10 tyX10_ok nmX10 hown hE.1 hP hD hS 0 rfl rfl 6 (by decide +kernel) (hts (.fieldLink RX10 31 "ClauseBook$Tape" "number" "I") (List.mem_of_getElem? (i := 2) rfl)) (fun _ h9 => h9) rfl (by decide +kernel) rfl rfl (Nat.le_of_ble_eq_true rfl) dX10_numberEnd_116 (fun H locs hP hD hS => ?_)
              obtain ⟨hP, hD⟩ := wPD [(h0, .inr (7, [.int n, .ref yb, .ref ki, .ref nu, .int wd, .int nx, .int (-bb)])), (yb, .inl (T 0, 120, .inl fb))] hP hD rfl
              refine lv_iload_n hx hb dX10_numberEnd_119 rfl (lv_at hl 0 rfl) ?_
              exact W.iret hx hb hr (fun t ht hW => ⟨⟨_, (-bb), rfl, ⟨(by omega), numE_of (b := bb) hsg (rn_end (a := z_18) (by omega) (by omega) (by omega) hal (fun _ h8 => by unfold isDi at h8; rw [← ez_24] at h8; omega)) hbb (Or.inr ⟨(by have t1 := tn (x := z_18) (by omega); have t2 := tn (x := ii) (by omega); omega), Or.inl ⟨hng, (by omega), (fb_negI (by omega))⟩⟩)⟩, by rw [ht]; exact hP.sub [0, 1] rfl, hD.sub [0, 1] (by decide +kernel) rfl⟩, hS.F ht⟩) hS.2.2 dX10_numberEnd_120
        · rw [fa_eq] at c_30
          refine lv_aload_n hx hb dX10_numberEnd_88 rfl (lv_at hl 2 rfl) ?_
          refine lv_sipush (v := 1000) hx hb dX10_numberEnd_89 (by decide +kernel) ?_
          refine va_put (D := D) (ci := 7) (v := .int 1000) (ty := .int) (C := RX10) (T := TX10) (N := 7) hx hb hts in_X10_numberEnd_X10 tyX10 tyX10_ok nmX10 hown hE.1 hP hD hS 0 rfl rfl 6 (by decide +kernel) (hts (.fieldLink RX10 31 "ClauseBook$Tape" "number" "I") (List.mem_of_getElem? (i := 2) rfl)) (fun _ h9 => h9) rfl (by decide +kernel) rfl rfl (Nat.le_of_ble_eq_true rfl) dX10_numberEnd_92 (fun H locs hP hD hS => ?_)
          obtain ⟨hP, hD⟩ := wPD [(h0, .inr (7, [.int n, .ref yb, .ref ki, .ref nu, .int wd, .int nx, .int 1000])), (yb, .inl (T 0, 120, .inl fb))] hP hD rfl
          refine lv_iload_n hx hb dX10_numberEnd_95 rfl (lv_at hl 1 rfl) ?_
          refine lv_iload_n hx hb dX10_numberEnd_96 rfl (lv_at hl 3 rfl) ?_
          refine lv_icmp_le (tgt := 119) hx hb dX10_numberEnd_97 (by decide +kernel) (fun c_33 => ?_) (fun c_33 => ?_)
          · rw [fa_le] at c_33
            refine lv_iload_n hx hb dX10_numberEnd_119 rfl (lv_at hl 0 rfl) ?_
            exact W.iret hx hb hr (fun t ht hW => ⟨⟨_, 1000, rfl, ⟨(by omega), numE_of (b := bb) hsg (rn_end (a := z_18) (by omega) (by omega) (by omega) hal (fun _ h8 => by unfold isDi at h8; rw [← ez_24] at h8; omega)) hbb (Or.inl ⟨(tneq (x := ii) (by omega) (by omega)), (by decide +kernel)⟩)⟩, by rw [ht]; exact hP.sub [0, 1] rfl, hD.sub [0, 1] (by decide +kernel) rfl⟩, hS.F ht⟩) hS.2.2 dX10_numberEnd_120
          · rw [fa_le] at c_33
            refine lv_aload_n hx hb dX10_numberEnd_100 rfl (lv_at hl 2 rfl) ?_
            refine va_get (D := D) (ci := 7) (v := .int 1000) (C := RX10) (T := TX10) (N := 7) hx hb hts in_X10_numberEnd_X10 hown hE.1 hP 0 rfl rfl 6 (by decide +kernel) (hts (.fieldLink RX10 31 "ClauseBook$Tape" "number" "I") (List.mem_of_getElem? (i := 2) rfl)) (fun _ h9 => h9) rfl dX10_numberEnd_101 ?_
            refine lv_sipush (v := 1000) hx hb dX10_numberEnd_104 (by decide +kernel) ?_
            refine lv_icmp_eq (tgt := 119) hx hb dX10_numberEnd_107 (by decide +kernel) (fun _ => ?_) (fun c9 => absurd c9 (by decide +kernel))
            refine lv_iload_n hx hb dX10_numberEnd_119 rfl (lv_at hl 0 rfl) ?_
            exact W.iret hx hb hr (fun t ht hW => ⟨⟨_, 1000, rfl, ⟨(by omega), numE_of (b := bb) hsg (rn_end (a := z_18) (by omega) (by omega) (by omega) hal (fun _ h8 => by unfold isDi at h8; rw [← ez_24] at h8; omega)) hbb (Or.inl ⟨(tneq (x := ii) (by omega) (by omega)), (by decide +kernel)⟩)⟩, by rw [ht]; exact hP.sub [0, 1] rfl, hD.sub [0, 1] (by decide +kernel) rfl⟩, hS.F ht⟩) hS.2.2 dX10_numberEnd_120
/-- the first k words are kinds, and a clause is awaited at each -/
def okT (f : Nat → Int32) (k : Nat) : Prop := ∀ j : Nat, j < k → (0 ≤ (f j).toInt ∧ (f j).toInt ≤ 12) ∧ 0 ≤ smT f j
theorem smT_up {f : Nat → Int32} {k : Nat} {v : Int32} : ∀ j : Nat, j ≤ k → smT (upd f k v) j = smT f j
  | 0, _ => rfl
  | j + 1, h => by
    have e : upd f k v j = f j := by simp only [upd]; rw [if_neg (by omega)]
    show smT (upd f k v) j + (nmT (upd f k v j).toNatClampNeg).toInt - 1 = smT f j + (nmT (f j).toNatClampNeg).toInt - 1
    rw [smT_up j (by omega), e]
theorem okT_up {f : Nat → Int32} {k : Nat} {v : Int32} (h : okT f k) (hv : 0 ≤ v.toInt ∧ v.toInt ≤ 12) (hs : 0 ≤ smT f k) : okT (upd f k v) (k + 1) ∧ smT (upd f k v) (k + 1) = smT f k + (nmT v.toNatClampNeg).toInt - 1 := by
  constructor
  · intro j hj
    by_cases e : j = k
    · subst e
      refine ⟨?_, by rw [smT_up j (Nat.le_refl j)]; exact hs⟩
      simp only [upd, if_pos]; exact hv
    · have h9 := h j (by omega)
      refine ⟨?_, by rw [smT_up j (by omega)]; exact h9.2⟩
      simp only [upd, if_neg e]; exact h9.1
  · show smT (upd f k v) k + (nmT (upd f k v k).toNatClampNeg).toInt - 1 = _
    rw [smT_up k (Nat.le_refl k), upd_at]

theorem dX10_scan_0 : decode cX10_scan 0 = .ok (.iconst 0, 1) := by decide +kernel
theorem dX10_scan_1 : decode cX10_scan 1 = .ok (.istore_n 2, 1) := by decide +kernel
theorem dX10_scan_101 : decode cX10_scan 101 = .ok (.iload_n 2, 1) := by decide +kernel
theorem dX10_scan_102 : decode cX10_scan 102 = .ok (.ireturn, 1) := by decide +kernel
theorem dX10_scan_103 : decode cX10_scan 103 = .ok (.aload_n 0, 1) := by decide +kernel
theorem dX10_scan_104 : decode cX10_scan 104 = .ok (.getfield 22, 3) := by decide +kernel
theorem dX10_scan_107 : decode cX10_scan 107 = .ok (.aload_n 0, 1) := by decide +kernel
theorem dX10_scan_108 : decode cX10_scan 108 = .ok (.getfield 25, 3) := by decide +kernel
theorem dX10_scan_111 : decode cX10_scan 111 = .ok (.iconst 1, 1) := by decide +kernel
theorem dX10_scan_112 : decode cX10_scan 112 = .ok (.isub, 1) := by decide +kernel
theorem dX10_scan_113 : decode cX10_scan 113 = .ok (.aload_n 0, 1) := by decide +kernel
theorem dX10_scan_114 : decode cX10_scan 114 = .ok (.getfield 31, 3) := by decide +kernel
theorem dX10_scan_117 : decode cX10_scan 117 = .ok (.iastore, 1) := by decide +kernel
theorem dX10_scan_118 : decode cX10_scan 118 = .ok (.iconst 0, 1) := by decide +kernel
theorem dX10_scan_119 : decode cX10_scan 119 = .ok (.istore 4, 2) := by decide +kernel
theorem dX10_scan_12 : decode cX10_scan 12 = .ok (.iconst 0, 1) := by decide +kernel
theorem dX10_scan_121 : decode cX10_scan 121 = .ok (.goto 101, 3) := by decide +kernel
theorem dX10_scan_124 : decode cX10_scan 124 = .ok (.aload_n 0, 1) := by decide +kernel
theorem dX10_scan_125 : decode cX10_scan 125 = .ok (.iload_n 2, 1) := by decide +kernel
theorem dX10_scan_126 : decode cX10_scan 126 = .ok (.invokevirtual 54, 3) := by decide +kernel
theorem dX10_scan_129 : decode cX10_scan 129 = .ok (.istore 6, 2) := by decide +kernel
theorem dX10_scan_13 : decode cX10_scan 13 = .ok (.istore 5, 2) := by decide +kernel
theorem dX10_scan_131 : decode cX10_scan 131 = .ok (.aload_n 0, 1) := by decide +kernel
theorem dX10_scan_132 : decode cX10_scan 132 = .ok (.iload_n 2, 1) := by decide +kernel
theorem dX10_scan_133 : decode cX10_scan 133 = .ok (.iload 6, 2) := by decide +kernel
theorem dX10_scan_135 : decode cX10_scan 135 = .ok (.invokevirtual 57, 3) := by decide +kernel
theorem dX10_scan_138 : decode cX10_scan 138 = .ok (.istore 7, 2) := by decide +kernel
theorem dX10_scan_140 : decode cX10_scan 140 = .ok (.iload_n 3, 1) := by decide +kernel
theorem dX10_scan_141 : decode cX10_scan 141 = .ok (.ifCond .eq 9, 3) := by decide +kernel
theorem dX10_scan_144 : decode cX10_scan 144 = .ok (.iload 7, 2) := by decide +kernel
theorem dX10_scan_146 : decode cX10_scan 146 = .ok (.iconst (-1), 1) := by decide +kernel
theorem dX10_scan_147 : decode cX10_scan 147 = .ok (.if_icmp .ne 5, 3) := by decide +kernel
theorem dX10_scan_15 : decode cX10_scan 15 = .ok (.iload 5, 2) := by decide +kernel
theorem dX10_scan_150 : decode cX10_scan 150 = .ok (.iload_n 2, 1) := by decide +kernel
theorem dX10_scan_151 : decode cX10_scan 151 = .ok (.ireturn, 1) := by decide +kernel
theorem dX10_scan_152 : decode cX10_scan 152 = .ok (.getstatic 34, 3) := by decide +kernel
theorem dX10_scan_155 : decode cX10_scan 155 = .ok (.iload 7, 2) := by decide +kernel
theorem dX10_scan_157 : decode cX10_scan 157 = .ok (.aaload, 1) := by decide +kernel
theorem dX10_scan_158 : decode cX10_scan 158 = .ok (.astore 8, 2) := by decide +kernel
theorem dX10_scan_160 : decode cX10_scan 160 = .ok (.iload_n 3, 1) := by decide +kernel
theorem dX10_scan_161 : decode cX10_scan 161 = .ok (.aload 8, 2) := by decide +kernel
theorem dX10_scan_163 : decode cX10_scan 163 = .ok (.getfield 61, 3) := by decide +kernel
theorem dX10_scan_166 : decode cX10_scan 166 = .ok (.iconst 1, 1) := by decide +kernel
theorem dX10_scan_167 : decode cX10_scan 167 = .ok (.isub, 1) := by decide +kernel
theorem dX10_scan_168 : decode cX10_scan 168 = .ok (.iadd, 1) := by decide +kernel
theorem dX10_scan_169 : decode cX10_scan 169 = .ok (.istore_n 3, 1) := by decide +kernel
theorem dX10_scan_17 : decode cX10_scan 17 = .ok (.bipush 120, 2) := by decide +kernel
theorem dX10_scan_170 : decode cX10_scan 170 = .ok (.aload_n 0, 1) := by decide +kernel
theorem dX10_scan_171 : decode cX10_scan 171 = .ok (.getfield 25, 3) := by decide +kernel
theorem dX10_scan_174 : decode cX10_scan 174 = .ok (.iconst 1, 1) := by decide +kernel
theorem dX10_scan_175 : decode cX10_scan 175 = .ok (.iadd, 1) := by decide +kernel
theorem dX10_scan_176 : decode cX10_scan 176 = .ok (.iload_n 3, 1) := by decide +kernel
theorem dX10_scan_177 : decode cX10_scan 177 = .ok (.iadd, 1) := by decide +kernel
theorem dX10_scan_178 : decode cX10_scan 178 = .ok (.iload_n 1, 1) := by decide +kernel
theorem dX10_scan_179 : decode cX10_scan 179 = .ok (.if_icmp .le 5, 3) := by decide +kernel
theorem dX10_scan_182 : decode cX10_scan 182 = .ok (.iload_n 2, 1) := by decide +kernel
theorem dX10_scan_183 : decode cX10_scan 183 = .ok (.ireturn, 1) := by decide +kernel
theorem dX10_scan_184 : decode cX10_scan 184 = .ok (.aload_n 0, 1) := by decide +kernel
theorem dX10_scan_185 : decode cX10_scan 185 = .ok (.getfield 19, 3) := by decide +kernel
theorem dX10_scan_188 : decode cX10_scan 188 = .ok (.aload_n 0, 1) := by decide +kernel
theorem dX10_scan_189 : decode cX10_scan 189 = .ok (.getfield 25, 3) := by decide +kernel
theorem dX10_scan_19 : decode cX10_scan 19 = .ok (.if_icmp .ge 212, 3) := by decide +kernel
theorem dX10_scan_192 : decode cX10_scan 192 = .ok (.iload 7, 2) := by decide +kernel
theorem dX10_scan_194 : decode cX10_scan 194 = .ok (.iastore, 1) := by decide +kernel
theorem dX10_scan_195 : decode cX10_scan 195 = .ok (.aload_n 0, 1) := by decide +kernel
theorem dX10_scan_196 : decode cX10_scan 196 = .ok (.getfield 22, 3) := by decide +kernel
theorem dX10_scan_199 : decode cX10_scan 199 = .ok (.aload_n 0, 1) := by decide +kernel
theorem dX10_scan_2 : decode cX10_scan 2 = .ok (.iconst 1, 1) := by decide +kernel
theorem dX10_scan_200 : decode cX10_scan 200 = .ok (.getfield 25, 3) := by decide +kernel
theorem dX10_scan_203 : decode cX10_scan 203 = .ok (.iconst 0, 1) := by decide +kernel
theorem dX10_scan_204 : decode cX10_scan 204 = .ok (.iastore, 1) := by decide +kernel
theorem dX10_scan_205 : decode cX10_scan 205 = .ok (.aload_n 0, 1) := by decide +kernel
theorem dX10_scan_206 : decode cX10_scan 206 = .ok (.dup, 1) := by decide +kernel
theorem dX10_scan_207 : decode cX10_scan 207 = .ok (.getfield 25, 3) := by decide +kernel
theorem dX10_scan_210 : decode cX10_scan 210 = .ok (.iconst 1, 1) := by decide +kernel
theorem dX10_scan_211 : decode cX10_scan 211 = .ok (.iadd, 1) := by decide +kernel
theorem dX10_scan_212 : decode cX10_scan 212 = .ok (.putfield 25, 3) := by decide +kernel
theorem dX10_scan_215 : decode cX10_scan 215 = .ok (.aload 8, 2) := by decide +kernel
theorem dX10_scan_217 : decode cX10_scan 217 = .ok (.invokevirtual 64, 3) := by decide +kernel
theorem dX10_scan_22 : decode cX10_scan 22 = .ok (.iload_n 2, 1) := by decide +kernel
theorem dX10_scan_220 : decode cX10_scan 220 = .ok (.istore 4, 2) := by decide +kernel
theorem dX10_scan_222 : decode cX10_scan 222 = .ok (.iload 6, 2) := by decide +kernel
theorem dX10_scan_224 : decode cX10_scan 224 = .ok (.istore_n 2, 1) := by decide +kernel
theorem dX10_scan_225 : decode cX10_scan 225 = .ok (.iinc 5 1, 3) := by decide +kernel
theorem dX10_scan_228 : decode cX10_scan 228 = .ok (.goto (-213), 3) := by decide +kernel
theorem dX10_scan_23 : decode cX10_scan 23 = .ok (.aload_n 0, 1) := by decide +kernel
theorem dX10_scan_231 : decode cX10_scan 231 = .ok (.iload_n 3, 1) := by decide +kernel
theorem dX10_scan_232 : decode cX10_scan 232 = .ok (.ifCond .gt 8, 3) := by decide +kernel
theorem dX10_scan_235 : decode cX10_scan 235 = .ok (.iload 4, 2) := by decide +kernel
theorem dX10_scan_237 : decode cX10_scan 237 = .ok (.ifCond .eq 10, 3) := by decide +kernel
theorem dX10_scan_24 : decode cX10_scan 24 = .ok (.getfield 9, 3) := by decide +kernel
theorem dX10_scan_240 : decode cX10_scan 240 = .ok (.aload_n 0, 1) := by decide +kernel
theorem dX10_scan_241 : decode cX10_scan 241 = .ok (.getfield 9, 3) := by decide +kernel
theorem dX10_scan_244 : decode cX10_scan 244 = .ok (.goto 4, 3) := by decide +kernel
theorem dX10_scan_247 : decode cX10_scan 247 = .ok (.iconst (-1), 1) := by decide +kernel
theorem dX10_scan_248 : decode cX10_scan 248 = .ok (.ireturn, 1) := by decide +kernel
theorem dX10_scan_27 : decode cX10_scan 27 = .ok (.if_icmp .ge 204, 3) := by decide +kernel
theorem dX10_scan_3 : decode cX10_scan 3 = .ok (.istore_n 3, 1) := by decide +kernel
theorem dX10_scan_30 : decode cX10_scan 30 = .ok (.iload_n 2, 1) := by decide +kernel
theorem dX10_scan_31 : decode cX10_scan 31 = .ok (.iconst 1, 1) := by decide +kernel
theorem dX10_scan_32 : decode cX10_scan 32 = .ok (.iadd, 1) := by decide +kernel
theorem dX10_scan_33 : decode cX10_scan 33 = .ok (.istore 6, 2) := by decide +kernel
theorem dX10_scan_35 : decode cX10_scan 35 = .ok (.aload_n 0, 1) := by decide +kernel
theorem dX10_scan_36 : decode cX10_scan 36 = .ok (.getfield 15, 3) := by decide +kernel
theorem dX10_scan_39 : decode cX10_scan 39 = .ok (.iload_n 2, 1) := by decide +kernel
theorem dX10_scan_4 : decode cX10_scan 4 = .ok (.iconst 0, 1) := by decide +kernel
theorem dX10_scan_40 : decode cX10_scan 40 = .ok (.iaload, 1) := by decide +kernel
theorem dX10_scan_41 : decode cX10_scan 41 = .ok (.bipush 32, 2) := by decide +kernel
theorem dX10_scan_43 : decode cX10_scan 43 = .ok (.if_icmp .ne 9, 3) := by decide +kernel
theorem dX10_scan_46 : decode cX10_scan 46 = .ok (.iload 6, 2) := by decide +kernel
theorem dX10_scan_48 : decode cX10_scan 48 = .ok (.istore_n 2, 1) := by decide +kernel
theorem dX10_scan_49 : decode cX10_scan 49 = .ok (.goto 176, 3) := by decide +kernel
theorem dX10_scan_5 : decode cX10_scan 5 = .ok (.istore 4, 2) := by decide +kernel
theorem dX10_scan_52 : decode cX10_scan 52 = .ok (.iload 4, 2) := by decide +kernel
theorem dX10_scan_54 : decode cX10_scan 54 = .ok (.ifCond .eq 70, 3) := by decide +kernel
theorem dX10_scan_57 : decode cX10_scan 57 = .ok (.getstatic 34, 3) := by decide +kernel
theorem dX10_scan_60 : decode cX10_scan 60 = .ok (.aload_n 0, 1) := by decide +kernel
theorem dX10_scan_61 : decode cX10_scan 61 = .ok (.getfield 19, 3) := by decide +kernel
theorem dX10_scan_64 : decode cX10_scan 64 = .ok (.aload_n 0, 1) := by decide +kernel
theorem dX10_scan_65 : decode cX10_scan 65 = .ok (.getfield 25, 3) := by decide +kernel
theorem dX10_scan_68 : decode cX10_scan 68 = .ok (.iconst 1, 1) := by decide +kernel
theorem dX10_scan_69 : decode cX10_scan 69 = .ok (.isub, 1) := by decide +kernel
theorem dX10_scan_7 : decode cX10_scan 7 = .ok (.aload_n 0, 1) := by decide +kernel
theorem dX10_scan_70 : decode cX10_scan 70 = .ok (.iaload, 1) := by decide +kernel
theorem dX10_scan_71 : decode cX10_scan 71 = .ok (.aaload, 1) := by decide +kernel
theorem dX10_scan_72 : decode cX10_scan 72 = .ok (.astore 7, 2) := by decide +kernel
theorem dX10_scan_74 : decode cX10_scan 74 = .ok (.aload_n 0, 1) := by decide +kernel
theorem dX10_scan_75 : decode cX10_scan 75 = .ok (.iload_n 2, 1) := by decide +kernel
theorem dX10_scan_76 : decode cX10_scan 76 = .ok (.invokevirtual 40, 3) := by decide +kernel
theorem dX10_scan_79 : decode cX10_scan 79 = .ok (.istore 6, 2) := by decide +kernel
theorem dX10_scan_8 : decode cX10_scan 8 = .ok (.iconst 0, 1) := by decide +kernel
theorem dX10_scan_81 : decode cX10_scan 81 = .ok (.aload_n 0, 1) := by decide +kernel
theorem dX10_scan_82 : decode cX10_scan 82 = .ok (.getfield 31, 3) := by decide +kernel
theorem dX10_scan_85 : decode cX10_scan 85 = .ok (.aload 7, 2) := by decide +kernel
theorem dX10_scan_87 : decode cX10_scan 87 = .ok (.getfield 44, 3) := by decide +kernel
theorem dX10_scan_9 : decode cX10_scan 9 = .ok (.putfield 25, 3) := by decide +kernel
theorem dX10_scan_90 : decode cX10_scan 90 = .ok (.aload 7, 2) := by decide +kernel
theorem dX10_scan_92 : decode cX10_scan 92 = .ok (.getfield 47, 3) := by decide +kernel
theorem dX10_scan_95 : decode cX10_scan 95 = .ok (.invokestatic 50, 3) := by decide +kernel
theorem dX10_scan_98 : decode cX10_scan 98 = .ok (.ifCond .ne 5, 3) := by decide +kernel
set_option maxRecDepth 40000 in
theorem ggX10_scan_X10_kindAt_0 : GoodIn wsX10_scan [.code yX10_kindAt cX10_kindAt 4 (some .int)] := goodIn_r _ [29] rfl (by decide +kernel)
set_option maxRecDepth 40000 in
theorem ggX10_scan_X10_kindAt_1 : GoodIn wsX10_scan wsX10_kindAt_r1 := goodIn_r _ [30, 31, 32, 33, 13, 34, 3, 35, 36, 37, 38, 39, 40, 41, 42, 43, 44, 45, 46, 47, 48, 49, 50, 51] rfl (by decide +kernel)
set_option maxRecDepth 40000 in
theorem ggX10_scan_X10_kindAt_2 : GoodIn wsX10_scan wsX10_kindAt_r2 := goodIn_r _ [52, 53, 54, 55, 56, 57, 58, 59, 60, 61, 62, 63, 64, 65, 66, 67, 68, 69, 70, 71, 72, 73, 74, 75] rfl (by decide +kernel)
set_option maxRecDepth 40000 in
theorem ggX10_scan_X10_kindAt_3 : GoodIn wsX10_scan wsX10_kindAt_r3 := goodIn_r _ [76, 77, 78, 79, 80, 81, 82, 83] rfl (by decide +kernel)
set_option maxRecDepth 40000 in
theorem ggX10_scan_X10_kindAt_4 : GoodIn wsX10_scan wsX100 := goodIn_r _ [91, 92, 93, 94, 95, 96, 97] rfl (by decide +kernel)
set_option maxRecDepth 40000 in
theorem ggX10_scan_X10_kindAt : GoodIn wsX10_scan wsX10_kindAt := (goodIn_app ggX10_scan_X10_kindAt_0 (goodIn_app (goodIn_app ggX10_scan_X10_kindAt_1 (goodIn_app ggX10_scan_X10_kindAt_2 ggX10_scan_X10_kindAt_3)) ggX10_scan_X10_kindAt_4))
set_option maxRecDepth 20000 in
theorem ggX10_scan_X10_numberEnd : GoodIn wsX10_scan wsX10_numberEnd := goodIn_r _ [14, 3, 5, 2, 15, 16, 17, 18, 19, 20, 21, 91, 92, 93, 94, 95, 96, 97] rfl (by decide +kernel)
set_option maxRecDepth 20000 in
theorem ggX10_scan_X10_wordEnd : GoodIn wsX10_scan wsX10_wordEnd := goodIn_r _ [25, 2, 3, 19, 20, 21, 91, 92, 93, 94, 95, 96, 97] rfl (by decide +kernel)
set_option maxRecDepth 20000 in
theorem ggX10_scan_X12_within : GoodIn wsX10_scan wsX12_within := goodIn_r _ [21] rfl (by decide +kernel)
set_option maxRecDepth 20000 in
theorem ggX10_scan_X7_numbered : GoodIn wsX10_scan wsX7_numbered := goodIn_r _ [88, 89, 90] rfl (by decide +kernel)
set_option maxRecDepth 20000 in
theorem gX10_scan_X10_kindAt : GoodIn wsX10_scan (wsV RX10 57 RX10 yX10_kindAt wsX10_kindAt) := goodIn_app (goodIn_r _ [26, 27, 28, 13] rfl (by decide +kernel)) ggX10_scan_X10_kindAt
set_option maxRecDepth 20000 in
theorem gX10_scan_X10_numberEnd : GoodIn wsX10_scan (wsV RX10 40 RX10 yX10_numberEnd wsX10_numberEnd) := goodIn_app (goodIn_r _ [10, 11, 12, 13] rfl (by decide +kernel)) ggX10_scan_X10_numberEnd
set_option maxRecDepth 20000 in
theorem gX10_scan_X10_wordEnd : GoodIn wsX10_scan (wsV RX10 54 RX10 yX10_wordEnd wsX10_wordEnd) := goodIn_app (goodIn_r _ [22, 23, 24, 13] rfl (by decide +kernel)) ggX10_scan_X10_wordEnd
set_option maxRecDepth 20000 in
theorem gX10_scan_X12_within_n50 : GoodIn wsX10_scan (wsX12_within) := ggX10_scan_X12_within
set_option maxRecDepth 20000 in
theorem gX10_scan_X7_numbered : GoodIn wsX10_scan (wsV RX10 64 RX7 yX7_numbered wsX7_numbered) := goodIn_app (goodIn_r _ [84, 85, 86, 87] rfl (by decide +kernel)) ggX10_scan_X7_numbered
theorem hv_X10_kindAt : yX10_kindAt.cls = RX10 ∧ yX10_kindAt.cls ≠ "java/lang/invoke/MethodHandle" ∧ yX10_kindAt.cls ≠ "java/lang/invoke/VarHandle" ∧ (parseMethodDescriptor yX10_kindAt.desc).map (fun d => d.parameters.length) = some 2 := by decide +kernel
theorem hv_X10_numberEnd : yX10_numberEnd.cls = RX10 ∧ yX10_numberEnd.cls ≠ "java/lang/invoke/MethodHandle" ∧ yX10_numberEnd.cls ≠ "java/lang/invoke/VarHandle" ∧ (parseMethodDescriptor yX10_numberEnd.desc).map (fun d => d.parameters.length) = some 1 := by decide +kernel
theorem hv_X10_wordEnd : yX10_wordEnd.cls = RX10 ∧ yX10_wordEnd.cls ≠ "java/lang/invoke/MethodHandle" ∧ yX10_wordEnd.cls ≠ "java/lang/invoke/VarHandle" ∧ (parseMethodDescriptor yX10_wordEnd.desc).map (fun d => d.parameters.length) = some 1 := by decide +kernel
theorem hv_X7_numbered : yX7_numbered.cls = RX7 ∧ yX7_numbered.cls ≠ "java/lang/invoke/MethodHandle" ∧ yX7_numbered.cls ≠ "java/lang/invoke/VarHandle" ∧ (parseMethodDescriptor yX7_numbered.desc).map (fun d => d.parameters.length) = some 0 := by decide +kernel
set_option maxRecDepth 20000 in
theorem in_X10_scan_X10 : ∀ w ∈ wsX100, w ∈ wsX10_scan := sub_r [91, 92, 93, 94, 95, 96, 97] rfl
set_option maxHeartbeats 4000000 in
set_option maxRecDepth 100000 in
theorem c_X10_scan (l : Launch) (D : va_G) (T : Nat → ClassId) (ad sa av : Nat → Nat) (ta : Nat) (sz : Nat) (h0 : Nat) (yb : Nat) (ki : Nat) (nu : Nat) (n : Int32) (wd : Int32) (nx : Int32) (nb : Int32) (fb : Nat → Int32) (fk : Nat → Int32) (fn : Nat → Int32) (x1 : Int32) (hn : 0 ≤ n.toInt ∧ n.toInt ≤ 120) (hx1 : x1.toInt ≤ 24) : Met l yX10_scan wsX10_scan ({ frames := 6, cells := 0, slots := 0, locals := 132 }) (pWk [.ref h0, .int x1] D T [(h0, .inr (7, [.int n, .ref yb, .ref ki, .ref nu, .int wd, .int nx, .int nb])), (yb, .inl (T 0, 120, .inl fb)), (ki, .inl (T 0, 24, .inl fk)), (nu, .inl (T 0, 24, .inl fn))] sz ad sa av ta) (va_Qi (fun (r : Int32) (u : Int32 × Int32 × (Nat → Int32) × (Nat → Int32)) => (r.toInt = -1 ∧ txtK fb n.toNatClampNeg x1.toInt u.2.2.1 u.2.2.2 u.1.toNatClampNeg ∧ (1 ≤ u.1.toInt ∧ u.1.toInt ≤ x1.toInt) ∧ okT u.2.2.1 u.1.toNatClampNeg ∧ smT u.2.2.1 u.1.toNatClampNeg = -1) ∨ (0 ≤ r.toInt ∧ txtF fb n.toNatClampNeg x1.toInt r.toNatClampNeg)) (bW D (va_A [(h0, .inr (7, [.int n, .ref yb, .ref ki, .ref nu, .int wd, .int nx, .int nb])), (yb, .inl (T 0, 120, .inl fb)), (ki, .inl (T 0, 24, .inl fk)), (nu, .inl (T 0, 24, .inl fn))] sz) (fun (u : Int32 × Int32 × (Nat → Int32) × (Nat → Int32)) => [(h0, .inr (7, [.int n, .ref yb, .ref ki, .ref nu, .int u.1, .int nx, .int u.2.1])), (yb, .inl (T 0, 120, .inl fb)), (ki, .inl (T 0, 24, .inl u.2.2.1)), (nu, .inl (T 0, 24, .inl u.2.2.2))])) (va_A [(h0, .inr (7, [.int n, .ref yb, .ref ki, .ref nu, .int wd, .int nx, .int nb])), (yb, .inl (T 0, 120, .inl fb)), (ki, .inl (T 0, 24, .inl fk)), (nu, .inl (T 0, 24, .inl fn))] sz)) 0 0 (va_A [(h0, .inr (7, [.int n, .ref yb, .ref ki, .ref nu, .int wd, .int nx, .int nb])), (yb, .inl (T 0, 120, .inl fb)), (ki, .inl (T 0, 24, .inl fk)), (nu, .inl (T 0, 24, .inl fn))] sz) := by
  refine Met.ofW (cc := cX10_scan) (maxL := 9) (ret := (some .int)) (by decide +kernel) rfl ?_
  intro p e s m args below meth c s₁ B hml hv
  obtain ⟨rfl, hsz, hP, hE, hD0, hV⟩ := hv
  have hx := B.exec
  have hb := B.bytes
  have hr := B.returns
  have hts := atoms_spec (ws := wsX10_scan) B.pre
  have hown : s.vm.findClass RX10 = some m.cls := findClass_of_methodNamed B.named
  have hlocks := B.notSynchronized
  subst hsz
  have hD := hD0.self (sz := s.heap.size)
  generalize hAe : va_A [(h0, .inr (7, [.int n, .ref yb, .ref ki, .ref nu, .int wd, .int nx, .int nb])), (yb, .inl (T 0, 120, .inl fb)), (ki, .inl (T 0, 24, .inl fk)), (nu, .inl (T 0, 24, .inl fn))] s.heap.size = A at hD hV ⊢
  have hA : ∀ q : Nat, s.heap.size ≤ q → A q := fun q h => by rw [← hAe]; exact Or.inr h
  have hS : va_S A s.heap s.heap [] := va_S.rf
  have hP : va_P D vwCl [(h0, .inr (7, [.int n, .ref yb, .ref ki, .ref nu, .int wd, .int nx, .int nb])), (yb, .inl (T 0, 120, .inl fb)), (ki, .inl (T 0, 24, .inl fk)), (nu, .inl (T 0, 24, .inl fn))] s.heap := hP
  have hl := lv_entry ([.ref h0, .int x1]) (n := 9) (Nat.le_of_ble_eq_true rfl)
  rw [lg_entry_eq]
  generalize (lg_sl ([.ref h0, .int x1]) ++ List.replicate (9 - (lg_sl ([.ref h0, .int x1])).length) Slot.unset).toArray = ls at hl ⊢
  have hl : lv_has ls 9 [(0, .ref h0), (1, .int x1)] := hl
  clear hD0
  refine lv_iconst (v := 0) hx hb dX10_scan_0 (by decide +kernel) ?_
  refine lv_istore_n (lv' := [(2, .int 0), (0, .ref h0), (1, .int x1)]) hx hb dX10_scan_1 rfl hl (by decide +kernel) rfl (fun ls hl => ?_)
  refine lv_iconst (v := 1) hx hb dX10_scan_2 (by decide +kernel) ?_
  refine lv_istore_n (lv' := [(3, .int 1), (2, .int 0), (0, .ref h0), (1, .int x1)]) hx hb dX10_scan_3 rfl hl (by decide +kernel) rfl (fun ls hl => ?_)
  refine lv_iconst (v := 0) hx hb dX10_scan_4 (by decide +kernel) ?_
  refine lv_istore (lv' := [(4, .int 0), (3, .int 1), (2, .int 0), (0, .ref h0), (1, .int x1)]) hx hb dX10_scan_5 hl (by decide +kernel) rfl (fun ls hl => ?_)
  refine lv_aload_n hx hb dX10_scan_7 rfl (lv_at hl 3 rfl) ?_
  refine lv_iconst (v := 0) hx hb dX10_scan_8 (by decide +kernel) ?_
  refine va_put (D := D) (ci := 7) (v := .int 0) (ty := .int) (C := RX10) (T := TX10) (N := 7) hx hb hts in_X10_scan_X10 tyX10 tyX10_ok nmX10 hown hE.1 hP hD hS 0 rfl rfl 4 (by decide +kernel) (hts (.fieldLink RX10 25 "ClauseBook$Tape" "words" "I") (List.mem_of_getElem? (i := 1) rfl)) (fun _ h9 => h9) rfl (by decide +kernel) rfl rfl (Nat.le_of_ble_eq_true rfl) dX10_scan_9 (fun H locs hP hD hS => ?_)
  obtain ⟨hP, hD⟩ := wPD [(h0, .inr (7, [.int n, .ref yb, .ref ki, .ref nu, .int 0, .int nx, .int nb])), (yb, .inl (T 0, 120, .inl fb)), (ki, .inl (T 0, 24, .inl fk)), (nu, .inl (T 0, 24, .inl fn))] hP hD rfl
  refine lv_iconst (v := 0) hx hb dX10_scan_12 (by decide +kernel) ?_
  refine lv_istore (lv' := [(5, .int 0), (4, .int 0), (3, .int 1), (2, .int 0), (0, .ref h0), (1, .int x1)]) hx hb dX10_scan_13 hl (by decide +kernel) rfl (fun ls hl => ?_)
  refine loopW (σ := (Int32) × (Int32) × (Int32) × (Int32) × (Int32) × (Int32) × (Nat → Int32) × (Nat → Int32)) (fun x9 ls H locs => lv_has ls 9 [(5, .int x9.1), (2, .int x9.2.1), (3, .int x9.2.2.1), (4, .int x9.2.2.2.1), (0, .ref h0), (1, .int x1)] ∧ va_P D vwCl [(h0, .inr (7, [.int n, .ref yb, .ref ki, .ref nu, .int x9.2.2.2.2.1, .int nx, .int x9.2.2.2.2.2.1])), (yb, .inl (T 0, 120, .inl fb)), (ki, .inl (T 0, 24, .inl x9.2.2.2.2.2.2.1)), (nu, .inl (T 0, 24, .inl x9.2.2.2.2.2.2.2))] H ∧ va_D A [(h0, .inr (7, [.int n, .ref yb, .ref ki, .ref nu, .int x9.2.2.2.2.1, .int nx, .int x9.2.2.2.2.2.1])), (yb, .inl (T 0, 120, .inl fb)), (ki, .inl (T 0, 24, .inl x9.2.2.2.2.2.2.1)), (nu, .inl (T 0, 24, .inl x9.2.2.2.2.2.2.2))] ∧ va_S A s.heap H locs ∧ (((0 ≤ x9.2.1.toInt ∧ x9.2.1.toInt ≤ n.toInt) ∧ (0 ≤ x9.1.toInt ∧ x9.1.toInt ≤ x9.2.1.toInt) ∧ (0 ≤ x9.2.2.2.2.1.toInt ∧ x9.2.2.2.2.1.toInt ≤ 24) ∧ (0 ≤ x9.2.2.1.toInt ∧ x9.2.2.1.toInt ≤ 100) ∧ (x9.2.2.2.2.1.toInt = 0 ∨ x9.2.2.2.2.1.toInt + x9.2.2.1.toInt ≤ x1.toInt)) ∧ (x9.2.2.1.toInt = 1 + smT x9.2.2.2.2.2.2.1 x9.2.2.2.2.1.toNatClampNeg) ∧ okT x9.2.2.2.2.2.2.1 x9.2.2.2.2.1.toNatClampNeg ∧ scJ x9.2.2.2.1 fb n.toNatClampNeg x1.toInt x9.2.2.2.2.2.2.1 x9.2.2.2.2.2.2.2 x9.2.2.2.2.1.toNatClampNeg x9.2.1.toNatClampNeg)) (fun x9 => (120 - x9.1.toInt).toNat) (fun x9 ls H locs hI ih => ?_) (0, 0, 1, 0, 0, nb, fk, fn) ls ⟨lv_sub hl [0, 3, 2, 1, 4, 5] rfl, hP.sub [0, 1, 2, 3] rfl, hD.sub [0, 1, 2, 3] (by decide +kernel) rfl, hS, ⟨(by (try dsimp only); have h0t := ti_0; have h1t := ti_1; omega), (by (try dsimp only); rfl), (fun j hj => absurd hj (Nat.not_lt_zero j)), (Or.inl ⟨ti_0, scJ1_0⟩)⟩⟩
  obtain ⟨tu, at9, aw, na, ww, bb, gk, gn⟩ := x9
  obtain ⟨hl, hP, hD, hS, hinv⟩ := hI
  have hl : lv_has ls 9 [(5, .int tu), (2, .int at9), (3, .int aw), (4, .int na), (0, .ref h0), (1, .int x1)] := hl
  have hP : va_P D vwCl [(h0, .inr (7, [.int n, .ref yb, .ref ki, .ref nu, .int ww, .int nx, .int bb])), (yb, .inl (T 0, 120, .inl fb)), (ki, .inl (T 0, 24, .inl gk)), (nu, .inl (T 0, 24, .inl gn))] H := hP
  have hD : va_D A [(h0, .inr (7, [.int n, .ref yb, .ref ki, .ref nu, .int ww, .int nx, .int bb])), (yb, .inl (T 0, 120, .inl fb)), (ki, .inl (T 0, 24, .inl gk)), (nu, .inl (T 0, 24, .inl gn))] := hD
  have hinv : ((0 ≤ at9.toInt ∧ at9.toInt ≤ n.toInt) ∧ (0 ≤ tu.toInt ∧ tu.toInt ≤ at9.toInt) ∧ (0 ≤ ww.toInt ∧ ww.toInt ≤ 24) ∧ (0 ≤ aw.toInt ∧ aw.toInt ≤ 100) ∧ (ww.toInt = 0 ∨ ww.toInt + aw.toInt ≤ x1.toInt)) ∧ (aw.toInt = 1 + smT gk ww.toNatClampNeg) ∧ okT gk ww.toNatClampNeg ∧ scJ na fb n.toNatClampNeg x1.toInt gk gn ww.toNatClampNeg at9.toNatClampNeg := hinv
  obtain ⟨⟨ha, ht, hw, haw, hro⟩, hsm, hkT, hJ⟩ := hinv
  have hwc := tn hw.1
  refine lv_iload hx hb dX10_scan_15 (lv_at hl 0 rfl) ?_
  refine lv_bipush (v := 120) hx hb dX10_scan_17 (by decide +kernel) ?_
  refine lv_icmp_ge (tgt := 231) hx hb dX10_scan_19 (by decide +kernel) (fun c_1 => ?_) (fun c_1 => ?_)
  · rw [fa_le] at c_1
    try rw [ti_120] at c_1
    have hend : at9.toNatClampNeg = n.toNatClampNeg := (tneq (x := n) (y := at9) (by omega) (by omega))
    have hJe : scJ na fb n.toNatClampNeg x1.toInt gk gn ww.toNatClampNeg n.toNatClampNeg := by rw [hend] at hJ; exact hJ
    refine lv_iload_n hx hb dX10_scan_231 rfl (lv_at hl 2 rfl) ?_
    refine lv_if_gt (tgt := 240) hx hb dX10_scan_232 (by decide +kernel) (fun c_2 => ?_) (fun c_2 => ?_)
    · rw [fa_lt] at c_2
      try rw [ti_0] at c_2
      refine lv_aload_n hx hb dX10_scan_240 rfl (lv_at hl 4 rfl) ?_
      refine va_get (D := D) (ci := 7) (v := .int n) (C := RX10) (T := TX10) (N := 7) hx hb hts in_X10_scan_X10 hown hE.1 hP 0 rfl rfl 0 (by decide +kernel) (hts (.fieldLink RX10 9 "ClauseBook$Tape" "size" "I") (List.mem_of_getElem? (i := 2) rfl)) (fun _ h9 => h9) rfl dX10_scan_241 ?_
      refine lv_goto (tgt := 248) hx hb dX10_scan_244 (by decide +kernel) ?_
      exact W.iret hx hb hr (fun t ht hW => ⟨⟨_, (ww, bb, gk, gn), rfl, (Or.inr ⟨by omega, scJ.end hJ hend (fun h9 => by omega)⟩), by rw [ht]; exact hP.sub [0, 1, 2, 3] rfl, hD.sub [0, 1, 2, 3] (by decide +kernel) rfl⟩, hS.F ht⟩) hS.2.2 dX10_scan_248
    · rw [fa_lt] at c_2
      try rw [ti_0] at c_2
      refine lv_iload hx hb dX10_scan_235 (lv_at hl 3 rfl) ?_
      refine lv_if_eq (tgt := 247) hx hb dX10_scan_237 (by decide +kernel) (fun c_3 => ?_) (fun c_3 => ?_)
      · rw [fa_eq] at c_3
        try rw [ti_0] at c_3
        have h9w : ww.toNatClampNeg = 0 → smT gk ww.toNatClampNeg = 0 := fun e => (by rw [e]; rfl)
        refine lv_iconst (v := (-1)) hx hb dX10_scan_247 (by decide +kernel) ?_
        exact W.iret hx hb hr (fun t ht hW => ⟨⟨_, (ww, bb, gk, gn), rfl, (Or.inl ⟨by decide, (show txtK fb n.toNatClampNeg x1.toInt gk gn ww.toNatClampNeg from scK_end (scJ.one hJe (by omega)) (by omega)), (by (try dsimp only); omega), hkT, (by (try dsimp only); omega)⟩), by rw [ht]; exact hP.sub [0, 1, 2, 3] rfl, hD.sub [0, 1, 2, 3] (by decide +kernel) rfl⟩, hS.F ht⟩) hS.2.2 dX10_scan_248
      · rw [fa_eq] at c_3
        try rw [ti_0] at c_3
        refine lv_aload_n hx hb dX10_scan_240 rfl (lv_at hl 4 rfl) ?_
        refine va_get (D := D) (ci := 7) (v := .int n) (C := RX10) (T := TX10) (N := 7) hx hb hts in_X10_scan_X10 hown hE.1 hP 0 rfl rfl 0 (by decide +kernel) (hts (.fieldLink RX10 9 "ClauseBook$Tape" "size" "I") (List.mem_of_getElem? (i := 2) rfl)) (fun _ h9 => h9) rfl dX10_scan_241 ?_
        refine lv_goto (tgt := 248) hx hb dX10_scan_244 (by decide +kernel) ?_
        exact W.iret hx hb hr (fun t ht hW => ⟨⟨_, (ww, bb, gk, gn), rfl, (Or.inr ⟨by omega, scJ.end hJ hend (fun h9 => by omega)⟩), by rw [ht]; exact hP.sub [0, 1, 2, 3] rfl, hD.sub [0, 1, 2, 3] (by decide +kernel) rfl⟩, hS.F ht⟩) hS.2.2 dX10_scan_248
  · rw [fa_le] at c_1
    try rw [ti_120] at c_1
    refine lv_iload_n hx hb dX10_scan_22 rfl (lv_at hl 1 rfl) ?_
    refine lv_aload_n hx hb dX10_scan_23 rfl (lv_at hl 4 rfl) ?_
    refine va_get (D := D) (ci := 7) (v := .int n) (C := RX10) (T := TX10) (N := 7) hx hb hts in_X10_scan_X10 hown hE.1 hP 0 rfl rfl 0 (by decide +kernel) (hts (.fieldLink RX10 9 "ClauseBook$Tape" "size" "I") (List.mem_of_getElem? (i := 2) rfl)) (fun _ h9 => h9) rfl dX10_scan_24 ?_
    refine lv_icmp_ge (tgt := 231) hx hb dX10_scan_27 (by decide +kernel) (fun c_4 => ?_) (fun c_4 => ?_)
    · rw [fa_le] at c_4
      have hend : at9.toNatClampNeg = n.toNatClampNeg := (tneq (x := n) (y := at9) (by omega) (by omega))
      have hJe : scJ na fb n.toNatClampNeg x1.toInt gk gn ww.toNatClampNeg n.toNatClampNeg := by rw [hend] at hJ; exact hJ
      refine lv_iload_n hx hb dX10_scan_231 rfl (lv_at hl 2 rfl) ?_
      refine lv_if_gt (tgt := 240) hx hb dX10_scan_232 (by decide +kernel) (fun c_5 => ?_) (fun c_5 => ?_)
      · rw [fa_lt] at c_5
        try rw [ti_0] at c_5
        refine lv_aload_n hx hb dX10_scan_240 rfl (lv_at hl 4 rfl) ?_
        refine va_get (D := D) (ci := 7) (v := .int n) (C := RX10) (T := TX10) (N := 7) hx hb hts in_X10_scan_X10 hown hE.1 hP 0 rfl rfl 0 (by decide +kernel) (hts (.fieldLink RX10 9 "ClauseBook$Tape" "size" "I") (List.mem_of_getElem? (i := 2) rfl)) (fun _ h9 => h9) rfl dX10_scan_241 ?_
        refine lv_goto (tgt := 248) hx hb dX10_scan_244 (by decide +kernel) ?_
        exact W.iret hx hb hr (fun t ht hW => ⟨⟨_, (ww, bb, gk, gn), rfl, (Or.inr ⟨by omega, scJ.end hJ hend (fun h9 => by omega)⟩), by rw [ht]; exact hP.sub [0, 1, 2, 3] rfl, hD.sub [0, 1, 2, 3] (by decide +kernel) rfl⟩, hS.F ht⟩) hS.2.2 dX10_scan_248
      · rw [fa_lt] at c_5
        try rw [ti_0] at c_5
        refine lv_iload hx hb dX10_scan_235 (lv_at hl 3 rfl) ?_
        refine lv_if_eq (tgt := 247) hx hb dX10_scan_237 (by decide +kernel) (fun c_6 => ?_) (fun c_6 => ?_)
        · rw [fa_eq] at c_6
          try rw [ti_0] at c_6
          have h9w : ww.toNatClampNeg = 0 → smT gk ww.toNatClampNeg = 0 := fun e => (by rw [e]; rfl)
          refine lv_iconst (v := (-1)) hx hb dX10_scan_247 (by decide +kernel) ?_
          exact W.iret hx hb hr (fun t ht hW => ⟨⟨_, (ww, bb, gk, gn), rfl, (Or.inl ⟨by decide, (show txtK fb n.toNatClampNeg x1.toInt gk gn ww.toNatClampNeg from scK_end (scJ.one hJe (by omega)) (by omega)), (by (try dsimp only); omega), hkT, (by (try dsimp only); omega)⟩), by rw [ht]; exact hP.sub [0, 1, 2, 3] rfl, hD.sub [0, 1, 2, 3] (by decide +kernel) rfl⟩, hS.F ht⟩) hS.2.2 dX10_scan_248
        · rw [fa_eq] at c_6
          try rw [ti_0] at c_6
          refine lv_aload_n hx hb dX10_scan_240 rfl (lv_at hl 4 rfl) ?_
          refine va_get (D := D) (ci := 7) (v := .int n) (C := RX10) (T := TX10) (N := 7) hx hb hts in_X10_scan_X10 hown hE.1 hP 0 rfl rfl 0 (by decide +kernel) (hts (.fieldLink RX10 9 "ClauseBook$Tape" "size" "I") (List.mem_of_getElem? (i := 2) rfl)) (fun _ h9 => h9) rfl dX10_scan_241 ?_
          refine lv_goto (tgt := 248) hx hb dX10_scan_244 (by decide +kernel) ?_
          exact W.iret hx hb hr (fun t ht hW => ⟨⟨_, (ww, bb, gk, gn), rfl, (Or.inr ⟨by omega, scJ.end hJ hend (fun h9 => by omega)⟩), by rw [ht]; exact hP.sub [0, 1, 2, 3] rfl, hD.sub [0, 1, 2, 3] (by decide +kernel) rfl⟩, hS.F ht⟩) hS.2.2 dX10_scan_248
    · rw [fa_le] at c_4
      refine lv_iload_n hx hb dX10_scan_30 rfl (lv_at hl 1 rfl) ?_
      refine lv_iconst (v := 1) hx hb dX10_scan_31 (by decide +kernel) ?_
      refine lv_iadd hx hb dX10_scan_32 ?_
      refine lv_topi (fun z_7 ez_7 => ?_)
      refine lv_istore (lv' := [(6, .int z_7), (5, .int tu), (2, .int at9), (3, .int aw), (4, .int na), (0, .ref h0), (1, .int x1)]) hx hb dX10_scan_33 hl (by decide +kernel) rfl (fun ls hl => ?_)
      have hzz_7 : z_7.toInt = at9.toInt + 1 := by rw [ez_7]; exact inc1 (n := 1000) (by omega) (by decide +kernel)
      refine lv_aload_n hx hb dX10_scan_35 rfl (lv_at hl 5 rfl) ?_
      refine va_get (D := D) (ci := 7) (v := .ref yb) (C := RX10) (T := TX10) (N := 7) hx hb hts in_X10_scan_X10 hown hE.1 hP 0 rfl rfl 1 (by decide +kernel) (hts (.fieldLink RX10 15 "ClauseBook$Tape" "bytes" "[I") (List.mem_of_getElem? (i := 3) rfl)) (fun _ h9 => h9) rfl dX10_scan_36 ?_
      refine lv_iload_n hx hb dX10_scan_39 rfl (lv_at hl 2 rfl) ?_
      refine va_iald hx hb hE.1 hP 1 0 rfl rfl (by rw [vp_in_iff]; omega) dX10_scan_40 ?_
      refine lv_topi (fun z_8 ez_8 => ?_)
      refine lv_bipush (v := 32) hx hb dX10_scan_41 (by decide +kernel) ?_
      refine lv_icmp_ne (tgt := 52) hx hb dX10_scan_43 (by decide +kernel) (fun c_9 => ?_) (fun c_9 => ?_)
      · rw [fa_eq] at c_9
        try rw [ti_32] at c_9
        have hnb := nb_of ez_8 (by omega)
        have hat : at9.toNatClampNeg < n.toNatClampNeg := by have t1 := tn (x := at9) (by omega); have t2 := tn (x := n) (by omega); omega
        refine lv_iload hx hb dX10_scan_52 (lv_at hl 4 rfl) ?_
        refine lv_if_eq (tgt := 124) hx hb dX10_scan_54 (by decide +kernel) (fun c_10 => ?_) (fun c_10 => ?_)
        · rw [fa_eq] at c_10
          try rw [ti_0] at c_10
          have hJ1 := scJ.one hJ (by omega)
          refine lv_aload_n hx hb dX10_scan_124 rfl (lv_at hl 5 rfl) ?_
          refine lv_iload_n hx hb dX10_scan_125 rfl (lv_at hl 2 rfl) ?_
          refine vp_callSi (W.runV (As := [.int at9]) (rest := []) ⟨hx, hb, hml, hown, hts⟩ (c_X10_wordEnd l D T h0 [.int n, .ref yb, .ref ki, .ref nu, .int ww, .int nx, .int bb] yb fb at9 n rfl rfl (by omega) (by omega)) (cwV 1 hts gX10_scan_X10_wordEnd rfl rfl rfl hv_X10_wordEnd ⟨Nat.le_of_ble_eq_true rfl, Nat.le_of_ble_eq_true rfl⟩) (pR_V (q := (RX10, TX10, 7)) (ci := 7) (q0 := 0) hP hE rfl rfl [0, 1] rfl) rfl rfl hl.1 rfl (lv_room (Nat.le_of_ble_eq_true rfl)) dX10_scan_126 ⟨Nat.le_of_ble_eq_true rfl, Nat.le_of_ble_eq_true rfl⟩) (fun r_11 hr_11 => ?_)
          have hle := hr_11.1
          have hlr := hr_11.2
          refine lv_istore (lv' := [(6, .int r_11), (5, .int tu), (2, .int at9), (3, .int aw), (4, .int na), (0, .ref h0), (1, .int x1)]) hx hb dX10_scan_129 hl (by decide +kernel) rfl (fun ls hl => ?_)
          refine lv_aload_n hx hb dX10_scan_131 rfl (lv_at hl 5 rfl) ?_
          refine lv_iload_n hx hb dX10_scan_132 rfl (lv_at hl 2 rfl) ?_
          refine lv_iload hx hb dX10_scan_133 (lv_at hl 0 rfl) ?_
          refine vp_callSi (W.runV (As := [.int at9, .int r_11]) (rest := []) ⟨hx, hb, hml, hown, hts⟩ (c_X10_kindAt l D T ad sa av ta h0 [.int n, .ref yb, .ref ki, .ref nu, .int ww, .int nx, .int bb] yb fb at9 r_11 rfl (by omega)) (cwV 2 hts gX10_scan_X10_kindAt rfl rfl rfl hv_X10_kindAt ⟨Nat.le_of_ble_eq_true rfl, Nat.le_of_ble_eq_true rfl⟩) (pRk_V (q := (RX10, TX10, 7)) (ci := 7) (q0 := 0) hP hE hV hS rfl rfl [0, 1] rfl) rfl rfl hl.1 rfl (lv_room (Nat.le_of_ble_eq_true rfl)) dX10_scan_135 ⟨Nat.le_of_ble_eq_true rfl, Nat.le_of_ble_eq_true rfl⟩) (fun r_12 hr_12 => ?_)
          refine lv_istore (lv' := [(7, .int r_12), (6, .int r_11), (5, .int tu), (2, .int at9), (3, .int aw), (4, .int na), (0, .ref h0), (1, .int x1)]) hx hb dX10_scan_138 hl (by decide +kernel) rfl (fun ls hl => ?_)
          refine lv_iload_n hx hb dX10_scan_140 rfl (lv_at hl 4 rfl) ?_
          refine lv_if_eq (tgt := 150) hx hb dX10_scan_141 (by decide +kernel) (fun c_13 => ?_) (fun c_13 => ?_)
          · rw [fa_eq] at c_13
            try rw [ti_0] at c_13
            refine lv_iload_n hx hb dX10_scan_150 rfl (lv_at hl 3 rfl) ?_
            exact W.iret hx hb hr (fun t ht hW => ⟨⟨_, (ww, bb, gk, gn), rfl, (Or.inr ⟨by omega, (by
                  by_cases hz0 : smT gk ww.toNatClampNeg = -1
                  · exact scF_more hJ1 hat hnb hz0
                  · exact scF_word hJ1 (by omega) (fun _ => hnb) hle (by omega) (Or.inl (by rcases hr_12 with h9 | h9 <;> first | exact h9.2 | (exfalso; have h8 := h9.1; omega))))⟩), by rw [ht]; exact hP.sub [0, 1, 2, 3] rfl, hD.sub [0, 1, 2, 3] (by decide +kernel) rfl⟩, hS.F ht⟩) hS.2.2 dX10_scan_151
          · rw [fa_eq] at c_13
            try rw [ti_0] at c_13
            refine lv_iload hx hb dX10_scan_144 (lv_at hl 0 rfl) ?_
            refine lv_iconst (v := (-1)) hx hb dX10_scan_146 (by decide +kernel) ?_
            refine lv_icmp_ne (tgt := 152) hx hb dX10_scan_147 (by decide +kernel) (fun c_14 => ?_) (fun c_14 => ?_)
            · rw [fa_eq] at c_14
              try rw [ti_n1] at c_14
              obtain ⟨hkk, hwK⟩ := hr_12.resolve_left (fun h9 => by have h8 := h9.1; omega)
              have hge : at9.toInt + 3 ≤ r_11.toInt := by
                have t1 := tn (x := at9) (by omega)
                have t2 := tn (x := r_11) (by omega)
                have t3 := hwK.2.1
                have t4 : 3 ≤ ksL.getD r_12.toNatClampNeg 0 ∧ ksL.getD r_12.toNatClampNeg 0 ≤ 7 := ks_long ⟨r_12.toNatClampNeg, hwK.1⟩
                omega
              refine va_getsN (v := .ref ta) hx hb hV.1.2.1 hS hown (va_Nw.use rfl (hE.2.2.1 (RX10, 34) (List.mem_of_getElem? (i := 2) rfl))) (fun _ h9 => h9) dX10_scan_152 ?_
              refine lv_iload hx hb dX10_scan_155 (lv_at hl 0 rfl) ?_
              have hnm := nmT_in (r_12.toNatClampNeg)
              refine vb_tq (v := .ref (ad (r_12.toNatClampNeg))) hx hb hV.1.2.2 hS (by rw [vp_in_iff]; omega) rfl dX10_scan_157 ?_
              refine lv_astore (lv' := [(8, .ref (ad (r_12.toNatClampNeg))), (7, .int r_12), (6, .int r_11), (5, .int tu), (2, .int at9), (3, .int aw), (4, .int na), (0, .ref h0), (1, .int x1)]) hx hb dX10_scan_158 hl (by decide +kernel) rfl (fun ls hl => ?_)
              refine lv_iload_n hx hb dX10_scan_160 rfl (lv_at hl 5 rfl) ?_
              refine lv_aload hx hb dX10_scan_161 (lv_at hl 0 rfl) ?_
              refine va_getE (i := (r_12.toNatClampNeg)) hx hb hV.1.1 (in13c hkk) hS hown (q := kdQ "names" [0, 0, 1, 1, 1, 2, 2, 2, 1, 2, 1, 1, 2]) (List.mem_of_getElem? (i := 0) rfl) (hts (.fieldLink RX10 61 "ClauseBook$Kind" "names" "I") (List.mem_of_getElem? (i := 9) rfl)) (fun _ h9 => h9) dX10_scan_163 ?_
              refine W.eq (g2 := F0 m 166 ls [.int (nmT (r_12.toNatClampNeg)), .int aw]) rfl ?_
              refine lv_iconst (v := 1) hx hb dX10_scan_166 (by decide +kernel) ?_
              refine lv_isub hx hb dX10_scan_167 ?_
              refine lv_iadd hx hb dX10_scan_168 ?_
              refine lv_topi (fun z_15 ez_15 => ?_)
              have hzz_15 : z_15.toInt = aw.toInt + (nmT (r_12.toNatClampNeg)).toInt - 1 := by
                have h1 := dec1 (i := nmT (r_12.toNatClampNeg)) (by omega)
                rw [ez_15, fb_addI (by omega) (by omega)]
                omega
              refine lv_istore_n (lv' := [(3, .int z_15), (8, .ref (ad (r_12.toNatClampNeg))), (7, .int r_12), (6, .int r_11), (5, .int tu), (2, .int at9), (4, .int na), (0, .ref h0), (1, .int x1)]) hx hb dX10_scan_169 rfl hl (by decide +kernel) rfl (fun ls hl => ?_)
              refine lv_aload_n hx hb dX10_scan_170 rfl (lv_at hl 7 rfl) ?_
              refine va_get (D := D) (ci := 7) (v := .int ww) (C := RX10) (T := TX10) (N := 7) hx hb hts in_X10_scan_X10 hown hE.1 hP 0 rfl rfl 4 (by decide +kernel) (hts (.fieldLink RX10 25 "ClauseBook$Tape" "words" "I") (List.mem_of_getElem? (i := 1) rfl)) (fun _ h9 => h9) rfl dX10_scan_171 ?_
              refine lv_iconst (v := 1) hx hb dX10_scan_174 (by decide +kernel) ?_
              refine lv_iadd hx hb dX10_scan_175 ?_
              refine lv_iload_n hx hb dX10_scan_176 rfl (lv_at hl 0 rfl) ?_
              refine lv_iadd hx hb dX10_scan_177 ?_
              have hi8 := inc1 (i := ww) (n := 1000) (by omega) (by decide +kernel)
              have hs8 : ((ww + 1) + z_15).toInt = ww.toInt + 1 + z_15.toInt := by rw [fb_addI (by omega) (by omega)]; omega
              refine lv_iload_n hx hb dX10_scan_178 rfl (lv_at hl 8 rfl) ?_
              refine lv_icmp_le (tgt := 184) hx hb dX10_scan_179 (by decide +kernel) (fun c_16 => ?_) (fun c_16 => ?_)
              · rw [fa_le] at c_16
                refine lv_aload_n hx hb dX10_scan_184 rfl (lv_at hl 7 rfl) ?_
                refine va_get (D := D) (ci := 7) (v := .ref ki) (C := RX10) (T := TX10) (N := 7) hx hb hts in_X10_scan_X10 hown hE.1 hP 0 rfl rfl 2 (by decide +kernel) (hts (.fieldLink RX10 19 "ClauseBook$Tape" "kinds" "[I") (List.mem_of_getElem? (i := 4) rfl)) (fun _ h9 => h9) rfl dX10_scan_185 ?_
                refine lv_aload_n hx hb dX10_scan_188 rfl (lv_at hl 7 rfl) ?_
                refine va_get (D := D) (ci := 7) (v := .int ww) (C := RX10) (T := TX10) (N := 7) hx hb hts in_X10_scan_X10 hown hE.1 hP 0 rfl rfl 4 (by decide +kernel) (hts (.fieldLink RX10 25 "ClauseBook$Tape" "words" "I") (List.mem_of_getElem? (i := 1) rfl)) (fun _ h9 => h9) rfl dX10_scan_189 ?_
                refine lv_iload hx hb dX10_scan_192 (lv_at hl 2 rfl) ?_
                refine va_iast hx hb hE.1 hP hD hS 2 0 rfl rfl (by rw [vp_in_iff]; omega) dX10_scan_194 (fun H locs hP hD hS => ?_)
                obtain ⟨hP, hD⟩ := wPD [(h0, .inr (7, [.int n, .ref yb, .ref ki, .ref nu, .int ww, .int nx, .int bb])), (yb, .inl (T 0, 120, .inl fb)), (ki, .inl (T 0, 24, .inl (upd gk (ww.toNatClampNeg) r_12))), (nu, .inl (T 0, 24, .inl gn))] hP hD rfl
                refine lv_aload_n hx hb dX10_scan_195 rfl (lv_at hl 7 rfl) ?_
                refine va_get (D := D) (ci := 7) (v := .ref nu) (C := RX10) (T := TX10) (N := 7) hx hb hts in_X10_scan_X10 hown hE.1 hP 0 rfl rfl 3 (by decide +kernel) (hts (.fieldLink RX10 22 "ClauseBook$Tape" "numbers" "[I") (List.mem_of_getElem? (i := 8) rfl)) (fun _ h9 => h9) rfl dX10_scan_196 ?_
                refine lv_aload_n hx hb dX10_scan_199 rfl (lv_at hl 7 rfl) ?_
                refine va_get (D := D) (ci := 7) (v := .int ww) (C := RX10) (T := TX10) (N := 7) hx hb hts in_X10_scan_X10 hown hE.1 hP 0 rfl rfl 4 (by decide +kernel) (hts (.fieldLink RX10 25 "ClauseBook$Tape" "words" "I") (List.mem_of_getElem? (i := 1) rfl)) (fun _ h9 => h9) rfl dX10_scan_200 ?_
                refine lv_iconst (v := 0) hx hb dX10_scan_203 (by decide +kernel) ?_
                refine va_iast hx hb hE.1 hP hD hS 3 0 rfl rfl (by rw [vp_in_iff]; omega) dX10_scan_204 (fun H locs hP hD hS => ?_)
                obtain ⟨hP, hD⟩ := wPD [(h0, .inr (7, [.int n, .ref yb, .ref ki, .ref nu, .int ww, .int nx, .int bb])), (yb, .inl (T 0, 120, .inl fb)), (ki, .inl (T 0, 24, .inl (upd gk (ww.toNatClampNeg) r_12))), (nu, .inl (T 0, 24, .inl (upd gn (ww.toNatClampNeg) 0)))] hP hD rfl
                refine lv_aload_n hx hb dX10_scan_205 rfl (lv_at hl 7 rfl) ?_
                refine lv_dup hx hb dX10_scan_206 rfl ?_
                refine va_get (D := D) (ci := 7) (v := .int ww) (C := RX10) (T := TX10) (N := 7) hx hb hts in_X10_scan_X10 hown hE.1 hP 0 rfl rfl 4 (by decide +kernel) (hts (.fieldLink RX10 25 "ClauseBook$Tape" "words" "I") (List.mem_of_getElem? (i := 1) rfl)) (fun _ h9 => h9) rfl dX10_scan_207 ?_
                refine lv_iconst (v := 1) hx hb dX10_scan_210 (by decide +kernel) ?_
                refine lv_iadd hx hb dX10_scan_211 ?_
                refine lv_topi (fun z_17 ez_17 => ?_)
                refine va_put (D := D) (ci := 7) (v := .int z_17) (ty := .int) (C := RX10) (T := TX10) (N := 7) hx hb hts in_X10_scan_X10 tyX10 tyX10_ok nmX10 hown hE.1 hP hD hS 0 rfl rfl 4 (by decide +kernel) (hts (.fieldLink RX10 25 "ClauseBook$Tape" "words" "I") (List.mem_of_getElem? (i := 1) rfl)) (fun _ h9 => h9) rfl (by decide +kernel) rfl rfl (Nat.le_of_ble_eq_true rfl) dX10_scan_212 (fun H locs hP hD hS => ?_)
                obtain ⟨hP, hD⟩ := wPD [(h0, .inr (7, [.int n, .ref yb, .ref ki, .ref nu, .int z_17, .int nx, .int bb])), (yb, .inl (T 0, 120, .inl fb)), (ki, .inl (T 0, 24, .inl (upd gk (ww.toNatClampNeg) r_12))), (nu, .inl (T 0, 24, .inl (upd gn (ww.toNatClampNeg) 0)))] hP hD rfl
                have hzw : z_17.toInt = ww.toInt + 1 := by rw [ez_17]; exact hi8
                have hup := okT_up hkT hkk (by omega)
                have htw := tn1 hw.1 hzw
                refine lv_aload hx hb dX10_scan_215 (lv_at hl 1 rfl) ?_
                refine vp_callSi (W.runV (As := []) (rest := []) ⟨hx, hb, hml, hown, hts⟩ (c_X7_numbered l D T ad sa av ta (r_12.toNatClampNeg) (in13c hkk)) (cwV 0 hts gX10_scan_X7_numbered rfl rfl rfl hv_X7_numbered ⟨Nat.le_of_ble_eq_true rfl, Nat.le_of_ble_eq_true rfl⟩) (pRk_VE (i := (r_12.toNatClampNeg)) (in13c hkk) hP hE hV hS [] rfl) rfl rfl hl.1 rfl (lv_room (Nat.le_of_ble_eq_true rfl)) dX10_scan_217 ⟨Nat.le_of_ble_eq_true rfl, Nat.le_of_ble_eq_true rfl⟩) (fun r_18 hr_18 => ?_)
                rcases hr_18 with ⟨rfl, hnn⟩ | ⟨rfl, hnn⟩
                · have h9t := ti_0
                  refine lv_istore (lv' := [(4, .int 0), (3, .int z_15), (8, .ref (ad (r_12.toNatClampNeg))), (7, .int r_12), (6, .int r_11), (5, .int tu), (2, .int at9), (0, .ref h0), (1, .int x1)]) hx hb dX10_scan_220 hl (by decide +kernel) rfl (fun ls hl => ?_)
                  refine lv_iload hx hb dX10_scan_222 (lv_at hl 4 rfl) ?_
                  refine lv_istore_n (lv' := [(2, .int r_11), (4, .int 0), (3, .int z_15), (8, .ref (ad (r_12.toNatClampNeg))), (7, .int r_12), (6, .int r_11), (5, .int tu), (0, .ref h0), (1, .int x1)]) hx hb dX10_scan_224 rfl hl (by decide +kernel) rfl (fun ls hl => ?_)
                  obtain ⟨z_19, ez_19⟩ : ∃ y : Int32, y = tu + 1 := ⟨_, rfl⟩
                  refine lv_iinc (v := z_19) (lv' := [(5, .int z_19), (2, .int r_11), (4, .int 0), (3, .int z_15), (8, .ref (ad (r_12.toNatClampNeg))), (7, .int r_12), (6, .int r_11), (0, .ref h0), (1, .int x1)]) hx hb dX10_scan_225 hl (k := 6) rfl (by rw [ez_19]; rfl) (by decide +kernel) rfl (fun ls hl => ?_)
                  refine lv_goto (tgt := 15) hx hb dX10_scan_228 (by decide +kernel) ?_
                  have hi9 : z_19.toInt = tu.toInt + 1 := by rw [ez_19]; exact inc1 (n := 1000) (by omega) (by decide +kernel)
                  exact ih (z_19, r_11, z_15, 0, z_17, bb, (upd gk (ww.toNatClampNeg) r_12), (upd gn (ww.toNatClampNeg) 0)) ls _ _ ⟨lv_sub hl [0, 1, 3, 2, 7, 8] rfl, hP.sub [0, 1, 2, 3] rfl, hD.sub [0, 1, 2, 3] (by decide +kernel) rfl, hS, ⟨(by (try dsimp only); have h0t := ti_0; omega), (by (try dsimp only); rw [htw, hup.2]; omega), (by (try dsimp only); rw [htw]; exact hup.1), (by (try dsimp only); rw [htw]; exact Or.inl ⟨by decide, scJ1_word hJ1 hat hnb hle hkk hwK (by omega) (by omega) hnn⟩)⟩⟩ (by (try dsimp only); omega)
                · have h9t := ti_1
                  refine lv_istore (lv' := [(4, .int 1), (3, .int z_15), (8, .ref (ad (r_12.toNatClampNeg))), (7, .int r_12), (6, .int r_11), (5, .int tu), (2, .int at9), (0, .ref h0), (1, .int x1)]) hx hb dX10_scan_220 hl (by decide +kernel) rfl (fun ls hl => ?_)
                  refine lv_iload hx hb dX10_scan_222 (lv_at hl 4 rfl) ?_
                  refine lv_istore_n (lv' := [(2, .int r_11), (4, .int 1), (3, .int z_15), (8, .ref (ad (r_12.toNatClampNeg))), (7, .int r_12), (6, .int r_11), (5, .int tu), (0, .ref h0), (1, .int x1)]) hx hb dX10_scan_224 rfl hl (by decide +kernel) rfl (fun ls hl => ?_)
                  obtain ⟨z_20, ez_20⟩ : ∃ y : Int32, y = tu + 1 := ⟨_, rfl⟩
                  refine lv_iinc (v := z_20) (lv' := [(5, .int z_20), (2, .int r_11), (4, .int 1), (3, .int z_15), (8, .ref (ad (r_12.toNatClampNeg))), (7, .int r_12), (6, .int r_11), (0, .ref h0), (1, .int x1)]) hx hb dX10_scan_225 hl (k := 6) rfl (by rw [ez_20]; rfl) (by decide +kernel) rfl (fun ls hl => ?_)
                  refine lv_goto (tgt := 15) hx hb dX10_scan_228 (by decide +kernel) ?_
                  have hi9 : z_20.toInt = tu.toInt + 1 := by rw [ez_20]; exact inc1 (n := 1000) (by omega) (by decide +kernel)
                  exact ih (z_20, r_11, z_15, 1, z_17, bb, (upd gk (ww.toNatClampNeg) r_12), (upd gn (ww.toNatClampNeg) 0)) ls _ _ ⟨lv_sub hl [0, 1, 3, 2, 7, 8] rfl, hP.sub [0, 1, 2, 3] rfl, hD.sub [0, 1, 2, 3] (by decide +kernel) rfl, hS, ⟨(by (try dsimp only); have h0t := ti_0; omega), (by (try dsimp only); rw [htw, hup.2]; omega), (by (try dsimp only); rw [htw]; exact hup.1), (by (try dsimp only); rw [htw]; exact Or.inr ⟨by decide, scJ2_word hJ1 hat hnb hle hkk hwK (by omega) (by omega) hnn⟩)⟩⟩ (by (try dsimp only); omega)
              · rw [fa_le] at c_16
                refine lv_iload_n hx hb dX10_scan_182 rfl (lv_at hl 5 rfl) ?_
                exact W.iret hx hb hr (fun t ht hW => ⟨⟨_, (ww, bb, gk, gn), rfl, (Or.inr ⟨by omega, scF_word hJ1 (by omega) (fun _ => hnb) hle (by omega) (Or.inr ⟨_, hwK, (by omega)⟩)⟩), by rw [ht]; exact hP.sub [0, 1, 2, 3] rfl, hD.sub [0, 1, 2, 3] (by decide +kernel) rfl⟩, hS.F ht⟩) hS.2.2 dX10_scan_183
            · rw [fa_eq] at c_14
              try rw [ti_n1] at c_14
              refine lv_iload_n hx hb dX10_scan_150 rfl (lv_at hl 3 rfl) ?_
              exact W.iret hx hb hr (fun t ht hW => ⟨⟨_, (ww, bb, gk, gn), rfl, (Or.inr ⟨by omega, (by
                  by_cases hz0 : smT gk ww.toNatClampNeg = -1
                  · exact scF_more hJ1 hat hnb hz0
                  · exact scF_word hJ1 (by omega) (fun _ => hnb) hle (by omega) (Or.inl (by rcases hr_12 with h9 | h9 <;> first | exact h9.2 | (exfalso; have h8 := h9.1; omega))))⟩), by rw [ht]; exact hP.sub [0, 1, 2, 3] rfl, hD.sub [0, 1, 2, 3] (by decide +kernel) rfl⟩, hS.F ht⟩) hS.2.2 dX10_scan_151
        · rw [fa_eq] at c_10
          try rw [ti_0] at c_10
          have hJ2 := scJ.two hJ (by omega)
          have hp2 := scJ2.pos hJ2
          refine va_getsN (v := .ref ta) hx hb hV.1.2.1 hS hown (va_Nw.use rfl (hE.2.2.1 (RX10, 34) (List.mem_of_getElem? (i := 2) rfl))) (fun _ h9 => h9) dX10_scan_57 ?_
          refine lv_aload_n hx hb dX10_scan_60 rfl (lv_at hl 5 rfl) ?_
          refine va_get (D := D) (ci := 7) (v := .ref ki) (C := RX10) (T := TX10) (N := 7) hx hb hts in_X10_scan_X10 hown hE.1 hP 0 rfl rfl 2 (by decide +kernel) (hts (.fieldLink RX10 19 "ClauseBook$Tape" "kinds" "[I") (List.mem_of_getElem? (i := 4) rfl)) (fun _ h9 => h9) rfl dX10_scan_61 ?_
          refine lv_aload_n hx hb dX10_scan_64 rfl (lv_at hl 5 rfl) ?_
          refine va_get (D := D) (ci := 7) (v := .int ww) (C := RX10) (T := TX10) (N := 7) hx hb hts in_X10_scan_X10 hown hE.1 hP 0 rfl rfl 4 (by decide +kernel) (hts (.fieldLink RX10 25 "ClauseBook$Tape" "words" "I") (List.mem_of_getElem? (i := 1) rfl)) (fun _ h9 => h9) rfl dX10_scan_65 ?_
          refine lv_iconst (v := 1) hx hb dX10_scan_68 (by decide +kernel) ?_
          refine lv_isub hx hb dX10_scan_69 ?_
          have hd9 := dec1 (i := ww) (by omega)
          have hdc : (ww - 1).toNatClampNeg = ww.toNatClampNeg - 1 := by have t1 := tn (x := ww - 1) (by omega); omega
          refine va_iald hx hb hE.1 hP 2 0 rfl rfl (by rw [vp_in_iff]; omega) dX10_scan_70 ?_
          refine lv_topi (fun z_21 ez_21 => ?_)
          have hkz_21 : 0 ≤ z_21.toInt ∧ z_21.toInt ≤ 12 := by rw [ez_21]; exact (hkT _ (by omega)).1
          have hkz : ∀ m9 : Nat, ww.toNatClampNeg = m9 + 1 → gk m9 = z_21 := fun m9 h9 => by rw [ez_21, hdc]; congr 1; omega
          refine vb_tq (v := .ref (ad (z_21.toNatClampNeg))) hx hb hV.1.2.2 hS (by rw [vp_in_iff]; omega) rfl dX10_scan_71 ?_
          refine lv_astore (lv' := [(7, .ref (ad (z_21.toNatClampNeg))), (6, .int z_7), (5, .int tu), (2, .int at9), (3, .int aw), (4, .int na), (0, .ref h0), (1, .int x1)]) hx hb dX10_scan_72 hl (by decide +kernel) rfl (fun ls hl => ?_)
          refine lv_aload_n hx hb dX10_scan_74 rfl (lv_at hl 6 rfl) ?_
          refine lv_iload_n hx hb dX10_scan_75 rfl (lv_at hl 3 rfl) ?_
          have hFc := va_free (wc := [(h0, .inr (7, [.int n, .ref yb, .ref ki, .ref nu, .int ww, .int nx, .int bb])), (yb, .inl (T 0, 120, .inl fb))]) hD hS hA [0, 1] rfl
          refine va_calli (va_runV (As := [.int at9]) (rest := []) ⟨hx, hb, hml, hown, hts⟩ (c_X10_numberEnd l D T _ h0 yb ki nu n ww nx bb fb at9 (by omega) (by omega)) (cwV 1 hts gX10_scan_X10_numberEnd rfl rfl rfl hv_X10_numberEnd ⟨Nat.le_of_ble_eq_true rfl, Nat.le_of_ble_eq_true rfl⟩) (pW_V (q := (RX10, TX10, 7)) (ci := 7) (q0 := 0) hP hE hD rfl rfl [0, 1] (by decide +kernel) rfl rfl) rfl rfl hl.1 rfl (lv_room (Nat.le_of_ble_eq_true rfl)) dX10_scan_76 ⟨Nat.le_of_ble_eq_true rfl, Nat.le_of_ble_eq_true rfl⟩) hS (fun q _ h => hFc q h) hFc (fun r_22 u_23 t H1 locs ht hvm hr_22 hB hz1 hk1 hS => ?_)
          have hqr_22 : at9.toInt ≤ r_22.toInt ∧ r_22.toInt ≤ (n).toInt := hr_22.1
          have hnE : numE fb (n.toNatClampNeg) (at9.toNatClampNeg) (r_22.toNatClampNeg) u_23 := hr_22.2
          obtain ⟨hP1, hD1⟩ := hB
          rw [ht] at hP1
          obtain ⟨hP, hD⟩ := va_repl [(h0, .inr (7, [.int n, .ref yb, .ref ki, .ref nu, .int ww, .int nx, .int u_23])), (yb, .inl (T 0, 120, .inl fb)), (ki, .inl (T 0, 24, .inl gk)), (nu, .inl (T 0, 24, .inl gn))] hP hD [0, 1] [0, 1] rfl (by decide +kernel) rfl rfl rfl hk1 hP1
          clear hP1 hD1 hFc
          generalize H1 = H at hP hS ⊢
          refine lv_istore (lv' := [(6, .int r_22), (7, .ref (ad (z_21.toNatClampNeg))), (5, .int tu), (2, .int at9), (3, .int aw), (4, .int na), (0, .ref h0), (1, .int x1)]) hx hb dX10_scan_79 hl (by decide +kernel) rfl (fun ls hl => ?_)
          refine lv_aload_n hx hb dX10_scan_81 rfl (lv_at hl 6 rfl) ?_
          refine va_get (D := D) (ci := 7) (v := .int u_23) (C := RX10) (T := TX10) (N := 7) hx hb hts in_X10_scan_X10 hown hE.1 hP 0 rfl rfl 6 (by decide +kernel) (hts (.fieldLink RX10 31 "ClauseBook$Tape" "number" "I") (List.mem_of_getElem? (i := 5) rfl)) (fun _ h9 => h9) rfl dX10_scan_82 ?_
          refine lv_aload hx hb dX10_scan_85 (lv_at hl 1 rfl) ?_
          refine va_getE (i := (z_21.toNatClampNeg)) hx hb hV.1.1 (in13c hkz_21) hS hown (q := kdQ "least" [0, 0, 0, -9, 0, 0, 0, 0, 0, 0, 0, 0, -99]) (List.mem_of_getElem? (i := 1) rfl) (hts (.fieldLink RX10 44 "ClauseBook$Kind" "least" "I") (List.mem_of_getElem? (i := 6) rfl)) (fun _ h9 => h9) dX10_scan_87 ?_
          refine W.eq (g2 := F0 m 90 ls [.int (lsT (z_21.toNatClampNeg)), .int u_23]) rfl ?_
          refine lv_aload hx hb dX10_scan_90 (lv_at hl 1 rfl) ?_
          refine va_getE (i := (z_21.toNatClampNeg)) hx hb hV.1.1 (in13c hkz_21) hS hown (q := kdQ "most" [0, 0, 0, 9, 0, 0, 0, 0, 6, 0, 0, 0, 99]) (List.mem_of_getElem? (i := 2) rfl) (hts (.fieldLink RX10 47 "ClauseBook$Kind" "most" "I") (List.mem_of_getElem? (i := 7) rfl)) (fun _ h9 => h9) dX10_scan_92 ?_
          refine W.eq (g2 := F0 m 95 ls [.int (msT (z_21.toNatClampNeg)), .int (lsT (z_21.toNatClampNeg)), .int u_23]) rfl ?_
          refine vp_callSi (va_Run.run (va_runSN (As := [.int u_23, .int (lsT (z_21.toNatClampNeg)), .int (msT (z_21.toNatClampNeg))]) (rest := []) ⟨hx, hb, hml, hown, hts⟩ (c_X12_within l D T u_23 (lsT (z_21.toNatClampNeg)) (msT (z_21.toNatClampNeg)) ((lsT (z_21.toNatClampNeg))).toInt ((msT (z_21.toNatClampNeg))).toInt rfl rfl) ⟨(va_cnB 3 hts gX10_scan_X12_within_n50 rfl rfl rfl (hE.2.1 (RX10, 50, yX12_within) (List.mem_of_getElem? (i := 8) rfl)) (hts (.initialized RX12) (List.mem_of_getElem? (i := 20) rfl)) hs_X12_within ⟨Nat.le_of_ble_eq_true rfl, Nat.le_of_ble_eq_true rfl⟩), (hts (.static yX12_within) (List.mem_of_getElem? (i := 19) rfl)), trivial⟩ (pR_S hP hE [] rfl) rfl rfl hl.1 rfl (lv_room (Nat.le_of_ble_eq_true rfl)) dX10_scan_95 ⟨Nat.le_of_ble_eq_true rfl, Nat.le_of_ble_eq_true rfl⟩)) (fun r_24 hr_24 => ?_)
          rcases bool_post hr_24 with ⟨c_25, rfl⟩ | ⟨c_25, rfl⟩
          · refine lv_if_ne (tgt := 103) hx hb dX10_scan_98 (by decide +kernel) (fun _ => ?_) (fun c9 => absurd c9 (by decide +kernel))
            have hnK := numE_yes (k := z_21.toNatClampNeg) hnE (by omega)
            have hlt9 : at9.toInt < r_22.toInt := by
              have t1 := tn (x := at9) (by omega)
              have t2 := tn (x := r_22) (by omega)
              have t3 := hnK.2.1
              have t4 : at9.toNatClampNeg ≤ sgS fb at9.toNatClampNeg := by unfold sgS; split <;> omega
              omega
            refine lv_aload_n hx hb dX10_scan_103 rfl (lv_at hl 6 rfl) ?_
            refine va_get (D := D) (ci := 7) (v := .ref nu) (C := RX10) (T := TX10) (N := 7) hx hb hts in_X10_scan_X10 hown hE.1 hP 0 rfl rfl 3 (by decide +kernel) (hts (.fieldLink RX10 22 "ClauseBook$Tape" "numbers" "[I") (List.mem_of_getElem? (i := 8) rfl)) (fun _ h9 => h9) rfl dX10_scan_104 ?_
            refine lv_aload_n hx hb dX10_scan_107 rfl (lv_at hl 6 rfl) ?_
            refine va_get (D := D) (ci := 7) (v := .int ww) (C := RX10) (T := TX10) (N := 7) hx hb hts in_X10_scan_X10 hown hE.1 hP 0 rfl rfl 4 (by decide +kernel) (hts (.fieldLink RX10 25 "ClauseBook$Tape" "words" "I") (List.mem_of_getElem? (i := 1) rfl)) (fun _ h9 => h9) rfl dX10_scan_108 ?_
            refine lv_iconst (v := 1) hx hb dX10_scan_111 (by decide +kernel) ?_
            refine lv_isub hx hb dX10_scan_112 ?_
            refine lv_aload_n hx hb dX10_scan_113 rfl (lv_at hl 6 rfl) ?_
            refine va_get (D := D) (ci := 7) (v := .int u_23) (C := RX10) (T := TX10) (N := 7) hx hb hts in_X10_scan_X10 hown hE.1 hP 0 rfl rfl 6 (by decide +kernel) (hts (.fieldLink RX10 31 "ClauseBook$Tape" "number" "I") (List.mem_of_getElem? (i := 5) rfl)) (fun _ h9 => h9) rfl dX10_scan_114 ?_
            refine va_iast hx hb hE.1 hP hD hS 3 0 rfl rfl (by rw [vp_in_iff]; omega) dX10_scan_117 (fun H locs hP hD hS => ?_)
            obtain ⟨hP, hD⟩ := wPD [(h0, .inr (7, [.int n, .ref yb, .ref ki, .ref nu, .int ww, .int nx, .int u_23])), (yb, .inl (T 0, 120, .inl fb)), (ki, .inl (T 0, 24, .inl gk)), (nu, .inl (T 0, 24, .inl (upd gn ((ww - 1).toNatClampNeg) u_23)))] hP hD rfl
            refine lv_iconst (v := 0) hx hb dX10_scan_118 (by decide +kernel) ?_
            refine lv_istore (lv' := [(4, .int 0), (6, .int r_22), (7, .ref (ad (z_21.toNatClampNeg))), (5, .int tu), (2, .int at9), (3, .int aw), (0, .ref h0), (1, .int x1)]) hx hb dX10_scan_119 hl (by decide +kernel) rfl (fun ls hl => ?_)
            refine lv_goto (tgt := 222) hx hb dX10_scan_121 (by decide +kernel) ?_
            refine lv_iload hx hb dX10_scan_222 (lv_at hl 1 rfl) ?_
            refine lv_istore_n (lv' := [(2, .int r_22), (4, .int 0), (6, .int r_22), (7, .ref (ad (z_21.toNatClampNeg))), (5, .int tu), (3, .int aw), (0, .ref h0), (1, .int x1)]) hx hb dX10_scan_224 rfl hl (by decide +kernel) rfl (fun ls hl => ?_)
            obtain ⟨z_26, ez_26⟩ : ∃ y : Int32, y = tu + 1 := ⟨_, rfl⟩
            refine lv_iinc (v := z_26) (lv' := [(5, .int z_26), (2, .int r_22), (4, .int 0), (6, .int r_22), (7, .ref (ad (z_21.toNatClampNeg))), (3, .int aw), (0, .ref h0), (1, .int x1)]) hx hb dX10_scan_225 hl (k := 4) rfl (by rw [ez_26]; rfl) (by decide +kernel) rfl (fun ls hl => ?_)
            refine lv_goto (tgt := 15) hx hb dX10_scan_228 (by decide +kernel) ?_
            have hi9 : z_26.toInt = tu.toInt + 1 := by rw [ez_26]; exact inc1 (n := 1000) (by omega) (by decide +kernel)
            exact ih (z_26, r_22, aw, 0, ww, u_23, gk, (upd gn ((ww - 1).toNatClampNeg) u_23)) ls _ _ ⟨lv_sub hl [0, 1, 5, 2, 6, 7] rfl, hP.sub [0, 1, 2, 3] rfl, hD.sub [0, 1, 2, 3] (by decide +kernel) rfl, hS, ⟨(by (try dsimp only); have h0t := ti_0; omega), hsm, hkT, (by (try dsimp only); rw [hdc]; exact Or.inl ⟨by decide, scJ2_num hJ2 hat hnb (fun m9 h9 => by rw [hkz m9 h9]; exact hnK)⟩)⟩⟩ (by (try dsimp only); omega)
          · refine lv_if_ne (tgt := 103) hx hb dX10_scan_98 (by decide +kernel) (fun c9 => absurd c9 (by decide +kernel)) (fun _ => ?_)
            refine lv_iload_n hx hb dX10_scan_101 rfl (lv_at hl 3 rfl) ?_
            exact W.iret hx hb hr (fun t ht hW => ⟨⟨_, (ww, u_23, gk, gn), rfl, (Or.inr ⟨by omega, scF_num hJ2 (by omega) (fun _ => hnb) (fun m9 h9 => by rw [hkz m9 h9]; exact numE_no hnE (by omega))⟩), by rw [ht]; exact hP.sub [0, 1, 2, 3] rfl, hD.sub [0, 1, 2, 3] (by decide +kernel) rfl⟩, hS.F ht⟩) hS.2.2 dX10_scan_102
      · rw [fa_eq] at c_9
        try rw [ti_32] at c_9
        refine lv_iload hx hb dX10_scan_46 (lv_at hl 0 rfl) ?_
        refine lv_istore_n (lv' := [(2, .int z_7), (6, .int z_7), (5, .int tu), (3, .int aw), (4, .int na), (0, .ref h0), (1, .int x1)]) hx hb dX10_scan_48 rfl hl (by decide +kernel) rfl (fun ls hl => ?_)
        refine lv_goto (tgt := 225) hx hb dX10_scan_49 (by decide +kernel) ?_
        obtain ⟨z_27, ez_27⟩ : ∃ y : Int32, y = tu + 1 := ⟨_, rfl⟩
        refine lv_iinc (v := z_27) (lv' := [(5, .int z_27), (2, .int z_7), (6, .int z_7), (3, .int aw), (4, .int na), (0, .ref h0), (1, .int x1)]) hx hb dX10_scan_225 hl (k := 2) rfl (by rw [ez_27]; rfl) (by decide +kernel) rfl (fun ls hl => ?_)
        refine lv_goto (tgt := 15) hx hb dX10_scan_228 (by decide +kernel) ?_
        have hi9 : z_27.toInt = tu.toInt + 1 := by rw [ez_27]; exact inc1 (n := 1000) (by omega) (by decide +kernel)
        exact ih (z_27, z_7, aw, na, ww, bb, gk, gn) ls _ _ ⟨lv_sub hl [0, 1, 3, 4, 5, 6] rfl, hP.sub [0, 1, 2, 3] rfl, hD.sub [0, 1, 2, 3] (by decide +kernel) rfl, hS, ⟨(by (try dsimp only); have h0t := ti_0; omega), hsm, hkT, (by (try dsimp only); exact scJ.bl hJ (by omega) hzz_7 ez_8 (by omega))⟩⟩ (by (try dsimp only); omega)
end
section
theorem okT_lt {f : Nat → Int32} {x W : Int32} (hx : 0 ≤ x.toInt ∧ x.toInt ≤ W.toInt) (hW : smT f W.toNatClampNeg = -1) (hs : 0 ≤ smT f x.toNatClampNeg) : x.toInt < W.toInt := by
  rcases Int.lt_or_eq_of_le hx.2 with h | h
  · exact h
  · exfalso
    rw [tneq hx.1 h.symm] at hW
    omega
/-- build, where at most d words are left -/
def cB_build (l : Launch) (D : va_G) (T : Nat → ClassId) (ad sa av : Nat → Nat) (ta : Nat) (d : Nat) : Prop := ∀ (sz : Nat) (h0 : Nat) (yb : Nat) (ki : Nat) (nu : Nat) (n : Int32) (wd : Int32) (nx : Int32) (nb : Int32) (fk : Nat → Int32) (fn : Nat → Int32) (o1 : Nat) (n0 : Int32) (c1 : Nat) (c2 : Nat) (c3 : Nat) (c4 : Nat) (c5 : Nat) (c6 : Nat) (c7 : Nat) (f1 : Nat → Int32) (f2 : Nat → Int32) (f3 : Nat → Int32) (f4 : Nat → Int32) (f5 : Nat → Int32) (f6 : Nat → Int32) (f7 : Nat → Int32) (_ : 0 ≤ n0.toInt ∧ n0.toInt ≤ 24) (_ : okC f1 f3 f4 f5) (_ : 0 ≤ nx.toInt ∧ nx.toInt < wd.toInt ∧ wd.toInt ≤ 24) (_ : okT fk wd.toNatClampNeg) (_ : smT fk wd.toNatClampNeg = -1) (_ : n0.toInt + (wd.toInt - nx.toInt) ≤ 24) (_ : ∀ j : Nat, (j : Int) < n0.toInt → mesP f1 f2 f3 f4 f5 f6 f7 j) (_ : wd.toInt - nx.toInt ≤ d), Met l yX10_build wsX10_build ({ frames := d + 5, cells := 0, slots := 0, locals := 32 * d + 150 }) (pWk [.ref h0, .ref o1] D T [(h0, .inr (7, [.int n, .ref yb, .ref ki, .ref nu, .int wd, .int nx, .int nb])), (ki, .inl (T 0, 24, .inl fk)), (nu, .inl (T 0, 24, .inl fn)), (o1, .inr (1, [.int n0, .ref c1, .ref c2, .ref c3, .ref c4, .ref c5, .ref c6, .ref c7])), (c1, .inl (T 0, 24, .inl f1)), (c2, .inl (T 0, 24, .inl f2)), (c3, .inl (T 0, 24, .inl f3)), (c4, .inl (T 0, 24, .inl f4)), (c5, .inl (T 0, 24, .inl f5)), (c6, .inl (T 0, 24, .inl f6)), (c7, .inl (T 0, 24, .inl f7))] sz ad sa av ta) (va_Qi (fun (r : Int32) (u : Nat → Nat → Int32) => (0 ≤ r.toInt ∧ r.toInt < (u 0 0).toInt) ∧ (nx.toInt < (u 8 0).toInt ∧ (u 8 0).toInt ≤ wd.toInt) ∧ smT fk (u 8 0).toNatClampNeg = smT fk nx.toNatClampNeg - 1 ∧ (u 0 0).toInt = n0.toInt + ((u 8 0).toInt - nx.toInt) ∧ ((0 ≤ (u 0 0).toInt ∧ (u 0 0).toInt ≤ 24) ∧ okC (u 1) (u 3) (u 4) (u 5)) ∧ (∀ A : clsA, rlC n0 f1 f2 f3 f4 A → ∃ (nb rb : Nat) (B : clsA), bldR fk fn nx.toNatClampNeg A nb rb B ∧ (u 8 0).toInt = nb ∧ r = nI rb ∧ rlC (u 0 0) (u 1) (u 2) (u 3) (u 4) B) ∧ (∀ j : Nat, (j : Int) < (u 0 0).toInt → mesP (u 1) (u 2) (u 3) (u 4) (u 5) (u 6) (u 7) j)) (bW D (va_A [(h0, .inr (7, [.int n, .ref yb, .ref ki, .ref nu, .int wd, .int nx, .int nb])), (ki, .inl (T 0, 24, .inl fk)), (nu, .inl (T 0, 24, .inl fn)), (o1, .inr (1, [.int n0, .ref c1, .ref c2, .ref c3, .ref c4, .ref c5, .ref c6, .ref c7])), (c1, .inl (T 0, 24, .inl f1)), (c2, .inl (T 0, 24, .inl f2)), (c3, .inl (T 0, 24, .inl f3)), (c4, .inl (T 0, 24, .inl f4)), (c5, .inl (T 0, 24, .inl f5)), (c6, .inl (T 0, 24, .inl f6)), (c7, .inl (T 0, 24, .inl f7))] sz) (fun (u : Nat → Nat → Int32) => [(h0, .inr (7, [.int n, .ref yb, .ref ki, .ref nu, .int wd, .int (u 8 0), .int nb])), (ki, .inl (T 0, 24, .inl fk)), (nu, .inl (T 0, 24, .inl fn)), (o1, .inr (1, [.int (u 0 0), .ref c1, .ref c2, .ref c3, .ref c4, .ref c5, .ref c6, .ref c7])), (c1, .inl (T 0, 24, .inl (u 1))), (c2, .inl (T 0, 24, .inl (u 2))), (c3, .inl (T 0, 24, .inl (u 3))), (c4, .inl (T 0, 24, .inl (u 4))), (c5, .inl (T 0, 24, .inl (u 5))), (c6, .inl (T 0, 24, .inl (u 6))), (c7, .inl (T 0, 24, .inl (u 7)))])) (va_A [(h0, .inr (7, [.int n, .ref yb, .ref ki, .ref nu, .int wd, .int nx, .int nb])), (ki, .inl (T 0, 24, .inl fk)), (nu, .inl (T 0, 24, .inl fn)), (o1, .inr (1, [.int n0, .ref c1, .ref c2, .ref c3, .ref c4, .ref c5, .ref c6, .ref c7])), (c1, .inl (T 0, 24, .inl f1)), (c2, .inl (T 0, 24, .inl f2)), (c3, .inl (T 0, 24, .inl f3)), (c4, .inl (T 0, 24, .inl f4)), (c5, .inl (T 0, 24, .inl f5)), (c6, .inl (T 0, 24, .inl f6)), (c7, .inl (T 0, 24, .inl f7))] sz)) 0 0 (va_A [(h0, .inr (7, [.int n, .ref yb, .ref ki, .ref nu, .int wd, .int nx, .int nb])), (ki, .inl (T 0, 24, .inl fk)), (nu, .inl (T 0, 24, .inl fn)), (o1, .inr (1, [.int n0, .ref c1, .ref c2, .ref c3, .ref c4, .ref c5, .ref c6, .ref c7])), (c1, .inl (T 0, 24, .inl f1)), (c2, .inl (T 0, 24, .inl f2)), (c3, .inl (T 0, 24, .inl f3)), (c4, .inl (T 0, 24, .inl f4)), (c5, .inl (T 0, 24, .inl f5)), (c6, .inl (T 0, 24, .inl f6)), (c7, .inl (T 0, 24, .inl f7))] sz)
theorem dX10_build_0 : decode cX10_build 0 = .ok (.aload_n 0, 1) := by decide +kernel
theorem dX10_build_1 : decode cX10_build 1 = .ok (.getfield 28, 3) := by decide +kernel
theorem dX10_build_13 : decode cX10_build 13 = .ok (.aload_n 0, 1) := by decide +kernel
theorem dX10_build_14 : decode cX10_build 14 = .ok (.getfield 28, 3) := by decide +kernel
theorem dX10_build_17 : decode cX10_build 17 = .ok (.istore_n 2, 1) := by decide +kernel
theorem dX10_build_18 : decode cX10_build 18 = .ok (.aload_n 0, 1) := by decide +kernel
theorem dX10_build_19 : decode cX10_build 19 = .ok (.dup, 1) := by decide +kernel
theorem dX10_build_20 : decode cX10_build 20 = .ok (.getfield 28, 3) := by decide +kernel
theorem dX10_build_23 : decode cX10_build 23 = .ok (.iconst 1, 1) := by decide +kernel
theorem dX10_build_24 : decode cX10_build 24 = .ok (.iadd, 1) := by decide +kernel
theorem dX10_build_25 : decode cX10_build 25 = .ok (.putfield 28, 3) := by decide +kernel
theorem dX10_build_28 : decode cX10_build 28 = .ok (.getstatic 34, 3) := by decide +kernel
theorem dX10_build_31 : decode cX10_build 31 = .ok (.aload_n 0, 1) := by decide +kernel
theorem dX10_build_32 : decode cX10_build 32 = .ok (.getfield 19, 3) := by decide +kernel
theorem dX10_build_35 : decode cX10_build 35 = .ok (.iload_n 2, 1) := by decide +kernel
theorem dX10_build_36 : decode cX10_build 36 = .ok (.iaload, 1) := by decide +kernel
theorem dX10_build_37 : decode cX10_build 37 = .ok (.aaload, 1) := by decide +kernel
theorem dX10_build_38 : decode cX10_build 38 = .ok (.getfield 61, 3) := by decide +kernel
theorem dX10_build_4 : decode cX10_build 4 = .ok (.aload_n 0, 1) := by decide +kernel
theorem dX10_build_41 : decode cX10_build 41 = .ok (.istore_n 3, 1) := by decide +kernel
theorem dX10_build_42 : decode cX10_build 42 = .ok (.iload_n 3, 1) := by decide +kernel
theorem dX10_build_43 : decode cX10_build 43 = .ok (.iconst 1, 1) := by decide +kernel
theorem dX10_build_44 : decode cX10_build 44 = .ok (.if_icmp .lt 11, 3) := by decide +kernel
theorem dX10_build_47 : decode cX10_build 47 = .ok (.aload_n 0, 1) := by decide +kernel
theorem dX10_build_48 : decode cX10_build 48 = .ok (.aload_n 1, 1) := by decide +kernel
theorem dX10_build_49 : decode cX10_build 49 = .ok (.invokevirtual 91, 3) := by decide +kernel
theorem dX10_build_5 : decode cX10_build 5 = .ok (.getfield 25, 3) := by decide +kernel
theorem dX10_build_52 : decode cX10_build 52 = .ok (.goto 4, 3) := by decide +kernel
theorem dX10_build_55 : decode cX10_build 55 = .ok (.iconst 0, 1) := by decide +kernel
theorem dX10_build_56 : decode cX10_build 56 = .ok (.istore 4, 2) := by decide +kernel
theorem dX10_build_58 : decode cX10_build 58 = .ok (.iload_n 3, 1) := by decide +kernel
theorem dX10_build_59 : decode cX10_build 59 = .ok (.iconst 2, 1) := by decide +kernel
theorem dX10_build_60 : decode cX10_build 60 = .ok (.if_icmp .ne 11, 3) := by decide +kernel
theorem dX10_build_63 : decode cX10_build 63 = .ok (.aload_n 0, 1) := by decide +kernel
theorem dX10_build_64 : decode cX10_build 64 = .ok (.aload_n 1, 1) := by decide +kernel
theorem dX10_build_65 : decode cX10_build 65 = .ok (.invokevirtual 91, 3) := by decide +kernel
theorem dX10_build_68 : decode cX10_build 68 = .ok (.goto 4, 3) := by decide +kernel
theorem dX10_build_71 : decode cX10_build 71 = .ok (.iconst 0, 1) := by decide +kernel
theorem dX10_build_72 : decode cX10_build 72 = .ok (.istore 5, 2) := by decide +kernel
theorem dX10_build_74 : decode cX10_build 74 = .ok (.aload_n 1, 1) := by decide +kernel
theorem dX10_build_75 : decode cX10_build 75 = .ok (.aload_n 0, 1) := by decide +kernel
theorem dX10_build_76 : decode cX10_build 76 = .ok (.getfield 19, 3) := by decide +kernel
theorem dX10_build_79 : decode cX10_build 79 = .ok (.iload_n 2, 1) := by decide +kernel
theorem dX10_build_8 : decode cX10_build 8 = .ok (.if_icmp .lt 5, 3) := by decide +kernel
theorem dX10_build_80 : decode cX10_build 80 = .ok (.iaload, 1) := by decide +kernel
theorem dX10_build_81 : decode cX10_build 81 = .ok (.aload_n 0, 1) := by decide +kernel
theorem dX10_build_82 : decode cX10_build 82 = .ok (.getfield 22, 3) := by decide +kernel
theorem dX10_build_85 : decode cX10_build 85 = .ok (.iload_n 2, 1) := by decide +kernel
theorem dX10_build_86 : decode cX10_build 86 = .ok (.iaload, 1) := by decide +kernel
theorem dX10_build_87 : decode cX10_build 87 = .ok (.iload 4, 2) := by decide +kernel
theorem dX10_build_89 : decode cX10_build 89 = .ok (.iload 5, 2) := by decide +kernel
theorem dX10_build_91 : decode cX10_build 91 = .ok (.invokevirtual 95, 3) := by decide +kernel
theorem dX10_build_94 : decode cX10_build 94 = .ok (.ireturn, 1) := by decide +kernel
set_option maxRecDepth 20000 in
theorem ggX10_build_X10_build : GoodIn wsX10_build wsX10_build := goodIn_r _ [0, 1, 2, 3, 4, 5, 6, 7, 8, 9, 10, 11, 12, 13, 14, 15, 16, 17, 18, 19, 20, 21, 22, 23, 24, 25, 26, 27, 28, 29, 30, 31, 32, 33, 34, 35, 36, 37, 38, 39, 40, 41, 42, 43, 44, 45, 46, 47, 48, 49, 50, 51, 52, 53, 54, 55, 56, 57, 58] rfl (by decide +kernel)
set_option maxRecDepth 20000 in
theorem ggX10_build_X2_append : GoodIn wsX10_build wsX2_append := goodIn_r _ [14, 15, 16, 17, 18, 19, 20, 13, 21, 22, 23, 24, 25, 26, 27, 28, 29, 30, 31, 32, 33, 34, 35, 36, 37, 38, 39, 40, 41, 42, 43, 51, 52, 53, 54, 55, 56, 57, 58] rfl (by decide +kernel)
set_option maxRecDepth 20000 in
theorem gX10_build_X10_build : GoodIn wsX10_build (wsV RX10 91 RX10 yX10_build wsX10_build) := goodIn_app (goodIn_r _ [6, 7, 8, 9] rfl (by decide +kernel)) ggX10_build_X10_build
set_option maxRecDepth 20000 in
theorem gX10_build_X2_append : GoodIn wsX10_build (wsV RX10 95 RX2 yX2_append wsX2_append) := goodIn_app (goodIn_r _ [10, 11, 12, 13] rfl (by decide +kernel)) ggX10_build_X2_append
theorem hv_X10_build : yX10_build.cls = RX10 ∧ yX10_build.cls ≠ "java/lang/invoke/MethodHandle" ∧ yX10_build.cls ≠ "java/lang/invoke/VarHandle" ∧ (parseMethodDescriptor yX10_build.desc).map (fun d => d.parameters.length) = some 1 := by decide +kernel
set_option maxRecDepth 20000 in
theorem in_X10_build_X10 : ∀ w ∈ wsX100, w ∈ wsX10_build := sub_r [44, 45, 46, 47, 48, 49, 50] rfl
set_option maxHeartbeats 4000000 in
set_option maxRecDepth 100000 in
theorem s_X10_build (l : Launch) (D : va_G) (T : Nat → ClassId) (ad sa av : Nat → Nat) (ta : Nat) (sz : Nat) (h0 : Nat) (yb : Nat) (ki : Nat) (nu : Nat) (n : Int32) (wd : Int32) (nx : Int32) (nb : Int32) (fk : Nat → Int32) (fn : Nat → Int32) (o1 : Nat) (n0 : Int32) (c1 : Nat) (c2 : Nat) (c3 : Nat) (c4 : Nat) (c5 : Nat) (c6 : Nat) (c7 : Nat) (f1 : Nat → Int32) (f2 : Nat → Int32) (f3 : Nat → Int32) (f4 : Nat → Int32) (f5 : Nat → Int32) (f6 : Nat → Int32) (f7 : Nat → Int32) (d : Nat) (hn0 : 0 ≤ n0.toInt ∧ n0.toInt ≤ 24) (hok : okC f1 f3 f4 f5) (hnx : 0 ≤ nx.toInt ∧ nx.toInt < wd.toInt ∧ wd.toInt ≤ 24) (hkT : okT fk wd.toNatClampNeg) (hsm : smT fk wd.toNatClampNeg = -1) (hro : n0.toInt + (wd.toInt - nx.toInt) ≤ 24) (hme : ∀ j : Nat, (j : Int) < n0.toInt → mesP f1 f2 f3 f4 f5 f6 f7 j) (hdep : wd.toInt - nx.toInt ≤ d + 1) (hrec : cB_build l D T ad sa av ta d) : Met l yX10_build wsX10_build ({ frames := (d + 1) + 5, cells := 0, slots := 0, locals := 32 * (d + 1) + 150 }) (pWk [.ref h0, .ref o1] D T [(h0, .inr (7, [.int n, .ref yb, .ref ki, .ref nu, .int wd, .int nx, .int nb])), (ki, .inl (T 0, 24, .inl fk)), (nu, .inl (T 0, 24, .inl fn)), (o1, .inr (1, [.int n0, .ref c1, .ref c2, .ref c3, .ref c4, .ref c5, .ref c6, .ref c7])), (c1, .inl (T 0, 24, .inl f1)), (c2, .inl (T 0, 24, .inl f2)), (c3, .inl (T 0, 24, .inl f3)), (c4, .inl (T 0, 24, .inl f4)), (c5, .inl (T 0, 24, .inl f5)), (c6, .inl (T 0, 24, .inl f6)), (c7, .inl (T 0, 24, .inl f7))] sz ad sa av ta) (va_Qi (fun (r : Int32) (u : Nat → Nat → Int32) => (0 ≤ r.toInt ∧ r.toInt < (u 0 0).toInt) ∧ (nx.toInt < (u 8 0).toInt ∧ (u 8 0).toInt ≤ wd.toInt) ∧ smT fk (u 8 0).toNatClampNeg = smT fk nx.toNatClampNeg - 1 ∧ (u 0 0).toInt = n0.toInt + ((u 8 0).toInt - nx.toInt) ∧ ((0 ≤ (u 0 0).toInt ∧ (u 0 0).toInt ≤ 24) ∧ okC (u 1) (u 3) (u 4) (u 5)) ∧ (∀ A : clsA, rlC n0 f1 f2 f3 f4 A → ∃ (nb rb : Nat) (B : clsA), bldR fk fn nx.toNatClampNeg A nb rb B ∧ (u 8 0).toInt = nb ∧ r = nI rb ∧ rlC (u 0 0) (u 1) (u 2) (u 3) (u 4) B) ∧ (∀ j : Nat, (j : Int) < (u 0 0).toInt → mesP (u 1) (u 2) (u 3) (u 4) (u 5) (u 6) (u 7) j)) (bW D (va_A [(h0, .inr (7, [.int n, .ref yb, .ref ki, .ref nu, .int wd, .int nx, .int nb])), (ki, .inl (T 0, 24, .inl fk)), (nu, .inl (T 0, 24, .inl fn)), (o1, .inr (1, [.int n0, .ref c1, .ref c2, .ref c3, .ref c4, .ref c5, .ref c6, .ref c7])), (c1, .inl (T 0, 24, .inl f1)), (c2, .inl (T 0, 24, .inl f2)), (c3, .inl (T 0, 24, .inl f3)), (c4, .inl (T 0, 24, .inl f4)), (c5, .inl (T 0, 24, .inl f5)), (c6, .inl (T 0, 24, .inl f6)), (c7, .inl (T 0, 24, .inl f7))] sz) (fun (u : Nat → Nat → Int32) => [(h0, .inr (7, [.int n, .ref yb, .ref ki, .ref nu, .int wd, .int (u 8 0), .int nb])), (ki, .inl (T 0, 24, .inl fk)), (nu, .inl (T 0, 24, .inl fn)), (o1, .inr (1, [.int (u 0 0), .ref c1, .ref c2, .ref c3, .ref c4, .ref c5, .ref c6, .ref c7])), (c1, .inl (T 0, 24, .inl (u 1))), (c2, .inl (T 0, 24, .inl (u 2))), (c3, .inl (T 0, 24, .inl (u 3))), (c4, .inl (T 0, 24, .inl (u 4))), (c5, .inl (T 0, 24, .inl (u 5))), (c6, .inl (T 0, 24, .inl (u 6))), (c7, .inl (T 0, 24, .inl (u 7)))])) (va_A [(h0, .inr (7, [.int n, .ref yb, .ref ki, .ref nu, .int wd, .int nx, .int nb])), (ki, .inl (T 0, 24, .inl fk)), (nu, .inl (T 0, 24, .inl fn)), (o1, .inr (1, [.int n0, .ref c1, .ref c2, .ref c3, .ref c4, .ref c5, .ref c6, .ref c7])), (c1, .inl (T 0, 24, .inl f1)), (c2, .inl (T 0, 24, .inl f2)), (c3, .inl (T 0, 24, .inl f3)), (c4, .inl (T 0, 24, .inl f4)), (c5, .inl (T 0, 24, .inl f5)), (c6, .inl (T 0, 24, .inl f6)), (c7, .inl (T 0, 24, .inl f7))] sz)) 0 0 (va_A [(h0, .inr (7, [.int n, .ref yb, .ref ki, .ref nu, .int wd, .int nx, .int nb])), (ki, .inl (T 0, 24, .inl fk)), (nu, .inl (T 0, 24, .inl fn)), (o1, .inr (1, [.int n0, .ref c1, .ref c2, .ref c3, .ref c4, .ref c5, .ref c6, .ref c7])), (c1, .inl (T 0, 24, .inl f1)), (c2, .inl (T 0, 24, .inl f2)), (c3, .inl (T 0, 24, .inl f3)), (c4, .inl (T 0, 24, .inl f4)), (c5, .inl (T 0, 24, .inl f5)), (c6, .inl (T 0, 24, .inl f6)), (c7, .inl (T 0, 24, .inl f7))] sz) := by
  refine Met.ofW (cc := cX10_build) (maxL := 6) (ret := (some .int)) (by decide +kernel) rfl ?_
  intro p e s m args below meth c s₁ B hml hv
  obtain ⟨rfl, hsz, hP, hE, hD0, hV⟩ := hv
  have hx := B.exec
  have hb := B.bytes
  have hr := B.returns
  have hts := atoms_spec (ws := wsX10_build) B.pre
  have hown : s.vm.findClass RX10 = some m.cls := findClass_of_methodNamed B.named
  have hlocks := B.notSynchronized
  subst hsz
  have hD := hD0.self (sz := s.heap.size)
  generalize hAe : va_A [(h0, .inr (7, [.int n, .ref yb, .ref ki, .ref nu, .int wd, .int nx, .int nb])), (ki, .inl (T 0, 24, .inl fk)), (nu, .inl (T 0, 24, .inl fn)), (o1, .inr (1, [.int n0, .ref c1, .ref c2, .ref c3, .ref c4, .ref c5, .ref c6, .ref c7])), (c1, .inl (T 0, 24, .inl f1)), (c2, .inl (T 0, 24, .inl f2)), (c3, .inl (T 0, 24, .inl f3)), (c4, .inl (T 0, 24, .inl f4)), (c5, .inl (T 0, 24, .inl f5)), (c6, .inl (T 0, 24, .inl f6)), (c7, .inl (T 0, 24, .inl f7))] s.heap.size = A at hD hV ⊢
  have hA : ∀ q : Nat, s.heap.size ≤ q → A q := fun q h => by rw [← hAe]; exact Or.inr h
  have hS : va_S A s.heap s.heap [] := va_S.rf
  have hP : va_P D vwCl [(h0, .inr (7, [.int n, .ref yb, .ref ki, .ref nu, .int wd, .int nx, .int nb])), (ki, .inl (T 0, 24, .inl fk)), (nu, .inl (T 0, 24, .inl fn)), (o1, .inr (1, [.int n0, .ref c1, .ref c2, .ref c3, .ref c4, .ref c5, .ref c6, .ref c7])), (c1, .inl (T 0, 24, .inl f1)), (c2, .inl (T 0, 24, .inl f2)), (c3, .inl (T 0, 24, .inl f3)), (c4, .inl (T 0, 24, .inl f4)), (c5, .inl (T 0, 24, .inl f5)), (c6, .inl (T 0, 24, .inl f6)), (c7, .inl (T 0, 24, .inl f7))] s.heap := hP
  have hl := lv_entry ([.ref h0, .ref o1]) (n := 6) (Nat.le_of_ble_eq_true rfl)
  rw [lg_entry_eq]
  generalize (lg_sl ([.ref h0, .ref o1]) ++ List.replicate (6 - (lg_sl ([.ref h0, .ref o1])).length) Slot.unset).toArray = ls at hl ⊢
  have hl : lv_has ls 6 [(0, .ref h0), (1, .ref o1)] := hl
  clear hD0
  refine lv_aload_n hx hb dX10_build_0 rfl (lv_at hl 0 rfl) ?_
  refine va_get (D := D) (ci := 7) (v := .int nx) (C := RX10) (T := TX10) (N := 7) hx hb hts in_X10_build_X10 hown hE.1 hP 0 rfl rfl 5 (by decide +kernel) (hts (.fieldLink RX10 28 "ClauseBook$Tape" "next" "I") (List.mem_of_getElem? (i := 1) rfl)) (fun _ h9 => h9) rfl dX10_build_1 ?_
  refine lv_aload_n hx hb dX10_build_4 rfl (lv_at hl 0 rfl) ?_
  refine va_get (D := D) (ci := 7) (v := .int wd) (C := RX10) (T := TX10) (N := 7) hx hb hts in_X10_build_X10 hown hE.1 hP 0 rfl rfl 4 (by decide +kernel) (hts (.fieldLink RX10 25 "ClauseBook$Tape" "words" "I") (List.mem_of_getElem? (i := 2) rfl)) (fun _ h9 => h9) rfl dX10_build_5 ?_
  refine lv_icmp_lt (tgt := 13) hx hb dX10_build_8 (by decide +kernel) (fun c9 => ?_) (fun c9 => absurd c9 (not_not_intro (by rw [fa_lt]; omega)))
  refine lv_aload_n hx hb dX10_build_13 rfl (lv_at hl 0 rfl) ?_
  refine va_get (D := D) (ci := 7) (v := .int nx) (C := RX10) (T := TX10) (N := 7) hx hb hts in_X10_build_X10 hown hE.1 hP 0 rfl rfl 5 (by decide +kernel) (hts (.fieldLink RX10 28 "ClauseBook$Tape" "next" "I") (List.mem_of_getElem? (i := 1) rfl)) (fun _ h9 => h9) rfl dX10_build_14 ?_
  refine lv_istore_n (lv' := [(2, .int nx), (0, .ref h0), (1, .ref o1)]) hx hb dX10_build_17 rfl hl (by decide +kernel) rfl (fun ls hl => ?_)
  refine lv_aload_n hx hb dX10_build_18 rfl (lv_at hl 1 rfl) ?_
  refine lv_dup hx hb dX10_build_19 rfl ?_
  refine va_get (D := D) (ci := 7) (v := .int nx) (C := RX10) (T := TX10) (N := 7) hx hb hts in_X10_build_X10 hown hE.1 hP 0 rfl rfl 5 (by decide +kernel) (hts (.fieldLink RX10 28 "ClauseBook$Tape" "next" "I") (List.mem_of_getElem? (i := 1) rfl)) (fun _ h9 => h9) rfl dX10_build_20 ?_
  refine lv_iconst (v := 1) hx hb dX10_build_23 (by decide +kernel) ?_
  refine lv_iadd hx hb dX10_build_24 ?_
  refine lv_topi (fun z_1 ez_1 => ?_)
  refine va_put (D := D) (ci := 7) (v := .int z_1) (ty := .int) (C := RX10) (T := TX10) (N := 7) hx hb hts in_X10_build_X10 tyX10 tyX10_ok nmX10 hown hE.1 hP hD hS 0 rfl rfl 5 (by decide +kernel) (hts (.fieldLink RX10 28 "ClauseBook$Tape" "next" "I") (List.mem_of_getElem? (i := 1) rfl)) (fun _ h9 => h9) rfl (by decide +kernel) rfl rfl (Nat.le_of_ble_eq_true rfl) dX10_build_25 (fun H locs hP hD hS => ?_)
  obtain ⟨hP, hD⟩ := wPD [(h0, .inr (7, [.int n, .ref yb, .ref ki, .ref nu, .int wd, .int z_1, .int nb])), (ki, .inl (T 0, 24, .inl fk)), (nu, .inl (T 0, 24, .inl fn)), (o1, .inr (1, [.int n0, .ref c1, .ref c2, .ref c3, .ref c4, .ref c5, .ref c6, .ref c7])), (c1, .inl (T 0, 24, .inl f1)), (c2, .inl (T 0, 24, .inl f2)), (c3, .inl (T 0, 24, .inl f3)), (c4, .inl (T 0, 24, .inl f4)), (c5, .inl (T 0, 24, .inl f5)), (c6, .inl (T 0, 24, .inl f6)), (c7, .inl (T 0, 24, .inl f7))] hP hD rfl
  have hz9 : z_1.toInt = nx.toInt + 1 := by rw [ez_1]; exact inc1 (n := 1000) (by omega) (by decide +kernel)
  have tz : z_1.toNatClampNeg = nx.toNatClampNeg + 1 := tn1 hnx.1 hz9
  have tq := tn hnx.1
  have tw := tn (x := wd) (by omega)
  have hT9 := hkT nx.toNatClampNeg (by omega)
  refine va_getsN (v := .ref ta) hx hb hV.1.2.1 hS hown (va_Nw.use rfl (hE.2.2.1 (RX10, 34) (List.mem_of_getElem? (i := 2) rfl))) (fun _ h9 => h9) dX10_build_28 ?_
  refine lv_aload_n hx hb dX10_build_31 rfl (lv_at hl 1 rfl) ?_
  refine va_get (D := D) (ci := 7) (v := .ref ki) (C := RX10) (T := TX10) (N := 7) hx hb hts in_X10_build_X10 hown hE.1 hP 0 rfl rfl 2 (by decide +kernel) (hts (.fieldLink RX10 19 "ClauseBook$Tape" "kinds" "[I") (List.mem_of_getElem? (i := 3) rfl)) (fun _ h9 => h9) rfl dX10_build_32 ?_
  refine lv_iload_n hx hb dX10_build_35 rfl (lv_at hl 0 rfl) ?_
  refine va_iald hx hb hE.1 hP 1 0 rfl rfl (by rw [vp_in_iff]; first | omega | (subst_vars; omega)) dX10_build_36 ?_
  refine lv_topi (fun z_2 ez_2 => ?_)
  have hkk : 0 ≤ z_2.toInt ∧ z_2.toInt ≤ 12 := by rw [ez_2]; exact hT9.1
  refine vb_tq (v := .ref (ad (z_2.toNatClampNeg))) hx hb hV.1.2.2 hS (by rw [vp_in_iff]; omega) rfl dX10_build_37 ?_
  refine va_getE (i := (z_2.toNatClampNeg)) hx hb hV.1.1 (in13c hkk) hS hown (q := kdQ "names" [0, 0, 1, 1, 1, 2, 2, 2, 1, 2, 1, 1, 2]) (List.mem_of_getElem? (i := 0) rfl) (hts (.fieldLink RX10 61 "ClauseBook$Kind" "names" "I") (List.mem_of_getElem? (i := 4) rfl)) (fun _ h9 => h9) dX10_build_38 ?_
  refine W.eq (g2 := F0 m 41 ls [.int (nmT (z_2.toNatClampNeg))]) rfl ?_
  refine lv_topi (fun z_3 ez_3 => ?_)
  have hnm : 0 ≤ z_3.toInt ∧ z_3.toInt ≤ 2 := by rw [ez_3]; exact nmT_in _
  have hs9 : smT fk z_1.toNatClampNeg = smT fk nx.toNatClampNeg + z_3.toInt - 1 := by rw [tz, ez_3, ez_2]; rfl
  refine lv_istore_n (lv' := [(3, .int z_3), (2, .int nx), (0, .ref h0), (1, .ref o1)]) hx hb dX10_build_41 rfl hl (by decide +kernel) rfl (fun ls hl => ?_)
  refine lv_iload_n hx hb dX10_build_42 rfl (lv_at hl 0 rfl) ?_
  refine lv_iconst (v := 1) hx hb dX10_build_43 (by decide +kernel) ?_
  refine lv_icmp_lt (tgt := 55) hx hb dX10_build_44 (by decide +kernel) (fun c_4 => ?_) (fun c_4 => ?_)
  · rw [fa_lt] at c_4
    try rw [ti_1] at c_4
    refine lv_iconst (v := 0) hx hb dX10_build_55 (by decide +kernel) ?_
    refine lv_istore (lv' := [(4, .int 0), (3, .int z_3), (2, .int nx), (0, .ref h0), (1, .ref o1)]) hx hb dX10_build_56 hl (by decide +kernel) rfl (fun ls hl => ?_)
    refine lv_iload_n hx hb dX10_build_58 rfl (lv_at hl 1 rfl) ?_
    refine lv_iconst (v := 2) hx hb dX10_build_59 (by decide +kernel) ?_
    refine lv_icmp_ne (tgt := 71) hx hb dX10_build_60 (by decide +kernel) (fun c_5 => ?_) (fun c_5 => ?_)
    · rw [fa_eq] at c_5
      try rw [ti_2] at c_5
      refine lv_iconst (v := 0) hx hb dX10_build_71 (by decide +kernel) ?_
      refine lv_istore (lv' := [(5, .int 0), (4, .int 0), (3, .int z_3), (2, .int nx), (0, .ref h0), (1, .ref o1)]) hx hb dX10_build_72 hl (by decide +kernel) rfl (fun ls hl => ?_)
      refine lv_aload_n hx hb dX10_build_74 rfl (lv_at hl 5 rfl) ?_
      refine lv_aload_n hx hb dX10_build_75 rfl (lv_at hl 4 rfl) ?_
      refine va_get (D := D) (ci := 7) (v := .ref ki) (C := RX10) (T := TX10) (N := 7) hx hb hts in_X10_build_X10 hown hE.1 hP 0 rfl rfl 2 (by decide +kernel) (hts (.fieldLink RX10 19 "ClauseBook$Tape" "kinds" "[I") (List.mem_of_getElem? (i := 3) rfl)) (fun _ h9 => h9) rfl dX10_build_76 ?_
      refine lv_iload_n hx hb dX10_build_79 rfl (lv_at hl 3 rfl) ?_
      refine va_iald hx hb hE.1 hP 1 0 rfl rfl (by rw [vp_in_iff]; first | omega | (subst_vars; omega)) dX10_build_80 ?_
      refine lv_topi (fun z_6 ez_6 => ?_)
      refine lv_aload_n hx hb dX10_build_81 rfl (lv_at hl 4 rfl) ?_
      refine va_get (D := D) (ci := 7) (v := .ref nu) (C := RX10) (T := TX10) (N := 7) hx hb hts in_X10_build_X10 hown hE.1 hP 0 rfl rfl 3 (by decide +kernel) (hts (.fieldLink RX10 22 "ClauseBook$Tape" "numbers" "[I") (List.mem_of_getElem? (i := 5) rfl)) (fun _ h9 => h9) rfl dX10_build_82 ?_
      refine lv_iload_n hx hb dX10_build_85 rfl (lv_at hl 3 rfl) ?_
      refine va_iald hx hb hE.1 hP 2 0 rfl rfl (by rw [vp_in_iff]; first | omega | (subst_vars; omega)) dX10_build_86 ?_
      refine lv_topi (fun z_7 ez_7 => ?_)
      refine lv_iload hx hb dX10_build_87 (lv_at hl 1 rfl) ?_
      refine lv_iload hx hb dX10_build_89 (lv_at hl 0 rfl) ?_
      have hzz : z_6 = z_2 := by rw [ez_6, ez_2]
      have hFc := va_free (wc := [(o1, .inr (1, [.int n0, .ref c1, .ref c2, .ref c3, .ref c4, .ref c5, .ref c6, .ref c7])), (c1, .inl (T 0, 24, .inl f1)), (c2, .inl (T 0, 24, .inl f2)), (c3, .inl (T 0, 24, .inl f3)), (c4, .inl (T 0, 24, .inl f4)), (c5, .inl (T 0, 24, .inl f5)), (c6, .inl (T 0, 24, .inl f6)), (c7, .inl (T 0, 24, .inl f7))]) hD hS hA [3, 4, 5, 6, 7, 8, 9, 10] rfl
      refine va_calli (va_runV (As := [.int z_6, .int z_7, .int 0, .int 0]) (rest := []) ⟨hx, hb, hml, hown, hts⟩ (c_X2_append l D T ad sa av ta _ o1 n0 c1 c2 c3 c4 c5 c6 c7 f1 f2 f3 f4 f5 f6 f7 z_6 z_7 0 0 (by omega) hok (by rw [hzz]; exact hkk) (fun a => by rw [hzz, ← ez_3] at a; first | (exfalso; omega) | omega) (fun a => by rw [hzz, ← ez_3] at a; first | (exfalso; omega) | omega) hme) (cwV 4 hts gX10_build_X2_append rfl rfl rfl hv_X2_append ⟨(show _ ≤ ((d + 1) + 5 : Nat) from by (try dsimp only); omega), (show _ ≤ (32 * (d + 1) + 150 : Nat) from by (try dsimp only); omega)⟩) (pWk_V (q := (RX2, TX2, 8)) (ci := 1) (q0 := 3) hP hE hD hV hS hFc rfl rfl [3, 4, 5, 6, 7, 8, 9, 10] (by decide +kernel) rfl rfl) rfl rfl hl.1 rfl (lv_room (Nat.le_of_ble_eq_true rfl)) dX10_build_91 ⟨Nat.le_of_ble_eq_true rfl, Nat.le_of_ble_eq_true rfl⟩) hS (fun q _ h => hFc q h) hFc (fun r_8 u_9 t H1 locs ht hvm hr_8 hB hz1 hk1 hS => ?_)
      obtain ⟨haru_9, ⟨hszu_9, hok⟩, hapu_9, hme⟩ := hr_8
      have hapu_9 : ((n0.toInt < 24 → (u_9 1) = upd f1 (n0.toNatClampNeg) z_6 ∧ (u_9 2) = upd f2 (n0.toNatClampNeg) z_7 ∧ (u_9 3) = upd f3 (n0.toNatClampNeg) (if 1 ≤ (nmT (z_6.toNatClampNeg)).toInt then (0 : Int32) else -1) ∧ (u_9 4) = upd f4 (n0.toNatClampNeg) (if (nmT (z_6.toNatClampNeg)).toInt = 2 then (0 : Int32) else -1)) ∧ (¬ n0.toInt < 24 → (u_9 1) = f1 ∧ (u_9 2) = f2 ∧ (u_9 3) = f3 ∧ (u_9 4) = f4)) := hapu_9
      have hme : (∀ j : Nat, (j : Int) < (u_9 0 0).toInt → mesP (u_9 1) (u_9 2) (u_9 3) (u_9 4) (u_9 5) (u_9 6) (u_9 7) j) := hme
      obtain ⟨hP1, hD1⟩ := hB
      rw [ht] at hP1
      obtain ⟨hP, hD⟩ := va_repl [(h0, .inr (7, [.int n, .ref yb, .ref ki, .ref nu, .int wd, .int z_1, .int nb])), (ki, .inl (T 0, 24, .inl fk)), (nu, .inl (T 0, 24, .inl fn)), (o1, .inr (1, [.int (u_9 0 0), .ref c1, .ref c2, .ref c3, .ref c4, .ref c5, .ref c6, .ref c7])), (c1, .inl (T 0, 24, .inl (u_9 1))), (c2, .inl (T 0, 24, .inl (u_9 2))), (c3, .inl (T 0, 24, .inl (u_9 3))), (c4, .inl (T 0, 24, .inl (u_9 4))), (c5, .inl (T 0, 24, .inl (u_9 5))), (c6, .inl (T 0, 24, .inl (u_9 6))), (c7, .inl (T 0, 24, .inl (u_9 7)))] hP hD [3, 4, 5, 6, 7, 8, 9, 10] [3, 4, 5, 6, 7, 8, 9, 10] rfl (by decide +kernel) rfl rfl rfl hk1 hP1
      clear hP1 hD1 hFc
      generalize H1 = H at hP hS ⊢
      obtain ⟨hr9, hr8, hr7⟩ := haru_9.resolve_left (by intro h9; omega)
      have hr6 : r_8.toInt = (n0).toInt := by rw [hr8]
      exact W.iret hx hb hr (fun t ht hW => ⟨⟨_, (fun k => [fun _ => (u_9 0 0), (u_9 1), (u_9 2), (u_9 3), (u_9 4), (u_9 5), (u_9 6), (u_9 7), fun _ => z_1].getD k f1), rfl, ⟨(show 0 ≤ r_8.toInt ∧ r_8.toInt < ((u_9 0 0)).toInt from by omega), (show nx.toInt < (z_1).toInt ∧ (z_1).toInt ≤ wd.toInt from by omega), (show smT fk (z_1).toNatClampNeg = smT fk nx.toNatClampNeg - 1 from by omega), (show ((u_9 0 0)).toInt = n0.toInt + ((z_1).toInt - nx.toInt) from by omega), ⟨(show 0 ≤ ((u_9 0 0)).toInt ∧ ((u_9 0 0)).toInt ≤ 24 from by omega), (show okC (u_9 1) (u_9 3) (u_9 4) (u_9 5) from by first | exact hok | assumption)⟩, (fun A hA => by
                                                            have hnz : (nmT (fk nx.toNatClampNeg).toNatClampNeg).toInt = z_3.toInt := by rw [ez_3, ez_2]
                                                            have hq := bld_push (K := fk) (V := fn) (nx := nx.toNatClampNeg) (cn := 0) (dn := 0) hA ez_6 ez_7 rfl rfl hr8 hr7 (hapu_9.1 (by omega))
                                                            exact ⟨_, _, _, bldR_0 (by omega), (show (z_1).toInt = ((nx.toNatClampNeg + 1 : Nat) : Int) from by omega), hq.1, hq.2⟩), hme⟩, by rw [ht]; exact hP.sub [0, 1, 2, 3, 4, 5, 6, 7, 8, 9, 10] rfl, hD.sub [0, 1, 2, 3, 4, 5, 6, 7, 8, 9, 10] (by decide +kernel) rfl⟩, hS.F ht⟩) hS.2.2 dX10_build_94
    · rw [fa_eq] at c_5
      try rw [ti_2] at c_5
      have hl8 := okT_lt (f := fk) (x := z_1) (W := wd) (by omega) hsm (by omega)
      refine lv_aload_n hx hb dX10_build_63 rfl (lv_at hl 3 rfl) ?_
      refine lv_aload_n hx hb dX10_build_64 rfl (lv_at hl 4 rfl) ?_
      have hFc := va_free (wc := [(h0, .inr (7, [.int n, .ref yb, .ref ki, .ref nu, .int wd, .int z_1, .int nb])), (ki, .inl (T 0, 24, .inl fk)), (nu, .inl (T 0, 24, .inl fn)), (o1, .inr (1, [.int n0, .ref c1, .ref c2, .ref c3, .ref c4, .ref c5, .ref c6, .ref c7])), (c1, .inl (T 0, 24, .inl f1)), (c2, .inl (T 0, 24, .inl f2)), (c3, .inl (T 0, 24, .inl f3)), (c4, .inl (T 0, 24, .inl f4)), (c5, .inl (T 0, 24, .inl f5)), (c6, .inl (T 0, 24, .inl f6)), (c7, .inl (T 0, 24, .inl f7))]) hD hS hA [0, 1, 2, 3, 4, 5, 6, 7, 8, 9, 10] rfl
      refine va_calli (va_runV (As := [.ref o1]) (rest := []) ⟨hx, hb, hml, hown, hts⟩ (hrec _ h0 yb ki nu n wd z_1 nb fk fn o1 n0 c1 c2 c3 c4 c5 c6 c7 f1 f2 f3 f4 f5 f6 f7 (by omega) hok (by (try simp only [ti_0]); omega) hkT hsm (by (try simp only [ti_0]); omega) hme (by (try simp only [ti_0]); omega)) (cwV 1 hts gX10_build_X10_build rfl rfl rfl hv_X10_build ⟨(show _ ≤ ((d + 1) + 5 : Nat) from by (try dsimp only); omega), (show _ ≤ (32 * (d + 1) + 150 : Nat) from by (try dsimp only); omega)⟩) (pWk_V (q := (RX10, TX10, 7)) (ci := 7) (q0 := 0) hP hE hD hV hS hFc rfl rfl [0, 1, 2, 3, 4, 5, 6, 7, 8, 9, 10] (by decide +kernel) rfl rfl) rfl rfl hl.1 rfl (lv_room (Nat.le_of_ble_eq_true rfl)) dX10_build_65 ⟨Nat.le_of_ble_eq_true rfl, Nat.le_of_ble_eq_true rfl⟩) hS (fun q _ h => hFc q h) hFc (fun r_10 u_11 t H1 locs ht hvm hr_10 hB hz1 hk1 hS => ?_)
      obtain ⟨hrau_11, hrbu_11, hrcu_11, hrdu_11, ⟨hszu_11, hok⟩, hbAu_11, hme⟩ := hr_10
      have hbAu_11 : ∀ A : clsA, rlC n0 f1 f2 f3 f4 A → ∃ (nb rb : Nat) (B : clsA), bldR fk fn z_1.toNatClampNeg A nb rb B ∧ (u_11 8 0).toInt = nb ∧ r_10 = nI rb ∧ rlC (u_11 0 0) (u_11 1) (u_11 2) (u_11 3) (u_11 4) B := hbAu_11
      have hme : (∀ j : Nat, (j : Int) < (u_11 0 0).toInt → mesP (u_11 1) (u_11 2) (u_11 3) (u_11 4) (u_11 5) (u_11 6) (u_11 7) j) := hme
      obtain ⟨hP1, hD1⟩ := hB
      rw [ht] at hP1
      obtain ⟨hP, hD⟩ := va_repl [(h0, .inr (7, [.int n, .ref yb, .ref ki, .ref nu, .int wd, .int (u_11 8 0), .int nb])), (ki, .inl (T 0, 24, .inl fk)), (nu, .inl (T 0, 24, .inl fn)), (o1, .inr (1, [.int (u_11 0 0), .ref c1, .ref c2, .ref c3, .ref c4, .ref c5, .ref c6, .ref c7])), (c1, .inl (T 0, 24, .inl (u_11 1))), (c2, .inl (T 0, 24, .inl (u_11 2))), (c3, .inl (T 0, 24, .inl (u_11 3))), (c4, .inl (T 0, 24, .inl (u_11 4))), (c5, .inl (T 0, 24, .inl (u_11 5))), (c6, .inl (T 0, 24, .inl (u_11 6))), (c7, .inl (T 0, 24, .inl (u_11 7)))] hP hD [0, 1, 2, 3, 4, 5, 6, 7, 8, 9, 10] [0, 1, 2, 3, 4, 5, 6, 7, 8, 9, 10] rfl (by decide +kernel) rfl rfl rfl hk1 hP1
      clear hP1 hD1 hFc
      generalize H1 = H at hP hS ⊢
      refine lv_goto (tgt := 72) hx hb dX10_build_68 (by decide +kernel) ?_
      refine lv_istore (lv' := [(5, .int r_10), (4, .int 0), (3, .int z_3), (2, .int nx), (0, .ref h0), (1, .ref o1)]) hx hb dX10_build_72 hl (by decide +kernel) rfl (fun ls hl => ?_)
      refine lv_aload_n hx hb dX10_build_74 rfl (lv_at hl 5 rfl) ?_
      refine lv_aload_n hx hb dX10_build_75 rfl (lv_at hl 4 rfl) ?_
      refine va_get (D := D) (ci := 7) (v := .ref ki) (C := RX10) (T := TX10) (N := 7) hx hb hts in_X10_build_X10 hown hE.1 hP 0 rfl rfl 2 (by decide +kernel) (hts (.fieldLink RX10 19 "ClauseBook$Tape" "kinds" "[I") (List.mem_of_getElem? (i := 3) rfl)) (fun _ h9 => h9) rfl dX10_build_76 ?_
      refine lv_iload_n hx hb dX10_build_79 rfl (lv_at hl 3 rfl) ?_
      refine va_iald hx hb hE.1 hP 1 0 rfl rfl (by rw [vp_in_iff]; first | omega | (subst_vars; omega)) dX10_build_80 ?_
      refine lv_topi (fun z_12 ez_12 => ?_)
      refine lv_aload_n hx hb dX10_build_81 rfl (lv_at hl 4 rfl) ?_
      refine va_get (D := D) (ci := 7) (v := .ref nu) (C := RX10) (T := TX10) (N := 7) hx hb hts in_X10_build_X10 hown hE.1 hP 0 rfl rfl 3 (by decide +kernel) (hts (.fieldLink RX10 22 "ClauseBook$Tape" "numbers" "[I") (List.mem_of_getElem? (i := 5) rfl)) (fun _ h9 => h9) rfl dX10_build_82 ?_
      refine lv_iload_n hx hb dX10_build_85 rfl (lv_at hl 3 rfl) ?_
      refine va_iald hx hb hE.1 hP 2 0 rfl rfl (by rw [vp_in_iff]; first | omega | (subst_vars; omega)) dX10_build_86 ?_
      refine lv_topi (fun z_13 ez_13 => ?_)
      refine lv_iload hx hb dX10_build_87 (lv_at hl 1 rfl) ?_
      refine lv_iload hx hb dX10_build_89 (lv_at hl 0 rfl) ?_
      have hzz : z_12 = z_2 := by rw [ez_12, ez_2]
      have hFc := va_free (wc := [(o1, .inr (1, [.int (u_11 0 0), .ref c1, .ref c2, .ref c3, .ref c4, .ref c5, .ref c6, .ref c7])), (c1, .inl (T 0, 24, .inl (u_11 1))), (c2, .inl (T 0, 24, .inl (u_11 2))), (c3, .inl (T 0, 24, .inl (u_11 3))), (c4, .inl (T 0, 24, .inl (u_11 4))), (c5, .inl (T 0, 24, .inl (u_11 5))), (c6, .inl (T 0, 24, .inl (u_11 6))), (c7, .inl (T 0, 24, .inl (u_11 7)))]) hD hS hA [3, 4, 5, 6, 7, 8, 9, 10] rfl
      refine va_calli (va_runV (As := [.int z_12, .int z_13, .int 0, .int r_10]) (rest := []) ⟨hx, hb, hml, hown, hts⟩ (c_X2_append l D T ad sa av ta _ o1 (u_11 0 0) c1 c2 c3 c4 c5 c6 c7 (u_11 1) (u_11 2) (u_11 3) (u_11 4) (u_11 5) (u_11 6) (u_11 7) z_12 z_13 0 r_10 (by omega) hok (by rw [hzz]; exact hkk) (fun a => by rw [hzz, ← ez_3] at a; first | (exfalso; omega) | omega) (fun a => by rw [hzz, ← ez_3] at a; first | (exfalso; omega) | omega) hme) (cwV 4 hts gX10_build_X2_append rfl rfl rfl hv_X2_append ⟨(show _ ≤ ((d + 1) + 5 : Nat) from by (try dsimp only); omega), (show _ ≤ (32 * (d + 1) + 150 : Nat) from by (try dsimp only); omega)⟩) (pWk_V (q := (RX2, TX2, 8)) (ci := 1) (q0 := 3) hP hE hD hV hS hFc rfl rfl [3, 4, 5, 6, 7, 8, 9, 10] (by decide +kernel) rfl rfl) rfl rfl hl.1 rfl (lv_room (Nat.le_of_ble_eq_true rfl)) dX10_build_91 ⟨Nat.le_of_ble_eq_true rfl, Nat.le_of_ble_eq_true rfl⟩) hS (fun q _ h => hFc q h) hFc (fun r_14 u_15 t H1 locs ht hvm hr_14 hB hz1 hk1 hS => ?_)
      obtain ⟨haru_15, ⟨hszu_15, hok⟩, hapu_15, hme⟩ := hr_14
      have hapu_15 : (((u_11 0 0).toInt < 24 → (u_15 1) = upd (u_11 1) ((u_11 0 0).toNatClampNeg) z_12 ∧ (u_15 2) = upd (u_11 2) ((u_11 0 0).toNatClampNeg) z_13 ∧ (u_15 3) = upd (u_11 3) ((u_11 0 0).toNatClampNeg) (if 1 ≤ (nmT (z_12.toNatClampNeg)).toInt then (0 : Int32) else -1) ∧ (u_15 4) = upd (u_11 4) ((u_11 0 0).toNatClampNeg) (if (nmT (z_12.toNatClampNeg)).toInt = 2 then r_10 else -1)) ∧ (¬ (u_11 0 0).toInt < 24 → (u_15 1) = (u_11 1) ∧ (u_15 2) = (u_11 2) ∧ (u_15 3) = (u_11 3) ∧ (u_15 4) = (u_11 4))) := hapu_15
      have hme : (∀ j : Nat, (j : Int) < (u_15 0 0).toInt → mesP (u_15 1) (u_15 2) (u_15 3) (u_15 4) (u_15 5) (u_15 6) (u_15 7) j) := hme
      obtain ⟨hP1, hD1⟩ := hB
      rw [ht] at hP1
      obtain ⟨hP, hD⟩ := va_repl [(h0, .inr (7, [.int n, .ref yb, .ref ki, .ref nu, .int wd, .int (u_11 8 0), .int nb])), (ki, .inl (T 0, 24, .inl fk)), (nu, .inl (T 0, 24, .inl fn)), (o1, .inr (1, [.int (u_15 0 0), .ref c1, .ref c2, .ref c3, .ref c4, .ref c5, .ref c6, .ref c7])), (c1, .inl (T 0, 24, .inl (u_15 1))), (c2, .inl (T 0, 24, .inl (u_15 2))), (c3, .inl (T 0, 24, .inl (u_15 3))), (c4, .inl (T 0, 24, .inl (u_15 4))), (c5, .inl (T 0, 24, .inl (u_15 5))), (c6, .inl (T 0, 24, .inl (u_15 6))), (c7, .inl (T 0, 24, .inl (u_15 7)))] hP hD [3, 4, 5, 6, 7, 8, 9, 10] [3, 4, 5, 6, 7, 8, 9, 10] rfl (by decide +kernel) rfl rfl rfl hk1 hP1
      clear hP1 hD1 hFc
      generalize H1 = H at hP hS ⊢
      obtain ⟨hr9, hr8, hr7⟩ := haru_15.resolve_left (by intro h9; omega)
      have hr6 : r_14.toInt = ((u_11 0 0)).toInt := by rw [hr8]
      exact W.iret hx hb hr (fun t ht hW => ⟨⟨_, (fun k => [fun _ => (u_15 0 0), (u_15 1), (u_15 2), (u_15 3), (u_15 4), (u_15 5), (u_15 6), (u_15 7), fun _ => (u_11 8 0)].getD k f1), rfl, (by exfalso; omega), by rw [ht]; exact hP.sub [0, 1, 2, 3, 4, 5, 6, 7, 8, 9, 10] rfl, hD.sub [0, 1, 2, 3, 4, 5, 6, 7, 8, 9, 10] (by decide +kernel) rfl⟩, hS.F ht⟩) hS.2.2 dX10_build_94
  · rw [fa_lt] at c_4
    try rw [ti_1] at c_4
    have hl9 := okT_lt (f := fk) (x := z_1) (W := wd) (by omega) hsm (by omega)
    refine lv_aload_n hx hb dX10_build_47 rfl (lv_at hl 2 rfl) ?_
    refine lv_aload_n hx hb dX10_build_48 rfl (lv_at hl 3 rfl) ?_
    have hFc := va_free (wc := [(h0, .inr (7, [.int n, .ref yb, .ref ki, .ref nu, .int wd, .int z_1, .int nb])), (ki, .inl (T 0, 24, .inl fk)), (nu, .inl (T 0, 24, .inl fn)), (o1, .inr (1, [.int n0, .ref c1, .ref c2, .ref c3, .ref c4, .ref c5, .ref c6, .ref c7])), (c1, .inl (T 0, 24, .inl f1)), (c2, .inl (T 0, 24, .inl f2)), (c3, .inl (T 0, 24, .inl f3)), (c4, .inl (T 0, 24, .inl f4)), (c5, .inl (T 0, 24, .inl f5)), (c6, .inl (T 0, 24, .inl f6)), (c7, .inl (T 0, 24, .inl f7))]) hD hS hA [0, 1, 2, 3, 4, 5, 6, 7, 8, 9, 10] rfl
    refine va_calli (va_runV (As := [.ref o1]) (rest := []) ⟨hx, hb, hml, hown, hts⟩ (hrec _ h0 yb ki nu n wd z_1 nb fk fn o1 n0 c1 c2 c3 c4 c5 c6 c7 f1 f2 f3 f4 f5 f6 f7 (by omega) hok (by (try simp only [ti_0]); omega) hkT hsm (by (try simp only [ti_0]); omega) hme (by (try simp only [ti_0]); omega)) (cwV 1 hts gX10_build_X10_build rfl rfl rfl hv_X10_build ⟨(show _ ≤ ((d + 1) + 5 : Nat) from by (try dsimp only); omega), (show _ ≤ (32 * (d + 1) + 150 : Nat) from by (try dsimp only); omega)⟩) (pWk_V (q := (RX10, TX10, 7)) (ci := 7) (q0 := 0) hP hE hD hV hS hFc rfl rfl [0, 1, 2, 3, 4, 5, 6, 7, 8, 9, 10] (by decide +kernel) rfl rfl) rfl rfl hl.1 rfl (lv_room (Nat.le_of_ble_eq_true rfl)) dX10_build_49 ⟨Nat.le_of_ble_eq_true rfl, Nat.le_of_ble_eq_true rfl⟩) hS (fun q _ h => hFc q h) hFc (fun r_16 u_17 t H1 locs ht hvm hr_16 hB hz1 hk1 hS => ?_)
    obtain ⟨hrau_17, hrbu_17, hrcu_17, hrdu_17, ⟨hszu_17, hok⟩, hbAu_17, hme⟩ := hr_16
    have hbAu_17 : ∀ A : clsA, rlC n0 f1 f2 f3 f4 A → ∃ (nb rb : Nat) (B : clsA), bldR fk fn z_1.toNatClampNeg A nb rb B ∧ (u_17 8 0).toInt = nb ∧ r_16 = nI rb ∧ rlC (u_17 0 0) (u_17 1) (u_17 2) (u_17 3) (u_17 4) B := hbAu_17
    have hme : (∀ j : Nat, (j : Int) < (u_17 0 0).toInt → mesP (u_17 1) (u_17 2) (u_17 3) (u_17 4) (u_17 5) (u_17 6) (u_17 7) j) := hme
    obtain ⟨hP1, hD1⟩ := hB
    rw [ht] at hP1
    obtain ⟨hP, hD⟩ := va_repl [(h0, .inr (7, [.int n, .ref yb, .ref ki, .ref nu, .int wd, .int (u_17 8 0), .int nb])), (ki, .inl (T 0, 24, .inl fk)), (nu, .inl (T 0, 24, .inl fn)), (o1, .inr (1, [.int (u_17 0 0), .ref c1, .ref c2, .ref c3, .ref c4, .ref c5, .ref c6, .ref c7])), (c1, .inl (T 0, 24, .inl (u_17 1))), (c2, .inl (T 0, 24, .inl (u_17 2))), (c3, .inl (T 0, 24, .inl (u_17 3))), (c4, .inl (T 0, 24, .inl (u_17 4))), (c5, .inl (T 0, 24, .inl (u_17 5))), (c6, .inl (T 0, 24, .inl (u_17 6))), (c7, .inl (T 0, 24, .inl (u_17 7)))] hP hD [0, 1, 2, 3, 4, 5, 6, 7, 8, 9, 10] [0, 1, 2, 3, 4, 5, 6, 7, 8, 9, 10] rfl (by decide +kernel) rfl rfl rfl hk1 hP1
    clear hP1 hD1 hFc
    generalize H1 = H at hP hS ⊢
    refine lv_goto (tgt := 56) hx hb dX10_build_52 (by decide +kernel) ?_
    refine lv_istore (lv' := [(4, .int r_16), (3, .int z_3), (2, .int nx), (0, .ref h0), (1, .ref o1)]) hx hb dX10_build_56 hl (by decide +kernel) rfl (fun ls hl => ?_)
    refine lv_iload_n hx hb dX10_build_58 rfl (lv_at hl 1 rfl) ?_
    refine lv_iconst (v := 2) hx hb dX10_build_59 (by decide +kernel) ?_
    refine lv_icmp_ne (tgt := 71) hx hb dX10_build_60 (by decide +kernel) (fun c_18 => ?_) (fun c_18 => ?_)
    · rw [fa_eq] at c_18
      try rw [ti_2] at c_18
      refine lv_iconst (v := 0) hx hb dX10_build_71 (by decide +kernel) ?_
      refine lv_istore (lv' := [(5, .int 0), (4, .int r_16), (3, .int z_3), (2, .int nx), (0, .ref h0), (1, .ref o1)]) hx hb dX10_build_72 hl (by decide +kernel) rfl (fun ls hl => ?_)
      refine lv_aload_n hx hb dX10_build_74 rfl (lv_at hl 5 rfl) ?_
      refine lv_aload_n hx hb dX10_build_75 rfl (lv_at hl 4 rfl) ?_
      refine va_get (D := D) (ci := 7) (v := .ref ki) (C := RX10) (T := TX10) (N := 7) hx hb hts in_X10_build_X10 hown hE.1 hP 0 rfl rfl 2 (by decide +kernel) (hts (.fieldLink RX10 19 "ClauseBook$Tape" "kinds" "[I") (List.mem_of_getElem? (i := 3) rfl)) (fun _ h9 => h9) rfl dX10_build_76 ?_
      refine lv_iload_n hx hb dX10_build_79 rfl (lv_at hl 3 rfl) ?_
      refine va_iald hx hb hE.1 hP 1 0 rfl rfl (by rw [vp_in_iff]; first | omega | (subst_vars; omega)) dX10_build_80 ?_
      refine lv_topi (fun z_19 ez_19 => ?_)
      refine lv_aload_n hx hb dX10_build_81 rfl (lv_at hl 4 rfl) ?_
      refine va_get (D := D) (ci := 7) (v := .ref nu) (C := RX10) (T := TX10) (N := 7) hx hb hts in_X10_build_X10 hown hE.1 hP 0 rfl rfl 3 (by decide +kernel) (hts (.fieldLink RX10 22 "ClauseBook$Tape" "numbers" "[I") (List.mem_of_getElem? (i := 5) rfl)) (fun _ h9 => h9) rfl dX10_build_82 ?_
      refine lv_iload_n hx hb dX10_build_85 rfl (lv_at hl 3 rfl) ?_
      refine va_iald hx hb hE.1 hP 2 0 rfl rfl (by rw [vp_in_iff]; first | omega | (subst_vars; omega)) dX10_build_86 ?_
      refine lv_topi (fun z_20 ez_20 => ?_)
      refine lv_iload hx hb dX10_build_87 (lv_at hl 1 rfl) ?_
      refine lv_iload hx hb dX10_build_89 (lv_at hl 0 rfl) ?_
      have hzz : z_19 = z_2 := by rw [ez_19, ez_2]
      have hFc := va_free (wc := [(o1, .inr (1, [.int (u_17 0 0), .ref c1, .ref c2, .ref c3, .ref c4, .ref c5, .ref c6, .ref c7])), (c1, .inl (T 0, 24, .inl (u_17 1))), (c2, .inl (T 0, 24, .inl (u_17 2))), (c3, .inl (T 0, 24, .inl (u_17 3))), (c4, .inl (T 0, 24, .inl (u_17 4))), (c5, .inl (T 0, 24, .inl (u_17 5))), (c6, .inl (T 0, 24, .inl (u_17 6))), (c7, .inl (T 0, 24, .inl (u_17 7)))]) hD hS hA [3, 4, 5, 6, 7, 8, 9, 10] rfl
      refine va_calli (va_runV (As := [.int z_19, .int z_20, .int r_16, .int 0]) (rest := []) ⟨hx, hb, hml, hown, hts⟩ (c_X2_append l D T ad sa av ta _ o1 (u_17 0 0) c1 c2 c3 c4 c5 c6 c7 (u_17 1) (u_17 2) (u_17 3) (u_17 4) (u_17 5) (u_17 6) (u_17 7) z_19 z_20 r_16 0 (by omega) hok (by rw [hzz]; exact hkk) (fun a => by rw [hzz, ← ez_3] at a; first | (exfalso; omega) | omega) (fun a => by rw [hzz, ← ez_3] at a; first | (exfalso; omega) | omega) hme) (cwV 4 hts gX10_build_X2_append rfl rfl rfl hv_X2_append ⟨(show _ ≤ ((d + 1) + 5 : Nat) from by (try dsimp only); omega), (show _ ≤ (32 * (d + 1) + 150 : Nat) from by (try dsimp only); omega)⟩) (pWk_V (q := (RX2, TX2, 8)) (ci := 1) (q0 := 3) hP hE hD hV hS hFc rfl rfl [3, 4, 5, 6, 7, 8, 9, 10] (by decide +kernel) rfl rfl) rfl rfl hl.1 rfl (lv_room (Nat.le_of_ble_eq_true rfl)) dX10_build_91 ⟨Nat.le_of_ble_eq_true rfl, Nat.le_of_ble_eq_true rfl⟩) hS (fun q _ h => hFc q h) hFc (fun r_21 u_22 t H1 locs ht hvm hr_21 hB hz1 hk1 hS => ?_)
      obtain ⟨haru_22, ⟨hszu_22, hok⟩, hapu_22, hme⟩ := hr_21
      have hapu_22 : (((u_17 0 0).toInt < 24 → (u_22 1) = upd (u_17 1) ((u_17 0 0).toNatClampNeg) z_19 ∧ (u_22 2) = upd (u_17 2) ((u_17 0 0).toNatClampNeg) z_20 ∧ (u_22 3) = upd (u_17 3) ((u_17 0 0).toNatClampNeg) (if 1 ≤ (nmT (z_19.toNatClampNeg)).toInt then r_16 else -1) ∧ (u_22 4) = upd (u_17 4) ((u_17 0 0).toNatClampNeg) (if (nmT (z_19.toNatClampNeg)).toInt = 2 then (0 : Int32) else -1)) ∧ (¬ (u_17 0 0).toInt < 24 → (u_22 1) = (u_17 1) ∧ (u_22 2) = (u_17 2) ∧ (u_22 3) = (u_17 3) ∧ (u_22 4) = (u_17 4))) := hapu_22
      have hme : (∀ j : Nat, (j : Int) < (u_22 0 0).toInt → mesP (u_22 1) (u_22 2) (u_22 3) (u_22 4) (u_22 5) (u_22 6) (u_22 7) j) := hme
      obtain ⟨hP1, hD1⟩ := hB
      rw [ht] at hP1
      obtain ⟨hP, hD⟩ := va_repl [(h0, .inr (7, [.int n, .ref yb, .ref ki, .ref nu, .int wd, .int (u_17 8 0), .int nb])), (ki, .inl (T 0, 24, .inl fk)), (nu, .inl (T 0, 24, .inl fn)), (o1, .inr (1, [.int (u_22 0 0), .ref c1, .ref c2, .ref c3, .ref c4, .ref c5, .ref c6, .ref c7])), (c1, .inl (T 0, 24, .inl (u_22 1))), (c2, .inl (T 0, 24, .inl (u_22 2))), (c3, .inl (T 0, 24, .inl (u_22 3))), (c4, .inl (T 0, 24, .inl (u_22 4))), (c5, .inl (T 0, 24, .inl (u_22 5))), (c6, .inl (T 0, 24, .inl (u_22 6))), (c7, .inl (T 0, 24, .inl (u_22 7)))] hP hD [3, 4, 5, 6, 7, 8, 9, 10] [3, 4, 5, 6, 7, 8, 9, 10] rfl (by decide +kernel) rfl rfl rfl hk1 hP1
      clear hP1 hD1 hFc
      generalize H1 = H at hP hS ⊢
      obtain ⟨hr9, hr8, hr7⟩ := haru_22.resolve_left (by intro h9; omega)
      have hr6 : r_21.toInt = ((u_17 0 0)).toInt := by rw [hr8]
      exact W.iret hx hb hr (fun t ht hW => ⟨⟨_, (fun k => [fun _ => (u_22 0 0), (u_22 1), (u_22 2), (u_22 3), (u_22 4), (u_22 5), (u_22 6), (u_22 7), fun _ => (u_17 8 0)].getD k f1), rfl, ⟨(show 0 ≤ r_21.toInt ∧ r_21.toInt < ((u_22 0 0)).toInt from by omega), (show nx.toInt < ((u_17 8 0)).toInt ∧ ((u_17 8 0)).toInt ≤ wd.toInt from by omega), (show smT fk ((u_17 8 0)).toNatClampNeg = smT fk nx.toNatClampNeg - 1 from by omega), (show ((u_22 0 0)).toInt = n0.toInt + (((u_17 8 0)).toInt - nx.toInt) from by omega), ⟨(show 0 ≤ ((u_22 0 0)).toInt ∧ ((u_22 0 0)).toInt ≤ 24 from by omega), (show okC (u_22 1) (u_22 3) (u_22 4) (u_22 5) from by first | exact hok | assumption)⟩, (fun A hA => by
                                                            have hnz : (nmT (fk nx.toNatClampNeg).toNatClampNeg).toInt = z_3.toInt := by rw [ez_3, ez_2]
                                                            obtain ⟨n1, c1, B1, hb1, hu1, hc1, hR1⟩ := hbAu_17 A hA
                                                            rw [tz] at hb1
                                                            have hq := bld_push (K := fk) (V := fn) (nx := nx.toNatClampNeg) (cn := c1) (dn := 0) hR1 ez_19 ez_20 hc1 rfl hr8 hr7 (hapu_22.1 (by omega))
                                                            exact ⟨_, _, _, bldR_1 (by omega) (by omega) hb1, hu1, hq.1, hq.2⟩), hme⟩, by rw [ht]; exact hP.sub [0, 1, 2, 3, 4, 5, 6, 7, 8, 9, 10] rfl, hD.sub [0, 1, 2, 3, 4, 5, 6, 7, 8, 9, 10] (by decide +kernel) rfl⟩, hS.F ht⟩) hS.2.2 dX10_build_94
    · rw [fa_eq] at c_18
      try rw [ti_2] at c_18
      have hl8 := okT_lt (f := fk) (x := (u_17 8 0)) (W := wd) (by omega) hsm (by omega)
      refine lv_aload_n hx hb dX10_build_63 rfl (lv_at hl 3 rfl) ?_
      refine lv_aload_n hx hb dX10_build_64 rfl (lv_at hl 4 rfl) ?_
      have hFc := va_free (wc := [(h0, .inr (7, [.int n, .ref yb, .ref ki, .ref nu, .int wd, .int (u_17 8 0), .int nb])), (ki, .inl (T 0, 24, .inl fk)), (nu, .inl (T 0, 24, .inl fn)), (o1, .inr (1, [.int (u_17 0 0), .ref c1, .ref c2, .ref c3, .ref c4, .ref c5, .ref c6, .ref c7])), (c1, .inl (T 0, 24, .inl (u_17 1))), (c2, .inl (T 0, 24, .inl (u_17 2))), (c3, .inl (T 0, 24, .inl (u_17 3))), (c4, .inl (T 0, 24, .inl (u_17 4))), (c5, .inl (T 0, 24, .inl (u_17 5))), (c6, .inl (T 0, 24, .inl (u_17 6))), (c7, .inl (T 0, 24, .inl (u_17 7)))]) hD hS hA [0, 1, 2, 3, 4, 5, 6, 7, 8, 9, 10] rfl
      refine va_calli (va_runV (As := [.ref o1]) (rest := []) ⟨hx, hb, hml, hown, hts⟩ (hrec _ h0 yb ki nu n wd (u_17 8 0) nb fk fn o1 (u_17 0 0) c1 c2 c3 c4 c5 c6 c7 (u_17 1) (u_17 2) (u_17 3) (u_17 4) (u_17 5) (u_17 6) (u_17 7) (by omega) hok (by (try simp only [ti_0]); omega) hkT hsm (by (try simp only [ti_0]); omega) hme (by (try simp only [ti_0]); omega)) (cwV 1 hts gX10_build_X10_build rfl rfl rfl hv_X10_build ⟨(show _ ≤ ((d + 1) + 5 : Nat) from by (try dsimp only); omega), (show _ ≤ (32 * (d + 1) + 150 : Nat) from by (try dsimp only); omega)⟩) (pWk_V (q := (RX10, TX10, 7)) (ci := 7) (q0 := 0) hP hE hD hV hS hFc rfl rfl [0, 1, 2, 3, 4, 5, 6, 7, 8, 9, 10] (by decide +kernel) rfl rfl) rfl rfl hl.1 rfl (lv_room (Nat.le_of_ble_eq_true rfl)) dX10_build_65 ⟨Nat.le_of_ble_eq_true rfl, Nat.le_of_ble_eq_true rfl⟩) hS (fun q _ h => hFc q h) hFc (fun r_23 u_24 t H1 locs ht hvm hr_23 hB hz1 hk1 hS => ?_)
      obtain ⟨hrau_24, hrbu_24, hrcu_24, hrdu_24, ⟨hszu_24, hok⟩, hbAu_24, hme⟩ := hr_23
      have hbAu_24 : ∀ A : clsA, rlC (u_17 0 0) (u_17 1) (u_17 2) (u_17 3) (u_17 4) A → ∃ (nb rb : Nat) (B : clsA), bldR fk fn (u_17 8 0).toNatClampNeg A nb rb B ∧ (u_24 8 0).toInt = nb ∧ r_23 = nI rb ∧ rlC (u_24 0 0) (u_24 1) (u_24 2) (u_24 3) (u_24 4) B := hbAu_24
      have hme : (∀ j : Nat, (j : Int) < (u_24 0 0).toInt → mesP (u_24 1) (u_24 2) (u_24 3) (u_24 4) (u_24 5) (u_24 6) (u_24 7) j) := hme
      obtain ⟨hP1, hD1⟩ := hB
      rw [ht] at hP1
      obtain ⟨hP, hD⟩ := va_repl [(h0, .inr (7, [.int n, .ref yb, .ref ki, .ref nu, .int wd, .int (u_24 8 0), .int nb])), (ki, .inl (T 0, 24, .inl fk)), (nu, .inl (T 0, 24, .inl fn)), (o1, .inr (1, [.int (u_24 0 0), .ref c1, .ref c2, .ref c3, .ref c4, .ref c5, .ref c6, .ref c7])), (c1, .inl (T 0, 24, .inl (u_24 1))), (c2, .inl (T 0, 24, .inl (u_24 2))), (c3, .inl (T 0, 24, .inl (u_24 3))), (c4, .inl (T 0, 24, .inl (u_24 4))), (c5, .inl (T 0, 24, .inl (u_24 5))), (c6, .inl (T 0, 24, .inl (u_24 6))), (c7, .inl (T 0, 24, .inl (u_24 7)))] hP hD [0, 1, 2, 3, 4, 5, 6, 7, 8, 9, 10] [0, 1, 2, 3, 4, 5, 6, 7, 8, 9, 10] rfl (by decide +kernel) rfl rfl rfl hk1 hP1
      clear hP1 hD1 hFc
      generalize H1 = H at hP hS ⊢
      refine lv_goto (tgt := 72) hx hb dX10_build_68 (by decide +kernel) ?_
      refine lv_istore (lv' := [(5, .int r_23), (4, .int r_16), (3, .int z_3), (2, .int nx), (0, .ref h0), (1, .ref o1)]) hx hb dX10_build_72 hl (by decide +kernel) rfl (fun ls hl => ?_)
      refine lv_aload_n hx hb dX10_build_74 rfl (lv_at hl 5 rfl) ?_
      refine lv_aload_n hx hb dX10_build_75 rfl (lv_at hl 4 rfl) ?_
      refine va_get (D := D) (ci := 7) (v := .ref ki) (C := RX10) (T := TX10) (N := 7) hx hb hts in_X10_build_X10 hown hE.1 hP 0 rfl rfl 2 (by decide +kernel) (hts (.fieldLink RX10 19 "ClauseBook$Tape" "kinds" "[I") (List.mem_of_getElem? (i := 3) rfl)) (fun _ h9 => h9) rfl dX10_build_76 ?_
      refine lv_iload_n hx hb dX10_build_79 rfl (lv_at hl 3 rfl) ?_
      refine va_iald hx hb hE.1 hP 1 0 rfl rfl (by rw [vp_in_iff]; first | omega | (subst_vars; omega)) dX10_build_80 ?_
      refine lv_topi (fun z_25 ez_25 => ?_)
      refine lv_aload_n hx hb dX10_build_81 rfl (lv_at hl 4 rfl) ?_
      refine va_get (D := D) (ci := 7) (v := .ref nu) (C := RX10) (T := TX10) (N := 7) hx hb hts in_X10_build_X10 hown hE.1 hP 0 rfl rfl 3 (by decide +kernel) (hts (.fieldLink RX10 22 "ClauseBook$Tape" "numbers" "[I") (List.mem_of_getElem? (i := 5) rfl)) (fun _ h9 => h9) rfl dX10_build_82 ?_
      refine lv_iload_n hx hb dX10_build_85 rfl (lv_at hl 3 rfl) ?_
      refine va_iald hx hb hE.1 hP 2 0 rfl rfl (by rw [vp_in_iff]; first | omega | (subst_vars; omega)) dX10_build_86 ?_
      refine lv_topi (fun z_26 ez_26 => ?_)
      refine lv_iload hx hb dX10_build_87 (lv_at hl 1 rfl) ?_
      refine lv_iload hx hb dX10_build_89 (lv_at hl 0 rfl) ?_
      have hzz : z_25 = z_2 := by rw [ez_25, ez_2]
      have hFc := va_free (wc := [(o1, .inr (1, [.int (u_24 0 0), .ref c1, .ref c2, .ref c3, .ref c4, .ref c5, .ref c6, .ref c7])), (c1, .inl (T 0, 24, .inl (u_24 1))), (c2, .inl (T 0, 24, .inl (u_24 2))), (c3, .inl (T 0, 24, .inl (u_24 3))), (c4, .inl (T 0, 24, .inl (u_24 4))), (c5, .inl (T 0, 24, .inl (u_24 5))), (c6, .inl (T 0, 24, .inl (u_24 6))), (c7, .inl (T 0, 24, .inl (u_24 7)))]) hD hS hA [3, 4, 5, 6, 7, 8, 9, 10] rfl
      refine va_calli (va_runV (As := [.int z_25, .int z_26, .int r_16, .int r_23]) (rest := []) ⟨hx, hb, hml, hown, hts⟩ (c_X2_append l D T ad sa av ta _ o1 (u_24 0 0) c1 c2 c3 c4 c5 c6 c7 (u_24 1) (u_24 2) (u_24 3) (u_24 4) (u_24 5) (u_24 6) (u_24 7) z_25 z_26 r_16 r_23 (by omega) hok (by rw [hzz]; exact hkk) (fun a => by rw [hzz, ← ez_3] at a; first | (exfalso; omega) | omega) (fun a => by rw [hzz, ← ez_3] at a; first | (exfalso; omega) | omega) hme) (cwV 4 hts gX10_build_X2_append rfl rfl rfl hv_X2_append ⟨(show _ ≤ ((d + 1) + 5 : Nat) from by (try dsimp only); omega), (show _ ≤ (32 * (d + 1) + 150 : Nat) from by (try dsimp only); omega)⟩) (pWk_V (q := (RX2, TX2, 8)) (ci := 1) (q0 := 3) hP hE hD hV hS hFc rfl rfl [3, 4, 5, 6, 7, 8, 9, 10] (by decide +kernel) rfl rfl) rfl rfl hl.1 rfl (lv_room (Nat.le_of_ble_eq_true rfl)) dX10_build_91 ⟨Nat.le_of_ble_eq_true rfl, Nat.le_of_ble_eq_true rfl⟩) hS (fun q _ h => hFc q h) hFc (fun r_27 u_28 t H1 locs ht hvm hr_27 hB hz1 hk1 hS => ?_)
      obtain ⟨haru_28, ⟨hszu_28, hok⟩, hapu_28, hme⟩ := hr_27
      have hapu_28 : (((u_24 0 0).toInt < 24 → (u_28 1) = upd (u_24 1) ((u_24 0 0).toNatClampNeg) z_25 ∧ (u_28 2) = upd (u_24 2) ((u_24 0 0).toNatClampNeg) z_26 ∧ (u_28 3) = upd (u_24 3) ((u_24 0 0).toNatClampNeg) (if 1 ≤ (nmT (z_25.toNatClampNeg)).toInt then r_16 else -1) ∧ (u_28 4) = upd (u_24 4) ((u_24 0 0).toNatClampNeg) (if (nmT (z_25.toNatClampNeg)).toInt = 2 then r_23 else -1)) ∧ (¬ (u_24 0 0).toInt < 24 → (u_28 1) = (u_24 1) ∧ (u_28 2) = (u_24 2) ∧ (u_28 3) = (u_24 3) ∧ (u_28 4) = (u_24 4))) := hapu_28
      have hme : (∀ j : Nat, (j : Int) < (u_28 0 0).toInt → mesP (u_28 1) (u_28 2) (u_28 3) (u_28 4) (u_28 5) (u_28 6) (u_28 7) j) := hme
      obtain ⟨hP1, hD1⟩ := hB
      rw [ht] at hP1
      obtain ⟨hP, hD⟩ := va_repl [(h0, .inr (7, [.int n, .ref yb, .ref ki, .ref nu, .int wd, .int (u_24 8 0), .int nb])), (ki, .inl (T 0, 24, .inl fk)), (nu, .inl (T 0, 24, .inl fn)), (o1, .inr (1, [.int (u_28 0 0), .ref c1, .ref c2, .ref c3, .ref c4, .ref c5, .ref c6, .ref c7])), (c1, .inl (T 0, 24, .inl (u_28 1))), (c2, .inl (T 0, 24, .inl (u_28 2))), (c3, .inl (T 0, 24, .inl (u_28 3))), (c4, .inl (T 0, 24, .inl (u_28 4))), (c5, .inl (T 0, 24, .inl (u_28 5))), (c6, .inl (T 0, 24, .inl (u_28 6))), (c7, .inl (T 0, 24, .inl (u_28 7)))] hP hD [3, 4, 5, 6, 7, 8, 9, 10] [3, 4, 5, 6, 7, 8, 9, 10] rfl (by decide +kernel) rfl rfl rfl hk1 hP1
      clear hP1 hD1 hFc
      generalize H1 = H at hP hS ⊢
      obtain ⟨hr9, hr8, hr7⟩ := haru_28.resolve_left (by intro h9; omega)
      have hr6 : r_27.toInt = ((u_24 0 0)).toInt := by rw [hr8]
      exact W.iret hx hb hr (fun t ht hW => ⟨⟨_, (fun k => [fun _ => (u_28 0 0), (u_28 1), (u_28 2), (u_28 3), (u_28 4), (u_28 5), (u_28 6), (u_28 7), fun _ => (u_24 8 0)].getD k f1), rfl, ⟨(show 0 ≤ r_27.toInt ∧ r_27.toInt < ((u_28 0 0)).toInt from by omega), (show nx.toInt < ((u_24 8 0)).toInt ∧ ((u_24 8 0)).toInt ≤ wd.toInt from by omega), (show smT fk ((u_24 8 0)).toNatClampNeg = smT fk nx.toNatClampNeg - 1 from by omega), (show ((u_28 0 0)).toInt = n0.toInt + (((u_24 8 0)).toInt - nx.toInt) from by omega), ⟨(show 0 ≤ ((u_28 0 0)).toInt ∧ ((u_28 0 0)).toInt ≤ 24 from by omega), (show okC (u_28 1) (u_28 3) (u_28 4) (u_28 5) from by first | exact hok | assumption)⟩, (fun A hA => by
                                                            have hnz : (nmT (fk nx.toNatClampNeg).toNatClampNeg).toInt = z_3.toInt := by rw [ez_3, ez_2]
                                                            obtain ⟨n1, c1, B1, hb1, hu1, hc1, hR1⟩ := hbAu_17 A hA
                                                            obtain ⟨n2, c2, B2, hb2, hu2, hc2, hR2⟩ := hbAu_24 B1 hR1
                                                            rw [tz] at hb1
                                                            have hn1 : (u_17 8 0).toNatClampNeg = n1 := by have t1 := tn (x := (u_17 8 0)) (by omega); omega
                                                            rw [hn1] at hb2
                                                            have hq := bld_push (K := fk) (V := fn) (nx := nx.toNatClampNeg) (cn := c1) (dn := c2) hR2 ez_25 ez_26 hc1 hc2 hr8 hr7 (hapu_28.1 (by omega))
                                                            exact ⟨_, _, _, bldR_2 (by omega) hb1 hb2, hu2, hq.1, hq.2⟩), hme⟩, by rw [ht]; exact hP.sub [0, 1, 2, 3, 4, 5, 6, 7, 8, 9, 10] rfl, hD.sub [0, 1, 2, 3, 4, 5, 6, 7, 8, 9, 10] (by decide +kernel) rfl⟩, hS.F ht⟩) hS.2.2 dX10_build_94
theorem cB_all (l : Launch) (D : va_G) (T : Nat → ClassId) (ad sa av : Nat → Nat) (ta : Nat) : ∀ d : Nat, cB_build l D T ad sa av ta d
  | 0 => by
    intro sz h0 yb ki nu n wd nx nb fk fn o1 n0 c1 c2 c3 c4 c5 c6 c7 f1 f2 f3 f4 f5 f6 f7 hn0 hok hnx hkT hsm hro hme hdep
    exfalso
    omega
  | d + 1 => by
    intro sz h0 yb ki nu n wd nx nb fk fn o1 n0 c1 c2 c3 c4 c5 c6 c7 f1 f2 f3 f4 f5 f6 f7 hn0 hok hnx hkT hsm hro hme hdep
    exact s_X10_build l D T ad sa av ta sz h0 yb ki nu n wd nx nb fk fn o1 n0 c1 c2 c3 c4 c5 c6 c7 f1 f2 f3 f4 f5 f6 f7 d hn0 hok hnx hkT hsm hro hme (by omega) (cB_all l D T ad sa av ta d)
theorem dX12_text_0 : decode cX12_text 0 = .ok (.aload_n 0, 1) := by decide +kernel
theorem dX12_text_1 : decode cX12_text 1 = .ok (.getfield 59, 3) := by decide +kernel
theorem dX12_text_10 : decode cX12_text 10 = .ok (.getfield 138, 3) := by decide +kernel
theorem dX12_text_13 : decode cX12_text 13 = .ok (.isub, 1) := by decide +kernel
theorem dX12_text_14 : decode cX12_text 14 = .ok (.invokevirtual 289, 3) := by decide +kernel
theorem dX12_text_17 : decode cX12_text 17 = .ok (.istore_n 1, 1) := by decide +kernel
theorem dX12_text_18 : decode cX12_text 18 = .ok (.aload_n 0, 1) := by decide +kernel
theorem dX12_text_19 : decode cX12_text 19 = .ok (.getfield 59, 3) := by decide +kernel
theorem dX12_text_22 : decode cX12_text 22 = .ok (.iconst 0, 1) := by decide +kernel
theorem dX12_text_23 : decode cX12_text 23 = .ok (.putfield 285, 3) := by decide +kernel
theorem dX12_text_26 : decode cX12_text 26 = .ok (.iload_n 1, 1) := by decide +kernel
theorem dX12_text_27 : decode cX12_text 27 = .ok (.iconst (-1), 1) := by decide +kernel
theorem dX12_text_28 : decode cX12_text 28 = .ok (.if_icmp .eq 8, 3) := by decide +kernel
theorem dX12_text_31 : decode cX12_text 31 = .ok (.bipush (-100), 2) := by decide +kernel
theorem dX12_text_33 : decode cX12_text 33 = .ok (.iload_n 1, 1) := by decide +kernel
theorem dX12_text_34 : decode cX12_text 34 = .ok (.isub, 1) := by decide +kernel
theorem dX12_text_35 : decode cX12_text 35 = .ok (.ireturn, 1) := by decide +kernel
theorem dX12_text_36 : decode cX12_text 36 = .ok (.aload_n 0, 1) := by decide +kernel
theorem dX12_text_37 : decode cX12_text 37 = .ok (.getfield 59, 3) := by decide +kernel
theorem dX12_text_4 : decode cX12_text 4 = .ok (.bipush 24, 2) := by decide +kernel
theorem dX12_text_40 : decode cX12_text 40 = .ok (.iconst 0, 1) := by decide +kernel
theorem dX12_text_41 : decode cX12_text 41 = .ok (.putfield 293, 3) := by decide +kernel
theorem dX12_text_44 : decode cX12_text 44 = .ok (.aload_n 0, 1) := by decide +kernel
theorem dX12_text_45 : decode cX12_text 45 = .ok (.getfield 59, 3) := by decide +kernel
theorem dX12_text_48 : decode cX12_text 48 = .ok (.aload_n 0, 1) := by decide +kernel
theorem dX12_text_49 : decode cX12_text 49 = .ok (.getfield 32, 3) := by decide +kernel
theorem dX12_text_52 : decode cX12_text 52 = .ok (.invokevirtual 296, 3) := by decide +kernel
theorem dX12_text_55 : decode cX12_text 55 = .ok (.ireturn, 1) := by decide +kernel
theorem dX12_text_6 : decode cX12_text 6 = .ok (.aload_n 0, 1) := by decide +kernel
theorem dX12_text_7 : decode cX12_text 7 = .ok (.getfield 32, 3) := by decide +kernel
set_option maxRecDepth 20000 in
theorem ggX12_text_X10_build : GoodIn wsX12_text wsX10_build := goodIn_r _ [103, 104, 11, 14, 19, 18, 105, 101, 102, 9, 106, 107, 108, 109, 110, 111, 112, 113, 114, 115, 116, 117, 118, 119, 120, 121, 122, 123, 124, 125, 126, 127, 128, 129, 130, 131, 132, 133, 26, 134, 135, 136, 25, 27, 156, 157, 158, 159, 160, 161, 162, 148, 149, 150, 151, 152, 153, 154, 155] rfl (by decide +kernel)
set_option maxRecDepth 40000 in
theorem ggX12_text_X10_scan_0 : GoodIn wsX12_text [.code yX10_scan cX10_scan 9 (some .int)] := goodIn_r _ [10] rfl (by decide +kernel)
set_option maxRecDepth 40000 in
theorem ggX12_text_X10_scan_1 : GoodIn wsX12_text wsX10_scan_r1 := goodIn_r _ [11, 12, 13, 14, 15, 16, 17, 18, 19, 20, 21, 22, 9, 23, 24, 25, 26, 27, 28, 29, 30, 31, 32, 33] rfl (by decide +kernel)
set_option maxRecDepth 40000 in
theorem ggX12_text_X10_scan_2 : GoodIn wsX12_text wsX10_scan_r2 := goodIn_r _ [34, 35, 36, 37, 38, 39, 40, 41, 42, 43, 44, 45, 46, 47, 48, 49, 50, 51, 52, 53, 54, 55, 56, 57] rfl (by decide +kernel)
set_option maxRecDepth 40000 in
theorem ggX12_text_X10_scan_3 : GoodIn wsX12_text wsX10_scan_r3 := goodIn_r _ [58, 59, 60, 61, 62, 63, 64, 65, 66, 67, 68, 69, 70, 71, 72, 73, 74, 75, 76, 77, 78, 79, 80, 81] rfl (by decide +kernel)
set_option maxRecDepth 40000 in
theorem ggX12_text_X10_scan_4 : GoodIn wsX12_text wsX10_scan_r4 := goodIn_r _ [82, 83, 84, 85, 86, 87, 88, 89, 90, 91, 92, 93, 94, 95, 96, 97, 98, 99] rfl (by decide +kernel)
set_option maxRecDepth 40000 in
theorem ggX12_text_X10_scan_5 : GoodIn wsX12_text wsX100 := goodIn_r _ [156, 157, 158, 159, 160, 161, 162] rfl (by decide +kernel)
set_option maxRecDepth 40000 in
theorem ggX12_text_X10_scan : GoodIn wsX12_text wsX10_scan := (goodIn_app ggX12_text_X10_scan_0 (goodIn_app (goodIn_app ggX12_text_X10_scan_1 (goodIn_app ggX12_text_X10_scan_2 (goodIn_app ggX12_text_X10_scan_3 ggX12_text_X10_scan_4))) ggX12_text_X10_scan_5))
set_option maxRecDepth 20000 in
theorem gX12_text_X10_build : GoodIn wsX12_text (wsV RX12 296 RX10 yX10_build wsX10_build) := goodIn_app (goodIn_r _ [100, 101, 102, 9] rfl (by decide +kernel)) ggX12_text_X10_build
set_option maxRecDepth 20000 in
theorem gX12_text_X10_scan : GoodIn wsX12_text (wsV RX12 289 RX10 yX10_scan wsX10_scan) := goodIn_app (goodIn_r _ [6, 7, 8, 9] rfl (by decide +kernel)) ggX12_text_X10_scan
theorem hv_X10_scan : yX10_scan.cls = RX10 ∧ yX10_scan.cls ≠ "java/lang/invoke/MethodHandle" ∧ yX10_scan.cls ≠ "java/lang/invoke/VarHandle" ∧ (parseMethodDescriptor yX10_scan.desc).map (fun d => d.parameters.length) = some 1 := by decide +kernel
set_option maxRecDepth 20000 in
theorem in_X12_text_X10 : ∀ w ∈ wsX100, w ∈ wsX12_text := sub_r [156, 157, 158, 159, 160, 161, 162] rfl
set_option maxRecDepth 20000 in
theorem in_X12_text_X12 : ∀ w ∈ wsX120, w ∈ wsX12_text := sub_r [137, 138, 139, 140, 141, 142, 143, 144, 145, 146, 147] rfl
set_option maxRecDepth 20000 in
theorem in_X12_text_X2 : ∀ w ∈ wsX20, w ∈ wsX12_text := sub_r [148, 149, 150, 151, 152, 153, 154, 155] rfl
set_option maxHeartbeats 4000000 in
set_option maxRecDepth 100000 in
theorem c_X12_text (l : Launch) (D : va_G) (T : Nat → ClassId) (ad sa av : Nat → Nat) (ta : Nat) (sz : Nat) (h0 : Nat) (tp : Nat) (fs0 : List Value) (yb : Nat) (ki : Nat) (nu : Nat) (n : Int32) (wd : Int32) (nx : Int32) (nb : Int32) (fb : Nat → Int32) (fk : Nat → Int32) (fn : Nat → Int32) (cl : Nat) (n0 : Int32) (c1 : Nat) (c2 : Nat) (c3 : Nat) (c4 : Nat) (c5 : Nat) (c6 : Nat) (c7 : Nat) (f1 : Nat → Int32) (f2 : Nat → Int32) (f3 : Nat → Int32) (f4 : Nat → Int32) (f5 : Nat → Int32) (f6 : Nat → Int32) (f7 : Nat → Int32) (e0_4 : fs0[4]? = some (.ref cl)) (e0_8 : fs0[8]? = some (.ref tp)) (hn : 0 ≤ n.toInt ∧ n.toInt ≤ 120) (hn0 : 0 ≤ n0.toInt ∧ n0.toInt ≤ 24) (hok : okC f1 f3 f4 f5) (hme : ∀ j : Nat, (j : Int) < n0.toInt → mesP f1 f2 f3 f4 f5 f6 f7 j) : Met l yX12_text wsX12_text ({ frames := 30, cells := 0, slots := 0, locals := 943 }) (pWk [.ref h0] D T [(h0, .inr (9, fs0)), (tp, .inr (7, [.int n, .ref yb, .ref ki, .ref nu, .int wd, .int nx, .int nb])), (yb, .inl (T 0, 120, .inl fb)), (ki, .inl (T 0, 24, .inl fk)), (nu, .inl (T 0, 24, .inl fn)), (cl, .inr (1, [.int n0, .ref c1, .ref c2, .ref c3, .ref c4, .ref c5, .ref c6, .ref c7])), (c1, .inl (T 0, 24, .inl f1)), (c2, .inl (T 0, 24, .inl f2)), (c3, .inl (T 0, 24, .inl f3)), (c4, .inl (T 0, 24, .inl f4)), (c5, .inl (T 0, 24, .inl f5)), (c6, .inl (T 0, 24, .inl f6)), (c7, .inl (T 0, 24, .inl f7))] sz ad sa av ta) (va_Qi (fun (r : Int32) (u : Nat → Nat → Int32) => ((0 ≤ (u 0 0).toInt ∧ (u 0 0).toInt ≤ 24) ∧ okC (u 1) (u 3) (u 4) (u 5)) ∧ textC fb n n0 r (u 0 0) f1 f2 f3 f4 (u 1) (u 2) (u 3) (u 4) ∧ (∀ j : Nat, (j : Int) < (u 0 0).toInt → mesP (u 1) (u 2) (u 3) (u 4) (u 5) (u 6) (u 7) j)) (bW D (va_A [(h0, .inr (9, fs0)), (tp, .inr (7, [.int n, .ref yb, .ref ki, .ref nu, .int wd, .int nx, .int nb])), (yb, .inl (T 0, 120, .inl fb)), (ki, .inl (T 0, 24, .inl fk)), (nu, .inl (T 0, 24, .inl fn)), (cl, .inr (1, [.int n0, .ref c1, .ref c2, .ref c3, .ref c4, .ref c5, .ref c6, .ref c7])), (c1, .inl (T 0, 24, .inl f1)), (c2, .inl (T 0, 24, .inl f2)), (c3, .inl (T 0, 24, .inl f3)), (c4, .inl (T 0, 24, .inl f4)), (c5, .inl (T 0, 24, .inl f5)), (c6, .inl (T 0, 24, .inl f6)), (c7, .inl (T 0, 24, .inl f7))] sz) (fun (u : Nat → Nat → Int32) => [(h0, .inr (9, fs0)), (tp, .inr (7, [.int 0, .ref yb, .ref ki, .ref nu, .int (u 9 0), .int (u 8 0), .int (u 10 0)])), (yb, .inl (T 0, 120, .inl fb)), (ki, .inl (T 0, 24, .inl (u 11))), (nu, .inl (T 0, 24, .inl (u 12))), (cl, .inr (1, [.int (u 0 0), .ref c1, .ref c2, .ref c3, .ref c4, .ref c5, .ref c6, .ref c7])), (c1, .inl (T 0, 24, .inl (u 1))), (c2, .inl (T 0, 24, .inl (u 2))), (c3, .inl (T 0, 24, .inl (u 3))), (c4, .inl (T 0, 24, .inl (u 4))), (c5, .inl (T 0, 24, .inl (u 5))), (c6, .inl (T 0, 24, .inl (u 6))), (c7, .inl (T 0, 24, .inl (u 7)))])) (va_A [(h0, .inr (9, fs0)), (tp, .inr (7, [.int n, .ref yb, .ref ki, .ref nu, .int wd, .int nx, .int nb])), (yb, .inl (T 0, 120, .inl fb)), (ki, .inl (T 0, 24, .inl fk)), (nu, .inl (T 0, 24, .inl fn)), (cl, .inr (1, [.int n0, .ref c1, .ref c2, .ref c3, .ref c4, .ref c5, .ref c6, .ref c7])), (c1, .inl (T 0, 24, .inl f1)), (c2, .inl (T 0, 24, .inl f2)), (c3, .inl (T 0, 24, .inl f3)), (c4, .inl (T 0, 24, .inl f4)), (c5, .inl (T 0, 24, .inl f5)), (c6, .inl (T 0, 24, .inl f6)), (c7, .inl (T 0, 24, .inl f7))] sz)) 0 0 (va_A [(h0, .inr (9, fs0)), (tp, .inr (7, [.int n, .ref yb, .ref ki, .ref nu, .int wd, .int nx, .int nb])), (yb, .inl (T 0, 120, .inl fb)), (ki, .inl (T 0, 24, .inl fk)), (nu, .inl (T 0, 24, .inl fn)), (cl, .inr (1, [.int n0, .ref c1, .ref c2, .ref c3, .ref c4, .ref c5, .ref c6, .ref c7])), (c1, .inl (T 0, 24, .inl f1)), (c2, .inl (T 0, 24, .inl f2)), (c3, .inl (T 0, 24, .inl f3)), (c4, .inl (T 0, 24, .inl f4)), (c5, .inl (T 0, 24, .inl f5)), (c6, .inl (T 0, 24, .inl f6)), (c7, .inl (T 0, 24, .inl f7))] sz) := by
  refine Met.ofW (cc := cX12_text) (maxL := 2) (ret := (some .int)) (by decide +kernel) rfl ?_
  intro p e s m args below meth c s₁ B hml hv
  obtain ⟨rfl, hsz, hP, hE, hD0, hV⟩ := hv
  have hx := B.exec
  have hb := B.bytes
  have hr := B.returns
  have hts := atoms_spec (ws := wsX12_text) B.pre
  have hown : s.vm.findClass RX12 = some m.cls := findClass_of_methodNamed B.named
  have hlocks := B.notSynchronized
  subst hsz
  have hD := hD0.self (sz := s.heap.size)
  generalize hAe : va_A [(h0, .inr (9, fs0)), (tp, .inr (7, [.int n, .ref yb, .ref ki, .ref nu, .int wd, .int nx, .int nb])), (yb, .inl (T 0, 120, .inl fb)), (ki, .inl (T 0, 24, .inl fk)), (nu, .inl (T 0, 24, .inl fn)), (cl, .inr (1, [.int n0, .ref c1, .ref c2, .ref c3, .ref c4, .ref c5, .ref c6, .ref c7])), (c1, .inl (T 0, 24, .inl f1)), (c2, .inl (T 0, 24, .inl f2)), (c3, .inl (T 0, 24, .inl f3)), (c4, .inl (T 0, 24, .inl f4)), (c5, .inl (T 0, 24, .inl f5)), (c6, .inl (T 0, 24, .inl f6)), (c7, .inl (T 0, 24, .inl f7))] s.heap.size = A at hD hV ⊢
  have hA : ∀ q : Nat, s.heap.size ≤ q → A q := fun q h => by rw [← hAe]; exact Or.inr h
  have hS : va_S A s.heap s.heap [] := va_S.rf
  have hP : va_P D vwCl [(h0, .inr (9, fs0)), (tp, .inr (7, [.int n, .ref yb, .ref ki, .ref nu, .int wd, .int nx, .int nb])), (yb, .inl (T 0, 120, .inl fb)), (ki, .inl (T 0, 24, .inl fk)), (nu, .inl (T 0, 24, .inl fn)), (cl, .inr (1, [.int n0, .ref c1, .ref c2, .ref c3, .ref c4, .ref c5, .ref c6, .ref c7])), (c1, .inl (T 0, 24, .inl f1)), (c2, .inl (T 0, 24, .inl f2)), (c3, .inl (T 0, 24, .inl f3)), (c4, .inl (T 0, 24, .inl f4)), (c5, .inl (T 0, 24, .inl f5)), (c6, .inl (T 0, 24, .inl f6)), (c7, .inl (T 0, 24, .inl f7))] s.heap := hP
  have hl := lv_entry ([.ref h0]) (n := 2) (Nat.le_of_ble_eq_true rfl)
  rw [lg_entry_eq]
  generalize (lg_sl ([.ref h0]) ++ List.replicate (2 - (lg_sl ([.ref h0])).length) Slot.unset).toArray = ls at hl ⊢
  have hl : lv_has ls 2 [(0, .ref h0)] := hl
  clear hD0
  refine lv_aload_n hx hb dX12_text_0 rfl (lv_at hl 0 rfl) ?_
  refine va_get (D := D) (ci := 9) (v := .ref tp) (C := RX12) (T := TX12) (N := 11) hx hb hts in_X12_text_X12 hown hE.1 hP 0 rfl rfl 8 (by decide +kernel) (hts (.fieldLink RX12 59 "ClauseBook" "tape" "LClauseBook$Tape;") (List.mem_of_getElem? (i := 1) rfl)) (fun _ h9 => h9) e0_8 dX12_text_1 ?_
  refine lv_bipush (v := 24) hx hb dX12_text_4 (by decide +kernel) ?_
  refine lv_aload_n hx hb dX12_text_6 rfl (lv_at hl 0 rfl) ?_
  refine va_get (D := D) (ci := 9) (v := .ref cl) (C := RX12) (T := TX12) (N := 11) hx hb hts in_X12_text_X12 hown hE.1 hP 0 rfl rfl 4 (by decide +kernel) (hts (.fieldLink RX12 32 "ClauseBook" "clauses" "LClauseBook$Clauses;") (List.mem_of_getElem? (i := 2) rfl)) (fun _ h9 => h9) e0_4 dX12_text_7 ?_
  refine va_get (D := D) (ci := 1) (v := .int n0) (C := RX2) (T := TX2) (N := 8) hx hb hts in_X12_text_X2 hown hE.1 hP 5 rfl rfl 0 (by decide +kernel) (hts (.fieldLink RX12 138 "ClauseBook$Clauses" "size" "I") (List.mem_of_getElem? (i := 3) rfl)) (fun _ h9 => h9) rfl dX12_text_10 ?_
  refine lv_isub hx hb dX12_text_13 ?_
  have hs9 : ((24 : Int32) - n0).toInt = 24 - n0.toInt := by rw [fb_subI (by rw [ti_24]; omega) (by rw [ti_24]; omega), ti_24]
  have hFc := va_free (wc := [(tp, .inr (7, [.int n, .ref yb, .ref ki, .ref nu, .int wd, .int nx, .int nb])), (yb, .inl (T 0, 120, .inl fb)), (ki, .inl (T 0, 24, .inl fk)), (nu, .inl (T 0, 24, .inl fn))]) hD hS hA [1, 2, 3, 4] rfl
  refine va_calli (va_runV (As := [.int (24 - n0)]) (rest := []) ⟨hx, hb, hml, hown, hts⟩ (c_X10_scan l D T ad sa av ta _ tp yb ki nu n wd nx nb fb fk fn (24 - n0) (by omega) (by omega)) (cwV 1 hts gX12_text_X10_scan rfl rfl rfl hv_X10_scan ⟨Nat.le_of_ble_eq_true rfl, Nat.le_of_ble_eq_true rfl⟩) (pWk_V (q := (RX10, TX10, 7)) (ci := 7) (q0 := 1) hP hE hD hV hS hFc rfl rfl [1, 2, 3, 4] (by decide +kernel) rfl rfl) rfl rfl hl.1 rfl (lv_room (Nat.le_of_ble_eq_true rfl)) dX12_text_14 ⟨Nat.le_of_ble_eq_true rfl, Nat.le_of_ble_eq_true rfl⟩) hS (fun q _ h => hFc q h) hFc (fun r_1 u_2 t H1 locs ht hvm hr_1 hB hz1 hk1 hS => ?_)
  obtain ⟨n_3, n_4, f_5, f_6⟩ := u_2
  have hqr_1 : (r_1.toInt = -1 ∧ txtK fb (n).toNatClampNeg ((24 - n0)).toInt f_5 f_6 n_3.toNatClampNeg ∧ (1 ≤ n_3.toInt ∧ n_3.toInt ≤ ((24 - n0)).toInt) ∧ okT f_5 n_3.toNatClampNeg ∧ smT f_5 n_3.toNatClampNeg = -1) ∨ (0 ≤ r_1.toInt ∧ txtF fb (n).toNatClampNeg ((24 - n0)).toInt r_1.toNatClampNeg) := hr_1
  obtain ⟨hP1, hD1⟩ := hB
  rw [ht] at hP1
  obtain ⟨hP, hD⟩ := va_repl [(h0, .inr (9, fs0)), (tp, .inr (7, [.int n, .ref yb, .ref ki, .ref nu, .int n_3, .int nx, .int n_4])), (yb, .inl (T 0, 120, .inl fb)), (ki, .inl (T 0, 24, .inl f_5)), (nu, .inl (T 0, 24, .inl f_6)), (cl, .inr (1, [.int n0, .ref c1, .ref c2, .ref c3, .ref c4, .ref c5, .ref c6, .ref c7])), (c1, .inl (T 0, 24, .inl f1)), (c2, .inl (T 0, 24, .inl f2)), (c3, .inl (T 0, 24, .inl f3)), (c4, .inl (T 0, 24, .inl f4)), (c5, .inl (T 0, 24, .inl f5)), (c6, .inl (T 0, 24, .inl f6)), (c7, .inl (T 0, 24, .inl f7))] hP hD [1, 2, 3, 4] [1, 2, 3, 4] rfl (by decide +kernel) rfl rfl rfl hk1 hP1
  clear hP1 hD1 hFc
  generalize H1 = H at hP hS ⊢
  refine lv_istore_n (lv' := [(1, .int r_1), (0, .ref h0)]) hx hb dX12_text_17 rfl hl (by decide +kernel) rfl (fun ls hl => ?_)
  refine lv_aload_n hx hb dX12_text_18 rfl (lv_at hl 1 rfl) ?_
  refine va_get (D := D) (ci := 9) (v := .ref tp) (C := RX12) (T := TX12) (N := 11) hx hb hts in_X12_text_X12 hown hE.1 hP 0 rfl rfl 8 (by decide +kernel) (hts (.fieldLink RX12 59 "ClauseBook" "tape" "LClauseBook$Tape;") (List.mem_of_getElem? (i := 1) rfl)) (fun _ h9 => h9) e0_8 dX12_text_19 ?_
  refine lv_iconst (v := 0) hx hb dX12_text_22 (by decide +kernel) ?_
  refine va_put (D := D) (ci := 7) (v := .int 0) (ty := .int) (C := RX10) (T := TX10) (N := 7) hx hb hts in_X12_text_X10 tyX10 tyX10_ok nmX10 hown hE.1 hP hD hS 1 rfl rfl 0 (by decide +kernel) (hts (.fieldLink RX12 285 "ClauseBook$Tape" "size" "I") (List.mem_of_getElem? (i := 4) rfl)) (fun _ h9 => h9) rfl (by decide +kernel) rfl rfl (Nat.le_of_ble_eq_true rfl) dX12_text_23 (fun H locs hP hD hS => ?_)
  obtain ⟨hP, hD⟩ := wPD [(h0, .inr (9, fs0)), (tp, .inr (7, [.int 0, .ref yb, .ref ki, .ref nu, .int n_3, .int nx, .int n_4])), (yb, .inl (T 0, 120, .inl fb)), (ki, .inl (T 0, 24, .inl f_5)), (nu, .inl (T 0, 24, .inl f_6)), (cl, .inr (1, [.int n0, .ref c1, .ref c2, .ref c3, .ref c4, .ref c5, .ref c6, .ref c7])), (c1, .inl (T 0, 24, .inl f1)), (c2, .inl (T 0, 24, .inl f2)), (c3, .inl (T 0, 24, .inl f3)), (c4, .inl (T 0, 24, .inl f4)), (c5, .inl (T 0, 24, .inl f5)), (c6, .inl (T 0, 24, .inl f6)), (c7, .inl (T 0, 24, .inl f7))] hP hD rfl
  refine lv_iload_n hx hb dX12_text_26 rfl (lv_at hl 0 rfl) ?_
  refine lv_iconst (v := (-1)) hx hb dX12_text_27 (by decide +kernel) ?_
  refine lv_icmp_eq (tgt := 36) hx hb dX12_text_28 (by decide +kernel) (fun c_7 => ?_) (fun c_7 => ?_)
  · rw [fa_eq] at c_7
    try rw [ti_n1] at c_7
    obtain ⟨_, htk, hw9, hkT, hsm⟩ := hqr_1.resolve_right (fun h9 => by have h8 := h9.1; omega)
    rw [hs9] at htk
    refine lv_aload_n hx hb dX12_text_36 rfl (lv_at hl 1 rfl) ?_
    refine va_get (D := D) (ci := 9) (v := .ref tp) (C := RX12) (T := TX12) (N := 11) hx hb hts in_X12_text_X12 hown hE.1 hP 0 rfl rfl 8 (by decide +kernel) (hts (.fieldLink RX12 59 "ClauseBook" "tape" "LClauseBook$Tape;") (List.mem_of_getElem? (i := 1) rfl)) (fun _ h9 => h9) e0_8 dX12_text_37 ?_
    refine lv_iconst (v := 0) hx hb dX12_text_40 (by decide +kernel) ?_
    refine va_put (D := D) (ci := 7) (v := .int 0) (ty := .int) (C := RX10) (T := TX10) (N := 7) hx hb hts in_X12_text_X10 tyX10 tyX10_ok nmX10 hown hE.1 hP hD hS 1 rfl rfl 5 (by decide +kernel) (hts (.fieldLink RX12 293 "ClauseBook$Tape" "next" "I") (List.mem_of_getElem? (i := 5) rfl)) (fun _ h9 => h9) rfl (by decide +kernel) rfl rfl (Nat.le_of_ble_eq_true rfl) dX12_text_41 (fun H locs hP hD hS => ?_)
    obtain ⟨hP, hD⟩ := wPD [(h0, .inr (9, fs0)), (tp, .inr (7, [.int 0, .ref yb, .ref ki, .ref nu, .int n_3, .int 0, .int n_4])), (yb, .inl (T 0, 120, .inl fb)), (ki, .inl (T 0, 24, .inl f_5)), (nu, .inl (T 0, 24, .inl f_6)), (cl, .inr (1, [.int n0, .ref c1, .ref c2, .ref c3, .ref c4, .ref c5, .ref c6, .ref c7])), (c1, .inl (T 0, 24, .inl f1)), (c2, .inl (T 0, 24, .inl f2)), (c3, .inl (T 0, 24, .inl f3)), (c4, .inl (T 0, 24, .inl f4)), (c5, .inl (T 0, 24, .inl f5)), (c6, .inl (T 0, 24, .inl f6)), (c7, .inl (T 0, 24, .inl f7))] hP hD rfl
    refine lv_aload_n hx hb dX12_text_44 rfl (lv_at hl 1 rfl) ?_
    refine va_get (D := D) (ci := 9) (v := .ref tp) (C := RX12) (T := TX12) (N := 11) hx hb hts in_X12_text_X12 hown hE.1 hP 0 rfl rfl 8 (by decide +kernel) (hts (.fieldLink RX12 59 "ClauseBook" "tape" "LClauseBook$Tape;") (List.mem_of_getElem? (i := 1) rfl)) (fun _ h9 => h9) e0_8 dX12_text_45 ?_
    refine lv_aload_n hx hb dX12_text_48 rfl (lv_at hl 1 rfl) ?_
    refine va_get (D := D) (ci := 9) (v := .ref cl) (C := RX12) (T := TX12) (N := 11) hx hb hts in_X12_text_X12 hown hE.1 hP 0 rfl rfl 4 (by decide +kernel) (hts (.fieldLink RX12 32 "ClauseBook" "clauses" "LClauseBook$Clauses;") (List.mem_of_getElem? (i := 2) rfl)) (fun _ h9 => h9) e0_4 dX12_text_49 ?_
    have hFc := va_free (wc := [(tp, .inr (7, [.int 0, .ref yb, .ref ki, .ref nu, .int n_3, .int 0, .int n_4])), (ki, .inl (T 0, 24, .inl f_5)), (nu, .inl (T 0, 24, .inl f_6)), (cl, .inr (1, [.int n0, .ref c1, .ref c2, .ref c3, .ref c4, .ref c5, .ref c6, .ref c7])), (c1, .inl (T 0, 24, .inl f1)), (c2, .inl (T 0, 24, .inl f2)), (c3, .inl (T 0, 24, .inl f3)), (c4, .inl (T 0, 24, .inl f4)), (c5, .inl (T 0, 24, .inl f5)), (c6, .inl (T 0, 24, .inl f6)), (c7, .inl (T 0, 24, .inl f7))]) hD hS hA [1, 3, 4, 5, 6, 7, 8, 9, 10, 11, 12] rfl
    refine va_calli (va_runV (As := [.ref cl]) (rest := []) ⟨hx, hb, hml, hown, hts⟩ (cB_all l D T ad sa av ta 24 _ tp yb ki nu 0 n_3 0 n_4 f_5 f_6 cl n0 c1 c2 c3 c4 c5 c6 c7 f1 f2 f3 f4 f5 f6 f7 (by omega) hok (by (try simp only [ti_0]); omega) hkT hsm (by (try simp only [ti_0]); omega) hme (by (try simp only [ti_0]); omega)) (cwV 1 hts gX12_text_X10_build rfl rfl rfl hv_X10_build ⟨Nat.le_of_ble_eq_true rfl, Nat.le_of_ble_eq_true rfl⟩) (pWk_V (q := (RX10, TX10, 7)) (ci := 7) (q0 := 1) hP hE hD hV hS hFc rfl rfl [1, 3, 4, 5, 6, 7, 8, 9, 10, 11, 12] (by decide +kernel) rfl rfl) rfl rfl hl.1 rfl (lv_room (Nat.le_of_ble_eq_true rfl)) dX12_text_52 ⟨Nat.le_of_ble_eq_true rfl, Nat.le_of_ble_eq_true rfl⟩) hS (fun q _ h => hFc q h) hFc (fun r_8 u_9 t H1 locs ht hvm hr_8 hB hz1 hk1 hS => ?_)
    obtain ⟨hrau_9, hrbu_9, hrcu_9, hrdu_9, ⟨hszu_9, hok⟩, hbAu_9, hme⟩ := hr_8
    have hbAu_9 : ∀ A : clsA, rlC n0 f1 f2 f3 f4 A → ∃ (nb rb : Nat) (B : clsA), bldR f_5 f_6 (0 : Int32).toNatClampNeg A nb rb B ∧ (u_9 8 0).toInt = nb ∧ r_8 = nI rb ∧ rlC (u_9 0 0) (u_9 1) (u_9 2) (u_9 3) (u_9 4) B := hbAu_9
    have hme : (∀ j : Nat, (j : Int) < (u_9 0 0).toInt → mesP (u_9 1) (u_9 2) (u_9 3) (u_9 4) (u_9 5) (u_9 6) (u_9 7) j) := hme
    obtain ⟨hP1, hD1⟩ := hB
    rw [ht] at hP1
    obtain ⟨hP, hD⟩ := va_repl [(h0, .inr (9, fs0)), (tp, .inr (7, [.int 0, .ref yb, .ref ki, .ref nu, .int n_3, .int (u_9 8 0), .int n_4])), (yb, .inl (T 0, 120, .inl fb)), (ki, .inl (T 0, 24, .inl f_5)), (nu, .inl (T 0, 24, .inl f_6)), (cl, .inr (1, [.int (u_9 0 0), .ref c1, .ref c2, .ref c3, .ref c4, .ref c5, .ref c6, .ref c7])), (c1, .inl (T 0, 24, .inl (u_9 1))), (c2, .inl (T 0, 24, .inl (u_9 2))), (c3, .inl (T 0, 24, .inl (u_9 3))), (c4, .inl (T 0, 24, .inl (u_9 4))), (c5, .inl (T 0, 24, .inl (u_9 5))), (c6, .inl (T 0, 24, .inl (u_9 6))), (c7, .inl (T 0, 24, .inl (u_9 7)))] hP hD [1, 3, 4, 5, 6, 7, 8, 9, 10, 11, 12] [1, 3, 4, 5, 6, 7, 8, 9, 10, 11, 12] rfl (by decide +kernel) rfl rfl rfl hk1 hP1
    clear hP1 hD1 hFc
    generalize H1 = H at hP hS ⊢
    exact W.iret hx hb hr (fun t ht hW => ⟨⟨_, (fun k => [fun _ => (u_9 0 0), (u_9 1), (u_9 2), (u_9 3), (u_9 4), (u_9 5), (u_9 6), (u_9 7), fun _ => (u_9 8 0), fun _ => n_3, fun _ => n_4, f_5, f_6].getD k f1), rfl, ⟨⟨(show 0 ≤ ((u_9 0 0)).toInt ∧ ((u_9 0 0)).toInt ≤ 24 from by omega), (show okC (u_9 1) (u_9 3) (u_9 4) (u_9 5) from by first | exact hok | assumption)⟩, (Or.inr ⟨_, _, _, htk, (fun A hA => by
                                                            obtain ⟨nb, rb, B, hb1, hu1, hr1, hR1⟩ := hbAu_9 A hA
                                                            exact ⟨nb, rb, B, hb1, (by have t1 := tn (x := n_3) (by omega); omega), hr1, hR1⟩)⟩), hme⟩, by rw [ht]; exact hP.sub [0, 1, 2, 3, 4, 5, 6, 7, 8, 9, 10, 11, 12] rfl, hD.sub [0, 1, 2, 3, 4, 5, 6, 7, 8, 9, 10, 11, 12] (by decide +kernel) rfl⟩, hS.F ht⟩) hS.2.2 dX12_text_55
  · rw [fa_eq] at c_7
    try rw [ti_n1] at c_7
    have htf := (hqr_1.resolve_left (fun h9 => by have h8 := h9.1; omega))
    rw [hs9] at htf
    refine lv_bipush (v := (-100)) hx hb dX12_text_31 (by decide +kernel) ?_
    refine lv_iload_n hx hb dX12_text_33 rfl (lv_at hl 0 rfl) ?_
    refine lv_isub hx hb dX12_text_34 ?_
    exact W.iret hx hb hr (fun t ht hW => ⟨⟨_, (fun k => [fun _ => n0, f1, f2, f3, f4, f5, f6, f7, fun _ => nx, fun _ => n_3, fun _ => n_4, f_5, f_6].getD k f1), rfl, ⟨⟨(show 0 ≤ (n0).toInt ∧ (n0).toInt ≤ 24 from by omega), (show okC f1 f3 f4 f5 from by first | exact hok | assumption)⟩, (Or.inl ⟨_, htf.2, (by have t1 := tn (x := r_1) htf.1; have t2 := txtF_le htf.2; have t3 := tn (x := n) (by omega); rw [fb_subI (by rw [ti_n100]; omega) (by rw [ti_n100]; omega), ti_n100]; omega), ⟨rfl, rfl, rfl, rfl, rfl⟩⟩), hme⟩, by rw [ht]; exact hP.sub [0, 1, 2, 3, 4, 5, 6, 7, 8, 9, 10, 11, 12] rfl, hD.sub [0, 1, 2, 3, 4, 5, 6, 7, 8, 9, 10, 11, 12] (by decide +kernel) rfl⟩, hS.F ht⟩) hS.2.2 dX12_text_35
end
section
theorem loopRD {p : Program} {l : Launch} {e : Env} {R : Room} {s : State} {m : MethodId} {args : Array Value} {below : List Frame} {meth : Method} {c : Code} {H : Heap} {locs : List Loc} {cells slots : Nat} {Q : State → Prop} {pc : Nat} {cs : List Choice} {σ : Type} (I : σ → Array Slot → Prop) (μ : σ → Nat) (step : ∀ (x : σ) (ls : Array Slot) (d0 : Drawn), s.drawn.sameBut d0 cs → I x ls → (∀ (y : σ) (ls' : Array Slot) (d1 : Drawn), s.drawn.sameBut d1 cs → I y ls' → μ y < μ x → W p l e R (s.setDrawn d1) m args below meth c H locs cells slots Q (F0 m pc ls' [])) → W p l e R (s.setDrawn d0) m args below meth c H locs cells slots Q (F0 m pc ls [])) (x : σ) (ls : Array Slot) (d0 : Drawn) (hd : s.drawn.sameBut d0 cs) (h : I x ls) : W p l e R (s.setDrawn d0) m args below meth c H locs cells slots Q (F0 m pc ls []) := by
  have key : ∀ (n : Nat) (x : σ) (ls : Array Slot) (d0 : Drawn), s.drawn.sameBut d0 cs → μ x < n → I x ls → W p l e R (s.setDrawn d0) m args below meth c H locs cells slots Q (F0 m pc ls []) := by
    intro n
    induction n with
    | zero => intro x ls d0 hd h; exact absurd h (Nat.not_lt_zero _)
    | succ n ih => intro x ls d0 hd h hI; exact step x ls d0 hd hI (fun y ls' d1 hd1 hy hlt => ih y ls' d1 hd1 (by omega) hy)
  exact key _ x ls d0 hd (Nat.lt_succ_self _) h
theorem ti_2200 : (2200 : Int32).toInt = 2200 := by decide
theorem dX5_isNegative_0 : decode cX5_isNegative 0 = .ok (.dload_n 0, 1) := by decide +kernel
theorem dX5_isNegative_1 : decode cX5_isNegative 1 = .ok (.dconst 0, 1) := by decide +kernel
theorem dX5_isNegative_12 : decode cX5_isNegative 12 = .ok (.dconst 1, 1) := by decide +kernel
theorem dX5_isNegative_13 : decode cX5_isNegative 13 = .ok (.dload_n 0, 1) := by decide +kernel
theorem dX5_isNegative_14 : decode cX5_isNegative 14 = .ok (.ddiv, 1) := by decide +kernel
theorem dX5_isNegative_15 : decode cX5_isNegative 15 = .ok (.dconst 0, 1) := by decide +kernel
theorem dX5_isNegative_16 : decode cX5_isNegative 16 = .ok (.dcmp .g, 1) := by decide +kernel
theorem dX5_isNegative_17 : decode cX5_isNegative 17 = .ok (.ifCond .ge 7, 3) := by decide +kernel
theorem dX5_isNegative_2 : decode cX5_isNegative 2 = .ok (.dcmp .g, 1) := by decide +kernel
theorem dX5_isNegative_20 : decode cX5_isNegative 20 = .ok (.iconst 1, 1) := by decide +kernel
theorem dX5_isNegative_21 : decode cX5_isNegative 21 = .ok (.goto 4, 3) := by decide +kernel
theorem dX5_isNegative_24 : decode cX5_isNegative 24 = .ok (.iconst 0, 1) := by decide +kernel
theorem dX5_isNegative_25 : decode cX5_isNegative 25 = .ok (.ireturn, 1) := by decide +kernel
theorem dX5_isNegative_3 : decode cX5_isNegative 3 = .ok (.ifCond .lt 17, 3) := by decide +kernel
theorem dX5_isNegative_6 : decode cX5_isNegative 6 = .ok (.dload_n 0, 1) := by decide +kernel
theorem dX5_isNegative_7 : decode cX5_isNegative 7 = .ok (.dconst 0, 1) := by decide +kernel
theorem dX5_isNegative_8 : decode cX5_isNegative 8 = .ok (.dcmp .l, 1) := by decide +kernel
theorem dX5_isNegative_9 : decode cX5_isNegative 9 = .ok (.ifCond .ne 15, 3) := by decide +kernel
set_option maxHeartbeats 4000000 in
set_option maxRecDepth 100000 in
theorem c_X5_isNegative (l : Launch) (D : va_G) (T : Nat → ClassId) (sz : Nat) (x0 : UInt64)  : MetD lw_cs l yX5_isNegative wsX5_isNegative ({ frames := 0, cells := 0, slots := 0, locals := 0 }) (pW [.double x0] D T [] sz) (va_Qi (fun (r : Int32) (u : Unit) => True) (bW D (va_A [] sz) (fun (u : Unit) => ([] : va_W))) (va_A [] sz)) 0 0 (va_A [] sz) := by
  refine MetD.ofW (cc := cX5_isNegative) (maxL := 2) (ret := (some .boolean)) (by decide +kernel) rfl ?_
  intro p e s m args below meth c s₁ B hml hv hd0
  obtain ⟨rfl, hsz, hP, hE0, hD0⟩ := hv
  have hx := B.exec
  have hb := B.bytes
  have hr := B.returns
  have hts0 := atoms_spec (ws := wsX5_isNegative) B.pre
  have hown0 : s.vm.findClass RX5 = some m.cls := findClass_of_methodNamed B.named
  have hlocks := B.notSynchronized
  subst hsz
  have hD := hD0.self (sz := s.heap.size)
  generalize hAe : va_A [] s.heap.size = A at hD ⊢
  have hA : ∀ q : Nat, s.heap.size ≤ q → A q := fun q h => by rw [← hAe]; exact Or.inr h
  have hS : va_S A s.heap s.heap [] := va_S.rf
  have hP : va_P D vwCl [] s.heap := hP
  have hl := lv_entry ([.double x0]) (n := 2) (Nat.le_of_ble_eq_true rfl)
  rw [lg_entry_eq]
  generalize (lg_sl ([.double x0]) ++ List.replicate (2 - (lg_sl ([.double x0])).length) Slot.unset).toArray = ls at hl ⊢
  have hl : lv_has ls 2 [(0, .double x0)] := hl
  clear hD0
  have hts := dr_words hts0 s.drawn
  have hE : ekK D T (s.setDrawn s.drawn) := ekK.same (u := s) rfl hE0
  have hown : (s.setDrawn s.drawn).vm.findClass RX5 = some m.cls := hown0
  refine lv_dload_n hx hb dX5_isNegative_0 rfl (lv_at hl 0 rfl) ?_
  refine lv_dconst0 hx hb dX5_isNegative_1 ?_
  refine lv_dcmp hx hb dX5_isNegative_2 ?_
  refine lv_topi (fun z_1 ez_1 => ?_)
  refine lv_if_lt (tgt := 20) hx hb dX5_isNegative_3 (by decide +kernel) (fun c_2 => ?_) (fun c_2 => ?_)
  · rw [fa_lt] at c_2
    try rw [ti_0] at c_2
    refine lv_iconst (v := 1) hx hb dX5_isNegative_20 (by decide +kernel) ?_
    refine lv_goto (tgt := 25) hx hb dX5_isNegative_21 (by decide +kernel) ?_
    refine W.endD hd0 ?_
    exact W.zret hx hb hr rfl (fun t ht hW => ⟨⟨_, (), rfl, trivial, by rw [ht]; exact hP.sub [] rfl, hD.sub [] (by decide +kernel) rfl⟩, hS.F ht⟩) hS.2.2 dX5_isNegative_25
  · rw [fa_lt] at c_2
    try rw [ti_0] at c_2
    refine lv_dload_n hx hb dX5_isNegative_6 rfl (lv_at hl 0 rfl) ?_
    refine lv_dconst0 hx hb dX5_isNegative_7 ?_
    refine lv_dcmp hx hb dX5_isNegative_8 ?_
    refine lv_topi (fun z_3 ez_3 => ?_)
    refine lv_if_ne (tgt := 24) hx hb dX5_isNegative_9 (by decide +kernel) (fun c_4 => ?_) (fun c_4 => ?_)
    · rw [fa_eq] at c_4
      try rw [ti_0] at c_4
      refine lv_iconst (v := 0) hx hb dX5_isNegative_24 (by decide +kernel) ?_
      refine W.endD hd0 ?_
      exact W.zret hx hb hr rfl (fun t ht hW => ⟨⟨_, (), rfl, trivial, by rw [ht]; exact hP.sub [] rfl, hD.sub [] (by decide +kernel) rfl⟩, hS.F ht⟩) hS.2.2 dX5_isNegative_25
    · rw [fa_eq] at c_4
      try rw [ti_0] at c_4
      refine lv_dconst1 hx hb dX5_isNegative_12 ?_
      refine lv_dload_n hx hb dX5_isNegative_13 rfl (lv_at hl 0 rfl) ?_
      refine lv_ddiv_any hd0 lw_bits hx hb dX5_isNegative_14 (fun r_5 d_6 _ hd_6 => ?_)
      have hts := dr_words hts0 d_6
      have hE : ekK D T (s.setDrawn d_6) := ekK.same (u := s) rfl hE0
      have hown : (s.setDrawn d_6).vm.findClass RX5 = some m.cls := hown0
      refine lv_dconst0 hx hb dX5_isNegative_15 ?_
      refine lv_dcmp hx hb dX5_isNegative_16 ?_
      refine lv_topi (fun z_7 ez_7 => ?_)
      refine lv_if_ge (tgt := 24) hx hb dX5_isNegative_17 (by decide +kernel) (fun c_8 => ?_) (fun c_8 => ?_)
      · rw [fa_le] at c_8
        try rw [ti_0] at c_8
        refine lv_iconst (v := 0) hx hb dX5_isNegative_24 (by decide +kernel) ?_
        refine W.endD hd_6 ?_
        exact W.zret hx hb hr rfl (fun t ht hW => ⟨⟨_, (), rfl, trivial, by rw [ht]; exact hP.sub [] rfl, hD.sub [] (by decide +kernel) rfl⟩, hS.F ht⟩) hS.2.2 dX5_isNegative_25
      · rw [fa_le] at c_8
        try rw [ti_0] at c_8
        refine lv_iconst (v := 1) hx hb dX5_isNegative_20 (by decide +kernel) ?_
        refine lv_goto (tgt := 25) hx hb dX5_isNegative_21 (by decide +kernel) ?_
        refine W.endD hd_6 ?_
        exact W.zret hx hb hr rfl (fun t ht hW => ⟨⟨_, (), rfl, trivial, by rw [ht]; exact hP.sub [] rfl, hD.sub [] (by decide +kernel) rfl⟩, hS.F ht⟩) hS.2.2 dX5_isNegative_25
theorem dX5_packed_0 : decode cX5_packed 0 = .ok (.dload_n 0, 1) := by decide +kernel
theorem dX5_packed_1 : decode cX5_packed 1 = .ok (.dconst 0, 1) := by decide +kernel
theorem dX5_packed_101 : decode cX5_packed 101 = .ok (.goto (-35), 3) := by decide +kernel
theorem dX5_packed_104 : decode cX5_packed 104 = .ok (.dload 4, 2) := by decide +kernel
theorem dX5_packed_106 : decode cX5_packed 106 = .ok (.lconst 1, 1) := by decide +kernel
theorem dX5_packed_107 : decode cX5_packed 107 = .ok (.iload_n 2, 1) := by decide +kernel
theorem dX5_packed_108 : decode cX5_packed 108 = .ok (.lshl, 1) := by decide +kernel
theorem dX5_packed_109 : decode cX5_packed 109 = .ok (.l2d, 1) := by decide +kernel
theorem dX5_packed_11 : decode cX5_packed 11 = .ok (.dload_n 0, 1) := by decide +kernel
theorem dX5_packed_110 : decode cX5_packed 110 = .ok (.dmul, 1) := by decide +kernel
theorem dX5_packed_111 : decode cX5_packed 111 = .ok (.d2l, 1) := by decide +kernel
theorem dX5_packed_112 : decode cX5_packed 112 = .ok (.lstore 7, 2) := by decide +kernel
theorem dX5_packed_114 : decode cX5_packed 114 = .ok (.iload 6, 2) := by decide +kernel
theorem dX5_packed_116 : decode cX5_packed 116 = .ok (.iload_n 3, 1) := by decide +kernel
theorem dX5_packed_117 : decode cX5_packed 117 = .ok (.isub, 1) := by decide +kernel
theorem dX5_packed_118 : decode cX5_packed 118 = .ok (.i2l, 1) := by decide +kernel
theorem dX5_packed_119 : decode cX5_packed 119 = .ok (.iload_n 2, 1) := by decide +kernel
theorem dX5_packed_12 : decode cX5_packed 12 = .ok (.dstore 4, 2) := by decide +kernel
theorem dX5_packed_120 : decode cX5_packed 120 = .ok (.lshl, 1) := by decide +kernel
theorem dX5_packed_121 : decode cX5_packed 121 = .ok (.lload 7, 2) := by decide +kernel
theorem dX5_packed_123 : decode cX5_packed 123 = .ok (.ladd, 1) := by decide +kernel
theorem dX5_packed_124 : decode cX5_packed 124 = .ok (.lreturn, 1) := by decide +kernel
theorem dX5_packed_14 : decode cX5_packed 14 = .ok (.dload 4, 2) := by decide +kernel
theorem dX5_packed_16 : decode cX5_packed 16 = .ok (.dconst 0, 1) := by decide +kernel
theorem dX5_packed_17 : decode cX5_packed 17 = .ok (.dcmp .l, 1) := by decide +kernel
theorem dX5_packed_18 : decode cX5_packed 18 = .ok (.ifCond .ne 5, 3) := by decide +kernel
theorem dX5_packed_2 : decode cX5_packed 2 = .ok (.dcmp .g, 1) := by decide +kernel
theorem dX5_packed_21 : decode cX5_packed 21 = .ok (.lconst 0, 1) := by decide +kernel
theorem dX5_packed_22 : decode cX5_packed 22 = .ok (.lreturn, 1) := by decide +kernel
theorem dX5_packed_23 : decode cX5_packed 23 = .ok (.iconst 0, 1) := by decide +kernel
theorem dX5_packed_24 : decode cX5_packed 24 = .ok (.istore 6, 2) := by decide +kernel
theorem dX5_packed_26 : decode cX5_packed 26 = .ok (.iconst 0, 1) := by decide +kernel
theorem dX5_packed_27 : decode cX5_packed 27 = .ok (.istore 7, 2) := by decide +kernel
theorem dX5_packed_29 : decode cX5_packed 29 = .ok (.iload 7, 2) := by decide +kernel
theorem dX5_packed_3 : decode cX5_packed 3 = .ok (.ifCond .ge 8, 3) := by decide +kernel
theorem dX5_packed_31 : decode cX5_packed 31 = .ok (.sipush 2200, 3) := by decide +kernel
theorem dX5_packed_34 : decode cX5_packed 34 = .ok (.if_icmp .ge 29, 3) := by decide +kernel
theorem dX5_packed_37 : decode cX5_packed 37 = .ok (.dload 4, 2) := by decide +kernel
theorem dX5_packed_39 : decode cX5_packed 39 = .ok (.ldc2_w 24, 3) := by decide +kernel
theorem dX5_packed_42 : decode cX5_packed 42 = .ok (.dcmp .l, 1) := by decide +kernel
theorem dX5_packed_43 : decode cX5_packed 43 = .ok (.ifCond .lt 20, 3) := by decide +kernel
theorem dX5_packed_46 : decode cX5_packed 46 = .ok (.dload 4, 2) := by decide +kernel
theorem dX5_packed_48 : decode cX5_packed 48 = .ok (.ldc2_w 24, 3) := by decide +kernel
theorem dX5_packed_51 : decode cX5_packed 51 = .ok (.ddiv, 1) := by decide +kernel
theorem dX5_packed_52 : decode cX5_packed 52 = .ok (.dstore 4, 2) := by decide +kernel
theorem dX5_packed_54 : decode cX5_packed 54 = .ok (.iinc 6 1, 3) := by decide +kernel
theorem dX5_packed_57 : decode cX5_packed 57 = .ok (.iinc 7 1, 3) := by decide +kernel
theorem dX5_packed_6 : decode cX5_packed 6 = .ok (.dload_n 0, 1) := by decide +kernel
theorem dX5_packed_60 : decode cX5_packed 60 = .ok (.goto (-31), 3) := by decide +kernel
theorem dX5_packed_63 : decode cX5_packed 63 = .ok (.iconst 0, 1) := by decide +kernel
theorem dX5_packed_64 : decode cX5_packed 64 = .ok (.istore 7, 2) := by decide +kernel
theorem dX5_packed_66 : decode cX5_packed 66 = .ok (.iload 7, 2) := by decide +kernel
theorem dX5_packed_68 : decode cX5_packed 68 = .ok (.sipush 2200, 3) := by decide +kernel
theorem dX5_packed_7 : decode cX5_packed 7 = .ok (.dneg, 1) := by decide +kernel
theorem dX5_packed_71 : decode cX5_packed 71 = .ok (.if_icmp .ge 33, 3) := by decide +kernel
theorem dX5_packed_74 : decode cX5_packed 74 = .ok (.dload 4, 2) := by decide +kernel
theorem dX5_packed_76 : decode cX5_packed 76 = .ok (.dconst 1, 1) := by decide +kernel
theorem dX5_packed_77 : decode cX5_packed 77 = .ok (.dcmp .g, 1) := by decide +kernel
theorem dX5_packed_78 : decode cX5_packed 78 = .ok (.ifCond .ge 26, 3) := by decide +kernel
theorem dX5_packed_8 : decode cX5_packed 8 = .ok (.goto 4, 3) := by decide +kernel
theorem dX5_packed_81 : decode cX5_packed 81 = .ok (.iload 6, 2) := by decide +kernel
theorem dX5_packed_83 : decode cX5_packed 83 = .ok (.iload_n 3, 1) := by decide +kernel
theorem dX5_packed_84 : decode cX5_packed 84 = .ok (.if_icmp .le 20, 3) := by decide +kernel
theorem dX5_packed_87 : decode cX5_packed 87 = .ok (.dload 4, 2) := by decide +kernel
theorem dX5_packed_89 : decode cX5_packed 89 = .ok (.ldc2_w 24, 3) := by decide +kernel
theorem dX5_packed_92 : decode cX5_packed 92 = .ok (.dmul, 1) := by decide +kernel
theorem dX5_packed_93 : decode cX5_packed 93 = .ok (.dstore 4, 2) := by decide +kernel
theorem dX5_packed_95 : decode cX5_packed 95 = .ok (.iinc 6 (-1), 3) := by decide +kernel
theorem dX5_packed_98 : decode cX5_packed 98 = .ok (.iinc 7 1, 3) := by decide +kernel
set_option maxHeartbeats 4000000 in
set_option maxRecDepth 100000 in
theorem c_X5_packed (l : Launch) (D : va_G) (T : Nat → ClassId) (sz : Nat) (x0 : UInt64) (x1 : Int32) (x2 : Int32)  : MetD lw_cs l yX5_packed wsX5_packed ({ frames := 0, cells := 0, slots := 0, locals := 0 }) (pW [.double x0, .int x1, .int x2] D T [] sz) (va_Ql (fun (r : Int64) (u : Unit) => True) (bW D (va_A [] sz) (fun (u : Unit) => ([] : va_W))) (va_A [] sz)) 0 0 (va_A [] sz) := by
  refine MetD.ofW (cc := cX5_packed) (maxL := 9) (ret := (some .long)) (by decide +kernel) rfl ?_
  intro p e s m args below meth c s₁ B hml hv hd0
  obtain ⟨rfl, hsz, hP, hE0, hD0⟩ := hv
  have hx := B.exec
  have hb := B.bytes
  have hr := B.returns
  have hts0 := atoms_spec (ws := wsX5_packed) B.pre
  have hown0 : s.vm.findClass RX5 = some m.cls := findClass_of_methodNamed B.named
  have hlocks := B.notSynchronized
  subst hsz
  have hD := hD0.self (sz := s.heap.size)
  generalize hAe : va_A [] s.heap.size = A at hD ⊢
  have hA : ∀ q : Nat, s.heap.size ≤ q → A q := fun q h => by rw [← hAe]; exact Or.inr h
  have hS : va_S A s.heap s.heap [] := va_S.rf
  have hP : va_P D vwCl [] s.heap := hP
  have hl := lv_entry ([.double x0, .int x1, .int x2]) (n := 9) (Nat.le_of_ble_eq_true rfl)
  rw [lg_entry_eq]
  generalize (lg_sl ([.double x0, .int x1, .int x2]) ++ List.replicate (9 - (lg_sl ([.double x0, .int x1, .int x2])).length) Slot.unset).toArray = ls at hl ⊢
  have hl : lv_has ls 9 [(0, .double x0), (2, .int x1), (3, .int x2)] := hl
  clear hD0
  have hts := dr_words hts0 s.drawn
  have hE : ekK D T (s.setDrawn s.drawn) := ekK.same (u := s) rfl hE0
  have hown : (s.setDrawn s.drawn).vm.findClass RX5 = some m.cls := hown0
  refine lv_dload_n hx hb dX5_packed_0 rfl (lv_at hl 0 rfl) ?_
  refine lv_dconst0 hx hb dX5_packed_1 ?_
  refine lv_dcmp hx hb dX5_packed_2 ?_
  refine lv_topi (fun z_1 ez_1 => ?_)
  refine lv_if_ge (tgt := 11) hx hb dX5_packed_3 (by decide +kernel) (fun c_2 => ?_) (fun c_2 => ?_)
  · rw [fa_le] at c_2
    try rw [ti_0] at c_2
    refine lv_dload_n hx hb dX5_packed_11 rfl (lv_at hl 0 rfl) ?_
    refine lv_dstore (lv' := [(4, .double x0), (0, .double x0), (2, .int x1), (3, .int x2)]) hx hb dX5_packed_12 hl (by decide +kernel) rfl (fun ls hl => ?_)
    refine lv_dload hx hb dX5_packed_14 (lv_at hl 0 rfl) ?_
    refine lv_dconst0 hx hb dX5_packed_16 ?_
    refine lv_dcmp hx hb dX5_packed_17 ?_
    refine lv_topi (fun z_3 ez_3 => ?_)
    refine lv_if_ne (tgt := 23) hx hb dX5_packed_18 (by decide +kernel) (fun c_4 => ?_) (fun c_4 => ?_)
    · rw [fa_eq] at c_4
      try rw [ti_0] at c_4
      refine lv_iconst (v := 0) hx hb dX5_packed_23 (by decide +kernel) ?_
      refine lv_istore (lv' := [(6, .int 0), (4, .double x0), (0, .double x0), (2, .int x1), (3, .int x2)]) hx hb dX5_packed_24 hl (by decide +kernel) rfl (fun ls hl => ?_)
      refine lv_iconst (v := 0) hx hb dX5_packed_26 (by decide +kernel) ?_
      refine lv_istore (lv' := [(7, .int 0), (6, .int 0), (4, .double x0), (0, .double x0), (2, .int x1), (3, .int x2)]) hx hb dX5_packed_27 hl (by decide +kernel) rfl (fun ls hl => ?_)
      refine loopRD (cs := lw_cs) (σ := (Int32) × (Int32) × (UInt64)) (fun x9 ls => lv_has ls 9 [(7, .int x9.1), (6, .int x9.2.1), (4, .double x9.2.2), (0, .double x0), (2, .int x1), (3, .int x2)] ∧ (True)) (fun x9 => (2200 - x9.1.toInt).toNat) (fun x9 ls d_5 hd_5 hI ih => ?_) (0, 0, x0) ls _ hd0 ⟨lv_sub hl [0, 1, 2, 3, 4, 5] rfl, trivial⟩
      obtain ⟨ii, ex, mm⟩ := x9
      obtain ⟨hl, hinv⟩ := hI
      have hl : lv_has ls 9 [(7, .int ii), (6, .int ex), (4, .double mm), (0, .double x0), (2, .int x1), (3, .int x2)] := hl
      have hinv : True := hinv
      have hts := dr_words hts0 d_5
      have hE : ekK D T (s.setDrawn d_5) := ekK.same (u := s) rfl hE0
      have hown : (s.setDrawn d_5).vm.findClass RX5 = some m.cls := hown0
      refine lv_iload hx hb dX5_packed_29 (lv_at hl 0 rfl) ?_
      refine lv_sipush (v := 2200) hx hb dX5_packed_31 (by decide +kernel) ?_
      refine lv_icmp_ge (tgt := 63) hx hb dX5_packed_34 (by decide +kernel) (fun c_6 => ?_) (fun c_6 => ?_)
      · rw [fa_le] at c_6
        try rw [ti_2200] at c_6
        refine lv_iconst (v := 0) hx hb dX5_packed_63 (by decide +kernel) ?_
        refine lv_istore (lv' := [(7, .int 0), (6, .int ex), (4, .double mm), (0, .double x0), (2, .int x1), (3, .int x2)]) hx hb dX5_packed_64 hl (by decide +kernel) rfl (fun ls hl => ?_)
        refine loopRD (cs := lw_cs) (σ := (Int32) × (Int32) × (UInt64)) (fun x9 ls => lv_has ls 9 [(7, .int x9.1), (6, .int x9.2.1), (4, .double x9.2.2), (0, .double x0), (2, .int x1), (3, .int x2)] ∧ (True)) (fun x9 => (2200 - x9.1.toInt).toNat) (fun x9 ls d_7 hd_7 hI ih => ?_) (0, ex, mm) ls _ hd_5 ⟨lv_sub hl [0, 1, 2, 3, 4, 5] rfl, trivial⟩
        obtain ⟨ii, ex, mm⟩ := x9
        obtain ⟨hl, hinv⟩ := hI
        have hl : lv_has ls 9 [(7, .int ii), (6, .int ex), (4, .double mm), (0, .double x0), (2, .int x1), (3, .int x2)] := hl
        have hinv : True := hinv
        have hts := dr_words hts0 d_7
        have hE : ekK D T (s.setDrawn d_7) := ekK.same (u := s) rfl hE0
        have hown : (s.setDrawn d_7).vm.findClass RX5 = some m.cls := hown0
        refine lv_iload hx hb dX5_packed_66 (lv_at hl 0 rfl) ?_
        refine lv_sipush (v := 2200) hx hb dX5_packed_68 (by decide +kernel) ?_
        refine lv_icmp_ge (tgt := 104) hx hb dX5_packed_71 (by decide +kernel) (fun c_8 => ?_) (fun c_8 => ?_)
        · rw [fa_le] at c_8
          try rw [ti_2200] at c_8
          refine lv_dload hx hb dX5_packed_104 (lv_at hl 2 rfl) ?_
          refine lv_lconst (v := 1) hx hb dX5_packed_106 (by decide +kernel) ?_
          refine lv_iload_n hx hb dX5_packed_107 rfl (lv_at hl 4 rfl) ?_
          refine lv_lshl (v := (1 <<< ((x1 : Int32).toInt64 &&& 63))) hx hb dX5_packed_108 rfl ?_
          refine lv_l2d hx hb dX5_packed_109 ?_
          refine lv_dmul_any hd_7 lw_bits hx hb dX5_packed_110 (fun r_9 d_10 _ hd_10 => ?_)
          have hts := dr_words hts0 d_10
          have hE : ekK D T (s.setDrawn d_10) := ekK.same (u := s) rfl hE0
          have hown : (s.setDrawn d_10).vm.findClass RX5 = some m.cls := hown0
          refine lv_d2l hx hb dX5_packed_111 ?_
          refine lv_topl (fun z_11 ez_11 => ?_)
          refine lv_lstore (lv' := [(7, .long z_11), (6, .int ex), (4, .double mm), (0, .double x0), (2, .int x1), (3, .int x2)]) hx hb dX5_packed_112 hl (by decide +kernel) rfl (fun ls hl => ?_)
          refine lv_iload hx hb dX5_packed_114 (lv_at hl 1 rfl) ?_
          refine lv_iload_n hx hb dX5_packed_116 rfl (lv_at hl 5 rfl) ?_
          refine lv_isub hx hb dX5_packed_117 ?_
          refine lv_i2l hx hb dX5_packed_118 rfl ?_
          refine lv_iload_n hx hb dX5_packed_119 rfl (lv_at hl 4 rfl) ?_
          refine lv_lshl (v := (((ex - x2).toInt64) <<< ((x1 : Int32).toInt64 &&& 63))) hx hb dX5_packed_120 rfl ?_
          refine lv_lload hx hb dX5_packed_121 (lv_at hl 0 rfl) ?_
          refine lv_ladd hx hb dX5_packed_123 ?_
          refine W.endD hd_10 ?_
          exact W.lret hx hb hr (fun t ht hW => ⟨⟨_, (), rfl, trivial, by rw [ht]; exact hP.sub [] rfl, hD.sub [] (by decide +kernel) rfl⟩, hS.F ht⟩) hS.2.2 dX5_packed_124
        · rw [fa_le] at c_8
          try rw [ti_2200] at c_8
          refine lv_dload hx hb dX5_packed_74 (lv_at hl 2 rfl) ?_
          refine lv_dconst1 hx hb dX5_packed_76 ?_
          refine lv_dcmp hx hb dX5_packed_77 ?_
          refine lv_topi (fun z_12 ez_12 => ?_)
          refine lv_if_ge (tgt := 104) hx hb dX5_packed_78 (by decide +kernel) (fun c_13 => ?_) (fun c_13 => ?_)
          · rw [fa_le] at c_13
            try rw [ti_0] at c_13
            refine lv_dload hx hb dX5_packed_104 (lv_at hl 2 rfl) ?_
            refine lv_lconst (v := 1) hx hb dX5_packed_106 (by decide +kernel) ?_
            refine lv_iload_n hx hb dX5_packed_107 rfl (lv_at hl 4 rfl) ?_
            refine lv_lshl (v := (1 <<< ((x1 : Int32).toInt64 &&& 63))) hx hb dX5_packed_108 rfl ?_
            refine lv_l2d hx hb dX5_packed_109 ?_
            refine lv_dmul_any hd_7 lw_bits hx hb dX5_packed_110 (fun r_14 d_15 _ hd_15 => ?_)
            have hts := dr_words hts0 d_15
            have hE : ekK D T (s.setDrawn d_15) := ekK.same (u := s) rfl hE0
            have hown : (s.setDrawn d_15).vm.findClass RX5 = some m.cls := hown0
            refine lv_d2l hx hb dX5_packed_111 ?_
            refine lv_topl (fun z_16 ez_16 => ?_)
            refine lv_lstore (lv' := [(7, .long z_16), (6, .int ex), (4, .double mm), (0, .double x0), (2, .int x1), (3, .int x2)]) hx hb dX5_packed_112 hl (by decide +kernel) rfl (fun ls hl => ?_)
            refine lv_iload hx hb dX5_packed_114 (lv_at hl 1 rfl) ?_
            refine lv_iload_n hx hb dX5_packed_116 rfl (lv_at hl 5 rfl) ?_
            refine lv_isub hx hb dX5_packed_117 ?_
            refine lv_i2l hx hb dX5_packed_118 rfl ?_
            refine lv_iload_n hx hb dX5_packed_119 rfl (lv_at hl 4 rfl) ?_
            refine lv_lshl (v := (((ex - x2).toInt64) <<< ((x1 : Int32).toInt64 &&& 63))) hx hb dX5_packed_120 rfl ?_
            refine lv_lload hx hb dX5_packed_121 (lv_at hl 0 rfl) ?_
            refine lv_ladd hx hb dX5_packed_123 ?_
            refine W.endD hd_15 ?_
            exact W.lret hx hb hr (fun t ht hW => ⟨⟨_, (), rfl, trivial, by rw [ht]; exact hP.sub [] rfl, hD.sub [] (by decide +kernel) rfl⟩, hS.F ht⟩) hS.2.2 dX5_packed_124
          · rw [fa_le] at c_13
            try rw [ti_0] at c_13
            refine lv_iload hx hb dX5_packed_81 (lv_at hl 1 rfl) ?_
            refine lv_iload_n hx hb dX5_packed_83 rfl (lv_at hl 5 rfl) ?_
            refine lv_icmp_le (tgt := 104) hx hb dX5_packed_84 (by decide +kernel) (fun c_17 => ?_) (fun c_17 => ?_)
            · rw [fa_le] at c_17
              refine lv_dload hx hb dX5_packed_104 (lv_at hl 2 rfl) ?_
              refine lv_lconst (v := 1) hx hb dX5_packed_106 (by decide +kernel) ?_
              refine lv_iload_n hx hb dX5_packed_107 rfl (lv_at hl 4 rfl) ?_
              refine lv_lshl (v := (1 <<< ((x1 : Int32).toInt64 &&& 63))) hx hb dX5_packed_108 rfl ?_
              refine lv_l2d hx hb dX5_packed_109 ?_
              refine lv_dmul_any hd_7 lw_bits hx hb dX5_packed_110 (fun r_18 d_19 _ hd_19 => ?_)
              have hts := dr_words hts0 d_19
              have hE : ekK D T (s.setDrawn d_19) := ekK.same (u := s) rfl hE0
              have hown : (s.setDrawn d_19).vm.findClass RX5 = some m.cls := hown0
              refine lv_d2l hx hb dX5_packed_111 ?_
              refine lv_topl (fun z_20 ez_20 => ?_)
              refine lv_lstore (lv' := [(7, .long z_20), (6, .int ex), (4, .double mm), (0, .double x0), (2, .int x1), (3, .int x2)]) hx hb dX5_packed_112 hl (by decide +kernel) rfl (fun ls hl => ?_)
              refine lv_iload hx hb dX5_packed_114 (lv_at hl 1 rfl) ?_
              refine lv_iload_n hx hb dX5_packed_116 rfl (lv_at hl 5 rfl) ?_
              refine lv_isub hx hb dX5_packed_117 ?_
              refine lv_i2l hx hb dX5_packed_118 rfl ?_
              refine lv_iload_n hx hb dX5_packed_119 rfl (lv_at hl 4 rfl) ?_
              refine lv_lshl (v := (((ex - x2).toInt64) <<< ((x1 : Int32).toInt64 &&& 63))) hx hb dX5_packed_120 rfl ?_
              refine lv_lload hx hb dX5_packed_121 (lv_at hl 0 rfl) ?_
              refine lv_ladd hx hb dX5_packed_123 ?_
              refine W.endD hd_19 ?_
              exact W.lret hx hb hr (fun t ht hW => ⟨⟨_, (), rfl, trivial, by rw [ht]; exact hP.sub [] rfl, hD.sub [] (by decide +kernel) rfl⟩, hS.F ht⟩) hS.2.2 dX5_packed_124
            · rw [fa_le] at c_17
              refine lv_dload hx hb dX5_packed_87 (lv_at hl 2 rfl) ?_
              refine lv_ldc2d (v := 4611686018427387904) hx hb hown (hts (.constantDouble RX5 24 (4611686018427387904)) (List.mem_of_getElem? (i := 1) rfl)) dX5_packed_89 ?_
              refine lv_dmul_any hd_7 lw_bits hx hb dX5_packed_92 (fun r_21 d_22 _ hd_22 => ?_)
              have hts := dr_words hts0 d_22
              have hE : ekK D T (s.setDrawn d_22) := ekK.same (u := s) rfl hE0
              have hown : (s.setDrawn d_22).vm.findClass RX5 = some m.cls := hown0
              refine lv_dstore (lv' := [(4, .double r_21), (7, .int ii), (6, .int ex), (0, .double x0), (2, .int x1), (3, .int x2)]) hx hb dX5_packed_93 hl (by decide +kernel) rfl (fun ls hl => ?_)
              obtain ⟨z_23, ez_23⟩ : ∃ y : Int32, y = ex + (-1) := ⟨_, rfl⟩
              refine lv_iinc (v := z_23) (lv' := [(6, .int z_23), (4, .double r_21), (7, .int ii), (0, .double x0), (2, .int x1), (3, .int x2)]) hx hb dX5_packed_95 hl (k := 2) rfl (by rw [ez_23]; rfl) (by decide +kernel) rfl (fun ls hl => ?_)
              obtain ⟨z_24, ez_24⟩ : ∃ y : Int32, y = ii + 1 := ⟨_, rfl⟩
              refine lv_iinc (v := z_24) (lv' := [(7, .int z_24), (6, .int z_23), (4, .double r_21), (0, .double x0), (2, .int x1), (3, .int x2)]) hx hb dX5_packed_98 hl (k := 2) rfl (by rw [ez_24]; rfl) (by decide +kernel) rfl (fun ls hl => ?_)
              refine lv_goto (tgt := 66) hx hb dX5_packed_101 (by decide +kernel) ?_
              exact ih (z_24, z_23, r_21) ls _ hd_22 ⟨lv_sub hl [0, 1, 2, 3, 4, 5] rfl, trivial⟩ (by subst_vars; (try dsimp only); rw [inc1 (i := ii) (n := 3000) (by omega) (by decide +kernel)]; omega)
      · rw [fa_le] at c_6
        try rw [ti_2200] at c_6
        refine lv_dload hx hb dX5_packed_37 (lv_at hl 2 rfl) ?_
        refine lv_ldc2d (v := 4611686018427387904) hx hb hown (hts (.constantDouble RX5 24 (4611686018427387904)) (List.mem_of_getElem? (i := 1) rfl)) dX5_packed_39 ?_
        refine lv_dcmp hx hb dX5_packed_42 ?_
        refine lv_topi (fun z_25 ez_25 => ?_)
        refine lv_if_lt (tgt := 63) hx hb dX5_packed_43 (by decide +kernel) (fun c_26 => ?_) (fun c_26 => ?_)
        · rw [fa_lt] at c_26
          try rw [ti_0] at c_26
          refine lv_iconst (v := 0) hx hb dX5_packed_63 (by decide +kernel) ?_
          refine lv_istore (lv' := [(7, .int 0), (6, .int ex), (4, .double mm), (0, .double x0), (2, .int x1), (3, .int x2)]) hx hb dX5_packed_64 hl (by decide +kernel) rfl (fun ls hl => ?_)
          refine loopRD (cs := lw_cs) (σ := (Int32) × (Int32) × (UInt64)) (fun x9 ls => lv_has ls 9 [(7, .int x9.1), (6, .int x9.2.1), (4, .double x9.2.2), (0, .double x0), (2, .int x1), (3, .int x2)] ∧ (True)) (fun x9 => (2200 - x9.1.toInt).toNat) (fun x9 ls d_27 hd_27 hI ih => ?_) (0, ex, mm) ls _ hd_5 ⟨lv_sub hl [0, 1, 2, 3, 4, 5] rfl, trivial⟩
          obtain ⟨ii, ex, mm⟩ := x9
          obtain ⟨hl, hinv⟩ := hI
          have hl : lv_has ls 9 [(7, .int ii), (6, .int ex), (4, .double mm), (0, .double x0), (2, .int x1), (3, .int x2)] := hl
          have hinv : True := hinv
          have hts := dr_words hts0 d_27
          have hE : ekK D T (s.setDrawn d_27) := ekK.same (u := s) rfl hE0
          have hown : (s.setDrawn d_27).vm.findClass RX5 = some m.cls := hown0
          refine lv_iload hx hb dX5_packed_66 (lv_at hl 0 rfl) ?_
          refine lv_sipush (v := 2200) hx hb dX5_packed_68 (by decide +kernel) ?_
          refine lv_icmp_ge (tgt := 104) hx hb dX5_packed_71 (by decide +kernel) (fun c_28 => ?_) (fun c_28 => ?_)
          · rw [fa_le] at c_28
            try rw [ti_2200] at c_28
            refine lv_dload hx hb dX5_packed_104 (lv_at hl 2 rfl) ?_
            refine lv_lconst (v := 1) hx hb dX5_packed_106 (by decide +kernel) ?_
            refine lv_iload_n hx hb dX5_packed_107 rfl (lv_at hl 4 rfl) ?_
            refine lv_lshl (v := (1 <<< ((x1 : Int32).toInt64 &&& 63))) hx hb dX5_packed_108 rfl ?_
            refine lv_l2d hx hb dX5_packed_109 ?_
            refine lv_dmul_any hd_27 lw_bits hx hb dX5_packed_110 (fun r_29 d_30 _ hd_30 => ?_)
            have hts := dr_words hts0 d_30
            have hE : ekK D T (s.setDrawn d_30) := ekK.same (u := s) rfl hE0
            have hown : (s.setDrawn d_30).vm.findClass RX5 = some m.cls := hown0
            refine lv_d2l hx hb dX5_packed_111 ?_
            refine lv_topl (fun z_31 ez_31 => ?_)
            refine lv_lstore (lv' := [(7, .long z_31), (6, .int ex), (4, .double mm), (0, .double x0), (2, .int x1), (3, .int x2)]) hx hb dX5_packed_112 hl (by decide +kernel) rfl (fun ls hl => ?_)
            refine lv_iload hx hb dX5_packed_114 (lv_at hl 1 rfl) ?_
            refine lv_iload_n hx hb dX5_packed_116 rfl (lv_at hl 5 rfl) ?_
            refine lv_isub hx hb dX5_packed_117 ?_
            refine lv_i2l hx hb dX5_packed_118 rfl ?_
            refine lv_iload_n hx hb dX5_packed_119 rfl (lv_at hl 4 rfl) ?_
            refine lv_lshl (v := (((ex - x2).toInt64) <<< ((x1 : Int32).toInt64 &&& 63))) hx hb dX5_packed_120 rfl ?_
            refine lv_lload hx hb dX5_packed_121 (lv_at hl 0 rfl) ?_
            refine lv_ladd hx hb dX5_packed_123 ?_
            refine W.endD hd_30 ?_
            exact W.lret hx hb hr (fun t ht hW => ⟨⟨_, (), rfl, trivial, by rw [ht]; exact hP.sub [] rfl, hD.sub [] (by decide +kernel) rfl⟩, hS.F ht⟩) hS.2.2 dX5_packed_124
          · rw [fa_le] at c_28
            try rw [ti_2200] at c_28
            refine lv_dload hx hb dX5_packed_74 (lv_at hl 2 rfl) ?_
            refine lv_dconst1 hx hb dX5_packed_76 ?_
            refine lv_dcmp hx hb dX5_packed_77 ?_
            refine lv_topi (fun z_32 ez_32 => ?_)
            refine lv_if_ge (tgt := 104) hx hb dX5_packed_78 (by decide +kernel) (fun c_33 => ?_) (fun c_33 => ?_)
            · rw [fa_le] at c_33
              try rw [ti_0] at c_33
              refine lv_dload hx hb dX5_packed_104 (lv_at hl 2 rfl) ?_
              refine lv_lconst (v := 1) hx hb dX5_packed_106 (by decide +kernel) ?_
              refine lv_iload_n hx hb dX5_packed_107 rfl (lv_at hl 4 rfl) ?_
              refine lv_lshl (v := (1 <<< ((x1 : Int32).toInt64 &&& 63))) hx hb dX5_packed_108 rfl ?_
              refine lv_l2d hx hb dX5_packed_109 ?_
              refine lv_dmul_any hd_27 lw_bits hx hb dX5_packed_110 (fun r_34 d_35 _ hd_35 => ?_)
              have hts := dr_words hts0 d_35
              have hE : ekK D T (s.setDrawn d_35) := ekK.same (u := s) rfl hE0
              have hown : (s.setDrawn d_35).vm.findClass RX5 = some m.cls := hown0
              refine lv_d2l hx hb dX5_packed_111 ?_
              refine lv_topl (fun z_36 ez_36 => ?_)
              refine lv_lstore (lv' := [(7, .long z_36), (6, .int ex), (4, .double mm), (0, .double x0), (2, .int x1), (3, .int x2)]) hx hb dX5_packed_112 hl (by decide +kernel) rfl (fun ls hl => ?_)
              refine lv_iload hx hb dX5_packed_114 (lv_at hl 1 rfl) ?_
              refine lv_iload_n hx hb dX5_packed_116 rfl (lv_at hl 5 rfl) ?_
              refine lv_isub hx hb dX5_packed_117 ?_
              refine lv_i2l hx hb dX5_packed_118 rfl ?_
              refine lv_iload_n hx hb dX5_packed_119 rfl (lv_at hl 4 rfl) ?_
              refine lv_lshl (v := (((ex - x2).toInt64) <<< ((x1 : Int32).toInt64 &&& 63))) hx hb dX5_packed_120 rfl ?_
              refine lv_lload hx hb dX5_packed_121 (lv_at hl 0 rfl) ?_
              refine lv_ladd hx hb dX5_packed_123 ?_
              refine W.endD hd_35 ?_
              exact W.lret hx hb hr (fun t ht hW => ⟨⟨_, (), rfl, trivial, by rw [ht]; exact hP.sub [] rfl, hD.sub [] (by decide +kernel) rfl⟩, hS.F ht⟩) hS.2.2 dX5_packed_124
            · rw [fa_le] at c_33
              try rw [ti_0] at c_33
              refine lv_iload hx hb dX5_packed_81 (lv_at hl 1 rfl) ?_
              refine lv_iload_n hx hb dX5_packed_83 rfl (lv_at hl 5 rfl) ?_
              refine lv_icmp_le (tgt := 104) hx hb dX5_packed_84 (by decide +kernel) (fun c_37 => ?_) (fun c_37 => ?_)
              · rw [fa_le] at c_37
                refine lv_dload hx hb dX5_packed_104 (lv_at hl 2 rfl) ?_
                refine lv_lconst (v := 1) hx hb dX5_packed_106 (by decide +kernel) ?_
                refine lv_iload_n hx hb dX5_packed_107 rfl (lv_at hl 4 rfl) ?_
                refine lv_lshl (v := (1 <<< ((x1 : Int32).toInt64 &&& 63))) hx hb dX5_packed_108 rfl ?_
                refine lv_l2d hx hb dX5_packed_109 ?_
                refine lv_dmul_any hd_27 lw_bits hx hb dX5_packed_110 (fun r_38 d_39 _ hd_39 => ?_)
                have hts := dr_words hts0 d_39
                have hE : ekK D T (s.setDrawn d_39) := ekK.same (u := s) rfl hE0
                have hown : (s.setDrawn d_39).vm.findClass RX5 = some m.cls := hown0
                refine lv_d2l hx hb dX5_packed_111 ?_
                refine lv_topl (fun z_40 ez_40 => ?_)
                refine lv_lstore (lv' := [(7, .long z_40), (6, .int ex), (4, .double mm), (0, .double x0), (2, .int x1), (3, .int x2)]) hx hb dX5_packed_112 hl (by decide +kernel) rfl (fun ls hl => ?_)
                refine lv_iload hx hb dX5_packed_114 (lv_at hl 1 rfl) ?_
                refine lv_iload_n hx hb dX5_packed_116 rfl (lv_at hl 5 rfl) ?_
                refine lv_isub hx hb dX5_packed_117 ?_
                refine lv_i2l hx hb dX5_packed_118 rfl ?_
                refine lv_iload_n hx hb dX5_packed_119 rfl (lv_at hl 4 rfl) ?_
                refine lv_lshl (v := (((ex - x2).toInt64) <<< ((x1 : Int32).toInt64 &&& 63))) hx hb dX5_packed_120 rfl ?_
                refine lv_lload hx hb dX5_packed_121 (lv_at hl 0 rfl) ?_
                refine lv_ladd hx hb dX5_packed_123 ?_
                refine W.endD hd_39 ?_
                exact W.lret hx hb hr (fun t ht hW => ⟨⟨_, (), rfl, trivial, by rw [ht]; exact hP.sub [] rfl, hD.sub [] (by decide +kernel) rfl⟩, hS.F ht⟩) hS.2.2 dX5_packed_124
              · rw [fa_le] at c_37
                refine lv_dload hx hb dX5_packed_87 (lv_at hl 2 rfl) ?_
                refine lv_ldc2d (v := 4611686018427387904) hx hb hown (hts (.constantDouble RX5 24 (4611686018427387904)) (List.mem_of_getElem? (i := 1) rfl)) dX5_packed_89 ?_
                refine lv_dmul_any hd_27 lw_bits hx hb dX5_packed_92 (fun r_41 d_42 _ hd_42 => ?_)
                have hts := dr_words hts0 d_42
                have hE : ekK D T (s.setDrawn d_42) := ekK.same (u := s) rfl hE0
                have hown : (s.setDrawn d_42).vm.findClass RX5 = some m.cls := hown0
                refine lv_dstore (lv' := [(4, .double r_41), (7, .int ii), (6, .int ex), (0, .double x0), (2, .int x1), (3, .int x2)]) hx hb dX5_packed_93 hl (by decide +kernel) rfl (fun ls hl => ?_)
                obtain ⟨z_43, ez_43⟩ : ∃ y : Int32, y = ex + (-1) := ⟨_, rfl⟩
                refine lv_iinc (v := z_43) (lv' := [(6, .int z_43), (4, .double r_41), (7, .int ii), (0, .double x0), (2, .int x1), (3, .int x2)]) hx hb dX5_packed_95 hl (k := 2) rfl (by rw [ez_43]; rfl) (by decide +kernel) rfl (fun ls hl => ?_)
                obtain ⟨z_44, ez_44⟩ : ∃ y : Int32, y = ii + 1 := ⟨_, rfl⟩
                refine lv_iinc (v := z_44) (lv' := [(7, .int z_44), (6, .int z_43), (4, .double r_41), (0, .double x0), (2, .int x1), (3, .int x2)]) hx hb dX5_packed_98 hl (k := 2) rfl (by rw [ez_44]; rfl) (by decide +kernel) rfl (fun ls hl => ?_)
                refine lv_goto (tgt := 66) hx hb dX5_packed_101 (by decide +kernel) ?_
                exact ih (z_44, z_43, r_41) ls _ hd_42 ⟨lv_sub hl [0, 1, 2, 3, 4, 5] rfl, trivial⟩ (by subst_vars; (try dsimp only); rw [inc1 (i := ii) (n := 3000) (by omega) (by decide +kernel)]; omega)
        · rw [fa_lt] at c_26
          try rw [ti_0] at c_26
          refine lv_dload hx hb dX5_packed_46 (lv_at hl 2 rfl) ?_
          refine lv_ldc2d (v := 4611686018427387904) hx hb hown (hts (.constantDouble RX5 24 (4611686018427387904)) (List.mem_of_getElem? (i := 1) rfl)) dX5_packed_48 ?_
          refine lv_ddiv_any hd_5 lw_bits hx hb dX5_packed_51 (fun r_45 d_46 _ hd_46 => ?_)
          have hts := dr_words hts0 d_46
          have hE : ekK D T (s.setDrawn d_46) := ekK.same (u := s) rfl hE0
          have hown : (s.setDrawn d_46).vm.findClass RX5 = some m.cls := hown0
          refine lv_dstore (lv' := [(4, .double r_45), (7, .int ii), (6, .int ex), (0, .double x0), (2, .int x1), (3, .int x2)]) hx hb dX5_packed_52 hl (by decide +kernel) rfl (fun ls hl => ?_)
          obtain ⟨z_47, ez_47⟩ : ∃ y : Int32, y = ex + 1 := ⟨_, rfl⟩
          refine lv_iinc (v := z_47) (lv' := [(6, .int z_47), (4, .double r_45), (7, .int ii), (0, .double x0), (2, .int x1), (3, .int x2)]) hx hb dX5_packed_54 hl (k := 2) rfl (by rw [ez_47]; rfl) (by decide +kernel) rfl (fun ls hl => ?_)
          obtain ⟨z_48, ez_48⟩ : ∃ y : Int32, y = ii + 1 := ⟨_, rfl⟩
          refine lv_iinc (v := z_48) (lv' := [(7, .int z_48), (6, .int z_47), (4, .double r_45), (0, .double x0), (2, .int x1), (3, .int x2)]) hx hb dX5_packed_57 hl (k := 2) rfl (by rw [ez_48]; rfl) (by decide +kernel) rfl (fun ls hl => ?_)
          refine lv_goto (tgt := 29) hx hb dX5_packed_60 (by decide +kernel) ?_
          exact ih (z_48, z_47, r_45) ls _ hd_46 ⟨lv_sub hl [0, 1, 2, 3, 4, 5] rfl, trivial⟩ (by subst_vars; (try dsimp only); rw [inc1 (i := ii) (n := 3000) (by omega) (by decide +kernel)]; omega)
    · rw [fa_eq] at c_4
      try rw [ti_0] at c_4
      refine lv_lconst (v := 0) hx hb dX5_packed_21 (by decide +kernel) ?_
      refine W.endD hd0 ?_
      exact W.lret hx hb hr (fun t ht hW => ⟨⟨_, (), rfl, trivial, by rw [ht]; exact hP.sub [] rfl, hD.sub [] (by decide +kernel) rfl⟩, hS.F ht⟩) hS.2.2 dX5_packed_22
  · rw [fa_le] at c_2
    try rw [ti_0] at c_2
    refine lv_dload_n hx hb dX5_packed_6 rfl (lv_at hl 0 rfl) ?_
    refine lv_dneg hx hb dX5_packed_7 ?_
    obtain ⟨z_49, ez_49⟩ : ∃ y : UInt64, y = (FP.dneg x0) := ⟨_, rfl⟩
    refine W.eq (g2 := F0 m 8 ls [.double z_49]) (by rw [ez_49]) ?_
    clear ez_49
    refine lv_goto (tgt := 12) hx hb dX5_packed_8 (by decide +kernel) ?_
    refine lv_dstore (lv' := [(4, .double z_49), (0, .double x0), (2, .int x1), (3, .int x2)]) hx hb dX5_packed_12 hl (by decide +kernel) rfl (fun ls hl => ?_)
    refine lv_dload hx hb dX5_packed_14 (lv_at hl 0 rfl) ?_
    refine lv_dconst0 hx hb dX5_packed_16 ?_
    refine lv_dcmp hx hb dX5_packed_17 ?_
    refine lv_topi (fun z_50 ez_50 => ?_)
    refine lv_if_ne (tgt := 23) hx hb dX5_packed_18 (by decide +kernel) (fun c_51 => ?_) (fun c_51 => ?_)
    · rw [fa_eq] at c_51
      try rw [ti_0] at c_51
      refine lv_iconst (v := 0) hx hb dX5_packed_23 (by decide +kernel) ?_
      refine lv_istore (lv' := [(6, .int 0), (4, .double z_49), (0, .double x0), (2, .int x1), (3, .int x2)]) hx hb dX5_packed_24 hl (by decide +kernel) rfl (fun ls hl => ?_)
      refine lv_iconst (v := 0) hx hb dX5_packed_26 (by decide +kernel) ?_
      refine lv_istore (lv' := [(7, .int 0), (6, .int 0), (4, .double z_49), (0, .double x0), (2, .int x1), (3, .int x2)]) hx hb dX5_packed_27 hl (by decide +kernel) rfl (fun ls hl => ?_)
      refine loopRD (cs := lw_cs) (σ := (Int32) × (Int32) × (UInt64)) (fun x9 ls => lv_has ls 9 [(7, .int x9.1), (6, .int x9.2.1), (4, .double x9.2.2), (0, .double x0), (2, .int x1), (3, .int x2)] ∧ (True)) (fun x9 => (2200 - x9.1.toInt).toNat) (fun x9 ls d_52 hd_52 hI ih => ?_) (0, 0, z_49) ls _ hd0 ⟨lv_sub hl [0, 1, 2, 3, 4, 5] rfl, trivial⟩
      obtain ⟨ii, ex, mm⟩ := x9
      obtain ⟨hl, hinv⟩ := hI
      have hl : lv_has ls 9 [(7, .int ii), (6, .int ex), (4, .double mm), (0, .double x0), (2, .int x1), (3, .int x2)] := hl
      have hinv : True := hinv
      have hts := dr_words hts0 d_52
      have hE : ekK D T (s.setDrawn d_52) := ekK.same (u := s) rfl hE0
      have hown : (s.setDrawn d_52).vm.findClass RX5 = some m.cls := hown0
      refine lv_iload hx hb dX5_packed_29 (lv_at hl 0 rfl) ?_
      refine lv_sipush (v := 2200) hx hb dX5_packed_31 (by decide +kernel) ?_
      refine lv_icmp_ge (tgt := 63) hx hb dX5_packed_34 (by decide +kernel) (fun c_53 => ?_) (fun c_53 => ?_)
      · rw [fa_le] at c_53
        try rw [ti_2200] at c_53
        refine lv_iconst (v := 0) hx hb dX5_packed_63 (by decide +kernel) ?_
        refine lv_istore (lv' := [(7, .int 0), (6, .int ex), (4, .double mm), (0, .double x0), (2, .int x1), (3, .int x2)]) hx hb dX5_packed_64 hl (by decide +kernel) rfl (fun ls hl => ?_)
        refine loopRD (cs := lw_cs) (σ := (Int32) × (Int32) × (UInt64)) (fun x9 ls => lv_has ls 9 [(7, .int x9.1), (6, .int x9.2.1), (4, .double x9.2.2), (0, .double x0), (2, .int x1), (3, .int x2)] ∧ (True)) (fun x9 => (2200 - x9.1.toInt).toNat) (fun x9 ls d_54 hd_54 hI ih => ?_) (0, ex, mm) ls _ hd_52 ⟨lv_sub hl [0, 1, 2, 3, 4, 5] rfl, trivial⟩
        obtain ⟨ii, ex, mm⟩ := x9
        obtain ⟨hl, hinv⟩ := hI
        have hl : lv_has ls 9 [(7, .int ii), (6, .int ex), (4, .double mm), (0, .double x0), (2, .int x1), (3, .int x2)] := hl
        have hinv : True := hinv
        have hts := dr_words hts0 d_54
        have hE : ekK D T (s.setDrawn d_54) := ekK.same (u := s) rfl hE0
        have hown : (s.setDrawn d_54).vm.findClass RX5 = some m.cls := hown0
        refine lv_iload hx hb dX5_packed_66 (lv_at hl 0 rfl) ?_
        refine lv_sipush (v := 2200) hx hb dX5_packed_68 (by decide +kernel) ?_
        refine lv_icmp_ge (tgt := 104) hx hb dX5_packed_71 (by decide +kernel) (fun c_55 => ?_) (fun c_55 => ?_)
        · rw [fa_le] at c_55
          try rw [ti_2200] at c_55
          refine lv_dload hx hb dX5_packed_104 (lv_at hl 2 rfl) ?_
          refine lv_lconst (v := 1) hx hb dX5_packed_106 (by decide +kernel) ?_
          refine lv_iload_n hx hb dX5_packed_107 rfl (lv_at hl 4 rfl) ?_
          refine lv_lshl (v := (1 <<< ((x1 : Int32).toInt64 &&& 63))) hx hb dX5_packed_108 rfl ?_
          refine lv_l2d hx hb dX5_packed_109 ?_
          refine lv_dmul_any hd_54 lw_bits hx hb dX5_packed_110 (fun r_56 d_57 _ hd_57 => ?_)
          have hts := dr_words hts0 d_57
          have hE : ekK D T (s.setDrawn d_57) := ekK.same (u := s) rfl hE0
          have hown : (s.setDrawn d_57).vm.findClass RX5 = some m.cls := hown0
          refine lv_d2l hx hb dX5_packed_111 ?_
          refine lv_topl (fun z_58 ez_58 => ?_)
          refine lv_lstore (lv' := [(7, .long z_58), (6, .int ex), (4, .double mm), (0, .double x0), (2, .int x1), (3, .int x2)]) hx hb dX5_packed_112 hl (by decide +kernel) rfl (fun ls hl => ?_)
          refine lv_iload hx hb dX5_packed_114 (lv_at hl 1 rfl) ?_
          refine lv_iload_n hx hb dX5_packed_116 rfl (lv_at hl 5 rfl) ?_
          refine lv_isub hx hb dX5_packed_117 ?_
          refine lv_i2l hx hb dX5_packed_118 rfl ?_
          refine lv_iload_n hx hb dX5_packed_119 rfl (lv_at hl 4 rfl) ?_
          refine lv_lshl (v := (((ex - x2).toInt64) <<< ((x1 : Int32).toInt64 &&& 63))) hx hb dX5_packed_120 rfl ?_
          refine lv_lload hx hb dX5_packed_121 (lv_at hl 0 rfl) ?_
          refine lv_ladd hx hb dX5_packed_123 ?_
          refine W.endD hd_57 ?_
          exact W.lret hx hb hr (fun t ht hW => ⟨⟨_, (), rfl, trivial, by rw [ht]; exact hP.sub [] rfl, hD.sub [] (by decide +kernel) rfl⟩, hS.F ht⟩) hS.2.2 dX5_packed_124
        · rw [fa_le] at c_55
          try rw [ti_2200] at c_55
          refine lv_dload hx hb dX5_packed_74 (lv_at hl 2 rfl) ?_
          refine lv_dconst1 hx hb dX5_packed_76 ?_
          refine lv_dcmp hx hb dX5_packed_77 ?_
          refine lv_topi (fun z_59 ez_59 => ?_)
          refine lv_if_ge (tgt := 104) hx hb dX5_packed_78 (by decide +kernel) (fun c_60 => ?_) (fun c_60 => ?_)
          · rw [fa_le] at c_60
            try rw [ti_0] at c_60
            refine lv_dload hx hb dX5_packed_104 (lv_at hl 2 rfl) ?_
            refine lv_lconst (v := 1) hx hb dX5_packed_106 (by decide +kernel) ?_
            refine lv_iload_n hx hb dX5_packed_107 rfl (lv_at hl 4 rfl) ?_
            refine lv_lshl (v := (1 <<< ((x1 : Int32).toInt64 &&& 63))) hx hb dX5_packed_108 rfl ?_
            refine lv_l2d hx hb dX5_packed_109 ?_
            refine lv_dmul_any hd_54 lw_bits hx hb dX5_packed_110 (fun r_61 d_62 _ hd_62 => ?_)
            have hts := dr_words hts0 d_62
            have hE : ekK D T (s.setDrawn d_62) := ekK.same (u := s) rfl hE0
            have hown : (s.setDrawn d_62).vm.findClass RX5 = some m.cls := hown0
            refine lv_d2l hx hb dX5_packed_111 ?_
            refine lv_topl (fun z_63 ez_63 => ?_)
            refine lv_lstore (lv' := [(7, .long z_63), (6, .int ex), (4, .double mm), (0, .double x0), (2, .int x1), (3, .int x2)]) hx hb dX5_packed_112 hl (by decide +kernel) rfl (fun ls hl => ?_)
            refine lv_iload hx hb dX5_packed_114 (lv_at hl 1 rfl) ?_
            refine lv_iload_n hx hb dX5_packed_116 rfl (lv_at hl 5 rfl) ?_
            refine lv_isub hx hb dX5_packed_117 ?_
            refine lv_i2l hx hb dX5_packed_118 rfl ?_
            refine lv_iload_n hx hb dX5_packed_119 rfl (lv_at hl 4 rfl) ?_
            refine lv_lshl (v := (((ex - x2).toInt64) <<< ((x1 : Int32).toInt64 &&& 63))) hx hb dX5_packed_120 rfl ?_
            refine lv_lload hx hb dX5_packed_121 (lv_at hl 0 rfl) ?_
            refine lv_ladd hx hb dX5_packed_123 ?_
            refine W.endD hd_62 ?_
            exact W.lret hx hb hr (fun t ht hW => ⟨⟨_, (), rfl, trivial, by rw [ht]; exact hP.sub [] rfl, hD.sub [] (by decide +kernel) rfl⟩, hS.F ht⟩) hS.2.2 dX5_packed_124
          · rw [fa_le] at c_60
            try rw [ti_0] at c_60
            refine lv_iload hx hb dX5_packed_81 (lv_at hl 1 rfl) ?_
            refine lv_iload_n hx hb dX5_packed_83 rfl (lv_at hl 5 rfl) ?_
            refine lv_icmp_le (tgt := 104) hx hb dX5_packed_84 (by decide +kernel) (fun c_64 => ?_) (fun c_64 => ?_)
            · rw [fa_le] at c_64
              refine lv_dload hx hb dX5_packed_104 (lv_at hl 2 rfl) ?_
              refine lv_lconst (v := 1) hx hb dX5_packed_106 (by decide +kernel) ?_
              refine lv_iload_n hx hb dX5_packed_107 rfl (lv_at hl 4 rfl) ?_
              refine lv_lshl (v := (1 <<< ((x1 : Int32).toInt64 &&& 63))) hx hb dX5_packed_108 rfl ?_
              refine lv_l2d hx hb dX5_packed_109 ?_
              refine lv_dmul_any hd_54 lw_bits hx hb dX5_packed_110 (fun r_65 d_66 _ hd_66 => ?_)
              have hts := dr_words hts0 d_66
              have hE : ekK D T (s.setDrawn d_66) := ekK.same (u := s) rfl hE0
              have hown : (s.setDrawn d_66).vm.findClass RX5 = some m.cls := hown0
              refine lv_d2l hx hb dX5_packed_111 ?_
              refine lv_topl (fun z_67 ez_67 => ?_)
              refine lv_lstore (lv' := [(7, .long z_67), (6, .int ex), (4, .double mm), (0, .double x0), (2, .int x1), (3, .int x2)]) hx hb dX5_packed_112 hl (by decide +kernel) rfl (fun ls hl => ?_)
              refine lv_iload hx hb dX5_packed_114 (lv_at hl 1 rfl) ?_
              refine lv_iload_n hx hb dX5_packed_116 rfl (lv_at hl 5 rfl) ?_
              refine lv_isub hx hb dX5_packed_117 ?_
              refine lv_i2l hx hb dX5_packed_118 rfl ?_
              refine lv_iload_n hx hb dX5_packed_119 rfl (lv_at hl 4 rfl) ?_
              refine lv_lshl (v := (((ex - x2).toInt64) <<< ((x1 : Int32).toInt64 &&& 63))) hx hb dX5_packed_120 rfl ?_
              refine lv_lload hx hb dX5_packed_121 (lv_at hl 0 rfl) ?_
              refine lv_ladd hx hb dX5_packed_123 ?_
              refine W.endD hd_66 ?_
              exact W.lret hx hb hr (fun t ht hW => ⟨⟨_, (), rfl, trivial, by rw [ht]; exact hP.sub [] rfl, hD.sub [] (by decide +kernel) rfl⟩, hS.F ht⟩) hS.2.2 dX5_packed_124
            · rw [fa_le] at c_64
              refine lv_dload hx hb dX5_packed_87 (lv_at hl 2 rfl) ?_
              refine lv_ldc2d (v := 4611686018427387904) hx hb hown (hts (.constantDouble RX5 24 (4611686018427387904)) (List.mem_of_getElem? (i := 1) rfl)) dX5_packed_89 ?_
              refine lv_dmul_any hd_54 lw_bits hx hb dX5_packed_92 (fun r_68 d_69 _ hd_69 => ?_)
              have hts := dr_words hts0 d_69
              have hE : ekK D T (s.setDrawn d_69) := ekK.same (u := s) rfl hE0
              have hown : (s.setDrawn d_69).vm.findClass RX5 = some m.cls := hown0
              refine lv_dstore (lv' := [(4, .double r_68), (7, .int ii), (6, .int ex), (0, .double x0), (2, .int x1), (3, .int x2)]) hx hb dX5_packed_93 hl (by decide +kernel) rfl (fun ls hl => ?_)
              obtain ⟨z_70, ez_70⟩ : ∃ y : Int32, y = ex + (-1) := ⟨_, rfl⟩
              refine lv_iinc (v := z_70) (lv' := [(6, .int z_70), (4, .double r_68), (7, .int ii), (0, .double x0), (2, .int x1), (3, .int x2)]) hx hb dX5_packed_95 hl (k := 2) rfl (by rw [ez_70]; rfl) (by decide +kernel) rfl (fun ls hl => ?_)
              obtain ⟨z_71, ez_71⟩ : ∃ y : Int32, y = ii + 1 := ⟨_, rfl⟩
              refine lv_iinc (v := z_71) (lv' := [(7, .int z_71), (6, .int z_70), (4, .double r_68), (0, .double x0), (2, .int x1), (3, .int x2)]) hx hb dX5_packed_98 hl (k := 2) rfl (by rw [ez_71]; rfl) (by decide +kernel) rfl (fun ls hl => ?_)
              refine lv_goto (tgt := 66) hx hb dX5_packed_101 (by decide +kernel) ?_
              exact ih (z_71, z_70, r_68) ls _ hd_69 ⟨lv_sub hl [0, 1, 2, 3, 4, 5] rfl, trivial⟩ (by subst_vars; (try dsimp only); rw [inc1 (i := ii) (n := 3000) (by omega) (by decide +kernel)]; omega)
      · rw [fa_le] at c_53
        try rw [ti_2200] at c_53
        refine lv_dload hx hb dX5_packed_37 (lv_at hl 2 rfl) ?_
        refine lv_ldc2d (v := 4611686018427387904) hx hb hown (hts (.constantDouble RX5 24 (4611686018427387904)) (List.mem_of_getElem? (i := 1) rfl)) dX5_packed_39 ?_
        refine lv_dcmp hx hb dX5_packed_42 ?_
        refine lv_topi (fun z_72 ez_72 => ?_)
        refine lv_if_lt (tgt := 63) hx hb dX5_packed_43 (by decide +kernel) (fun c_73 => ?_) (fun c_73 => ?_)
        · rw [fa_lt] at c_73
          try rw [ti_0] at c_73
          refine lv_iconst (v := 0) hx hb dX5_packed_63 (by decide +kernel) ?_
          refine lv_istore (lv' := [(7, .int 0), (6, .int ex), (4, .double mm), (0, .double x0), (2, .int x1), (3, .int x2)]) hx hb dX5_packed_64 hl (by decide +kernel) rfl (fun ls hl => ?_)
          refine loopRD (cs := lw_cs) (σ := (Int32) × (Int32) × (UInt64)) (fun x9 ls => lv_has ls 9 [(7, .int x9.1), (6, .int x9.2.1), (4, .double x9.2.2), (0, .double x0), (2, .int x1), (3, .int x2)] ∧ (True)) (fun x9 => (2200 - x9.1.toInt).toNat) (fun x9 ls d_74 hd_74 hI ih => ?_) (0, ex, mm) ls _ hd_52 ⟨lv_sub hl [0, 1, 2, 3, 4, 5] rfl, trivial⟩
          obtain ⟨ii, ex, mm⟩ := x9
          obtain ⟨hl, hinv⟩ := hI
          have hl : lv_has ls 9 [(7, .int ii), (6, .int ex), (4, .double mm), (0, .double x0), (2, .int x1), (3, .int x2)] := hl
          have hinv : True := hinv
          have hts := dr_words hts0 d_74
          have hE : ekK D T (s.setDrawn d_74) := ekK.same (u := s) rfl hE0
          have hown : (s.setDrawn d_74).vm.findClass RX5 = some m.cls := hown0
          refine lv_iload hx hb dX5_packed_66 (lv_at hl 0 rfl) ?_
          refine lv_sipush (v := 2200) hx hb dX5_packed_68 (by decide +kernel) ?_
          refine lv_icmp_ge (tgt := 104) hx hb dX5_packed_71 (by decide +kernel) (fun c_75 => ?_) (fun c_75 => ?_)
          · rw [fa_le] at c_75
            try rw [ti_2200] at c_75
            refine lv_dload hx hb dX5_packed_104 (lv_at hl 2 rfl) ?_
            refine lv_lconst (v := 1) hx hb dX5_packed_106 (by decide +kernel) ?_
            refine lv_iload_n hx hb dX5_packed_107 rfl (lv_at hl 4 rfl) ?_
            refine lv_lshl (v := (1 <<< ((x1 : Int32).toInt64 &&& 63))) hx hb dX5_packed_108 rfl ?_
            refine lv_l2d hx hb dX5_packed_109 ?_
            refine lv_dmul_any hd_74 lw_bits hx hb dX5_packed_110 (fun r_76 d_77 _ hd_77 => ?_)
            have hts := dr_words hts0 d_77
            have hE : ekK D T (s.setDrawn d_77) := ekK.same (u := s) rfl hE0
            have hown : (s.setDrawn d_77).vm.findClass RX5 = some m.cls := hown0
            refine lv_d2l hx hb dX5_packed_111 ?_
            refine lv_topl (fun z_78 ez_78 => ?_)
            refine lv_lstore (lv' := [(7, .long z_78), (6, .int ex), (4, .double mm), (0, .double x0), (2, .int x1), (3, .int x2)]) hx hb dX5_packed_112 hl (by decide +kernel) rfl (fun ls hl => ?_)
            refine lv_iload hx hb dX5_packed_114 (lv_at hl 1 rfl) ?_
            refine lv_iload_n hx hb dX5_packed_116 rfl (lv_at hl 5 rfl) ?_
            refine lv_isub hx hb dX5_packed_117 ?_
            refine lv_i2l hx hb dX5_packed_118 rfl ?_
            refine lv_iload_n hx hb dX5_packed_119 rfl (lv_at hl 4 rfl) ?_
            refine lv_lshl (v := (((ex - x2).toInt64) <<< ((x1 : Int32).toInt64 &&& 63))) hx hb dX5_packed_120 rfl ?_
            refine lv_lload hx hb dX5_packed_121 (lv_at hl 0 rfl) ?_
            refine lv_ladd hx hb dX5_packed_123 ?_
            refine W.endD hd_77 ?_
            exact W.lret hx hb hr (fun t ht hW => ⟨⟨_, (), rfl, trivial, by rw [ht]; exact hP.sub [] rfl, hD.sub [] (by decide +kernel) rfl⟩, hS.F ht⟩) hS.2.2 dX5_packed_124
          · rw [fa_le] at c_75
            try rw [ti_2200] at c_75
            refine lv_dload hx hb dX5_packed_74 (lv_at hl 2 rfl) ?_
            refine lv_dconst1 hx hb dX5_packed_76 ?_
            refine lv_dcmp hx hb dX5_packed_77 ?_
            refine lv_topi (fun z_79 ez_79 => ?_)
            refine lv_if_ge (tgt := 104) hx hb dX5_packed_78 (by decide +kernel) (fun c_80 => ?_) (fun c_80 => ?_)
            · rw [fa_le] at c_80
              try rw [ti_0] at c_80
              refine lv_dload hx hb dX5_packed_104 (lv_at hl 2 rfl) ?_
              refine lv_lconst (v := 1) hx hb dX5_packed_106 (by decide +kernel) ?_
              refine lv_iload_n hx hb dX5_packed_107 rfl (lv_at hl 4 rfl) ?_
              refine lv_lshl (v := (1 <<< ((x1 : Int32).toInt64 &&& 63))) hx hb dX5_packed_108 rfl ?_
              refine lv_l2d hx hb dX5_packed_109 ?_
              refine lv_dmul_any hd_74 lw_bits hx hb dX5_packed_110 (fun r_81 d_82 _ hd_82 => ?_)
              have hts := dr_words hts0 d_82
              have hE : ekK D T (s.setDrawn d_82) := ekK.same (u := s) rfl hE0
              have hown : (s.setDrawn d_82).vm.findClass RX5 = some m.cls := hown0
              refine lv_d2l hx hb dX5_packed_111 ?_
              refine lv_topl (fun z_83 ez_83 => ?_)
              refine lv_lstore (lv' := [(7, .long z_83), (6, .int ex), (4, .double mm), (0, .double x0), (2, .int x1), (3, .int x2)]) hx hb dX5_packed_112 hl (by decide +kernel) rfl (fun ls hl => ?_)
              refine lv_iload hx hb dX5_packed_114 (lv_at hl 1 rfl) ?_
              refine lv_iload_n hx hb dX5_packed_116 rfl (lv_at hl 5 rfl) ?_
              refine lv_isub hx hb dX5_packed_117 ?_
              refine lv_i2l hx hb dX5_packed_118 rfl ?_
              refine lv_iload_n hx hb dX5_packed_119 rfl (lv_at hl 4 rfl) ?_
              refine lv_lshl (v := (((ex - x2).toInt64) <<< ((x1 : Int32).toInt64 &&& 63))) hx hb dX5_packed_120 rfl ?_
              refine lv_lload hx hb dX5_packed_121 (lv_at hl 0 rfl) ?_
              refine lv_ladd hx hb dX5_packed_123 ?_
              refine W.endD hd_82 ?_
              exact W.lret hx hb hr (fun t ht hW => ⟨⟨_, (), rfl, trivial, by rw [ht]; exact hP.sub [] rfl, hD.sub [] (by decide +kernel) rfl⟩, hS.F ht⟩) hS.2.2 dX5_packed_124
            · rw [fa_le] at c_80
              try rw [ti_0] at c_80
              refine lv_iload hx hb dX5_packed_81 (lv_at hl 1 rfl) ?_
              refine lv_iload_n hx hb dX5_packed_83 rfl (lv_at hl 5 rfl) ?_
              refine lv_icmp_le (tgt := 104) hx hb dX5_packed_84 (by decide +kernel) (fun c_84 => ?_) (fun c_84 => ?_)
              · rw [fa_le] at c_84
                refine lv_dload hx hb dX5_packed_104 (lv_at hl 2 rfl) ?_
                refine lv_lconst (v := 1) hx hb dX5_packed_106 (by decide +kernel) ?_
                refine lv_iload_n hx hb dX5_packed_107 rfl (lv_at hl 4 rfl) ?_
                refine lv_lshl (v := (1 <<< ((x1 : Int32).toInt64 &&& 63))) hx hb dX5_packed_108 rfl ?_
                refine lv_l2d hx hb dX5_packed_109 ?_
                refine lv_dmul_any hd_74 lw_bits hx hb dX5_packed_110 (fun r_85 d_86 _ hd_86 => ?_)
                have hts := dr_words hts0 d_86
                have hE : ekK D T (s.setDrawn d_86) := ekK.same (u := s) rfl hE0
                have hown : (s.setDrawn d_86).vm.findClass RX5 = some m.cls := hown0
                refine lv_d2l hx hb dX5_packed_111 ?_
                refine lv_topl (fun z_87 ez_87 => ?_)
                refine lv_lstore (lv' := [(7, .long z_87), (6, .int ex), (4, .double mm), (0, .double x0), (2, .int x1), (3, .int x2)]) hx hb dX5_packed_112 hl (by decide +kernel) rfl (fun ls hl => ?_)
                refine lv_iload hx hb dX5_packed_114 (lv_at hl 1 rfl) ?_
                refine lv_iload_n hx hb dX5_packed_116 rfl (lv_at hl 5 rfl) ?_
                refine lv_isub hx hb dX5_packed_117 ?_
                refine lv_i2l hx hb dX5_packed_118 rfl ?_
                refine lv_iload_n hx hb dX5_packed_119 rfl (lv_at hl 4 rfl) ?_
                refine lv_lshl (v := (((ex - x2).toInt64) <<< ((x1 : Int32).toInt64 &&& 63))) hx hb dX5_packed_120 rfl ?_
                refine lv_lload hx hb dX5_packed_121 (lv_at hl 0 rfl) ?_
                refine lv_ladd hx hb dX5_packed_123 ?_
                refine W.endD hd_86 ?_
                exact W.lret hx hb hr (fun t ht hW => ⟨⟨_, (), rfl, trivial, by rw [ht]; exact hP.sub [] rfl, hD.sub [] (by decide +kernel) rfl⟩, hS.F ht⟩) hS.2.2 dX5_packed_124
              · rw [fa_le] at c_84
                refine lv_dload hx hb dX5_packed_87 (lv_at hl 2 rfl) ?_
                refine lv_ldc2d (v := 4611686018427387904) hx hb hown (hts (.constantDouble RX5 24 (4611686018427387904)) (List.mem_of_getElem? (i := 1) rfl)) dX5_packed_89 ?_
                refine lv_dmul_any hd_74 lw_bits hx hb dX5_packed_92 (fun r_88 d_89 _ hd_89 => ?_)
                have hts := dr_words hts0 d_89
                have hE : ekK D T (s.setDrawn d_89) := ekK.same (u := s) rfl hE0
                have hown : (s.setDrawn d_89).vm.findClass RX5 = some m.cls := hown0
                refine lv_dstore (lv' := [(4, .double r_88), (7, .int ii), (6, .int ex), (0, .double x0), (2, .int x1), (3, .int x2)]) hx hb dX5_packed_93 hl (by decide +kernel) rfl (fun ls hl => ?_)
                obtain ⟨z_90, ez_90⟩ : ∃ y : Int32, y = ex + (-1) := ⟨_, rfl⟩
                refine lv_iinc (v := z_90) (lv' := [(6, .int z_90), (4, .double r_88), (7, .int ii), (0, .double x0), (2, .int x1), (3, .int x2)]) hx hb dX5_packed_95 hl (k := 2) rfl (by rw [ez_90]; rfl) (by decide +kernel) rfl (fun ls hl => ?_)
                obtain ⟨z_91, ez_91⟩ : ∃ y : Int32, y = ii + 1 := ⟨_, rfl⟩
                refine lv_iinc (v := z_91) (lv' := [(7, .int z_91), (6, .int z_90), (4, .double r_88), (0, .double x0), (2, .int x1), (3, .int x2)]) hx hb dX5_packed_98 hl (k := 2) rfl (by rw [ez_91]; rfl) (by decide +kernel) rfl (fun ls hl => ?_)
                refine lv_goto (tgt := 66) hx hb dX5_packed_101 (by decide +kernel) ?_
                exact ih (z_91, z_90, r_88) ls _ hd_89 ⟨lv_sub hl [0, 1, 2, 3, 4, 5] rfl, trivial⟩ (by subst_vars; (try dsimp only); rw [inc1 (i := ii) (n := 3000) (by omega) (by decide +kernel)]; omega)
        · rw [fa_lt] at c_73
          try rw [ti_0] at c_73
          refine lv_dload hx hb dX5_packed_46 (lv_at hl 2 rfl) ?_
          refine lv_ldc2d (v := 4611686018427387904) hx hb hown (hts (.constantDouble RX5 24 (4611686018427387904)) (List.mem_of_getElem? (i := 1) rfl)) dX5_packed_48 ?_
          refine lv_ddiv_any hd_52 lw_bits hx hb dX5_packed_51 (fun r_92 d_93 _ hd_93 => ?_)
          have hts := dr_words hts0 d_93
          have hE : ekK D T (s.setDrawn d_93) := ekK.same (u := s) rfl hE0
          have hown : (s.setDrawn d_93).vm.findClass RX5 = some m.cls := hown0
          refine lv_dstore (lv' := [(4, .double r_92), (7, .int ii), (6, .int ex), (0, .double x0), (2, .int x1), (3, .int x2)]) hx hb dX5_packed_52 hl (by decide +kernel) rfl (fun ls hl => ?_)
          obtain ⟨z_94, ez_94⟩ : ∃ y : Int32, y = ex + 1 := ⟨_, rfl⟩
          refine lv_iinc (v := z_94) (lv' := [(6, .int z_94), (4, .double r_92), (7, .int ii), (0, .double x0), (2, .int x1), (3, .int x2)]) hx hb dX5_packed_54 hl (k := 2) rfl (by rw [ez_94]; rfl) (by decide +kernel) rfl (fun ls hl => ?_)
          obtain ⟨z_95, ez_95⟩ : ∃ y : Int32, y = ii + 1 := ⟨_, rfl⟩
          refine lv_iinc (v := z_95) (lv' := [(7, .int z_95), (6, .int z_94), (4, .double r_92), (0, .double x0), (2, .int x1), (3, .int x2)]) hx hb dX5_packed_57 hl (k := 2) rfl (by rw [ez_95]; rfl) (by decide +kernel) rfl (fun ls hl => ?_)
          refine lv_goto (tgt := 29) hx hb dX5_packed_60 (by decide +kernel) ?_
          exact ih (z_95, z_94, r_92) ls _ hd_93 ⟨lv_sub hl [0, 1, 2, 3, 4, 5] rfl, trivial⟩ (by subst_vars; (try dsimp only); rw [inc1 (i := ii) (n := 3000) (by omega) (by decide +kernel)]; omega)
    · rw [fa_eq] at c_51
      try rw [ti_0] at c_51
      refine lv_lconst (v := 0) hx hb dX5_packed_21 (by decide +kernel) ?_
      refine W.endD hd0 ?_
      exact W.lret hx hb hr (fun t ht hW => ⟨⟨_, (), rfl, trivial, by rw [ht]; exact hP.sub [] rfl, hD.sub [] (by decide +kernel) rfl⟩, hS.F ht⟩) hS.2.2 dX5_packed_22
theorem dX5_remainder_0 : decode cX5_remainder 0 = .ok (.dload_n 0, 1) := by decide +kernel
theorem dX5_remainder_1 : decode cX5_remainder 1 = .ok (.dconst 0, 1) := by decide +kernel
theorem dX5_remainder_100 : decode cX5_remainder 100 = .ok (.dconst 0, 1) := by decide +kernel
theorem dX5_remainder_101 : decode cX5_remainder 101 = .ok (.dcmp .g, 1) := by decide +kernel
theorem dX5_remainder_102 : decode cX5_remainder 102 = .ok (.ifCond .ge 9, 3) := by decide +kernel
theorem dX5_remainder_105 : decode cX5_remainder 105 = .ok (.dload 4, 2) := by decide +kernel
theorem dX5_remainder_107 : decode cX5_remainder 107 = .ok (.dneg, 1) := by decide +kernel
theorem dX5_remainder_108 : decode cX5_remainder 108 = .ok (.goto 5, 3) := by decide +kernel
theorem dX5_remainder_11 : decode cX5_remainder 11 = .ok (.dload_n 0, 1) := by decide +kernel
theorem dX5_remainder_111 : decode cX5_remainder 111 = .ok (.dload 4, 2) := by decide +kernel
theorem dX5_remainder_113 : decode cX5_remainder 113 = .ok (.dreturn, 1) := by decide +kernel
theorem dX5_remainder_12 : decode cX5_remainder 12 = .ok (.dstore 4, 2) := by decide +kernel
theorem dX5_remainder_14 : decode cX5_remainder 14 = .ok (.dload_n 2, 1) := by decide +kernel
theorem dX5_remainder_15 : decode cX5_remainder 15 = .ok (.dstore 6, 2) := by decide +kernel
theorem dX5_remainder_17 : decode cX5_remainder 17 = .ok (.iconst 0, 1) := by decide +kernel
theorem dX5_remainder_18 : decode cX5_remainder 18 = .ok (.istore 8, 2) := by decide +kernel
theorem dX5_remainder_2 : decode cX5_remainder 2 = .ok (.dcmp .g, 1) := by decide +kernel
theorem dX5_remainder_20 : decode cX5_remainder 20 = .ok (.iconst 0, 1) := by decide +kernel
theorem dX5_remainder_21 : decode cX5_remainder 21 = .ok (.istore 9, 2) := by decide +kernel
theorem dX5_remainder_23 : decode cX5_remainder 23 = .ok (.iload 9, 2) := by decide +kernel
theorem dX5_remainder_25 : decode cX5_remainder 25 = .ok (.sipush 2200, 3) := by decide +kernel
theorem dX5_remainder_28 : decode cX5_remainder 28 = .ok (.if_icmp .ge 32, 3) := by decide +kernel
theorem dX5_remainder_3 : decode cX5_remainder 3 = .ok (.ifCond .ge 8, 3) := by decide +kernel
theorem dX5_remainder_31 : decode cX5_remainder 31 = .ok (.dload 6, 2) := by decide +kernel
theorem dX5_remainder_33 : decode cX5_remainder 33 = .ok (.dload 4, 2) := by decide +kernel
theorem dX5_remainder_35 : decode cX5_remainder 35 = .ok (.ldc2_w 24, 3) := by decide +kernel
theorem dX5_remainder_38 : decode cX5_remainder 38 = .ok (.ddiv, 1) := by decide +kernel
theorem dX5_remainder_39 : decode cX5_remainder 39 = .ok (.dcmp .g, 1) := by decide +kernel
theorem dX5_remainder_40 : decode cX5_remainder 40 = .ok (.ifCond .gt 20, 3) := by decide +kernel
theorem dX5_remainder_43 : decode cX5_remainder 43 = .ok (.dload 6, 2) := by decide +kernel
theorem dX5_remainder_45 : decode cX5_remainder 45 = .ok (.ldc2_w 24, 3) := by decide +kernel
theorem dX5_remainder_48 : decode cX5_remainder 48 = .ok (.dmul, 1) := by decide +kernel
theorem dX5_remainder_49 : decode cX5_remainder 49 = .ok (.dstore 6, 2) := by decide +kernel
theorem dX5_remainder_51 : decode cX5_remainder 51 = .ok (.iinc 8 1, 3) := by decide +kernel
theorem dX5_remainder_54 : decode cX5_remainder 54 = .ok (.iinc 9 1, 3) := by decide +kernel
theorem dX5_remainder_57 : decode cX5_remainder 57 = .ok (.goto (-34), 3) := by decide +kernel
theorem dX5_remainder_6 : decode cX5_remainder 6 = .ok (.dload_n 0, 1) := by decide +kernel
theorem dX5_remainder_60 : decode cX5_remainder 60 = .ok (.iconst 0, 1) := by decide +kernel
theorem dX5_remainder_61 : decode cX5_remainder 61 = .ok (.istore 9, 2) := by decide +kernel
theorem dX5_remainder_63 : decode cX5_remainder 63 = .ok (.iload 9, 2) := by decide +kernel
theorem dX5_remainder_65 : decode cX5_remainder 65 = .ok (.iload 8, 2) := by decide +kernel
theorem dX5_remainder_67 : decode cX5_remainder 67 = .ok (.if_icmp .gt 32, 3) := by decide +kernel
theorem dX5_remainder_7 : decode cX5_remainder 7 = .ok (.dneg, 1) := by decide +kernel
theorem dX5_remainder_70 : decode cX5_remainder 70 = .ok (.dload 4, 2) := by decide +kernel
theorem dX5_remainder_72 : decode cX5_remainder 72 = .ok (.dload 6, 2) := by decide +kernel
theorem dX5_remainder_74 : decode cX5_remainder 74 = .ok (.dcmp .l, 1) := by decide +kernel
theorem dX5_remainder_75 : decode cX5_remainder 75 = .ok (.ifCond .lt 10, 3) := by decide +kernel
theorem dX5_remainder_78 : decode cX5_remainder 78 = .ok (.dload 4, 2) := by decide +kernel
theorem dX5_remainder_8 : decode cX5_remainder 8 = .ok (.goto 4, 3) := by decide +kernel
theorem dX5_remainder_80 : decode cX5_remainder 80 = .ok (.dload 6, 2) := by decide +kernel
theorem dX5_remainder_82 : decode cX5_remainder 82 = .ok (.dsub, 1) := by decide +kernel
theorem dX5_remainder_83 : decode cX5_remainder 83 = .ok (.dstore 4, 2) := by decide +kernel
theorem dX5_remainder_85 : decode cX5_remainder 85 = .ok (.dload 6, 2) := by decide +kernel
theorem dX5_remainder_87 : decode cX5_remainder 87 = .ok (.ldc2_w 24, 3) := by decide +kernel
theorem dX5_remainder_90 : decode cX5_remainder 90 = .ok (.ddiv, 1) := by decide +kernel
theorem dX5_remainder_91 : decode cX5_remainder 91 = .ok (.dstore 6, 2) := by decide +kernel
theorem dX5_remainder_93 : decode cX5_remainder 93 = .ok (.iinc 9 1, 3) := by decide +kernel
theorem dX5_remainder_96 : decode cX5_remainder 96 = .ok (.goto (-33), 3) := by decide +kernel
theorem dX5_remainder_99 : decode cX5_remainder 99 = .ok (.dload_n 0, 1) := by decide +kernel
set_option maxHeartbeats 4000000 in
set_option maxRecDepth 100000 in
theorem c_X5_remainder (l : Launch) (D : va_G) (T : Nat → ClassId) (sz : Nat) (x0 : UInt64) (x1 : UInt64)  : MetD lw_cs l yX5_remainder wsX5_remainder ({ frames := 0, cells := 0, slots := 0, locals := 0 }) (pW [.double x0, .double x1] D T [] sz) (va_Qd (fun (r : UInt64) (u : Unit) => True) (bW D (va_A [] sz) (fun (u : Unit) => ([] : va_W))) (va_A [] sz)) 0 0 (va_A [] sz) := by
  refine MetD.ofW (cc := cX5_remainder) (maxL := 10) (ret := (some .double)) (by decide +kernel) rfl ?_
  intro p e s m args below meth c s₁ B hml hv hd0
  obtain ⟨rfl, hsz, hP, hE0, hD0⟩ := hv
  have hx := B.exec
  have hb := B.bytes
  have hr := B.returns
  have hts0 := atoms_spec (ws := wsX5_remainder) B.pre
  have hown0 : s.vm.findClass RX5 = some m.cls := findClass_of_methodNamed B.named
  have hlocks := B.notSynchronized
  subst hsz
  have hD := hD0.self (sz := s.heap.size)
  generalize hAe : va_A [] s.heap.size = A at hD ⊢
  have hA : ∀ q : Nat, s.heap.size ≤ q → A q := fun q h => by rw [← hAe]; exact Or.inr h
  have hS : va_S A s.heap s.heap [] := va_S.rf
  have hP : va_P D vwCl [] s.heap := hP
  have hl := lv_entry ([.double x0, .double x1]) (n := 10) (Nat.le_of_ble_eq_true rfl)
  rw [lg_entry_eq]
  generalize (lg_sl ([.double x0, .double x1]) ++ List.replicate (10 - (lg_sl ([.double x0, .double x1])).length) Slot.unset).toArray = ls at hl ⊢
  have hl : lv_has ls 10 [(0, .double x0), (2, .double x1)] := hl
  clear hD0
  have hts := dr_words hts0 s.drawn
  have hE : ekK D T (s.setDrawn s.drawn) := ekK.same (u := s) rfl hE0
  have hown : (s.setDrawn s.drawn).vm.findClass RX5 = some m.cls := hown0
  refine lv_dload_n hx hb dX5_remainder_0 rfl (lv_at hl 0 rfl) ?_
  refine lv_dconst0 hx hb dX5_remainder_1 ?_
  refine lv_dcmp hx hb dX5_remainder_2 ?_
  refine lv_topi (fun z_1 ez_1 => ?_)
  refine lv_if_ge (tgt := 11) hx hb dX5_remainder_3 (by decide +kernel) (fun c_2 => ?_) (fun c_2 => ?_)
  · rw [fa_le] at c_2
    try rw [ti_0] at c_2
    refine lv_dload_n hx hb dX5_remainder_11 rfl (lv_at hl 0 rfl) ?_
    refine lv_dstore (lv' := [(4, .double x0), (0, .double x0), (2, .double x1)]) hx hb dX5_remainder_12 hl (by decide +kernel) rfl (fun ls hl => ?_)
    refine lv_dload_n hx hb dX5_remainder_14 rfl (lv_at hl 2 rfl) ?_
    refine lv_dstore (lv' := [(6, .double x1), (4, .double x0), (0, .double x0), (2, .double x1)]) hx hb dX5_remainder_15 hl (by decide +kernel) rfl (fun ls hl => ?_)
    refine lv_iconst (v := 0) hx hb dX5_remainder_17 (by decide +kernel) ?_
    refine lv_istore (lv' := [(8, .int 0), (6, .double x1), (4, .double x0), (0, .double x0), (2, .double x1)]) hx hb dX5_remainder_18 hl (by decide +kernel) rfl (fun ls hl => ?_)
    refine lv_iconst (v := 0) hx hb dX5_remainder_20 (by decide +kernel) ?_
    refine lv_istore (lv' := [(9, .int 0), (8, .int 0), (6, .double x1), (4, .double x0), (0, .double x0), (2, .double x1)]) hx hb dX5_remainder_21 hl (by decide +kernel) rfl (fun ls hl => ?_)
    refine loopRD (cs := lw_cs) (σ := (Int32) × (Int32) × (UInt64) × (UInt64)) (fun x9 ls => lv_has ls 10 [(9, .int x9.1), (8, .int x9.2.1), (6, .double x9.2.2.1), (4, .double x9.2.2.2), (0, .double x0), (2, .double x1)] ∧ (0 ≤ x9.1.toInt ∧ x9.1.toInt ≤ 2200 ∧ x9.2.1.toInt = x9.1.toInt)) (fun x9 => (2200 - x9.1.toInt).toNat) (fun x9 ls d_3 hd_3 hI ih => ?_) (0, 0, x1, x0) ls _ hd0 ⟨lv_sub hl [0, 1, 2, 3, 4, 5] rfl, (by (try dsimp only); decide)⟩
    obtain ⟨ii, dc, sp, lf⟩ := x9
    obtain ⟨hl, hinv⟩ := hI
    have hl : lv_has ls 10 [(9, .int ii), (8, .int dc), (6, .double sp), (4, .double lf), (0, .double x0), (2, .double x1)] := hl
    have hinv : 0 ≤ ii.toInt ∧ ii.toInt ≤ 2200 ∧ dc.toInt = ii.toInt := hinv
    have hts := dr_words hts0 d_3
    have hE : ekK D T (s.setDrawn d_3) := ekK.same (u := s) rfl hE0
    have hown : (s.setDrawn d_3).vm.findClass RX5 = some m.cls := hown0
    refine lv_iload hx hb dX5_remainder_23 (lv_at hl 0 rfl) ?_
    refine lv_sipush (v := 2200) hx hb dX5_remainder_25 (by decide +kernel) ?_
    refine lv_icmp_ge (tgt := 60) hx hb dX5_remainder_28 (by decide +kernel) (fun c_4 => ?_) (fun c_4 => ?_)
    · rw [fa_le] at c_4
      try rw [ti_2200] at c_4
      refine lv_iconst (v := 0) hx hb dX5_remainder_60 (by decide +kernel) ?_
      refine lv_istore (lv' := [(9, .int 0), (8, .int dc), (6, .double sp), (4, .double lf), (0, .double x0), (2, .double x1)]) hx hb dX5_remainder_61 hl (by decide +kernel) rfl (fun ls hl => ?_)
      refine loopRD (cs := lw_cs) (σ := (Int32) × (UInt64) × (UInt64)) (fun x9 ls => lv_has ls 10 [(9, .int x9.1), (8, .int dc), (6, .double x9.2.1), (4, .double x9.2.2), (0, .double x0), (2, .double x1)] ∧ (True)) (fun x9 => (2300 - x9.1.toInt).toNat) (fun x9 ls d_5 hd_5 hI ih => ?_) (0, sp, lf) ls _ hd_3 ⟨lv_sub hl [0, 1, 2, 3, 4, 5] rfl, trivial⟩
      obtain ⟨kk, sq, lq⟩ := x9
      obtain ⟨hl, hinv⟩ := hI
      have hl : lv_has ls 10 [(9, .int kk), (8, .int dc), (6, .double sq), (4, .double lq), (0, .double x0), (2, .double x1)] := hl
      have hinv : True := hinv
      have hts := dr_words hts0 d_5
      have hE : ekK D T (s.setDrawn d_5) := ekK.same (u := s) rfl hE0
      have hown : (s.setDrawn d_5).vm.findClass RX5 = some m.cls := hown0
      refine lv_iload hx hb dX5_remainder_63 (lv_at hl 0 rfl) ?_
      refine lv_iload hx hb dX5_remainder_65 (lv_at hl 1 rfl) ?_
      refine lv_icmp_gt (tgt := 99) hx hb dX5_remainder_67 (by decide +kernel) (fun c_6 => ?_) (fun c_6 => ?_)
      · rw [fa_lt] at c_6
        refine lv_dload_n hx hb dX5_remainder_99 rfl (lv_at hl 4 rfl) ?_
        refine lv_dconst0 hx hb dX5_remainder_100 ?_
        refine lv_dcmp hx hb dX5_remainder_101 ?_
        refine lv_topi (fun z_7 ez_7 => ?_)
        refine lv_if_ge (tgt := 111) hx hb dX5_remainder_102 (by decide +kernel) (fun c_8 => ?_) (fun c_8 => ?_)
        · rw [fa_le] at c_8
          try rw [ti_0] at c_8
          refine lv_dload hx hb dX5_remainder_111 (lv_at hl 3 rfl) ?_
          refine W.endD hd_5 ?_
          exact W.dret hx hb hr (fun t ht hW => ⟨⟨_, (), rfl, trivial, by rw [ht]; exact hP.sub [] rfl, hD.sub [] (by decide +kernel) rfl⟩, hS.F ht⟩) hS.2.2 dX5_remainder_113
        · rw [fa_le] at c_8
          try rw [ti_0] at c_8
          refine lv_dload hx hb dX5_remainder_105 (lv_at hl 3 rfl) ?_
          refine lv_dneg hx hb dX5_remainder_107 ?_
          obtain ⟨z_9, ez_9⟩ : ∃ y : UInt64, y = (FP.dneg lq) := ⟨_, rfl⟩
          refine W.eq (g2 := F0 m 108 ls [.double z_9]) (by rw [ez_9]) ?_
          clear ez_9
          refine lv_goto (tgt := 113) hx hb dX5_remainder_108 (by decide +kernel) ?_
          refine W.endD hd_5 ?_
          exact W.dret hx hb hr (fun t ht hW => ⟨⟨_, (), rfl, trivial, by rw [ht]; exact hP.sub [] rfl, hD.sub [] (by decide +kernel) rfl⟩, hS.F ht⟩) hS.2.2 dX5_remainder_113
      · rw [fa_lt] at c_6
        refine lv_dload hx hb dX5_remainder_70 (lv_at hl 3 rfl) ?_
        refine lv_dload hx hb dX5_remainder_72 (lv_at hl 2 rfl) ?_
        refine lv_dcmp hx hb dX5_remainder_74 ?_
        refine lv_topi (fun z_10 ez_10 => ?_)
        refine lv_if_lt (tgt := 85) hx hb dX5_remainder_75 (by decide +kernel) (fun c_11 => ?_) (fun c_11 => ?_)
        · rw [fa_lt] at c_11
          try rw [ti_0] at c_11
          refine lv_dload hx hb dX5_remainder_85 (lv_at hl 2 rfl) ?_
          refine lv_ldc2d (v := 4611686018427387904) hx hb hown (hts (.constantDouble RX5 24 (4611686018427387904)) (List.mem_of_getElem? (i := 1) rfl)) dX5_remainder_87 ?_
          refine lv_ddiv_any hd_5 lw_bits hx hb dX5_remainder_90 (fun r_12 d_13 _ hd_13 => ?_)
          have hts := dr_words hts0 d_13
          have hE : ekK D T (s.setDrawn d_13) := ekK.same (u := s) rfl hE0
          have hown : (s.setDrawn d_13).vm.findClass RX5 = some m.cls := hown0
          refine lv_dstore (lv' := [(6, .double r_12), (9, .int kk), (8, .int dc), (4, .double lq), (0, .double x0), (2, .double x1)]) hx hb dX5_remainder_91 hl (by decide +kernel) rfl (fun ls hl => ?_)
          obtain ⟨z_14, ez_14⟩ : ∃ y : Int32, y = kk + 1 := ⟨_, rfl⟩
          refine lv_iinc (v := z_14) (lv' := [(9, .int z_14), (6, .double r_12), (8, .int dc), (4, .double lq), (0, .double x0), (2, .double x1)]) hx hb dX5_remainder_93 hl (k := 1) rfl (by rw [ez_14]; rfl) (by decide +kernel) rfl (fun ls hl => ?_)
          refine lv_goto (tgt := 63) hx hb dX5_remainder_96 (by decide +kernel) ?_
          exact ih (z_14, r_12, lq) ls _ hd_13 ⟨lv_sub hl [0, 2, 1, 3, 4, 5] rfl, trivial⟩ (by subst_vars; (try dsimp only); rw [inc1 (i := kk) (n := 3000) (by omega) (by decide +kernel)]; omega)
        · rw [fa_lt] at c_11
          try rw [ti_0] at c_11
          refine lv_dload hx hb dX5_remainder_78 (lv_at hl 3 rfl) ?_
          refine lv_dload hx hb dX5_remainder_80 (lv_at hl 2 rfl) ?_
          refine lv_dsub_any hd_5 lw_bits hx hb dX5_remainder_82 (fun r_15 d_16 _ hd_16 => ?_)
          have hts := dr_words hts0 d_16
          have hE : ekK D T (s.setDrawn d_16) := ekK.same (u := s) rfl hE0
          have hown : (s.setDrawn d_16).vm.findClass RX5 = some m.cls := hown0
          refine lv_dstore (lv' := [(4, .double r_15), (9, .int kk), (8, .int dc), (6, .double sq), (0, .double x0), (2, .double x1)]) hx hb dX5_remainder_83 hl (by decide +kernel) rfl (fun ls hl => ?_)
          refine lv_dload hx hb dX5_remainder_85 (lv_at hl 3 rfl) ?_
          refine lv_ldc2d (v := 4611686018427387904) hx hb hown (hts (.constantDouble RX5 24 (4611686018427387904)) (List.mem_of_getElem? (i := 1) rfl)) dX5_remainder_87 ?_
          refine lv_ddiv_any hd_16 lw_bits hx hb dX5_remainder_90 (fun r_17 d_18 _ hd_18 => ?_)
          have hts := dr_words hts0 d_18
          have hE : ekK D T (s.setDrawn d_18) := ekK.same (u := s) rfl hE0
          have hown : (s.setDrawn d_18).vm.findClass RX5 = some m.cls := hown0
          refine lv_dstore (lv' := [(6, .double r_17), (4, .double r_15), (9, .int kk), (8, .int dc), (0, .double x0), (2, .double x1)]) hx hb dX5_remainder_91 hl (by decide +kernel) rfl (fun ls hl => ?_)
          obtain ⟨z_19, ez_19⟩ : ∃ y : Int32, y = kk + 1 := ⟨_, rfl⟩
          refine lv_iinc (v := z_19) (lv' := [(9, .int z_19), (6, .double r_17), (4, .double r_15), (8, .int dc), (0, .double x0), (2, .double x1)]) hx hb dX5_remainder_93 hl (k := 2) rfl (by rw [ez_19]; rfl) (by decide +kernel) rfl (fun ls hl => ?_)
          refine lv_goto (tgt := 63) hx hb dX5_remainder_96 (by decide +kernel) ?_
          exact ih (z_19, r_17, r_15) ls _ hd_18 ⟨lv_sub hl [0, 3, 1, 2, 4, 5] rfl, trivial⟩ (by subst_vars; (try dsimp only); rw [inc1 (i := kk) (n := 3000) (by omega) (by decide +kernel)]; omega)
    · rw [fa_le] at c_4
      try rw [ti_2200] at c_4
      refine lv_dload hx hb dX5_remainder_31 (lv_at hl 2 rfl) ?_
      refine lv_dload hx hb dX5_remainder_33 (lv_at hl 3 rfl) ?_
      refine lv_ldc2d (v := 4611686018427387904) hx hb hown (hts (.constantDouble RX5 24 (4611686018427387904)) (List.mem_of_getElem? (i := 1) rfl)) dX5_remainder_35 ?_
      refine lv_ddiv_any hd_3 lw_bits hx hb dX5_remainder_38 (fun r_20 d_21 _ hd_21 => ?_)
      have hts := dr_words hts0 d_21
      have hE : ekK D T (s.setDrawn d_21) := ekK.same (u := s) rfl hE0
      have hown : (s.setDrawn d_21).vm.findClass RX5 = some m.cls := hown0
      refine lv_dcmp hx hb dX5_remainder_39 ?_
      refine lv_topi (fun z_22 ez_22 => ?_)
      refine lv_if_gt (tgt := 60) hx hb dX5_remainder_40 (by decide +kernel) (fun c_23 => ?_) (fun c_23 => ?_)
      · rw [fa_lt] at c_23
        try rw [ti_0] at c_23
        refine lv_iconst (v := 0) hx hb dX5_remainder_60 (by decide +kernel) ?_
        refine lv_istore (lv' := [(9, .int 0), (8, .int dc), (6, .double sp), (4, .double lf), (0, .double x0), (2, .double x1)]) hx hb dX5_remainder_61 hl (by decide +kernel) rfl (fun ls hl => ?_)
        refine loopRD (cs := lw_cs) (σ := (Int32) × (UInt64) × (UInt64)) (fun x9 ls => lv_has ls 10 [(9, .int x9.1), (8, .int dc), (6, .double x9.2.1), (4, .double x9.2.2), (0, .double x0), (2, .double x1)] ∧ (True)) (fun x9 => (2300 - x9.1.toInt).toNat) (fun x9 ls d_24 hd_24 hI ih => ?_) (0, sp, lf) ls _ hd_21 ⟨lv_sub hl [0, 1, 2, 3, 4, 5] rfl, trivial⟩
        obtain ⟨kk, sq, lq⟩ := x9
        obtain ⟨hl, hinv⟩ := hI
        have hl : lv_has ls 10 [(9, .int kk), (8, .int dc), (6, .double sq), (4, .double lq), (0, .double x0), (2, .double x1)] := hl
        have hinv : True := hinv
        have hts := dr_words hts0 d_24
        have hE : ekK D T (s.setDrawn d_24) := ekK.same (u := s) rfl hE0
        have hown : (s.setDrawn d_24).vm.findClass RX5 = some m.cls := hown0
        refine lv_iload hx hb dX5_remainder_63 (lv_at hl 0 rfl) ?_
        refine lv_iload hx hb dX5_remainder_65 (lv_at hl 1 rfl) ?_
        refine lv_icmp_gt (tgt := 99) hx hb dX5_remainder_67 (by decide +kernel) (fun c_25 => ?_) (fun c_25 => ?_)
        · rw [fa_lt] at c_25
          refine lv_dload_n hx hb dX5_remainder_99 rfl (lv_at hl 4 rfl) ?_
          refine lv_dconst0 hx hb dX5_remainder_100 ?_
          refine lv_dcmp hx hb dX5_remainder_101 ?_
          refine lv_topi (fun z_26 ez_26 => ?_)
          refine lv_if_ge (tgt := 111) hx hb dX5_remainder_102 (by decide +kernel) (fun c_27 => ?_) (fun c_27 => ?_)
          · rw [fa_le] at c_27
            try rw [ti_0] at c_27
            refine lv_dload hx hb dX5_remainder_111 (lv_at hl 3 rfl) ?_
            refine W.endD hd_24 ?_
            exact W.dret hx hb hr (fun t ht hW => ⟨⟨_, (), rfl, trivial, by rw [ht]; exact hP.sub [] rfl, hD.sub [] (by decide +kernel) rfl⟩, hS.F ht⟩) hS.2.2 dX5_remainder_113
          · rw [fa_le] at c_27
            try rw [ti_0] at c_27
            refine lv_dload hx hb dX5_remainder_105 (lv_at hl 3 rfl) ?_
            refine lv_dneg hx hb dX5_remainder_107 ?_
            obtain ⟨z_28, ez_28⟩ : ∃ y : UInt64, y = (FP.dneg lq) := ⟨_, rfl⟩
            refine W.eq (g2 := F0 m 108 ls [.double z_28]) (by rw [ez_28]) ?_
            clear ez_28
            refine lv_goto (tgt := 113) hx hb dX5_remainder_108 (by decide +kernel) ?_
            refine W.endD hd_24 ?_
            exact W.dret hx hb hr (fun t ht hW => ⟨⟨_, (), rfl, trivial, by rw [ht]; exact hP.sub [] rfl, hD.sub [] (by decide +kernel) rfl⟩, hS.F ht⟩) hS.2.2 dX5_remainder_113
        · rw [fa_lt] at c_25
          refine lv_dload hx hb dX5_remainder_70 (lv_at hl 3 rfl) ?_
          refine lv_dload hx hb dX5_remainder_72 (lv_at hl 2 rfl) ?_
          refine lv_dcmp hx hb dX5_remainder_74 ?_
          refine lv_topi (fun z_29 ez_29 => ?_)
          refine lv_if_lt (tgt := 85) hx hb dX5_remainder_75 (by decide +kernel) (fun c_30 => ?_) (fun c_30 => ?_)
          · rw [fa_lt] at c_30
            try rw [ti_0] at c_30
            refine lv_dload hx hb dX5_remainder_85 (lv_at hl 2 rfl) ?_
            refine lv_ldc2d (v := 4611686018427387904) hx hb hown (hts (.constantDouble RX5 24 (4611686018427387904)) (List.mem_of_getElem? (i := 1) rfl)) dX5_remainder_87 ?_
            refine lv_ddiv_any hd_24 lw_bits hx hb dX5_remainder_90 (fun r_31 d_32 _ hd_32 => ?_)
            have hts := dr_words hts0 d_32
            have hE : ekK D T (s.setDrawn d_32) := ekK.same (u := s) rfl hE0
            have hown : (s.setDrawn d_32).vm.findClass RX5 = some m.cls := hown0
            refine lv_dstore (lv' := [(6, .double r_31), (9, .int kk), (8, .int dc), (4, .double lq), (0, .double x0), (2, .double x1)]) hx hb dX5_remainder_91 hl (by decide +kernel) rfl (fun ls hl => ?_)
            obtain ⟨z_33, ez_33⟩ : ∃ y : Int32, y = kk + 1 := ⟨_, rfl⟩
            refine lv_iinc (v := z_33) (lv' := [(9, .int z_33), (6, .double r_31), (8, .int dc), (4, .double lq), (0, .double x0), (2, .double x1)]) hx hb dX5_remainder_93 hl (k := 1) rfl (by rw [ez_33]; rfl) (by decide +kernel) rfl (fun ls hl => ?_)
            refine lv_goto (tgt := 63) hx hb dX5_remainder_96 (by decide +kernel) ?_
            exact ih (z_33, r_31, lq) ls _ hd_32 ⟨lv_sub hl [0, 2, 1, 3, 4, 5] rfl, trivial⟩ (by subst_vars; (try dsimp only); rw [inc1 (i := kk) (n := 3000) (by omega) (by decide +kernel)]; omega)
          · rw [fa_lt] at c_30
            try rw [ti_0] at c_30
            refine lv_dload hx hb dX5_remainder_78 (lv_at hl 3 rfl) ?_
            refine lv_dload hx hb dX5_remainder_80 (lv_at hl 2 rfl) ?_
            refine lv_dsub_any hd_24 lw_bits hx hb dX5_remainder_82 (fun r_34 d_35 _ hd_35 => ?_)
            have hts := dr_words hts0 d_35
            have hE : ekK D T (s.setDrawn d_35) := ekK.same (u := s) rfl hE0
            have hown : (s.setDrawn d_35).vm.findClass RX5 = some m.cls := hown0
            refine lv_dstore (lv' := [(4, .double r_34), (9, .int kk), (8, .int dc), (6, .double sq), (0, .double x0), (2, .double x1)]) hx hb dX5_remainder_83 hl (by decide +kernel) rfl (fun ls hl => ?_)
            refine lv_dload hx hb dX5_remainder_85 (lv_at hl 3 rfl) ?_
            refine lv_ldc2d (v := 4611686018427387904) hx hb hown (hts (.constantDouble RX5 24 (4611686018427387904)) (List.mem_of_getElem? (i := 1) rfl)) dX5_remainder_87 ?_
            refine lv_ddiv_any hd_35 lw_bits hx hb dX5_remainder_90 (fun r_36 d_37 _ hd_37 => ?_)
            have hts := dr_words hts0 d_37
            have hE : ekK D T (s.setDrawn d_37) := ekK.same (u := s) rfl hE0
            have hown : (s.setDrawn d_37).vm.findClass RX5 = some m.cls := hown0
            refine lv_dstore (lv' := [(6, .double r_36), (4, .double r_34), (9, .int kk), (8, .int dc), (0, .double x0), (2, .double x1)]) hx hb dX5_remainder_91 hl (by decide +kernel) rfl (fun ls hl => ?_)
            obtain ⟨z_38, ez_38⟩ : ∃ y : Int32, y = kk + 1 := ⟨_, rfl⟩
            refine lv_iinc (v := z_38) (lv' := [(9, .int z_38), (6, .double r_36), (4, .double r_34), (8, .int dc), (0, .double x0), (2, .double x1)]) hx hb dX5_remainder_93 hl (k := 2) rfl (by rw [ez_38]; rfl) (by decide +kernel) rfl (fun ls hl => ?_)
            refine lv_goto (tgt := 63) hx hb dX5_remainder_96 (by decide +kernel) ?_
            exact ih (z_38, r_36, r_34) ls _ hd_37 ⟨lv_sub hl [0, 3, 1, 2, 4, 5] rfl, trivial⟩ (by subst_vars; (try dsimp only); rw [inc1 (i := kk) (n := 3000) (by omega) (by decide +kernel)]; omega)
      · rw [fa_lt] at c_23
        try rw [ti_0] at c_23
        refine lv_dload hx hb dX5_remainder_43 (lv_at hl 2 rfl) ?_
        refine lv_ldc2d (v := 4611686018427387904) hx hb hown (hts (.constantDouble RX5 24 (4611686018427387904)) (List.mem_of_getElem? (i := 1) rfl)) dX5_remainder_45 ?_
        refine lv_dmul_any hd_21 lw_bits hx hb dX5_remainder_48 (fun r_39 d_40 _ hd_40 => ?_)
        have hts := dr_words hts0 d_40
        have hE : ekK D T (s.setDrawn d_40) := ekK.same (u := s) rfl hE0
        have hown : (s.setDrawn d_40).vm.findClass RX5 = some m.cls := hown0
        refine lv_dstore (lv' := [(6, .double r_39), (9, .int ii), (8, .int dc), (4, .double lf), (0, .double x0), (2, .double x1)]) hx hb dX5_remainder_49 hl (by decide +kernel) rfl (fun ls hl => ?_)
        obtain ⟨z_41, ez_41⟩ : ∃ y : Int32, y = dc + 1 := ⟨_, rfl⟩
        refine lv_iinc (v := z_41) (lv' := [(8, .int z_41), (6, .double r_39), (9, .int ii), (4, .double lf), (0, .double x0), (2, .double x1)]) hx hb dX5_remainder_51 hl (k := 2) rfl (by rw [ez_41]; rfl) (by decide +kernel) rfl (fun ls hl => ?_)
        obtain ⟨z_42, ez_42⟩ : ∃ y : Int32, y = ii + 1 := ⟨_, rfl⟩
        refine lv_iinc (v := z_42) (lv' := [(9, .int z_42), (8, .int z_41), (6, .double r_39), (4, .double lf), (0, .double x0), (2, .double x1)]) hx hb dX5_remainder_54 hl (k := 2) rfl (by rw [ez_42]; rfl) (by decide +kernel) rfl (fun ls hl => ?_)
        refine lv_goto (tgt := 23) hx hb dX5_remainder_57 (by decide +kernel) ?_
        exact ih (z_42, z_41, r_39, lf) ls _ hd_40 ⟨lv_sub hl [0, 1, 2, 3, 4, 5] rfl, (by subst_vars; (try dsimp only); rw [inc1 (i := ii) (n := 3000) (by omega) (by decide +kernel), inc1 (i := dc) (n := 3000) (by omega) (by decide +kernel)]; omega)⟩ (by subst_vars; (try dsimp only); rw [inc1 (i := ii) (n := 3000) (by omega) (by decide +kernel)]; omega)
  · rw [fa_le] at c_2
    try rw [ti_0] at c_2
    refine lv_dload_n hx hb dX5_remainder_6 rfl (lv_at hl 0 rfl) ?_
    refine lv_dneg hx hb dX5_remainder_7 ?_
    obtain ⟨z_43, ez_43⟩ : ∃ y : UInt64, y = (FP.dneg x0) := ⟨_, rfl⟩
    refine W.eq (g2 := F0 m 8 ls [.double z_43]) (by rw [ez_43]) ?_
    clear ez_43
    refine lv_goto (tgt := 12) hx hb dX5_remainder_8 (by decide +kernel) ?_
    refine lv_dstore (lv' := [(4, .double z_43), (0, .double x0), (2, .double x1)]) hx hb dX5_remainder_12 hl (by decide +kernel) rfl (fun ls hl => ?_)
    refine lv_dload_n hx hb dX5_remainder_14 rfl (lv_at hl 2 rfl) ?_
    refine lv_dstore (lv' := [(6, .double x1), (4, .double z_43), (0, .double x0), (2, .double x1)]) hx hb dX5_remainder_15 hl (by decide +kernel) rfl (fun ls hl => ?_)
    refine lv_iconst (v := 0) hx hb dX5_remainder_17 (by decide +kernel) ?_
    refine lv_istore (lv' := [(8, .int 0), (6, .double x1), (4, .double z_43), (0, .double x0), (2, .double x1)]) hx hb dX5_remainder_18 hl (by decide +kernel) rfl (fun ls hl => ?_)
    refine lv_iconst (v := 0) hx hb dX5_remainder_20 (by decide +kernel) ?_
    refine lv_istore (lv' := [(9, .int 0), (8, .int 0), (6, .double x1), (4, .double z_43), (0, .double x0), (2, .double x1)]) hx hb dX5_remainder_21 hl (by decide +kernel) rfl (fun ls hl => ?_)
    refine loopRD (cs := lw_cs) (σ := (Int32) × (Int32) × (UInt64) × (UInt64)) (fun x9 ls => lv_has ls 10 [(9, .int x9.1), (8, .int x9.2.1), (6, .double x9.2.2.1), (4, .double x9.2.2.2), (0, .double x0), (2, .double x1)] ∧ (0 ≤ x9.1.toInt ∧ x9.1.toInt ≤ 2200 ∧ x9.2.1.toInt = x9.1.toInt)) (fun x9 => (2200 - x9.1.toInt).toNat) (fun x9 ls d_44 hd_44 hI ih => ?_) (0, 0, x1, z_43) ls _ hd0 ⟨lv_sub hl [0, 1, 2, 3, 4, 5] rfl, (by (try dsimp only); decide)⟩
    obtain ⟨ii, dc, sp, lf⟩ := x9
    obtain ⟨hl, hinv⟩ := hI
    have hl : lv_has ls 10 [(9, .int ii), (8, .int dc), (6, .double sp), (4, .double lf), (0, .double x0), (2, .double x1)] := hl
    have hinv : 0 ≤ ii.toInt ∧ ii.toInt ≤ 2200 ∧ dc.toInt = ii.toInt := hinv
    have hts := dr_words hts0 d_44
    have hE : ekK D T (s.setDrawn d_44) := ekK.same (u := s) rfl hE0
    have hown : (s.setDrawn d_44).vm.findClass RX5 = some m.cls := hown0
    refine lv_iload hx hb dX5_remainder_23 (lv_at hl 0 rfl) ?_
    refine lv_sipush (v := 2200) hx hb dX5_remainder_25 (by decide +kernel) ?_
    refine lv_icmp_ge (tgt := 60) hx hb dX5_remainder_28 (by decide +kernel) (fun c_45 => ?_) (fun c_45 => ?_)
    · rw [fa_le] at c_45
      try rw [ti_2200] at c_45
      refine lv_iconst (v := 0) hx hb dX5_remainder_60 (by decide +kernel) ?_
      refine lv_istore (lv' := [(9, .int 0), (8, .int dc), (6, .double sp), (4, .double lf), (0, .double x0), (2, .double x1)]) hx hb dX5_remainder_61 hl (by decide +kernel) rfl (fun ls hl => ?_)
      refine loopRD (cs := lw_cs) (σ := (Int32) × (UInt64) × (UInt64)) (fun x9 ls => lv_has ls 10 [(9, .int x9.1), (8, .int dc), (6, .double x9.2.1), (4, .double x9.2.2), (0, .double x0), (2, .double x1)] ∧ (True)) (fun x9 => (2300 - x9.1.toInt).toNat) (fun x9 ls d_46 hd_46 hI ih => ?_) (0, sp, lf) ls _ hd_44 ⟨lv_sub hl [0, 1, 2, 3, 4, 5] rfl, trivial⟩
      obtain ⟨kk, sq, lq⟩ := x9
      obtain ⟨hl, hinv⟩ := hI
      have hl : lv_has ls 10 [(9, .int kk), (8, .int dc), (6, .double sq), (4, .double lq), (0, .double x0), (2, .double x1)] := hl
      have hinv : True := hinv
      have hts := dr_words hts0 d_46
      have hE : ekK D T (s.setDrawn d_46) := ekK.same (u := s) rfl hE0
      have hown : (s.setDrawn d_46).vm.findClass RX5 = some m.cls := hown0
      refine lv_iload hx hb dX5_remainder_63 (lv_at hl 0 rfl) ?_
      refine lv_iload hx hb dX5_remainder_65 (lv_at hl 1 rfl) ?_
      refine lv_icmp_gt (tgt := 99) hx hb dX5_remainder_67 (by decide +kernel) (fun c_47 => ?_) (fun c_47 => ?_)
      · rw [fa_lt] at c_47
        refine lv_dload_n hx hb dX5_remainder_99 rfl (lv_at hl 4 rfl) ?_
        refine lv_dconst0 hx hb dX5_remainder_100 ?_
        refine lv_dcmp hx hb dX5_remainder_101 ?_
        refine lv_topi (fun z_48 ez_48 => ?_)
        refine lv_if_ge (tgt := 111) hx hb dX5_remainder_102 (by decide +kernel) (fun c_49 => ?_) (fun c_49 => ?_)
        · rw [fa_le] at c_49
          try rw [ti_0] at c_49
          refine lv_dload hx hb dX5_remainder_111 (lv_at hl 3 rfl) ?_
          refine W.endD hd_46 ?_
          exact W.dret hx hb hr (fun t ht hW => ⟨⟨_, (), rfl, trivial, by rw [ht]; exact hP.sub [] rfl, hD.sub [] (by decide +kernel) rfl⟩, hS.F ht⟩) hS.2.2 dX5_remainder_113
        · rw [fa_le] at c_49
          try rw [ti_0] at c_49
          refine lv_dload hx hb dX5_remainder_105 (lv_at hl 3 rfl) ?_
          refine lv_dneg hx hb dX5_remainder_107 ?_
          obtain ⟨z_50, ez_50⟩ : ∃ y : UInt64, y = (FP.dneg lq) := ⟨_, rfl⟩
          refine W.eq (g2 := F0 m 108 ls [.double z_50]) (by rw [ez_50]) ?_
          clear ez_50
          refine lv_goto (tgt := 113) hx hb dX5_remainder_108 (by decide +kernel) ?_
          refine W.endD hd_46 ?_
          exact W.dret hx hb hr (fun t ht hW => ⟨⟨_, (), rfl, trivial, by rw [ht]; exact hP.sub [] rfl, hD.sub [] (by decide +kernel) rfl⟩, hS.F ht⟩) hS.2.2 dX5_remainder_113
      · rw [fa_lt] at c_47
        refine lv_dload hx hb dX5_remainder_70 (lv_at hl 3 rfl) ?_
        refine lv_dload hx hb dX5_remainder_72 (lv_at hl 2 rfl) ?_
        refine lv_dcmp hx hb dX5_remainder_74 ?_
        refine lv_topi (fun z_51 ez_51 => ?_)
        refine lv_if_lt (tgt := 85) hx hb dX5_remainder_75 (by decide +kernel) (fun c_52 => ?_) (fun c_52 => ?_)
        · rw [fa_lt] at c_52
          try rw [ti_0] at c_52
          refine lv_dload hx hb dX5_remainder_85 (lv_at hl 2 rfl) ?_
          refine lv_ldc2d (v := 4611686018427387904) hx hb hown (hts (.constantDouble RX5 24 (4611686018427387904)) (List.mem_of_getElem? (i := 1) rfl)) dX5_remainder_87 ?_
          refine lv_ddiv_any hd_46 lw_bits hx hb dX5_remainder_90 (fun r_53 d_54 _ hd_54 => ?_)
          have hts := dr_words hts0 d_54
          have hE : ekK D T (s.setDrawn d_54) := ekK.same (u := s) rfl hE0
          have hown : (s.setDrawn d_54).vm.findClass RX5 = some m.cls := hown0
          refine lv_dstore (lv' := [(6, .double r_53), (9, .int kk), (8, .int dc), (4, .double lq), (0, .double x0), (2, .double x1)]) hx hb dX5_remainder_91 hl (by decide +kernel) rfl (fun ls hl => ?_)
          obtain ⟨z_55, ez_55⟩ : ∃ y : Int32, y = kk + 1 := ⟨_, rfl⟩
          refine lv_iinc (v := z_55) (lv' := [(9, .int z_55), (6, .double r_53), (8, .int dc), (4, .double lq), (0, .double x0), (2, .double x1)]) hx hb dX5_remainder_93 hl (k := 1) rfl (by rw [ez_55]; rfl) (by decide +kernel) rfl (fun ls hl => ?_)
          refine lv_goto (tgt := 63) hx hb dX5_remainder_96 (by decide +kernel) ?_
          exact ih (z_55, r_53, lq) ls _ hd_54 ⟨lv_sub hl [0, 2, 1, 3, 4, 5] rfl, trivial⟩ (by subst_vars; (try dsimp only); rw [inc1 (i := kk) (n := 3000) (by omega) (by decide +kernel)]; omega)
        · rw [fa_lt] at c_52
          try rw [ti_0] at c_52
          refine lv_dload hx hb dX5_remainder_78 (lv_at hl 3 rfl) ?_
          refine lv_dload hx hb dX5_remainder_80 (lv_at hl 2 rfl) ?_
          refine lv_dsub_any hd_46 lw_bits hx hb dX5_remainder_82 (fun r_56 d_57 _ hd_57 => ?_)
          have hts := dr_words hts0 d_57
          have hE : ekK D T (s.setDrawn d_57) := ekK.same (u := s) rfl hE0
          have hown : (s.setDrawn d_57).vm.findClass RX5 = some m.cls := hown0
          refine lv_dstore (lv' := [(4, .double r_56), (9, .int kk), (8, .int dc), (6, .double sq), (0, .double x0), (2, .double x1)]) hx hb dX5_remainder_83 hl (by decide +kernel) rfl (fun ls hl => ?_)
          refine lv_dload hx hb dX5_remainder_85 (lv_at hl 3 rfl) ?_
          refine lv_ldc2d (v := 4611686018427387904) hx hb hown (hts (.constantDouble RX5 24 (4611686018427387904)) (List.mem_of_getElem? (i := 1) rfl)) dX5_remainder_87 ?_
          refine lv_ddiv_any hd_57 lw_bits hx hb dX5_remainder_90 (fun r_58 d_59 _ hd_59 => ?_)
          have hts := dr_words hts0 d_59
          have hE : ekK D T (s.setDrawn d_59) := ekK.same (u := s) rfl hE0
          have hown : (s.setDrawn d_59).vm.findClass RX5 = some m.cls := hown0
          refine lv_dstore (lv' := [(6, .double r_58), (4, .double r_56), (9, .int kk), (8, .int dc), (0, .double x0), (2, .double x1)]) hx hb dX5_remainder_91 hl (by decide +kernel) rfl (fun ls hl => ?_)
          obtain ⟨z_60, ez_60⟩ : ∃ y : Int32, y = kk + 1 := ⟨_, rfl⟩
          refine lv_iinc (v := z_60) (lv' := [(9, .int z_60), (6, .double r_58), (4, .double r_56), (8, .int dc), (0, .double x0), (2, .double x1)]) hx hb dX5_remainder_93 hl (k := 2) rfl (by rw [ez_60]; rfl) (by decide +kernel) rfl (fun ls hl => ?_)
          refine lv_goto (tgt := 63) hx hb dX5_remainder_96 (by decide +kernel) ?_
          exact ih (z_60, r_58, r_56) ls _ hd_59 ⟨lv_sub hl [0, 3, 1, 2, 4, 5] rfl, trivial⟩ (by subst_vars; (try dsimp only); rw [inc1 (i := kk) (n := 3000) (by omega) (by decide +kernel)]; omega)
    · rw [fa_le] at c_45
      try rw [ti_2200] at c_45
      refine lv_dload hx hb dX5_remainder_31 (lv_at hl 2 rfl) ?_
      refine lv_dload hx hb dX5_remainder_33 (lv_at hl 3 rfl) ?_
      refine lv_ldc2d (v := 4611686018427387904) hx hb hown (hts (.constantDouble RX5 24 (4611686018427387904)) (List.mem_of_getElem? (i := 1) rfl)) dX5_remainder_35 ?_
      refine lv_ddiv_any hd_44 lw_bits hx hb dX5_remainder_38 (fun r_61 d_62 _ hd_62 => ?_)
      have hts := dr_words hts0 d_62
      have hE : ekK D T (s.setDrawn d_62) := ekK.same (u := s) rfl hE0
      have hown : (s.setDrawn d_62).vm.findClass RX5 = some m.cls := hown0
      refine lv_dcmp hx hb dX5_remainder_39 ?_
      refine lv_topi (fun z_63 ez_63 => ?_)
      refine lv_if_gt (tgt := 60) hx hb dX5_remainder_40 (by decide +kernel) (fun c_64 => ?_) (fun c_64 => ?_)
      · rw [fa_lt] at c_64
        try rw [ti_0] at c_64
        refine lv_iconst (v := 0) hx hb dX5_remainder_60 (by decide +kernel) ?_
        refine lv_istore (lv' := [(9, .int 0), (8, .int dc), (6, .double sp), (4, .double lf), (0, .double x0), (2, .double x1)]) hx hb dX5_remainder_61 hl (by decide +kernel) rfl (fun ls hl => ?_)
        refine loopRD (cs := lw_cs) (σ := (Int32) × (UInt64) × (UInt64)) (fun x9 ls => lv_has ls 10 [(9, .int x9.1), (8, .int dc), (6, .double x9.2.1), (4, .double x9.2.2), (0, .double x0), (2, .double x1)] ∧ (True)) (fun x9 => (2300 - x9.1.toInt).toNat) (fun x9 ls d_65 hd_65 hI ih => ?_) (0, sp, lf) ls _ hd_62 ⟨lv_sub hl [0, 1, 2, 3, 4, 5] rfl, trivial⟩
        obtain ⟨kk, sq, lq⟩ := x9
        obtain ⟨hl, hinv⟩ := hI
        have hl : lv_has ls 10 [(9, .int kk), (8, .int dc), (6, .double sq), (4, .double lq), (0, .double x0), (2, .double x1)] := hl
        have hinv : True := hinv
        have hts := dr_words hts0 d_65
        have hE : ekK D T (s.setDrawn d_65) := ekK.same (u := s) rfl hE0
        have hown : (s.setDrawn d_65).vm.findClass RX5 = some m.cls := hown0
        refine lv_iload hx hb dX5_remainder_63 (lv_at hl 0 rfl) ?_
        refine lv_iload hx hb dX5_remainder_65 (lv_at hl 1 rfl) ?_
        refine lv_icmp_gt (tgt := 99) hx hb dX5_remainder_67 (by decide +kernel) (fun c_66 => ?_) (fun c_66 => ?_)
        · rw [fa_lt] at c_66
          refine lv_dload_n hx hb dX5_remainder_99 rfl (lv_at hl 4 rfl) ?_
          refine lv_dconst0 hx hb dX5_remainder_100 ?_
          refine lv_dcmp hx hb dX5_remainder_101 ?_
          refine lv_topi (fun z_67 ez_67 => ?_)
          refine lv_if_ge (tgt := 111) hx hb dX5_remainder_102 (by decide +kernel) (fun c_68 => ?_) (fun c_68 => ?_)
          · rw [fa_le] at c_68
            try rw [ti_0] at c_68
            refine lv_dload hx hb dX5_remainder_111 (lv_at hl 3 rfl) ?_
            refine W.endD hd_65 ?_
            exact W.dret hx hb hr (fun t ht hW => ⟨⟨_, (), rfl, trivial, by rw [ht]; exact hP.sub [] rfl, hD.sub [] (by decide +kernel) rfl⟩, hS.F ht⟩) hS.2.2 dX5_remainder_113
          · rw [fa_le] at c_68
            try rw [ti_0] at c_68
            refine lv_dload hx hb dX5_remainder_105 (lv_at hl 3 rfl) ?_
            refine lv_dneg hx hb dX5_remainder_107 ?_
            obtain ⟨z_69, ez_69⟩ : ∃ y : UInt64, y = (FP.dneg lq) := ⟨_, rfl⟩
            refine W.eq (g2 := F0 m 108 ls [.double z_69]) (by rw [ez_69]) ?_
            clear ez_69
            refine lv_goto (tgt := 113) hx hb dX5_remainder_108 (by decide +kernel) ?_
            refine W.endD hd_65 ?_
            exact W.dret hx hb hr (fun t ht hW => ⟨⟨_, (), rfl, trivial, by rw [ht]; exact hP.sub [] rfl, hD.sub [] (by decide +kernel) rfl⟩, hS.F ht⟩) hS.2.2 dX5_remainder_113
        · rw [fa_lt] at c_66
          refine lv_dload hx hb dX5_remainder_70 (lv_at hl 3 rfl) ?_
          refine lv_dload hx hb dX5_remainder_72 (lv_at hl 2 rfl) ?_
          refine lv_dcmp hx hb dX5_remainder_74 ?_
          refine lv_topi (fun z_70 ez_70 => ?_)
          refine lv_if_lt (tgt := 85) hx hb dX5_remainder_75 (by decide +kernel) (fun c_71 => ?_) (fun c_71 => ?_)
          · rw [fa_lt] at c_71
            try rw [ti_0] at c_71
            refine lv_dload hx hb dX5_remainder_85 (lv_at hl 2 rfl) ?_
            refine lv_ldc2d (v := 4611686018427387904) hx hb hown (hts (.constantDouble RX5 24 (4611686018427387904)) (List.mem_of_getElem? (i := 1) rfl)) dX5_remainder_87 ?_
            refine lv_ddiv_any hd_65 lw_bits hx hb dX5_remainder_90 (fun r_72 d_73 _ hd_73 => ?_)
            have hts := dr_words hts0 d_73
            have hE : ekK D T (s.setDrawn d_73) := ekK.same (u := s) rfl hE0
            have hown : (s.setDrawn d_73).vm.findClass RX5 = some m.cls := hown0
            refine lv_dstore (lv' := [(6, .double r_72), (9, .int kk), (8, .int dc), (4, .double lq), (0, .double x0), (2, .double x1)]) hx hb dX5_remainder_91 hl (by decide +kernel) rfl (fun ls hl => ?_)
            obtain ⟨z_74, ez_74⟩ : ∃ y : Int32, y = kk + 1 := ⟨_, rfl⟩
            refine lv_iinc (v := z_74) (lv' := [(9, .int z_74), (6, .double r_72), (8, .int dc), (4, .double lq), (0, .double x0), (2, .double x1)]) hx hb dX5_remainder_93 hl (k := 1) rfl (by rw [ez_74]; rfl) (by decide +kernel) rfl (fun ls hl => ?_)
            refine lv_goto (tgt := 63) hx hb dX5_remainder_96 (by decide +kernel) ?_
            exact ih (z_74, r_72, lq) ls _ hd_73 ⟨lv_sub hl [0, 2, 1, 3, 4, 5] rfl, trivial⟩ (by subst_vars; (try dsimp only); rw [inc1 (i := kk) (n := 3000) (by omega) (by decide +kernel)]; omega)
          · rw [fa_lt] at c_71
            try rw [ti_0] at c_71
            refine lv_dload hx hb dX5_remainder_78 (lv_at hl 3 rfl) ?_
            refine lv_dload hx hb dX5_remainder_80 (lv_at hl 2 rfl) ?_
            refine lv_dsub_any hd_65 lw_bits hx hb dX5_remainder_82 (fun r_75 d_76 _ hd_76 => ?_)
            have hts := dr_words hts0 d_76
            have hE : ekK D T (s.setDrawn d_76) := ekK.same (u := s) rfl hE0
            have hown : (s.setDrawn d_76).vm.findClass RX5 = some m.cls := hown0
            refine lv_dstore (lv' := [(4, .double r_75), (9, .int kk), (8, .int dc), (6, .double sq), (0, .double x0), (2, .double x1)]) hx hb dX5_remainder_83 hl (by decide +kernel) rfl (fun ls hl => ?_)
            refine lv_dload hx hb dX5_remainder_85 (lv_at hl 3 rfl) ?_
            refine lv_ldc2d (v := 4611686018427387904) hx hb hown (hts (.constantDouble RX5 24 (4611686018427387904)) (List.mem_of_getElem? (i := 1) rfl)) dX5_remainder_87 ?_
            refine lv_ddiv_any hd_76 lw_bits hx hb dX5_remainder_90 (fun r_77 d_78 _ hd_78 => ?_)
            have hts := dr_words hts0 d_78
            have hE : ekK D T (s.setDrawn d_78) := ekK.same (u := s) rfl hE0
            have hown : (s.setDrawn d_78).vm.findClass RX5 = some m.cls := hown0
            refine lv_dstore (lv' := [(6, .double r_77), (4, .double r_75), (9, .int kk), (8, .int dc), (0, .double x0), (2, .double x1)]) hx hb dX5_remainder_91 hl (by decide +kernel) rfl (fun ls hl => ?_)
            obtain ⟨z_79, ez_79⟩ : ∃ y : Int32, y = kk + 1 := ⟨_, rfl⟩
            refine lv_iinc (v := z_79) (lv' := [(9, .int z_79), (6, .double r_77), (4, .double r_75), (8, .int dc), (0, .double x0), (2, .double x1)]) hx hb dX5_remainder_93 hl (k := 2) rfl (by rw [ez_79]; rfl) (by decide +kernel) rfl (fun ls hl => ?_)
            refine lv_goto (tgt := 63) hx hb dX5_remainder_96 (by decide +kernel) ?_
            exact ih (z_79, r_77, r_75) ls _ hd_78 ⟨lv_sub hl [0, 3, 1, 2, 4, 5] rfl, trivial⟩ (by subst_vars; (try dsimp only); rw [inc1 (i := kk) (n := 3000) (by omega) (by decide +kernel)]; omega)
      · rw [fa_lt] at c_64
        try rw [ti_0] at c_64
        refine lv_dload hx hb dX5_remainder_43 (lv_at hl 2 rfl) ?_
        refine lv_ldc2d (v := 4611686018427387904) hx hb hown (hts (.constantDouble RX5 24 (4611686018427387904)) (List.mem_of_getElem? (i := 1) rfl)) dX5_remainder_45 ?_
        refine lv_dmul_any hd_62 lw_bits hx hb dX5_remainder_48 (fun r_80 d_81 _ hd_81 => ?_)
        have hts := dr_words hts0 d_81
        have hE : ekK D T (s.setDrawn d_81) := ekK.same (u := s) rfl hE0
        have hown : (s.setDrawn d_81).vm.findClass RX5 = some m.cls := hown0
        refine lv_dstore (lv' := [(6, .double r_80), (9, .int ii), (8, .int dc), (4, .double lf), (0, .double x0), (2, .double x1)]) hx hb dX5_remainder_49 hl (by decide +kernel) rfl (fun ls hl => ?_)
        obtain ⟨z_82, ez_82⟩ : ∃ y : Int32, y = dc + 1 := ⟨_, rfl⟩
        refine lv_iinc (v := z_82) (lv' := [(8, .int z_82), (6, .double r_80), (9, .int ii), (4, .double lf), (0, .double x0), (2, .double x1)]) hx hb dX5_remainder_51 hl (k := 2) rfl (by rw [ez_82]; rfl) (by decide +kernel) rfl (fun ls hl => ?_)
        obtain ⟨z_83, ez_83⟩ : ∃ y : Int32, y = ii + 1 := ⟨_, rfl⟩
        refine lv_iinc (v := z_83) (lv' := [(9, .int z_83), (8, .int z_82), (6, .double r_80), (4, .double lf), (0, .double x0), (2, .double x1)]) hx hb dX5_remainder_54 hl (k := 2) rfl (by rw [ez_83]; rfl) (by decide +kernel) rfl (fun ls hl => ?_)
        refine lv_goto (tgt := 23) hx hb dX5_remainder_57 (by decide +kernel) ?_
        exact ih (z_83, z_82, r_80, lf) ls _ hd_81 ⟨lv_sub hl [0, 1, 2, 3, 4, 5] rfl, (by subst_vars; (try dsimp only); rw [inc1 (i := ii) (n := 3000) (by omega) (by decide +kernel), inc1 (i := dc) (n := 3000) (by omega) (by decide +kernel)]; omega)⟩ (by subst_vars; (try dsimp only); rw [inc1 (i := ii) (n := 3000) (by omega) (by decide +kernel)]; omega)
theorem dX5_doubleBits_0 : decode cX5_doubleBits 0 = .ok (.dload_n 0, 1) := by decide +kernel
theorem dX5_doubleBits_1 : decode cX5_doubleBits 1 = .ok (.bipush 52, 2) := by decide +kernel
theorem dX5_doubleBits_10 : decode cX5_doubleBits 10 = .ok (.dload_n 0, 1) := by decide +kernel
theorem dX5_doubleBits_11 : decode cX5_doubleBits 11 = .ok (.invokestatic 13, 3) := by decide +kernel
theorem dX5_doubleBits_14 : decode cX5_doubleBits 14 = .ok (.ifCond .eq 11, 3) := by decide +kernel
theorem dX5_doubleBits_17 : decode cX5_doubleBits 17 = .ok (.lload_n 2, 1) := by decide +kernel
theorem dX5_doubleBits_18 : decode cX5_doubleBits 18 = .ok (.ldc2_w 19, 3) := by decide +kernel
theorem dX5_doubleBits_21 : decode cX5_doubleBits 21 = .ok (.lor, 1) := by decide +kernel
theorem dX5_doubleBits_22 : decode cX5_doubleBits 22 = .ok (.goto 4, 3) := by decide +kernel
theorem dX5_doubleBits_25 : decode cX5_doubleBits 25 = .ok (.lload_n 2, 1) := by decide +kernel
theorem dX5_doubleBits_26 : decode cX5_doubleBits 26 = .ok (.lreturn, 1) := by decide +kernel
theorem dX5_doubleBits_3 : decode cX5_doubleBits 3 = .ok (.sipush (-1022), 3) := by decide +kernel
theorem dX5_doubleBits_6 : decode cX5_doubleBits 6 = .ok (.invokestatic 9, 3) := by decide +kernel
theorem dX5_doubleBits_9 : decode cX5_doubleBits 9 = .ok (.lstore_n 2, 1) := by decide +kernel
set_option maxRecDepth 20000 in
theorem ggX5_doubleBits_X5_isNegative : GoodIn wsX5_doubleBits wsX5_isNegative := goodIn_r _ [9] rfl (by decide +kernel)
set_option maxRecDepth 20000 in
theorem ggX5_doubleBits_X5_packed : GoodIn wsX5_doubleBits wsX5_packed := goodIn_r _ [5, 6] rfl (by decide +kernel)
set_option maxRecDepth 20000 in
theorem gX5_doubleBits_X5_isNegative : GoodIn wsX5_doubleBits (va_wsS RX5 13 yX5_isNegative wsX5_isNegative) := goodIn_app (goodIn_of _ (by decide +kernel)) ggX5_doubleBits_X5_isNegative
set_option maxRecDepth 20000 in
theorem gX5_doubleBits_X5_packed : GoodIn wsX5_doubleBits (va_wsS RX5 9 yX5_packed wsX5_packed) := goodIn_app (goodIn_of _ (by decide +kernel)) ggX5_doubleBits_X5_packed
theorem hs_X5_isNegative : yX5_isNegative.cls ≠ "java/lang/invoke/MethodHandle" ∧ yX5_isNegative.cls ≠ "java/lang/invoke/VarHandle" ∧ (parseMethodDescriptor yX5_isNegative.desc).map (fun d => d.parameters.length) = some 1 := by decide +kernel
theorem hs_X5_packed : yX5_packed.cls ≠ "java/lang/invoke/MethodHandle" ∧ yX5_packed.cls ≠ "java/lang/invoke/VarHandle" ∧ (parseMethodDescriptor yX5_packed.desc).map (fun d => d.parameters.length) = some 3 := by decide +kernel
set_option maxHeartbeats 4000000 in
set_option maxRecDepth 100000 in
theorem c_X5_doubleBits (l : Launch) (D : va_G) (T : Nat → ClassId) (sz : Nat) (x0 : UInt64)  : MetD lw_cs l yX5_doubleBits wsX5_doubleBits ({ frames := 1, cells := 0, slots := 0, locals := 28 }) (pW [.double x0] D T [] sz) (va_Ql (fun (r : Int64) (u : Unit) => True) (bW D (va_A [] sz) (fun (u : Unit) => ([] : va_W))) (va_A [] sz)) 0 0 (va_A [] sz) := by
  refine MetD.ofW (cc := cX5_doubleBits) (maxL := 4) (ret := (some .long)) (by decide +kernel) rfl ?_
  intro p e s m args below meth c s₁ B hml hv hd0
  obtain ⟨rfl, hsz, hP, hE0, hD0⟩ := hv
  have hx := B.exec
  have hb := B.bytes
  have hr := B.returns
  have hts0 := atoms_spec (ws := wsX5_doubleBits) B.pre
  have hown0 : s.vm.findClass RX5 = some m.cls := findClass_of_methodNamed B.named
  have hlocks := B.notSynchronized
  subst hsz
  have hD := hD0.self (sz := s.heap.size)
  generalize hAe : va_A [] s.heap.size = A at hD ⊢
  have hA : ∀ q : Nat, s.heap.size ≤ q → A q := fun q h => by rw [← hAe]; exact Or.inr h
  have hS : va_S A s.heap s.heap [] := va_S.rf
  have hP : va_P D vwCl [] s.heap := hP
  have hl := lv_entry ([.double x0]) (n := 4) (Nat.le_of_ble_eq_true rfl)
  rw [lg_entry_eq]
  generalize (lg_sl ([.double x0]) ++ List.replicate (4 - (lg_sl ([.double x0])).length) Slot.unset).toArray = ls at hl ⊢
  have hl : lv_has ls 4 [(0, .double x0)] := hl
  clear hD0
  have hts := dr_words hts0 s.drawn
  have hE : ekK D T (s.setDrawn s.drawn) := ekK.same (u := s) rfl hE0
  have hown : (s.setDrawn s.drawn).vm.findClass RX5 = some m.cls := hown0
  refine lv_dload_n hx hb dX5_doubleBits_0 rfl (lv_at hl 0 rfl) ?_
  refine lv_bipush (v := 52) hx hb dX5_doubleBits_1 (by decide +kernel) ?_
  refine lv_sipush (v := (-1022)) hx hb dX5_doubleBits_3 (by decide +kernel) ?_
  have hFc := va_free (wc := []) hD hS hA [] rfl
  refine va_calllD hd0 (va_runS_D (As := [.double x0, .int 52, .int (-1022)]) (rest := []) ⟨hx, hb, hml, hown, hts⟩ (c_X5_packed l D T _ x0 52 (-1022)) (va_cwS 3 hts gX5_doubleBits_X5_packed rfl rfl rfl hs_X5_packed ⟨Nat.le_of_ble_eq_true rfl, Nat.le_of_ble_eq_true rfl⟩) (pW_S hP hE hD [] (by decide +kernel) rfl rfl) rfl rfl hl.1 rfl (lv_room (Nat.le_of_ble_eq_true rfl)) dX5_doubleBits_6 ⟨Nat.le_of_ble_eq_true rfl, Nat.le_of_ble_eq_true rfl⟩) hS (fun q _ h => hFc q h) hFc (fun r_1 u_2 t H1 locs ht hvm hr_1 hB hz1 hk1 hS d_3 hd_3 => ?_)
  have hts := dr_words hts0 d_3
  have hE : ekK D T (s.setDrawn d_3) := ekK.same (u := s) rfl hE0
  have hown : (s.setDrawn d_3).vm.findClass RX5 = some m.cls := hown0
  obtain ⟨hP1, hD1⟩ := hB
  rw [ht] at hP1
  obtain ⟨hP, hD⟩ := va_repl [] hP hD [] [] rfl (by decide +kernel) rfl rfl rfl hk1 hP1
  clear hP1 hD1 hFc
  generalize H1 = H at hP hS ⊢
  refine lv_lstore_n (lv' := [(2, .long r_1), (0, .double x0)]) hx hb dX5_doubleBits_9 rfl hl (by decide +kernel) rfl (fun ls hl => ?_)
  refine lv_dload_n hx hb dX5_doubleBits_10 rfl (lv_at hl 1 rfl) ?_
  have hFc := va_free (wc := []) hD hS hA [] rfl
  refine va_calliD hd_3 (va_runS_D (As := [.double x0]) (rest := []) ⟨hx, hb, hml, hown, hts⟩ (c_X5_isNegative l D T _ x0) (va_cwS 1 hts gX5_doubleBits_X5_isNegative rfl rfl rfl hs_X5_isNegative ⟨Nat.le_of_ble_eq_true rfl, Nat.le_of_ble_eq_true rfl⟩) (pW_S hP hE hD [] (by decide +kernel) rfl rfl) rfl rfl hl.1 rfl (lv_room (Nat.le_of_ble_eq_true rfl)) dX5_doubleBits_11 ⟨Nat.le_of_ble_eq_true rfl, Nat.le_of_ble_eq_true rfl⟩) hS (fun q _ h => hFc q h) hFc (fun r_4 u_5 t H1 locs ht hvm hr_4 hB hz1 hk1 hS d_6 hd_6 => ?_)
  have hts := dr_words hts0 d_6
  have hE : ekK D T (s.setDrawn d_6) := ekK.same (u := s) rfl hE0
  have hown : (s.setDrawn d_6).vm.findClass RX5 = some m.cls := hown0
  obtain ⟨hP1, hD1⟩ := hB
  rw [ht] at hP1
  obtain ⟨hP, hD⟩ := va_repl [] hP hD [] [] rfl (by decide +kernel) rfl rfl rfl hk1 hP1
  clear hP1 hD1 hFc
  generalize H1 = H at hP hS ⊢
  refine lv_if_eq (tgt := 25) hx hb dX5_doubleBits_14 (by decide +kernel) (fun c_7 => ?_) (fun c_7 => ?_)
  · rw [fa_eq] at c_7
    try rw [ti_0] at c_7
    refine lv_lload_n hx hb dX5_doubleBits_25 rfl (lv_at hl 0 rfl) ?_
    refine W.endD hd_6 ?_
    exact W.lret hx hb hr (fun t ht hW => ⟨⟨_, (), rfl, trivial, by rw [ht]; exact hP.sub [] rfl, hD.sub [] (by decide +kernel) rfl⟩, hS.F ht⟩) hS.2.2 dX5_doubleBits_26
  · rw [fa_eq] at c_7
    try rw [ti_0] at c_7
    refine lv_lload_n hx hb dX5_doubleBits_17 rfl (lv_at hl 0 rfl) ?_
    refine lv_ldc2 (v := (-9223372036854775808)) hx hb hown (hts (.constantLong RX5 19 (-9223372036854775808)) (List.mem_of_getElem? (i := 1) rfl)) dX5_doubleBits_18 ?_
    refine lv_lor hx hb dX5_doubleBits_21 ?_
    refine lv_goto (tgt := 26) hx hb dX5_doubleBits_22 (by decide +kernel) ?_
    refine W.endD hd_6 ?_
    exact W.lret hx hb hr (fun t ht hW => ⟨⟨_, (), rfl, trivial, by rw [ht]; exact hP.sub [] rfl, hD.sub [] (by decide +kernel) rfl⟩, hS.F ht⟩) hS.2.2 dX5_doubleBits_26
theorem dX5_floatBits_0 : decode cX5_floatBits 0 = .ok (.fload_n 0, 1) := by decide +kernel
theorem dX5_floatBits_1 : decode cX5_floatBits 1 = .ok (.f2d, 1) := by decide +kernel
theorem dX5_floatBits_10 : decode cX5_floatBits 10 = .ok (.istore_n 1, 1) := by decide +kernel
theorem dX5_floatBits_11 : decode cX5_floatBits 11 = .ok (.fload_n 0, 1) := by decide +kernel
theorem dX5_floatBits_12 : decode cX5_floatBits 12 = .ok (.f2d, 1) := by decide +kernel
theorem dX5_floatBits_13 : decode cX5_floatBits 13 = .ok (.invokestatic 13, 3) := by decide +kernel
theorem dX5_floatBits_16 : decode cX5_floatBits 16 = .ok (.ifCond .eq 10, 3) := by decide +kernel
theorem dX5_floatBits_19 : decode cX5_floatBits 19 = .ok (.iload_n 1, 1) := by decide +kernel
theorem dX5_floatBits_2 : decode cX5_floatBits 2 = .ok (.bipush 23, 2) := by decide +kernel
theorem dX5_floatBits_20 : decode cX5_floatBits 20 = .ok (.ldc 23, 2) := by decide +kernel
theorem dX5_floatBits_22 : decode cX5_floatBits 22 = .ok (.ior, 1) := by decide +kernel
theorem dX5_floatBits_23 : decode cX5_floatBits 23 = .ok (.goto 4, 3) := by decide +kernel
theorem dX5_floatBits_26 : decode cX5_floatBits 26 = .ok (.iload_n 1, 1) := by decide +kernel
theorem dX5_floatBits_27 : decode cX5_floatBits 27 = .ok (.ireturn, 1) := by decide +kernel
theorem dX5_floatBits_4 : decode cX5_floatBits 4 = .ok (.bipush (-126), 2) := by decide +kernel
theorem dX5_floatBits_6 : decode cX5_floatBits 6 = .ok (.invokestatic 9, 3) := by decide +kernel
theorem dX5_floatBits_9 : decode cX5_floatBits 9 = .ok (.l2i, 1) := by decide +kernel
set_option maxRecDepth 20000 in
theorem ggX5_floatBits_X5_isNegative : GoodIn wsX5_floatBits wsX5_isNegative := goodIn_r _ [9] rfl (by decide +kernel)
set_option maxRecDepth 20000 in
theorem ggX5_floatBits_X5_packed : GoodIn wsX5_floatBits wsX5_packed := goodIn_r _ [5, 6] rfl (by decide +kernel)
set_option maxRecDepth 20000 in
theorem gX5_floatBits_X5_isNegative : GoodIn wsX5_floatBits (va_wsS RX5 13 yX5_isNegative wsX5_isNegative) := goodIn_app (goodIn_of _ (by decide +kernel)) ggX5_floatBits_X5_isNegative
set_option maxRecDepth 20000 in
theorem gX5_floatBits_X5_packed : GoodIn wsX5_floatBits (va_wsS RX5 9 yX5_packed wsX5_packed) := goodIn_app (goodIn_of _ (by decide +kernel)) ggX5_floatBits_X5_packed
set_option maxHeartbeats 4000000 in
set_option maxRecDepth 100000 in
theorem c_X5_floatBits (l : Launch) (D : va_G) (T : Nat → ClassId) (sz : Nat) (x0 : UInt32)  : MetD lw_cs l yX5_floatBits wsX5_floatBits ({ frames := 1, cells := 0, slots := 0, locals := 28 }) (pW [.float x0] D T [] sz) (va_Qi (fun (r : Int32) (u : Unit) => True) (bW D (va_A [] sz) (fun (u : Unit) => ([] : va_W))) (va_A [] sz)) 0 0 (va_A [] sz) := by
  refine MetD.ofW (cc := cX5_floatBits) (maxL := 2) (ret := (some .int)) (by decide +kernel) rfl ?_
  intro p e s m args below meth c s₁ B hml hv hd0
  obtain ⟨rfl, hsz, hP, hE0, hD0⟩ := hv
  have hx := B.exec
  have hb := B.bytes
  have hr := B.returns
  have hts0 := atoms_spec (ws := wsX5_floatBits) B.pre
  have hown0 : s.vm.findClass RX5 = some m.cls := findClass_of_methodNamed B.named
  have hlocks := B.notSynchronized
  subst hsz
  have hD := hD0.self (sz := s.heap.size)
  generalize hAe : va_A [] s.heap.size = A at hD ⊢
  have hA : ∀ q : Nat, s.heap.size ≤ q → A q := fun q h => by rw [← hAe]; exact Or.inr h
  have hS : va_S A s.heap s.heap [] := va_S.rf
  have hP : va_P D vwCl [] s.heap := hP
  have hl := lv_entry ([.float x0]) (n := 2) (Nat.le_of_ble_eq_true rfl)
  rw [lg_entry_eq]
  generalize (lg_sl ([.float x0]) ++ List.replicate (2 - (lg_sl ([.float x0])).length) Slot.unset).toArray = ls at hl ⊢
  have hl : lv_has ls 2 [(0, .float x0)] := hl
  clear hD0
  have hts := dr_words hts0 s.drawn
  have hE : ekK D T (s.setDrawn s.drawn) := ekK.same (u := s) rfl hE0
  have hown : (s.setDrawn s.drawn).vm.findClass RX5 = some m.cls := hown0
  refine lv_fload_n hx hb dX5_floatBits_0 rfl (lv_at hl 0 rfl) ?_
  refine lv_f2d_any hd0 lw_bits hx hb dX5_floatBits_1 (fun r_1 d_2 _ hd_2 => ?_)
  have hts := dr_words hts0 d_2
  have hE : ekK D T (s.setDrawn d_2) := ekK.same (u := s) rfl hE0
  have hown : (s.setDrawn d_2).vm.findClass RX5 = some m.cls := hown0
  refine lv_bipush (v := 23) hx hb dX5_floatBits_2 (by decide +kernel) ?_
  refine lv_bipush (v := (-126)) hx hb dX5_floatBits_4 (by decide +kernel) ?_
  have hFc := va_free (wc := []) hD hS hA [] rfl
  refine va_calllD hd_2 (va_runS_D (As := [.double r_1, .int 23, .int (-126)]) (rest := []) ⟨hx, hb, hml, hown, hts⟩ (c_X5_packed l D T _ r_1 23 (-126)) (va_cwS 3 hts gX5_floatBits_X5_packed rfl rfl rfl hs_X5_packed ⟨Nat.le_of_ble_eq_true rfl, Nat.le_of_ble_eq_true rfl⟩) (pW_S hP hE hD [] (by decide +kernel) rfl rfl) rfl rfl hl.1 rfl (lv_room (Nat.le_of_ble_eq_true rfl)) dX5_floatBits_6 ⟨Nat.le_of_ble_eq_true rfl, Nat.le_of_ble_eq_true rfl⟩) hS (fun q _ h => hFc q h) hFc (fun r_3 u_4 t H1 locs ht hvm hr_3 hB hz1 hk1 hS d_5 hd_5 => ?_)
  have hts := dr_words hts0 d_5
  have hE : ekK D T (s.setDrawn d_5) := ekK.same (u := s) rfl hE0
  have hown : (s.setDrawn d_5).vm.findClass RX5 = some m.cls := hown0
  obtain ⟨hP1, hD1⟩ := hB
  rw [ht] at hP1
  obtain ⟨hP, hD⟩ := va_repl [] hP hD [] [] rfl (by decide +kernel) rfl rfl rfl hk1 hP1
  clear hP1 hD1 hFc
  generalize H1 = H at hP hS ⊢
  refine lv_l2i hx hb dX5_floatBits_9 rfl ?_
  refine lv_istore_n (lv' := [(1, .int (r_3.toInt32)), (0, .float x0)]) hx hb dX5_floatBits_10 rfl hl (by decide +kernel) rfl (fun ls hl => ?_)
  refine lv_fload_n hx hb dX5_floatBits_11 rfl (lv_at hl 1 rfl) ?_
  refine lv_f2d_any hd_5 lw_bits hx hb dX5_floatBits_12 (fun r_6 d_7 _ hd_7 => ?_)
  have hts := dr_words hts0 d_7
  have hE : ekK D T (s.setDrawn d_7) := ekK.same (u := s) rfl hE0
  have hown : (s.setDrawn d_7).vm.findClass RX5 = some m.cls := hown0
  have hFc := va_free (wc := []) hD hS hA [] rfl
  refine va_calliD hd_7 (va_runS_D (As := [.double r_6]) (rest := []) ⟨hx, hb, hml, hown, hts⟩ (c_X5_isNegative l D T _ r_6) (va_cwS 1 hts gX5_floatBits_X5_isNegative rfl rfl rfl hs_X5_isNegative ⟨Nat.le_of_ble_eq_true rfl, Nat.le_of_ble_eq_true rfl⟩) (pW_S hP hE hD [] (by decide +kernel) rfl rfl) rfl rfl hl.1 rfl (lv_room (Nat.le_of_ble_eq_true rfl)) dX5_floatBits_13 ⟨Nat.le_of_ble_eq_true rfl, Nat.le_of_ble_eq_true rfl⟩) hS (fun q _ h => hFc q h) hFc (fun r_8 u_9 t H1 locs ht hvm hr_8 hB hz1 hk1 hS d_10 hd_10 => ?_)
  have hts := dr_words hts0 d_10
  have hE : ekK D T (s.setDrawn d_10) := ekK.same (u := s) rfl hE0
  have hown : (s.setDrawn d_10).vm.findClass RX5 = some m.cls := hown0
  obtain ⟨hP1, hD1⟩ := hB
  rw [ht] at hP1
  obtain ⟨hP, hD⟩ := va_repl [] hP hD [] [] rfl (by decide +kernel) rfl rfl rfl hk1 hP1
  clear hP1 hD1 hFc
  generalize H1 = H at hP hS ⊢
  refine lv_if_eq (tgt := 26) hx hb dX5_floatBits_16 (by decide +kernel) (fun c_11 => ?_) (fun c_11 => ?_)
  · rw [fa_eq] at c_11
    try rw [ti_0] at c_11
    refine lv_iload_n hx hb dX5_floatBits_26 rfl (lv_at hl 0 rfl) ?_
    refine W.endD hd_10 ?_
    exact W.iret hx hb hr (fun t ht hW => ⟨⟨_, (), rfl, trivial, by rw [ht]; exact hP.sub [] rfl, hD.sub [] (by decide +kernel) rfl⟩, hS.F ht⟩) hS.2.2 dX5_floatBits_27
  · rw [fa_eq] at c_11
    try rw [ti_0] at c_11
    refine lv_iload_n hx hb dX5_floatBits_19 rfl (lv_at hl 0 rfl) ?_
    refine lv_ldc (v := (-2147483648)) hx hb hown (hts (.constant RX5 23 (-2147483648)) (List.mem_of_getElem? (i := 1) rfl)) dX5_floatBits_20 ?_
    refine lv_ior hx hb dX5_floatBits_22 ?_
    refine lv_goto (tgt := 27) hx hb dX5_floatBits_23 (by decide +kernel) ?_
    refine W.endD hd_10 ?_
    exact W.iret hx hb hr (fun t ht hW => ⟨⟨_, (), rfl, trivial, by rw [ht]; exact hP.sub [] rfl, hD.sub [] (by decide +kernel) rfl⟩, hS.F ht⟩) hS.2.2 dX5_floatBits_27
end
section
theorem dX9_cutInHalf_0 : decode cX9_cutInHalf 0 = .ok (.aload_n 0, 1) := by decide +kernel
theorem dX9_cutInHalf_1 : decode cX9_cutInHalf 1 = .ok (.getfield 9, 3) := by decide +kernel
theorem dX9_cutInHalf_100 : decode cX9_cutInHalf 100 = .ok (.dastore, 1) := by decide +kernel
theorem dX9_cutInHalf_101 : decode cX9_cutInHalf 101 = .ok (.return_, 1) := by decide +kernel
theorem dX9_cutInHalf_32 : decode cX9_cutInHalf 32 = .ok (.aload_n 0, 1) := by decide +kernel
theorem dX9_cutInHalf_33 : decode cX9_cutInHalf 33 = .ok (.getfield 18, 3) := by decide +kernel
theorem dX9_cutInHalf_36 : decode cX9_cutInHalf 36 = .ok (.iload_n 1, 1) := by decide +kernel
theorem dX9_cutInHalf_37 : decode cX9_cutInHalf 37 = .ok (.aload_n 0, 1) := by decide +kernel
theorem dX9_cutInHalf_38 : decode cX9_cutInHalf 38 = .ok (.getfield 18, 3) := by decide +kernel
theorem dX9_cutInHalf_4 : decode cX9_cutInHalf 4 = .ok (.tableswitch 81 0 2 #[28, 45, 64], 28) := by decide +kernel
theorem dX9_cutInHalf_41 : decode cX9_cutInHalf 41 = .ok (.iload_n 1, 1) := by decide +kernel
theorem dX9_cutInHalf_42 : decode cX9_cutInHalf 42 = .ok (.iaload, 1) := by decide +kernel
theorem dX9_cutInHalf_43 : decode cX9_cutInHalf 43 = .ok (.iconst 2, 1) := by decide +kernel
theorem dX9_cutInHalf_44 : decode cX9_cutInHalf 44 = .ok (.idiv, 1) := by decide +kernel
theorem dX9_cutInHalf_45 : decode cX9_cutInHalf 45 = .ok (.iastore, 1) := by decide +kernel
theorem dX9_cutInHalf_46 : decode cX9_cutInHalf 46 = .ok (.goto 55, 3) := by decide +kernel
theorem dX9_cutInHalf_49 : decode cX9_cutInHalf 49 = .ok (.aload_n 0, 1) := by decide +kernel
theorem dX9_cutInHalf_50 : decode cX9_cutInHalf 50 = .ok (.getfield 22, 3) := by decide +kernel
theorem dX9_cutInHalf_53 : decode cX9_cutInHalf 53 = .ok (.iload_n 1, 1) := by decide +kernel
theorem dX9_cutInHalf_54 : decode cX9_cutInHalf 54 = .ok (.aload_n 0, 1) := by decide +kernel
theorem dX9_cutInHalf_55 : decode cX9_cutInHalf 55 = .ok (.getfield 22, 3) := by decide +kernel
theorem dX9_cutInHalf_58 : decode cX9_cutInHalf 58 = .ok (.iload_n 1, 1) := by decide +kernel
theorem dX9_cutInHalf_59 : decode cX9_cutInHalf 59 = .ok (.laload, 1) := by decide +kernel
theorem dX9_cutInHalf_60 : decode cX9_cutInHalf 60 = .ok (.ldc2_w 48, 3) := by decide +kernel
theorem dX9_cutInHalf_63 : decode cX9_cutInHalf 63 = .ok (.ldiv, 1) := by decide +kernel
theorem dX9_cutInHalf_64 : decode cX9_cutInHalf 64 = .ok (.lastore, 1) := by decide +kernel
theorem dX9_cutInHalf_65 : decode cX9_cutInHalf 65 = .ok (.goto 36, 3) := by decide +kernel
theorem dX9_cutInHalf_68 : decode cX9_cutInHalf 68 = .ok (.aload_n 0, 1) := by decide +kernel
theorem dX9_cutInHalf_69 : decode cX9_cutInHalf 69 = .ok (.getfield 26, 3) := by decide +kernel
theorem dX9_cutInHalf_72 : decode cX9_cutInHalf 72 = .ok (.iload_n 1, 1) := by decide +kernel
theorem dX9_cutInHalf_73 : decode cX9_cutInHalf 73 = .ok (.aload_n 0, 1) := by decide +kernel
theorem dX9_cutInHalf_74 : decode cX9_cutInHalf 74 = .ok (.getfield 26, 3) := by decide +kernel
theorem dX9_cutInHalf_77 : decode cX9_cutInHalf 77 = .ok (.iload_n 1, 1) := by decide +kernel
theorem dX9_cutInHalf_78 : decode cX9_cutInHalf 78 = .ok (.faload, 1) := by decide +kernel
theorem dX9_cutInHalf_79 : decode cX9_cutInHalf 79 = .ok (.fconst 2, 1) := by decide +kernel
theorem dX9_cutInHalf_80 : decode cX9_cutInHalf 80 = .ok (.fdiv, 1) := by decide +kernel
theorem dX9_cutInHalf_81 : decode cX9_cutInHalf 81 = .ok (.fastore, 1) := by decide +kernel
theorem dX9_cutInHalf_82 : decode cX9_cutInHalf 82 = .ok (.goto 19, 3) := by decide +kernel
theorem dX9_cutInHalf_85 : decode cX9_cutInHalf 85 = .ok (.aload_n 0, 1) := by decide +kernel
theorem dX9_cutInHalf_86 : decode cX9_cutInHalf 86 = .ok (.getfield 30, 3) := by decide +kernel
theorem dX9_cutInHalf_89 : decode cX9_cutInHalf 89 = .ok (.iload_n 1, 1) := by decide +kernel
theorem dX9_cutInHalf_90 : decode cX9_cutInHalf 90 = .ok (.aload_n 0, 1) := by decide +kernel
theorem dX9_cutInHalf_91 : decode cX9_cutInHalf 91 = .ok (.getfield 30, 3) := by decide +kernel
theorem dX9_cutInHalf_94 : decode cX9_cutInHalf 94 = .ok (.iload_n 1, 1) := by decide +kernel
theorem dX9_cutInHalf_95 : decode cX9_cutInHalf 95 = .ok (.daload, 1) := by decide +kernel
theorem dX9_cutInHalf_96 : decode cX9_cutInHalf 96 = .ok (.ldc2_w 50, 3) := by decide +kernel
theorem dX9_cutInHalf_99 : decode cX9_cutInHalf 99 = .ok (.ddiv, 1) := by decide +kernel
set_option maxRecDepth 20000 in
theorem in_X9_cutInHalf_X9 : ∀ w ∈ wsX90, w ∈ wsX9_cutInHalf := sub_r [8, 9, 10, 11, 12, 13] rfl
set_option maxHeartbeats 4000000 in
set_option maxRecDepth 100000 in
theorem c_X9_cutInHalf (l : Launch) (D : va_G) (T : Nat → ClassId) (sz : Nat) (h0 : Nat) (so : Int32) (sn : Int32) (s0 : Nat) (s1 : Nat) (s2 : Nat) (s3 : Nat) (f0 : Nat → Int32) (f1 : Nat → Int64) (f2 : Nat → UInt32) (f3 : Nat → UInt64) (x1 : Int32) (hin1 : vp_in x1 30) : MetD lw_cs l yX9_cutInHalf wsX9_cutInHalf ({ frames := 0, cells := 0, slots := 0, locals := 0 }) (pW [.ref h0, .int x1] D T [(h0, .inr (6, [.int so, .int sn, .ref s0, .ref s1, .ref s2, .ref s3])), (s0, .inl (T 0, 30, .inl f0)), (s1, .inl (T 1, 30, .inr (.inl f1))), (s2, .inl (T 2, 30, .inr (.inr (.inl f2)))), (s3, .inl (T 3, 30, .inr (.inr (.inr (.inl f3)))))] sz) (va_Qv (fun (u : (Nat → Int32) × (Nat → Int64) × (Nat → UInt32) × (Nat → UInt64)) => True) (bW D (va_A [(h0, .inr (6, [.int so, .int sn, .ref s0, .ref s1, .ref s2, .ref s3])), (s0, .inl (T 0, 30, .inl f0)), (s1, .inl (T 1, 30, .inr (.inl f1))), (s2, .inl (T 2, 30, .inr (.inr (.inl f2)))), (s3, .inl (T 3, 30, .inr (.inr (.inr (.inl f3)))))] sz) (fun (u : (Nat → Int32) × (Nat → Int64) × (Nat → UInt32) × (Nat → UInt64)) => [(h0, .inr (6, [.int so, .int sn, .ref s0, .ref s1, .ref s2, .ref s3])), (s0, .inl (T 0, 30, .inl u.1)), (s1, .inl (T 1, 30, .inr (.inl u.2.1))), (s2, .inl (T 2, 30, .inr (.inr (.inl u.2.2.1)))), (s3, .inl (T 3, 30, .inr (.inr (.inr (.inl u.2.2.2)))))])) (va_A [(h0, .inr (6, [.int so, .int sn, .ref s0, .ref s1, .ref s2, .ref s3])), (s0, .inl (T 0, 30, .inl f0)), (s1, .inl (T 1, 30, .inr (.inl f1))), (s2, .inl (T 2, 30, .inr (.inr (.inl f2)))), (s3, .inl (T 3, 30, .inr (.inr (.inr (.inl f3)))))] sz)) 0 0 (va_A [(h0, .inr (6, [.int so, .int sn, .ref s0, .ref s1, .ref s2, .ref s3])), (s0, .inl (T 0, 30, .inl f0)), (s1, .inl (T 1, 30, .inr (.inl f1))), (s2, .inl (T 2, 30, .inr (.inr (.inl f2)))), (s3, .inl (T 3, 30, .inr (.inr (.inr (.inl f3)))))] sz) := by
  refine MetD.ofW (cc := cX9_cutInHalf) (maxL := 2) (ret := none) (by decide +kernel) rfl ?_
  intro p e s m args below meth c s₁ B hml hv hd0
  obtain ⟨rfl, hsz, hP, hE0, hD0⟩ := hv
  have hx := B.exec
  have hb := B.bytes
  have hr := B.returns
  have hts0 := atoms_spec (ws := wsX9_cutInHalf) B.pre
  have hown0 : s.vm.findClass RX9 = some m.cls := findClass_of_methodNamed B.named
  have hlocks := B.notSynchronized
  subst hsz
  have hD := hD0.self (sz := s.heap.size)
  generalize hAe : va_A [(h0, .inr (6, [.int so, .int sn, .ref s0, .ref s1, .ref s2, .ref s3])), (s0, .inl (T 0, 30, .inl f0)), (s1, .inl (T 1, 30, .inr (.inl f1))), (s2, .inl (T 2, 30, .inr (.inr (.inl f2)))), (s3, .inl (T 3, 30, .inr (.inr (.inr (.inl f3)))))] s.heap.size = A at hD ⊢
  have hA : ∀ q : Nat, s.heap.size ≤ q → A q := fun q h => by rw [← hAe]; exact Or.inr h
  have hS : va_S A s.heap s.heap [] := va_S.rf
  have hP : va_P D vwCl [(h0, .inr (6, [.int so, .int sn, .ref s0, .ref s1, .ref s2, .ref s3])), (s0, .inl (T 0, 30, .inl f0)), (s1, .inl (T 1, 30, .inr (.inl f1))), (s2, .inl (T 2, 30, .inr (.inr (.inl f2)))), (s3, .inl (T 3, 30, .inr (.inr (.inr (.inl f3)))))] s.heap := hP
  have hl := lv_entry ([.ref h0, .int x1]) (n := 2) (Nat.le_of_ble_eq_true rfl)
  rw [lg_entry_eq]
  generalize (lg_sl ([.ref h0, .int x1]) ++ List.replicate (2 - (lg_sl ([.ref h0, .int x1])).length) Slot.unset).toArray = ls at hl ⊢
  have hl : lv_has ls 2 [(0, .ref h0), (1, .int x1)] := hl
  clear hD0
  have hts := dr_words hts0 s.drawn
  have hE : ekK D T (s.setDrawn s.drawn) := ekK.same (u := s) rfl hE0
  have hown : (s.setDrawn s.drawn).vm.findClass RX9 = some m.cls := hown0
  refine lv_aload_n hx hb dX9_cutInHalf_0 rfl (lv_at hl 0 rfl) ?_
  refine va_get (D := D) (ci := 6) (v := .int so) (C := RX9) (T := TX9) (N := 6) hx hb hts in_X9_cutInHalf_X9 hown hE.1 hP 0 rfl rfl 0 (by decide +kernel) (hts (.fieldLink RX9 9 "ClauseBook$Sheet" "sort" "I") (List.mem_of_getElem? (i := 1) rfl)) (fun _ h9 => h9) rfl dX9_cutInHalf_1 ?_
  by_cases k_1 : so = 0
  · obtain rfl := k_1
    refine lv_tableIn (off := 28) (tgt := 32) hx hb dX9_cutInHalf_4 (by decide +kernel) (by decide +kernel) (by decide +kernel) (by decide +kernel) ?_
    refine lv_aload_n hx hb dX9_cutInHalf_32 rfl (lv_at hl 0 rfl) ?_
    refine va_get (D := D) (ci := 6) (v := .ref s0) (C := RX9) (T := TX9) (N := 6) hx hb hts in_X9_cutInHalf_X9 hown hE.1 hP 0 rfl rfl 2 (by decide +kernel) (hts (.fieldLink RX9 18 "ClauseBook$Sheet" "ints" "[I") (List.mem_of_getElem? (i := 2) rfl)) (fun _ h9 => h9) rfl dX9_cutInHalf_33 ?_
    refine lv_iload_n hx hb dX9_cutInHalf_36 rfl (lv_at hl 1 rfl) ?_
    refine lv_aload_n hx hb dX9_cutInHalf_37 rfl (lv_at hl 0 rfl) ?_
    refine va_get (D := D) (ci := 6) (v := .ref s0) (C := RX9) (T := TX9) (N := 6) hx hb hts in_X9_cutInHalf_X9 hown hE.1 hP 0 rfl rfl 2 (by decide +kernel) (hts (.fieldLink RX9 18 "ClauseBook$Sheet" "ints" "[I") (List.mem_of_getElem? (i := 2) rfl)) (fun _ h9 => h9) rfl dX9_cutInHalf_38 ?_
    refine lv_iload_n hx hb dX9_cutInHalf_41 rfl (lv_at hl 1 rfl) ?_
    refine va_iald hx hb hE.1 hP 1 0 rfl rfl (by assumption) dX9_cutInHalf_42 ?_
    refine lv_topi (fun z_2 ez_2 => ?_)
    refine lv_iconst (v := 2) hx hb dX9_cutInHalf_43 (by decide +kernel) ?_
    refine lv_idiv hx hb dX9_cutInHalf_44 (by decide +kernel) ?_
    refine va_iast hx hb hE.1 hP hD hS 1 0 rfl rfl (by assumption) dX9_cutInHalf_45 (fun H locs hP hD hS => ?_)
    obtain ⟨hP, hD⟩ := wPD [(h0, .inr (6, [.int 0, .int sn, .ref s0, .ref s1, .ref s2, .ref s3])), (s0, .inl (T 0, 30, .inl (upd f0 (x1.toNatClampNeg) (z_2 / 2)))), (s1, .inl (T 1, 30, .inr (.inl f1))), (s2, .inl (T 2, 30, .inr (.inr (.inl f2)))), (s3, .inl (T 3, 30, .inr (.inr (.inr (.inl f3)))))] hP hD rfl
    refine lv_goto (tgt := 101) hx hb dX9_cutInHalf_46 (by decide +kernel) ?_
    refine W.endD hd0 ?_
    exact W.vret hx hb hr (fun t ht hW => ⟨⟨((upd f0 (x1.toNatClampNeg) (z_2 / 2)), f1, f2, f3), rfl, trivial, by rw [ht]; exact hP.sub [0, 1, 2, 3, 4] rfl, hD.sub [0, 1, 2, 3, 4] (by decide +kernel) rfl⟩, hS.F ht⟩) hS.2.2 dX9_cutInHalf_101
  by_cases k_3 : so = 1
  · obtain rfl := k_3
    refine lv_tableIn (off := 45) (tgt := 49) hx hb dX9_cutInHalf_4 (by decide +kernel) (by decide +kernel) (by decide +kernel) (by decide +kernel) ?_
    refine lv_aload_n hx hb dX9_cutInHalf_49 rfl (lv_at hl 0 rfl) ?_
    refine va_get (D := D) (ci := 6) (v := .ref s1) (C := RX9) (T := TX9) (N := 6) hx hb hts in_X9_cutInHalf_X9 hown hE.1 hP 0 rfl rfl 3 (by decide +kernel) (hts (.fieldLink RX9 22 "ClauseBook$Sheet" "longs" "[J") (List.mem_of_getElem? (i := 3) rfl)) (fun _ h9 => h9) rfl dX9_cutInHalf_50 ?_
    refine lv_iload_n hx hb dX9_cutInHalf_53 rfl (lv_at hl 1 rfl) ?_
    refine lv_aload_n hx hb dX9_cutInHalf_54 rfl (lv_at hl 0 rfl) ?_
    refine va_get (D := D) (ci := 6) (v := .ref s1) (C := RX9) (T := TX9) (N := 6) hx hb hts in_X9_cutInHalf_X9 hown hE.1 hP 0 rfl rfl 3 (by decide +kernel) (hts (.fieldLink RX9 22 "ClauseBook$Sheet" "longs" "[J") (List.mem_of_getElem? (i := 3) rfl)) (fun _ h9 => h9) rfl dX9_cutInHalf_55 ?_
    refine lv_iload_n hx hb dX9_cutInHalf_58 rfl (lv_at hl 1 rfl) ?_
    refine va_lald hx hb hE.1 hP 2 1 rfl rfl (by assumption) dX9_cutInHalf_59 ?_
    refine lv_topl (fun z_4 ez_4 => ?_)
    refine lv_ldc2 (v := 2) hx hb hown (hts (.constantLong RX9 48 (2)) (List.mem_of_getElem? (i := 4) rfl)) dX9_cutInHalf_60 ?_
    refine lv_ldiv hx hb dX9_cutInHalf_63 (by decide +kernel) ?_
    refine va_last hx hb hE.1 hP hD hS 2 1 rfl rfl (by assumption) dX9_cutInHalf_64 (fun H locs hP hD hS => ?_)
    obtain ⟨hP, hD⟩ := wPD [(h0, .inr (6, [.int 1, .int sn, .ref s0, .ref s1, .ref s2, .ref s3])), (s0, .inl (T 0, 30, .inl f0)), (s1, .inl (T 1, 30, .inr (.inl (vp_updL f1 (x1.toNatClampNeg) (z_4 / 2))))), (s2, .inl (T 2, 30, .inr (.inr (.inl f2)))), (s3, .inl (T 3, 30, .inr (.inr (.inr (.inl f3)))))] hP hD rfl
    refine lv_goto (tgt := 101) hx hb dX9_cutInHalf_65 (by decide +kernel) ?_
    refine W.endD hd0 ?_
    exact W.vret hx hb hr (fun t ht hW => ⟨⟨(f0, (vp_updL f1 (x1.toNatClampNeg) (z_4 / 2)), f2, f3), rfl, trivial, by rw [ht]; exact hP.sub [0, 1, 2, 3, 4] rfl, hD.sub [0, 1, 2, 3, 4] (by decide +kernel) rfl⟩, hS.F ht⟩) hS.2.2 dX9_cutInHalf_101
  by_cases k_5 : so = 2
  · obtain rfl := k_5
    refine lv_tableIn (off := 64) (tgt := 68) hx hb dX9_cutInHalf_4 (by decide +kernel) (by decide +kernel) (by decide +kernel) (by decide +kernel) ?_
    refine lv_aload_n hx hb dX9_cutInHalf_68 rfl (lv_at hl 0 rfl) ?_
    refine va_get (D := D) (ci := 6) (v := .ref s2) (C := RX9) (T := TX9) (N := 6) hx hb hts in_X9_cutInHalf_X9 hown hE.1 hP 0 rfl rfl 4 (by decide +kernel) (hts (.fieldLink RX9 26 "ClauseBook$Sheet" "floats" "[F") (List.mem_of_getElem? (i := 5) rfl)) (fun _ h9 => h9) rfl dX9_cutInHalf_69 ?_
    refine lv_iload_n hx hb dX9_cutInHalf_72 rfl (lv_at hl 1 rfl) ?_
    refine lv_aload_n hx hb dX9_cutInHalf_73 rfl (lv_at hl 0 rfl) ?_
    refine va_get (D := D) (ci := 6) (v := .ref s2) (C := RX9) (T := TX9) (N := 6) hx hb hts in_X9_cutInHalf_X9 hown hE.1 hP 0 rfl rfl 4 (by decide +kernel) (hts (.fieldLink RX9 26 "ClauseBook$Sheet" "floats" "[F") (List.mem_of_getElem? (i := 5) rfl)) (fun _ h9 => h9) rfl dX9_cutInHalf_74 ?_
    refine lv_iload_n hx hb dX9_cutInHalf_77 rfl (lv_at hl 1 rfl) ?_
    refine va_fald hx hb hE.1 hP 3 2 rfl rfl (by assumption) dX9_cutInHalf_78 ?_
    obtain ⟨z_6, ez_6⟩ : ∃ y : UInt32, y = (f2 x1.toNatClampNeg) := ⟨_, rfl⟩
    refine W.eq (g2 := F0 m 79 ls [.float z_6, .int x1, .ref s2]) (by rw [ez_6]) ?_
    clear ez_6
    refine lv_fconst2 hx hb dX9_cutInHalf_79 ?_
    refine lv_fdiv_any hd0 lw_bits hx hb dX9_cutInHalf_80 (fun r_7 d_8 _ hd_8 => ?_)
    have hts := dr_words hts0 d_8
    have hE : ekK D T (s.setDrawn d_8) := ekK.same (u := s) rfl hE0
    have hown : (s.setDrawn d_8).vm.findClass RX9 = some m.cls := hown0
    refine va_fast hx hb hE.1 hP hD hS 3 2 rfl rfl (by assumption) dX9_cutInHalf_81 (fun H locs hP hD hS => ?_)
    obtain ⟨hP, hD⟩ := wPD [(h0, .inr (6, [.int 2, .int sn, .ref s0, .ref s1, .ref s2, .ref s3])), (s0, .inl (T 0, 30, .inl f0)), (s1, .inl (T 1, 30, .inr (.inl f1))), (s2, .inl (T 2, 30, .inr (.inr (.inl (vf_upd f2 (x1.toNatClampNeg) r_7))))), (s3, .inl (T 3, 30, .inr (.inr (.inr (.inl f3)))))] hP hD rfl
    refine lv_goto (tgt := 101) hx hb dX9_cutInHalf_82 (by decide +kernel) ?_
    refine W.endD hd_8 ?_
    exact W.vret hx hb hr (fun t ht hW => ⟨⟨(f0, f1, (vf_upd f2 (x1.toNatClampNeg) r_7), f3), rfl, trivial, by rw [ht]; exact hP.sub [0, 1, 2, 3, 4] rfl, hD.sub [0, 1, 2, 3, 4] (by decide +kernel) rfl⟩, hS.F ht⟩) hS.2.2 dX9_cutInHalf_101
  rw [fa_eq] at k_1 k_3 k_5
  try simp only [ti_0, ti_1, ti_2] at k_1 k_3 k_5
  refine lv_tableOut (tgt := 85) hx hb dX9_cutInHalf_4 (by omega) (by decide +kernel) ?_
  refine lv_aload_n hx hb dX9_cutInHalf_85 rfl (lv_at hl 0 rfl) ?_
  refine va_get (D := D) (ci := 6) (v := .ref s3) (C := RX9) (T := TX9) (N := 6) hx hb hts in_X9_cutInHalf_X9 hown hE.1 hP 0 rfl rfl 5 (by decide +kernel) (hts (.fieldLink RX9 30 "ClauseBook$Sheet" "doubles" "[D") (List.mem_of_getElem? (i := 6) rfl)) (fun _ h9 => h9) rfl dX9_cutInHalf_86 ?_
  refine lv_iload_n hx hb dX9_cutInHalf_89 rfl (lv_at hl 1 rfl) ?_
  refine lv_aload_n hx hb dX9_cutInHalf_90 rfl (lv_at hl 0 rfl) ?_
  refine va_get (D := D) (ci := 6) (v := .ref s3) (C := RX9) (T := TX9) (N := 6) hx hb hts in_X9_cutInHalf_X9 hown hE.1 hP 0 rfl rfl 5 (by decide +kernel) (hts (.fieldLink RX9 30 "ClauseBook$Sheet" "doubles" "[D") (List.mem_of_getElem? (i := 6) rfl)) (fun _ h9 => h9) rfl dX9_cutInHalf_91 ?_
  refine lv_iload_n hx hb dX9_cutInHalf_94 rfl (lv_at hl 1 rfl) ?_
  refine va_dald hx hb hE.1 hP 4 3 rfl rfl (by assumption) dX9_cutInHalf_95 ?_
  obtain ⟨z_9, ez_9⟩ : ∃ y : UInt64, y = (f3 x1.toNatClampNeg) := ⟨_, rfl⟩
  refine W.eq (g2 := F0 m 96 ls [.double z_9, .int x1, .ref s3]) (by rw [ez_9]) ?_
  clear ez_9
  refine lv_ldc2d (v := 4611686018427387904) hx hb hown (hts (.constantDouble RX9 50 (4611686018427387904)) (List.mem_of_getElem? (i := 7) rfl)) dX9_cutInHalf_96 ?_
  refine lv_ddiv_any hd0 lw_bits hx hb dX9_cutInHalf_99 (fun r_10 d_11 _ hd_11 => ?_)
  have hts := dr_words hts0 d_11
  have hE : ekK D T (s.setDrawn d_11) := ekK.same (u := s) rfl hE0
  have hown : (s.setDrawn d_11).vm.findClass RX9 = some m.cls := hown0
  refine va_dast hx hb hE.1 hP hD hS 4 3 rfl rfl (by assumption) dX9_cutInHalf_100 (fun H locs hP hD hS => ?_)
  obtain ⟨hP, hD⟩ := wPD [(h0, .inr (6, [.int so, .int sn, .ref s0, .ref s1, .ref s2, .ref s3])), (s0, .inl (T 0, 30, .inl f0)), (s1, .inl (T 1, 30, .inr (.inl f1))), (s2, .inl (T 2, 30, .inr (.inr (.inl f2)))), (s3, .inl (T 3, 30, .inr (.inr (.inr (.inl (vf_upd f3 (x1.toNatClampNeg) r_10))))))] hP hD rfl
  refine W.endD hd_11 ?_
  exact W.vret hx hb hr (fun t ht hW => ⟨⟨(f0, f1, f2, (vf_upd f3 (x1.toNatClampNeg) r_10)), rfl, trivial, by rw [ht]; exact hP.sub [0, 1, 2, 3, 4] rfl, hD.sub [0, 1, 2, 3, 4] (by decide +kernel) rfl⟩, hS.F ht⟩) hS.2.2 dX9_cutInHalf_101
theorem dX9_asItIs_0 : decode cX9_asItIs 0 = .ok (.aload_n 0, 1) := by decide +kernel
theorem dX9_asItIs_1 : decode cX9_asItIs 1 = .ok (.getfield 9, 3) := by decide +kernel
theorem dX9_asItIs_32 : decode cX9_asItIs 32 = .ok (.aload_n 0, 1) := by decide +kernel
theorem dX9_asItIs_33 : decode cX9_asItIs 33 = .ok (.getfield 18, 3) := by decide +kernel
theorem dX9_asItIs_36 : decode cX9_asItIs 36 = .ok (.iload_n 1, 1) := by decide +kernel
theorem dX9_asItIs_37 : decode cX9_asItIs 37 = .ok (.iaload, 1) := by decide +kernel
theorem dX9_asItIs_38 : decode cX9_asItIs 38 = .ok (.i2l, 1) := by decide +kernel
theorem dX9_asItIs_39 : decode cX9_asItIs 39 = .ok (.lreturn, 1) := by decide +kernel
theorem dX9_asItIs_4 : decode cX9_asItIs 4 = .ok (.tableswitch 54 0 2 #[28, 36, 43], 28) := by decide +kernel
theorem dX9_asItIs_40 : decode cX9_asItIs 40 = .ok (.aload_n 0, 1) := by decide +kernel
theorem dX9_asItIs_41 : decode cX9_asItIs 41 = .ok (.getfield 22, 3) := by decide +kernel
theorem dX9_asItIs_44 : decode cX9_asItIs 44 = .ok (.iload_n 1, 1) := by decide +kernel
theorem dX9_asItIs_45 : decode cX9_asItIs 45 = .ok (.laload, 1) := by decide +kernel
theorem dX9_asItIs_46 : decode cX9_asItIs 46 = .ok (.lreturn, 1) := by decide +kernel
theorem dX9_asItIs_47 : decode cX9_asItIs 47 = .ok (.aload_n 0, 1) := by decide +kernel
theorem dX9_asItIs_48 : decode cX9_asItIs 48 = .ok (.getfield 26, 3) := by decide +kernel
theorem dX9_asItIs_51 : decode cX9_asItIs 51 = .ok (.iload_n 1, 1) := by decide +kernel
theorem dX9_asItIs_52 : decode cX9_asItIs 52 = .ok (.faload, 1) := by decide +kernel
theorem dX9_asItIs_53 : decode cX9_asItIs 53 = .ok (.invokestatic 38, 3) := by decide +kernel
theorem dX9_asItIs_56 : decode cX9_asItIs 56 = .ok (.i2l, 1) := by decide +kernel
theorem dX9_asItIs_57 : decode cX9_asItIs 57 = .ok (.lreturn, 1) := by decide +kernel
theorem dX9_asItIs_58 : decode cX9_asItIs 58 = .ok (.aload_n 0, 1) := by decide +kernel
theorem dX9_asItIs_59 : decode cX9_asItIs 59 = .ok (.getfield 30, 3) := by decide +kernel
theorem dX9_asItIs_62 : decode cX9_asItIs 62 = .ok (.iload_n 1, 1) := by decide +kernel
theorem dX9_asItIs_63 : decode cX9_asItIs 63 = .ok (.daload, 1) := by decide +kernel
theorem dX9_asItIs_64 : decode cX9_asItIs 64 = .ok (.invokestatic 44, 3) := by decide +kernel
theorem dX9_asItIs_67 : decode cX9_asItIs 67 = .ok (.lreturn, 1) := by decide +kernel
set_option maxRecDepth 20000 in
theorem ggX9_asItIs_X5_doubleBits : GoodIn wsX9_asItIs wsX5_doubleBits := goodIn_r _ [20, 21, 11, 12, 8, 13, 14, 15, 16, 17] rfl (by decide +kernel)
set_option maxRecDepth 20000 in
theorem ggX9_asItIs_X5_floatBits : GoodIn wsX9_asItIs wsX5_floatBits := goodIn_r _ [9, 10, 11, 12, 8, 13, 14, 15, 16, 17] rfl (by decide +kernel)
set_option maxRecDepth 20000 in
theorem gX9_asItIs_X5_doubleBits : GoodIn wsX9_asItIs (va_wsS RX9 44 yX5_doubleBits wsX5_doubleBits) := goodIn_app (goodIn_of _ (by decide +kernel)) ggX9_asItIs_X5_doubleBits
set_option maxRecDepth 20000 in
theorem gX9_asItIs_X5_floatBits : GoodIn wsX9_asItIs (va_wsS RX9 38 yX5_floatBits wsX5_floatBits) := goodIn_app (goodIn_of _ (by decide +kernel)) ggX9_asItIs_X5_floatBits
theorem hs_X5_doubleBits : yX5_doubleBits.cls ≠ "java/lang/invoke/MethodHandle" ∧ yX5_doubleBits.cls ≠ "java/lang/invoke/VarHandle" ∧ (parseMethodDescriptor yX5_doubleBits.desc).map (fun d => d.parameters.length) = some 1 := by decide +kernel
theorem hs_X5_floatBits : yX5_floatBits.cls ≠ "java/lang/invoke/MethodHandle" ∧ yX5_floatBits.cls ≠ "java/lang/invoke/VarHandle" ∧ (parseMethodDescriptor yX5_floatBits.desc).map (fun d => d.parameters.length) = some 1 := by decide +kernel
set_option maxRecDepth 20000 in
theorem in_X9_asItIs_X9 : ∀ w ∈ wsX90, w ∈ wsX9_asItIs := sub_r [22, 23, 24, 25, 26, 27] rfl
set_option maxHeartbeats 4000000 in
set_option maxRecDepth 100000 in
theorem c_X9_asItIs (l : Launch) (D : va_G) (T : Nat → ClassId) (sz : Nat) (h0 : Nat) (so : Int32) (sn : Int32) (s0 : Nat) (s1 : Nat) (s2 : Nat) (s3 : Nat) (f0 : Nat → Int32) (f1 : Nat → Int64) (f2 : Nat → UInt32) (f3 : Nat → UInt64) (x1 : Int32) (hin1 : vp_in x1 30) : MetD lw_cs l yX9_asItIs wsX9_asItIs ({ frames := 2, cells := 0, slots := 0, locals := 51 }) (pW [.ref h0, .int x1] D T [(h0, .inr (6, [.int so, .int sn, .ref s0, .ref s1, .ref s2, .ref s3])), (s0, .inl (T 0, 30, .inl f0)), (s1, .inl (T 1, 30, .inr (.inl f1))), (s2, .inl (T 2, 30, .inr (.inr (.inl f2)))), (s3, .inl (T 3, 30, .inr (.inr (.inr (.inl f3)))))] sz) (va_Ql (fun (r : Int64) (u : Unit) => True) (bW D (va_A [(h0, .inr (6, [.int so, .int sn, .ref s0, .ref s1, .ref s2, .ref s3])), (s0, .inl (T 0, 30, .inl f0)), (s1, .inl (T 1, 30, .inr (.inl f1))), (s2, .inl (T 2, 30, .inr (.inr (.inl f2)))), (s3, .inl (T 3, 30, .inr (.inr (.inr (.inl f3)))))] sz) (fun (u : Unit) => [(h0, .inr (6, [.int so, .int sn, .ref s0, .ref s1, .ref s2, .ref s3])), (s0, .inl (T 0, 30, .inl f0)), (s1, .inl (T 1, 30, .inr (.inl f1))), (s2, .inl (T 2, 30, .inr (.inr (.inl f2)))), (s3, .inl (T 3, 30, .inr (.inr (.inr (.inl f3)))))])) (va_A [(h0, .inr (6, [.int so, .int sn, .ref s0, .ref s1, .ref s2, .ref s3])), (s0, .inl (T 0, 30, .inl f0)), (s1, .inl (T 1, 30, .inr (.inl f1))), (s2, .inl (T 2, 30, .inr (.inr (.inl f2)))), (s3, .inl (T 3, 30, .inr (.inr (.inr (.inl f3)))))] sz)) 0 0 (va_A [(h0, .inr (6, [.int so, .int sn, .ref s0, .ref s1, .ref s2, .ref s3])), (s0, .inl (T 0, 30, .inl f0)), (s1, .inl (T 1, 30, .inr (.inl f1))), (s2, .inl (T 2, 30, .inr (.inr (.inl f2)))), (s3, .inl (T 3, 30, .inr (.inr (.inr (.inl f3)))))] sz) := by
  refine MetD.ofW (cc := cX9_asItIs) (maxL := 2) (ret := (some .long)) (by decide +kernel) rfl ?_
  intro p e s m args below meth c s₁ B hml hv hd0
  obtain ⟨rfl, hsz, hP, hE0, hD0⟩ := hv
  have hx := B.exec
  have hb := B.bytes
  have hr := B.returns
  have hts0 := atoms_spec (ws := wsX9_asItIs) B.pre
  have hown0 : s.vm.findClass RX9 = some m.cls := findClass_of_methodNamed B.named
  have hlocks := B.notSynchronized
  subst hsz
  have hD := hD0.self (sz := s.heap.size)
  generalize hAe : va_A [(h0, .inr (6, [.int so, .int sn, .ref s0, .ref s1, .ref s2, .ref s3])), (s0, .inl (T 0, 30, .inl f0)), (s1, .inl (T 1, 30, .inr (.inl f1))), (s2, .inl (T 2, 30, .inr (.inr (.inl f2)))), (s3, .inl (T 3, 30, .inr (.inr (.inr (.inl f3)))))] s.heap.size = A at hD ⊢
  have hA : ∀ q : Nat, s.heap.size ≤ q → A q := fun q h => by rw [← hAe]; exact Or.inr h
  have hS : va_S A s.heap s.heap [] := va_S.rf
  have hP : va_P D vwCl [(h0, .inr (6, [.int so, .int sn, .ref s0, .ref s1, .ref s2, .ref s3])), (s0, .inl (T 0, 30, .inl f0)), (s1, .inl (T 1, 30, .inr (.inl f1))), (s2, .inl (T 2, 30, .inr (.inr (.inl f2)))), (s3, .inl (T 3, 30, .inr (.inr (.inr (.inl f3)))))] s.heap := hP
  have hl := lv_entry ([.ref h0, .int x1]) (n := 2) (Nat.le_of_ble_eq_true rfl)
  rw [lg_entry_eq]
  generalize (lg_sl ([.ref h0, .int x1]) ++ List.replicate (2 - (lg_sl ([.ref h0, .int x1])).length) Slot.unset).toArray = ls at hl ⊢
  have hl : lv_has ls 2 [(0, .ref h0), (1, .int x1)] := hl
  clear hD0
  have hts := dr_words hts0 s.drawn
  have hE : ekK D T (s.setDrawn s.drawn) := ekK.same (u := s) rfl hE0
  have hown : (s.setDrawn s.drawn).vm.findClass RX9 = some m.cls := hown0
  refine lv_aload_n hx hb dX9_asItIs_0 rfl (lv_at hl 0 rfl) ?_
  refine va_get (D := D) (ci := 6) (v := .int so) (C := RX9) (T := TX9) (N := 6) hx hb hts in_X9_asItIs_X9 hown hE.1 hP 0 rfl rfl 0 (by decide +kernel) (hts (.fieldLink RX9 9 "ClauseBook$Sheet" "sort" "I") (List.mem_of_getElem? (i := 1) rfl)) (fun _ h9 => h9) rfl dX9_asItIs_1 ?_
  by_cases k_1 : so = 0
  · obtain rfl := k_1
    refine lv_tableIn (off := 28) (tgt := 32) hx hb dX9_asItIs_4 (by decide +kernel) (by decide +kernel) (by decide +kernel) (by decide +kernel) ?_
    refine lv_aload_n hx hb dX9_asItIs_32 rfl (lv_at hl 0 rfl) ?_
    refine va_get (D := D) (ci := 6) (v := .ref s0) (C := RX9) (T := TX9) (N := 6) hx hb hts in_X9_asItIs_X9 hown hE.1 hP 0 rfl rfl 2 (by decide +kernel) (hts (.fieldLink RX9 18 "ClauseBook$Sheet" "ints" "[I") (List.mem_of_getElem? (i := 2) rfl)) (fun _ h9 => h9) rfl dX9_asItIs_33 ?_
    refine lv_iload_n hx hb dX9_asItIs_36 rfl (lv_at hl 1 rfl) ?_
    refine va_iald hx hb hE.1 hP 1 0 rfl rfl (by assumption) dX9_asItIs_37 ?_
    refine lv_topi (fun z_2 ez_2 => ?_)
    refine lv_i2l hx hb dX9_asItIs_38 rfl ?_
    refine W.endD hd0 ?_
    exact W.lret hx hb hr (fun t ht hW => ⟨⟨_, (), rfl, trivial, by rw [ht]; exact hP.sub [0, 1, 2, 3, 4] rfl, hD.sub [0, 1, 2, 3, 4] (by decide +kernel) rfl⟩, hS.F ht⟩) hS.2.2 dX9_asItIs_39
  by_cases k_3 : so = 1
  · obtain rfl := k_3
    refine lv_tableIn (off := 36) (tgt := 40) hx hb dX9_asItIs_4 (by decide +kernel) (by decide +kernel) (by decide +kernel) (by decide +kernel) ?_
    refine lv_aload_n hx hb dX9_asItIs_40 rfl (lv_at hl 0 rfl) ?_
    refine va_get (D := D) (ci := 6) (v := .ref s1) (C := RX9) (T := TX9) (N := 6) hx hb hts in_X9_asItIs_X9 hown hE.1 hP 0 rfl rfl 3 (by decide +kernel) (hts (.fieldLink RX9 22 "ClauseBook$Sheet" "longs" "[J") (List.mem_of_getElem? (i := 3) rfl)) (fun _ h9 => h9) rfl dX9_asItIs_41 ?_
    refine lv_iload_n hx hb dX9_asItIs_44 rfl (lv_at hl 1 rfl) ?_
    refine va_lald hx hb hE.1 hP 2 1 rfl rfl (by assumption) dX9_asItIs_45 ?_
    refine lv_topl (fun z_4 ez_4 => ?_)
    refine W.endD hd0 ?_
    exact W.lret hx hb hr (fun t ht hW => ⟨⟨_, (), rfl, trivial, by rw [ht]; exact hP.sub [0, 1, 2, 3, 4] rfl, hD.sub [0, 1, 2, 3, 4] (by decide +kernel) rfl⟩, hS.F ht⟩) hS.2.2 dX9_asItIs_46
  by_cases k_5 : so = 2
  · obtain rfl := k_5
    refine lv_tableIn (off := 43) (tgt := 47) hx hb dX9_asItIs_4 (by decide +kernel) (by decide +kernel) (by decide +kernel) (by decide +kernel) ?_
    refine lv_aload_n hx hb dX9_asItIs_47 rfl (lv_at hl 0 rfl) ?_
    refine va_get (D := D) (ci := 6) (v := .ref s2) (C := RX9) (T := TX9) (N := 6) hx hb hts in_X9_asItIs_X9 hown hE.1 hP 0 rfl rfl 4 (by decide +kernel) (hts (.fieldLink RX9 26 "ClauseBook$Sheet" "floats" "[F") (List.mem_of_getElem? (i := 4) rfl)) (fun _ h9 => h9) rfl dX9_asItIs_48 ?_
    refine lv_iload_n hx hb dX9_asItIs_51 rfl (lv_at hl 1 rfl) ?_
    refine va_fald hx hb hE.1 hP 3 2 rfl rfl (by assumption) dX9_asItIs_52 ?_
    obtain ⟨z_6, ez_6⟩ : ∃ y : UInt32, y = (f2 x1.toNatClampNeg) := ⟨_, rfl⟩
    refine W.eq (g2 := F0 m 53 ls [.float z_6]) (by rw [ez_6]) ?_
    clear ez_6
    have hFc := va_free (wc := []) hD hS hA [] rfl
    refine va_calliD hd0 (va_runS_D (As := [.float z_6]) (rest := []) ⟨hx, hb, hml, hown, hts⟩ (c_X5_floatBits l D T _ z_6) (va_cwS 1 hts gX9_asItIs_X5_floatBits rfl rfl rfl hs_X5_floatBits ⟨Nat.le_of_ble_eq_true rfl, Nat.le_of_ble_eq_true rfl⟩) (pW_S hP hE hD [] (by decide +kernel) rfl rfl) rfl rfl hl.1 rfl (lv_room (Nat.le_of_ble_eq_true rfl)) dX9_asItIs_53 ⟨Nat.le_of_ble_eq_true rfl, Nat.le_of_ble_eq_true rfl⟩) hS (fun q _ h => hFc q h) hFc (fun r_7 u_8 t H1 locs ht hvm hr_7 hB hz1 hk1 hS d_9 hd_9 => ?_)
    have hts := dr_words hts0 d_9
    have hE : ekK D T (s.setDrawn d_9) := ekK.same (u := s) rfl hE0
    have hown : (s.setDrawn d_9).vm.findClass RX9 = some m.cls := hown0
    obtain ⟨hP1, hD1⟩ := hB
    rw [ht] at hP1
    obtain ⟨hP, hD⟩ := va_repl [(h0, .inr (6, [.int 2, .int sn, .ref s0, .ref s1, .ref s2, .ref s3])), (s0, .inl (T 0, 30, .inl f0)), (s1, .inl (T 1, 30, .inr (.inl f1))), (s2, .inl (T 2, 30, .inr (.inr (.inl f2)))), (s3, .inl (T 3, 30, .inr (.inr (.inr (.inl f3)))))] hP hD [] [] rfl (by decide +kernel) rfl rfl rfl hk1 hP1
    clear hP1 hD1 hFc
    generalize H1 = H at hP hS ⊢
    refine lv_i2l hx hb dX9_asItIs_56 rfl ?_
    refine W.endD hd_9 ?_
    exact W.lret hx hb hr (fun t ht hW => ⟨⟨_, (), rfl, trivial, by rw [ht]; exact hP.sub [0, 1, 2, 3, 4] rfl, hD.sub [0, 1, 2, 3, 4] (by decide +kernel) rfl⟩, hS.F ht⟩) hS.2.2 dX9_asItIs_57
  rw [fa_eq] at k_1 k_3 k_5
  try simp only [ti_0, ti_1, ti_2] at k_1 k_3 k_5
  refine lv_tableOut (tgt := 58) hx hb dX9_asItIs_4 (by omega) (by decide +kernel) ?_
  refine lv_aload_n hx hb dX9_asItIs_58 rfl (lv_at hl 0 rfl) ?_
  refine va_get (D := D) (ci := 6) (v := .ref s3) (C := RX9) (T := TX9) (N := 6) hx hb hts in_X9_asItIs_X9 hown hE.1 hP 0 rfl rfl 5 (by decide +kernel) (hts (.fieldLink RX9 30 "ClauseBook$Sheet" "doubles" "[D") (List.mem_of_getElem? (i := 5) rfl)) (fun _ h9 => h9) rfl dX9_asItIs_59 ?_
  refine lv_iload_n hx hb dX9_asItIs_62 rfl (lv_at hl 1 rfl) ?_
  refine va_dald hx hb hE.1 hP 4 3 rfl rfl (by assumption) dX9_asItIs_63 ?_
  obtain ⟨z_10, ez_10⟩ : ∃ y : UInt64, y = (f3 x1.toNatClampNeg) := ⟨_, rfl⟩
  refine W.eq (g2 := F0 m 64 ls [.double z_10]) (by rw [ez_10]) ?_
  clear ez_10
  have hFc := va_free (wc := []) hD hS hA [] rfl
  refine va_calllD hd0 (va_runS_D (As := [.double z_10]) (rest := []) ⟨hx, hb, hml, hown, hts⟩ (c_X5_doubleBits l D T _ z_10) (va_cwS 1 hts gX9_asItIs_X5_doubleBits rfl rfl rfl hs_X5_doubleBits ⟨Nat.le_of_ble_eq_true rfl, Nat.le_of_ble_eq_true rfl⟩) (pW_S hP hE hD [] (by decide +kernel) rfl rfl) rfl rfl hl.1 rfl (lv_room (Nat.le_of_ble_eq_true rfl)) dX9_asItIs_64 ⟨Nat.le_of_ble_eq_true rfl, Nat.le_of_ble_eq_true rfl⟩) hS (fun q _ h => hFc q h) hFc (fun r_11 u_12 t H1 locs ht hvm hr_11 hB hz1 hk1 hS d_13 hd_13 => ?_)
  have hts := dr_words hts0 d_13
  have hE : ekK D T (s.setDrawn d_13) := ekK.same (u := s) rfl hE0
  have hown : (s.setDrawn d_13).vm.findClass RX9 = some m.cls := hown0
  obtain ⟨hP1, hD1⟩ := hB
  rw [ht] at hP1
  obtain ⟨hP, hD⟩ := va_repl [(h0, .inr (6, [.int so, .int sn, .ref s0, .ref s1, .ref s2, .ref s3])), (s0, .inl (T 0, 30, .inl f0)), (s1, .inl (T 1, 30, .inr (.inl f1))), (s2, .inl (T 2, 30, .inr (.inr (.inl f2)))), (s3, .inl (T 3, 30, .inr (.inr (.inr (.inl f3)))))] hP hD [] [] rfl (by decide +kernel) rfl rfl rfl hk1 hP1
  clear hP1 hD1 hFc
  generalize H1 = H at hP hS ⊢
  refine W.endD hd_13 ?_
  exact W.lret hx hb hr (fun t ht hW => ⟨⟨_, (), rfl, trivial, by rw [ht]; exact hP.sub [0, 1, 2, 3, 4] rfl, hD.sub [0, 1, 2, 3, 4] (by decide +kernel) rfl⟩, hS.F ht⟩) hS.2.2 dX9_asItIs_67
theorem dX9_asInt_0 : decode cX9_asInt 0 = .ok (.aload_n 0, 1) := by decide +kernel
theorem dX9_asInt_1 : decode cX9_asInt 1 = .ok (.getfield 9, 3) := by decide +kernel
theorem dX9_asInt_32 : decode cX9_asInt 32 = .ok (.aload_n 0, 1) := by decide +kernel
theorem dX9_asInt_33 : decode cX9_asInt 33 = .ok (.getfield 18, 3) := by decide +kernel
theorem dX9_asInt_36 : decode cX9_asInt 36 = .ok (.iload_n 1, 1) := by decide +kernel
theorem dX9_asInt_37 : decode cX9_asInt 37 = .ok (.iaload, 1) := by decide +kernel
theorem dX9_asInt_38 : decode cX9_asInt 38 = .ok (.ireturn, 1) := by decide +kernel
theorem dX9_asInt_39 : decode cX9_asInt 39 = .ok (.aload_n 0, 1) := by decide +kernel
theorem dX9_asInt_4 : decode cX9_asInt 4 = .ok (.tableswitch 51 0 2 #[28, 35, 43], 28) := by decide +kernel
theorem dX9_asInt_40 : decode cX9_asInt 40 = .ok (.getfield 22, 3) := by decide +kernel
theorem dX9_asInt_43 : decode cX9_asInt 43 = .ok (.iload_n 1, 1) := by decide +kernel
theorem dX9_asInt_44 : decode cX9_asInt 44 = .ok (.laload, 1) := by decide +kernel
theorem dX9_asInt_45 : decode cX9_asInt 45 = .ok (.l2i, 1) := by decide +kernel
theorem dX9_asInt_46 : decode cX9_asInt 46 = .ok (.ireturn, 1) := by decide +kernel
theorem dX9_asInt_47 : decode cX9_asInt 47 = .ok (.aload_n 0, 1) := by decide +kernel
theorem dX9_asInt_48 : decode cX9_asInt 48 = .ok (.getfield 26, 3) := by decide +kernel
theorem dX9_asInt_51 : decode cX9_asInt 51 = .ok (.iload_n 1, 1) := by decide +kernel
theorem dX9_asInt_52 : decode cX9_asInt 52 = .ok (.faload, 1) := by decide +kernel
theorem dX9_asInt_53 : decode cX9_asInt 53 = .ok (.f2i, 1) := by decide +kernel
theorem dX9_asInt_54 : decode cX9_asInt 54 = .ok (.ireturn, 1) := by decide +kernel
theorem dX9_asInt_55 : decode cX9_asInt 55 = .ok (.aload_n 0, 1) := by decide +kernel
theorem dX9_asInt_56 : decode cX9_asInt 56 = .ok (.getfield 30, 3) := by decide +kernel
theorem dX9_asInt_59 : decode cX9_asInt 59 = .ok (.iload_n 1, 1) := by decide +kernel
theorem dX9_asInt_60 : decode cX9_asInt 60 = .ok (.daload, 1) := by decide +kernel
theorem dX9_asInt_61 : decode cX9_asInt 61 = .ok (.d2i, 1) := by decide +kernel
theorem dX9_asInt_62 : decode cX9_asInt 62 = .ok (.ireturn, 1) := by decide +kernel
set_option maxRecDepth 20000 in
theorem in_X9_asInt_X9 : ∀ w ∈ wsX90, w ∈ wsX9_asInt := sub_r [6, 7, 8, 9, 10, 11] rfl
set_option maxHeartbeats 4000000 in
set_option maxRecDepth 100000 in
theorem c_X9_asInt (l : Launch) (D : va_G) (T : Nat → ClassId) (sz : Nat) (h0 : Nat) (so : Int32) (sn : Int32) (s0 : Nat) (s1 : Nat) (s2 : Nat) (s3 : Nat) (f0 : Nat → Int32) (f1 : Nat → Int64) (f2 : Nat → UInt32) (f3 : Nat → UInt64) (x1 : Int32) (hin1 : vp_in x1 30) : Met l yX9_asInt wsX9_asInt ({ frames := 0, cells := 0, slots := 0, locals := 0 }) (pW [.ref h0, .int x1] D T [(h0, .inr (6, [.int so, .int sn, .ref s0, .ref s1, .ref s2, .ref s3])), (s0, .inl (T 0, 30, .inl f0)), (s1, .inl (T 1, 30, .inr (.inl f1))), (s2, .inl (T 2, 30, .inr (.inr (.inl f2)))), (s3, .inl (T 3, 30, .inr (.inr (.inr (.inl f3)))))] sz) (va_Qi (fun (r : Int32) (u : Unit) => True) (bW D (va_A [(h0, .inr (6, [.int so, .int sn, .ref s0, .ref s1, .ref s2, .ref s3])), (s0, .inl (T 0, 30, .inl f0)), (s1, .inl (T 1, 30, .inr (.inl f1))), (s2, .inl (T 2, 30, .inr (.inr (.inl f2)))), (s3, .inl (T 3, 30, .inr (.inr (.inr (.inl f3)))))] sz) (fun (u : Unit) => [(h0, .inr (6, [.int so, .int sn, .ref s0, .ref s1, .ref s2, .ref s3])), (s0, .inl (T 0, 30, .inl f0)), (s1, .inl (T 1, 30, .inr (.inl f1))), (s2, .inl (T 2, 30, .inr (.inr (.inl f2)))), (s3, .inl (T 3, 30, .inr (.inr (.inr (.inl f3)))))])) (va_A [(h0, .inr (6, [.int so, .int sn, .ref s0, .ref s1, .ref s2, .ref s3])), (s0, .inl (T 0, 30, .inl f0)), (s1, .inl (T 1, 30, .inr (.inl f1))), (s2, .inl (T 2, 30, .inr (.inr (.inl f2)))), (s3, .inl (T 3, 30, .inr (.inr (.inr (.inl f3)))))] sz)) 0 0 (va_A [(h0, .inr (6, [.int so, .int sn, .ref s0, .ref s1, .ref s2, .ref s3])), (s0, .inl (T 0, 30, .inl f0)), (s1, .inl (T 1, 30, .inr (.inl f1))), (s2, .inl (T 2, 30, .inr (.inr (.inl f2)))), (s3, .inl (T 3, 30, .inr (.inr (.inr (.inl f3)))))] sz) := by
  refine Met.ofW (cc := cX9_asInt) (maxL := 2) (ret := (some .int)) (by decide +kernel) rfl ?_
  intro p e s m args below meth c s₁ B hml hv
  obtain ⟨rfl, hsz, hP, hE, hD0⟩ := hv
  have hx := B.exec
  have hb := B.bytes
  have hr := B.returns
  have hts := atoms_spec (ws := wsX9_asInt) B.pre
  have hown : s.vm.findClass RX9 = some m.cls := findClass_of_methodNamed B.named
  have hlocks := B.notSynchronized
  subst hsz
  have hD := hD0.self (sz := s.heap.size)
  generalize hAe : va_A [(h0, .inr (6, [.int so, .int sn, .ref s0, .ref s1, .ref s2, .ref s3])), (s0, .inl (T 0, 30, .inl f0)), (s1, .inl (T 1, 30, .inr (.inl f1))), (s2, .inl (T 2, 30, .inr (.inr (.inl f2)))), (s3, .inl (T 3, 30, .inr (.inr (.inr (.inl f3)))))] s.heap.size = A at hD ⊢
  have hA : ∀ q : Nat, s.heap.size ≤ q → A q := fun q h => by rw [← hAe]; exact Or.inr h
  have hS : va_S A s.heap s.heap [] := va_S.rf
  have hP : va_P D vwCl [(h0, .inr (6, [.int so, .int sn, .ref s0, .ref s1, .ref s2, .ref s3])), (s0, .inl (T 0, 30, .inl f0)), (s1, .inl (T 1, 30, .inr (.inl f1))), (s2, .inl (T 2, 30, .inr (.inr (.inl f2)))), (s3, .inl (T 3, 30, .inr (.inr (.inr (.inl f3)))))] s.heap := hP
  have hl := lv_entry ([.ref h0, .int x1]) (n := 2) (Nat.le_of_ble_eq_true rfl)
  rw [lg_entry_eq]
  generalize (lg_sl ([.ref h0, .int x1]) ++ List.replicate (2 - (lg_sl ([.ref h0, .int x1])).length) Slot.unset).toArray = ls at hl ⊢
  have hl : lv_has ls 2 [(0, .ref h0), (1, .int x1)] := hl
  clear hD0
  refine lv_aload_n hx hb dX9_asInt_0 rfl (lv_at hl 0 rfl) ?_
  refine va_get (D := D) (ci := 6) (v := .int so) (C := RX9) (T := TX9) (N := 6) hx hb hts in_X9_asInt_X9 hown hE.1 hP 0 rfl rfl 0 (by decide +kernel) (hts (.fieldLink RX9 9 "ClauseBook$Sheet" "sort" "I") (List.mem_of_getElem? (i := 1) rfl)) (fun _ h9 => h9) rfl dX9_asInt_1 ?_
  by_cases k_1 : so = 0
  · obtain rfl := k_1
    refine lv_tableIn (off := 28) (tgt := 32) hx hb dX9_asInt_4 (by decide +kernel) (by decide +kernel) (by decide +kernel) (by decide +kernel) ?_
    refine lv_aload_n hx hb dX9_asInt_32 rfl (lv_at hl 0 rfl) ?_
    refine va_get (D := D) (ci := 6) (v := .ref s0) (C := RX9) (T := TX9) (N := 6) hx hb hts in_X9_asInt_X9 hown hE.1 hP 0 rfl rfl 2 (by decide +kernel) (hts (.fieldLink RX9 18 "ClauseBook$Sheet" "ints" "[I") (List.mem_of_getElem? (i := 2) rfl)) (fun _ h9 => h9) rfl dX9_asInt_33 ?_
    refine lv_iload_n hx hb dX9_asInt_36 rfl (lv_at hl 1 rfl) ?_
    refine va_iald hx hb hE.1 hP 1 0 rfl rfl (by assumption) dX9_asInt_37 ?_
    refine lv_topi (fun z_2 ez_2 => ?_)
    exact W.iret hx hb hr (fun t ht hW => ⟨⟨_, (), rfl, trivial, by rw [ht]; exact hP.sub [0, 1, 2, 3, 4] rfl, hD.sub [0, 1, 2, 3, 4] (by decide +kernel) rfl⟩, hS.F ht⟩) hS.2.2 dX9_asInt_38
  by_cases k_3 : so = 1
  · obtain rfl := k_3
    refine lv_tableIn (off := 35) (tgt := 39) hx hb dX9_asInt_4 (by decide +kernel) (by decide +kernel) (by decide +kernel) (by decide +kernel) ?_
    refine lv_aload_n hx hb dX9_asInt_39 rfl (lv_at hl 0 rfl) ?_
    refine va_get (D := D) (ci := 6) (v := .ref s1) (C := RX9) (T := TX9) (N := 6) hx hb hts in_X9_asInt_X9 hown hE.1 hP 0 rfl rfl 3 (by decide +kernel) (hts (.fieldLink RX9 22 "ClauseBook$Sheet" "longs" "[J") (List.mem_of_getElem? (i := 3) rfl)) (fun _ h9 => h9) rfl dX9_asInt_40 ?_
    refine lv_iload_n hx hb dX9_asInt_43 rfl (lv_at hl 1 rfl) ?_
    refine va_lald hx hb hE.1 hP 2 1 rfl rfl (by assumption) dX9_asInt_44 ?_
    refine lv_topl (fun z_4 ez_4 => ?_)
    refine lv_l2i hx hb dX9_asInt_45 rfl ?_
    exact W.iret hx hb hr (fun t ht hW => ⟨⟨_, (), rfl, trivial, by rw [ht]; exact hP.sub [0, 1, 2, 3, 4] rfl, hD.sub [0, 1, 2, 3, 4] (by decide +kernel) rfl⟩, hS.F ht⟩) hS.2.2 dX9_asInt_46
  by_cases k_5 : so = 2
  · obtain rfl := k_5
    refine lv_tableIn (off := 43) (tgt := 47) hx hb dX9_asInt_4 (by decide +kernel) (by decide +kernel) (by decide +kernel) (by decide +kernel) ?_
    refine lv_aload_n hx hb dX9_asInt_47 rfl (lv_at hl 0 rfl) ?_
    refine va_get (D := D) (ci := 6) (v := .ref s2) (C := RX9) (T := TX9) (N := 6) hx hb hts in_X9_asInt_X9 hown hE.1 hP 0 rfl rfl 4 (by decide +kernel) (hts (.fieldLink RX9 26 "ClauseBook$Sheet" "floats" "[F") (List.mem_of_getElem? (i := 4) rfl)) (fun _ h9 => h9) rfl dX9_asInt_48 ?_
    refine lv_iload_n hx hb dX9_asInt_51 rfl (lv_at hl 1 rfl) ?_
    refine va_fald hx hb hE.1 hP 3 2 rfl rfl (by assumption) dX9_asInt_52 ?_
    obtain ⟨z_6, ez_6⟩ : ∃ y : UInt32, y = (f2 x1.toNatClampNeg) := ⟨_, rfl⟩
    refine W.eq (g2 := F0 m 53 ls [.float z_6]) (by rw [ez_6]) ?_
    clear ez_6
    refine lv_f2i hx hb dX9_asInt_53 ?_
    refine lv_topi (fun z_7 ez_7 => ?_)
    exact W.iret hx hb hr (fun t ht hW => ⟨⟨_, (), rfl, trivial, by rw [ht]; exact hP.sub [0, 1, 2, 3, 4] rfl, hD.sub [0, 1, 2, 3, 4] (by decide +kernel) rfl⟩, hS.F ht⟩) hS.2.2 dX9_asInt_54
  rw [fa_eq] at k_1 k_3 k_5
  try simp only [ti_0, ti_1, ti_2] at k_1 k_3 k_5
  refine lv_tableOut (tgt := 55) hx hb dX9_asInt_4 (by omega) (by decide +kernel) ?_
  refine lv_aload_n hx hb dX9_asInt_55 rfl (lv_at hl 0 rfl) ?_
  refine va_get (D := D) (ci := 6) (v := .ref s3) (C := RX9) (T := TX9) (N := 6) hx hb hts in_X9_asInt_X9 hown hE.1 hP 0 rfl rfl 5 (by decide +kernel) (hts (.fieldLink RX9 30 "ClauseBook$Sheet" "doubles" "[D") (List.mem_of_getElem? (i := 5) rfl)) (fun _ h9 => h9) rfl dX9_asInt_56 ?_
  refine lv_iload_n hx hb dX9_asInt_59 rfl (lv_at hl 1 rfl) ?_
  refine va_dald hx hb hE.1 hP 4 3 rfl rfl (by assumption) dX9_asInt_60 ?_
  obtain ⟨z_8, ez_8⟩ : ∃ y : UInt64, y = (f3 x1.toNatClampNeg) := ⟨_, rfl⟩
  refine W.eq (g2 := F0 m 61 ls [.double z_8]) (by rw [ez_8]) ?_
  clear ez_8
  refine lv_d2i hx hb dX9_asInt_61 ?_
  refine lv_topi (fun z_9 ez_9 => ?_)
  exact W.iret hx hb hr (fun t ht hW => ⟨⟨_, (), rfl, trivial, by rw [ht]; exact hP.sub [0, 1, 2, 3, 4] rfl, hD.sub [0, 1, 2, 3, 4] (by decide +kernel) rfl⟩, hS.F ht⟩) hS.2.2 dX9_asInt_62
theorem dX9_asLong_0 : decode cX9_asLong 0 = .ok (.aload_n 0, 1) := by decide +kernel
theorem dX9_asLong_1 : decode cX9_asLong 1 = .ok (.getfield 9, 3) := by decide +kernel
theorem dX9_asLong_32 : decode cX9_asLong 32 = .ok (.aload_n 0, 1) := by decide +kernel
theorem dX9_asLong_33 : decode cX9_asLong 33 = .ok (.getfield 18, 3) := by decide +kernel
theorem dX9_asLong_36 : decode cX9_asLong 36 = .ok (.iload_n 1, 1) := by decide +kernel
theorem dX9_asLong_37 : decode cX9_asLong 37 = .ok (.iaload, 1) := by decide +kernel
theorem dX9_asLong_38 : decode cX9_asLong 38 = .ok (.i2l, 1) := by decide +kernel
theorem dX9_asLong_39 : decode cX9_asLong 39 = .ok (.lreturn, 1) := by decide +kernel
theorem dX9_asLong_4 : decode cX9_asLong 4 = .ok (.tableswitch 51 0 2 #[28, 36, 43], 28) := by decide +kernel
theorem dX9_asLong_40 : decode cX9_asLong 40 = .ok (.aload_n 0, 1) := by decide +kernel
theorem dX9_asLong_41 : decode cX9_asLong 41 = .ok (.getfield 22, 3) := by decide +kernel
theorem dX9_asLong_44 : decode cX9_asLong 44 = .ok (.iload_n 1, 1) := by decide +kernel
theorem dX9_asLong_45 : decode cX9_asLong 45 = .ok (.laload, 1) := by decide +kernel
theorem dX9_asLong_46 : decode cX9_asLong 46 = .ok (.lreturn, 1) := by decide +kernel
theorem dX9_asLong_47 : decode cX9_asLong 47 = .ok (.aload_n 0, 1) := by decide +kernel
theorem dX9_asLong_48 : decode cX9_asLong 48 = .ok (.getfield 26, 3) := by decide +kernel
theorem dX9_asLong_51 : decode cX9_asLong 51 = .ok (.iload_n 1, 1) := by decide +kernel
theorem dX9_asLong_52 : decode cX9_asLong 52 = .ok (.faload, 1) := by decide +kernel
theorem dX9_asLong_53 : decode cX9_asLong 53 = .ok (.f2l, 1) := by decide +kernel
theorem dX9_asLong_54 : decode cX9_asLong 54 = .ok (.lreturn, 1) := by decide +kernel
theorem dX9_asLong_55 : decode cX9_asLong 55 = .ok (.aload_n 0, 1) := by decide +kernel
theorem dX9_asLong_56 : decode cX9_asLong 56 = .ok (.getfield 30, 3) := by decide +kernel
theorem dX9_asLong_59 : decode cX9_asLong 59 = .ok (.iload_n 1, 1) := by decide +kernel
theorem dX9_asLong_60 : decode cX9_asLong 60 = .ok (.daload, 1) := by decide +kernel
theorem dX9_asLong_61 : decode cX9_asLong 61 = .ok (.d2l, 1) := by decide +kernel
theorem dX9_asLong_62 : decode cX9_asLong 62 = .ok (.lreturn, 1) := by decide +kernel
set_option maxRecDepth 20000 in
theorem in_X9_asLong_X9 : ∀ w ∈ wsX90, w ∈ wsX9_asLong := sub_r [6, 7, 8, 9, 10, 11] rfl
set_option maxHeartbeats 4000000 in
set_option maxRecDepth 100000 in
theorem c_X9_asLong (l : Launch) (D : va_G) (T : Nat → ClassId) (sz : Nat) (h0 : Nat) (so : Int32) (sn : Int32) (s0 : Nat) (s1 : Nat) (s2 : Nat) (s3 : Nat) (f0 : Nat → Int32) (f1 : Nat → Int64) (f2 : Nat → UInt32) (f3 : Nat → UInt64) (x1 : Int32) (hin1 : vp_in x1 30) : Met l yX9_asLong wsX9_asLong ({ frames := 0, cells := 0, slots := 0, locals := 0 }) (pW [.ref h0, .int x1] D T [(h0, .inr (6, [.int so, .int sn, .ref s0, .ref s1, .ref s2, .ref s3])), (s0, .inl (T 0, 30, .inl f0)), (s1, .inl (T 1, 30, .inr (.inl f1))), (s2, .inl (T 2, 30, .inr (.inr (.inl f2)))), (s3, .inl (T 3, 30, .inr (.inr (.inr (.inl f3)))))] sz) (va_Ql (fun (r : Int64) (u : Unit) => True) (bW D (va_A [(h0, .inr (6, [.int so, .int sn, .ref s0, .ref s1, .ref s2, .ref s3])), (s0, .inl (T 0, 30, .inl f0)), (s1, .inl (T 1, 30, .inr (.inl f1))), (s2, .inl (T 2, 30, .inr (.inr (.inl f2)))), (s3, .inl (T 3, 30, .inr (.inr (.inr (.inl f3)))))] sz) (fun (u : Unit) => [(h0, .inr (6, [.int so, .int sn, .ref s0, .ref s1, .ref s2, .ref s3])), (s0, .inl (T 0, 30, .inl f0)), (s1, .inl (T 1, 30, .inr (.inl f1))), (s2, .inl (T 2, 30, .inr (.inr (.inl f2)))), (s3, .inl (T 3, 30, .inr (.inr (.inr (.inl f3)))))])) (va_A [(h0, .inr (6, [.int so, .int sn, .ref s0, .ref s1, .ref s2, .ref s3])), (s0, .inl (T 0, 30, .inl f0)), (s1, .inl (T 1, 30, .inr (.inl f1))), (s2, .inl (T 2, 30, .inr (.inr (.inl f2)))), (s3, .inl (T 3, 30, .inr (.inr (.inr (.inl f3)))))] sz)) 0 0 (va_A [(h0, .inr (6, [.int so, .int sn, .ref s0, .ref s1, .ref s2, .ref s3])), (s0, .inl (T 0, 30, .inl f0)), (s1, .inl (T 1, 30, .inr (.inl f1))), (s2, .inl (T 2, 30, .inr (.inr (.inl f2)))), (s3, .inl (T 3, 30, .inr (.inr (.inr (.inl f3)))))] sz) := by
  refine Met.ofW (cc := cX9_asLong) (maxL := 2) (ret := (some .long)) (by decide +kernel) rfl ?_
  intro p e s m args below meth c s₁ B hml hv
  obtain ⟨rfl, hsz, hP, hE, hD0⟩ := hv
  have hx := B.exec
  have hb := B.bytes
  have hr := B.returns
  have hts := atoms_spec (ws := wsX9_asLong) B.pre
  have hown : s.vm.findClass RX9 = some m.cls := findClass_of_methodNamed B.named
  have hlocks := B.notSynchronized
  subst hsz
  have hD := hD0.self (sz := s.heap.size)
  generalize hAe : va_A [(h0, .inr (6, [.int so, .int sn, .ref s0, .ref s1, .ref s2, .ref s3])), (s0, .inl (T 0, 30, .inl f0)), (s1, .inl (T 1, 30, .inr (.inl f1))), (s2, .inl (T 2, 30, .inr (.inr (.inl f2)))), (s3, .inl (T 3, 30, .inr (.inr (.inr (.inl f3)))))] s.heap.size = A at hD ⊢
  have hA : ∀ q : Nat, s.heap.size ≤ q → A q := fun q h => by rw [← hAe]; exact Or.inr h
  have hS : va_S A s.heap s.heap [] := va_S.rf
  have hP : va_P D vwCl [(h0, .inr (6, [.int so, .int sn, .ref s0, .ref s1, .ref s2, .ref s3])), (s0, .inl (T 0, 30, .inl f0)), (s1, .inl (T 1, 30, .inr (.inl f1))), (s2, .inl (T 2, 30, .inr (.inr (.inl f2)))), (s3, .inl (T 3, 30, .inr (.inr (.inr (.inl f3)))))] s.heap := hP
  have hl := lv_entry ([.ref h0, .int x1]) (n := 2) (Nat.le_of_ble_eq_true rfl)
  rw [lg_entry_eq]
  generalize (lg_sl ([.ref h0, .int x1]) ++ List.replicate (2 - (lg_sl ([.ref h0, .int x1])).length) Slot.unset).toArray = ls at hl ⊢
  have hl : lv_has ls 2 [(0, .ref h0), (1, .int x1)] := hl
  clear hD0
  refine lv_aload_n hx hb dX9_asLong_0 rfl (lv_at hl 0 rfl) ?_
  refine va_get (D := D) (ci := 6) (v := .int so) (C := RX9) (T := TX9) (N := 6) hx hb hts in_X9_asLong_X9 hown hE.1 hP 0 rfl rfl 0 (by decide +kernel) (hts (.fieldLink RX9 9 "ClauseBook$Sheet" "sort" "I") (List.mem_of_getElem? (i := 1) rfl)) (fun _ h9 => h9) rfl dX9_asLong_1 ?_
  by_cases k_1 : so = 0
  · obtain rfl := k_1
    refine lv_tableIn (off := 28) (tgt := 32) hx hb dX9_asLong_4 (by decide +kernel) (by decide +kernel) (by decide +kernel) (by decide +kernel) ?_
    refine lv_aload_n hx hb dX9_asLong_32 rfl (lv_at hl 0 rfl) ?_
    refine va_get (D := D) (ci := 6) (v := .ref s0) (C := RX9) (T := TX9) (N := 6) hx hb hts in_X9_asLong_X9 hown hE.1 hP 0 rfl rfl 2 (by decide +kernel) (hts (.fieldLink RX9 18 "ClauseBook$Sheet" "ints" "[I") (List.mem_of_getElem? (i := 2) rfl)) (fun _ h9 => h9) rfl dX9_asLong_33 ?_
    refine lv_iload_n hx hb dX9_asLong_36 rfl (lv_at hl 1 rfl) ?_
    refine va_iald hx hb hE.1 hP 1 0 rfl rfl (by assumption) dX9_asLong_37 ?_
    refine lv_topi (fun z_2 ez_2 => ?_)
    refine lv_i2l hx hb dX9_asLong_38 rfl ?_
    exact W.lret hx hb hr (fun t ht hW => ⟨⟨_, (), rfl, trivial, by rw [ht]; exact hP.sub [0, 1, 2, 3, 4] rfl, hD.sub [0, 1, 2, 3, 4] (by decide +kernel) rfl⟩, hS.F ht⟩) hS.2.2 dX9_asLong_39
  by_cases k_3 : so = 1
  · obtain rfl := k_3
    refine lv_tableIn (off := 36) (tgt := 40) hx hb dX9_asLong_4 (by decide +kernel) (by decide +kernel) (by decide +kernel) (by decide +kernel) ?_
    refine lv_aload_n hx hb dX9_asLong_40 rfl (lv_at hl 0 rfl) ?_
    refine va_get (D := D) (ci := 6) (v := .ref s1) (C := RX9) (T := TX9) (N := 6) hx hb hts in_X9_asLong_X9 hown hE.1 hP 0 rfl rfl 3 (by decide +kernel) (hts (.fieldLink RX9 22 "ClauseBook$Sheet" "longs" "[J") (List.mem_of_getElem? (i := 3) rfl)) (fun _ h9 => h9) rfl dX9_asLong_41 ?_
    refine lv_iload_n hx hb dX9_asLong_44 rfl (lv_at hl 1 rfl) ?_
    refine va_lald hx hb hE.1 hP 2 1 rfl rfl (by assumption) dX9_asLong_45 ?_
    refine lv_topl (fun z_4 ez_4 => ?_)
    exact W.lret hx hb hr (fun t ht hW => ⟨⟨_, (), rfl, trivial, by rw [ht]; exact hP.sub [0, 1, 2, 3, 4] rfl, hD.sub [0, 1, 2, 3, 4] (by decide +kernel) rfl⟩, hS.F ht⟩) hS.2.2 dX9_asLong_46
  by_cases k_5 : so = 2
  · obtain rfl := k_5
    refine lv_tableIn (off := 43) (tgt := 47) hx hb dX9_asLong_4 (by decide +kernel) (by decide +kernel) (by decide +kernel) (by decide +kernel) ?_
    refine lv_aload_n hx hb dX9_asLong_47 rfl (lv_at hl 0 rfl) ?_
    refine va_get (D := D) (ci := 6) (v := .ref s2) (C := RX9) (T := TX9) (N := 6) hx hb hts in_X9_asLong_X9 hown hE.1 hP 0 rfl rfl 4 (by decide +kernel) (hts (.fieldLink RX9 26 "ClauseBook$Sheet" "floats" "[F") (List.mem_of_getElem? (i := 4) rfl)) (fun _ h9 => h9) rfl dX9_asLong_48 ?_
    refine lv_iload_n hx hb dX9_asLong_51 rfl (lv_at hl 1 rfl) ?_
    refine va_fald hx hb hE.1 hP 3 2 rfl rfl (by assumption) dX9_asLong_52 ?_
    obtain ⟨z_6, ez_6⟩ : ∃ y : UInt32, y = (f2 x1.toNatClampNeg) := ⟨_, rfl⟩
    refine W.eq (g2 := F0 m 53 ls [.float z_6]) (by rw [ez_6]) ?_
    clear ez_6
    refine lv_f2l hx hb dX9_asLong_53 ?_
    refine lv_topl (fun z_7 ez_7 => ?_)
    exact W.lret hx hb hr (fun t ht hW => ⟨⟨_, (), rfl, trivial, by rw [ht]; exact hP.sub [0, 1, 2, 3, 4] rfl, hD.sub [0, 1, 2, 3, 4] (by decide +kernel) rfl⟩, hS.F ht⟩) hS.2.2 dX9_asLong_54
  rw [fa_eq] at k_1 k_3 k_5
  try simp only [ti_0, ti_1, ti_2] at k_1 k_3 k_5
  refine lv_tableOut (tgt := 55) hx hb dX9_asLong_4 (by omega) (by decide +kernel) ?_
  refine lv_aload_n hx hb dX9_asLong_55 rfl (lv_at hl 0 rfl) ?_
  refine va_get (D := D) (ci := 6) (v := .ref s3) (C := RX9) (T := TX9) (N := 6) hx hb hts in_X9_asLong_X9 hown hE.1 hP 0 rfl rfl 5 (by decide +kernel) (hts (.fieldLink RX9 30 "ClauseBook$Sheet" "doubles" "[D") (List.mem_of_getElem? (i := 5) rfl)) (fun _ h9 => h9) rfl dX9_asLong_56 ?_
  refine lv_iload_n hx hb dX9_asLong_59 rfl (lv_at hl 1 rfl) ?_
  refine va_dald hx hb hE.1 hP 4 3 rfl rfl (by assumption) dX9_asLong_60 ?_
  obtain ⟨z_8, ez_8⟩ : ∃ y : UInt64, y = (f3 x1.toNatClampNeg) := ⟨_, rfl⟩
  refine W.eq (g2 := F0 m 61 ls [.double z_8]) (by rw [ez_8]) ?_
  clear ez_8
  refine lv_d2l hx hb dX9_asLong_61 ?_
  refine lv_topl (fun z_9 ez_9 => ?_)
  exact W.lret hx hb hr (fun t ht hW => ⟨⟨_, (), rfl, trivial, by rw [ht]; exact hP.sub [0, 1, 2, 3, 4] rfl, hD.sub [0, 1, 2, 3, 4] (by decide +kernel) rfl⟩, hS.F ht⟩) hS.2.2 dX9_asLong_62
theorem dX9_asDouble_0 : decode cX9_asDouble 0 = .ok (.aload_n 0, 1) := by decide +kernel
theorem dX9_asDouble_1 : decode cX9_asDouble 1 = .ok (.getfield 9, 3) := by decide +kernel
theorem dX9_asDouble_32 : decode cX9_asDouble 32 = .ok (.aload_n 0, 1) := by decide +kernel
theorem dX9_asDouble_33 : decode cX9_asDouble 33 = .ok (.getfield 18, 3) := by decide +kernel
theorem dX9_asDouble_36 : decode cX9_asDouble 36 = .ok (.iload_n 1, 1) := by decide +kernel
theorem dX9_asDouble_37 : decode cX9_asDouble 37 = .ok (.iaload, 1) := by decide +kernel
theorem dX9_asDouble_38 : decode cX9_asDouble 38 = .ok (.i2d, 1) := by decide +kernel
theorem dX9_asDouble_39 : decode cX9_asDouble 39 = .ok (.dreturn, 1) := by decide +kernel
theorem dX9_asDouble_4 : decode cX9_asDouble 4 = .ok (.tableswitch 52 0 2 #[28, 36, 44], 28) := by decide +kernel
theorem dX9_asDouble_40 : decode cX9_asDouble 40 = .ok (.aload_n 0, 1) := by decide +kernel
theorem dX9_asDouble_41 : decode cX9_asDouble 41 = .ok (.getfield 22, 3) := by decide +kernel
theorem dX9_asDouble_44 : decode cX9_asDouble 44 = .ok (.iload_n 1, 1) := by decide +kernel
theorem dX9_asDouble_45 : decode cX9_asDouble 45 = .ok (.laload, 1) := by decide +kernel
theorem dX9_asDouble_46 : decode cX9_asDouble 46 = .ok (.l2d, 1) := by decide +kernel
theorem dX9_asDouble_47 : decode cX9_asDouble 47 = .ok (.dreturn, 1) := by decide +kernel
theorem dX9_asDouble_48 : decode cX9_asDouble 48 = .ok (.aload_n 0, 1) := by decide +kernel
theorem dX9_asDouble_49 : decode cX9_asDouble 49 = .ok (.getfield 26, 3) := by decide +kernel
theorem dX9_asDouble_52 : decode cX9_asDouble 52 = .ok (.iload_n 1, 1) := by decide +kernel
theorem dX9_asDouble_53 : decode cX9_asDouble 53 = .ok (.faload, 1) := by decide +kernel
theorem dX9_asDouble_54 : decode cX9_asDouble 54 = .ok (.f2d, 1) := by decide +kernel
theorem dX9_asDouble_55 : decode cX9_asDouble 55 = .ok (.dreturn, 1) := by decide +kernel
theorem dX9_asDouble_56 : decode cX9_asDouble 56 = .ok (.aload_n 0, 1) := by decide +kernel
theorem dX9_asDouble_57 : decode cX9_asDouble 57 = .ok (.getfield 30, 3) := by decide +kernel
theorem dX9_asDouble_60 : decode cX9_asDouble 60 = .ok (.iload_n 1, 1) := by decide +kernel
theorem dX9_asDouble_61 : decode cX9_asDouble 61 = .ok (.daload, 1) := by decide +kernel
theorem dX9_asDouble_62 : decode cX9_asDouble 62 = .ok (.dreturn, 1) := by decide +kernel
set_option maxRecDepth 20000 in
theorem in_X9_asDouble_X9 : ∀ w ∈ wsX90, w ∈ wsX9_asDouble := sub_r [6, 7, 8, 9, 10, 11] rfl
set_option maxHeartbeats 4000000 in
set_option maxRecDepth 100000 in
theorem c_X9_asDouble (l : Launch) (D : va_G) (T : Nat → ClassId) (sz : Nat) (h0 : Nat) (so : Int32) (sn : Int32) (s0 : Nat) (s1 : Nat) (s2 : Nat) (s3 : Nat) (f0 : Nat → Int32) (f1 : Nat → Int64) (f2 : Nat → UInt32) (f3 : Nat → UInt64) (x1 : Int32) (hin1 : vp_in x1 30) : MetD lw_cs l yX9_asDouble wsX9_asDouble ({ frames := 0, cells := 0, slots := 0, locals := 0 }) (pW [.ref h0, .int x1] D T [(h0, .inr (6, [.int so, .int sn, .ref s0, .ref s1, .ref s2, .ref s3])), (s0, .inl (T 0, 30, .inl f0)), (s1, .inl (T 1, 30, .inr (.inl f1))), (s2, .inl (T 2, 30, .inr (.inr (.inl f2)))), (s3, .inl (T 3, 30, .inr (.inr (.inr (.inl f3)))))] sz) (va_Qd (fun (r : UInt64) (u : Unit) => True) (bW D (va_A [(h0, .inr (6, [.int so, .int sn, .ref s0, .ref s1, .ref s2, .ref s3])), (s0, .inl (T 0, 30, .inl f0)), (s1, .inl (T 1, 30, .inr (.inl f1))), (s2, .inl (T 2, 30, .inr (.inr (.inl f2)))), (s3, .inl (T 3, 30, .inr (.inr (.inr (.inl f3)))))] sz) (fun (u : Unit) => [(h0, .inr (6, [.int so, .int sn, .ref s0, .ref s1, .ref s2, .ref s3])), (s0, .inl (T 0, 30, .inl f0)), (s1, .inl (T 1, 30, .inr (.inl f1))), (s2, .inl (T 2, 30, .inr (.inr (.inl f2)))), (s3, .inl (T 3, 30, .inr (.inr (.inr (.inl f3)))))])) (va_A [(h0, .inr (6, [.int so, .int sn, .ref s0, .ref s1, .ref s2, .ref s3])), (s0, .inl (T 0, 30, .inl f0)), (s1, .inl (T 1, 30, .inr (.inl f1))), (s2, .inl (T 2, 30, .inr (.inr (.inl f2)))), (s3, .inl (T 3, 30, .inr (.inr (.inr (.inl f3)))))] sz)) 0 0 (va_A [(h0, .inr (6, [.int so, .int sn, .ref s0, .ref s1, .ref s2, .ref s3])), (s0, .inl (T 0, 30, .inl f0)), (s1, .inl (T 1, 30, .inr (.inl f1))), (s2, .inl (T 2, 30, .inr (.inr (.inl f2)))), (s3, .inl (T 3, 30, .inr (.inr (.inr (.inl f3)))))] sz) := by
  refine MetD.ofW (cc := cX9_asDouble) (maxL := 2) (ret := (some .double)) (by decide +kernel) rfl ?_
  intro p e s m args below meth c s₁ B hml hv hd0
  obtain ⟨rfl, hsz, hP, hE0, hD0⟩ := hv
  have hx := B.exec
  have hb := B.bytes
  have hr := B.returns
  have hts0 := atoms_spec (ws := wsX9_asDouble) B.pre
  have hown0 : s.vm.findClass RX9 = some m.cls := findClass_of_methodNamed B.named
  have hlocks := B.notSynchronized
  subst hsz
  have hD := hD0.self (sz := s.heap.size)
  generalize hAe : va_A [(h0, .inr (6, [.int so, .int sn, .ref s0, .ref s1, .ref s2, .ref s3])), (s0, .inl (T 0, 30, .inl f0)), (s1, .inl (T 1, 30, .inr (.inl f1))), (s2, .inl (T 2, 30, .inr (.inr (.inl f2)))), (s3, .inl (T 3, 30, .inr (.inr (.inr (.inl f3)))))] s.heap.size = A at hD ⊢
  have hA : ∀ q : Nat, s.heap.size ≤ q → A q := fun q h => by rw [← hAe]; exact Or.inr h
  have hS : va_S A s.heap s.heap [] := va_S.rf
  have hP : va_P D vwCl [(h0, .inr (6, [.int so, .int sn, .ref s0, .ref s1, .ref s2, .ref s3])), (s0, .inl (T 0, 30, .inl f0)), (s1, .inl (T 1, 30, .inr (.inl f1))), (s2, .inl (T 2, 30, .inr (.inr (.inl f2)))), (s3, .inl (T 3, 30, .inr (.inr (.inr (.inl f3)))))] s.heap := hP
  have hl := lv_entry ([.ref h0, .int x1]) (n := 2) (Nat.le_of_ble_eq_true rfl)
  rw [lg_entry_eq]
  generalize (lg_sl ([.ref h0, .int x1]) ++ List.replicate (2 - (lg_sl ([.ref h0, .int x1])).length) Slot.unset).toArray = ls at hl ⊢
  have hl : lv_has ls 2 [(0, .ref h0), (1, .int x1)] := hl
  clear hD0
  have hts := dr_words hts0 s.drawn
  have hE : ekK D T (s.setDrawn s.drawn) := ekK.same (u := s) rfl hE0
  have hown : (s.setDrawn s.drawn).vm.findClass RX9 = some m.cls := hown0
  refine lv_aload_n hx hb dX9_asDouble_0 rfl (lv_at hl 0 rfl) ?_
  refine va_get (D := D) (ci := 6) (v := .int so) (C := RX9) (T := TX9) (N := 6) hx hb hts in_X9_asDouble_X9 hown hE.1 hP 0 rfl rfl 0 (by decide +kernel) (hts (.fieldLink RX9 9 "ClauseBook$Sheet" "sort" "I") (List.mem_of_getElem? (i := 1) rfl)) (fun _ h9 => h9) rfl dX9_asDouble_1 ?_
  by_cases k_1 : so = 0
  · obtain rfl := k_1
    refine lv_tableIn (off := 28) (tgt := 32) hx hb dX9_asDouble_4 (by decide +kernel) (by decide +kernel) (by decide +kernel) (by decide +kernel) ?_
    refine lv_aload_n hx hb dX9_asDouble_32 rfl (lv_at hl 0 rfl) ?_
    refine va_get (D := D) (ci := 6) (v := .ref s0) (C := RX9) (T := TX9) (N := 6) hx hb hts in_X9_asDouble_X9 hown hE.1 hP 0 rfl rfl 2 (by decide +kernel) (hts (.fieldLink RX9 18 "ClauseBook$Sheet" "ints" "[I") (List.mem_of_getElem? (i := 2) rfl)) (fun _ h9 => h9) rfl dX9_asDouble_33 ?_
    refine lv_iload_n hx hb dX9_asDouble_36 rfl (lv_at hl 1 rfl) ?_
    refine va_iald hx hb hE.1 hP 1 0 rfl rfl (by assumption) dX9_asDouble_37 ?_
    refine lv_topi (fun z_2 ez_2 => ?_)
    refine lv_i2d hx hb dX9_asDouble_38 ?_
    obtain ⟨z_3, ez_3⟩ : ∃ y : UInt64, y = (FP.i2d z_2) := ⟨_, rfl⟩
    refine W.eq (g2 := F0 m 39 ls [.double z_3]) (by rw [ez_3]) ?_
    clear ez_3
    refine W.endD hd0 ?_
    exact W.dret hx hb hr (fun t ht hW => ⟨⟨_, (), rfl, trivial, by rw [ht]; exact hP.sub [0, 1, 2, 3, 4] rfl, hD.sub [0, 1, 2, 3, 4] (by decide +kernel) rfl⟩, hS.F ht⟩) hS.2.2 dX9_asDouble_39
  by_cases k_4 : so = 1
  · obtain rfl := k_4
    refine lv_tableIn (off := 36) (tgt := 40) hx hb dX9_asDouble_4 (by decide +kernel) (by decide +kernel) (by decide +kernel) (by decide +kernel) ?_
    refine lv_aload_n hx hb dX9_asDouble_40 rfl (lv_at hl 0 rfl) ?_
    refine va_get (D := D) (ci := 6) (v := .ref s1) (C := RX9) (T := TX9) (N := 6) hx hb hts in_X9_asDouble_X9 hown hE.1 hP 0 rfl rfl 3 (by decide +kernel) (hts (.fieldLink RX9 22 "ClauseBook$Sheet" "longs" "[J") (List.mem_of_getElem? (i := 3) rfl)) (fun _ h9 => h9) rfl dX9_asDouble_41 ?_
    refine lv_iload_n hx hb dX9_asDouble_44 rfl (lv_at hl 1 rfl) ?_
    refine va_lald hx hb hE.1 hP 2 1 rfl rfl (by assumption) dX9_asDouble_45 ?_
    refine lv_topl (fun z_5 ez_5 => ?_)
    refine lv_l2d hx hb dX9_asDouble_46 ?_
    refine W.endD hd0 ?_
    exact W.dret hx hb hr (fun t ht hW => ⟨⟨_, (), rfl, trivial, by rw [ht]; exact hP.sub [0, 1, 2, 3, 4] rfl, hD.sub [0, 1, 2, 3, 4] (by decide +kernel) rfl⟩, hS.F ht⟩) hS.2.2 dX9_asDouble_47
  by_cases k_6 : so = 2
  · obtain rfl := k_6
    refine lv_tableIn (off := 44) (tgt := 48) hx hb dX9_asDouble_4 (by decide +kernel) (by decide +kernel) (by decide +kernel) (by decide +kernel) ?_
    refine lv_aload_n hx hb dX9_asDouble_48 rfl (lv_at hl 0 rfl) ?_
    refine va_get (D := D) (ci := 6) (v := .ref s2) (C := RX9) (T := TX9) (N := 6) hx hb hts in_X9_asDouble_X9 hown hE.1 hP 0 rfl rfl 4 (by decide +kernel) (hts (.fieldLink RX9 26 "ClauseBook$Sheet" "floats" "[F") (List.mem_of_getElem? (i := 4) rfl)) (fun _ h9 => h9) rfl dX9_asDouble_49 ?_
    refine lv_iload_n hx hb dX9_asDouble_52 rfl (lv_at hl 1 rfl) ?_
    refine va_fald hx hb hE.1 hP 3 2 rfl rfl (by assumption) dX9_asDouble_53 ?_
    obtain ⟨z_7, ez_7⟩ : ∃ y : UInt32, y = (f2 x1.toNatClampNeg) := ⟨_, rfl⟩
    refine W.eq (g2 := F0 m 54 ls [.float z_7]) (by rw [ez_7]) ?_
    clear ez_7
    refine lv_f2d_any hd0 lw_bits hx hb dX9_asDouble_54 (fun r_8 d_9 _ hd_9 => ?_)
    have hts := dr_words hts0 d_9
    have hE : ekK D T (s.setDrawn d_9) := ekK.same (u := s) rfl hE0
    have hown : (s.setDrawn d_9).vm.findClass RX9 = some m.cls := hown0
    refine W.endD hd_9 ?_
    exact W.dret hx hb hr (fun t ht hW => ⟨⟨_, (), rfl, trivial, by rw [ht]; exact hP.sub [0, 1, 2, 3, 4] rfl, hD.sub [0, 1, 2, 3, 4] (by decide +kernel) rfl⟩, hS.F ht⟩) hS.2.2 dX9_asDouble_55
  rw [fa_eq] at k_1 k_4 k_6
  try simp only [ti_0, ti_1, ti_2] at k_1 k_4 k_6
  refine lv_tableOut (tgt := 56) hx hb dX9_asDouble_4 (by omega) (by decide +kernel) ?_
  refine lv_aload_n hx hb dX9_asDouble_56 rfl (lv_at hl 0 rfl) ?_
  refine va_get (D := D) (ci := 6) (v := .ref s3) (C := RX9) (T := TX9) (N := 6) hx hb hts in_X9_asDouble_X9 hown hE.1 hP 0 rfl rfl 5 (by decide +kernel) (hts (.fieldLink RX9 30 "ClauseBook$Sheet" "doubles" "[D") (List.mem_of_getElem? (i := 5) rfl)) (fun _ h9 => h9) rfl dX9_asDouble_57 ?_
  refine lv_iload_n hx hb dX9_asDouble_60 rfl (lv_at hl 1 rfl) ?_
  refine va_dald hx hb hE.1 hP 4 3 rfl rfl (by assumption) dX9_asDouble_61 ?_
  obtain ⟨z_10, ez_10⟩ : ∃ y : UInt64, y = (f3 x1.toNatClampNeg) := ⟨_, rfl⟩
  refine W.eq (g2 := F0 m 62 ls [.double z_10]) (by rw [ez_10]) ?_
  clear ez_10
  refine W.endD hd0 ?_
  exact W.dret hx hb hr (fun t ht hW => ⟨⟨_, (), rfl, trivial, by rw [ht]; exact hP.sub [0, 1, 2, 3, 4] rfl, hD.sub [0, 1, 2, 3, 4] (by decide +kernel) rfl⟩, hS.F ht⟩) hS.2.2 dX9_asDouble_62
theorem dX12_halve_0 : decode cX12_halve 0 = .ok (.aload_n 0, 1) := by decide +kernel
theorem dX12_halve_1 : decode cX12_halve 1 = .ok (.iload_n 1, 1) := by decide +kernel
theorem dX12_halve_11 : decode cX12_halve 11 = .ok (.iload_n 3, 1) := by decide +kernel
theorem dX12_halve_12 : decode cX12_halve 12 = .ok (.ireturn, 1) := by decide +kernel
theorem dX12_halve_13 : decode cX12_halve 13 = .ok (.aload_n 0, 1) := by decide +kernel
theorem dX12_halve_14 : decode cX12_halve 14 = .ok (.getfield 65, 3) := by decide +kernel
theorem dX12_halve_17 : decode cX12_halve 17 = .ok (.iload_n 1, 1) := by decide +kernel
theorem dX12_halve_18 : decode cX12_halve 18 = .ok (.aaload, 1) := by decide +kernel
theorem dX12_halve_19 : decode cX12_halve 19 = .ok (.iload_n 2, 1) := by decide +kernel
theorem dX12_halve_2 : decode cX12_halve 2 = .ok (.iload_n 2, 1) := by decide +kernel
theorem dX12_halve_20 : decode cX12_halve 20 = .ok (.invokevirtual 342, 3) := by decide +kernel
theorem dX12_halve_23 : decode cX12_halve 23 = .ok (.iconst 1, 1) := by decide +kernel
theorem dX12_halve_24 : decode cX12_halve 24 = .ok (.ireturn, 1) := by decide +kernel
theorem dX12_halve_3 : decode cX12_halve 3 = .ok (.invokevirtual 321, 3) := by decide +kernel
theorem dX12_halve_6 : decode cX12_halve 6 = .ok (.istore_n 3, 1) := by decide +kernel
theorem dX12_halve_7 : decode cX12_halve 7 = .ok (.iload_n 3, 1) := by decide +kernel
theorem dX12_halve_8 : decode cX12_halve 8 = .ok (.ifCond .eq 5, 3) := by decide +kernel
set_option maxRecDepth 20000 in
theorem ggX12_halve_X12_placeFault : GoodIn wsX12_halve wsX12_placeFault := goodIn_r _ [6, 1, 7, 8, 9, 10, 5, 11, 24, 25, 26, 27, 28, 29, 30, 31, 32, 33, 34, 35, 36, 37, 38, 39, 40] rfl (by decide +kernel)
set_option maxRecDepth 20000 in
theorem ggX12_halve_X9_cutInHalf : GoodIn wsX12_halve wsX9_cutInHalf := goodIn_r _ [16, 17, 18, 19, 20, 21, 22, 23, 35, 36, 37, 38, 39, 40] rfl (by decide +kernel)
set_option maxRecDepth 20000 in
theorem gX12_halve_X12_placeFault : GoodIn wsX12_halve (wsV RX12 321 RX12 yX12_placeFault wsX12_placeFault) := goodIn_app (goodIn_r _ [2, 3, 4, 5] rfl (by decide +kernel)) ggX12_halve_X12_placeFault
set_option maxRecDepth 20000 in
theorem gX12_halve_X9_cutInHalf : GoodIn wsX12_halve (wsV RX12 342 RX9 yX9_cutInHalf wsX9_cutInHalf) := goodIn_app (goodIn_r _ [12, 13, 14, 15] rfl (by decide +kernel)) ggX12_halve_X9_cutInHalf
theorem hv_X9_cutInHalf : yX9_cutInHalf.cls = RX9 ∧ yX9_cutInHalf.cls ≠ "java/lang/invoke/MethodHandle" ∧ yX9_cutInHalf.cls ≠ "java/lang/invoke/VarHandle" ∧ (parseMethodDescriptor yX9_cutInHalf.desc).map (fun d => d.parameters.length) = some 1 := by decide +kernel
set_option maxRecDepth 20000 in
theorem in_X12_halve_X12 : ∀ w ∈ wsX120, w ∈ wsX12_halve := sub_r [24, 25, 26, 27, 28, 29, 30, 31, 32, 33, 34] rfl
set_option maxHeartbeats 4000000 in
set_option maxRecDepth 100000 in
theorem c_X12_halve (l : Launch) (D : va_G) (T : Nat → ClassId) (sz : Nat) (h0 : Nat) (h1 : Nat) (fs0 : List Value) (t0 : Nat) (t1 : Nat) (t2 : Nat) (t3 : Nat) (a00 : Nat) (a01 : Nat) (a02 : Nat) (a03 : Nat) (a10 : Nat) (a11 : Nat) (a12 : Nat) (a13 : Nat) (a20 : Nat) (a21 : Nat) (a22 : Nat) (a23 : Nat) (a30 : Nat) (a31 : Nat) (a32 : Nat) (a33 : Nat) (so : Nat → Int32) (sn : Nat → Int32) (si : Nat → Nat → Int32) (sl : Nat → Nat → Int64) (sf : Nat → Nat → UInt32) (sd : Nat → Nat → UInt64) (x1 : Int32) (x2 : Int32) (e0_9 : fs0[9]? = some (.ref h1)) (hs0 : (-1 ≤ (so 0).toInt ∧ (so 0).toInt ≤ 3) ∧ 0 ≤ (sn 0).toInt ∧ (sn 0).toInt ≤ 30) (hs1 : (-1 ≤ (so 1).toInt ∧ (so 1).toInt ≤ 3) ∧ 0 ≤ (sn 1).toInt ∧ (sn 1).toInt ≤ 30) (hs2 : (-1 ≤ (so 2).toInt ∧ (so 2).toInt ≤ 3) ∧ 0 ≤ (sn 2).toInt ∧ (sn 2).toInt ≤ 30) (hs3 : (-1 ≤ (so 3).toInt ∧ (so 3).toInt ≤ 3) ∧ 0 ≤ (sn 3).toInt ∧ (sn 3).toInt ≤ 30) : MetD lw_cs l yX12_halve wsX12_halve ({ frames := 2, cells := 0, slots := 0, locals := 44 }) (pW [.ref h0, .int x1, .int x2] D T [(h0, .inr (9, fs0)), (h1, .inl (T 6, 4, .inr (.inr (.inr (.inr (va_up (va_up (va_up (va_up (fun _ => none) 0 (some t0)) 1 (some t1)) 2 (some t2)) 3 (some t3))))))), (t0, .inr (6, [.int (so 0), .int (sn 0), .ref a00, .ref a01, .ref a02, .ref a03])), (t1, .inr (6, [.int (so 1), .int (sn 1), .ref a10, .ref a11, .ref a12, .ref a13])), (t2, .inr (6, [.int (so 2), .int (sn 2), .ref a20, .ref a21, .ref a22, .ref a23])), (t3, .inr (6, [.int (so 3), .int (sn 3), .ref a30, .ref a31, .ref a32, .ref a33])), (a00, .inl (T 0, 30, .inl (si 0))), (a01, .inl (T 1, 30, .inr (.inl (sl 0)))), (a02, .inl (T 2, 30, .inr (.inr (.inl (sf 0))))), (a03, .inl (T 3, 30, .inr (.inr (.inr (.inl (sd 0)))))), (a10, .inl (T 0, 30, .inl (si 1))), (a11, .inl (T 1, 30, .inr (.inl (sl 1)))), (a12, .inl (T 2, 30, .inr (.inr (.inl (sf 1))))), (a13, .inl (T 3, 30, .inr (.inr (.inr (.inl (sd 1)))))), (a20, .inl (T 0, 30, .inl (si 2))), (a21, .inl (T 1, 30, .inr (.inl (sl 2)))), (a22, .inl (T 2, 30, .inr (.inr (.inl (sf 2))))), (a23, .inl (T 3, 30, .inr (.inr (.inr (.inl (sd 2)))))), (a30, .inl (T 0, 30, .inl (si 3))), (a31, .inl (T 1, 30, .inr (.inl (sl 3)))), (a32, .inl (T 2, 30, .inr (.inr (.inl (sf 3))))), (a33, .inl (T 3, 30, .inr (.inr (.inr (.inl (sd 3))))))] sz) (va_Qi (fun (r : Int32) (u : (Nat → Nat → Int32) × (Nat → Nat → Int64) × (Nat → Nat → UInt32) × (Nat → Nat → UInt64)) => (¬ (0 ≤ x1.toInt ∧ x1.toInt ≤ 3) → r.toInt = -2) ∧ ((0 ≤ x1.toInt ∧ x1.toInt ≤ 3) → ((so (x1.toNatClampNeg)).toInt = -1 → r.toInt = -11) ∧ (¬ (so (x1.toNatClampNeg)).toInt = -1 → ((0 ≤ x2.toInt ∧ x2.toInt < (sn (x1.toNatClampNeg)).toInt) → r.toInt = 1) ∧ (¬ (0 ≤ x2.toInt ∧ x2.toInt < (sn (x1.toNatClampNeg)).toInt) → r.toInt = -12)))) (bW D (va_A [(h0, .inr (9, fs0)), (h1, .inl (T 6, 4, .inr (.inr (.inr (.inr (va_up (va_up (va_up (va_up (fun _ => none) 0 (some t0)) 1 (some t1)) 2 (some t2)) 3 (some t3))))))), (t0, .inr (6, [.int (so 0), .int (sn 0), .ref a00, .ref a01, .ref a02, .ref a03])), (t1, .inr (6, [.int (so 1), .int (sn 1), .ref a10, .ref a11, .ref a12, .ref a13])), (t2, .inr (6, [.int (so 2), .int (sn 2), .ref a20, .ref a21, .ref a22, .ref a23])), (t3, .inr (6, [.int (so 3), .int (sn 3), .ref a30, .ref a31, .ref a32, .ref a33])), (a00, .inl (T 0, 30, .inl (si 0))), (a01, .inl (T 1, 30, .inr (.inl (sl 0)))), (a02, .inl (T 2, 30, .inr (.inr (.inl (sf 0))))), (a03, .inl (T 3, 30, .inr (.inr (.inr (.inl (sd 0)))))), (a10, .inl (T 0, 30, .inl (si 1))), (a11, .inl (T 1, 30, .inr (.inl (sl 1)))), (a12, .inl (T 2, 30, .inr (.inr (.inl (sf 1))))), (a13, .inl (T 3, 30, .inr (.inr (.inr (.inl (sd 1)))))), (a20, .inl (T 0, 30, .inl (si 2))), (a21, .inl (T 1, 30, .inr (.inl (sl 2)))), (a22, .inl (T 2, 30, .inr (.inr (.inl (sf 2))))), (a23, .inl (T 3, 30, .inr (.inr (.inr (.inl (sd 2)))))), (a30, .inl (T 0, 30, .inl (si 3))), (a31, .inl (T 1, 30, .inr (.inl (sl 3)))), (a32, .inl (T 2, 30, .inr (.inr (.inl (sf 3))))), (a33, .inl (T 3, 30, .inr (.inr (.inr (.inl (sd 3))))))] sz) (fun (u : (Nat → Nat → Int32) × (Nat → Nat → Int64) × (Nat → Nat → UInt32) × (Nat → Nat → UInt64)) => [(h0, .inr (9, fs0)), (h1, .inl (T 6, 4, .inr (.inr (.inr (.inr (va_up (va_up (va_up (va_up (fun _ => none) 0 (some t0)) 1 (some t1)) 2 (some t2)) 3 (some t3))))))), (t0, .inr (6, [.int (so 0), .int (sn 0), .ref a00, .ref a01, .ref a02, .ref a03])), (t1, .inr (6, [.int (so 1), .int (sn 1), .ref a10, .ref a11, .ref a12, .ref a13])), (t2, .inr (6, [.int (so 2), .int (sn 2), .ref a20, .ref a21, .ref a22, .ref a23])), (t3, .inr (6, [.int (so 3), .int (sn 3), .ref a30, .ref a31, .ref a32, .ref a33])), (a00, .inl (T 0, 30, .inl (u.1 0))), (a01, .inl (T 1, 30, .inr (.inl (u.2.1 0)))), (a02, .inl (T 2, 30, .inr (.inr (.inl (u.2.2.1 0))))), (a03, .inl (T 3, 30, .inr (.inr (.inr (.inl (u.2.2.2 0)))))), (a10, .inl (T 0, 30, .inl (u.1 1))), (a11, .inl (T 1, 30, .inr (.inl (u.2.1 1)))), (a12, .inl (T 2, 30, .inr (.inr (.inl (u.2.2.1 1))))), (a13, .inl (T 3, 30, .inr (.inr (.inr (.inl (u.2.2.2 1)))))), (a20, .inl (T 0, 30, .inl (u.1 2))), (a21, .inl (T 1, 30, .inr (.inl (u.2.1 2)))), (a22, .inl (T 2, 30, .inr (.inr (.inl (u.2.2.1 2))))), (a23, .inl (T 3, 30, .inr (.inr (.inr (.inl (u.2.2.2 2)))))), (a30, .inl (T 0, 30, .inl (u.1 3))), (a31, .inl (T 1, 30, .inr (.inl (u.2.1 3)))), (a32, .inl (T 2, 30, .inr (.inr (.inl (u.2.2.1 3))))), (a33, .inl (T 3, 30, .inr (.inr (.inr (.inl (u.2.2.2 3))))))])) (va_A [(h0, .inr (9, fs0)), (h1, .inl (T 6, 4, .inr (.inr (.inr (.inr (va_up (va_up (va_up (va_up (fun _ => none) 0 (some t0)) 1 (some t1)) 2 (some t2)) 3 (some t3))))))), (t0, .inr (6, [.int (so 0), .int (sn 0), .ref a00, .ref a01, .ref a02, .ref a03])), (t1, .inr (6, [.int (so 1), .int (sn 1), .ref a10, .ref a11, .ref a12, .ref a13])), (t2, .inr (6, [.int (so 2), .int (sn 2), .ref a20, .ref a21, .ref a22, .ref a23])), (t3, .inr (6, [.int (so 3), .int (sn 3), .ref a30, .ref a31, .ref a32, .ref a33])), (a00, .inl (T 0, 30, .inl (si 0))), (a01, .inl (T 1, 30, .inr (.inl (sl 0)))), (a02, .inl (T 2, 30, .inr (.inr (.inl (sf 0))))), (a03, .inl (T 3, 30, .inr (.inr (.inr (.inl (sd 0)))))), (a10, .inl (T 0, 30, .inl (si 1))), (a11, .inl (T 1, 30, .inr (.inl (sl 1)))), (a12, .inl (T 2, 30, .inr (.inr (.inl (sf 1))))), (a13, .inl (T 3, 30, .inr (.inr (.inr (.inl (sd 1)))))), (a20, .inl (T 0, 30, .inl (si 2))), (a21, .inl (T 1, 30, .inr (.inl (sl 2)))), (a22, .inl (T 2, 30, .inr (.inr (.inl (sf 2))))), (a23, .inl (T 3, 30, .inr (.inr (.inr (.inl (sd 2)))))), (a30, .inl (T 0, 30, .inl (si 3))), (a31, .inl (T 1, 30, .inr (.inl (sl 3)))), (a32, .inl (T 2, 30, .inr (.inr (.inl (sf 3))))), (a33, .inl (T 3, 30, .inr (.inr (.inr (.inl (sd 3))))))] sz)) 0 0 (va_A [(h0, .inr (9, fs0)), (h1, .inl (T 6, 4, .inr (.inr (.inr (.inr (va_up (va_up (va_up (va_up (fun _ => none) 0 (some t0)) 1 (some t1)) 2 (some t2)) 3 (some t3))))))), (t0, .inr (6, [.int (so 0), .int (sn 0), .ref a00, .ref a01, .ref a02, .ref a03])), (t1, .inr (6, [.int (so 1), .int (sn 1), .ref a10, .ref a11, .ref a12, .ref a13])), (t2, .inr (6, [.int (so 2), .int (sn 2), .ref a20, .ref a21, .ref a22, .ref a23])), (t3, .inr (6, [.int (so 3), .int (sn 3), .ref a30, .ref a31, .ref a32, .ref a33])), (a00, .inl (T 0, 30, .inl (si 0))), (a01, .inl (T 1, 30, .inr (.inl (sl 0)))), (a02, .inl (T 2, 30, .inr (.inr (.inl (sf 0))))), (a03, .inl (T 3, 30, .inr (.inr (.inr (.inl (sd 0)))))), (a10, .inl (T 0, 30, .inl (si 1))), (a11, .inl (T 1, 30, .inr (.inl (sl 1)))), (a12, .inl (T 2, 30, .inr (.inr (.inl (sf 1))))), (a13, .inl (T 3, 30, .inr (.inr (.inr (.inl (sd 1)))))), (a20, .inl (T 0, 30, .inl (si 2))), (a21, .inl (T 1, 30, .inr (.inl (sl 2)))), (a22, .inl (T 2, 30, .inr (.inr (.inl (sf 2))))), (a23, .inl (T 3, 30, .inr (.inr (.inr (.inl (sd 2)))))), (a30, .inl (T 0, 30, .inl (si 3))), (a31, .inl (T 1, 30, .inr (.inl (sl 3)))), (a32, .inl (T 2, 30, .inr (.inr (.inl (sf 3))))), (a33, .inl (T 3, 30, .inr (.inr (.inr (.inl (sd 3))))))] sz) := by
  refine MetD.ofW (cc := cX12_halve) (maxL := 4) (ret := (some .int)) (by decide +kernel) rfl ?_
  intro p e s m args below meth c s₁ B hml hv hd0
  obtain ⟨rfl, hsz, hP, hE0, hD0⟩ := hv
  have hx := B.exec
  have hb := B.bytes
  have hr := B.returns
  have hts0 := atoms_spec (ws := wsX12_halve) B.pre
  have hown0 : s.vm.findClass RX12 = some m.cls := findClass_of_methodNamed B.named
  have hlocks := B.notSynchronized
  subst hsz
  have hD := hD0.self (sz := s.heap.size)
  generalize hAe : va_A [(h0, .inr (9, fs0)), (h1, .inl (T 6, 4, .inr (.inr (.inr (.inr (va_up (va_up (va_up (va_up (fun _ => none) 0 (some t0)) 1 (some t1)) 2 (some t2)) 3 (some t3))))))), (t0, .inr (6, [.int (so 0), .int (sn 0), .ref a00, .ref a01, .ref a02, .ref a03])), (t1, .inr (6, [.int (so 1), .int (sn 1), .ref a10, .ref a11, .ref a12, .ref a13])), (t2, .inr (6, [.int (so 2), .int (sn 2), .ref a20, .ref a21, .ref a22, .ref a23])), (t3, .inr (6, [.int (so 3), .int (sn 3), .ref a30, .ref a31, .ref a32, .ref a33])), (a00, .inl (T 0, 30, .inl (si 0))), (a01, .inl (T 1, 30, .inr (.inl (sl 0)))), (a02, .inl (T 2, 30, .inr (.inr (.inl (sf 0))))), (a03, .inl (T 3, 30, .inr (.inr (.inr (.inl (sd 0)))))), (a10, .inl (T 0, 30, .inl (si 1))), (a11, .inl (T 1, 30, .inr (.inl (sl 1)))), (a12, .inl (T 2, 30, .inr (.inr (.inl (sf 1))))), (a13, .inl (T 3, 30, .inr (.inr (.inr (.inl (sd 1)))))), (a20, .inl (T 0, 30, .inl (si 2))), (a21, .inl (T 1, 30, .inr (.inl (sl 2)))), (a22, .inl (T 2, 30, .inr (.inr (.inl (sf 2))))), (a23, .inl (T 3, 30, .inr (.inr (.inr (.inl (sd 2)))))), (a30, .inl (T 0, 30, .inl (si 3))), (a31, .inl (T 1, 30, .inr (.inl (sl 3)))), (a32, .inl (T 2, 30, .inr (.inr (.inl (sf 3))))), (a33, .inl (T 3, 30, .inr (.inr (.inr (.inl (sd 3))))))] s.heap.size = A at hD ⊢
  have hA : ∀ q : Nat, s.heap.size ≤ q → A q := fun q h => by rw [← hAe]; exact Or.inr h
  have hS : va_S A s.heap s.heap [] := va_S.rf
  have hP : va_P D vwCl [(h0, .inr (9, fs0)), (h1, .inl (T 6, 4, .inr (.inr (.inr (.inr (va_up (va_up (va_up (va_up (fun _ => none) 0 (some t0)) 1 (some t1)) 2 (some t2)) 3 (some t3))))))), (t0, .inr (6, [.int (so 0), .int (sn 0), .ref a00, .ref a01, .ref a02, .ref a03])), (t1, .inr (6, [.int (so 1), .int (sn 1), .ref a10, .ref a11, .ref a12, .ref a13])), (t2, .inr (6, [.int (so 2), .int (sn 2), .ref a20, .ref a21, .ref a22, .ref a23])), (t3, .inr (6, [.int (so 3), .int (sn 3), .ref a30, .ref a31, .ref a32, .ref a33])), (a00, .inl (T 0, 30, .inl (si 0))), (a01, .inl (T 1, 30, .inr (.inl (sl 0)))), (a02, .inl (T 2, 30, .inr (.inr (.inl (sf 0))))), (a03, .inl (T 3, 30, .inr (.inr (.inr (.inl (sd 0)))))), (a10, .inl (T 0, 30, .inl (si 1))), (a11, .inl (T 1, 30, .inr (.inl (sl 1)))), (a12, .inl (T 2, 30, .inr (.inr (.inl (sf 1))))), (a13, .inl (T 3, 30, .inr (.inr (.inr (.inl (sd 1)))))), (a20, .inl (T 0, 30, .inl (si 2))), (a21, .inl (T 1, 30, .inr (.inl (sl 2)))), (a22, .inl (T 2, 30, .inr (.inr (.inl (sf 2))))), (a23, .inl (T 3, 30, .inr (.inr (.inr (.inl (sd 2)))))), (a30, .inl (T 0, 30, .inl (si 3))), (a31, .inl (T 1, 30, .inr (.inl (sl 3)))), (a32, .inl (T 2, 30, .inr (.inr (.inl (sf 3))))), (a33, .inl (T 3, 30, .inr (.inr (.inr (.inl (sd 3))))))] s.heap := hP
  have hl := lv_entry ([.ref h0, .int x1, .int x2]) (n := 4) (Nat.le_of_ble_eq_true rfl)
  rw [lg_entry_eq]
  generalize (lg_sl ([.ref h0, .int x1, .int x2]) ++ List.replicate (4 - (lg_sl ([.ref h0, .int x1, .int x2])).length) Slot.unset).toArray = ls at hl ⊢
  have hl : lv_has ls 4 [(0, .ref h0), (1, .int x1), (2, .int x2)] := hl
  clear hD0
  have hts := dr_words hts0 s.drawn
  have hE : ekK D T (s.setDrawn s.drawn) := ekK.same (u := s) rfl hE0
  have hown : (s.setDrawn s.drawn).vm.findClass RX12 = some m.cls := hown0
  refine lv_aload_n hx hb dX12_halve_0 rfl (lv_at hl 0 rfl) ?_
  refine lv_iload_n hx hb dX12_halve_1 rfl (lv_at hl 1 rfl) ?_
  refine lv_iload_n hx hb dX12_halve_2 rfl (lv_at hl 2 rfl) ?_
  refine vp_callSi (W.runV (As := [.int x1, .int x2]) (rest := []) ⟨hx, hb, hml, hown, hts⟩ (c_X12_placeFault l D T h0 fs0 h1 (va_up (va_up (va_up (va_up (fun _ => none) 0 (some t0)) 1 (some t1)) 2 (some t2)) 3 (some t3)) t0 [.int (so 0), .int (sn 0), .ref a00, .ref a01, .ref a02, .ref a03] t1 [.int (so 1), .int (sn 1), .ref a10, .ref a11, .ref a12, .ref a13] t2 [.int (so 2), .int (sn 2), .ref a20, .ref a21, .ref a22, .ref a23] t3 [.int (so 3), .int (sn 3), .ref a30, .ref a31, .ref a32, .ref a33] x1 x2 so sn e0_9 rfl rfl rfl rfl rfl rfl rfl rfl rfl rfl rfl rfl (by omega) (by omega) (by omega) (by omega)) (cwV 2 hts gX12_halve_X12_placeFault rfl rfl rfl hv_X12_placeFault ⟨Nat.le_of_ble_eq_true rfl, Nat.le_of_ble_eq_true rfl⟩) (pR_V (q := (RX12, TX12, 11)) (ci := 9) (q0 := 0) hP hE rfl rfl [0, 1, 2, 3, 4, 5] rfl) rfl rfl hl.1 rfl (lv_room (Nat.le_of_ble_eq_true rfl)) dX12_halve_3 ⟨Nat.le_of_ble_eq_true rfl, Nat.le_of_ble_eq_true rfl⟩) (fun r_1 hr_1 => ?_)
  refine lv_istore_n (lv' := [(3, .int r_1), (0, .ref h0), (1, .int x1), (2, .int x2)]) hx hb dX12_halve_6 rfl hl (by decide +kernel) rfl (fun ls hl => ?_)
  refine lv_iload_n hx hb dX12_halve_7 rfl (lv_at hl 0 rfl) ?_
  refine lv_if_eq (tgt := 13) hx hb dX12_halve_8 (by decide +kernel) (fun c_2 => ?_) (fun c_2 => ?_)
  · rw [fa_eq] at c_2
    try rw [ti_0] at c_2
    refine lv_aload_n hx hb dX12_halve_13 rfl (lv_at hl 1 rfl) ?_
    refine va_get (D := D) (ci := 9) (v := .ref h1) (C := RX12) (T := TX12) (N := 11) hx hb hts in_X12_halve_X12 hown hE.1 hP 0 rfl rfl 9 (by decide +kernel) (hts (.fieldLink RX12 65 "ClauseBook" "sheets" "[LClauseBook$Sheet;") (List.mem_of_getElem? (i := 1) rfl)) (fun _ h9 => h9) e0_9 dX12_halve_14 ?_
    refine lv_iload_n hx hb dX12_halve_17 rfl (lv_at hl 2 rfl) ?_
    have h9f : (0 ≤ x1.toInt ∧ x1.toInt ≤ 3) ∧ 0 ≤ x2.toInt ∧ x2.toInt < 30 := hr_1.1 (by omega)
    rcases in4 (x := x1) (by omega) with rfl | rfl | rfl | rfl
    · have h9t := ti_0
      refine va_aldq hx hb hE.1 hP 1 6 rfl rfl (by unfold vp_in; decide) dX12_halve_18 ?_
      refine W.eq (g2 := F0 m 19 ls [.ref t0]) rfl ?_
      refine lv_iload_n hx hb dX12_halve_19 rfl (lv_at hl 3 rfl) ?_
      have hFc := va_free (wc := [(t0, .inr (6, [.int (so 0), .int (sn 0), .ref a00, .ref a01, .ref a02, .ref a03])), (a00, .inl (T 0, 30, .inl (si 0))), (a01, .inl (T 1, 30, .inr (.inl (sl 0)))), (a02, .inl (T 2, 30, .inr (.inr (.inl (sf 0))))), (a03, .inl (T 3, 30, .inr (.inr (.inr (.inl (sd 0))))))]) hD hS hA [2, 6, 7, 8, 9] rfl
      refine va_callvD hd0 (va_runV_D (As := [.int x2]) (rest := []) ⟨hx, hb, hml, hown, hts⟩ (c_X9_cutInHalf l D T _ t0 (so 0) (sn 0) a00 a01 a02 a03 (si 0) (sl 0) (sf 0) (sd 0) x2 (by rw [vp_in_iff]; omega)) (cwV 1 hts gX12_halve_X9_cutInHalf rfl rfl rfl hv_X9_cutInHalf ⟨Nat.le_of_ble_eq_true rfl, Nat.le_of_ble_eq_true rfl⟩) (pW_V (q := (RX9, TX9, 6)) (ci := 6) (q0 := 2) hP hE hD rfl rfl [2, 6, 7, 8, 9] (by decide +kernel) rfl rfl) rfl rfl hl.1 rfl (lv_room (Nat.le_of_ble_eq_true rfl)) dX12_halve_20 ⟨Nat.le_of_ble_eq_true rfl, Nat.le_of_ble_eq_true rfl⟩) hS (fun q _ h => hFc q h) hFc (fun u_4 t H1 locs ht hvm hr_3 hB hz1 hk1 hS d_5 hd_5 => ?_)
      have hts := dr_words hts0 d_5
      have hE : ekK D T (s.setDrawn d_5) := ekK.same (u := s) rfl hE0
      have hown : (s.setDrawn d_5).vm.findClass RX12 = some m.cls := hown0
      obtain ⟨f_6, f_7, f_8, f_9⟩ := u_4
      obtain ⟨hP1, hD1⟩ := hB
      rw [ht] at hP1
      obtain ⟨hP, hD⟩ := va_repl [(h0, .inr (9, fs0)), (h1, .inl (T 6, 4, .inr (.inr (.inr (.inr (va_up (va_up (va_up (va_up (fun _ => none) 0 (some t0)) 1 (some t1)) 2 (some t2)) 3 (some t3))))))), (t0, .inr (6, [.int (so 0), .int (sn 0), .ref a00, .ref a01, .ref a02, .ref a03])), (t1, .inr (6, [.int (so 1), .int (sn 1), .ref a10, .ref a11, .ref a12, .ref a13])), (t2, .inr (6, [.int (so 2), .int (sn 2), .ref a20, .ref a21, .ref a22, .ref a23])), (t3, .inr (6, [.int (so 3), .int (sn 3), .ref a30, .ref a31, .ref a32, .ref a33])), (a00, .inl (T 0, 30, .inl f_6)), (a01, .inl (T 1, 30, .inr (.inl f_7))), (a02, .inl (T 2, 30, .inr (.inr (.inl f_8)))), (a03, .inl (T 3, 30, .inr (.inr (.inr (.inl f_9))))), (a10, .inl (T 0, 30, .inl (si 1))), (a11, .inl (T 1, 30, .inr (.inl (sl 1)))), (a12, .inl (T 2, 30, .inr (.inr (.inl (sf 1))))), (a13, .inl (T 3, 30, .inr (.inr (.inr (.inl (sd 1)))))), (a20, .inl (T 0, 30, .inl (si 2))), (a21, .inl (T 1, 30, .inr (.inl (sl 2)))), (a22, .inl (T 2, 30, .inr (.inr (.inl (sf 2))))), (a23, .inl (T 3, 30, .inr (.inr (.inr (.inl (sd 2)))))), (a30, .inl (T 0, 30, .inl (si 3))), (a31, .inl (T 1, 30, .inr (.inl (sl 3)))), (a32, .inl (T 2, 30, .inr (.inr (.inl (sf 3))))), (a33, .inl (T 3, 30, .inr (.inr (.inr (.inl (sd 3))))))] hP hD [2, 6, 7, 8, 9] [2, 6, 7, 8, 9] rfl (by decide +kernel) rfl rfl rfl hk1 hP1
      clear hP1 hD1 hFc
      generalize H1 = H at hP hS ⊢
      refine lv_iconst (v := 1) hx hb dX12_halve_23 (by decide +kernel) ?_
      refine W.endD hd_5 ?_
      exact W.iret hx hb hr (fun t ht hW => ⟨⟨_, ((fun k => [f_6, (si 1), (si 2), (si 3)].getD k f_6), (fun k => [f_7, (sl 1), (sl 2), (sl 3)].getD k f_7), (fun k => [f_8, (sf 1), (sf 2), (sf 3)].getD k f_8), (fun k => [f_9, (sd 1), (sd 2), (sd 3)].getD k f_9)), rfl, (by (try dsimp only); have h9a1 : (so ((0 : Int32).toNatClampNeg)).toInt = (so 0).toInt := rfl; have h9b1 : (sn ((0 : Int32).toNatClampNeg)).toInt = (sn 0).toInt := rfl; have h9c1 : (0 : Int32).toInt = 0 := (by decide +kernel); have h9r : (1 : Int32).toInt = 1 := (by decide +kernel); omega), by rw [ht]; exact hP.sub [0, 1, 2, 3, 4, 5, 6, 7, 8, 9, 10, 11, 12, 13, 14, 15, 16, 17, 18, 19, 20, 21] rfl, hD.sub [0, 1, 2, 3, 4, 5, 6, 7, 8, 9, 10, 11, 12, 13, 14, 15, 16, 17, 18, 19, 20, 21] (by decide +kernel) rfl⟩, hS.F ht⟩) hS.2.2 dX12_halve_24
    · have h9t := ti_1
      refine va_aldq hx hb hE.1 hP 1 6 rfl rfl (by unfold vp_in; decide) dX12_halve_18 ?_
      refine W.eq (g2 := F0 m 19 ls [.ref t1]) rfl ?_
      refine lv_iload_n hx hb dX12_halve_19 rfl (lv_at hl 3 rfl) ?_
      have hFc := va_free (wc := [(t1, .inr (6, [.int (so 1), .int (sn 1), .ref a10, .ref a11, .ref a12, .ref a13])), (a10, .inl (T 0, 30, .inl (si 1))), (a11, .inl (T 1, 30, .inr (.inl (sl 1)))), (a12, .inl (T 2, 30, .inr (.inr (.inl (sf 1))))), (a13, .inl (T 3, 30, .inr (.inr (.inr (.inl (sd 1))))))]) hD hS hA [3, 10, 11, 12, 13] rfl
      refine va_callvD hd0 (va_runV_D (As := [.int x2]) (rest := []) ⟨hx, hb, hml, hown, hts⟩ (c_X9_cutInHalf l D T _ t1 (so 1) (sn 1) a10 a11 a12 a13 (si 1) (sl 1) (sf 1) (sd 1) x2 (by rw [vp_in_iff]; omega)) (cwV 1 hts gX12_halve_X9_cutInHalf rfl rfl rfl hv_X9_cutInHalf ⟨Nat.le_of_ble_eq_true rfl, Nat.le_of_ble_eq_true rfl⟩) (pW_V (q := (RX9, TX9, 6)) (ci := 6) (q0 := 3) hP hE hD rfl rfl [3, 10, 11, 12, 13] (by decide +kernel) rfl rfl) rfl rfl hl.1 rfl (lv_room (Nat.le_of_ble_eq_true rfl)) dX12_halve_20 ⟨Nat.le_of_ble_eq_true rfl, Nat.le_of_ble_eq_true rfl⟩) hS (fun q _ h => hFc q h) hFc (fun u_11 t H1 locs ht hvm hr_10 hB hz1 hk1 hS d_12 hd_12 => ?_)
      have hts := dr_words hts0 d_12
      have hE : ekK D T (s.setDrawn d_12) := ekK.same (u := s) rfl hE0
      have hown : (s.setDrawn d_12).vm.findClass RX12 = some m.cls := hown0
      obtain ⟨f_13, f_14, f_15, f_16⟩ := u_11
      obtain ⟨hP1, hD1⟩ := hB
      rw [ht] at hP1
      obtain ⟨hP, hD⟩ := va_repl [(h0, .inr (9, fs0)), (h1, .inl (T 6, 4, .inr (.inr (.inr (.inr (va_up (va_up (va_up (va_up (fun _ => none) 0 (some t0)) 1 (some t1)) 2 (some t2)) 3 (some t3))))))), (t0, .inr (6, [.int (so 0), .int (sn 0), .ref a00, .ref a01, .ref a02, .ref a03])), (t1, .inr (6, [.int (so 1), .int (sn 1), .ref a10, .ref a11, .ref a12, .ref a13])), (t2, .inr (6, [.int (so 2), .int (sn 2), .ref a20, .ref a21, .ref a22, .ref a23])), (t3, .inr (6, [.int (so 3), .int (sn 3), .ref a30, .ref a31, .ref a32, .ref a33])), (a00, .inl (T 0, 30, .inl (si 0))), (a01, .inl (T 1, 30, .inr (.inl (sl 0)))), (a02, .inl (T 2, 30, .inr (.inr (.inl (sf 0))))), (a03, .inl (T 3, 30, .inr (.inr (.inr (.inl (sd 0)))))), (a10, .inl (T 0, 30, .inl f_13)), (a11, .inl (T 1, 30, .inr (.inl f_14))), (a12, .inl (T 2, 30, .inr (.inr (.inl f_15)))), (a13, .inl (T 3, 30, .inr (.inr (.inr (.inl f_16))))), (a20, .inl (T 0, 30, .inl (si 2))), (a21, .inl (T 1, 30, .inr (.inl (sl 2)))), (a22, .inl (T 2, 30, .inr (.inr (.inl (sf 2))))), (a23, .inl (T 3, 30, .inr (.inr (.inr (.inl (sd 2)))))), (a30, .inl (T 0, 30, .inl (si 3))), (a31, .inl (T 1, 30, .inr (.inl (sl 3)))), (a32, .inl (T 2, 30, .inr (.inr (.inl (sf 3))))), (a33, .inl (T 3, 30, .inr (.inr (.inr (.inl (sd 3))))))] hP hD [3, 10, 11, 12, 13] [3, 10, 11, 12, 13] rfl (by decide +kernel) rfl rfl rfl hk1 hP1
      clear hP1 hD1 hFc
      generalize H1 = H at hP hS ⊢
      refine lv_iconst (v := 1) hx hb dX12_halve_23 (by decide +kernel) ?_
      refine W.endD hd_12 ?_
      exact W.iret hx hb hr (fun t ht hW => ⟨⟨_, ((fun k => [(si 0), f_13, (si 2), (si 3)].getD k (si 0)), (fun k => [(sl 0), f_14, (sl 2), (sl 3)].getD k (sl 0)), (fun k => [(sf 0), f_15, (sf 2), (sf 3)].getD k (sf 0)), (fun k => [(sd 0), f_16, (sd 2), (sd 3)].getD k (sd 0))), rfl, (by (try dsimp only); have h9a1 : (so ((1 : Int32).toNatClampNeg)).toInt = (so 1).toInt := rfl; have h9b1 : (sn ((1 : Int32).toNatClampNeg)).toInt = (sn 1).toInt := rfl; have h9c1 : (1 : Int32).toInt = 1 := (by decide +kernel); have h9r : (1 : Int32).toInt = 1 := (by decide +kernel); omega), by rw [ht]; exact hP.sub [0, 1, 2, 3, 4, 5, 6, 7, 8, 9, 10, 11, 12, 13, 14, 15, 16, 17, 18, 19, 20, 21] rfl, hD.sub [0, 1, 2, 3, 4, 5, 6, 7, 8, 9, 10, 11, 12, 13, 14, 15, 16, 17, 18, 19, 20, 21] (by decide +kernel) rfl⟩, hS.F ht⟩) hS.2.2 dX12_halve_24
    · have h9t := ti_2
      refine va_aldq hx hb hE.1 hP 1 6 rfl rfl (by unfold vp_in; decide) dX12_halve_18 ?_
      refine W.eq (g2 := F0 m 19 ls [.ref t2]) rfl ?_
      refine lv_iload_n hx hb dX12_halve_19 rfl (lv_at hl 3 rfl) ?_
      have hFc := va_free (wc := [(t2, .inr (6, [.int (so 2), .int (sn 2), .ref a20, .ref a21, .ref a22, .ref a23])), (a20, .inl (T 0, 30, .inl (si 2))), (a21, .inl (T 1, 30, .inr (.inl (sl 2)))), (a22, .inl (T 2, 30, .inr (.inr (.inl (sf 2))))), (a23, .inl (T 3, 30, .inr (.inr (.inr (.inl (sd 2))))))]) hD hS hA [4, 14, 15, 16, 17] rfl
      refine va_callvD hd0 (va_runV_D (As := [.int x2]) (rest := []) ⟨hx, hb, hml, hown, hts⟩ (c_X9_cutInHalf l D T _ t2 (so 2) (sn 2) a20 a21 a22 a23 (si 2) (sl 2) (sf 2) (sd 2) x2 (by rw [vp_in_iff]; omega)) (cwV 1 hts gX12_halve_X9_cutInHalf rfl rfl rfl hv_X9_cutInHalf ⟨Nat.le_of_ble_eq_true rfl, Nat.le_of_ble_eq_true rfl⟩) (pW_V (q := (RX9, TX9, 6)) (ci := 6) (q0 := 4) hP hE hD rfl rfl [4, 14, 15, 16, 17] (by decide +kernel) rfl rfl) rfl rfl hl.1 rfl (lv_room (Nat.le_of_ble_eq_true rfl)) dX12_halve_20 ⟨Nat.le_of_ble_eq_true rfl, Nat.le_of_ble_eq_true rfl⟩) hS (fun q _ h => hFc q h) hFc (fun u_18 t H1 locs ht hvm hr_17 hB hz1 hk1 hS d_19 hd_19 => ?_)
      have hts := dr_words hts0 d_19
      have hE : ekK D T (s.setDrawn d_19) := ekK.same (u := s) rfl hE0
      have hown : (s.setDrawn d_19).vm.findClass RX12 = some m.cls := hown0
      obtain ⟨f_20, f_21, f_22, f_23⟩ := u_18
      obtain ⟨hP1, hD1⟩ := hB
      rw [ht] at hP1
      obtain ⟨hP, hD⟩ := va_repl [(h0, .inr (9, fs0)), (h1, .inl (T 6, 4, .inr (.inr (.inr (.inr (va_up (va_up (va_up (va_up (fun _ => none) 0 (some t0)) 1 (some t1)) 2 (some t2)) 3 (some t3))))))), (t0, .inr (6, [.int (so 0), .int (sn 0), .ref a00, .ref a01, .ref a02, .ref a03])), (t1, .inr (6, [.int (so 1), .int (sn 1), .ref a10, .ref a11, .ref a12, .ref a13])), (t2, .inr (6, [.int (so 2), .int (sn 2), .ref a20, .ref a21, .ref a22, .ref a23])), (t3, .inr (6, [.int (so 3), .int (sn 3), .ref a30, .ref a31, .ref a32, .ref a33])), (a00, .inl (T 0, 30, .inl (si 0))), (a01, .inl (T 1, 30, .inr (.inl (sl 0)))), (a02, .inl (T 2, 30, .inr (.inr (.inl (sf 0))))), (a03, .inl (T 3, 30, .inr (.inr (.inr (.inl (sd 0)))))), (a10, .inl (T 0, 30, .inl (si 1))), (a11, .inl (T 1, 30, .inr (.inl (sl 1)))), (a12, .inl (T 2, 30, .inr (.inr (.inl (sf 1))))), (a13, .inl (T 3, 30, .inr (.inr (.inr (.inl (sd 1)))))), (a20, .inl (T 0, 30, .inl f_20)), (a21, .inl (T 1, 30, .inr (.inl f_21))), (a22, .inl (T 2, 30, .inr (.inr (.inl f_22)))), (a23, .inl (T 3, 30, .inr (.inr (.inr (.inl f_23))))), (a30, .inl (T 0, 30, .inl (si 3))), (a31, .inl (T 1, 30, .inr (.inl (sl 3)))), (a32, .inl (T 2, 30, .inr (.inr (.inl (sf 3))))), (a33, .inl (T 3, 30, .inr (.inr (.inr (.inl (sd 3))))))] hP hD [4, 14, 15, 16, 17] [4, 14, 15, 16, 17] rfl (by decide +kernel) rfl rfl rfl hk1 hP1
      clear hP1 hD1 hFc
      generalize H1 = H at hP hS ⊢
      refine lv_iconst (v := 1) hx hb dX12_halve_23 (by decide +kernel) ?_
      refine W.endD hd_19 ?_
      exact W.iret hx hb hr (fun t ht hW => ⟨⟨_, ((fun k => [(si 0), (si 1), f_20, (si 3)].getD k (si 0)), (fun k => [(sl 0), (sl 1), f_21, (sl 3)].getD k (sl 0)), (fun k => [(sf 0), (sf 1), f_22, (sf 3)].getD k (sf 0)), (fun k => [(sd 0), (sd 1), f_23, (sd 3)].getD k (sd 0))), rfl, (by (try dsimp only); have h9a1 : (so ((2 : Int32).toNatClampNeg)).toInt = (so 2).toInt := rfl; have h9b1 : (sn ((2 : Int32).toNatClampNeg)).toInt = (sn 2).toInt := rfl; have h9c1 : (2 : Int32).toInt = 2 := (by decide +kernel); have h9r : (1 : Int32).toInt = 1 := (by decide +kernel); omega), by rw [ht]; exact hP.sub [0, 1, 2, 3, 4, 5, 6, 7, 8, 9, 10, 11, 12, 13, 14, 15, 16, 17, 18, 19, 20, 21] rfl, hD.sub [0, 1, 2, 3, 4, 5, 6, 7, 8, 9, 10, 11, 12, 13, 14, 15, 16, 17, 18, 19, 20, 21] (by decide +kernel) rfl⟩, hS.F ht⟩) hS.2.2 dX12_halve_24
    · have h9t := ti_3
      refine va_aldq hx hb hE.1 hP 1 6 rfl rfl (by unfold vp_in; decide) dX12_halve_18 ?_
      refine W.eq (g2 := F0 m 19 ls [.ref t3]) rfl ?_
      refine lv_iload_n hx hb dX12_halve_19 rfl (lv_at hl 3 rfl) ?_
      have hFc := va_free (wc := [(t3, .inr (6, [.int (so 3), .int (sn 3), .ref a30, .ref a31, .ref a32, .ref a33])), (a30, .inl (T 0, 30, .inl (si 3))), (a31, .inl (T 1, 30, .inr (.inl (sl 3)))), (a32, .inl (T 2, 30, .inr (.inr (.inl (sf 3))))), (a33, .inl (T 3, 30, .inr (.inr (.inr (.inl (sd 3))))))]) hD hS hA [5, 18, 19, 20, 21] rfl
      refine va_callvD hd0 (va_runV_D (As := [.int x2]) (rest := []) ⟨hx, hb, hml, hown, hts⟩ (c_X9_cutInHalf l D T _ t3 (so 3) (sn 3) a30 a31 a32 a33 (si 3) (sl 3) (sf 3) (sd 3) x2 (by rw [vp_in_iff]; omega)) (cwV 1 hts gX12_halve_X9_cutInHalf rfl rfl rfl hv_X9_cutInHalf ⟨Nat.le_of_ble_eq_true rfl, Nat.le_of_ble_eq_true rfl⟩) (pW_V (q := (RX9, TX9, 6)) (ci := 6) (q0 := 5) hP hE hD rfl rfl [5, 18, 19, 20, 21] (by decide +kernel) rfl rfl) rfl rfl hl.1 rfl (lv_room (Nat.le_of_ble_eq_true rfl)) dX12_halve_20 ⟨Nat.le_of_ble_eq_true rfl, Nat.le_of_ble_eq_true rfl⟩) hS (fun q _ h => hFc q h) hFc (fun u_25 t H1 locs ht hvm hr_24 hB hz1 hk1 hS d_26 hd_26 => ?_)
      have hts := dr_words hts0 d_26
      have hE : ekK D T (s.setDrawn d_26) := ekK.same (u := s) rfl hE0
      have hown : (s.setDrawn d_26).vm.findClass RX12 = some m.cls := hown0
      obtain ⟨f_27, f_28, f_29, f_30⟩ := u_25
      obtain ⟨hP1, hD1⟩ := hB
      rw [ht] at hP1
      obtain ⟨hP, hD⟩ := va_repl [(h0, .inr (9, fs0)), (h1, .inl (T 6, 4, .inr (.inr (.inr (.inr (va_up (va_up (va_up (va_up (fun _ => none) 0 (some t0)) 1 (some t1)) 2 (some t2)) 3 (some t3))))))), (t0, .inr (6, [.int (so 0), .int (sn 0), .ref a00, .ref a01, .ref a02, .ref a03])), (t1, .inr (6, [.int (so 1), .int (sn 1), .ref a10, .ref a11, .ref a12, .ref a13])), (t2, .inr (6, [.int (so 2), .int (sn 2), .ref a20, .ref a21, .ref a22, .ref a23])), (t3, .inr (6, [.int (so 3), .int (sn 3), .ref a30, .ref a31, .ref a32, .ref a33])), (a00, .inl (T 0, 30, .inl (si 0))), (a01, .inl (T 1, 30, .inr (.inl (sl 0)))), (a02, .inl (T 2, 30, .inr (.inr (.inl (sf 0))))), (a03, .inl (T 3, 30, .inr (.inr (.inr (.inl (sd 0)))))), (a10, .inl (T 0, 30, .inl (si 1))), (a11, .inl (T 1, 30, .inr (.inl (sl 1)))), (a12, .inl (T 2, 30, .inr (.inr (.inl (sf 1))))), (a13, .inl (T 3, 30, .inr (.inr (.inr (.inl (sd 1)))))), (a20, .inl (T 0, 30, .inl (si 2))), (a21, .inl (T 1, 30, .inr (.inl (sl 2)))), (a22, .inl (T 2, 30, .inr (.inr (.inl (sf 2))))), (a23, .inl (T 3, 30, .inr (.inr (.inr (.inl (sd 2)))))), (a30, .inl (T 0, 30, .inl f_27)), (a31, .inl (T 1, 30, .inr (.inl f_28))), (a32, .inl (T 2, 30, .inr (.inr (.inl f_29)))), (a33, .inl (T 3, 30, .inr (.inr (.inr (.inl f_30)))))] hP hD [5, 18, 19, 20, 21] [5, 18, 19, 20, 21] rfl (by decide +kernel) rfl rfl rfl hk1 hP1
      clear hP1 hD1 hFc
      generalize H1 = H at hP hS ⊢
      refine lv_iconst (v := 1) hx hb dX12_halve_23 (by decide +kernel) ?_
      refine W.endD hd_26 ?_
      exact W.iret hx hb hr (fun t ht hW => ⟨⟨_, ((fun k => [(si 0), (si 1), (si 2), f_27].getD k (si 0)), (fun k => [(sl 0), (sl 1), (sl 2), f_28].getD k (sl 0)), (fun k => [(sf 0), (sf 1), (sf 2), f_29].getD k (sf 0)), (fun k => [(sd 0), (sd 1), (sd 2), f_30].getD k (sd 0))), rfl, (by (try dsimp only); have h9a1 : (so ((3 : Int32).toNatClampNeg)).toInt = (so 3).toInt := rfl; have h9b1 : (sn ((3 : Int32).toNatClampNeg)).toInt = (sn 3).toInt := rfl; have h9c1 : (3 : Int32).toInt = 3 := (by decide +kernel); have h9r : (1 : Int32).toInt = 1 := (by decide +kernel); omega), by rw [ht]; exact hP.sub [0, 1, 2, 3, 4, 5, 6, 7, 8, 9, 10, 11, 12, 13, 14, 15, 16, 17, 18, 19, 20, 21] rfl, hD.sub [0, 1, 2, 3, 4, 5, 6, 7, 8, 9, 10, 11, 12, 13, 14, 15, 16, 17, 18, 19, 20, 21] (by decide +kernel) rfl⟩, hS.F ht⟩) hS.2.2 dX12_halve_24
  · rw [fa_eq] at c_2
    try rw [ti_0] at c_2
    refine lv_iload_n hx hb dX12_halve_11 rfl (lv_at hl 0 rfl) ?_
    refine W.endD hd0 ?_
    exact W.iret hx hb hr (fun t ht hW => ⟨⟨_, ((fun k => [(si 0), (si 1), (si 2), (si 3)].getD k (si 0)), (fun k => [(sl 0), (sl 1), (sl 2), (sl 3)].getD k (sl 0)), (fun k => [(sf 0), (sf 1), (sf 2), (sf 3)].getD k (sf 0)), (fun k => [(sd 0), (sd 1), (sd 2), (sd 3)].getD k (sd 0))), rfl, (by (try dsimp only); omega), by rw [ht]; exact hP.sub [0, 1, 2, 3, 4, 5, 6, 7, 8, 9, 10, 11, 12, 13, 14, 15, 16, 17, 18, 19, 20, 21] rfl, hD.sub [0, 1, 2, 3, 4, 5, 6, 7, 8, 9, 10, 11, 12, 13, 14, 15, 16, 17, 18, 19, 20, 21] (by decide +kernel) rfl⟩, hS.F ht⟩) hS.2.2 dX12_halve_12
end
