theorem dX10_wordEnd_0 : decode cX10_wordEnd 0 = .ok (.iload_n 1, 1) := by decide +kernel
theorem dX10_wordEnd_1 : decode cX10_wordEnd 1 = .ok (.istore_n 2, 1) := by decide +kernel
theorem dX10_wordEnd_10 : decode cX10_wordEnd 10 = .ok (.aload_n 0, 1) := by decide +kernel
theorem dX10_wordEnd_11 : decode cX10_wordEnd 11 = .ok (.getfield 15, 3) := by decide +kernel
theorem dX10_wordEnd_14 : decode cX10_wordEnd 14 = .ok (.iload_n 2, 1) := by decide +kernel
theorem dX10_wordEnd_15 : decode cX10_wordEnd 15 = .ok (.iaload, 1) := by decide +kernel
theorem dX10_wordEnd_16 : decode cX10_wordEnd 16 = .ok (.bipush 97, 2) := by decide +kernel
theorem dX10_wordEnd_18 : decode cX10_wordEnd 18 = .ok (.bipush 122, 2) := by decide +kernel
theorem dX10_wordEnd_2 : decode cX10_wordEnd 2 = .ok (.iload_n 2, 1) := by decide +kernel
theorem dX10_wordEnd_20 : decode cX10_wordEnd 20 = .ok (.invokestatic 50, 3) := by decide +kernel
theorem dX10_wordEnd_23 : decode cX10_wordEnd 23 = .ok (.ifCond .eq 9, 3) := by decide +kernel
theorem dX10_wordEnd_26 : decode cX10_wordEnd 26 = .ok (.iinc 2 1, 3) := by decide +kernel
theorem dX10_wordEnd_29 : decode cX10_wordEnd 29 = .ok (.goto (-27), 3) := by decide +kernel
theorem dX10_wordEnd_3 : decode cX10_wordEnd 3 = .ok (.aload_n 0, 1) := by decide +kernel
theorem dX10_wordEnd_32 : decode cX10_wordEnd 32 = .ok (.iload_n 2, 1) := by decide +kernel
theorem dX10_wordEnd_33 : decode cX10_wordEnd 33 = .ok (.ireturn, 1) := by decide +kernel
theorem dX10_wordEnd_4 : decode cX10_wordEnd 4 = .ok (.getfield 9, 3) := by decide +kernel
theorem dX10_wordEnd_7 : decode cX10_wordEnd 7 = .ok (.if_icmp .ge 25, 3) := by decide +kernel
set_option maxRecDepth 20000 in
theorem ggX10_wordEnd_X12_within : GoodIn wsX10_wordEnd wsX12_within := goodIn_r _ [5] rfl (by decide +kernel)
set_option maxRecDepth 20000 in
theorem gX10_wordEnd_X12_within_n50 : GoodIn wsX10_wordEnd (wsX12_within) := ggX10_wordEnd_X12_within
set_option maxRecDepth 20000 in
theorem in_X10_wordEnd_X10 : ∀ w ∈ wsX100, w ∈ wsX10_wordEnd := sub_r [6, 7, 8, 9, 10, 11, 12] rfl
set_option maxHeartbeats 4000000 in
set_option maxRecDepth 100000 in
theorem c_X10_wordEnd (l : Launch) (D : va_G) (T : Nat → ClassId) (h0 : Nat) (fs0 : List Value) (h1 : Nat) (f1 : Nat → Int32) (x1 : Int32) (n : Int32) (e0_0 : fs0[0]? = some (.int n)) (e0_1 : fs0[1]? = some (.ref h1)) (hn : 0 ≤ n.toInt ∧ n.toInt ≤ 120) (hx : 0 ≤ x1.toInt ∧ x1.toInt ≤ n.toInt) : Met l yX10_wordEnd wsX10_wordEnd ({ frames := 1, cells := 0, slots := 0, locals := 22 }) (pR [.ref h0, .int x1] D T [(h0, .inr (7, fs0)), (h1, .inl (T 0, 120, .inl f1))]) (vp_Si (fun r => rnP (isLe f1) n.toNatClampNeg x1.toNatClampNeg r.toNatClampNeg ∧ x1.toInt ≤ r.toInt ∧ r.toInt ≤ n.toInt)) 0 0 (fun _ => False) := by
  refine Met.ofW (cc := cX10_wordEnd) (maxL := 3) (ret := (some .int)) (by decide +kernel) rfl ?_
  intro p e s m args below meth c s₁ B hml hv
  obtain ⟨rfl, hP, hE⟩ := hv
  have hx := B.exec
  have hb := B.bytes
  have hr := B.returns
  have hts := atoms_spec (ws := wsX10_wordEnd) B.pre
  have hown : s.vm.findClass RX10 = some m.cls := findClass_of_methodNamed B.named
  have hlocks := B.notSynchronized
  have hP : va_P D vwCl [(h0, .inr (7, fs0)), (h1, .inl (T 0, 120, .inl f1))] s.heap := hP
  have hl := lv_entry ([.ref h0, .int x1]) (n := 3) (Nat.le_of_ble_eq_true rfl)
  rw [lg_entry_eq]
  generalize (lg_sl ([.ref h0, .int x1]) ++ List.replicate (3 - (lg_sl ([.ref h0, .int x1])).length) Slot.unset).toArray = ls at hl ⊢
  have hl : lv_has ls 3 [(0, .ref h0), (1, .int x1)] := hl
  refine lv_iload_n hx hb dX10_wordEnd_0 rfl (lv_at hl 1 rfl) ?_
  refine lv_istore_n (lv' := [(2, .int x1), (0, .ref h0), (1, .int x1)]) hx hb dX10_wordEnd_1 rfl hl (by decide +kernel) rfl (fun ls hl => ?_)
  refine loopR (σ := (Int32)) (fun x9 ls => lv_has ls 3 [(2, .int x9), (0, .ref h0), (1, .int x1)] ∧ ((x1.toInt ≤ x9.toInt ∧ x9.toInt ≤ n.toInt) ∧ ∀ j : Nat, x1.toNatClampNeg ≤ j → j < x9.toNatClampNeg → isLe f1 j)) (fun x9 => (120 - x9.toInt).toNat) (fun x9 ls hI ih => ?_) x1 ls ⟨lv_sub hl [0, 1, 2] rfl, ⟨(by (try dsimp only); omega), (fun j h8 h9 => absurd h9 (by (try dsimp only); omega))⟩⟩
  obtain ⟨ii, rfl⟩ : ∃ z, z = x9 := ⟨_, rfl⟩
  obtain ⟨hl, hinv⟩ := hI
  have hl : lv_has ls 3 [(2, .int ii), (0, .ref h0), (1, .int x1)] := hl
  have hinv : (x1.toInt ≤ ii.toInt ∧ ii.toInt ≤ n.toInt) ∧ ∀ j : Nat, x1.toNatClampNeg ≤ j → j < ii.toNatClampNeg → isLe f1 j := hinv
  obtain ⟨hinv, hal⟩ := hinv
  refine lv_iload_n hx hb dX10_wordEnd_2 rfl (lv_at hl 0 rfl) ?_
  refine lv_aload_n hx hb dX10_wordEnd_3 rfl (lv_at hl 1 rfl) ?_
  refine va_get (D := D) (ci := 7) (v := .int n) (C := RX10) (T := TX10) (N := 7) hx hb hts in_X10_wordEnd_X10 hown hE.1 hP 0 rfl rfl 0 (by decide +kernel) (hts (.fieldLink RX10 9 "ClauseBook$Tape" "size" "I") (List.mem_of_getElem? (i := 1) rfl)) (fun _ h9 => h9) e0_0 dX10_wordEnd_4 ?_
  refine lv_icmp_ge (tgt := 32) hx hb dX10_wordEnd_7 (by decide +kernel) (fun c_1 => ?_) (fun c_1 => ?_)
  · rw [fa_le] at c_1
    refine lv_iload_n hx hb dX10_wordEnd_32 rfl (lv_at hl 0 rfl) ?_
    exact W.iret hx hb hr (fun t ht hW => ⟨_, rfl, ⟨rn_end (by omega) (by omega) (by omega) hal (fun h9 => absurd h9 (by omega)), by omega⟩, ht⟩) (fun _ h => by cases h) dX10_wordEnd_33
  · rw [fa_le] at c_1
    refine lv_aload_n hx hb dX10_wordEnd_10 rfl (lv_at hl 1 rfl) ?_
    refine va_get (D := D) (ci := 7) (v := .ref h1) (C := RX10) (T := TX10) (N := 7) hx hb hts in_X10_wordEnd_X10 hown hE.1 hP 0 rfl rfl 1 (by decide +kernel) (hts (.fieldLink RX10 15 "ClauseBook$Tape" "bytes" "[I") (List.mem_of_getElem? (i := 2) rfl)) (fun _ h9 => h9) e0_1 dX10_wordEnd_11 ?_
    refine lv_iload_n hx hb dX10_wordEnd_14 rfl (lv_at hl 0 rfl) ?_
    refine va_iald hx hb hE.1 hP 1 0 rfl rfl (by rw [vp_in_iff]; first | omega | (subst_vars; omega)) dX10_wordEnd_15 ?_
    refine lv_topi (fun z_2 ez_2 => ?_)
    refine lv_bipush (v := 97) hx hb dX10_wordEnd_16 (by decide +kernel) ?_
    refine lv_bipush (v := 122) hx hb dX10_wordEnd_18 (by decide +kernel) ?_
    refine vp_callSi (va_Run.run (va_runSN (As := [.int z_2, .int 97, .int 122]) (rest := []) ⟨hx, hb, hml, hown, hts⟩ (c_X12_within l D T z_2 97 122 97 122 (by decide +kernel) (by decide +kernel)) ⟨(va_cnB 3 hts gX10_wordEnd_X12_within_n50 rfl rfl rfl (hE.2.1 (RX10, 50, yX12_within) (List.mem_of_getElem? (i := 8) rfl)) (hts (.initialized RX12) (List.mem_of_getElem? (i := 4) rfl)) hs_X12_within ⟨Nat.le_of_ble_eq_true rfl, Nat.le_of_ble_eq_true rfl⟩), (hts (.static yX12_within) (List.mem_of_getElem? (i := 3) rfl)), trivial⟩ (pR_S hP hE [] rfl) rfl rfl hl.1 rfl (lv_room (Nat.le_of_ble_eq_true rfl)) dX10_wordEnd_20 ⟨Nat.le_of_ble_eq_true rfl, Nat.le_of_ble_eq_true rfl⟩)) (fun r_3 hr_3 => ?_)
    rcases bool_post hr_3 with ⟨c_4, rfl⟩ | ⟨c_4, rfl⟩
    · refine lv_if_eq (tgt := 32) hx hb dX10_wordEnd_23 (by decide +kernel) (fun c9 => absurd c9 (by decide +kernel)) (fun _ => ?_)
      obtain ⟨z_5, ez_5⟩ : ∃ y : Int32, y = ii + 1 := ⟨_, rfl⟩
      refine lv_iinc (v := z_5) (lv' := [(2, .int z_5), (0, .ref h0), (1, .int x1)]) hx hb dX10_wordEnd_26 hl (k := 0) rfl (by rw [ez_5]; rfl) (by decide +kernel) rfl (fun ls hl => ?_)
      have hi9 : z_5.toInt = ii.toInt + 1 := by rw [ez_5]; exact inc1 (n := 1000) (by omega) (by decide +kernel)
      refine lv_goto (tgt := 2) hx hb dX10_wordEnd_29 (by decide +kernel) ?_
      exact ih z_5 ls ⟨lv_sub hl [0, 1, 2] rfl, ⟨(by (try dsimp only); omega), (by (try dsimp only); exact rn_step (by omega) hi9 hal (show isLe f1 (ii.toNatClampNeg) from by unfold isLe; rw [← ez_2]; omega))⟩⟩ (by (try dsimp only); omega)
    · refine lv_if_eq (tgt := 32) hx hb dX10_wordEnd_23 (by decide +kernel) (fun _ => ?_) (fun c9 => absurd c9 (by decide +kernel))
      refine lv_iload_n hx hb dX10_wordEnd_32 rfl (lv_at hl 0 rfl) ?_
      exact W.iret hx hb hr (fun t ht hW => ⟨_, rfl, ⟨rn_end (by omega) (by omega) (by omega) hal (fun _ h8 => by unfold isLe at h8; rw [← ez_2] at h8; omega), by omega⟩, ht⟩) (fun _ h => by cases h) dX10_wordEnd_33
theorem iw_step {f : Nat → Int32} {K : Nat} {a i i' z : Int32} (ha : 0 ≤ a.toInt ∧ a.toInt ≤ 120) (h0 : 0 ≤ i.toInt ∧ i.toInt ≤ 120) (hi : i'.toInt = i.toInt + 1) (h : ∀ j : Nat, j < i.toNatClampNeg → f (a.toNatClampNeg + j) = (ksB.getD K []).getD j 0) (hz : z = f (a + i).toNatClampNeg) (hc : (ksB.getD K []).getD i.toNatClampNeg 0 = z) : ∀ j : Nat, j < i'.toNatClampNeg → f (a.toNatClampNeg + j) = (ksB.getD K []).getD j 0 := by
  intro j hj
  have e := tn1 h0.1 hi
  by_cases hji : j = i.toNatClampNeg
  · have h1 := tn ha.1
    have h2 := tn h0.1
    have e2 := fb_addI (x := a) (y := i) (by omega) (by omega)
    have h3 := tn (x := a + i) (by omega)
    rw [hji, hc, hz, show a.toNatClampNeg + i.toNatClampNeg = (a + i).toNatClampNeg by omega]
  · exact h j (by omega)
theorem iw_no {f : Nat → Int32} {K : Nat} {a b i z : Int32} (ha : 0 ≤ a.toInt ∧ a.toInt ≤ 120) (hi : 0 ≤ i.toInt ∧ i.toInt < (ksL.getD K 0 : Nat)) (hi2 : i.toInt ≤ 120) (hz : z = f (a + i).toNatClampNeg) (hc : ¬ ((ksB.getD K []).getD i.toNatClampNeg 0).toInt = z.toInt) : ¬ wordK f a.toNatClampNeg b.toNatClampNeg K := by
  intro h
  have h1 := tn ha.1
  have h2 := tn hi.1
  have e2 := fb_addI (x := a) (y := i) (by omega) (by omega)
  have h3 := tn (x := a + i) (by omega)
  have h4 := h.2.2 i.toNatClampNeg (by omega)
  rw [show a.toNatClampNeg + i.toNatClampNeg = (a + i).toNatClampNeg by omega, ← hz] at h4
  exact hc (by rw [h4])
theorem iw_len {f : Nat → Int32} {K : Nat} {a b : Int32} (ha : 0 ≤ a.toInt) (hb : 0 ≤ b.toInt) (hc : ¬ ((ksL.getD K 0 : Nat) : Int) = b.toInt - a.toInt) : ¬ wordK f a.toNatClampNeg b.toNatClampNeg K := by
  intro h
  have h1 := tn ha
  have h2 := tn hb
  have h3 := h.2.1
  omega
theorem dX10_isWord_0 : decode cX10_isWord 0 = .ok (.aload_n 1, 1) := by decide +kernel
theorem dX10_isWord_1 : decode cX10_isWord 1 = .ok (.invokevirtual 76, 3) := by decide +kernel
theorem dX10_isWord_10 : decode cX10_isWord 10 = .ok (.iconst 0, 1) := by decide +kernel
theorem dX10_isWord_11 : decode cX10_isWord 11 = .ok (.ireturn, 1) := by decide +kernel
theorem dX10_isWord_12 : decode cX10_isWord 12 = .ok (.iconst 0, 1) := by decide +kernel
theorem dX10_isWord_13 : decode cX10_isWord 13 = .ok (.istore 4, 2) := by decide +kernel
theorem dX10_isWord_15 : decode cX10_isWord 15 = .ok (.iload 4, 2) := by decide +kernel
theorem dX10_isWord_17 : decode cX10_isWord 17 = .ok (.aload_n 1, 1) := by decide +kernel
theorem dX10_isWord_18 : decode cX10_isWord 18 = .ok (.invokevirtual 76, 3) := by decide +kernel
theorem dX10_isWord_21 : decode cX10_isWord 21 = .ok (.if_icmp .ge 29, 3) := by decide +kernel
theorem dX10_isWord_24 : decode cX10_isWord 24 = .ok (.aload_n 1, 1) := by decide +kernel
theorem dX10_isWord_25 : decode cX10_isWord 25 = .ok (.iload 4, 2) := by decide +kernel
theorem dX10_isWord_27 : decode cX10_isWord 27 = .ok (.invokevirtual 82, 3) := by decide +kernel
theorem dX10_isWord_30 : decode cX10_isWord 30 = .ok (.aload_n 0, 1) := by decide +kernel
theorem dX10_isWord_31 : decode cX10_isWord 31 = .ok (.getfield 15, 3) := by decide +kernel
theorem dX10_isWord_34 : decode cX10_isWord 34 = .ok (.iload_n 2, 1) := by decide +kernel
theorem dX10_isWord_35 : decode cX10_isWord 35 = .ok (.iload 4, 2) := by decide +kernel
theorem dX10_isWord_37 : decode cX10_isWord 37 = .ok (.iadd, 1) := by decide +kernel
theorem dX10_isWord_38 : decode cX10_isWord 38 = .ok (.iaload, 1) := by decide +kernel
theorem dX10_isWord_39 : decode cX10_isWord 39 = .ok (.if_icmp .eq 5, 3) := by decide +kernel
theorem dX10_isWord_4 : decode cX10_isWord 4 = .ok (.iload_n 3, 1) := by decide +kernel
theorem dX10_isWord_42 : decode cX10_isWord 42 = .ok (.iconst 0, 1) := by decide +kernel
theorem dX10_isWord_43 : decode cX10_isWord 43 = .ok (.ireturn, 1) := by decide +kernel
theorem dX10_isWord_44 : decode cX10_isWord 44 = .ok (.iinc 4 1, 3) := by decide +kernel
theorem dX10_isWord_47 : decode cX10_isWord 47 = .ok (.goto (-32), 3) := by decide +kernel
theorem dX10_isWord_5 : decode cX10_isWord 5 = .ok (.iload_n 2, 1) := by decide +kernel
theorem dX10_isWord_50 : decode cX10_isWord 50 = .ok (.iconst 1, 1) := by decide +kernel
theorem dX10_isWord_51 : decode cX10_isWord 51 = .ok (.ireturn, 1) := by decide +kernel
theorem dX10_isWord_6 : decode cX10_isWord 6 = .ok (.isub, 1) := by decide +kernel
theorem dX10_isWord_7 : decode cX10_isWord 7 = .ok (.if_icmp .eq 5, 3) := by decide +kernel
set_option maxRecDepth 20000 in
theorem ggX10_isWord_J0_charAt_5068e : GoodIn wsX10_isWord wsJ0_charAt_5068e := goodIn_r _ [17, 7, 18, 19, 20, 5, 21, 12, 13, 22, 23, 24, 25, 26, 27, 28, 29, 30, 31, 32, 33, 34, 35, 36, 37, 38, 39, 40, 41, 42, 43, 44, 45, 46, 47, 48, 49, 50] rfl (by decide +kernel)
set_option maxRecDepth 20000 in
theorem ggX10_isWord_J0_length_8abf5 : GoodIn wsX10_isWord wsJ0_length_8abf5 := goodIn_r _ [6, 7, 8, 9, 10, 5, 11, 12, 13] rfl (by decide +kernel)
set_option maxRecDepth 20000 in
theorem gX10_isWord_J0_charAt_5068e : GoodIn wsX10_isWord (wsV RX10 82 RJ0 yJ0_charAt_5068e wsJ0_charAt_5068e) := goodIn_app (goodIn_r _ [14, 15, 16, 5] rfl (by decide +kernel)) ggX10_isWord_J0_charAt_5068e
set_option maxRecDepth 20000 in
theorem gX10_isWord_J0_length_8abf5 : GoodIn wsX10_isWord (wsV RX10 76 RJ0 yJ0_length_8abf5 wsJ0_length_8abf5) := goodIn_app (goodIn_r _ [2, 3, 4, 5] rfl (by decide +kernel)) ggX10_isWord_J0_length_8abf5
theorem hv_J0_charAt_5068e : yJ0_charAt_5068e.cls = RJ0 ∧ yJ0_charAt_5068e.cls ≠ "java/lang/invoke/MethodHandle" ∧ yJ0_charAt_5068e.cls ≠ "java/lang/invoke/VarHandle" ∧ (parseMethodDescriptor yJ0_charAt_5068e.desc).map (fun d => d.parameters.length) = some 1 := by decide +kernel
theorem hv_J0_length_8abf5 : yJ0_length_8abf5.cls = RJ0 ∧ yJ0_length_8abf5.cls ≠ "java/lang/invoke/MethodHandle" ∧ yJ0_length_8abf5.cls ≠ "java/lang/invoke/VarHandle" ∧ (parseMethodDescriptor yJ0_length_8abf5.desc).map (fun d => d.parameters.length) = some 0 := by decide +kernel
set_option maxRecDepth 20000 in
theorem in_X10_isWord_X10 : ∀ w ∈ wsX100, w ∈ wsX10_isWord := sub_r [51, 52, 53, 54, 55, 56, 57] rfl
set_option maxHeartbeats 4000000 in
set_option maxRecDepth 100000 in
theorem c_X10_isWord (l : Launch) (D : va_G) (T : Nat → ClassId) (ad sa av : Nat → Nat) (ta : Nat) (h0 : Nat) (fs0 : List Value) (h1 : Nat) (f1 : Nat → Int32) (i : Nat) (x2 : Int32) (x3 : Int32) (e0_1 : fs0[1]? = some (.ref h1)) (hi9 : i < 13) (hx : 0 ≤ x2.toInt ∧ x2.toInt ≤ x3.toInt ∧ x3.toInt ≤ 120) : Met l yX10_isWord wsX10_isWord ({ frames := 4, cells := 0, slots := 0, locals := 85 }) (pRk [.ref h0, .ref (sa i), .int x2, .int x3] D T [(h0, .inr (7, fs0)), (h1, .inl (T 0, 120, .inl f1))] ad sa av ta) (vp_Si (fun r => (r = 0 ∨ r = 1) ∧ (r.toInt = 0 → ¬ wordK f1 x2.toNatClampNeg x3.toNatClampNeg i) ∧ (¬ r.toInt = 0 → wordK f1 x2.toNatClampNeg x3.toNatClampNeg i))) 0 0 (fun _ => False) := by
  refine Met.ofW (cc := cX10_isWord) (maxL := 5) (ret := (some .boolean)) (by decide +kernel) rfl ?_
  intro p e s m args below meth c s₁ B hml hv
  obtain ⟨rfl, hP, hE, hV⟩ := hv
  have hS : va_S (fun _ => False) s.heap s.heap [] := va_S.rf
  have hx := B.exec
  have hb := B.bytes
  have hr := B.returns
  have hts := atoms_spec (ws := wsX10_isWord) B.pre
  have hown : s.vm.findClass RX10 = some m.cls := findClass_of_methodNamed B.named
  have hlocks := B.notSynchronized
  have hP : va_P D vwCl [(h0, .inr (7, fs0)), (h1, .inl (T 0, 120, .inl f1))] s.heap := hP
  have hl := lv_entry ([.ref h0, .ref (sa i), .int x2, .int x3]) (n := 5) (Nat.le_of_ble_eq_true rfl)
  rw [lg_entry_eq]
  generalize (lg_sl ([.ref h0, .ref (sa i), .int x2, .int x3]) ++ List.replicate (5 - (lg_sl ([.ref h0, .ref (sa i), .int x2, .int x3])).length) Slot.unset).toArray = ls at hl ⊢
  have hl : lv_has ls 5 [(0, .ref h0), (1, .ref (sa i)), (2, .int x2), (3, .int x3)] := hl
  have hL := nI_toInt (ks_lt i hi9)
  have hsb : (x3 - x2).toInt = x3.toInt - x2.toInt := fb_subI (by omega) (by omega)
  refine lv_aload_n hx hb dX10_isWord_0 rfl (lv_at hl 1 rfl) ?_
  refine vp_callSi (W.runV (As := []) (rest := []) ⟨hx, hb, hml, hown, hts⟩ (c_J0_length_8abf5 l D T ad sa av ta i hi9) (cwV 0 hts gX10_isWord_J0_length_8abf5 rfl rfl rfl hv_J0_length_8abf5 ⟨Nat.le_of_ble_eq_true rfl, Nat.le_of_ble_eq_true rfl⟩) (pRk_VS (i := i) hi9 hP hE hV hS [] rfl) rfl rfl hl.1 rfl (lv_room (Nat.le_of_ble_eq_true rfl)) dX10_isWord_1 ⟨Nat.le_of_ble_eq_true rfl, Nat.le_of_ble_eq_true rfl⟩) (fun r_1 hr_1 => ?_)
  obtain rfl : (nI (ksL.getD i 0)) = r_1 := (hr_1).symm
  refine lv_iload_n hx hb dX10_isWord_4 rfl (lv_at hl 3 rfl) ?_
  refine lv_iload_n hx hb dX10_isWord_5 rfl (lv_at hl 2 rfl) ?_
  refine lv_isub hx hb dX10_isWord_6 ?_
  refine lv_icmp_eq (tgt := 12) hx hb dX10_isWord_7 (by decide +kernel) (fun c_2 => ?_) (fun c_2 => ?_)
  · rw [fa_eq] at c_2
    refine lv_iconst (v := 0) hx hb dX10_isWord_12 (by decide +kernel) ?_
    refine lv_istore (lv' := [(4, .int 0), (0, .ref h0), (1, .ref (sa i)), (2, .int x2), (3, .int x3)]) hx hb dX10_isWord_13 hl (by decide +kernel) rfl (fun ls hl => ?_)
    refine loopR (σ := (Int32)) (fun x9 ls => lv_has ls 5 [(4, .int x9), (0, .ref h0), (1, .ref (sa i)), (2, .int x2), (3, .int x3)] ∧ ((0 ≤ x9.toInt ∧ x9.toInt ≤ (ksL.getD i 0 : Nat)) ∧ ∀ j : Nat, j < x9.toNatClampNeg → f1 (x2.toNatClampNeg + j) = (ksB.getD i []).getD j 0)) (fun x9 => (120 - x9.toInt).toNat) (fun x9 ls hI ih => ?_) 0 ls ⟨lv_sub hl [0, 1, 2, 3, 4] rfl, ⟨(by (try dsimp only); rw [ti_0]; omega), (by (try dsimp only); rw [tn0']; intro j h9; exact absurd h9 (Nat.not_lt_zero j))⟩⟩
    obtain ⟨ii, rfl⟩ : ∃ z, z = x9 := ⟨_, rfl⟩
    obtain ⟨hl, hinv⟩ := hI
    have hl : lv_has ls 5 [(4, .int ii), (0, .ref h0), (1, .ref (sa i)), (2, .int x2), (3, .int x3)] := hl
    have hinv : (0 ≤ ii.toInt ∧ ii.toInt ≤ (ksL.getD i 0 : Nat)) ∧ ∀ j : Nat, j < ii.toNatClampNeg → f1 (x2.toNatClampNeg + j) = (ksB.getD i []).getD j 0 := hinv
    obtain ⟨hinv, hal⟩ := hinv
    refine lv_iload hx hb dX10_isWord_15 (lv_at hl 0 rfl) ?_
    refine lv_aload_n hx hb dX10_isWord_17 rfl (lv_at hl 2 rfl) ?_
    refine vp_callSi (W.runV (As := []) (rest := [.int ii]) ⟨hx, hb, hml, hown, hts⟩ (c_J0_length_8abf5 l D T ad sa av ta i hi9) (cwV 0 hts gX10_isWord_J0_length_8abf5 rfl rfl rfl hv_J0_length_8abf5 ⟨Nat.le_of_ble_eq_true rfl, Nat.le_of_ble_eq_true rfl⟩) (pRk_VS (i := i) hi9 hP hE hV hS [] rfl) rfl rfl hl.1 rfl (lv_room (Nat.le_of_ble_eq_true rfl)) dX10_isWord_18 ⟨Nat.le_of_ble_eq_true rfl, Nat.le_of_ble_eq_true rfl⟩) (fun r_3 hr_3 => ?_)
    obtain rfl : (nI (ksL.getD i 0)) = r_3 := (hr_3).symm
    refine lv_icmp_ge (tgt := 50) hx hb dX10_isWord_21 (by decide +kernel) (fun c_4 => ?_) (fun c_4 => ?_)
    · rw [fa_le] at c_4
      refine lv_iconst (v := 1) hx hb dX10_isWord_50 (by decide +kernel) ?_
      exact W.zret hx hb hr rfl (fun t ht hW => ⟨_, rfl, ⟨Or.inr rfl, (fun h9 => absurd h9 (by decide +kernel)), (fun _ => ⟨hi9, (by have h8 := tn (x := x2) (by omega); have h7 := tn (x := x3) (by omega); omega), (fun j hj => hal j (by have h8 := tn (x := ii) (by omega); omega))⟩)⟩, ht⟩) (fun _ h => by cases h) dX10_isWord_51
    · rw [fa_le] at c_4
      refine lv_aload_n hx hb dX10_isWord_24 rfl (lv_at hl 2 rfl) ?_
      refine lv_iload hx hb dX10_isWord_25 (lv_at hl 0 rfl) ?_
      refine vp_callSi (W.runV (As := [.int ii]) (rest := []) ⟨hx, hb, hml, hown, hts⟩ (c_J0_charAt_5068e l D T ad sa av ta i ii hi9 (by omega)) (cwV 1 hts gX10_isWord_J0_charAt_5068e rfl rfl rfl hv_J0_charAt_5068e ⟨Nat.le_of_ble_eq_true rfl, Nat.le_of_ble_eq_true rfl⟩) (pRk_VS (i := i) hi9 hP hE hV hS [] rfl) rfl rfl hl.1 rfl (lv_room (Nat.le_of_ble_eq_true rfl)) dX10_isWord_27 ⟨Nat.le_of_ble_eq_true rfl, Nat.le_of_ble_eq_true rfl⟩) (fun r_5 hr_5 => ?_)
      obtain rfl : ((ksB.getD i []).getD (ii.toNatClampNeg) 0) = r_5 := (hr_5).symm
      refine lv_aload_n hx hb dX10_isWord_30 rfl (lv_at hl 1 rfl) ?_
      refine va_get (D := D) (ci := 7) (v := .ref h1) (C := RX10) (T := TX10) (N := 7) hx hb hts in_X10_isWord_X10 hown hE.1 hP 0 rfl rfl 1 (by decide +kernel) (hts (.fieldLink RX10 15 "ClauseBook$Tape" "bytes" "[I") (List.mem_of_getElem? (i := 1) rfl)) (fun _ h9 => h9) e0_1 dX10_isWord_31 ?_
      refine lv_iload_n hx hb dX10_isWord_34 rfl (lv_at hl 3 rfl) ?_
      refine lv_iload hx hb dX10_isWord_35 (lv_at hl 0 rfl) ?_
      refine lv_iadd hx hb dX10_isWord_37 ?_
      refine va_iald hx hb hE.1 hP 1 0 rfl rfl (by rw [vp_in_iff, fb_addI (by omega) (by omega)]; omega) dX10_isWord_38 ?_
      refine lv_topi (fun z_6 ez_6 => ?_)
      refine lv_icmp_eq (tgt := 44) hx hb dX10_isWord_39 (by decide +kernel) (fun c_7 => ?_) (fun c_7 => ?_)
      · rw [fa_eq] at c_7
        have hce : (ksB.getD i []).getD (ii.toNatClampNeg) 0 = z_6 := Int32.toInt_inj.1 (by omega)
        obtain ⟨z_8, ez_8⟩ : ∃ y : Int32, y = ii + 1 := ⟨_, rfl⟩
        refine lv_iinc (v := z_8) (lv' := [(4, .int z_8), (0, .ref h0), (1, .ref (sa i)), (2, .int x2), (3, .int x3)]) hx hb dX10_isWord_44 hl (k := 0) rfl (by rw [ez_8]; rfl) (by decide +kernel) rfl (fun ls hl => ?_)
        have hi9 : z_8.toInt = ii.toInt + 1 := by rw [ez_8]; exact inc1 (n := 1000) (by omega) (by decide +kernel)
        refine lv_goto (tgt := 15) hx hb dX10_isWord_47 (by decide +kernel) ?_
        exact ih z_8 ls ⟨lv_sub hl [0, 1, 2, 3, 4] rfl, ⟨(by (try dsimp only); omega), (by (try dsimp only); exact iw_step (by omega) (by omega) hi9 hal ez_6 hce)⟩⟩ (by (try dsimp only); omega)
      · rw [fa_eq] at c_7
        refine lv_iconst (v := 0) hx hb dX10_isWord_42 (by decide +kernel) ?_
        exact W.zret hx hb hr rfl (fun t ht hW => ⟨_, rfl, ⟨Or.inl rfl, (fun _ => iw_no (by omega) (by omega) (by omega) ez_6 (by omega)), (fun h9 => absurd (by decide +kernel) h9)⟩, ht⟩) (fun _ h => by cases h) dX10_isWord_43
  · rw [fa_eq] at c_2
    refine lv_iconst (v := 0) hx hb dX10_isWord_10 (by decide +kernel) ?_
    exact W.zret hx hb hr rfl (fun t ht hW => ⟨_, rfl, ⟨Or.inl rfl, (fun _ => iw_len (by omega) (by omega) (by omega)), (fun h9 => absurd (by decide +kernel) h9)⟩, ht⟩) (fun _ h => by cases h) dX10_isWord_11
theorem ka_step {P : Nat → Prop} {i i' : Int32} (h0 : 0 ≤ i.toInt) (hi : i'.toInt = i.toInt + 1) (h : ∀ j : Nat, j < i.toNatClampNeg → ¬ P j) (hp : ¬ P i.toNatClampNeg) : ∀ j : Nat, j < i'.toNatClampNeg → ¬ P j := by
  intro j hj
  have e := tn1 h0 hi
  by_cases hji : j = i.toNatClampNeg
  · rw [hji]; exact hp
  · exact h j (by omega)
theorem ka_all {f : Nat → Int32} {a b : Nat} {i : Int32} (h0 : 13 ≤ i.toInt) (h : ∀ j : Nat, j < i.toNatClampNeg → ¬ wordK f a b j) : ∀ k : Nat, ¬ wordK f a b k := by
  intro k g
  have t := tn (x := i) (by omega)
  have h2 := g.1
  exact h k (by omega) g
theorem dX10_kindAt_0 : decode cX10_kindAt 0 = .ok (.iconst 0, 1) := by decide +kernel
theorem dX10_kindAt_1 : decode cX10_kindAt 1 = .ok (.istore_n 3, 1) := by decide +kernel
theorem dX10_kindAt_10 : decode cX10_kindAt 10 = .ok (.aload_n 0, 1) := by decide +kernel
theorem dX10_kindAt_11 : decode cX10_kindAt 11 = .ok (.getstatic 34, 3) := by decide +kernel
theorem dX10_kindAt_14 : decode cX10_kindAt 14 = .ok (.iload_n 3, 1) := by decide +kernel
theorem dX10_kindAt_15 : decode cX10_kindAt 15 = .ok (.aaload, 1) := by decide +kernel
theorem dX10_kindAt_16 : decode cX10_kindAt 16 = .ok (.getfield 68, 3) := by decide +kernel
theorem dX10_kindAt_19 : decode cX10_kindAt 19 = .ok (.iload_n 1, 1) := by decide +kernel
theorem dX10_kindAt_2 : decode cX10_kindAt 2 = .ok (.iload_n 3, 1) := by decide +kernel
theorem dX10_kindAt_20 : decode cX10_kindAt 20 = .ok (.iload_n 2, 1) := by decide +kernel
theorem dX10_kindAt_21 : decode cX10_kindAt 21 = .ok (.invokevirtual 72, 3) := by decide +kernel
theorem dX10_kindAt_24 : decode cX10_kindAt 24 = .ok (.ifCond .eq 5, 3) := by decide +kernel
theorem dX10_kindAt_27 : decode cX10_kindAt 27 = .ok (.iload_n 3, 1) := by decide +kernel
theorem dX10_kindAt_28 : decode cX10_kindAt 28 = .ok (.ireturn, 1) := by decide +kernel
theorem dX10_kindAt_29 : decode cX10_kindAt 29 = .ok (.iinc 3 1, 3) := by decide +kernel
theorem dX10_kindAt_3 : decode cX10_kindAt 3 = .ok (.getstatic 34, 3) := by decide +kernel
theorem dX10_kindAt_32 : decode cX10_kindAt 32 = .ok (.goto (-30), 3) := by decide +kernel
theorem dX10_kindAt_35 : decode cX10_kindAt 35 = .ok (.iconst (-1), 1) := by decide +kernel
theorem dX10_kindAt_36 : decode cX10_kindAt 36 = .ok (.ireturn, 1) := by decide +kernel
theorem dX10_kindAt_6 : decode cX10_kindAt 6 = .ok (.arraylength, 1) := by decide +kernel
theorem dX10_kindAt_7 : decode cX10_kindAt 7 = .ok (.if_icmp .ge 28, 3) := by decide +kernel
set_option maxRecDepth 20000 in
theorem ggX10_kindAt_X10_isWord : GoodIn wsX10_kindAt wsX10_isWord := goodIn_r _ [6, 7, 8, 9, 10, 11, 12, 13, 14, 15, 16, 17, 18, 19, 20, 21, 22, 23, 24, 25, 26, 27, 28, 29, 30, 31, 32, 33, 34, 35, 36, 37, 38, 39, 40, 41, 42, 43, 44, 45, 46, 47, 48, 49, 50, 51, 52, 53, 54, 55, 56, 57, 58, 59, 60, 61, 62, 63] rfl (by decide +kernel)
set_option maxRecDepth 20000 in
theorem gX10_kindAt_X10_isWord : GoodIn wsX10_kindAt (wsV RX10 72 RX10 yX10_isWord wsX10_isWord) := goodIn_app (goodIn_r _ [2, 3, 4, 5] rfl (by decide +kernel)) ggX10_kindAt_X10_isWord
theorem hv_X10_isWord : yX10_isWord.cls = RX10 ∧ yX10_isWord.cls ≠ "java/lang/invoke/MethodHandle" ∧ yX10_isWord.cls ≠ "java/lang/invoke/VarHandle" ∧ (parseMethodDescriptor yX10_isWord.desc).map (fun d => d.parameters.length) = some 3 := by decide +kernel
set_option maxHeartbeats 4000000 in
set_option maxRecDepth 100000 in
theorem c_X10_kindAt (l : Launch) (D : va_G) (T : Nat → ClassId) (ad sa av : Nat → Nat) (ta : Nat) (h0 : Nat) (fs0 : List Value) (h1 : Nat) (f1 : Nat → Int32) (x1 : Int32) (x2 : Int32) (e0_1 : fs0[1]? = some (.ref h1)) (hx : 0 ≤ x1.toInt ∧ x1.toInt ≤ x2.toInt ∧ x2.toInt ≤ 120) : Met l yX10_kindAt wsX10_kindAt ({ frames := 5, cells := 0, slots := 0, locals := 109 }) (pRk [.ref h0, .int x1, .int x2] D T [(h0, .inr (7, fs0)), (h1, .inl (T 0, 120, .inl f1))] ad sa av ta) (vp_Si (fun r => (r.toInt = -1 ∧ ∀ k : Nat, ¬ wordK f1 x1.toNatClampNeg x2.toNatClampNeg k) ∨ ((0 ≤ r.toInt ∧ r.toInt ≤ 12) ∧ wordK f1 x1.toNatClampNeg x2.toNatClampNeg r.toNatClampNeg))) 0 0 (fun _ => False) := by
  refine Met.ofW (cc := cX10_kindAt) (maxL := 4) (ret := (some .int)) (by decide +kernel) rfl ?_
  intro p e s m args below meth c s₁ B hml hv
  obtain ⟨rfl, hP, hE, hV⟩ := hv
  have hS : va_S (fun _ => False) s.heap s.heap [] := va_S.rf
  have hx := B.exec
  have hb := B.bytes
  have hr := B.returns
  have hts := atoms_spec (ws := wsX10_kindAt) B.pre
  have hown : s.vm.findClass RX10 = some m.cls := findClass_of_methodNamed B.named
  have hlocks := B.notSynchronized
  have hP : va_P D vwCl [(h0, .inr (7, fs0)), (h1, .inl (T 0, 120, .inl f1))] s.heap := hP
  have hl := lv_entry ([.ref h0, .int x1, .int x2]) (n := 4) (Nat.le_of_ble_eq_true rfl)
  rw [lg_entry_eq]
  generalize (lg_sl ([.ref h0, .int x1, .int x2]) ++ List.replicate (4 - (lg_sl ([.ref h0, .int x1, .int x2])).length) Slot.unset).toArray = ls at hl ⊢
  have hl : lv_has ls 4 [(0, .ref h0), (1, .int x1), (2, .int x2)] := hl
  refine lv_iconst (v := 0) hx hb dX10_kindAt_0 (by decide +kernel) ?_
  refine lv_istore_n (lv' := [(3, .int 0), (0, .ref h0), (1, .int x1), (2, .int x2)]) hx hb dX10_kindAt_1 rfl hl (by decide +kernel) rfl (fun ls hl => ?_)
  refine loopR (σ := (Int32)) (fun x9 ls => lv_has ls 4 [(3, .int x9), (0, .ref h0), (1, .int x1), (2, .int x2)] ∧ ((0 ≤ x9.toInt ∧ x9.toInt ≤ 13) ∧ ∀ j : Nat, j < x9.toNatClampNeg → ¬ wordK f1 x1.toNatClampNeg x2.toNatClampNeg j)) (fun x9 => (13 - x9.toInt).toNat) (fun x9 ls hI ih => ?_) 0 ls ⟨lv_sub hl [0, 1, 2, 3] rfl, ⟨(by (try dsimp only); decide), (by (try dsimp only); rw [tn0']; intro j h9; exact absurd h9 (Nat.not_lt_zero j))⟩⟩
  obtain ⟨kk, rfl⟩ : ∃ z, z = x9 := ⟨_, rfl⟩
  obtain ⟨hl, hinv⟩ := hI
  have hl : lv_has ls 4 [(3, .int kk), (0, .ref h0), (1, .int x1), (2, .int x2)] := hl
  have hinv : (0 ≤ kk.toInt ∧ kk.toInt ≤ 13) ∧ ∀ j : Nat, j < kk.toNatClampNeg → ¬ wordK f1 x1.toNatClampNeg x2.toNatClampNeg j := hinv
  obtain ⟨hinv, hal⟩ := hinv
  refine lv_iload_n hx hb dX10_kindAt_2 rfl (lv_at hl 0 rfl) ?_
  refine va_getsN (v := .ref ta) hx hb hV.1.2.1 hS hown (va_Nw.use rfl (hE.2.2.1 (RX10, 34) (List.mem_of_getElem? (i := 2) rfl))) (fun _ h9 => h9) dX10_kindAt_3 ?_
  refine va_tlen (v := 13) hx hb hV.1.2.2 hS rfl dX10_kindAt_6 ?_
  refine lv_icmp_ge (tgt := 35) hx hb dX10_kindAt_7 (by decide +kernel) (fun c_1 => ?_) (fun c_1 => ?_)
  · rw [fa_le] at c_1
    try rw [ti_13] at c_1
    refine lv_iconst (v := (-1)) hx hb dX10_kindAt_35 (by decide +kernel) ?_
    exact W.iret hx hb hr (fun t ht hW => ⟨_, rfl, (Or.inl ⟨by decide, ka_all (by omega) hal⟩), ht⟩) (fun _ h => by cases h) dX10_kindAt_36
  · rw [fa_le] at c_1
    try rw [ti_13] at c_1
    refine lv_aload_n hx hb dX10_kindAt_10 rfl (lv_at hl 1 rfl) ?_
    refine va_getsN (v := .ref ta) hx hb hV.1.2.1 hS hown (va_Nw.use rfl (hE.2.2.1 (RX10, 34) (List.mem_of_getElem? (i := 2) rfl))) (fun _ h9 => h9) dX10_kindAt_11 ?_
    refine lv_iload_n hx hb dX10_kindAt_14 rfl (lv_at hl 0 rfl) ?_
    refine vb_tq (v := .ref (ad (kk.toNatClampNeg))) hx hb hV.1.2.2 hS (by rw [vp_in_iff]; omega) rfl dX10_kindAt_15 ?_
    refine vk_getf (v := .ref (sa (kk.toNatClampNeg))) hx hb (hV.2.2.2.1 (kk.toNatClampNeg) (in13c (by omega))) hS hown (hts (.fieldLink RX10 68 "ClauseBook$Kind" "word" "Ljava/lang/String;") (List.mem_of_getElem? (i := 1) rfl)) (fun _ h9 => h9) dX10_kindAt_16 ?_
    refine lv_iload_n hx hb dX10_kindAt_19 rfl (lv_at hl 2 rfl) ?_
    refine lv_iload_n hx hb dX10_kindAt_20 rfl (lv_at hl 3 rfl) ?_
    refine vp_callSi (W.runV (As := [.ref (sa (kk.toNatClampNeg)), .int x1, .int x2]) (rest := []) ⟨hx, hb, hml, hown, hts⟩ (c_X10_isWord l D T ad sa av ta h0 fs0 h1 f1 (kk.toNatClampNeg) x1 x2 e0_1 (in13c (by omega)) (by omega)) (cwV 3 hts gX10_kindAt_X10_isWord rfl rfl rfl hv_X10_isWord ⟨Nat.le_of_ble_eq_true rfl, Nat.le_of_ble_eq_true rfl⟩) (pRk_V (q := (RX10, TX10, 7)) (ci := 7) (q0 := 0) hP hE hV hS rfl rfl [0, 1] rfl) rfl rfl hl.1 rfl (lv_room (Nat.le_of_ble_eq_true rfl)) dX10_kindAt_21 ⟨Nat.le_of_ble_eq_true rfl, Nat.le_of_ble_eq_true rfl⟩) (fun r_2 hr_2 => ?_)
    refine lv_if_eq (tgt := 29) hx hb dX10_kindAt_24 (by decide +kernel) (fun c_3 => ?_) (fun c_3 => ?_)
    · rw [fa_eq] at c_3
      try rw [ti_0] at c_3
      obtain ⟨z_4, ez_4⟩ : ∃ y : Int32, y = kk + 1 := ⟨_, rfl⟩
      refine lv_iinc (v := z_4) (lv' := [(3, .int z_4), (0, .ref h0), (1, .int x1), (2, .int x2)]) hx hb dX10_kindAt_29 hl (k := 0) rfl (by rw [ez_4]; rfl) (by decide +kernel) rfl (fun ls hl => ?_)
      have hi9 : z_4.toInt = kk.toInt + 1 := by rw [ez_4]; exact inc1 (n := 1000) (by omega) (by decide +kernel)
      refine lv_goto (tgt := 2) hx hb dX10_kindAt_32 (by decide +kernel) ?_
      exact ih z_4 ls ⟨lv_sub hl [0, 1, 2, 3] rfl, ⟨(by (try dsimp only); omega), (by (try dsimp only); exact ka_step (by omega) hi9 hal (hr_2.2.1 (by omega)))⟩⟩ (by (try dsimp only); omega)
    · rw [fa_eq] at c_3
      try rw [ti_0] at c_3
      refine lv_iload_n hx hb dX10_kindAt_27 rfl (lv_at hl 0 rfl) ?_
      exact W.iret hx hb hr (fun t ht hW => ⟨_, rfl, (Or.inr ⟨by omega, hr_2.2.2 (by omega)⟩), ht⟩) (fun _ h => by cases h) dX10_kindAt_28
theorem lm_eq {K : Nat} (h : (msT K).toInt ≤ (lsT K).toInt) : lsT K = msT K := by
  have h1 := ls_in K
  exact Int32.toInt_inj.1 (by omega)
theorem dX7_numbered_0 : decode cX7_numbered 0 = .ok (.aload_n 0, 1) := by decide +kernel
theorem dX7_numbered_1 : decode cX7_numbered 1 = .ok (.getfield 73, 3) := by decide +kernel
theorem dX7_numbered_11 : decode cX7_numbered 11 = .ok (.iconst 1, 1) := by decide +kernel
theorem dX7_numbered_12 : decode cX7_numbered 12 = .ok (.goto 4, 3) := by decide +kernel
theorem dX7_numbered_15 : decode cX7_numbered 15 = .ok (.iconst 0, 1) := by decide +kernel
theorem dX7_numbered_16 : decode cX7_numbered 16 = .ok (.ireturn, 1) := by decide +kernel
theorem dX7_numbered_4 : decode cX7_numbered 4 = .ok (.aload_n 0, 1) := by decide +kernel
theorem dX7_numbered_5 : decode cX7_numbered 5 = .ok (.getfield 76, 3) := by decide +kernel
theorem dX7_numbered_8 : decode cX7_numbered 8 = .ok (.if_icmp .ge 7, 3) := by decide +kernel
set_option maxHeartbeats 4000000 in
set_option maxRecDepth 100000 in
theorem c_X7_numbered (l : Launch) (D : va_G) (T : Nat → ClassId) (ad sa av : Nat → Nat) (ta : Nat) (K : Nat) (hi9 : K < 13) : Met l yX7_numbered wsX7_numbered ({ frames := 0, cells := 0, slots := 0, locals := 0 }) (pRk [.ref (ad K)] D T [] ad sa av ta) (vp_Si (fun r => (r = 0 ∧ lsT K = msT K) ∨ (r = 1 ∧ lsT K ≠ msT K))) 0 0 (fun _ => False) := by
  refine Met.ofW (cc := cX7_numbered) (maxL := 1) (ret := (some .boolean)) (by decide +kernel) rfl ?_
  intro p e s m args below meth c s₁ B hml hv
  obtain ⟨rfl, hP, hE, hV⟩ := hv
  have hS : va_S (fun _ => False) s.heap s.heap [] := va_S.rf
  have hx := B.exec
  have hb := B.bytes
  have hr := B.returns
  have hts := atoms_spec (ws := wsX7_numbered) B.pre
  have hown : s.vm.findClass RX7 = some m.cls := findClass_of_methodNamed B.named
  have hlocks := B.notSynchronized
  have hP : va_P D vwCl [] s.heap := hP
  have hl := lv_entry ([.ref (ad K)]) (n := 1) (Nat.le_of_ble_eq_true rfl)
  rw [lg_entry_eq]
  generalize (lg_sl ([.ref (ad K)]) ++ List.replicate (1 - (lg_sl ([.ref (ad K)])).length) Slot.unset).toArray = ls at hl ⊢
  have hl : lv_has ls 1 [(0, .ref (ad K))] := hl
  refine lv_aload_n hx hb dX7_numbered_0 rfl (lv_at hl 0 rfl) ?_
  refine va_getE (i := K) hx hb hV.1.1 hi9 hS hown (q := kdQ "least" [0, 0, 0, -9, 0, 0, 0, 0, 0, 0, 0, 0, -99]) (List.mem_of_getElem? (i := 1) rfl) (hts (.fieldLink RX7 73 "ClauseBook$Kind" "least" "I") (List.mem_of_getElem? (i := 1) rfl)) (fun _ h9 => h9) dX7_numbered_1 ?_
  refine W.eq (g2 := F0 m 4 ls [.int (lsT K)]) rfl ?_
  refine lv_aload_n hx hb dX7_numbered_4 rfl (lv_at hl 0 rfl) ?_
  refine va_getE (i := K) hx hb hV.1.1 hi9 hS hown (q := kdQ "most" [0, 0, 0, 9, 0, 0, 0, 0, 6, 0, 0, 0, 99]) (List.mem_of_getElem? (i := 2) rfl) (hts (.fieldLink RX7 76 "ClauseBook$Kind" "most" "I") (List.mem_of_getElem? (i := 2) rfl)) (fun _ h9 => h9) dX7_numbered_5 ?_
  refine W.eq (g2 := F0 m 8 ls [.int (msT K), .int (lsT K)]) rfl ?_
  refine lv_icmp_ge (tgt := 15) hx hb dX7_numbered_8 (by decide +kernel) (fun c_1 => ?_) (fun c_1 => ?_)
  · rw [fa_le] at c_1
    refine lv_iconst (v := 0) hx hb dX7_numbered_15 (by decide +kernel) ?_
    exact W.zret hx hb hr rfl (fun t ht hW => ⟨_, rfl, (Or.inl ⟨rfl, lm_eq (by omega)⟩), ht⟩) (fun _ h => by cases h) dX7_numbered_16
  · rw [fa_le] at c_1
    refine lv_iconst (v := 1) hx hb dX7_numbered_11 (by decide +kernel) ?_
    refine lv_goto (tgt := 16) hx hb dX7_numbered_12 (by decide +kernel) ?_
    exact W.zret hx hb hr rfl (fun t ht hW => ⟨_, rfl, (Or.inr ⟨rfl, (fun h9 => by have h8 : (lsT K).toInt = (msT K).toInt := (by rw [h9]); omega)⟩), ht⟩) (fun _ h => by cases h) dX7_numbered_16
theorem dX10_numberEnd_0 : decode cX10_numberEnd 0 = .ok (.aload_n 0, 1) := by decide +kernel
theorem dX10_numberEnd_1 : decode cX10_numberEnd 1 = .ok (.getfield 15, 3) := by decide +kernel
theorem dX10_numberEnd_100 : decode cX10_numberEnd 100 = .ok (.aload_n 0, 1) := by decide +kernel
theorem dX10_numberEnd_101 : decode cX10_numberEnd 101 = .ok (.getfield 31, 3) := by decide +kernel
theorem dX10_numberEnd_104 : decode cX10_numberEnd 104 = .ok (.sipush 1000, 3) := by decide +kernel
theorem dX10_numberEnd_107 : decode cX10_numberEnd 107 = .ok (.if_icmp .eq 12, 3) := by decide +kernel
theorem dX10_numberEnd_11 : decode cX10_numberEnd 11 = .ok (.iload_n 1, 1) := by decide +kernel
theorem dX10_numberEnd_110 : decode cX10_numberEnd 110 = .ok (.aload_n 0, 1) := by decide +kernel
theorem dX10_numberEnd_111 : decode cX10_numberEnd 111 = .ok (.aload_n 0, 1) := by decide +kernel
theorem dX10_numberEnd_112 : decode cX10_numberEnd 112 = .ok (.getfield 31, 3) := by decide +kernel
theorem dX10_numberEnd_115 : decode cX10_numberEnd 115 = .ok (.ineg, 1) := by decide +kernel
theorem dX10_numberEnd_116 : decode cX10_numberEnd 116 = .ok (.putfield 31, 3) := by decide +kernel
theorem dX10_numberEnd_119 : decode cX10_numberEnd 119 = .ok (.iload_n 3, 1) := by decide +kernel
theorem dX10_numberEnd_12 : decode cX10_numberEnd 12 = .ok (.iconst 1, 1) := by decide +kernel
theorem dX10_numberEnd_120 : decode cX10_numberEnd 120 = .ok (.ireturn, 1) := by decide +kernel
theorem dX10_numberEnd_13 : decode cX10_numberEnd 13 = .ok (.iadd, 1) := by decide +kernel
theorem dX10_numberEnd_14 : decode cX10_numberEnd 14 = .ok (.goto 4, 3) := by decide +kernel
theorem dX10_numberEnd_17 : decode cX10_numberEnd 17 = .ok (.iload_n 1, 1) := by decide +kernel
theorem dX10_numberEnd_18 : decode cX10_numberEnd 18 = .ok (.istore_n 2, 1) := by decide +kernel
theorem dX10_numberEnd_19 : decode cX10_numberEnd 19 = .ok (.iload_n 2, 1) := by decide +kernel
theorem dX10_numberEnd_20 : decode cX10_numberEnd 20 = .ok (.istore_n 3, 1) := by decide +kernel
theorem dX10_numberEnd_21 : decode cX10_numberEnd 21 = .ok (.aload_n 0, 1) := by decide +kernel
theorem dX10_numberEnd_22 : decode cX10_numberEnd 22 = .ok (.iconst 0, 1) := by decide +kernel
theorem dX10_numberEnd_23 : decode cX10_numberEnd 23 = .ok (.putfield 31, 3) := by decide +kernel
theorem dX10_numberEnd_26 : decode cX10_numberEnd 26 = .ok (.iload_n 3, 1) := by decide +kernel
theorem dX10_numberEnd_27 : decode cX10_numberEnd 27 = .ok (.aload_n 0, 1) := by decide +kernel
theorem dX10_numberEnd_28 : decode cX10_numberEnd 28 = .ok (.getfield 9, 3) := by decide +kernel
theorem dX10_numberEnd_31 : decode cX10_numberEnd 31 = .ok (.if_icmp .ge 52, 3) := by decide +kernel
theorem dX10_numberEnd_34 : decode cX10_numberEnd 34 = .ok (.aload_n 0, 1) := by decide +kernel
theorem dX10_numberEnd_35 : decode cX10_numberEnd 35 = .ok (.getfield 15, 3) := by decide +kernel
theorem dX10_numberEnd_38 : decode cX10_numberEnd 38 = .ok (.iload_n 3, 1) := by decide +kernel
theorem dX10_numberEnd_39 : decode cX10_numberEnd 39 = .ok (.iaload, 1) := by decide +kernel
theorem dX10_numberEnd_4 : decode cX10_numberEnd 4 = .ok (.iload_n 1, 1) := by decide +kernel
theorem dX10_numberEnd_40 : decode cX10_numberEnd 40 = .ok (.bipush 48, 2) := by decide +kernel
theorem dX10_numberEnd_42 : decode cX10_numberEnd 42 = .ok (.bipush 57, 2) := by decide +kernel
theorem dX10_numberEnd_44 : decode cX10_numberEnd 44 = .ok (.invokestatic 50, 3) := by decide +kernel
theorem dX10_numberEnd_47 : decode cX10_numberEnd 47 = .ok (.ifCond .eq 36, 3) := by decide +kernel
theorem dX10_numberEnd_5 : decode cX10_numberEnd 5 = .ok (.iaload, 1) := by decide +kernel
theorem dX10_numberEnd_50 : decode cX10_numberEnd 50 = .ok (.aload_n 0, 1) := by decide +kernel
theorem dX10_numberEnd_51 : decode cX10_numberEnd 51 = .ok (.aload_n 0, 1) := by decide +kernel
theorem dX10_numberEnd_52 : decode cX10_numberEnd 52 = .ok (.getfield 31, 3) := by decide +kernel
theorem dX10_numberEnd_55 : decode cX10_numberEnd 55 = .ok (.bipush 10, 2) := by decide +kernel
theorem dX10_numberEnd_57 : decode cX10_numberEnd 57 = .ok (.imul, 1) := by decide +kernel
theorem dX10_numberEnd_58 : decode cX10_numberEnd 58 = .ok (.aload_n 0, 1) := by decide +kernel
theorem dX10_numberEnd_59 : decode cX10_numberEnd 59 = .ok (.getfield 15, 3) := by decide +kernel
theorem dX10_numberEnd_6 : decode cX10_numberEnd 6 = .ok (.bipush 45, 2) := by decide +kernel
theorem dX10_numberEnd_62 : decode cX10_numberEnd 62 = .ok (.iload_n 3, 1) := by decide +kernel
theorem dX10_numberEnd_63 : decode cX10_numberEnd 63 = .ok (.iaload, 1) := by decide +kernel
theorem dX10_numberEnd_64 : decode cX10_numberEnd 64 = .ok (.iadd, 1) := by decide +kernel
theorem dX10_numberEnd_65 : decode cX10_numberEnd 65 = .ok (.bipush 48, 2) := by decide +kernel
theorem dX10_numberEnd_67 : decode cX10_numberEnd 67 = .ok (.isub, 1) := by decide +kernel
theorem dX10_numberEnd_68 : decode cX10_numberEnd 68 = .ok (.sipush 1000, 3) := by decide +kernel
theorem dX10_numberEnd_71 : decode cX10_numberEnd 71 = .ok (.invokestatic 86, 3) := by decide +kernel
theorem dX10_numberEnd_74 : decode cX10_numberEnd 74 = .ok (.putfield 31, 3) := by decide +kernel
theorem dX10_numberEnd_77 : decode cX10_numberEnd 77 = .ok (.iinc 3 1, 3) := by decide +kernel
theorem dX10_numberEnd_8 : decode cX10_numberEnd 8 = .ok (.if_icmp .ne 9, 3) := by decide +kernel
theorem dX10_numberEnd_80 : decode cX10_numberEnd 80 = .ok (.goto (-54), 3) := by decide +kernel
theorem dX10_numberEnd_83 : decode cX10_numberEnd 83 = .ok (.iload_n 3, 1) := by decide +kernel
theorem dX10_numberEnd_84 : decode cX10_numberEnd 84 = .ok (.iload_n 2, 1) := by decide +kernel
theorem dX10_numberEnd_85 : decode cX10_numberEnd 85 = .ok (.if_icmp .ne 10, 3) := by decide +kernel
theorem dX10_numberEnd_88 : decode cX10_numberEnd 88 = .ok (.aload_n 0, 1) := by decide +kernel
theorem dX10_numberEnd_89 : decode cX10_numberEnd 89 = .ok (.sipush 1000, 3) := by decide +kernel
theorem dX10_numberEnd_92 : decode cX10_numberEnd 92 = .ok (.putfield 31, 3) := by decide +kernel
theorem dX10_numberEnd_95 : decode cX10_numberEnd 95 = .ok (.iload_n 2, 1) := by decide +kernel
theorem dX10_numberEnd_96 : decode cX10_numberEnd 96 = .ok (.iload_n 1, 1) := by decide +kernel
theorem dX10_numberEnd_97 : decode cX10_numberEnd 97 = .ok (.if_icmp .le 22, 3) := by decide +kernel
set_option maxRecDepth 20000 in
theorem ggX10_numberEnd_X12_within : GoodIn wsX10_numberEnd wsX12_within := goodIn_r _ [10] rfl (by decide +kernel)
set_option maxRecDepth 20000 in
theorem gX10_numberEnd_X12_within_n50 : GoodIn wsX10_numberEnd (wsX12_within) := ggX10_numberEnd_X12_within
set_option maxRecDepth 20000 in
theorem in_X10_numberEnd_X10 : ∀ w ∈ wsX100, w ∈ wsX10_numberEnd := sub_r [11, 12, 13, 14, 15, 16, 17] rfl
set_option maxHeartbeats 4000000 in
set_option maxRecDepth 100000 in
theorem c_X10_numberEnd (l : Launch) (D : va_G) (T : Nat → ClassId) (sz : Nat) (h0 : Nat) (yb : Nat) (ki : Nat) (nu : Nat) (n : Int32) (wd : Int32) (nx : Int32) (nb : Int32) (fb : Nat → Int32) (x1 : Int32) (hn : 0 ≤ n.toInt ∧ n.toInt ≤ 120) (hx : 0 ≤ x1.toInt ∧ x1.toInt < n.toInt) : Met l yX10_numberEnd wsX10_numberEnd ({ frames := 1, cells := 0, slots := 0, locals := 40 }) (pW [.ref h0, .int x1] D T [(h0, .inr (7, [.int n, .ref yb, .ref ki, .ref nu, .int wd, .int nx, .int nb])), (yb, .inl (T 0, 120, .inl fb))] sz) (va_Qi (fun (r : Int32) (u : Int32) => (x1.toInt ≤ r.toInt ∧ r.toInt ≤ n.toInt) ∧ numE fb n.toNatClampNeg x1.toNatClampNeg r.toNatClampNeg u) (bW D (va_A [(h0, .inr (7, [.int n, .ref yb, .ref ki, .ref nu, .int wd, .int nx, .int nb])), (yb, .inl (T 0, 120, .inl fb))] sz) (fun (u : Int32) => [(h0, .inr (7, [.int n, .ref yb, .ref ki, .ref nu, .int wd, .int nx, .int u])), (yb, .inl (T 0, 120, .inl fb))])) (va_A [(h0, .inr (7, [.int n, .ref yb, .ref ki, .ref nu, .int wd, .int nx, .int nb])), (yb, .inl (T 0, 120, .inl fb))] sz)) 0 0 (va_A [(h0, .inr (7, [.int n, .ref yb, .ref ki, .ref nu, .int wd, .int nx, .int nb])), (yb, .inl (T 0, 120, .inl fb))] sz) := by
  refine Met.ofW (cc := cX10_numberEnd) (maxL := 4) (ret := (some .int)) (by decide +kernel) rfl ?_
  intro p e s m args below meth c s₁ B hml hv
  obtain ⟨rfl, hsz, hP, hE, hD0⟩ := hv
  have hx := B.exec
  have hb := B.bytes
  have hr := B.returns
  have hts := atoms_spec (ws := wsX10_numberEnd) B.pre
  have hown : s.vm.findClass RX10 = some m.cls := findClass_of_methodNamed B.named
  have hlocks := B.notSynchronized
  subst hsz
  have hD := hD0.self (sz := s.heap.size)
  generalize hAe : va_A [(h0, .inr (7, [.int n, .ref yb, .ref ki, .ref nu, .int wd, .int nx, .int nb])), (yb, .inl (T 0, 120, .inl fb))] s.heap.size = A at hD ⊢
  have hA : ∀ q : Nat, s.heap.size ≤ q → A q := fun q h => by rw [← hAe]; exact Or.inr h
  have hS : va_S A s.heap s.heap [] := va_S.rf
  have hP : va_P D vwCl [(h0, .inr (7, [.int n, .ref yb, .ref ki, .ref nu, .int wd, .int nx, .int nb])), (yb, .inl (T 0, 120, .inl fb))] s.heap := hP
  have hl := lv_entry ([.ref h0, .int x1]) (n := 4) (Nat.le_of_ble_eq_true rfl)
  rw [lg_entry_eq]
  generalize (lg_sl ([.ref h0, .int x1]) ++ List.replicate (4 - (lg_sl ([.ref h0, .int x1])).length) Slot.unset).toArray = ls at hl ⊢
  have hl : lv_has ls 4 [(0, .ref h0), (1, .int x1)] := hl
  clear hD0
  refine lv_aload_n hx hb dX10_numberEnd_0 rfl (lv_at hl 0 rfl) ?_
  refine va_get (D := D) (ci := 7) (v := .ref yb) (C := RX10) (T := TX10) (N := 7) hx hb hts in_X10_numberEnd_X10 hown hE.1 hP 0 rfl rfl 1 (by decide +kernel) (hts (.fieldLink RX10 15 "ClauseBook$Tape" "bytes" "[I") (List.mem_of_getElem? (i := 1) rfl)) (fun _ h9 => h9) rfl dX10_numberEnd_1 ?_
  refine lv_iload_n hx hb dX10_numberEnd_4 rfl (lv_at hl 1 rfl) ?_
  refine va_iald hx hb hE.1 hP 1 0 rfl rfl (by rw [vp_in_iff]; first | omega | (subst_vars; omega)) dX10_numberEnd_5 ?_
  refine lv_topi (fun z_1 ez_1 => ?_)
  refine lv_bipush (v := 45) hx hb dX10_numberEnd_6 (by decide +kernel) ?_
  refine lv_icmp_ne (tgt := 17) hx hb dX10_numberEnd_8 (by decide +kernel) (fun c_2 => ?_) (fun c_2 => ?_)
  · rw [fa_eq] at c_2
    try rw [ti_45] at c_2
    refine lv_iload_n hx hb dX10_numberEnd_17 rfl (lv_at hl 1 rfl) ?_
    have hng : ¬ (fb (x1.toNatClampNeg)).toInt = 45 := by rw [← ez_1]; omega
    have hsg : sgS fb (x1.toNatClampNeg) = x1.toNatClampNeg := by unfold sgS; rw [if_neg hng]
    refine lv_istore_n (lv' := [(2, .int x1), (0, .ref h0), (1, .int x1)]) hx hb dX10_numberEnd_18 rfl hl (by decide +kernel) rfl (fun ls hl => ?_)
    refine lv_iload_n hx hb dX10_numberEnd_19 rfl (lv_at hl 0 rfl) ?_
    refine lv_istore_n (lv' := [(3, .int x1), (2, .int x1), (0, .ref h0), (1, .int x1)]) hx hb dX10_numberEnd_20 rfl hl (by decide +kernel) rfl (fun ls hl => ?_)
    refine lv_aload_n hx hb dX10_numberEnd_21 rfl (lv_at hl 2 rfl) ?_
    refine lv_iconst (v := 0) hx hb dX10_numberEnd_22 (by decide +kernel) ?_
    refine va_put (D := D) (ci := 7) (v := .int 0) (ty := .int) (C := RX10) (T := TX10) (N := 7) hx hb hts in_X10_numberEnd_X10 tyX10 tyX10_ok nmX10 hown hE.1 hP hD hS 0 rfl rfl 6 (by decide +kernel) (hts (.fieldLink RX10 31 "ClauseBook$Tape" "number" "I") (List.mem_of_getElem? (i := 2) rfl)) (fun _ h9 => h9) rfl (by decide +kernel) rfl rfl (Nat.le_of_ble_eq_true rfl) dX10_numberEnd_23 (fun H locs hP hD hS => ?_)
    obtain ⟨hP, hD⟩ := wPD [(h0, .inr (7, [.int n, .ref yb, .ref ki, .ref nu, .int wd, .int nx, .int 0])), (yb, .inl (T 0, 120, .inl fb))] hP hD rfl
    refine loopW (σ := (Int32) × (Int32)) (fun x9 ls H locs => lv_has ls 4 [(3, .int x9.1), (2, .int x1), (0, .ref h0), (1, .int x1)] ∧ va_P D vwCl [(h0, .inr (7, [.int n, .ref yb, .ref ki, .ref nu, .int wd, .int nx, .int x9.2])), (yb, .inl (T 0, 120, .inl fb))] H ∧ va_D A [(h0, .inr (7, [.int n, .ref yb, .ref ki, .ref nu, .int wd, .int nx, .int x9.2])), (yb, .inl (T 0, 120, .inl fb))] ∧ va_S A s.heap H locs ∧ ((x1.toInt ≤ x9.1.toInt ∧ x1.toInt ≤ x9.1.toInt ∧ x9.1.toInt ≤ n.toInt ∧ 0 ≤ x9.2.toInt ∧ x9.2.toInt ≤ 1000) ∧ (∀ j : Nat, x1.toNatClampNeg ≤ j → j < x9.1.toNatClampNeg → isDi fb j) ∧ x9.2.toInt = min (dvl fb x1.toNatClampNeg (x9.1.toNatClampNeg - x1.toNatClampNeg)) 1000)) (fun x9 => (120 - x9.1.toInt).toNat) (fun x9 ls H locs hI ih => ?_) (x1, 0) ls ⟨lv_sub hl [0, 1, 2, 3] rfl, hP.sub [0, 1] rfl, hD.sub [0, 1] (by decide +kernel) rfl, hS, ⟨(by (try dsimp only); (try simp only [ti_0]); omega), (fun j h8 h9 => absurd h9 (by (try dsimp only); omega)), (by (try dsimp only); rw [Nat.sub_self]; show (0 : Int32).toInt = min (0 : Int) 1000; decide)⟩⟩
    obtain ⟨ii, bb⟩ := x9
    obtain ⟨hl, hP, hD, hS, hinv⟩ := hI
    have hl : lv_has ls 4 [(3, .int ii), (2, .int x1), (0, .ref h0), (1, .int x1)] := hl
    have hP : va_P D vwCl [(h0, .inr (7, [.int n, .ref yb, .ref ki, .ref nu, .int wd, .int nx, .int bb])), (yb, .inl (T 0, 120, .inl fb))] H := hP
    have hD : va_D A [(h0, .inr (7, [.int n, .ref yb, .ref ki, .ref nu, .int wd, .int nx, .int bb])), (yb, .inl (T 0, 120, .inl fb))] := hD
    have hinv : (x1.toInt ≤ ii.toInt ∧ x1.toInt ≤ ii.toInt ∧ ii.toInt ≤ n.toInt ∧ 0 ≤ bb.toInt ∧ bb.toInt ≤ 1000) ∧ (∀ j : Nat, x1.toNatClampNeg ≤ j → j < ii.toNatClampNeg → isDi fb j) ∧ bb.toInt = min (dvl fb x1.toNatClampNeg (ii.toNatClampNeg - x1.toNatClampNeg)) 1000 := hinv
    obtain ⟨hinv, hal, hbb⟩ := hinv
    refine lv_iload_n hx hb dX10_numberEnd_26 rfl (lv_at hl 0 rfl) ?_
    refine lv_aload_n hx hb dX10_numberEnd_27 rfl (lv_at hl 2 rfl) ?_
    refine va_get (D := D) (ci := 7) (v := .int n) (C := RX10) (T := TX10) (N := 7) hx hb hts in_X10_numberEnd_X10 hown hE.1 hP 0 rfl rfl 0 (by decide +kernel) (hts (.fieldLink RX10 9 "ClauseBook$Tape" "size" "I") (List.mem_of_getElem? (i := 3) rfl)) (fun _ h9 => h9) rfl dX10_numberEnd_28 ?_
    refine lv_icmp_ge (tgt := 83) hx hb dX10_numberEnd_31 (by decide +kernel) (fun c_3 => ?_) (fun c_3 => ?_)
    · rw [fa_le] at c_3
      refine lv_iload_n hx hb dX10_numberEnd_83 rfl (lv_at hl 0 rfl) ?_
      refine lv_iload_n hx hb dX10_numberEnd_84 rfl (lv_at hl 1 rfl) ?_
      refine lv_icmp_ne (tgt := 95) hx hb dX10_numberEnd_85 (by decide +kernel) (fun c_4 => ?_) (fun c_4 => ?_)
      · rw [fa_eq] at c_4
        refine lv_iload_n hx hb dX10_numberEnd_95 rfl (lv_at hl 1 rfl) ?_
        refine lv_iload_n hx hb dX10_numberEnd_96 rfl (lv_at hl 3 rfl) ?_
        refine lv_icmp_le (tgt := 119) hx hb dX10_numberEnd_97 (by decide +kernel) (fun c_5 => ?_) (fun c_5 => ?_)
        · rw [fa_le] at c_5
          refine lv_iload_n hx hb dX10_numberEnd_119 rfl (lv_at hl 0 rfl) ?_
          exact W.iret hx hb hr (fun t ht hW => ⟨⟨_, bb, rfl, ⟨(by omega), numE_of (b := bb) hsg (rn_end (a := x1) (by omega) (by omega) (by omega) hal (fun h9 => absurd h9 (by omega))) hbb (Or.inr ⟨(by have t1 := tn (x := x1) (by omega); have t2 := tn (x := ii) (by omega); omega), (by first | exact Or.inr (Or.inl ⟨by omega, by omega⟩) | exact Or.inr (Or.inr ⟨hng, rfl⟩))⟩)⟩, by rw [ht]; exact hP.sub [0, 1] rfl, hD.sub [0, 1] (by decide +kernel) rfl⟩, hS.F ht⟩) hS.2.2 dX10_numberEnd_120
        · rw [fa_le] at c_5
          refine lv_aload_n hx hb dX10_numberEnd_100 rfl (lv_at hl 2 rfl) ?_
          refine va_get (D := D) (ci := 7) (v := .int bb) (C := RX10) (T := TX10) (N := 7) hx hb hts in_X10_numberEnd_X10 hown hE.1 hP 0 rfl rfl 6 (by decide +kernel) (hts (.fieldLink RX10 31 "ClauseBook$Tape" "number" "I") (List.mem_of_getElem? (i := 2) rfl)) (fun _ h9 => h9) rfl dX10_numberEnd_101 ?_
          refine lv_sipush (v := 1000) hx hb dX10_numberEnd_104 (by decide +kernel) ?_
          refine lv_icmp_eq (tgt := 119) hx hb dX10_numberEnd_107 (by decide +kernel) (fun c_6 => ?_) (fun c_6 => ?_)
          · rw [fa_eq] at c_6
            try rw [ti_1000] at c_6
            refine lv_iload_n hx hb dX10_numberEnd_119 rfl (lv_at hl 0 rfl) ?_
            exact W.iret hx hb hr (fun t ht hW => ⟨⟨_, bb, rfl, ⟨(by omega), numE_of (b := bb) hsg (rn_end (a := x1) (by omega) (by omega) (by omega) hal (fun h9 => absurd h9 (by omega))) hbb (Or.inr ⟨(by have t1 := tn (x := x1) (by omega); have t2 := tn (x := ii) (by omega); omega), (by first | exact Or.inr (Or.inl ⟨by omega, by omega⟩) | exact Or.inr (Or.inr ⟨hng, rfl⟩))⟩)⟩, by rw [ht]; exact hP.sub [0, 1] rfl, hD.sub [0, 1] (by decide +kernel) rfl⟩, hS.F ht⟩) hS.2.2 dX10_numberEnd_120
          · rw [fa_eq] at c_6
            try rw [ti_1000] at c_6
            refine lv_aload_n hx hb dX10_numberEnd_110 rfl (lv_at hl 2 rfl) ?_
            refine lv_aload_n hx hb dX10_numberEnd_111 rfl (lv_at hl 2 rfl) ?_
            refine va_get (D := D) (ci := 7) (v := .int bb) (C := RX10) (T := TX10) (N := 7) hx hb hts in_X10_numberEnd_X10 hown hE.1 hP 0 rfl rfl 6 (by decide +kernel) (hts (.fieldLink RX10 31 "ClauseBook$Tape" "number" "I") (List.mem_of_getElem? (i := 2) rfl)) (fun _ h9 => h9) rfl dX10_numberEnd_112 ?_
            refine lv_ineg hx hb dX10_numberEnd_115 ?_
            refine va_put (D := D) (ci := 7) (v := .int (-bb)) (ty := .int) (C := RX10) (T := TX10) (N := 7) hx hb hts in_X10_numberEnd_X10 tyX10 tyX10_ok nmX10 hown hE.1 hP hD hS 0 rfl rfl 6 (by decide +kernel) (hts (.fieldLink RX10 31 "ClauseBook$Tape" "number" "I") (List.mem_of_getElem? (i := 2) rfl)) (fun _ h9 => h9) rfl (by decide +kernel) rfl rfl (Nat.le_of_ble_eq_true rfl) dX10_numberEnd_116 (fun H locs hP hD hS => ?_)
            obtain ⟨hP, hD⟩ := wPD [(h0, .inr (7, [.int n, .ref yb, .ref ki, .ref nu, .int wd, .int nx, .int (-bb)])), (yb, .inl (T 0, 120, .inl fb))] hP hD rfl
            refine lv_iload_n hx hb dX10_numberEnd_119 rfl (lv_at hl 0 rfl) ?_
            exact W.iret hx hb hr (fun t ht hW => ⟨⟨_, (-bb), rfl, (by exfalso; omega), by rw [ht]; exact hP.sub [0, 1] rfl, hD.sub [0, 1] (by decide +kernel) rfl⟩, hS.F ht⟩) hS.2.2 dX10_numberEnd_120
      · rw [fa_eq] at c_4
        refine lv_aload_n hx hb dX10_numberEnd_88 rfl (lv_at hl 2 rfl) ?_
        refine lv_sipush (v := 1000) hx hb dX10_numberEnd_89 (by decide +kernel) ?_
        refine va_put (D := D) (ci := 7) (v := .int 1000) (ty := .int) (C := RX10) (T := TX10) (N := 7) hx hb hts in_X10_numberEnd_X10 tyX10 tyX10_ok nmX10 hown hE.1 hP hD hS 0 rfl rfl 6 (by decide +kernel) (hts (.fieldLink RX10 31 "ClauseBook$Tape" "number" "I") (List.mem_of_getElem? (i := 2) rfl)) (fun _ h9 => h9) rfl (by decide +kernel) rfl rfl (Nat.le_of_ble_eq_true rfl) dX10_numberEnd_92 (fun H locs hP hD hS => ?_)
        obtain ⟨hP, hD⟩ := wPD [(h0, .inr (7, [.int n, .ref yb, .ref ki, .ref nu, .int wd, .int nx, .int 1000])), (yb, .inl (T 0, 120, .inl fb))] hP hD rfl
        refine lv_iload_n hx hb dX10_numberEnd_95 rfl (lv_at hl 1 rfl) ?_
        refine lv_iload_n hx hb dX10_numberEnd_96 rfl (lv_at hl 3 rfl) ?_
        refine lv_icmp_le (tgt := 119) hx hb dX10_numberEnd_97 (by decide +kernel) (fun c_7 => ?_) (fun c_7 => ?_)
        · rw [fa_le] at c_7
          refine lv_iload_n hx hb dX10_numberEnd_119 rfl (lv_at hl 0 rfl) ?_
          exact W.iret hx hb hr (fun t ht hW => ⟨⟨_, 1000, rfl, ⟨(by omega), numE_of (b := bb) hsg (rn_end (a := x1) (by omega) (by omega) (by omega) hal (fun h9 => absurd h9 (by omega))) hbb (Or.inl ⟨(tneq (x := ii) (by omega) (by omega)), (by decide +kernel)⟩)⟩, by rw [ht]; exact hP.sub [0, 1] rfl, hD.sub [0, 1] (by decide +kernel) rfl⟩, hS.F ht⟩) hS.2.2 dX10_numberEnd_120
        · rw [fa_le] at c_7
          refine lv_aload_n hx hb dX10_numberEnd_100 rfl (lv_at hl 2 rfl) ?_
          refine va_get (D := D) (ci := 7) (v := .int 1000) (C := RX10) (T := TX10) (N := 7) hx hb hts in_X10_numberEnd_X10 hown hE.1 hP 0 rfl rfl 6 (by decide +kernel) (hts (.fieldLink RX10 31 "ClauseBook$Tape" "number" "I") (List.mem_of_getElem? (i := 2) rfl)) (fun _ h9 => h9) rfl dX10_numberEnd_101 ?_
          refine lv_sipush (v := 1000) hx hb dX10_numberEnd_104 (by decide +kernel) ?_
          refine lv_icmp_eq (tgt := 119) hx hb dX10_numberEnd_107 (by decide +kernel) (fun _ => ?_) (fun c9 => absurd c9 (by decide +kernel))
          refine lv_iload_n hx hb dX10_numberEnd_119 rfl (lv_at hl 0 rfl) ?_
          exact W.iret hx hb hr (fun t ht hW => ⟨⟨_, 1000, rfl, ⟨(by omega), numE_of (b := bb) hsg (rn_end (a := x1) (by omega) (by omega) (by omega) hal (fun h9 => absurd h9 (by omega))) hbb (Or.inl ⟨(tneq (x := ii) (by omega) (by omega)), (by decide +kernel)⟩)⟩, by rw [ht]; exact hP.sub [0, 1] rfl, hD.sub [0, 1] (by decide +kernel) rfl⟩, hS.F ht⟩) hS.2.2 dX10_numberEnd_120
    · rw [fa_le] at c_3
      refine lv_aload_n hx hb dX10_numberEnd_34 rfl (lv_at hl 2 rfl) ?_
      refine va_get (D := D) (ci := 7) (v := .ref yb) (C := RX10) (T := TX10) (N := 7) hx hb hts in_X10_numberEnd_X10 hown hE.1 hP 0 rfl rfl 1 (by decide +kernel) (hts (.fieldLink RX10 15 "ClauseBook$Tape" "bytes" "[I") (List.mem_of_getElem? (i := 1) rfl)) (fun _ h9 => h9) rfl dX10_numberEnd_35 ?_
      refine lv_iload_n hx hb dX10_numberEnd_38 rfl (lv_at hl 0 rfl) ?_
      refine va_iald hx hb hE.1 hP 1 0 rfl rfl (by rw [vp_in_iff]; first | omega | (subst_vars; omega)) dX10_numberEnd_39 ?_
      refine lv_topi (fun z_8 ez_8 => ?_)
      refine lv_bipush (v := 48) hx hb dX10_numberEnd_40 (by decide +kernel) ?_
      refine lv_bipush (v := 57) hx hb dX10_numberEnd_42 (by decide +kernel) ?_
      refine vp_callSi (va_Run.run (va_runSN (As := [.int z_8, .int 48, .int 57]) (rest := []) ⟨hx, hb, hml, hown, hts⟩ (c_X12_within l D T z_8 48 57 48 57 (by decide +kernel) (by decide +kernel)) ⟨(va_cnB 3 hts gX10_numberEnd_X12_within_n50 rfl rfl rfl (hE.2.1 (RX10, 50, yX12_within) (List.mem_of_getElem? (i := 8) rfl)) (hts (.initialized RX12) (List.mem_of_getElem? (i := 9) rfl)) hs_X12_within ⟨Nat.le_of_ble_eq_true rfl, Nat.le_of_ble_eq_true rfl⟩), (hts (.static yX12_within) (List.mem_of_getElem? (i := 8) rfl)), trivial⟩ (pR_S hP hE [] rfl) rfl rfl hl.1 rfl (lv_room (Nat.le_of_ble_eq_true rfl)) dX10_numberEnd_44 ⟨Nat.le_of_ble_eq_true rfl, Nat.le_of_ble_eq_true rfl⟩)) (fun r_9 hr_9 => ?_)
      rcases bool_post hr_9 with ⟨c_10, rfl⟩ | ⟨c_10, rfl⟩
      · refine lv_if_eq (tgt := 83) hx hb dX10_numberEnd_47 (by decide +kernel) (fun c9 => absurd c9 (by decide +kernel)) (fun _ => ?_)
        refine lv_aload_n hx hb dX10_numberEnd_50 rfl (lv_at hl 2 rfl) ?_
        refine lv_aload_n hx hb dX10_numberEnd_51 rfl (lv_at hl 2 rfl) ?_
        refine va_get (D := D) (ci := 7) (v := .int bb) (C := RX10) (T := TX10) (N := 7) hx hb hts in_X10_numberEnd_X10 hown hE.1 hP 0 rfl rfl 6 (by decide +kernel) (hts (.fieldLink RX10 31 "ClauseBook$Tape" "number" "I") (List.mem_of_getElem? (i := 2) rfl)) (fun _ h9 => h9) rfl dX10_numberEnd_52 ?_
        refine lv_bipush (v := 10) hx hb dX10_numberEnd_55 (by decide +kernel) ?_
        refine lv_imul hx hb dX10_numberEnd_57 ?_
        refine lv_aload_n hx hb dX10_numberEnd_58 rfl (lv_at hl 2 rfl) ?_
        refine va_get (D := D) (ci := 7) (v := .ref yb) (C := RX10) (T := TX10) (N := 7) hx hb hts in_X10_numberEnd_X10 hown hE.1 hP 0 rfl rfl 1 (by decide +kernel) (hts (.fieldLink RX10 15 "ClauseBook$Tape" "bytes" "[I") (List.mem_of_getElem? (i := 1) rfl)) (fun _ h9 => h9) rfl dX10_numberEnd_59 ?_
        refine lv_iload_n hx hb dX10_numberEnd_62 rfl (lv_at hl 0 rfl) ?_
        refine va_iald hx hb hE.1 hP 1 0 rfl rfl (by rw [vp_in_iff]; first | omega | (subst_vars; omega)) dX10_numberEnd_63 ?_
        refine lv_topi (fun z_11 ez_11 => ?_)
        refine lv_iadd hx hb dX10_numberEnd_64 ?_
        refine lv_bipush (v := 48) hx hb dX10_numberEnd_65 (by decide +kernel) ?_
        refine lv_isub hx hb dX10_numberEnd_67 ?_
        have hzz : z_11 = z_8 := by rw [ez_11, ez_8]
        have hzd : 48 ≤ z_11.toInt ∧ z_11.toInt ≤ 57 := by rw [hzz]; omega
        have hm9 : (bb * 10).toInt = bb.toInt * 10 := by rw [fb_mulI (by rw [ti_10]; omega) (by rw [ti_10]; omega), ti_10]
        have ha9 : ((bb * 10) + z_11).toInt = bb.toInt * 10 + z_11.toInt := by rw [fb_addI (by omega) (by omega), hm9]
        have hx9 : (((bb * 10) + z_11) - 48).toInt = bb.toInt * 10 + z_11.toInt - 48 := by rw [fb_subI (by rw [ti_48]; omega) (by rw [ti_48]; omega), ha9, ti_48]
        refine lv_sipush (v := 1000) hx hb dX10_numberEnd_68 (by decide +kernel) ?_
        refine va_mmin hx hb (hml.trans hl.1.symm) hown (hts (.methodLink RX10 86 Lib.Math.min.name) (List.mem_of_getElem? (i := 4) rfl)) (hts (.static Lib.Math.min.name) (List.mem_of_getElem? (i := 5) rfl)) (hts (.initialized "java/lang/Math") (List.mem_of_getElem? (i := 6) rfl)) (hts (.code Lib.Math.min.name Lib.Math.min.code 2 (some .int)) (List.mem_of_getElem? (i := 7) rfl)) (Nat.le_of_ble_eq_true rfl) (Nat.le_of_ble_eq_true rfl) (Nat.le_of_ble_eq_true rfl) (Nat.le_of_ble_eq_true rfl) dX10_numberEnd_71 ?_
        refine lv_topi (fun z_12 ez_12 => ?_)
        refine va_put (D := D) (ci := 7) (v := .int z_12) (ty := .int) (C := RX10) (T := TX10) (N := 7) hx hb hts in_X10_numberEnd_X10 tyX10 tyX10_ok nmX10 hown hE.1 hP hD hS 0 rfl rfl 6 (by decide +kernel) (hts (.fieldLink RX10 31 "ClauseBook$Tape" "number" "I") (List.mem_of_getElem? (i := 2) rfl)) (fun _ h9 => h9) rfl (by decide +kernel) rfl rfl (Nat.le_of_ble_eq_true rfl) dX10_numberEnd_74 (fun H locs hP hD hS => ?_)
        obtain ⟨hP, hD⟩ := wPD [(h0, .inr (7, [.int n, .ref yb, .ref ki, .ref nu, .int wd, .int nx, .int z_12])), (yb, .inl (T 0, 120, .inl fb))] hP hD rfl
        obtain ⟨z_13, ez_13⟩ : ∃ y : Int32, y = ii + 1 := ⟨_, rfl⟩
        refine lv_iinc (v := z_13) (lv' := [(3, .int z_13), (2, .int x1), (0, .ref h0), (1, .int x1)]) hx hb dX10_numberEnd_77 hl (k := 0) rfl (by rw [ez_13]; rfl) (by decide +kernel) rfl (fun ls hl => ?_)
        have hi9 : z_13.toInt = ii.toInt + 1 := by rw [ez_13]; exact inc1 (n := 1000) (by omega) (by decide +kernel)
        have hq9 : z_12.toInt = min (bb.toInt * 10 + z_11.toInt - 48) 1000 := by rw [min_1000 ez_12, hx9]
        have hbn := dvl_min (f := fb) (s := x1.toNatClampNeg) (s' := x1) rfl (by omega) (by omega) hi9 hal hbb ez_11 hzd hq9
        refine lv_goto (tgt := 26) hx hb dX10_numberEnd_80 (by decide +kernel) ?_
        exact ih (z_13, z_12) ls _ _ ⟨lv_sub hl [0, 1, 2, 3] rfl, hP.sub [0, 1] rfl, hD.sub [0, 1] (by decide +kernel) rfl, hS, ⟨(by (try dsimp only); omega), (by (try dsimp only); exact rn_step (by omega) hi9 hal (show isDi fb (ii.toNatClampNeg) from by unfold isDi; rw [← ez_8]; omega)), (by (try dsimp only); exact hbn)⟩⟩ (by (try dsimp only); omega)
      · refine lv_if_eq (tgt := 83) hx hb dX10_numberEnd_47 (by decide +kernel) (fun _ => ?_) (fun c9 => absurd c9 (by decide +kernel))
        refine lv_iload_n hx hb dX10_numberEnd_83 rfl (lv_at hl 0 rfl) ?_
        refine lv_iload_n hx hb dX10_numberEnd_84 rfl (lv_at hl 1 rfl) ?_
        refine lv_icmp_ne (tgt := 95) hx hb dX10_numberEnd_85 (by decide +kernel) (fun c_14 => ?_) (fun c_14 => ?_)
        · rw [fa_eq] at c_14
          refine lv_iload_n hx hb dX10_numberEnd_95 rfl (lv_at hl 1 rfl) ?_
          refine lv_iload_n hx hb dX10_numberEnd_96 rfl (lv_at hl 3 rfl) ?_
          refine lv_icmp_le (tgt := 119) hx hb dX10_numberEnd_97 (by decide +kernel) (fun c_15 => ?_) (fun c_15 => ?_)
          · rw [fa_le] at c_15
            refine lv_iload_n hx hb dX10_numberEnd_119 rfl (lv_at hl 0 rfl) ?_
            exact W.iret hx hb hr (fun t ht hW => ⟨⟨_, bb, rfl, ⟨(by omega), numE_of (b := bb) hsg (rn_end (a := x1) (by omega) (by omega) (by omega) hal (fun _ h8 => by unfold isDi at h8; rw [← ez_8] at h8; omega)) hbb (Or.inr ⟨(by have t1 := tn (x := x1) (by omega); have t2 := tn (x := ii) (by omega); omega), (by first | exact Or.inr (Or.inl ⟨by omega, by omega⟩) | exact Or.inr (Or.inr ⟨hng, rfl⟩))⟩)⟩, by rw [ht]; exact hP.sub [0, 1] rfl, hD.sub [0, 1] (by decide +kernel) rfl⟩, hS.F ht⟩) hS.2.2 dX10_numberEnd_120
          · rw [fa_le] at c_15
            refine lv_aload_n hx hb dX10_numberEnd_100 rfl (lv_at hl 2 rfl) ?_
            refine va_get (D := D) (ci := 7) (v := .int bb) (C := RX10) (T := TX10) (N := 7) hx hb hts in_X10_numberEnd_X10 hown hE.1 hP 0 rfl rfl 6 (by decide +kernel) (hts (.fieldLink RX10 31 "ClauseBook$Tape" "number" "I") (List.mem_of_getElem? (i := 2) rfl)) (fun _ h9 => h9) rfl dX10_numberEnd_101 ?_
            refine lv_sipush (v := 1000) hx hb dX10_numberEnd_104 (by decide +kernel) ?_
            refine lv_icmp_eq (tgt := 119) hx hb dX10_numberEnd_107 (by decide +kernel) (fun c_16 => ?_) (fun c_16 => ?_)
            · rw [fa_eq] at c_16
              try rw [ti_1000] at c_16
              refine lv_iload_n hx hb dX10_numberEnd_119 rfl (lv_at hl 0 rfl) ?_
              exact W.iret hx hb hr (fun t ht hW => ⟨⟨_, bb, rfl, ⟨(by omega), numE_of (b := bb) hsg (rn_end (a := x1) (by omega) (by omega) (by omega) hal (fun _ h8 => by unfold isDi at h8; rw [← ez_8] at h8; omega)) hbb (Or.inr ⟨(by have t1 := tn (x := x1) (by omega); have t2 := tn (x := ii) (by omega); omega), (by first | exact Or.inr (Or.inl ⟨by omega, by omega⟩) | exact Or.inr (Or.inr ⟨hng, rfl⟩))⟩)⟩, by rw [ht]; exact hP.sub [0, 1] rfl, hD.sub [0, 1] (by decide +kernel) rfl⟩, hS.F ht⟩) hS.2.2 dX10_numberEnd_120
            · rw [fa_eq] at c_16
              try rw [ti_1000] at c_16
              refine lv_aload_n hx hb dX10_numberEnd_110 rfl (lv_at hl 2 rfl) ?_
              refine lv_aload_n hx hb dX10_numberEnd_111 rfl (lv_at hl 2 rfl) ?_
              refine va_get (D := D) (ci := 7) (v := .int bb) (C := RX10) (T := TX10) (N := 7) hx hb hts in_X10_numberEnd_X10 hown hE.1 hP 0 rfl rfl 6 (by decide +kernel) (hts (.fieldLink RX10 31 "ClauseBook$Tape" "number" "I") (List.mem_of_getElem? (i := 2) rfl)) (fun _ h9 => h9) rfl dX10_numberEnd_112 ?_
              refine lv_ineg hx hb dX10_numberEnd_115 ?_
              refine va_put (D := D) (ci := 7) (v := .int (-bb)) (ty := .int) (C := RX10) (T := TX10) (N := 7) hx hb hts in_X10_numberEnd_X10 tyX10 tyX10_ok nmX10 hown hE.1 hP hD hS 0 rfl rfl 6 (by decide +kernel) (hts (.fieldLink RX10 31 "ClauseBook$Tape" "number" "I") (List.mem_of_getElem? (i := 2) rfl)) (fun _ h9 => h9) rfl (by decide +kernel) rfl rfl (Nat.le_of_ble_eq_true rfl) dX10_numberEnd_116 (fun H locs hP hD hS => ?_)
              obtain ⟨hP, hD⟩ := wPD [(h0, .inr (7, [.int n, .ref yb, .ref ki, .ref nu, .int wd, .int nx, .int (-bb)])), (yb, .inl (T 0, 120, .inl fb))] hP hD rfl
              refine lv_iload_n hx hb dX10_numberEnd_119 rfl (lv_at hl 0 rfl) ?_
              exact W.iret hx hb hr (fun t ht hW => ⟨⟨_, (-bb), rfl, (by exfalso; omega), by rw [ht]; exact hP.sub [0, 1] rfl, hD.sub [0, 1] (by decide +kernel) rfl⟩, hS.F ht⟩) hS.2.2 dX10_numberEnd_120
        · rw [fa_eq] at c_14
          refine lv_aload_n hx hb dX10_numberEnd_88 rfl (lv_at hl 2 rfl) ?_
          refine lv_sipush (v := 1000) hx hb dX10_numberEnd_89 (by decide +kernel) ?_
          refine va_put (D := D) (ci := 7) (v := .int 1000) (ty := .int) (C := RX10) (T := TX10) (N := 7) hx hb hts in_X10_numberEnd_X10 tyX10 tyX10_ok nmX10 hown hE.1 hP hD hS 0 rfl rfl 6 (by decide +kernel) (hts (.fieldLink RX10 31 "ClauseBook$Tape" "number" "I") (List.mem_of_getElem? (i := 2) rfl)) (fun _ h9 => h9) rfl (by decide +kernel) rfl rfl (Nat.le_of_ble_eq_true rfl) dX10_numberEnd_92 (fun H locs hP hD hS => ?_)
          obtain ⟨hP, hD⟩ := wPD [(h0, .inr (7, [.int n, .ref yb, .ref ki, .ref nu, .int wd, .int nx, .int 1000])), (yb, .inl (T 0, 120, .inl fb))] hP hD rfl
          refine lv_iload_n hx hb dX10_numberEnd_95 rfl (lv_at hl 1 rfl) ?_
          refine lv_iload_n hx hb dX10_numberEnd_96 rfl (lv_at hl 3 rfl) ?_
          refine lv_icmp_le (tgt := 119) hx hb dX10_numberEnd_97 (by decide +kernel) (fun c_17 => ?_) (fun c_17 => ?_)
          · rw [fa_le] at c_17
            refine lv_iload_n hx hb dX10_numberEnd_119 rfl (lv_at hl 0 rfl) ?_
            exact W.iret hx hb hr (fun t ht hW => ⟨⟨_, 1000, rfl, ⟨(by omega), numE_of (b := bb) hsg (rn_end (a := x1) (by omega) (by omega) (by omega) hal (fun _ h8 => by unfold isDi at h8; rw [← ez_8] at h8; omega)) hbb (Or.inl ⟨(tneq (x := ii) (by omega) (by omega)), (by decide +kernel)⟩)⟩, by rw [ht]; exact hP.sub [0, 1] rfl, hD.sub [0, 1] (by decide +kernel) rfl⟩, hS.F ht⟩) hS.2.2 dX10_numberEnd_120
          · rw [fa_le] at c_17
            refine lv_aload_n hx hb dX10_numberEnd_100 rfl (lv_at hl 2 rfl) ?_
            refine va_get (D := D) (ci := 7) (v := .int 1000) (C := RX10) (T := TX10) (N := 7) hx hb hts in_X10_numberEnd_X10 hown hE.1 hP 0 rfl rfl 6 (by decide +kernel) (hts (.fieldLink RX10 31 "ClauseBook$Tape" "number" "I") (List.mem_of_getElem? (i := 2) rfl)) (fun _ h9 => h9) rfl dX10_numberEnd_101 ?_
            refine lv_sipush (v := 1000) hx hb dX10_numberEnd_104 (by decide +kernel) ?_
            refine lv_icmp_eq (tgt := 119) hx hb dX10_numberEnd_107 (by decide +kernel) (fun _ => ?_) (fun c9 => absurd c9 (by decide +kernel))
            refine lv_iload_n hx hb dX10_numberEnd_119 rfl (lv_at hl 0 rfl) ?_
            exact W.iret hx hb hr (fun t ht hW => ⟨⟨_, 1000, rfl, ⟨(by omega), numE_of (b := bb) hsg (rn_end (a := x1) (by omega) (by omega) (by omega) hal (fun _ h8 => by unfold isDi at h8; rw [← ez_8] at h8; omega)) hbb (Or.inl ⟨(tneq (x := ii) (by omega) (by omega)), (by decide +kernel)⟩)⟩, by rw [ht]; exact hP.sub [0, 1] rfl, hD.sub [0, 1] (by decide +kernel) rfl⟩, hS.F ht⟩) hS.2.2 dX10_numberEnd_120
  · rw [fa_eq] at c_2
    try rw [ti_45] at c_2
    refine lv_iload_n hx hb dX10_numberEnd_11 rfl (lv_at hl 1 rfl) ?_
    refine lv_iconst (v := 1) hx hb dX10_numberEnd_12 (by decide +kernel) ?_
    refine lv_iadd hx hb dX10_numberEnd_13 ?_
    refine lv_goto (tgt := 18) hx hb dX10_numberEnd_14 (by decide +kernel) ?_
    refine lv_topi (fun z_18 ez_18 => ?_)
    have hz9 : z_18.toInt = x1.toInt + 1 := by rw [ez_18]; exact inc1 (n := 1000) (by omega) (by decide +kernel)
    have hng : (fb (x1.toNatClampNeg)).toInt = 45 := by rw [← ez_1]; omega
    have hsg : sgS fb (x1.toNatClampNeg) = z_18.toNatClampNeg := by unfold sgS; rw [if_pos hng, tn1 (by omega) hz9]
    refine lv_istore_n (lv' := [(2, .int z_18), (0, .ref h0), (1, .int x1)]) hx hb dX10_numberEnd_18 rfl hl (by decide +kernel) rfl (fun ls hl => ?_)
    refine lv_iload_n hx hb dX10_numberEnd_19 rfl (lv_at hl 0 rfl) ?_
    refine lv_istore_n (lv' := [(3, .int z_18), (2, .int z_18), (0, .ref h0), (1, .int x1)]) hx hb dX10_numberEnd_20 rfl hl (by decide +kernel) rfl (fun ls hl => ?_)
    refine lv_aload_n hx hb dX10_numberEnd_21 rfl (lv_at hl 2 rfl) ?_
    refine lv_iconst (v := 0) hx hb dX10_numberEnd_22 (by decide +kernel) ?_
    refine va_put (D := D) (ci := 7) (v := .int 0) (ty := .int) (C := RX10) (T := TX10) (N := 7) hx hb hts in_X10_numberEnd_X10 tyX10 tyX10_ok nmX10 hown hE.1 hP hD hS 0 rfl rfl 6 (by decide +kernel) (hts (.fieldLink RX10 31 "ClauseBook$Tape" "number" "I") (List.mem_of_getElem? (i := 2) rfl)) (fun _ h9 => h9) rfl (by decide +kernel) rfl rfl (Nat.le_of_ble_eq_true rfl) dX10_numberEnd_23 (fun H locs hP hD hS => ?_)
    obtain ⟨hP, hD⟩ := wPD [(h0, .inr (7, [.int n, .ref yb, .ref ki, .ref nu, .int wd, .int nx, .int 0])), (yb, .inl (T 0, 120, .inl fb))] hP hD rfl
    refine loopW (σ := (Int32) × (Int32)) (fun x9 ls H locs => lv_has ls 4 [(3, .int x9.1), (2, .int z_18), (0, .ref h0), (1, .int x1)] ∧ va_P D vwCl [(h0, .inr (7, [.int n, .ref yb, .ref ki, .ref nu, .int wd, .int nx, .int x9.2])), (yb, .inl (T 0, 120, .inl fb))] H ∧ va_D A [(h0, .inr (7, [.int n, .ref yb, .ref ki, .ref nu, .int wd, .int nx, .int x9.2])), (yb, .inl (T 0, 120, .inl fb))] ∧ va_S A s.heap H locs ∧ ((x1.toInt ≤ x9.1.toInt ∧ z_18.toInt ≤ x9.1.toInt ∧ x9.1.toInt ≤ n.toInt ∧ 0 ≤ x9.2.toInt ∧ x9.2.toInt ≤ 1000) ∧ (∀ j : Nat, z_18.toNatClampNeg ≤ j → j < x9.1.toNatClampNeg → isDi fb j) ∧ x9.2.toInt = min (dvl fb z_18.toNatClampNeg (x9.1.toNatClampNeg - z_18.toNatClampNeg)) 1000)) (fun x9 => (120 - x9.1.toInt).toNat) (fun x9 ls H locs hI ih => ?_) (z_18, 0) ls ⟨lv_sub hl [0, 1, 2, 3] rfl, hP.sub [0, 1] rfl, hD.sub [0, 1] (by decide +kernel) rfl, hS, ⟨(by (try dsimp only); (try simp only [ti_0]); omega), (fun j h8 h9 => absurd h9 (by (try dsimp only); omega)), (by (try dsimp only); rw [Nat.sub_self]; show (0 : Int32).toInt = min (0 : Int) 1000; decide)⟩⟩
    obtain ⟨ii, bb⟩ := x9
    obtain ⟨hl, hP, hD, hS, hinv⟩ := hI
    have hl : lv_has ls 4 [(3, .int ii), (2, .int z_18), (0, .ref h0), (1, .int x1)] := hl
    have hP : va_P D vwCl [(h0, .inr (7, [.int n, .ref yb, .ref ki, .ref nu, .int wd, .int nx, .int bb])), (yb, .inl (T 0, 120, .inl fb))] H := hP
    have hD : va_D A [(h0, .inr (7, [.int n, .ref yb, .ref ki, .ref nu, .int wd, .int nx, .int bb])), (yb, .inl (T 0, 120, .inl fb))] := hD
    have hinv : (x1.toInt ≤ ii.toInt ∧ z_18.toInt ≤ ii.toInt ∧ ii.toInt ≤ n.toInt ∧ 0 ≤ bb.toInt ∧ bb.toInt ≤ 1000) ∧ (∀ j : Nat, z_18.toNatClampNeg ≤ j → j < ii.toNatClampNeg → isDi fb j) ∧ bb.toInt = min (dvl fb z_18.toNatClampNeg (ii.toNatClampNeg - z_18.toNatClampNeg)) 1000 := hinv
    obtain ⟨hinv, hal, hbb⟩ := hinv
    refine lv_iload_n hx hb dX10_numberEnd_26 rfl (lv_at hl 0 rfl) ?_
    refine lv_aload_n hx hb dX10_numberEnd_27 rfl (lv_at hl 2 rfl) ?_
    refine va_get (D := D) (ci := 7) (v := .int n) (C := RX10) (T := TX10) (N := 7) hx hb hts in_X10_numberEnd_X10 hown hE.1 hP 0 rfl rfl 0 (by decide +kernel) (hts (.fieldLink RX10 9 "ClauseBook$Tape" "size" "I") (List.mem_of_getElem? (i := 3) rfl)) (fun _ h9 => h9) rfl dX10_numberEnd_28 ?_
    refine lv_icmp_ge (tgt := 83) hx hb dX10_numberEnd_31 (by decide +kernel) (fun c_19 => ?_) (fun c_19 => ?_)
    · rw [fa_le] at c_19
      refine lv_iload_n hx hb dX10_numberEnd_83 rfl (lv_at hl 0 rfl) ?_
      refine lv_iload_n hx hb dX10_numberEnd_84 rfl (lv_at hl 1 rfl) ?_
      refine lv_icmp_ne (tgt := 95) hx hb dX10_numberEnd_85 (by decide +kernel) (fun c_20 => ?_) (fun c_20 => ?_)
      · rw [fa_eq] at c_20
        refine lv_iload_n hx hb dX10_numberEnd_95 rfl (lv_at hl 1 rfl) ?_
        refine lv_iload_n hx hb dX10_numberEnd_96 rfl (lv_at hl 3 rfl) ?_
        refine lv_icmp_le (tgt := 119) hx hb dX10_numberEnd_97 (by decide +kernel) (fun c_21 => ?_) (fun c_21 => ?_)
        · rw [fa_le] at c_21
          refine lv_iload_n hx hb dX10_numberEnd_119 rfl (lv_at hl 0 rfl) ?_
          exact W.iret hx hb hr (fun t ht hW => ⟨⟨_, bb, rfl, ⟨(by omega), numE_of (b := bb) hsg (rn_end (a := z_18) (by omega) (by omega) (by omega) hal (fun h9 => absurd h9 (by omega))) hbb (Or.inr ⟨(by have t1 := tn (x := z_18) (by omega); have t2 := tn (x := ii) (by omega); omega), (by first | exact Or.inr (Or.inl ⟨by omega, by omega⟩) | exact Or.inr (Or.inr ⟨hng, rfl⟩))⟩)⟩, by rw [ht]; exact hP.sub [0, 1] rfl, hD.sub [0, 1] (by decide +kernel) rfl⟩, hS.F ht⟩) hS.2.2 dX10_numberEnd_120
        · rw [fa_le] at c_21
          refine lv_aload_n hx hb dX10_numberEnd_100 rfl (lv_at hl 2 rfl) ?_
          refine va_get (D := D) (ci := 7) (v := .int bb) (C := RX10) (T := TX10) (N := 7) hx hb hts in_X10_numberEnd_X10 hown hE.1 hP 0 rfl rfl 6 (by decide +kernel) (hts (.fieldLink RX10 31 "ClauseBook$Tape" "number" "I") (List.mem_of_getElem? (i := 2) rfl)) (fun _ h9 => h9) rfl dX10_numberEnd_101 ?_
          refine lv_sipush (v := 1000) hx hb dX10_numberEnd_104 (by decide +kernel) ?_
          refine lv_icmp_eq (tgt := 119) hx hb dX10_numberEnd_107 (by decide +kernel) (fun c_22 => ?_) (fun c_22 => ?_)
          · rw [fa_eq] at c_22
            try rw [ti_1000] at c_22
            refine lv_iload_n hx hb dX10_numberEnd_119 rfl (lv_at hl 0 rfl) ?_
            exact W.iret hx hb hr (fun t ht hW => ⟨⟨_, bb, rfl, ⟨(by omega), numE_of (b := bb) hsg (rn_end (a := z_18) (by omega) (by omega) (by omega) hal (fun h9 => absurd h9 (by omega))) hbb (Or.inr ⟨(by have t1 := tn (x := z_18) (by omega); have t2 := tn (x := ii) (by omega); omega), (by first | exact Or.inr (Or.inl ⟨by omega, by omega⟩) | exact Or.inr (Or.inr ⟨hng, rfl⟩))⟩)⟩, by rw [ht]; exact hP.sub [0, 1] rfl, hD.sub [0, 1] (by decide +kernel) rfl⟩, hS.F ht⟩) hS.2.2 dX10_numberEnd_120
          · rw [fa_eq] at c_22
            try rw [ti_1000] at c_22
            refine lv_aload_n hx hb dX10_numberEnd_110 rfl (lv_at hl 2 rfl) ?_
            refine lv_aload_n hx hb dX10_numberEnd_111 rfl (lv_at hl 2 rfl) ?_
            refine va_get (D := D) (ci := 7) (v := .int bb) (C := RX10) (T := TX10) (N := 7) hx hb hts in_X10_numberEnd_X10 hown hE.1 hP 0 rfl rfl 6 (by decide +kernel) (hts (.fieldLink RX10 31 "ClauseBook$Tape" "number" "I") (List.mem_of_getElem? (i := 2) rfl)) (fun _ h9 => h9) rfl dX10_numberEnd_112 ?_
            refine lv_ineg hx hb dX10_numberEnd_115 ?_
            refine va_put (D := D) (ci := 7) (v := .int (-bb)) (ty := .int) (C := RX10) (T := TX10) (N := 7) hx hb hts in_X10_numberEnd_X10 tyX10 tyX10_ok nmX10 hown hE.1 hP hD hS 0 rfl rfl 6 (by decide +kernel) (hts (.fieldLink RX10 31 "ClauseBook$Tape" "number" "I") (List.mem_of_getElem? (i := 2) rfl)) (fun _ h9 => h9) rfl (by decide +kernel) rfl rfl (Nat.le_of_ble_eq_true rfl) dX10_numberEnd_116 (fun H locs hP hD hS => ?_)
            obtain ⟨hP, hD⟩ := wPD [(h0, .inr (7, [.int n, .ref yb, .ref ki, .ref nu, .int wd, .int nx, .int (-bb)])), (yb, .inl (T 0, 120, .inl fb))] hP hD rfl
            refine lv_iload_n hx hb dX10_numberEnd_119 rfl (lv_at hl 0 rfl) ?_
            exact W.iret hx hb hr (fun t ht hW => ⟨⟨_, (-bb), rfl, ⟨(by omega), numE_of (b := bb) hsg (rn_end (a := z_18) (by omega) (by omega) (by omega) hal (fun h9 => absurd h9 (by omega))) hbb (Or.inr ⟨(by have t1 := tn (x := z_18) (by omega); have t2 := tn (x := ii) (by omega); omega), Or.inl ⟨hng, (by omega), (fb_negI (by omega))⟩⟩)⟩, by rw [ht]; exact hP.sub [0, 1] rfl, hD.sub [0, 1] (by decide +kernel) rfl⟩, hS.F ht⟩) hS.2.2 dX10_numberEnd_120
      · rw [fa_eq] at c_20
        refine lv_aload_n hx hb dX10_numberEnd_88 rfl (lv_at hl 2 rfl) ?_
        refine lv_sipush (v := 1000) hx hb dX10_numberEnd_89 (by decide +kernel) ?_
        refine va_put (D := D) (ci := 7) (v := .int 1000) (ty := .int) (C := RX10) (T := TX10) (N := 7) hx hb hts in_X10_numberEnd_X10 tyX10 tyX10_ok nmX10 hown hE.1 hP hD hS 0 rfl rfl 6 (by decide +kernel) (hts (.fieldLink RX10 31 "ClauseBook$Tape" "number" "I") (List.mem_of_getElem? (i := 2) rfl)) (fun _ h9 => h9) rfl (by decide +kernel) rfl rfl (Nat.le_of_ble_eq_true rfl) dX10_numberEnd_92 (fun H locs hP hD hS => ?_)
        obtain ⟨hP, hD⟩ := wPD [(h0, .inr (7, [.int n, .ref yb, .ref ki, .ref nu, .int wd, .int nx, .int 1000])), (yb, .inl (T 0, 120, .inl fb))] hP hD rfl
        refine lv_iload_n hx hb dX10_numberEnd_95 rfl (lv_at hl 1 rfl) ?_
        refine lv_iload_n hx hb dX10_numberEnd_96 rfl (lv_at hl 3 rfl) ?_
        refine lv_icmp_le (tgt := 119) hx hb dX10_numberEnd_97 (by decide +kernel) (fun c_23 => ?_) (fun c_23 => ?_)
        · rw [fa_le] at c_23
          refine lv_iload_n hx hb dX10_numberEnd_119 rfl (lv_at hl 0 rfl) ?_
          exact W.iret hx hb hr (fun t ht hW => ⟨⟨_, 1000, rfl, ⟨(by omega), numE_of (b := bb) hsg (rn_end (a := z_18) (by omega) (by omega) (by omega) hal (fun h9 => absurd h9 (by omega))) hbb (Or.inl ⟨(tneq (x := ii) (by omega) (by omega)), (by decide +kernel)⟩)⟩, by rw [ht]; exact hP.sub [0, 1] rfl, hD.sub [0, 1] (by decide +kernel) rfl⟩, hS.F ht⟩) hS.2.2 dX10_numberEnd_120
        · rw [fa_le] at c_23
          refine lv_aload_n hx hb dX10_numberEnd_100 rfl (lv_at hl 2 rfl) ?_
          refine va_get (D := D) (ci := 7) (v := .int 1000) (C := RX10) (T := TX10) (N := 7) hx hb hts in_X10_numberEnd_X10 hown hE.1 hP 0 rfl rfl 6 (by decide +kernel) (hts (.fieldLink RX10 31 "ClauseBook$Tape" "number" "I") (List.mem_of_getElem? (i := 2) rfl)) (fun _ h9 => h9) rfl dX10_numberEnd_101 ?_
          refine lv_sipush (v := 1000) hx hb dX10_numberEnd_104 (by decide +kernel) ?_
          refine lv_icmp_eq (tgt := 119) hx hb dX10_numberEnd_107 (by decide +kernel) (fun _ => ?_) (fun c9 => absurd c9 (by decide +kernel))
          refine lv_iload_n hx hb dX10_numberEnd_119 rfl (lv_at hl 0 rfl) ?_
          exact W.iret hx hb hr (fun t ht hW => ⟨⟨_, 1000, rfl, ⟨(by omega), numE_of (b := bb) hsg (rn_end (a := z_18) (by omega) (by omega) (by omega) hal (fun h9 => absurd h9 (by omega))) hbb (Or.inl ⟨(tneq (x := ii) (by omega) (by omega)), (by decide +kernel)⟩)⟩, by rw [ht]; exact hP.sub [0, 1] rfl, hD.sub [0, 1] (by decide +kernel) rfl⟩, hS.F ht⟩) hS.2.2 dX10_numberEnd_120
    · rw [fa_le] at c_19
      refine lv_aload_n hx hb dX10_numberEnd_34 rfl (lv_at hl 2 rfl) ?_
      refine va_get (D := D) (ci := 7) (v := .ref yb) (C := RX10) (T := TX10) (N := 7) hx hb hts in_X10_numberEnd_X10 hown hE.1 hP 0 rfl rfl 1 (by decide +kernel) (hts (.fieldLink RX10 15 "ClauseBook$Tape" "bytes" "[I") (List.mem_of_getElem? (i := 1) rfl)) (fun _ h9 => h9) rfl dX10_numberEnd_35 ?_
      refine lv_iload_n hx hb dX10_numberEnd_38 rfl (lv_at hl 0 rfl) ?_
      refine va_iald hx hb hE.1 hP 1 0 rfl rfl (by rw [vp_in_iff]; first | omega | (subst_vars; omega)) dX10_numberEnd_39 ?_
      refine lv_topi (fun z_24 ez_24 => ?_)
      refine lv_bipush (v := 48) hx hb dX10_numberEnd_40 (by decide +kernel) ?_
      refine lv_bipush (v := 57) hx hb dX10_numberEnd_42 (by decide +kernel) ?_
      refine vp_callSi (va_Run.run (va_runSN (As := [.int z_24, .int 48, .int 57]) (rest := []) ⟨hx, hb, hml, hown, hts⟩ (c_X12_within l D T z_24 48 57 48 57 (by decide +kernel) (by decide +kernel)) ⟨(va_cnB 3 hts gX10_numberEnd_X12_within_n50 rfl rfl rfl (hE.2.1 (RX10, 50, yX12_within) (List.mem_of_getElem? (i := 8) rfl)) (hts (.initialized RX12) (List.mem_of_getElem? (i := 9) rfl)) hs_X12_within ⟨Nat.le_of_ble_eq_true rfl, Nat.le_of_ble_eq_true rfl⟩), (hts (.static yX12_within) (List.mem_of_getElem? (i := 8) rfl)), trivial⟩ (pR_S hP hE [] rfl) rfl rfl hl.1 rfl (lv_room (Nat.le_of_ble_eq_true rfl)) dX10_numberEnd_44 ⟨Nat.le_of_ble_eq_true rfl, Nat.le_of_ble_eq_true rfl⟩)) (fun r_25 hr_25 => ?_)
      rcases bool_post hr_25 with ⟨c_26, rfl⟩ | ⟨c_26, rfl⟩
      · refine lv_if_eq (tgt := 83) hx hb dX10_numberEnd_47 (by decide +kernel) (fun c9 => absurd c9 (by decide +kernel)) (fun _ => ?_)
        refine lv_aload_n hx hb dX10_numberEnd_50 rfl (lv_at hl 2 rfl) ?_
        refine lv_aload_n hx hb dX10_numberEnd_51 rfl (lv_at hl 2 rfl) ?_
        refine va_get (D := D) (ci := 7) (v := .int bb) (C := RX10) (T := TX10) (N := 7) hx hb hts in_X10_numberEnd_X10 hown hE.1 hP 0 rfl rfl 6 (by decide +kernel) (hts (.fieldLink RX10 31 "ClauseBook$Tape" "number" "I") (List.mem_of_getElem? (i := 2) rfl)) (fun _ h9 => h9) rfl dX10_numberEnd_52 ?_
        refine lv_bipush (v := 10) hx hb dX10_numberEnd_55 (by decide +kernel) ?_
        refine lv_imul hx hb dX10_numberEnd_57 ?_
        refine lv_aload_n hx hb dX10_numberEnd_58 rfl (lv_at hl 2 rfl) ?_
        refine va_get (D := D) (ci := 7) (v := .ref yb) (C := RX10) (T := TX10) (N := 7) hx hb hts in_X10_numberEnd_X10 hown hE.1 hP 0 rfl rfl 1 (by decide +kernel) (hts (.fieldLink RX10 15 "ClauseBook$Tape" "bytes" "[I") (List.mem_of_getElem? (i := 1) rfl)) (fun _ h9 => h9) rfl dX10_numberEnd_59 ?_
        refine lv_iload_n hx hb dX10_numberEnd_62 rfl (lv_at hl 0 rfl) ?_
        refine va_iald hx hb hE.1 hP 1 0 rfl rfl (by rw [vp_in_iff]; first | omega | (subst_vars; omega)) dX10_numberEnd_63 ?_
        refine lv_topi (fun z_27 ez_27 => ?_)
        refine lv_iadd hx hb dX10_numberEnd_64 ?_
        refine lv_bipush (v := 48) hx hb dX10_numberEnd_65 (by decide +kernel) ?_
        refine lv_isub hx hb dX10_numberEnd_67 ?_
        have hzz : z_27 = z_24 := by rw [ez_27, ez_24]
        have hzd : 48 ≤ z_27.toInt ∧ z_27.toInt ≤ 57 := by rw [hzz]; omega
        have hm9 : (bb * 10).toInt = bb.toInt * 10 := by rw [fb_mulI (by rw [ti_10]; omega) (by rw [ti_10]; omega), ti_10]
        have ha9 : ((bb * 10) + z_27).toInt = bb.toInt * 10 + z_27.toInt := by rw [fb_addI (by omega) (by omega), hm9]
        have hx9 : (((bb * 10) + z_27) - 48).toInt = bb.toInt * 10 + z_27.toInt - 48 := by rw [fb_subI (by rw [ti_48]; omega) (by rw [ti_48]; omega), ha9, ti_48]
        refine lv_sipush (v := 1000) hx hb dX10_numberEnd_68 (by decide +kernel) ?_
        refine va_mmin hx hb (hml.trans hl.1.symm) hown (hts (.methodLink RX10 86 Lib.Math.min.name) (List.mem_of_getElem? (i := 4) rfl)) (hts (.static Lib.Math.min.name) (List.mem_of_getElem? (i := 5) rfl)) (hts (.initialized "java/lang/Math") (List.mem_of_getElem? (i := 6) rfl)) (hts (.code Lib.Math.min.name Lib.Math.min.code 2 (some .int)) (List.mem_of_getElem? (i := 7) rfl)) (Nat.le_of_ble_eq_true rfl) (Nat.le_of_ble_eq_true rfl) (Nat.le_of_ble_eq_true rfl) (Nat.le_of_ble_eq_true rfl) dX10_numberEnd_71 ?_
        refine lv_topi (fun z_28 ez_28 => ?_)
        refine va_put (D := D) (ci := 7) (v := .int z_28) (ty := .int) (C := RX10) (T := TX10) (N := 7) hx hb hts in_X10_numberEnd_X10 tyX10 tyX10_ok nmX10 hown hE.1 hP hD hS 0 rfl rfl 6 (by decide +kernel) (hts (.fieldLink RX10 31 "ClauseBook$Tape" "number" "I") (List.mem_of_getElem? (i := 2) rfl)) (fun _ h9 => h9) rfl (by decide +kernel) rfl rfl (Nat.le_of_ble_eq_true rfl) dX10_numberEnd_74 (fun H locs hP hD hS => ?_)
        obtain ⟨hP, hD⟩ := wPD [(h0, .inr (7, [.int n, .ref yb, .ref ki, .ref nu, .int wd, .int nx, .int z_28])), (yb, .inl (T 0, 120, .inl fb))] hP hD rfl
        obtain ⟨z_29, ez_29⟩ : ∃ y : Int32, y = ii + 1 := ⟨_, rfl⟩
        refine lv_iinc (v := z_29) (lv' := [(3, .int z_29), (2, .int z_18), (0, .ref h0), (1, .int x1)]) hx hb dX10_numberEnd_77 hl (k := 0) rfl (by rw [ez_29]; rfl) (by decide +kernel) rfl (fun ls hl => ?_)
        have hi9 : z_29.toInt = ii.toInt + 1 := by rw [ez_29]; exact inc1 (n := 1000) (by omega) (by decide +kernel)
        have hq9 : z_28.toInt = min (bb.toInt * 10 + z_27.toInt - 48) 1000 := by rw [min_1000 ez_28, hx9]
        have hbn := dvl_min (f := fb) (s := z_18.toNatClampNeg) (s' := z_18) rfl (by omega) (by omega) hi9 hal hbb ez_27 hzd hq9
        refine lv_goto (tgt := 26) hx hb dX10_numberEnd_80 (by decide +kernel) ?_
        exact ih (z_29, z_28) ls _ _ ⟨lv_sub hl [0, 1, 2, 3] rfl, hP.sub [0, 1] rfl, hD.sub [0, 1] (by decide +kernel) rfl, hS, ⟨(by (try dsimp only); omega), (by (try dsimp only); exact rn_step (by omega) hi9 hal (show isDi fb (ii.toNatClampNeg) from by unfold isDi; rw [← ez_24]; omega)), (by (try dsimp only); exact hbn)⟩⟩ (by (try dsimp only); omega)
      · refine lv_if_eq (tgt := 83) hx hb dX10_numberEnd_47 (by decide +kernel) (fun _ => ?_) (fun c9 => absurd c9 (by decide +kernel))
        refine lv_iload_n hx hb dX10_numberEnd_83 rfl (lv_at hl 0 rfl) ?_
        refine lv_iload_n hx hb dX10_numberEnd_84 rfl (lv_at hl 1 rfl) ?_
        refine lv_icmp_ne (tgt := 95) hx hb dX10_numberEnd_85 (by decide +kernel) (fun c_30 => ?_) (fun c_30 => ?_)
        · rw [fa_eq] at c_30
          refine lv_iload_n hx hb dX10_numberEnd_95 rfl (lv_at hl 1 rfl) ?_
          refine lv_iload_n hx hb dX10_numberEnd_96 rfl (lv_at hl 3 rfl) ?_
          refine lv_icmp_le (tgt := 119) hx hb dX10_numberEnd_97 (by decide +kernel) (fun c_31 => ?_) (fun c_31 => ?_)
          · rw [fa_le] at c_31
            refine lv_iload_n hx hb dX10_numberEnd_119 rfl (lv_at hl 0 rfl) ?_
            exact W.iret hx hb hr (fun t ht hW => ⟨⟨_, bb, rfl, ⟨(by omega), numE_of (b := bb) hsg (rn_end (a := z_18) (by omega) (by omega) (by omega) hal (fun _ h8 => by unfold isDi at h8; rw [← ez_24] at h8; omega)) hbb (Or.inr ⟨(by have t1 := tn (x := z_18) (by omega); have t2 := tn (x := ii) (by omega); omega), (by first | exact Or.inr (Or.inl ⟨by omega, by omega⟩) | exact Or.inr (Or.inr ⟨hng, rfl⟩))⟩)⟩, by rw [ht]; exact hP.sub [0, 1] rfl, hD.sub [0, 1] (by decide +kernel) rfl⟩, hS.F ht⟩) hS.2.2 dX10_numberEnd_120
          · rw [fa_le] at c_31
            refine lv_aload_n hx hb dX10_numberEnd_100 rfl (lv_at hl 2 rfl) ?_
            refine va_get (D := D) (ci := 7) (v := .int bb) (C := RX10) (T := TX10) (N := 7) hx hb hts in_X10_numberEnd_X10 hown hE.1 hP 0 rfl rfl 6 (by decide +kernel) (hts (.fieldLink RX10 31 "ClauseBook$Tape" "number" "I") (List.mem_of_getElem? (i := 2) rfl)) (fun _ h9 => h9) rfl dX10_numberEnd_101 ?_
            refine lv_sipush (v := 1000) hx hb dX10_numberEnd_104 (by decide +kernel) ?_
            refine lv_icmp_eq (tgt := 119) hx hb dX10_numberEnd_107 (by decide +kernel) (fun c_32 => ?_) (fun c_32 => ?_)
            · rw [fa_eq] at c_32
              try rw [ti_1000] at c_32
              refine lv_iload_n hx hb dX10_numberEnd_119 rfl (lv_at hl 0 rfl) ?_
              exact W.iret hx hb hr (fun t ht hW => ⟨⟨_, bb, rfl, ⟨(by omega), numE_of (b := bb) hsg (rn_end (a := z_18) (by omega) (by omega) (by omega) hal (fun _ h8 => by unfold isDi at h8; rw [← ez_24] at h8; omega)) hbb (Or.inr ⟨(by have t1 := tn (x := z_18) (by omega); have t2 := tn (x := ii) (by omega); omega), (by first | exact Or.inr (Or.inl ⟨by omega, by omega⟩) | exact Or.inr (Or.inr ⟨hng, rfl⟩))⟩)⟩, by rw [ht]; exact hP.sub [0, 1] rfl, hD.sub [0, 1] (by decide +kernel) rfl⟩, hS.F ht⟩) hS.2.2 dX10_numberEnd_120
            · rw [fa_eq] at c_32
              try rw [ti_1000] at c_32
              refine lv_aload_n hx hb dX10_numberEnd_110 rfl (lv_at hl 2 rfl) ?_
              refine lv_aload_n hx hb dX10_numberEnd_111 rfl (lv_at hl 2 rfl) ?_
              refine va_get (D := D) (ci := 7) (v := .int bb) (C := RX10) (T := TX10) (N := 7) hx hb hts in_X10_numberEnd_X10 hown hE.1 hP 0 rfl rfl 6 (by decide +kernel) (hts (.fieldLink RX10 31 "ClauseBook$Tape" "number" "I") (List.mem_of_getElem? (i := 2) rfl)) (fun _ h9 => h9) rfl dX10_numberEnd_112 ?_
              refine lv_ineg hx hb dX10_numberEnd_115 ?_
              refine va_put (D := D) (ci := 7) (v := .int (-bb)) (ty := .int) (C := RX10) (T := TX10) (N := 7) hx hb hts in_X10_numberEnd_X10 tyX10 tyX10_ok nmX10 hown hE.1 hP hD hS 0 rfl rfl 6 (by decide +kernel) (hts (.fieldLink RX10 31 "ClauseBook$Tape" "number" "I") (List.mem_of_getElem? (i := 2) rfl)) (fun _ h9 => h9) rfl (by decide +kernel) rfl rfl (Nat.le_of_ble_eq_true rfl) dX10_numberEnd_116 (fun H locs hP hD hS => ?_)
              obtain ⟨hP, hD⟩ := wPD [(h0, .inr (7, [.int n, .ref yb, .ref ki, .ref nu, .int wd, .int nx, .int (-bb)])), (yb, .inl (T 0, 120, .inl fb))] hP hD rfl
              refine lv_iload_n hx hb dX10_numberEnd_119 rfl (lv_at hl 0 rfl) ?_
              exact W.iret hx hb hr (fun t ht hW => ⟨⟨_, (-bb), rfl, ⟨(by omega), numE_of (b := bb) hsg (rn_end (a := z_18) (by omega) (by omega) (by omega) hal (fun _ h8 => by unfold isDi at h8; rw [← ez_24] at h8; omega)) hbb (Or.inr ⟨(by have t1 := tn (x := z_18) (by omega); have t2 := tn (x := ii) (by omega); omega), Or.inl ⟨hng, (by omega), (fb_negI (by omega))⟩⟩)⟩, by rw [ht]; exact hP.sub [0, 1] rfl, hD.sub [0, 1] (by decide +kernel) rfl⟩, hS.F ht⟩) hS.2.2 dX10_numberEnd_120
        · rw [fa_eq] at c_30
          refine lv_aload_n hx hb dX10_numberEnd_88 rfl (lv_at hl 2 rfl) ?_
          refine lv_sipush (v := 1000) hx hb dX10_numberEnd_89 (by decide +kernel) ?_
          refine va_put (D := D) (ci := 7) (v := .int 1000) (ty := .int) (C := RX10) (T := TX10) (N := 7) hx hb hts in_X10_numberEnd_X10 tyX10 tyX10_ok nmX10 hown hE.1 hP hD hS 0 rfl rfl 6 (by decide +kernel) (hts (.fieldLink RX10 31 "ClauseBook$Tape" "number" "I") (List.mem_of_getElem? (i := 2) rfl)) (fun _ h9 => h9) rfl (by decide +kernel) rfl rfl (Nat.le_of_ble_eq_true rfl) dX10_numberEnd_92 (fun H locs hP hD hS => ?_)
          obtain ⟨hP, hD⟩ := wPD [(h0, .inr (7, [.int n, .ref yb, .ref ki, .ref nu, .int wd, .int nx, .int 1000])), (yb, .inl (T 0, 120, .inl fb))] hP hD rfl
          refine lv_iload_n hx hb dX10_numberEnd_95 rfl (lv_at hl 1 rfl) ?_
          refine lv_iload_n hx hb dX10_numberEnd_96 rfl (lv_at hl 3 rfl) ?_
          refine lv_icmp_le (tgt := 119) hx hb dX10_numberEnd_97 (by decide +kernel) (fun c_33 => ?_) (fun c_33 => ?_)
          · rw [fa_le] at c_33
            refine lv_iload_n hx hb dX10_numberEnd_119 rfl (lv_at hl 0 rfl) ?_
            exact W.iret hx hb hr (fun t ht hW => ⟨⟨_, 1000, rfl, ⟨(by omega), numE_of (b := bb) hsg (rn_end (a := z_18) (by omega) (by omega) (by omega) hal (fun _ h8 => by unfold isDi at h8; rw [← ez_24] at h8; omega)) hbb (Or.inl ⟨(tneq (x := ii) (by omega) (by omega)), (by decide +kernel)⟩)⟩, by rw [ht]; exact hP.sub [0, 1] rfl, hD.sub [0, 1] (by decide +kernel) rfl⟩, hS.F ht⟩) hS.2.2 dX10_numberEnd_120
          · rw [fa_le] at c_33
            refine lv_aload_n hx hb dX10_numberEnd_100 rfl (lv_at hl 2 rfl) ?_
            refine va_get (D := D) (ci := 7) (v := .int 1000) (C := RX10) (T := TX10) (N := 7) hx hb hts in_X10_numberEnd_X10 hown hE.1 hP 0 rfl rfl 6 (by decide +kernel) (hts (.fieldLink RX10 31 "ClauseBook$Tape" "number" "I") (List.mem_of_getElem? (i := 2) rfl)) (fun _ h9 => h9) rfl dX10_numberEnd_101 ?_
            refine lv_sipush (v := 1000) hx hb dX10_numberEnd_104 (by decide +kernel) ?_
            refine lv_icmp_eq (tgt := 119) hx hb dX10_numberEnd_107 (by decide +kernel) (fun _ => ?_) (fun c9 => absurd c9 (by decide +kernel))
            refine lv_iload_n hx hb dX10_numberEnd_119 rfl (lv_at hl 0 rfl) ?_
            exact W.iret hx hb hr (fun t ht hW => ⟨⟨_, 1000, rfl, ⟨(by omega), numE_of (b := bb) hsg (rn_end (a := z_18) (by omega) (by omega) (by omega) hal (fun _ h8 => by unfold isDi at h8; rw [← ez_24] at h8; omega)) hbb (Or.inl ⟨(tneq (x := ii) (by omega) (by omega)), (by decide +kernel)⟩)⟩, by rw [ht]; exact hP.sub [0, 1] rfl, hD.sub [0, 1] (by decide +kernel) rfl⟩, hS.F ht⟩) hS.2.2 dX10_numberEnd_120
/-- the first k words are kinds, and a clause is awaited at each -/
def okT (f : Nat → Int32) (k : Nat) : Prop := ∀ j : Nat, j < k → (0 ≤ (f j).toInt ∧ (f j).toInt ≤ 12) ∧ 0 ≤ smT f j
theorem smT_up {f : Nat → Int32} {k : Nat} {v : Int32} : ∀ j : Nat, j ≤ k → smT (upd f k v) j = smT f j
  | 0, _ => rfl
  | j + 1, h => by
    have e : upd f k v j = f j := by simp only [upd]; rw [if_neg (by omega)]
    show smT (upd f k v) j + (nmT (upd f k v j).toNatClampNeg).toInt - 1 = smT f j + (nmT (f j).toNatClampNeg).toInt - 1
    rw [smT_up j (by omega), e]
theorem okT_up {f : Nat → Int32} {k : Nat} {v : Int32} (h : okT f k) (hv : 0 ≤ v.toInt ∧ v.toInt ≤ 12) (hs : 0 ≤ smT f k) : okT (upd f k v) (k + 1) ∧ smT (upd f k v) (k + 1) = smT f k + (nmT v.toNatClampNeg).toInt - 1 := by
  constructor
  · intro j hj
    by_cases e : j = k
    · subst e
      refine ⟨?_, by rw [smT_up j (Nat.le_refl j)]; exact hs⟩
      simp only [upd, if_pos]; exact hv
    · have h9 := h j (by omega)
      refine ⟨?_, by rw [smT_up j (by omega)]; exact h9.2⟩
      simp only [upd, if_neg e]; exact h9.1
  · show smT (upd f k v) k + (nmT (upd f k v k).toNatClampNeg).toInt - 1 = _
    rw [smT_up k (Nat.le_refl k), upd_at]

theorem dX10_scan_0 : decode cX10_scan 0 = .ok (.iconst 0, 1) := by decide +kernel
theorem dX10_scan_1 : decode cX10_scan 1 = .ok (.istore_n 2, 1) := by decide +kernel
theorem dX10_scan_101 : decode cX10_scan 101 = .ok (.iload_n 2, 1) := by decide +kernel
theorem dX10_scan_102 : decode cX10_scan 102 = .ok (.ireturn, 1) := by decide +kernel
theorem dX10_scan_103 : decode cX10_scan 103 = .ok (.aload_n 0, 1) := by decide +kernel
theorem dX10_scan_104 : decode cX10_scan 104 = .ok (.getfield 22, 3) := by decide +kernel
theorem dX10_scan_107 : decode cX10_scan 107 = .ok (.aload_n 0, 1) := by decide +kernel
theorem dX10_scan_108 : decode cX10_scan 108 = .ok (.getfield 25, 3) := by decide +kernel
theorem dX10_scan_111 : decode cX10_scan 111 = .ok (.iconst 1, 1) := by decide +kernel
theorem dX10_scan_112 : decode cX10_scan 112 = .ok (.isub, 1) := by decide +kernel
theorem dX10_scan_113 : decode cX10_scan 113 = .ok (.aload_n 0, 1) := by decide +kernel
theorem dX10_scan_114 : decode cX10_scan 114 = .ok (.getfield 31, 3) := by decide +kernel
theorem dX10_scan_117 : decode cX10_scan 117 = .ok (.iastore, 1) := by decide +kernel
theorem dX10_scan_118 : decode cX10_scan 118 = .ok (.iconst 0, 1) := by decide +kernel
theorem dX10_scan_119 : decode cX10_scan 119 = .ok (.istore 4, 2) := by decide +kernel
theorem dX10_scan_12 : decode cX10_scan 12 = .ok (.iconst 0, 1) := by decide +kernel
theorem dX10_scan_121 : decode cX10_scan 121 = .ok (.goto 101, 3) := by decide +kernel
theorem dX10_scan_124 : decode cX10_scan 124 = .ok (.aload_n 0, 1) := by decide +kernel
theorem dX10_scan_125 : decode cX10_scan 125 = .ok (.iload_n 2, 1) := by decide +kernel
theorem dX10_scan_126 : decode cX10_scan 126 = .ok (.invokevirtual 54, 3) := by decide +kernel
theorem dX10_scan_129 : decode cX10_scan 129 = .ok (.istore 6, 2) := by decide +kernel
theorem dX10_scan_13 : decode cX10_scan 13 = .ok (.istore 5, 2) := by decide +kernel
theorem dX10_scan_131 : decode cX10_scan 131 = .ok (.aload_n 0, 1) := by decide +kernel
theorem dX10_scan_132 : decode cX10_scan 132 = .ok (.iload_n 2, 1) := by decide +kernel
theorem dX10_scan_133 : decode cX10_scan 133 = .ok (.iload 6, 2) := by decide +kernel
theorem dX10_scan_135 : decode cX10_scan 135 = .ok (.invokevirtual 57, 3) := by decide +kernel
theorem dX10_scan_138 : decode cX10_scan 138 = .ok (.istore 7, 2) := by decide +kernel
theorem dX10_scan_140 : decode cX10_scan 140 = .ok (.iload_n 3, 1) := by decide +kernel
theorem dX10_scan_141 : decode cX10_scan 141 = .ok (.ifCond .eq 9, 3) := by decide +kernel
theorem dX10_scan_144 : decode cX10_scan 144 = .ok (.iload 7, 2) := by decide +kernel
theorem dX10_scan_146 : decode cX10_scan 146 = .ok (.iconst (-1), 1) := by decide +kernel
theorem dX10_scan_147 : decode cX10_scan 147 = .ok (.if_icmp .ne 5, 3) := by decide +kernel
theorem dX10_scan_15 : decode cX10_scan 15 = .ok (.iload 5, 2) := by decide +kernel
theorem dX10_scan_150 : decode cX10_scan 150 = .ok (.iload_n 2, 1) := by decide +kernel
theorem dX10_scan_151 : decode cX10_scan 151 = .ok (.ireturn, 1) := by decide +kernel
theorem dX10_scan_152 : decode cX10_scan 152 = .ok (.getstatic 34, 3) := by decide +kernel
theorem dX10_scan_155 : decode cX10_scan 155 = .ok (.iload 7, 2) := by decide +kernel
theorem dX10_scan_157 : decode cX10_scan 157 = .ok (.aaload, 1) := by decide +kernel
theorem dX10_scan_158 : decode cX10_scan 158 = .ok (.astore 8, 2) := by decide +kernel
theorem dX10_scan_160 : decode cX10_scan 160 = .ok (.iload_n 3, 1) := by decide +kernel
theorem dX10_scan_161 : decode cX10_scan 161 = .ok (.aload 8, 2) := by decide +kernel
theorem dX10_scan_163 : decode cX10_scan 163 = .ok (.getfield 61, 3) := by decide +kernel
theorem dX10_scan_166 : decode cX10_scan 166 = .ok (.iconst 1, 1) := by decide +kernel
theorem dX10_scan_167 : decode cX10_scan 167 = .ok (.isub, 1) := by decide +kernel
theorem dX10_scan_168 : decode cX10_scan 168 = .ok (.iadd, 1) := by decide +kernel
theorem dX10_scan_169 : decode cX10_scan 169 = .ok (.istore_n 3, 1) := by decide +kernel
theorem dX10_scan_17 : decode cX10_scan 17 = .ok (.bipush 120, 2) := by decide +kernel
theorem dX10_scan_170 : decode cX10_scan 170 = .ok (.aload_n 0, 1) := by decide +kernel
theorem dX10_scan_171 : decode cX10_scan 171 = .ok (.getfield 25, 3) := by decide +kernel
theorem dX10_scan_174 : decode cX10_scan 174 = .ok (.iconst 1, 1) := by decide +kernel
theorem dX10_scan_175 : decode cX10_scan 175 = .ok (.iadd, 1) := by decide +kernel
theorem dX10_scan_176 : decode cX10_scan 176 = .ok (.iload_n 3, 1) := by decide +kernel
theorem dX10_scan_177 : decode cX10_scan 177 = .ok (.iadd, 1) := by decide +kernel
theorem dX10_scan_178 : decode cX10_scan 178 = .ok (.iload_n 1, 1) := by decide +kernel
theorem dX10_scan_179 : decode cX10_scan 179 = .ok (.if_icmp .le 5, 3) := by decide +kernel
theorem dX10_scan_182 : decode cX10_scan 182 = .ok (.iload_n 2, 1) := by decide +kernel
theorem dX10_scan_183 : decode cX10_scan 183 = .ok (.ireturn, 1) := by decide +kernel
theorem dX10_scan_184 : decode cX10_scan 184 = .ok (.aload_n 0, 1) := by decide +kernel
theorem dX10_scan_185 : decode cX10_scan 185 = .ok (.getfield 19, 3) := by decide +kernel
theorem dX10_scan_188 : decode cX10_scan 188 = .ok (.aload_n 0, 1) := by decide +kernel
theorem dX10_scan_189 : decode cX10_scan 189 = .ok (.getfield 25, 3) := by decide +kernel
theorem dX10_scan_19 : decode cX10_scan 19 = .ok (.if_icmp .ge 212, 3) := by decide +kernel
theorem dX10_scan_192 : decode cX10_scan 192 = .ok (.iload 7, 2) := by decide +kernel
theorem dX10_scan_194 : decode cX10_scan 194 = .ok (.iastore, 1) := by decide +kernel
theorem dX10_scan_195 : decode cX10_scan 195 = .ok (.aload_n 0, 1) := by decide +kernel
theorem dX10_scan_196 : decode cX10_scan 196 = .ok (.getfield 22, 3) := by decide +kernel
theorem dX10_scan_199 : decode cX10_scan 199 = .ok (.aload_n 0, 1) := by decide +kernel
theorem dX10_scan_2 : decode cX10_scan 2 = .ok (.iconst 1, 1) := by decide +kernel
theorem dX10_scan_200 : decode cX10_scan 200 = .ok (.getfield 25, 3) := by decide +kernel
theorem dX10_scan_203 : decode cX10_scan 203 = .ok (.iconst 0, 1) := by decide +kernel
theorem dX10_scan_204 : decode cX10_scan 204 = .ok (.iastore, 1) := by decide +kernel
theorem dX10_scan_205 : decode cX10_scan 205 = .ok (.aload_n 0, 1) := by decide +kernel
theorem dX10_scan_206 : decode cX10_scan 206 = .ok (.dup, 1) := by decide +kernel
theorem dX10_scan_207 : decode cX10_scan 207 = .ok (.getfield 25, 3) := by decide +kernel
theorem dX10_scan_210 : decode cX10_scan 210 = .ok (.iconst 1, 1) := by decide +kernel
theorem dX10_scan_211 : decode cX10_scan 211 = .ok (.iadd, 1) := by decide +kernel
theorem dX10_scan_212 : decode cX10_scan 212 = .ok (.putfield 25, 3) := by decide +kernel
theorem dX10_scan_215 : decode cX10_scan 215 = .ok (.aload 8, 2) := by decide +kernel
theorem dX10_scan_217 : decode cX10_scan 217 = .ok (.invokevirtual 64, 3) := by decide +kernel
theorem dX10_scan_22 : decode cX10_scan 22 = .ok (.iload_n 2, 1) := by decide +kernel
theorem dX10_scan_220 : decode cX10_scan 220 = .ok (.istore 4, 2) := by decide +kernel
theorem dX10_scan_222 : decode cX10_scan 222 = .ok (.iload 6, 2) := by decide +kernel
theorem dX10_scan_224 : decode cX10_scan 224 = .ok (.istore_n 2, 1) := by decide +kernel
theorem dX10_scan_225 : decode cX10_scan 225 = .ok (.iinc 5 1, 3) := by decide +kernel
theorem dX10_scan_228 : decode cX10_scan 228 = .ok (.goto (-213), 3) := by decide +kernel
theorem dX10_scan_23 : decode cX10_scan 23 = .ok (.aload_n 0, 1) := by decide +kernel
theorem dX10_scan_231 : decode cX10_scan 231 = .ok (.iload_n 3, 1) := by decide +kernel
theorem dX10_scan_232 : decode cX10_scan 232 = .ok (.ifCond .gt 8, 3) := by decide +kernel
theorem dX10_scan_235 : decode cX10_scan 235 = .ok (.iload 4, 2) := by decide +kernel
theorem dX10_scan_237 : decode cX10_scan 237 = .ok (.ifCond .eq 10, 3) := by decide +kernel
theorem dX10_scan_24 : decode cX10_scan 24 = .ok (.getfield 9, 3) := by decide +kernel
theorem dX10_scan_240 : decode cX10_scan 240 = .ok (.aload_n 0, 1) := by decide +kernel
theorem dX10_scan_241 : decode cX10_scan 241 = .ok (.getfield 9, 3) := by decide +kernel
theorem dX10_scan_244 : decode cX10_scan 244 = .ok (.goto 4, 3) := by decide +kernel
theorem dX10_scan_247 : decode cX10_scan 247 = .ok (.iconst (-1), 1) := by decide +kernel
theorem dX10_scan_248 : decode cX10_scan 248 = .ok (.ireturn, 1) := by decide +kernel
theorem dX10_scan_27 : decode cX10_scan 27 = .ok (.if_icmp .ge 204, 3) := by decide +kernel
theorem dX10_scan_3 : decode cX10_scan 3 = .ok (.istore_n 3, 1) := by decide +kernel
theorem dX10_scan_30 : decode cX10_scan 30 = .ok (.iload_n 2, 1) := by decide +kernel
theorem dX10_scan_31 : decode cX10_scan 31 = .ok (.iconst 1, 1) := by decide +kernel
theorem dX10_scan_32 : decode cX10_scan 32 = .ok (.iadd, 1) := by decide +kernel
theorem dX10_scan_33 : decode cX10_scan 33 = .ok (.istore 6, 2) := by decide +kernel
theorem dX10_scan_35 : decode cX10_scan 35 = .ok (.aload_n 0, 1) := by decide +kernel
theorem dX10_scan_36 : decode cX10_scan 36 = .ok (.getfield 15, 3) := by decide +kernel
theorem dX10_scan_39 : decode cX10_scan 39 = .ok (.iload_n 2, 1) := by decide +kernel
theorem dX10_scan_4 : decode cX10_scan 4 = .ok (.iconst 0, 1) := by decide +kernel
theorem dX10_scan_40 : decode cX10_scan 40 = .ok (.iaload, 1) := by decide +kernel
theorem dX10_scan_41 : decode cX10_scan 41 = .ok (.bipush 32, 2) := by decide +kernel
theorem dX10_scan_43 : decode cX10_scan 43 = .ok (.if_icmp .ne 9, 3) := by decide +kernel
theorem dX10_scan_46 : decode cX10_scan 46 = .ok (.iload 6, 2) := by decide +kernel
theorem dX10_scan_48 : decode cX10_scan 48 = .ok (.istore_n 2, 1) := by decide +kernel
theorem dX10_scan_49 : decode cX10_scan 49 = .ok (.goto 176, 3) := by decide +kernel
theorem dX10_scan_5 : decode cX10_scan 5 = .ok (.istore 4, 2) := by decide +kernel
theorem dX10_scan_52 : decode cX10_scan 52 = .ok (.iload 4, 2) := by decide +kernel
theorem dX10_scan_54 : decode cX10_scan 54 = .ok (.ifCond .eq 70, 3) := by decide +kernel
theorem dX10_scan_57 : decode cX10_scan 57 = .ok (.getstatic 34, 3) := by decide +kernel
theorem dX10_scan_60 : decode cX10_scan 60 = .ok (.aload_n 0, 1) := by decide +kernel
theorem dX10_scan_61 : decode cX10_scan 61 = .ok (.getfield 19, 3) := by decide +kernel
theorem dX10_scan_64 : decode cX10_scan 64 = .ok (.aload_n 0, 1) := by decide +kernel
theorem dX10_scan_65 : decode cX10_scan 65 = .ok (.getfield 25, 3) := by decide +kernel
theorem dX10_scan_68 : decode cX10_scan 68 = .ok (.iconst 1, 1) := by decide +kernel
theorem dX10_scan_69 : decode cX10_scan 69 = .ok (.isub, 1) := by decide +kernel
theorem dX10_scan_7 : decode cX10_scan 7 = .ok (.aload_n 0, 1) := by decide +kernel
theorem dX10_scan_70 : decode cX10_scan 70 = .ok (.iaload, 1) := by decide +kernel
theorem dX10_scan_71 : decode cX10_scan 71 = .ok (.aaload, 1) := by decide +kernel
theorem dX10_scan_72 : decode cX10_scan 72 = .ok (.astore 7, 2) := by decide +kernel
theorem dX10_scan_74 : decode cX10_scan 74 = .ok (.aload_n 0, 1) := by decide +kernel
theorem dX10_scan_75 : decode cX10_scan 75 = .ok (.iload_n 2, 1) := by decide +kernel
theorem dX10_scan_76 : decode cX10_scan 76 = .ok (.invokevirtual 40, 3) := by decide +kernel
theorem dX10_scan_79 : decode cX10_scan 79 = .ok (.istore 6, 2) := by decide +kernel
theorem dX10_scan_8 : decode cX10_scan 8 = .ok (.iconst 0, 1) := by decide +kernel
theorem dX10_scan_81 : decode cX10_scan 81 = .ok (.aload_n 0, 1) := by decide +kernel
theorem dX10_scan_82 : decode cX10_scan 82 = .ok (.getfield 31, 3) := by decide +kernel
theorem dX10_scan_85 : decode cX10_scan 85 = .ok (.aload 7, 2) := by decide +kernel
theorem dX10_scan_87 : decode cX10_scan 87 = .ok (.getfield 44, 3) := by decide +kernel
theorem dX10_scan_9 : decode cX10_scan 9 = .ok (.putfield 25, 3) := by decide +kernel
theorem dX10_scan_90 : decode cX10_scan 90 = .ok (.aload 7, 2) := by decide +kernel
theorem dX10_scan_92 : decode cX10_scan 92 = .ok (.getfield 47, 3) := by decide +kernel
theorem dX10_scan_95 : decode cX10_scan 95 = .ok (.invokestatic 50, 3) := by decide +kernel
theorem dX10_scan_98 : decode cX10_scan 98 = .ok (.ifCond .ne 5, 3) := by decide +kernel
set_option maxRecDepth 40000 in
theorem ggX10_scan_X10_kindAt_0 : GoodIn wsX10_scan [.code yX10_kindAt cX10_kindAt 4 (some .int)] := goodIn_r _ [29] rfl (by decide +kernel)
set_option maxRecDepth 40000 in
theorem ggX10_scan_X10_kindAt_1 : GoodIn wsX10_scan wsX10_kindAt_r1 := goodIn_r _ [30, 31, 32, 33, 13, 34, 3, 35, 36, 37, 38, 39, 40, 41, 42, 43, 44, 45, 46, 47, 48, 49, 50, 51] rfl (by decide +kernel)
set_option maxRecDepth 40000 in
theorem ggX10_scan_X10_kindAt_2 : GoodIn wsX10_scan wsX10_kindAt_r2 := goodIn_r _ [52, 53, 54, 55, 56, 57, 58, 59, 60, 61, 62, 63, 64, 65, 66, 67, 68, 69, 70, 71, 72, 73, 74, 75] rfl (by decide +kernel)
set_option maxRecDepth 40000 in
theorem ggX10_scan_X10_kindAt_3 : GoodIn wsX10_scan wsX10_kindAt_r3 := goodIn_r _ [76, 77, 78, 79, 80, 81, 82, 83] rfl (by decide +kernel)
set_option maxRecDepth 40000 in
theorem ggX10_scan_X10_kindAt_4 : GoodIn wsX10_scan wsX100 := goodIn_r _ [91, 92, 93, 94, 95, 96, 97] rfl (by decide +kernel)
set_option maxRecDepth 40000 in
theorem ggX10_scan_X10_kindAt : GoodIn wsX10_scan wsX10_kindAt := (goodIn_app ggX10_scan_X10_kindAt_0 (goodIn_app (goodIn_app ggX10_scan_X10_kindAt_1 (goodIn_app ggX10_scan_X10_kindAt_2 ggX10_scan_X10_kindAt_3)) ggX10_scan_X10_kindAt_4))
set_option maxRecDepth 20000 in
theorem ggX10_scan_X10_numberEnd : GoodIn wsX10_scan wsX10_numberEnd := goodIn_r _ [14, 3, 5, 2, 15, 16, 17, 18, 19, 20, 21, 91, 92, 93, 94, 95, 96, 97] rfl (by decide +kernel)
set_option maxRecDepth 20000 in
theorem ggX10_scan_X10_wordEnd : GoodIn wsX10_scan wsX10_wordEnd := goodIn_r _ [25, 2, 3, 19, 20, 21, 91, 92, 93, 94, 95, 96, 97] rfl (by decide +kernel)
set_option maxRecDepth 20000 in
theorem ggX10_scan_X12_within : GoodIn wsX10_scan wsX12_within := goodIn_r _ [21] rfl (by decide +kernel)
set_option maxRecDepth 20000 in
theorem ggX10_scan_X7_numbered : GoodIn wsX10_scan wsX7_numbered := goodIn_r _ [88, 89, 90] rfl (by decide +kernel)
set_option maxRecDepth 20000 in
theorem gX10_scan_X10_kindAt : GoodIn wsX10_scan (wsV RX10 57 RX10 yX10_kindAt wsX10_kindAt) := goodIn_app (goodIn_r _ [26, 27, 28, 13] rfl (by decide +kernel)) ggX10_scan_X10_kindAt
set_option maxRecDepth 20000 in
theorem gX10_scan_X10_numberEnd : GoodIn wsX10_scan (wsV RX10 40 RX10 yX10_numberEnd wsX10_numberEnd) := goodIn_app (goodIn_r _ [10, 11, 12, 13] rfl (by decide +kernel)) ggX10_scan_X10_numberEnd
set_option maxRecDepth 20000 in
theorem gX10_scan_X10_wordEnd : GoodIn wsX10_scan (wsV RX10 54 RX10 yX10_wordEnd wsX10_wordEnd) := goodIn_app (goodIn_r _ [22, 23, 24, 13] rfl (by decide +kernel)) ggX10_scan_X10_wordEnd
set_option maxRecDepth 20000 in
theorem gX10_scan_X12_within_n50 : GoodIn wsX10_scan (wsX12_within) := ggX10_scan_X12_within
set_option maxRecDepth 20000 in
theorem gX10_scan_X7_numbered : GoodIn wsX10_scan (wsV RX10 64 RX7 yX7_numbered wsX7_numbered) := goodIn_app (goodIn_r _ [84, 85, 86, 87] rfl (by decide +kernel)) ggX10_scan_X7_numbered
theorem hv_X10_kindAt : yX10_kindAt.cls = RX10 ∧ yX10_kindAt.cls ≠ "java/lang/invoke/MethodHandle" ∧ yX10_kindAt.cls ≠ "java/lang/invoke/VarHandle" ∧ (parseMethodDescriptor yX10_kindAt.desc).map (fun d => d.parameters.length) = some 2 := by decide +kernel
theorem hv_X10_numberEnd : yX10_numberEnd.cls = RX10 ∧ yX10_numberEnd.cls ≠ "java/lang/invoke/MethodHandle" ∧ yX10_numberEnd.cls ≠ "java/lang/invoke/VarHandle" ∧ (parseMethodDescriptor yX10_numberEnd.desc).map (fun d => d.parameters.length) = some 1 := by decide +kernel
theorem hv_X10_wordEnd : yX10_wordEnd.cls = RX10 ∧ yX10_wordEnd.cls ≠ "java/lang/invoke/MethodHandle" ∧ yX10_wordEnd.cls ≠ "java/lang/invoke/VarHandle" ∧ (parseMethodDescriptor yX10_wordEnd.desc).map (fun d => d.parameters.length) = some 1 := by decide +kernel
theorem hv_X7_numbered : yX7_numbered.cls = RX7 ∧ yX7_numbered.cls ≠ "java/lang/invoke/MethodHandle" ∧ yX7_numbered.cls ≠ "java/lang/invoke/VarHandle" ∧ (parseMethodDescriptor yX7_numbered.desc).map (fun d => d.parameters.length) = some 0 := by decide +kernel
set_option maxRecDepth 20000 in
theorem in_X10_scan_X10 : ∀ w ∈ wsX100, w ∈ wsX10_scan := sub_r [91, 92, 93, 94, 95, 96, 97] rfl
set_option maxHeartbeats 4000000 in
set_option maxRecDepth 100000 in
theorem c_X10_scan (l : Launch) (D : va_G) (T : Nat → ClassId) (ad sa av : Nat → Nat) (ta : Nat) (sz : Nat) (h0 : Nat) (yb : Nat) (ki : Nat) (nu : Nat) (n : Int32) (wd : Int32) (nx : Int32) (nb : Int32) (fb : Nat → Int32) (fk : Nat → Int32) (fn : Nat → Int32) (x1 : Int32) (hn : 0 ≤ n.toInt ∧ n.toInt ≤ 120) (hx1 : x1.toInt ≤ 24) : Met l yX10_scan wsX10_scan ({ frames := 6, cells := 0, slots := 0, locals := 132 }) (pWk [.ref h0, .int x1] D T [(h0, .inr (7, [.int n, .ref yb, .ref ki, .ref nu, .int wd, .int nx, .int nb])), (yb, .inl (T 0, 120, .inl fb)), (ki, .inl (T 0, 24, .inl fk)), (nu, .inl (T 0, 24, .inl fn))] sz ad sa av ta) (va_Qi (fun (r : Int32) (u : Int32 × Int32 × (Nat → Int32) × (Nat → Int32)) => (r.toInt = -1 ∧ txtK fb n.toNatClampNeg x1.toInt u.2.2.1 u.2.2.2 u.1.toNatClampNeg ∧ (1 ≤ u.1.toInt ∧ u.1.toInt ≤ x1.toInt) ∧ okT u.2.2.1 u.1.toNatClampNeg ∧ smT u.2.2.1 u.1.toNatClampNeg = -1) ∨ (0 ≤ r.toInt ∧ txtF fb n.toNatClampNeg x1.toInt r.toNatClampNeg)) (bW D (va_A [(h0, .inr (7, [.int n, .ref yb, .ref ki, .ref nu, .int wd, .int nx, .int nb])), (yb, .inl (T 0, 120, .inl fb)), (ki, .inl (T 0, 24, .inl fk)), (nu, .inl (T 0, 24, .inl fn))] sz) (fun (u : Int32 × Int32 × (Nat → Int32) × (Nat → Int32)) => [(h0, .inr (7, [.int n, .ref yb, .ref ki, .ref nu, .int u.1, .int nx, .int u.2.1])), (yb, .inl (T 0, 120, .inl fb)), (ki, .inl (T 0, 24, .inl u.2.2.1)), (nu, .inl (T 0, 24, .inl u.2.2.2))])) (va_A [(h0, .inr (7, [.int n, .ref yb, .ref ki, .ref nu, .int wd, .int nx, .int nb])), (yb, .inl (T 0, 120, .inl fb)), (ki, .inl (T 0, 24, .inl fk)), (nu, .inl (T 0, 24, .inl fn))] sz)) 0 0 (va_A [(h0, .inr (7, [.int n, .ref yb, .ref ki, .ref nu, .int wd, .int nx, .int nb])), (yb, .inl (T 0, 120, .inl fb)), (ki, .inl (T 0, 24, .inl fk)), (nu, .inl (T 0, 24, .inl fn))] sz) := by
  refine Met.ofW (cc := cX10_scan) (maxL := 9) (ret := (some .int)) (by decide +kernel) rfl ?_
  intro p e s m args below meth c s₁ B hml hv
  obtain ⟨rfl, hsz, hP, hE, hD0, hV⟩ := hv
  have hx := B.exec
  have hb := B.bytes
  have hr := B.returns
  have hts := atoms_spec (ws := wsX10_scan) B.pre
  have hown : s.vm.findClass RX10 = some m.cls := findClass_of_methodNamed B.named
  have hlocks := B.notSynchronized
  subst hsz
  have hD := hD0.self (sz := s.heap.size)
  generalize hAe : va_A [(h0, .inr (7, [.int n, .ref yb, .ref ki, .ref nu, .int wd, .int nx, .int nb])), (yb, .inl (T 0, 120, .inl fb)), (ki, .inl (T 0, 24, .inl fk)), (nu, .inl (T 0, 24, .inl fn))] s.heap.size = A at hD hV ⊢
  have hA : ∀ q : Nat, s.heap.size ≤ q → A q := fun q h => by rw [← hAe]; exact Or.inr h
  have hS : va_S A s.heap s.heap [] := va_S.rf
  have hP : va_P D vwCl [(h0, .inr (7, [.int n, .ref yb, .ref ki, .ref nu, .int wd, .int nx, .int nb])), (yb, .inl (T 0, 120, .inl fb)), (ki, .inl (T 0, 24, .inl fk)), (nu, .inl (T 0, 24, .inl fn))] s.heap := hP
  have hl := lv_entry ([.ref h0, .int x1]) (n := 9) (Nat.le_of_ble_eq_true rfl)
  rw [lg_entry_eq]
  generalize (lg_sl ([.ref h0, .int x1]) ++ List.replicate (9 - (lg_sl ([.ref h0, .int x1])).length) Slot.unset).toArray = ls at hl ⊢
  have hl : lv_has ls 9 [(0, .ref h0), (1, .int x1)] := hl
  clear hD0
  refine lv_iconst (v := 0) hx hb dX10_scan_0 (by decide +kernel) ?_
  refine lv_istore_n (lv' := [(2, .int 0), (0, .ref h0), (1, .int x1)]) hx hb dX10_scan_1 rfl hl (by decide +kernel) rfl (fun ls hl => ?_)
  refine lv_iconst (v := 1) hx hb dX10_scan_2 (by decide +kernel) ?_
  refine lv_istore_n (lv' := [(3, .int 1), (2, .int 0), (0, .ref h0), (1, .int x1)]) hx hb dX10_scan_3 rfl hl (by decide +kernel) rfl (fun ls hl => ?_)
  refine lv_iconst (v := 0) hx hb dX10_scan_4 (by decide +kernel) ?_
  refine lv_istore (lv' := [(4, .int 0), (3, .int 1), (2, .int 0), (0, .ref h0), (1, .int x1)]) hx hb dX10_scan_5 hl (by decide +kernel) rfl (fun ls hl => ?_)
  refine lv_aload_n hx hb dX10_scan_7 rfl (lv_at hl 3 rfl) ?_
  refine lv_iconst (v := 0) hx hb dX10_scan_8 (by decide +kernel) ?_
  refine va_put (D := D) (ci := 7) (v := .int 0) (ty := .int) (C := RX10) (T := TX10) (N := 7) hx hb hts in_X10_scan_X10 tyX10 tyX10_ok nmX10 hown hE.1 hP hD hS 0 rfl rfl 4 (by decide +kernel) (hts (.fieldLink RX10 25 "ClauseBook$Tape" "words" "I") (List.mem_of_getElem? (i := 1) rfl)) (fun _ h9 => h9) rfl (by decide +kernel) rfl rfl (Nat.le_of_ble_eq_true rfl) dX10_scan_9 (fun H locs hP hD hS => ?_)
  obtain ⟨hP, hD⟩ := wPD [(h0, .inr (7, [.int n, .ref yb, .ref ki, .ref nu, .int 0, .int nx, .int nb])), (yb, .inl (T 0, 120, .inl fb)), (ki, .inl (T 0, 24, .inl fk)), (nu, .inl (T 0, 24, .inl fn))] hP hD rfl
  refine lv_iconst (v := 0) hx hb dX10_scan_12 (by decide +kernel) ?_
  refine lv_istore (lv' := [(5, .int 0), (4, .int 0), (3, .int 1), (2, .int 0), (0, .ref h0), (1, .int x1)]) hx hb dX10_scan_13 hl (by decide +kernel) rfl (fun ls hl => ?_)
  refine loopW (σ := (Int32) × (Int32) × (Int32) × (Int32) × (Int32) × (Int32) × (Nat → Int32) × (Nat → Int32)) (fun x9 ls H locs => lv_has ls 9 [(5, .int x9.1), (2, .int x9.2.1), (3, .int x9.2.2.1), (4, .int x9.2.2.2.1), (0, .ref h0), (1, .int x1)] ∧ va_P D vwCl [(h0, .inr (7, [.int n, .ref yb, .ref ki, .ref nu, .int x9.2.2.2.2.1, .int nx, .int x9.2.2.2.2.2.1])), (yb, .inl (T 0, 120, .inl fb)), (ki, .inl (T 0, 24, .inl x9.2.2.2.2.2.2.1)), (nu, .inl (T 0, 24, .inl x9.2.2.2.2.2.2.2))] H ∧ va_D A [(h0, .inr (7, [.int n, .ref yb, .ref ki, .ref nu, .int x9.2.2.2.2.1, .int nx, .int x9.2.2.2.2.2.1])), (yb, .inl (T 0, 120, .inl fb)), (ki, .inl (T 0, 24, .inl x9.2.2.2.2.2.2.1)), (nu, .inl (T 0, 24, .inl x9.2.2.2.2.2.2.2))] ∧ va_S A s.heap H locs ∧ (((0 ≤ x9.2.1.toInt ∧ x9.2.1.toInt ≤ n.toInt) ∧ (0 ≤ x9.1.toInt ∧ x9.1.toInt ≤ x9.2.1.toInt) ∧ (0 ≤ x9.2.2.2.2.1.toInt ∧ x9.2.2.2.2.1.toInt ≤ 24) ∧ (0 ≤ x9.2.2.1.toInt ∧ x9.2.2.1.toInt ≤ 100) ∧ (x9.2.2.2.2.1.toInt = 0 ∨ x9.2.2.2.2.1.toInt + x9.2.2.1.toInt ≤ x1.toInt)) ∧ (x9.2.2.1.toInt = 1 + smT x9.2.2.2.2.2.2.1 x9.2.2.2.2.1.toNatClampNeg) ∧ okT x9.2.2.2.2.2.2.1 x9.2.2.2.2.1.toNatClampNeg ∧ scJ x9.2.2.2.1 fb n.toNatClampNeg x1.toInt x9.2.2.2.2.2.2.1 x9.2.2.2.2.2.2.2 x9.2.2.2.2.1.toNatClampNeg x9.2.1.toNatClampNeg)) (fun x9 => (120 - x9.1.toInt).toNat) (fun x9 ls H locs hI ih => ?_) (0, 0, 1, 0, 0, nb, fk, fn) ls ⟨lv_sub hl [0, 3, 2, 1, 4, 5] rfl, hP.sub [0, 1, 2, 3] rfl, hD.sub [0, 1, 2, 3] (by decide +kernel) rfl, hS, ⟨(by (try dsimp only); have h0t := ti_0; have h1t := ti_1; omega), (by (try dsimp only); rfl), (fun j hj => absurd hj (Nat.not_lt_zero j)), (Or.inl ⟨ti_0, scJ1_0⟩)⟩⟩
  obtain ⟨tu, at9, aw, na, ww, bb, gk, gn⟩ := x9
  obtain ⟨hl, hP, hD, hS, hinv⟩ := hI
  have hl : lv_has ls 9 [(5, .int tu), (2, .int at9), (3, .int aw), (4, .int na), (0, .ref h0), (1, .int x1)] := hl
  have hP : va_P D vwCl [(h0, .inr (7, [.int n, .ref yb, .ref ki, .ref nu, .int ww, .int nx, .int bb])), (yb, .inl (T 0, 120, .inl fb)), (ki, .inl (T 0, 24, .inl gk)), (nu, .inl (T 0, 24, .inl gn))] H := hP
  have hD : va_D A [(h0, .inr (7, [.int n, .ref yb, .ref ki, .ref nu, .int ww, .int nx, .int bb])), (yb, .inl (T 0, 120, .inl fb)), (ki, .inl (T 0, 24, .inl gk)), (nu, .inl (T 0, 24, .inl gn))] := hD
  have hinv : ((0 ≤ at9.toInt ∧ at9.toInt ≤ n.toInt) ∧ (0 ≤ tu.toInt ∧ tu.toInt ≤ at9.toInt) ∧ (0 ≤ ww.toInt ∧ ww.toInt ≤ 24) ∧ (0 ≤ aw.toInt ∧ aw.toInt ≤ 100) ∧ (ww.toInt = 0 ∨ ww.toInt + aw.toInt ≤ x1.toInt)) ∧ (aw.toInt = 1 + smT gk ww.toNatClampNeg) ∧ okT gk ww.toNatClampNeg ∧ scJ na fb n.toNatClampNeg x1.toInt gk gn ww.toNatClampNeg at9.toNatClampNeg := hinv
  obtain ⟨⟨ha, ht, hw, haw, hro⟩, hsm, hkT, hJ⟩ := hinv
  have hwc := tn hw.1
  refine lv_iload hx hb dX10_scan_15 (lv_at hl 0 rfl) ?_
  refine lv_bipush (v := 120) hx hb dX10_scan_17 (by decide +kernel) ?_
  refine lv_icmp_ge (tgt := 231) hx hb dX10_scan_19 (by decide +kernel) (fun c_1 => ?_) (fun c_1 => ?_)
  · rw [fa_le] at c_1
    try rw [ti_120] at c_1
    have hend : at9.toNatClampNeg = n.toNatClampNeg := (tneq (x := n) (y := at9) (by omega) (by omega))
    have hJe : scJ na fb n.toNatClampNeg x1.toInt gk gn ww.toNatClampNeg n.toNatClampNeg := by rw [hend] at hJ; exact hJ
    refine lv_iload_n hx hb dX10_scan_231 rfl (lv_at hl 2 rfl) ?_
    refine lv_if_gt (tgt := 240) hx hb dX10_scan_232 (by decide +kernel) (fun c_2 => ?_) (fun c_2 => ?_)
    · rw [fa_lt] at c_2
      try rw [ti_0] at c_2
      refine lv_aload_n hx hb dX10_scan_240 rfl (lv_at hl 4 rfl) ?_
      refine va_get (D := D) (ci := 7) (v := .int n) (C := RX10) (T := TX10) (N := 7) hx hb hts in_X10_scan_X10 hown hE.1 hP 0 rfl rfl 0 (by decide +kernel) (hts (.fieldLink RX10 9 "ClauseBook$Tape" "size" "I") (List.mem_of_getElem? (i := 2) rfl)) (fun _ h9 => h9) rfl dX10_scan_241 ?_
      refine lv_goto (tgt := 248) hx hb dX10_scan_244 (by decide +kernel) ?_
      exact W.iret hx hb hr (fun t ht hW => ⟨⟨_, (ww, bb, gk, gn), rfl, (Or.inr ⟨by omega, scJ.end hJ hend (fun h9 => by omega)⟩), by rw [ht]; exact hP.sub [0, 1, 2, 3] rfl, hD.sub [0, 1, 2, 3] (by decide +kernel) rfl⟩, hS.F ht⟩) hS.2.2 dX10_scan_248
    · rw [fa_lt] at c_2
      try rw [ti_0] at c_2
      refine lv_iload hx hb dX10_scan_235 (lv_at hl 3 rfl) ?_
      refine lv_if_eq (tgt := 247) hx hb dX10_scan_237 (by decide +kernel) (fun c_3 => ?_) (fun c_3 => ?_)
      · rw [fa_eq] at c_3
        try rw [ti_0] at c_3
        have h9w : ww.toNatClampNeg = 0 → smT gk ww.toNatClampNeg = 0 := fun e => (by rw [e]; rfl)
        refine lv_iconst (v := (-1)) hx hb dX10_scan_247 (by decide +kernel) ?_
        exact W.iret hx hb hr (fun t ht hW => ⟨⟨_, (ww, bb, gk, gn), rfl, (Or.inl ⟨by decide, (show txtK fb n.toNatClampNeg x1.toInt gk gn ww.toNatClampNeg from scK_end (scJ.one hJe (by omega)) (by omega)), (by (try dsimp only); omega), hkT, (by (try dsimp only); omega)⟩), by rw [ht]; exact hP.sub [0, 1, 2, 3] rfl, hD.sub [0, 1, 2, 3] (by decide +kernel) rfl⟩, hS.F ht⟩) hS.2.2 dX10_scan_248
      · rw [fa_eq] at c_3
        try rw [ti_0] at c_3
        refine lv_aload_n hx hb dX10_scan_240 rfl (lv_at hl 4 rfl) ?_
        refine va_get (D := D) (ci := 7) (v := .int n) (C := RX10) (T := TX10) (N := 7) hx hb hts in_X10_scan_X10 hown hE.1 hP 0 rfl rfl 0 (by decide +kernel) (hts (.fieldLink RX10 9 "ClauseBook$Tape" "size" "I") (List.mem_of_getElem? (i := 2) rfl)) (fun _ h9 => h9) rfl dX10_scan_241 ?_
        refine lv_goto (tgt := 248) hx hb dX10_scan_244 (by decide +kernel) ?_
        exact W.iret hx hb hr (fun t ht hW => ⟨⟨_, (ww, bb, gk, gn), rfl, (Or.inr ⟨by omega, scJ.end hJ hend (fun h9 => by omega)⟩), by rw [ht]; exact hP.sub [0, 1, 2, 3] rfl, hD.sub [0, 1, 2, 3] (by decide +kernel) rfl⟩, hS.F ht⟩) hS.2.2 dX10_scan_248
  · rw [fa_le] at c_1
    try rw [ti_120] at c_1
    refine lv_iload_n hx hb dX10_scan_22 rfl (lv_at hl 1 rfl) ?_
    refine lv_aload_n hx hb dX10_scan_23 rfl (lv_at hl 4 rfl) ?_
    refine va_get (D := D) (ci := 7) (v := .int n) (C := RX10) (T := TX10) (N := 7) hx hb hts in_X10_scan_X10 hown hE.1 hP 0 rfl rfl 0 (by decide +kernel) (hts (.fieldLink RX10 9 "ClauseBook$Tape" "size" "I") (List.mem_of_getElem? (i := 2) rfl)) (fun _ h9 => h9) rfl dX10_scan_24 ?_
    refine lv_icmp_ge (tgt := 231) hx hb dX10_scan_27 (by decide +kernel) (fun c_4 => ?_) (fun c_4 => ?_)
    · rw [fa_le] at c_4
      have hend : at9.toNatClampNeg = n.toNatClampNeg := (tneq (x := n) (y := at9) (by omega) (by omega))
      have hJe : scJ na fb n.toNatClampNeg x1.toInt gk gn ww.toNatClampNeg n.toNatClampNeg := by rw [hend] at hJ; exact hJ
      refine lv_iload_n hx hb dX10_scan_231 rfl (lv_at hl 2 rfl) ?_
      refine lv_if_gt (tgt := 240) hx hb dX10_scan_232 (by decide +kernel) (fun c_5 => ?_) (fun c_5 => ?_)
      · rw [fa_lt] at c_5
        try rw [ti_0] at c_5
        refine lv_aload_n hx hb dX10_scan_240 rfl (lv_at hl 4 rfl) ?_
        refine va_get (D := D) (ci := 7) (v := .int n) (C := RX10) (T := TX10) (N := 7) hx hb hts in_X10_scan_X10 hown hE.1 hP 0 rfl rfl 0 (by decide +kernel) (hts (.fieldLink RX10 9 "ClauseBook$Tape" "size" "I") (List.mem_of_getElem? (i := 2) rfl)) (fun _ h9 => h9) rfl dX10_scan_241 ?_
        refine lv_goto (tgt := 248) hx hb dX10_scan_244 (by decide +kernel) ?_
        exact W.iret hx hb hr (fun t ht hW => ⟨⟨_, (ww, bb, gk, gn), rfl, (Or.inr ⟨by omega, scJ.end hJ hend (fun h9 => by omega)⟩), by rw [ht]; exact hP.sub [0, 1, 2, 3] rfl, hD.sub [0, 1, 2, 3] (by decide +kernel) rfl⟩, hS.F ht⟩) hS.2.2 dX10_scan_248
      · rw [fa_lt] at c_5
        try rw [ti_0] at c_5
        refine lv_iload hx hb dX10_scan_235 (lv_at hl 3 rfl) ?_
        refine lv_if_eq (tgt := 247) hx hb dX10_scan_237 (by decide +kernel) (fun c_6 => ?_) (fun c_6 => ?_)
        · rw [fa_eq] at c_6
          try rw [ti_0] at c_6
          have h9w : ww.toNatClampNeg = 0 → smT gk ww.toNatClampNeg = 0 := fun e => (by rw [e]; rfl)
          refine lv_iconst (v := (-1)) hx hb dX10_scan_247 (by decide +kernel) ?_
          exact W.iret hx hb hr (fun t ht hW => ⟨⟨_, (ww, bb, gk, gn), rfl, (Or.inl ⟨by decide, (show txtK fb n.toNatClampNeg x1.toInt gk gn ww.toNatClampNeg from scK_end (scJ.one hJe (by omega)) (by omega)), (by (try dsimp only); omega), hkT, (by (try dsimp only); omega)⟩), by rw [ht]; exact hP.sub [0, 1, 2, 3] rfl, hD.sub [0, 1, 2, 3] (by decide +kernel) rfl⟩, hS.F ht⟩) hS.2.2 dX10_scan_248
        · rw [fa_eq] at c_6
          try rw [ti_0] at c_6
          refine lv_aload_n hx hb dX10_scan_240 rfl (lv_at hl 4 rfl) ?_
          refine va_get (D := D) (ci := 7) (v := .int n) (C := RX10) (T := TX10) (N := 7) hx hb hts in_X10_scan_X10 hown hE.1 hP 0 rfl rfl 0 (by decide +kernel) (hts (.fieldLink RX10 9 "ClauseBook$Tape" "size" "I") (List.mem_of_getElem? (i := 2) rfl)) (fun _ h9 => h9) rfl dX10_scan_241 ?_
          refine lv_goto (tgt := 248) hx hb dX10_scan_244 (by decide +kernel) ?_
          exact W.iret hx hb hr (fun t ht hW => ⟨⟨_, (ww, bb, gk, gn), rfl, (Or.inr ⟨by omega, scJ.end hJ hend (fun h9 => by omega)⟩), by rw [ht]; exact hP.sub [0, 1, 2, 3] rfl, hD.sub [0, 1, 2, 3] (by decide +kernel) rfl⟩, hS.F ht⟩) hS.2.2 dX10_scan_248
    · rw [fa_le] at c_4
      refine lv_iload_n hx hb dX10_scan_30 rfl (lv_at hl 1 rfl) ?_
      refine lv_iconst (v := 1) hx hb dX10_scan_31 (by decide +kernel) ?_
      refine lv_iadd hx hb dX10_scan_32 ?_
      refine lv_topi (fun z_7 ez_7 => ?_)
      refine lv_istore (lv' := [(6, .int z_7), (5, .int tu), (2, .int at9), (3, .int aw), (4, .int na), (0, .ref h0), (1, .int x1)]) hx hb dX10_scan_33 hl (by decide +kernel) rfl (fun ls hl => ?_)
      have hzz_7 : z_7.toInt = at9.toInt + 1 := by rw [ez_7]; exact inc1 (n := 1000) (by omega) (by decide +kernel)
      refine lv_aload_n hx hb dX10_scan_35 rfl (lv_at hl 5 rfl) ?_
      refine va_get (D := D) (ci := 7) (v := .ref yb) (C := RX10) (T := TX10) (N := 7) hx hb hts in_X10_scan_X10 hown hE.1 hP 0 rfl rfl 1 (by decide +kernel) (hts (.fieldLink RX10 15 "ClauseBook$Tape" "bytes" "[I") (List.mem_of_getElem? (i := 3) rfl)) (fun _ h9 => h9) rfl dX10_scan_36 ?_
      refine lv_iload_n hx hb dX10_scan_39 rfl (lv_at hl 2 rfl) ?_
      refine va_iald hx hb hE.1 hP 1 0 rfl rfl (by rw [vp_in_iff]; omega) dX10_scan_40 ?_
      refine lv_topi (fun z_8 ez_8 => ?_)
      refine lv_bipush (v := 32) hx hb dX10_scan_41 (by decide +kernel) ?_
      refine lv_icmp_ne (tgt := 52) hx hb dX10_scan_43 (by decide +kernel) (fun c_9 => ?_) (fun c_9 => ?_)
      · rw [fa_eq] at c_9
        try rw [ti_32] at c_9
        have hnb := nb_of ez_8 (by omega)
        have hat : at9.toNatClampNeg < n.toNatClampNeg := by have t1 := tn (x := at9) (by omega); have t2 := tn (x := n) (by omega); omega
        refine lv_iload hx hb dX10_scan_52 (lv_at hl 4 rfl) ?_
        refine lv_if_eq (tgt := 124) hx hb dX10_scan_54 (by decide +kernel) (fun c_10 => ?_) (fun c_10 => ?_)
        · rw [fa_eq] at c_10
          try rw [ti_0] at c_10
          have hJ1 := scJ.one hJ (by omega)
          refine lv_aload_n hx hb dX10_scan_124 rfl (lv_at hl 5 rfl) ?_
          refine lv_iload_n hx hb dX10_scan_125 rfl (lv_at hl 2 rfl) ?_
          refine vp_callSi (W.runV (As := [.int at9]) (rest := []) ⟨hx, hb, hml, hown, hts⟩ (c_X10_wordEnd l D T h0 [.int n, .ref yb, .ref ki, .ref nu, .int ww, .int nx, .int bb] yb fb at9 n rfl rfl (by omega) (by omega)) (cwV 1 hts gX10_scan_X10_wordEnd rfl rfl rfl hv_X10_wordEnd ⟨Nat.le_of_ble_eq_true rfl, Nat.le_of_ble_eq_true rfl⟩) (pR_V (q := (RX10, TX10, 7)) (ci := 7) (q0 := 0) hP hE rfl rfl [0, 1] rfl) rfl rfl hl.1 rfl (lv_room (Nat.le_of_ble_eq_true rfl)) dX10_scan_126 ⟨Nat.le_of_ble_eq_true rfl, Nat.le_of_ble_eq_true rfl⟩) (fun r_11 hr_11 => ?_)
          have hle := hr_11.1
          have hlr := hr_11.2
          refine lv_istore (lv' := [(6, .int r_11), (5, .int tu), (2, .int at9), (3, .int aw), (4, .int na), (0, .ref h0), (1, .int x1)]) hx hb dX10_scan_129 hl (by decide +kernel) rfl (fun ls hl => ?_)
          refine lv_aload_n hx hb dX10_scan_131 rfl (lv_at hl 5 rfl) ?_
          refine lv_iload_n hx hb dX10_scan_132 rfl (lv_at hl 2 rfl) ?_
          refine lv_iload hx hb dX10_scan_133 (lv_at hl 0 rfl) ?_
          refine vp_callSi (W.runV (As := [.int at9, .int r_11]) (rest := []) ⟨hx, hb, hml, hown, hts⟩ (c_X10_kindAt l D T ad sa av ta h0 [.int n, .ref yb, .ref ki, .ref nu, .int ww, .int nx, .int bb] yb fb at9 r_11 rfl (by omega)) (cwV 2 hts gX10_scan_X10_kindAt rfl rfl rfl hv_X10_kindAt ⟨Nat.le_of_ble_eq_true rfl, Nat.le_of_ble_eq_true rfl⟩) (pRk_V (q := (RX10, TX10, 7)) (ci := 7) (q0 := 0) hP hE hV hS rfl rfl [0, 1] rfl) rfl rfl hl.1 rfl (lv_room (Nat.le_of_ble_eq_true rfl)) dX10_scan_135 ⟨Nat.le_of_ble_eq_true rfl, Nat.le_of_ble_eq_true rfl⟩) (fun r_12 hr_12 => ?_)
          refine lv_istore (lv' := [(7, .int r_12), (6, .int r_11), (5, .int tu), (2, .int at9), (3, .int aw), (4, .int na), (0, .ref h0), (1, .int x1)]) hx hb dX10_scan_138 hl (by decide +kernel) rfl (fun ls hl => ?_)
          refine lv_iload_n hx hb dX10_scan_140 rfl (lv_at hl 4 rfl) ?_
          refine lv_if_eq (tgt := 150) hx hb dX10_scan_141 (by decide +kernel) (fun c_13 => ?_) (fun c_13 => ?_)
          · rw [fa_eq] at c_13
            try rw [ti_0] at c_13
            refine lv_iload_n hx hb dX10_scan_150 rfl (lv_at hl 3 rfl) ?_
            exact W.iret hx hb hr (fun t ht hW => ⟨⟨_, (ww, bb, gk, gn), rfl, (Or.inr ⟨by omega, (by
                  by_cases hz0 : smT gk ww.toNatClampNeg = -1
                  · exact scF_more hJ1 hat hnb hz0
                  · exact scF_word hJ1 (by omega) (fun _ => hnb) hle (by omega) (Or.inl (by rcases hr_12 with h9 | h9 <;> first | exact h9.2 | (exfalso; have h8 := h9.1; omega))))⟩), by rw [ht]; exact hP.sub [0, 1, 2, 3] rfl, hD.sub [0, 1, 2, 3] (by decide +kernel) rfl⟩, hS.F ht⟩) hS.2.2 dX10_scan_151
          · rw [fa_eq] at c_13
            try rw [ti_0] at c_13
            refine lv_iload hx hb dX10_scan_144 (lv_at hl 0 rfl) ?_
            refine lv_iconst (v := (-1)) hx hb dX10_scan_146 (by decide +kernel) ?_
            refine lv_icmp_ne (tgt := 152) hx hb dX10_scan_147 (by decide +kernel) (fun c_14 => ?_) (fun c_14 => ?_)
            · rw [fa_eq] at c_14
              try rw [ti_n1] at c_14
              obtain ⟨hkk, hwK⟩ := hr_12.resolve_left (fun h9 => by have h8 := h9.1; omega)
              have hge : at9.toInt + 3 ≤ r_11.toInt := by
                have t1 := tn (x := at9) (by omega)
                have t2 := tn (x := r_11) (by omega)
                have t3 := hwK.2.1
                have t4 : 3 ≤ ksL.getD r_12.toNatClampNeg 0 ∧ ksL.getD r_12.toNatClampNeg 0 ≤ 7 := ks_long ⟨r_12.toNatClampNeg, hwK.1⟩
                omega
              refine va_getsN (v := .ref ta) hx hb hV.1.2.1 hS hown (va_Nw.use rfl (hE.2.2.1 (RX10, 34) (List.mem_of_getElem? (i := 2) rfl))) (fun _ h9 => h9) dX10_scan_152 ?_
              refine lv_iload hx hb dX10_scan_155 (lv_at hl 0 rfl) ?_
              have hnm := nmT_in (r_12.toNatClampNeg)
              refine vb_tq (v := .ref (ad (r_12.toNatClampNeg))) hx hb hV.1.2.2 hS (by rw [vp_in_iff]; omega) rfl dX10_scan_157 ?_
              refine lv_astore (lv' := [(8, .ref (ad (r_12.toNatClampNeg))), (7, .int r_12), (6, .int r_11), (5, .int tu), (2, .int at9), (3, .int aw), (4, .int na), (0, .ref h0), (1, .int x1)]) hx hb dX10_scan_158 hl (by decide +kernel) rfl (fun ls hl => ?_)
              refine lv_iload_n hx hb dX10_scan_160 rfl (lv_at hl 5 rfl) ?_
              refine lv_aload hx hb dX10_scan_161 (lv_at hl 0 rfl) ?_
              refine va_getE (i := (r_12.toNatClampNeg)) hx hb hV.1.1 (in13c hkk) hS hown (q := kdQ "names" [0, 0, 1, 1, 1, 2, 2, 2, 1, 2, 1, 1, 2]) (List.mem_of_getElem? (i := 0) rfl) (hts (.fieldLink RX10 61 "ClauseBook$Kind" "names" "I") (List.mem_of_getElem? (i := 9) rfl)) (fun _ h9 => h9) dX10_scan_163 ?_
              refine W.eq (g2 := F0 m 166 ls [.int (nmT (r_12.toNatClampNeg)), .int aw]) rfl ?_
              refine lv_iconst (v := 1) hx hb dX10_scan_166 (by decide +kernel) ?_
              refine lv_isub hx hb dX10_scan_167 ?_
              refine lv_iadd hx hb dX10_scan_168 ?_
              refine lv_topi (fun z_15 ez_15 => ?_)
              have hzz_15 : z_15.toInt = aw.toInt + (nmT (r_12.toNatClampNeg)).toInt - 1 := by
                have h1 := dec1 (i := nmT (r_12.toNatClampNeg)) (by omega)
                rw [ez_15, fb_addI (by omega) (by omega)]
                omega
              refine lv_istore_n (lv' := [(3, .int z_15), (8, .ref (ad (r_12.toNatClampNeg))), (7, .int r_12), (6, .int r_11), (5, .int tu), (2, .int at9), (4, .int na), (0, .ref h0), (1, .int x1)]) hx hb dX10_scan_169 rfl hl (by decide +kernel) rfl (fun ls hl => ?_)
              refine lv_aload_n hx hb dX10_scan_170 rfl (lv_at hl 7 rfl) ?_
              refine va_get (D := D) (ci := 7) (v := .int ww) (C := RX10) (T := TX10) (N := 7) hx hb hts in_X10_scan_X10 hown hE.1 hP 0 rfl rfl 4 (by decide +kernel) (hts (.fieldLink RX10 25 "ClauseBook$Tape" "words" "I") (List.mem_of_getElem? (i := 1) rfl)) (fun _ h9 => h9) rfl dX10_scan_171 ?_
              refine lv_iconst (v := 1) hx hb dX10_scan_174 (by decide +kernel) ?_
              refine lv_iadd hx hb dX10_scan_175 ?_
              refine lv_iload_n hx hb dX10_scan_176 rfl (lv_at hl 0 rfl) ?_
              refine lv_iadd hx hb dX10_scan_177 ?_
              have hi8 := inc1 (i := ww) (n := 1000) (by omega) (by decide +kernel)
              have hs8 : ((ww + 1) + z_15).toInt = ww.toInt + 1 + z_15.toInt := by rw [fb_addI (by omega) (by omega)]; omega
              refine lv_iload_n hx hb dX10_scan_178 rfl (lv_at hl 8 rfl) ?_
              refine lv_icmp_le (tgt := 184) hx hb dX10_scan_179 (by decide +kernel) (fun c_16 => ?_) (fun c_16 => ?_)
              · rw [fa_le] at c_16
                refine lv_aload_n hx hb dX10_scan_184 rfl (lv_at hl 7 rfl) ?_
                refine va_get (D := D) (ci := 7) (v := .ref ki) (C := RX10) (T := TX10) (N := 7) hx hb hts in_X10_scan_X10 hown hE.1 hP 0 rfl rfl 2 (by decide +kernel) (hts (.fieldLink RX10 19 "ClauseBook$Tape" "kinds" "[I") (List.mem_of_getElem? (i := 4) rfl)) (fun _ h9 => h9) rfl dX10_scan_185 ?_
                refine lv_aload_n hx hb dX10_scan_188 rfl (lv_at hl 7 rfl) ?_
                refine va_get (D := D) (ci := 7) (v := .int ww) (C := RX10) (T := TX10) (N := 7) hx hb hts in_X10_scan_X10 hown hE.1 hP 0 rfl rfl 4 (by decide +kernel) (hts (.fieldLink RX10 25 "ClauseBook$Tape" "words" "I") (List.mem_of_getElem? (i := 1) rfl)) (fun _ h9 => h9) rfl dX10_scan_189 ?_
                refine lv_iload hx hb dX10_scan_192 (lv_at hl 2 rfl) ?_
                refine va_iast hx hb hE.1 hP hD hS 2 0 rfl rfl (by rw [vp_in_iff]; omega) dX10_scan_194 (fun H locs hP hD hS => ?_)
                obtain ⟨hP, hD⟩ := wPD [(h0, .inr (7, [.int n, .ref yb, .ref ki, .ref nu, .int ww, .int nx, .int bb])), (yb, .inl (T 0, 120, .inl fb)), (ki, .inl (T 0, 24, .inl (upd gk (ww.toNatClampNeg) r_12))), (nu, .inl (T 0, 24, .inl gn))] hP hD rfl
                refine lv_aload_n hx hb dX10_scan_195 rfl (lv_at hl 7 rfl) ?_
                refine va_get (D := D) (ci := 7) (v := .ref nu) (C := RX10) (T := TX10) (N := 7) hx hb hts in_X10_scan_X10 hown hE.1 hP 0 rfl rfl 3 (by decide +kernel) (hts (.fieldLink RX10 22 "ClauseBook$Tape" "numbers" "[I") (List.mem_of_getElem? (i := 8) rfl)) (fun _ h9 => h9) rfl dX10_scan_196 ?_
                refine lv_aload_n hx hb dX10_scan_199 rfl (lv_at hl 7 rfl) ?_
                refine va_get (D := D) (ci := 7) (v := .int ww) (C := RX10) (T := TX10) (N := 7) hx hb hts in_X10_scan_X10 hown hE.1 hP 0 rfl rfl 4 (by decide +kernel) (hts (.fieldLink RX10 25 "ClauseBook$Tape" "words" "I") (List.mem_of_getElem? (i := 1) rfl)) (fun _ h9 => h9) rfl dX10_scan_200 ?_
                refine lv_iconst (v := 0) hx hb dX10_scan_203 (by decide +kernel) ?_
                refine va_iast hx hb hE.1 hP hD hS 3 0 rfl rfl (by rw [vp_in_iff]; omega) dX10_scan_204 (fun H locs hP hD hS => ?_)
                obtain ⟨hP, hD⟩ := wPD [(h0, .inr (7, [.int n, .ref yb, .ref ki, .ref nu, .int ww, .int nx, .int bb])), (yb, .inl (T 0, 120, .inl fb)), (ki, .inl (T 0, 24, .inl (upd gk (ww.toNatClampNeg) r_12))), (nu, .inl (T 0, 24, .inl (upd gn (ww.toNatClampNeg) 0)))] hP hD rfl
                refine lv_aload_n hx hb dX10_scan_205 rfl (lv_at hl 7 rfl) ?_
                refine lv_dup hx hb dX10_scan_206 rfl ?_
                refine va_get (D := D) (ci := 7) (v := .int ww) (C := RX10) (T := TX10) (N := 7) hx hb hts in_X10_scan_X10 hown hE.1 hP 0 rfl rfl 4 (by decide +kernel) (hts (.fieldLink RX10 25 "ClauseBook$Tape" "words" "I") (List.mem_of_getElem? (i := 1) rfl)) (fun _ h9 => h9) rfl dX10_scan_207 ?_
                refine lv_iconst (v := 1) hx hb dX10_scan_210 (by decide +kernel) ?_
                refine lv_iadd hx hb dX10_scan_211 ?_
                refine lv_topi (fun z_17 ez_17 => ?_)
                refine va_put (D := D) (ci := 7) (v := .int z_17) (ty := .int) (C := RX10) (T := TX10) (N := 7) hx hb hts in_X10_scan_X10 tyX10 tyX10_ok nmX10 hown hE.1 hP hD hS 0 rfl rfl 4 (by decide +kernel) (hts (.fieldLink RX10 25 "ClauseBook$Tape" "words" "I") (List.mem_of_getElem? (i := 1) rfl)) (fun _ h9 => h9) rfl (by decide +kernel) rfl rfl (Nat.le_of_ble_eq_true rfl) dX10_scan_212 (fun H locs hP hD hS => ?_)
                obtain ⟨hP, hD⟩ := wPD [(h0, .inr (7, [.int n, .ref yb, .ref ki, .ref nu, .int z_17, .int nx, .int bb])), (yb, .inl (T 0, 120, .inl fb)), (ki, .inl (T 0, 24, .inl (upd gk (ww.toNatClampNeg) r_12))), (nu, .inl (T 0, 24, .inl (upd gn (ww.toNatClampNeg) 0)))] hP hD rfl
                have hzw : z_17.toInt = ww.toInt + 1 := by rw [ez_17]; exact hi8
                have hup := okT_up hkT hkk (by omega)
                have htw := tn1 hw.1 hzw
                refine lv_aload hx hb dX10_scan_215 (lv_at hl 1 rfl) ?_
                refine vp_callSi (W.runV (As := []) (rest := []) ⟨hx, hb, hml, hown, hts⟩ (c_X7_numbered l D T ad sa av ta (r_12.toNatClampNeg) (in13c hkk)) (cwV 0 hts gX10_scan_X7_numbered rfl rfl rfl hv_X7_numbered ⟨Nat.le_of_ble_eq_true rfl, Nat.le_of_ble_eq_true rfl⟩) (pRk_VE (i := (r_12.toNatClampNeg)) (in13c hkk) hP hE hV hS [] rfl) rfl rfl hl.1 rfl (lv_room (Nat.le_of_ble_eq_true rfl)) dX10_scan_217 ⟨Nat.le_of_ble_eq_true rfl, Nat.le_of_ble_eq_true rfl⟩) (fun r_18 hr_18 => ?_)
                rcases hr_18 with ⟨rfl, hnn⟩ | ⟨rfl, hnn⟩
                · have h9t := ti_0
                  refine lv_istore (lv' := [(4, .int 0), (3, .int z_15), (8, .ref (ad (r_12.toNatClampNeg))), (7, .int r_12), (6, .int r_11), (5, .int tu), (2, .int at9), (0, .ref h0), (1, .int x1)]) hx hb dX10_scan_220 hl (by decide +kernel) rfl (fun ls hl => ?_)
                  refine lv_iload hx hb dX10_scan_222 (lv_at hl 4 rfl) ?_
                  refine lv_istore_n (lv' := [(2, .int r_11), (4, .int 0), (3, .int z_15), (8, .ref (ad (r_12.toNatClampNeg))), (7, .int r_12), (6, .int r_11), (5, .int tu), (0, .ref h0), (1, .int x1)]) hx hb dX10_scan_224 rfl hl (by decide +kernel) rfl (fun ls hl => ?_)
                  obtain ⟨z_19, ez_19⟩ : ∃ y : Int32, y = tu + 1 := ⟨_, rfl⟩
                  refine lv_iinc (v := z_19) (lv' := [(5, .int z_19), (2, .int r_11), (4, .int 0), (3, .int z_15), (8, .ref (ad (r_12.toNatClampNeg))), (7, .int r_12), (6, .int r_11), (0, .ref h0), (1, .int x1)]) hx hb dX10_scan_225 hl (k := 6) rfl (by rw [ez_19]; rfl) (by decide +kernel) rfl (fun ls hl => ?_)
                  refine lv_goto (tgt := 15) hx hb dX10_scan_228 (by decide +kernel) ?_
                  have hi9 : z_19.toInt = tu.toInt + 1 := by rw [ez_19]; exact inc1 (n := 1000) (by omega) (by decide +kernel)
                  exact ih (z_19, r_11, z_15, 0, z_17, bb, (upd gk (ww.toNatClampNeg) r_12), (upd gn (ww.toNatClampNeg) 0)) ls _ _ ⟨lv_sub hl [0, 1, 3, 2, 7, 8] rfl, hP.sub [0, 1, 2, 3] rfl, hD.sub [0, 1, 2, 3] (by decide +kernel) rfl, hS, ⟨(by (try dsimp only); have h0t := ti_0; omega), (by (try dsimp only); rw [htw, hup.2]; omega), (by (try dsimp only); rw [htw]; exact hup.1), (by (try dsimp only); rw [htw]; exact Or.inl ⟨by decide, scJ1_word hJ1 hat hnb hle hkk hwK (by omega) (by omega) hnn⟩)⟩⟩ (by (try dsimp only); omega)
                · have h9t := ti_1
                  refine lv_istore (lv' := [(4, .int 1), (3, .int z_15), (8, .ref (ad (r_12.toNatClampNeg))), (7, .int r_12), (6, .int r_11), (5, .int tu), (2, .int at9), (0, .ref h0), (1, .int x1)]) hx hb dX10_scan_220 hl (by decide +kernel) rfl (fun ls hl => ?_)
                  refine lv_iload hx hb dX10_scan_222 (lv_at hl 4 rfl) ?_
                  refine lv_istore_n (lv' := [(2, .int r_11), (4, .int 1), (3, .int z_15), (8, .ref (ad (r_12.toNatClampNeg))), (7, .int r_12), (6, .int r_11), (5, .int tu), (0, .ref h0), (1, .int x1)]) hx hb dX10_scan_224 rfl hl (by decide +kernel) rfl (fun ls hl => ?_)
                  obtain ⟨z_20, ez_20⟩ : ∃ y : Int32, y = tu + 1 := ⟨_, rfl⟩
                  refine lv_iinc (v := z_20) (lv' := [(5, .int z_20), (2, .int r_11), (4, .int 1), (3, .int z_15), (8, .ref (ad (r_12.toNatClampNeg))), (7, .int r_12), (6, .int r_11), (0, .ref h0), (1, .int x1)]) hx hb dX10_scan_225 hl (k := 6) rfl (by rw [ez_20]; rfl) (by decide +kernel) rfl (fun ls hl => ?_)
                  refine lv_goto (tgt := 15) hx hb dX10_scan_228 (by decide +kernel) ?_
                  have hi9 : z_20.toInt = tu.toInt + 1 := by rw [ez_20]; exact inc1 (n := 1000) (by omega) (by decide +kernel)
                  exact ih (z_20, r_11, z_15, 1, z_17, bb, (upd gk (ww.toNatClampNeg) r_12), (upd gn (ww.toNatClampNeg) 0)) ls _ _ ⟨lv_sub hl [0, 1, 3, 2, 7, 8] rfl, hP.sub [0, 1, 2, 3] rfl, hD.sub [0, 1, 2, 3] (by decide +kernel) rfl, hS, ⟨(by (try dsimp only); have h0t := ti_0; omega), (by (try dsimp only); rw [htw, hup.2]; omega), (by (try dsimp only); rw [htw]; exact hup.1), (by (try dsimp only); rw [htw]; exact Or.inr ⟨by decide, scJ2_word hJ1 hat hnb hle hkk hwK (by omega) (by omega) hnn⟩)⟩⟩ (by (try dsimp only); omega)
              · rw [fa_le] at c_16
                refine lv_iload_n hx hb dX10_scan_182 rfl (lv_at hl 5 rfl) ?_
                exact W.iret hx hb hr (fun t ht hW => ⟨⟨_, (ww, bb, gk, gn), rfl, (Or.inr ⟨by omega, scF_word hJ1 (by omega) (fun _ => hnb) hle (by omega) (Or.inr ⟨_, hwK, (by omega)⟩)⟩), by rw [ht]; exact hP.sub [0, 1, 2, 3] rfl, hD.sub [0, 1, 2, 3] (by decide +kernel) rfl⟩, hS.F ht⟩) hS.2.2 dX10_scan_183
            · rw [fa_eq] at c_14
              try rw [ti_n1] at c_14
              refine lv_iload_n hx hb dX10_scan_150 rfl (lv_at hl 3 rfl) ?_
              exact W.iret hx hb hr (fun t ht hW => ⟨⟨_, (ww, bb, gk, gn), rfl, (Or.inr ⟨by omega, (by
                  by_cases hz0 : smT gk ww.toNatClampNeg = -1
                  · exact scF_more hJ1 hat hnb hz0
                  · exact scF_word hJ1 (by omega) (fun _ => hnb) hle (by omega) (Or.inl (by rcases hr_12 with h9 | h9 <;> first | exact h9.2 | (exfalso; have h8 := h9.1; omega))))⟩), by rw [ht]; exact hP.sub [0, 1, 2, 3] rfl, hD.sub [0, 1, 2, 3] (by decide +kernel) rfl⟩, hS.F ht⟩) hS.2.2 dX10_scan_151
        · rw [fa_eq] at c_10
          try rw [ti_0] at c_10
          have hJ2 := scJ.two hJ (by omega)
          have hp2 := scJ2.pos hJ2
          refine va_getsN (v := .ref ta) hx hb hV.1.2.1 hS hown (va_Nw.use rfl (hE.2.2.1 (RX10, 34) (List.mem_of_getElem? (i := 2) rfl))) (fun _ h9 => h9) dX10_scan_57 ?_
          refine lv_aload_n hx hb dX10_scan_60 rfl (lv_at hl 5 rfl) ?_
          refine va_get (D := D) (ci := 7) (v := .ref ki) (C := RX10) (T := TX10) (N := 7) hx hb hts in_X10_scan_X10 hown hE.1 hP 0 rfl rfl 2 (by decide +kernel) (hts (.fieldLink RX10 19 "ClauseBook$Tape" "kinds" "[I") (List.mem_of_getElem? (i := 4) rfl)) (fun _ h9 => h9) rfl dX10_scan_61 ?_
          refine lv_aload_n hx hb dX10_scan_64 rfl (lv_at hl 5 rfl) ?_
          refine va_get (D := D) (ci := 7) (v := .int ww) (C := RX10) (T := TX10) (N := 7) hx hb hts in_X10_scan_X10 hown hE.1 hP 0 rfl rfl 4 (by decide +kernel) (hts (.fieldLink RX10 25 "ClauseBook$Tape" "words" "I") (List.mem_of_getElem? (i := 1) rfl)) (fun _ h9 => h9) rfl dX10_scan_65 ?_
          refine lv_iconst (v := 1) hx hb dX10_scan_68 (by decide +kernel) ?_
          refine lv_isub hx hb dX10_scan_69 ?_
          have hd9 := dec1 (i := ww) (by omega)
          have hdc : (ww - 1).toNatClampNeg = ww.toNatClampNeg - 1 := by have t1 := tn (x := ww - 1) (by omega); omega
          refine va_iald hx hb hE.1 hP 2 0 rfl rfl (by rw [vp_in_iff]; omega) dX10_scan_70 ?_
          refine lv_topi (fun z_21 ez_21 => ?_)
          have hkz_21 : 0 ≤ z_21.toInt ∧ z_21.toInt ≤ 12 := by rw [ez_21]; exact (hkT _ (by omega)).1
          have hkz : ∀ m9 : Nat, ww.toNatClampNeg = m9 + 1 → gk m9 = z_21 := fun m9 h9 => by rw [ez_21, hdc]; congr 1; omega
          refine vb_tq (v := .ref (ad (z_21.toNatClampNeg))) hx hb hV.1.2.2 hS (by rw [vp_in_iff]; omega) rfl dX10_scan_71 ?_
          refine lv_astore (lv' := [(7, .ref (ad (z_21.toNatClampNeg))), (6, .int z_7), (5, .int tu), (2, .int at9), (3, .int aw), (4, .int na), (0, .ref h0), (1, .int x1)]) hx hb dX10_scan_72 hl (by decide +kernel) rfl (fun ls hl => ?_)
          refine lv_aload_n hx hb dX10_scan_74 rfl (lv_at hl 6 rfl) ?_
          refine lv_iload_n hx hb dX10_scan_75 rfl (lv_at hl 3 rfl) ?_
          have hFc := va_free (wc := [(h0, .inr (7, [.int n, .ref yb, .ref ki, .ref nu, .int ww, .int nx, .int bb])), (yb, .inl (T 0, 120, .inl fb))]) hD hS hA [0, 1] rfl
          refine va_calli (va_runV (As := [.int at9]) (rest := []) ⟨hx, hb, hml, hown, hts⟩ (c_X10_numberEnd l D T _ h0 yb ki nu n ww nx bb fb at9 (by omega) (by omega)) (cwV 1 hts gX10_scan_X10_numberEnd rfl rfl rfl hv_X10_numberEnd ⟨Nat.le_of_ble_eq_true rfl, Nat.le_of_ble_eq_true rfl⟩) (pW_V (q := (RX10, TX10, 7)) (ci := 7) (q0 := 0) hP hE hD rfl rfl [0, 1] (by decide +kernel) rfl rfl) rfl rfl hl.1 rfl (lv_room (Nat.le_of_ble_eq_true rfl)) dX10_scan_76 ⟨Nat.le_of_ble_eq_true rfl, Nat.le_of_ble_eq_true rfl⟩) hS (fun q _ h => hFc q h) hFc (fun r_22 u_23 t H1 locs ht hvm hr_22 hB hz1 hk1 hS => ?_)
          have hqr_22 : at9.toInt ≤ r_22.toInt ∧ r_22.toInt ≤ (n).toInt := hr_22.1
          have hnE : numE fb (n.toNatClampNeg) (at9.toNatClampNeg) (r_22.toNatClampNeg) u_23 := hr_22.2
          obtain ⟨hP1, hD1⟩ := hB
          rw [ht] at hP1
          obtain ⟨hP, hD⟩ := va_repl [(h0, .inr (7, [.int n, .ref yb, .ref ki, .ref nu, .int ww, .int nx, .int u_23])), (yb, .inl (T 0, 120, .inl fb)), (ki, .inl (T 0, 24, .inl gk)), (nu, .inl (T 0, 24, .inl gn))] hP hD [0, 1] [0, 1] rfl (by decide +kernel) rfl rfl rfl hk1 hP1
          clear hP1 hD1 hFc
          generalize H1 = H at hP hS ⊢
          refine lv_istore (lv' := [(6, .int r_22), (7, .ref (ad (z_21.toNatClampNeg))), (5, .int tu), (2, .int at9), (3, .int aw), (4, .int na), (0, .ref h0), (1, .int x1)]) hx hb dX10_scan_79 hl (by decide +kernel) rfl (fun ls hl => ?_)
          refine lv_aload_n hx hb dX10_scan_81 rfl (lv_at hl 6 rfl) ?_
          refine va_get (D := D) (ci := 7) (v := .int u_23) (C := RX10) (T := TX10) (N := 7) hx hb hts in_X10_scan_X10 hown hE.1 hP 0 rfl rfl 6 (by decide +kernel) (hts (.fieldLink RX10 31 "ClauseBook$Tape" "number" "I") (List.mem_of_getElem? (i := 5) rfl)) (fun _ h9 => h9) rfl dX10_scan_82 ?_
          refine lv_aload hx hb dX10_scan_85 (lv_at hl 1 rfl) ?_
          refine va_getE (i := (z_21.toNatClampNeg)) hx hb hV.1.1 (in13c hkz_21) hS hown (q := kdQ "least" [0, 0, 0, -9, 0, 0, 0, 0, 0, 0, 0, 0, -99]) (List.mem_of_getElem? (i := 1) rfl) (hts (.fieldLink RX10 44 "ClauseBook$Kind" "least" "I") (List.mem_of_getElem? (i := 6) rfl)) (fun _ h9 => h9) dX10_scan_87 ?_
          refine W.eq (g2 := F0 m 90 ls [.int (lsT (z_21.toNatClampNeg)), .int u_23]) rfl ?_
          refine lv_aload hx hb dX10_scan_90 (lv_at hl 1 rfl) ?_
          refine va_getE (i := (z_21.toNatClampNeg)) hx hb hV.1.1 (in13c hkz_21) hS hown (q := kdQ "most" [0, 0, 0, 9, 0, 0, 0, 0, 6, 0, 0, 0, 99]) (List.mem_of_getElem? (i := 2) rfl) (hts (.fieldLink RX10 47 "ClauseBook$Kind" "most" "I") (List.mem_of_getElem? (i := 7) rfl)) (fun _ h9 => h9) dX10_scan_92 ?_
          refine W.eq (g2 := F0 m 95 ls [.int (msT (z_21.toNatClampNeg)), .int (lsT (z_21.toNatClampNeg)), .int u_23]) rfl ?_
          refine vp_callSi (va_Run.run (va_runSN (As := [.int u_23, .int (lsT (z_21.toNatClampNeg)), .int (msT (z_21.toNatClampNeg))]) (rest := []) ⟨hx, hb, hml, hown, hts⟩ (c_X12_within l D T u_23 (lsT (z_21.toNatClampNeg)) (msT (z_21.toNatClampNeg)) ((lsT (z_21.toNatClampNeg))).toInt ((msT (z_21.toNatClampNeg))).toInt rfl rfl) ⟨(va_cnB 3 hts gX10_scan_X12_within_n50 rfl rfl rfl (hE.2.1 (RX10, 50, yX12_within) (List.mem_of_getElem? (i := 8) rfl)) (hts (.initialized RX12) (List.mem_of_getElem? (i := 20) rfl)) hs_X12_within ⟨Nat.le_of_ble_eq_true rfl, Nat.le_of_ble_eq_true rfl⟩), (hts (.static yX12_within) (List.mem_of_getElem? (i := 19) rfl)), trivial⟩ (pR_S hP hE [] rfl) rfl rfl hl.1 rfl (lv_room (Nat.le_of_ble_eq_true rfl)) dX10_scan_95 ⟨Nat.le_of_ble_eq_true rfl, Nat.le_of_ble_eq_true rfl⟩)) (fun r_24 hr_24 => ?_)
          rcases bool_post hr_24 with ⟨c_25, rfl⟩ | ⟨c_25, rfl⟩
          · refine lv_if_ne (tgt := 103) hx hb dX10_scan_98 (by decide +kernel) (fun _ => ?_) (fun c9 => absurd c9 (by decide +kernel))
            have hnK := numE_yes (k := z_21.toNatClampNeg) hnE (by omega)
            have hlt9 : at9.toInt < r_22.toInt := by
              have t1 := tn (x := at9) (by omega)
              have t2 := tn (x := r_22) (by omega)
              have t3 := hnK.2.1
              have t4 : at9.toNatClampNeg ≤ sgS fb at9.toNatClampNeg := by unfold sgS; split <;> omega
              omega
            refine lv_aload_n hx hb dX10_scan_103 rfl (lv_at hl 6 rfl) ?_
            refine va_get (D := D) (ci := 7) (v := .ref nu) (C := RX10) (T := TX10) (N := 7) hx hb hts in_X10_scan_X10 hown hE.1 hP 0 rfl rfl 3 (by decide +kernel) (hts (.fieldLink RX10 22 "ClauseBook$Tape" "numbers" "[I") (List.mem_of_getElem? (i := 8) rfl)) (fun _ h9 => h9) rfl dX10_scan_104 ?_
            refine lv_aload_n hx hb dX10_scan_107 rfl (lv_at hl 6 rfl) ?_
            refine va_get (D := D) (ci := 7) (v := .int ww) (C := RX10) (T := TX10) (N := 7) hx hb hts in_X10_scan_X10 hown hE.1 hP 0 rfl rfl 4 (by decide +kernel) (hts (.fieldLink RX10 25 "ClauseBook$Tape" "words" "I") (List.mem_of_getElem? (i := 1) rfl)) (fun _ h9 => h9) rfl dX10_scan_108 ?_
            refine lv_iconst (v := 1) hx hb dX10_scan_111 (by decide +kernel) ?_
            refine lv_isub hx hb dX10_scan_112 ?_
            refine lv_aload_n hx hb dX10_scan_113 rfl (lv_at hl 6 rfl) ?_
            refine va_get (D := D) (ci := 7) (v := .int u_23) (C := RX10) (T := TX10) (N := 7) hx hb hts in_X10_scan_X10 hown hE.1 hP 0 rfl rfl 6 (by decide +kernel) (hts (.fieldLink RX10 31 "ClauseBook$Tape" "number" "I") (List.mem_of_getElem? (i := 5) rfl)) (fun _ h9 => h9) rfl dX10_scan_114 ?_
            refine va_iast hx hb hE.1 hP hD hS 3 0 rfl rfl (by rw [vp_in_iff]; omega) dX10_scan_117 (fun H locs hP hD hS => ?_)
            obtain ⟨hP, hD⟩ := wPD [(h0, .inr (7, [.int n, .ref yb, .ref ki, .ref nu, .int ww, .int nx, .int u_23])), (yb, .inl (T 0, 120, .inl fb)), (ki, .inl (T 0, 24, .inl gk)), (nu, .inl (T 0, 24, .inl (upd gn ((ww - 1).toNatClampNeg) u_23)))] hP hD rfl
            refine lv_iconst (v := 0) hx hb dX10_scan_118 (by decide +kernel) ?_
            refine lv_istore (lv' := [(4, .int 0), (6, .int r_22), (7, .ref (ad (z_21.toNatClampNeg))), (5, .int tu), (2, .int at9), (3, .int aw), (0, .ref h0), (1, .int x1)]) hx hb dX10_scan_119 hl (by decide +kernel) rfl (fun ls hl => ?_)
            refine lv_goto (tgt := 222) hx hb dX10_scan_121 (by decide +kernel) ?_
            refine lv_iload hx hb dX10_scan_222 (lv_at hl 1 rfl) ?_
            refine lv_istore_n (lv' := [(2, .int r_22), (4, .int 0), (6, .int r_22), (7, .ref (ad (z_21.toNatClampNeg))), (5, .int tu), (3, .int aw), (0, .ref h0), (1, .int x1)]) hx hb dX10_scan_224 rfl hl (by decide +kernel) rfl (fun ls hl => ?_)
            obtain ⟨z_26, ez_26⟩ : ∃ y : Int32, y = tu + 1 := ⟨_, rfl⟩
            refine lv_iinc (v := z_26) (lv' := [(5, .int z_26), (2, .int r_22), (4, .int 0), (6, .int r_22), (7, .ref (ad (z_21.toNatClampNeg))), (3, .int aw), (0, .ref h0), (1, .int x1)]) hx hb dX10_scan_225 hl (k := 4) rfl (by rw [ez_26]; rfl) (by decide +kernel) rfl (fun ls hl => ?_)
            refine lv_goto (tgt := 15) hx hb dX10_scan_228 (by decide +kernel) ?_
            have hi9 : z_26.toInt = tu.toInt + 1 := by rw [ez_26]; exact inc1 (n := 1000) (by omega) (by decide +kernel)
            exact ih (z_26, r_22, aw, 0, ww, u_23, gk, (upd gn ((ww - 1).toNatClampNeg) u_23)) ls _ _ ⟨lv_sub hl [0, 1, 5, 2, 6, 7] rfl, hP.sub [0, 1, 2, 3] rfl, hD.sub [0, 1, 2, 3] (by decide +kernel) rfl, hS, ⟨(by (try dsimp only); have h0t := ti_0; omega), hsm, hkT, (by (try dsimp only); rw [hdc]; exact Or.inl ⟨by decide, scJ2_num hJ2 hat hnb (fun m9 h9 => by rw [hkz m9 h9]; exact hnK)⟩)⟩⟩ (by (try dsimp only); omega)
          · refine lv_if_ne (tgt := 103) hx hb dX10_scan_98 (by decide +kernel) (fun c9 => absurd c9 (by decide +kernel)) (fun _ => ?_)
            refine lv_iload_n hx hb dX10_scan_101 rfl (lv_at hl 3 rfl) ?_
            exact W.iret hx hb hr (fun t ht hW => ⟨⟨_, (ww, u_23, gk, gn), rfl, (Or.inr ⟨by omega, scF_num hJ2 (by omega) (fun _ => hnb) (fun m9 h9 => by rw [hkz m9 h9]; exact numE_no hnE (by omega))⟩), by rw [ht]; exact hP.sub [0, 1, 2, 3] rfl, hD.sub [0, 1, 2, 3] (by decide +kernel) rfl⟩, hS.F ht⟩) hS.2.2 dX10_scan_102
      · rw [fa_eq] at c_9
        try rw [ti_32] at c_9
        refine lv_iload hx hb dX10_scan_46 (lv_at hl 0 rfl) ?_
        refine lv_istore_n (lv' := [(2, .int z_7), (6, .int z_7), (5, .int tu), (3, .int aw), (4, .int na), (0, .ref h0), (1, .int x1)]) hx hb dX10_scan_48 rfl hl (by decide +kernel) rfl (fun ls hl => ?_)
        refine lv_goto (tgt := 225) hx hb dX10_scan_49 (by decide +kernel) ?_
        obtain ⟨z_27, ez_27⟩ : ∃ y : Int32, y = tu + 1 := ⟨_, rfl⟩
        refine lv_iinc (v := z_27) (lv' := [(5, .int z_27), (2, .int z_7), (6, .int z_7), (3, .int aw), (4, .int na), (0, .ref h0), (1, .int x1)]) hx hb dX10_scan_225 hl (k := 2) rfl (by rw [ez_27]; rfl) (by decide +kernel) rfl (fun ls hl => ?_)
        refine lv_goto (tgt := 15) hx hb dX10_scan_228 (by decide +kernel) ?_
        have hi9 : z_27.toInt = tu.toInt + 1 := by rw [ez_27]; exact inc1 (n := 1000) (by omega) (by decide +kernel)
        exact ih (z_27, z_7, aw, na, ww, bb, gk, gn) ls _ _ ⟨lv_sub hl [0, 1, 3, 4, 5, 6] rfl, hP.sub [0, 1, 2, 3] rfl, hD.sub [0, 1, 2, 3] (by decide +kernel) rfl, hS, ⟨(by (try dsimp only); have h0t := ti_0; omega), hsm, hkT, (by (try dsimp only); exact scJ.bl hJ (by omega) hzz_7 ez_8 (by omega))⟩⟩ (by (try dsimp only); omega)
