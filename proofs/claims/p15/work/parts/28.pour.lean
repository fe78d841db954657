theorem bg_in {x : Int32} (h : 0 ≤ x.toInt ∧ x.toInt < 12) : x.toNatClampNeg < 12 := by
  obtain ⟨j, hj, e⟩ := nI_of (x := x) (by rw [fa_lt, ti_0]; omega)
  subst e
  rw [nI_clamp hj, nI_toInt hj] at *
  omega
theorem dX12_pour_0 : decode cX12_pour 0 = .ok (.iload_n 1, 1) := by decide +kernel
theorem dX12_pour_1 : decode cX12_pour 1 = .ok (.invokestatic 300, 3) := by decide +kernel
theorem dX12_pour_100 : decode cX12_pour 100 = .ok (.iaload, 1) := by decide +kernel
theorem dX12_pour_101 : decode cX12_pour 101 = .ok (.iload_n 3, 1) := by decide +kernel
theorem dX12_pour_102 : decode cX12_pour 102 = .ok (.if_icmp .ne 7, 3) := by decide +kernel
theorem dX12_pour_105 : decode cX12_pour 105 = .ok (.iconst 1, 1) := by decide +kernel
theorem dX12_pour_106 : decode cX12_pour 106 = .ok (.goto 4, 3) := by decide +kernel
theorem dX12_pour_109 : decode cX12_pour 109 = .ok (.iconst 0, 1) := by decide +kernel
theorem dX12_pour_11 : decode cX12_pour 11 = .ok (.ifCond .eq 22, 3) := by decide +kernel
theorem dX12_pour_110 : decode cX12_pour 110 = .ok (.istore 9, 2) := by decide +kernel
theorem dX12_pour_112 : decode cX12_pour 112 = .ok (.iload 9, 2) := by decide +kernel
theorem dX12_pour_114 : decode cX12_pour 114 = .ok (.ifCond .eq 20, 3) := by decide +kernel
theorem dX12_pour_117 : decode cX12_pour 117 = .ok (.aload_n 0, 1) := by decide +kernel
theorem dX12_pour_118 : decode cX12_pour 118 = .ok (.getfield 37, 3) := by decide +kernel
theorem dX12_pour_121 : decode cX12_pour 121 = .ok (.iload_n 2, 1) := by decide +kernel
theorem dX12_pour_122 : decode cX12_pour 122 = .ok (.aaload, 1) := by decide +kernel
theorem dX12_pour_123 : decode cX12_pour 123 = .ok (.iload 8, 2) := by decide +kernel
theorem dX12_pour_125 : decode cX12_pour 125 = .ok (.invokevirtual 303, 3) := by decide +kernel
theorem dX12_pour_128 : decode cX12_pour 128 = .ok (.ifCond .eq 6, 3) := by decide +kernel
theorem dX12_pour_131 : decode cX12_pour 131 = .ok (.goto 16, 3) := by decide +kernel
theorem dX12_pour_134 : decode cX12_pour 134 = .ok (.aload 4, 2) := by decide +kernel
theorem dX12_pour_136 : decode cX12_pour 136 = .ok (.getfield 308, 3) := by decide +kernel
theorem dX12_pour_139 : decode cX12_pour 139 = .ok (.iload 6, 2) := by decide +kernel
theorem dX12_pour_14 : decode cX12_pour 14 = .ok (.iload_n 1, 1) := by decide +kernel
theorem dX12_pour_141 : decode cX12_pour 141 = .ok (.iload 8, 2) := by decide +kernel
theorem dX12_pour_143 : decode cX12_pour 143 = .ok (.iastore, 1) := by decide +kernel
theorem dX12_pour_144 : decode cX12_pour 144 = .ok (.iinc 6 1, 3) := by decide +kernel
theorem dX12_pour_147 : decode cX12_pour 147 = .ok (.iinc 7 1, 3) := by decide +kernel
theorem dX12_pour_15 : decode cX12_pour 15 = .ok (.iload_n 2, 1) := by decide +kernel
theorem dX12_pour_150 : decode cX12_pour 150 = .ok (.goto (-93), 3) := by decide +kernel
theorem dX12_pour_153 : decode cX12_pour 153 = .ok (.aload 4, 2) := by decide +kernel
theorem dX12_pour_155 : decode cX12_pour 155 = .ok (.iload 6, 2) := by decide +kernel
theorem dX12_pour_157 : decode cX12_pour 157 = .ok (.putfield 307, 3) := by decide +kernel
theorem dX12_pour_16 : decode cX12_pour 16 = .ok (.if_icmp .eq 17, 3) := by decide +kernel
theorem dX12_pour_160 : decode cX12_pour 160 = .ok (.iload 5, 2) := by decide +kernel
theorem dX12_pour_162 : decode cX12_pour 162 = .ok (.iload 6, 2) := by decide +kernel
theorem dX12_pour_164 : decode cX12_pour 164 = .ok (.isub, 1) := by decide +kernel
theorem dX12_pour_165 : decode cX12_pour 165 = .ok (.ireturn, 1) := by decide +kernel
theorem dX12_pour_19 : decode cX12_pour 19 = .ok (.iload_n 3, 1) := by decide +kernel
theorem dX12_pour_20 : decode cX12_pour 20 = .ok (.iconst (-1), 1) := by decide +kernel
theorem dX12_pour_21 : decode cX12_pour 21 = .ok (.getstatic 126, 3) := by decide +kernel
theorem dX12_pour_24 : decode cX12_pour 24 = .ok (.arraylength, 1) := by decide +kernel
theorem dX12_pour_25 : decode cX12_pour 25 = .ok (.iconst 1, 1) := by decide +kernel
theorem dX12_pour_26 : decode cX12_pour 26 = .ok (.isub, 1) := by decide +kernel
theorem dX12_pour_27 : decode cX12_pour 27 = .ok (.invokestatic 77, 3) := by decide +kernel
theorem dX12_pour_30 : decode cX12_pour 30 = .ok (.ifCond .ne 6, 3) := by decide +kernel
theorem dX12_pour_33 : decode cX12_pour 33 = .ok (.bipush (-2), 2) := by decide +kernel
theorem dX12_pour_35 : decode cX12_pour 35 = .ok (.ireturn, 1) := by decide +kernel
theorem dX12_pour_36 : decode cX12_pour 36 = .ok (.aload_n 0, 1) := by decide +kernel
theorem dX12_pour_37 : decode cX12_pour 37 = .ok (.getfield 37, 3) := by decide +kernel
theorem dX12_pour_4 : decode cX12_pour 4 = .ok (.ifCond .eq 29, 3) := by decide +kernel
theorem dX12_pour_40 : decode cX12_pour 40 = .ok (.iload_n 1, 1) := by decide +kernel
theorem dX12_pour_41 : decode cX12_pour 41 = .ok (.aaload, 1) := by decide +kernel
theorem dX12_pour_42 : decode cX12_pour 42 = .ok (.astore 4, 2) := by decide +kernel
theorem dX12_pour_44 : decode cX12_pour 44 = .ok (.aload 4, 2) := by decide +kernel
theorem dX12_pour_46 : decode cX12_pour 46 = .ok (.getfield 307, 3) := by decide +kernel
theorem dX12_pour_49 : decode cX12_pour 49 = .ok (.istore 5, 2) := by decide +kernel
theorem dX12_pour_51 : decode cX12_pour 51 = .ok (.iconst 0, 1) := by decide +kernel
theorem dX12_pour_52 : decode cX12_pour 52 = .ok (.istore 6, 2) := by decide +kernel
theorem dX12_pour_54 : decode cX12_pour 54 = .ok (.iconst 0, 1) := by decide +kernel
theorem dX12_pour_55 : decode cX12_pour 55 = .ok (.istore 7, 2) := by decide +kernel
theorem dX12_pour_57 : decode cX12_pour 57 = .ok (.iload 7, 2) := by decide +kernel
theorem dX12_pour_59 : decode cX12_pour 59 = .ok (.iload 5, 2) := by decide +kernel
theorem dX12_pour_61 : decode cX12_pour 61 = .ok (.if_icmp .ge 92, 3) := by decide +kernel
theorem dX12_pour_64 : decode cX12_pour 64 = .ok (.aload 4, 2) := by decide +kernel
theorem dX12_pour_66 : decode cX12_pour 66 = .ok (.getfield 308, 3) := by decide +kernel
theorem dX12_pour_69 : decode cX12_pour 69 = .ok (.iload 7, 2) := by decide +kernel
theorem dX12_pour_7 : decode cX12_pour 7 = .ok (.iload_n 2, 1) := by decide +kernel
theorem dX12_pour_71 : decode cX12_pour 71 = .ok (.iaload, 1) := by decide +kernel
theorem dX12_pour_72 : decode cX12_pour 72 = .ok (.istore 8, 2) := by decide +kernel
theorem dX12_pour_74 : decode cX12_pour 74 = .ok (.iload_n 3, 1) := by decide +kernel
theorem dX12_pour_75 : decode cX12_pour 75 = .ok (.iconst (-1), 1) := by decide +kernel
theorem dX12_pour_76 : decode cX12_pour 76 = .ok (.if_icmp .eq 29, 3) := by decide +kernel
theorem dX12_pour_79 : decode cX12_pour 79 = .ok (.aload_n 0, 1) := by decide +kernel
theorem dX12_pour_8 : decode cX12_pour 8 = .ok (.invokestatic 300, 3) := by decide +kernel
theorem dX12_pour_80 : decode cX12_pour 80 = .ok (.getfield 32, 3) := by decide +kernel
theorem dX12_pour_83 : decode cX12_pour 83 = .ok (.iload 8, 2) := by decide +kernel
theorem dX12_pour_85 : decode cX12_pour 85 = .ok (.invokevirtual 150, 3) := by decide +kernel
theorem dX12_pour_88 : decode cX12_pour 88 = .ok (.ifCond .eq 21, 3) := by decide +kernel
theorem dX12_pour_91 : decode cX12_pour 91 = .ok (.aload_n 0, 1) := by decide +kernel
theorem dX12_pour_92 : decode cX12_pour 92 = .ok (.getfield 32, 3) := by decide +kernel
theorem dX12_pour_95 : decode cX12_pour 95 = .ok (.getfield 153, 3) := by decide +kernel
theorem dX12_pour_98 : decode cX12_pour 98 = .ok (.iload 8, 2) := by decide +kernel
set_option maxRecDepth 20000 in
theorem ggX12_pour_X12_isBag : GoodIn wsX12_pour wsX12_isBag := goodIn_r _ [9, 10, 11, 8, 12] rfl (by decide +kernel)
set_option maxRecDepth 20000 in
theorem ggX12_pour_X12_within : GoodIn wsX12_pour wsX12_within := goodIn_r _ [12] rfl (by decide +kernel)
set_option maxRecDepth 20000 in
theorem ggX12_pour_X1_append : GoodIn wsX12_pour wsX1_append := goodIn_r _ [23, 24, 25, 37, 38] rfl (by decide +kernel)
set_option maxRecDepth 20000 in
theorem ggX12_pour_X2_has : GoodIn wsX12_pour wsX2_has := goodIn_r _ [17, 18, 11, 8, 12, 39, 40, 41, 42, 43, 44, 45, 46] rfl (by decide +kernel)
set_option maxRecDepth 20000 in
theorem gX12_pour_X12_isBag : GoodIn wsX12_pour (va_wsS RX12 300 yX12_isBag wsX12_isBag) := goodIn_app (goodIn_of _ (by decide +kernel)) ggX12_pour_X12_isBag
set_option maxRecDepth 20000 in
theorem gX12_pour_X12_within : GoodIn wsX12_pour (va_wsS RX12 77 yX12_within wsX12_within) := goodIn_app (goodIn_of _ (by decide +kernel)) ggX12_pour_X12_within
set_option maxRecDepth 20000 in
theorem gX12_pour_X1_append : GoodIn wsX12_pour (wsV RX12 303 RX1 yX1_append wsX1_append) := goodIn_app (goodIn_r _ [19, 20, 21, 22] rfl (by decide +kernel)) ggX12_pour_X1_append
set_option maxRecDepth 20000 in
theorem gX12_pour_X2_has : GoodIn wsX12_pour (wsV RX12 150 RX2 yX2_has wsX2_has) := goodIn_app (goodIn_r _ [13, 14, 15, 16] rfl (by decide +kernel)) ggX12_pour_X2_has
set_option maxRecDepth 20000 in
theorem in_X12_pour_X1 : ∀ w ∈ wsX10, w ∈ wsX12_pour := sub_r [37, 38] rfl
set_option maxRecDepth 20000 in
theorem in_X12_pour_X12 : ∀ w ∈ wsX120, w ∈ wsX12_pour := sub_r [26, 27, 28, 29, 30, 31, 32, 33, 34, 35, 36] rfl
set_option maxRecDepth 20000 in
theorem in_X12_pour_X2 : ∀ w ∈ wsX20, w ∈ wsX12_pour := sub_r [39, 40, 41, 42, 43, 44, 45, 46] rfl
set_option maxHeartbeats 4000000 in
set_option maxRecDepth 100000 in
theorem c_X12_pour (l : Launch) (D : va_G) (T : Nat → ClassId) (ad sa av : Nat → Nat) (ta : Nat) (sz : Nat) (h0 : Nat) (h1 : Nat) (h2 : Nat) (h4 : Nat) (fs0 : List Value) (fs2 : List Value) (n9 : Int32) (fk : Nat → Int32) (t0 : Nat) (t1 : Nat) (t2 : Nat) (a0 : Nat) (a1 : Nat) (a2 : Nat) (bn : Nat → Int32) (bf : Nat → Nat → Int32) (x1 : Int32) (x2 : Int32) (x3 : Int32) (e0_5 : fs0[5]? = some (.ref h1)) (e0_4 : fs0[4]? = some (.ref h2)) (e2_0 : fs2[0]? = some (.int n9)) (e2_1 : fs2[1]? = some (.ref h4)) (hn : 0 ≤ n9.toInt ∧ n9.toInt ≤ 24) (hb0 : 0 ≤ (bn 0).toInt ∧ (bn 0).toInt ≤ 12) (hb1 : 0 ≤ (bn 1).toInt ∧ (bn 1).toInt ≤ 12) (hb2 : 0 ≤ (bn 2).toInt ∧ (bn 2).toInt ≤ 12) : Met l yX12_pour wsX12_pour ({ frames := 2, cells := 0, slots := 0, locals := 43 }) (pWk [.ref h0, .int x1, .int x2, .int x3] D T [(h0, .inr (9, fs0)), (h1, .inl (T 5, 3, .inr (.inr (.inr (.inr (va_up (va_up (va_up (fun _ => none) 0 (some t0)) 1 (some t1)) 2 (some t2))))))), (h2, .inr (1, fs2)), (h4, .inl (T 0, 24, .inl fk)), (t0, .inr (0, [.int (bn 0), .ref a0])), (t1, .inr (0, [.int (bn 1), .ref a1])), (t2, .inr (0, [.int (bn 2), .ref a2])), (a0, .inl (T 0, 12, .inl (bf 0))), (a1, .inl (T 0, 12, .inl (bf 1))), (a2, .inl (T 0, 12, .inl (bf 2)))] sz ad sa av ta) (va_Qi (fun (r : Int32) (u : (Nat → Int32) × (Nat → Nat → Int32)) => (0 ≤ (u.1 0).toInt ∧ (u.1 0).toInt ≤ 12) ∧ (0 ≤ (u.1 1).toInt ∧ (u.1 1).toInt ≤ 12) ∧ (0 ≤ (u.1 2).toInt ∧ (u.1 2).toInt ≤ 12) ∧ pourC n9 x1 x2 x3 r fk bn u.1 bf u.2) (bW D (va_A [(h0, .inr (9, fs0)), (h1, .inl (T 5, 3, .inr (.inr (.inr (.inr (va_up (va_up (va_up (fun _ => none) 0 (some t0)) 1 (some t1)) 2 (some t2))))))), (h2, .inr (1, fs2)), (h4, .inl (T 0, 24, .inl fk)), (t0, .inr (0, [.int (bn 0), .ref a0])), (t1, .inr (0, [.int (bn 1), .ref a1])), (t2, .inr (0, [.int (bn 2), .ref a2])), (a0, .inl (T 0, 12, .inl (bf 0))), (a1, .inl (T 0, 12, .inl (bf 1))), (a2, .inl (T 0, 12, .inl (bf 2)))] sz) (fun (u : (Nat → Int32) × (Nat → Nat → Int32)) => [(h0, .inr (9, fs0)), (h1, .inl (T 5, 3, .inr (.inr (.inr (.inr (va_up (va_up (va_up (fun _ => none) 0 (some t0)) 1 (some t1)) 2 (some t2))))))), (h2, .inr (1, fs2)), (h4, .inl (T 0, 24, .inl fk)), (t0, .inr (0, [.int (u.1 0), .ref a0])), (t1, .inr (0, [.int (u.1 1), .ref a1])), (t2, .inr (0, [.int (u.1 2), .ref a2])), (a0, .inl (T 0, 12, .inl (u.2 0))), (a1, .inl (T 0, 12, .inl (u.2 1))), (a2, .inl (T 0, 12, .inl (u.2 2)))])) (va_A [(h0, .inr (9, fs0)), (h1, .inl (T 5, 3, .inr (.inr (.inr (.inr (va_up (va_up (va_up (fun _ => none) 0 (some t0)) 1 (some t1)) 2 (some t2))))))), (h2, .inr (1, fs2)), (h4, .inl (T 0, 24, .inl fk)), (t0, .inr (0, [.int (bn 0), .ref a0])), (t1, .inr (0, [.int (bn 1), .ref a1])), (t2, .inr (0, [.int (bn 2), .ref a2])), (a0, .inl (T 0, 12, .inl (bf 0))), (a1, .inl (T 0, 12, .inl (bf 1))), (a2, .inl (T 0, 12, .inl (bf 2)))] sz)) 0 0 (va_A [(h0, .inr (9, fs0)), (h1, .inl (T 5, 3, .inr (.inr (.inr (.inr (va_up (va_up (va_up (fun _ => none) 0 (some t0)) 1 (some t1)) 2 (some t2))))))), (h2, .inr (1, fs2)), (h4, .inl (T 0, 24, .inl fk)), (t0, .inr (0, [.int (bn 0), .ref a0])), (t1, .inr (0, [.int (bn 1), .ref a1])), (t2, .inr (0, [.int (bn 2), .ref a2])), (a0, .inl (T 0, 12, .inl (bf 0))), (a1, .inl (T 0, 12, .inl (bf 1))), (a2, .inl (T 0, 12, .inl (bf 2)))] sz) := by
  refine Met.ofW (cc := cX12_pour) (maxL := 10) (ret := (some .int)) (by decide +kernel) rfl ?_
  intro p e s m args below meth c s₁ B hml hv
  obtain ⟨rfl, hsz, hP, hE, hD0, hV⟩ := hv
  have hx := B.exec
  have hb := B.bytes
  have hr := B.returns
  have hts := atoms_spec (ws := wsX12_pour) B.pre
  have hown : s.vm.findClass RX12 = some m.cls := findClass_of_methodNamed B.named
  have hlocks := B.notSynchronized
  subst hsz
  have hD := hD0.self (sz := s.heap.size)
  generalize hAe : va_A [(h0, .inr (9, fs0)), (h1, .inl (T 5, 3, .inr (.inr (.inr (.inr (va_up (va_up (va_up (fun _ => none) 0 (some t0)) 1 (some t1)) 2 (some t2))))))), (h2, .inr (1, fs2)), (h4, .inl (T 0, 24, .inl fk)), (t0, .inr (0, [.int (bn 0), .ref a0])), (t1, .inr (0, [.int (bn 1), .ref a1])), (t2, .inr (0, [.int (bn 2), .ref a2])), (a0, .inl (T 0, 12, .inl (bf 0))), (a1, .inl (T 0, 12, .inl (bf 1))), (a2, .inl (T 0, 12, .inl (bf 2)))] s.heap.size = A at hD hV ⊢
  have hA : ∀ q : Nat, s.heap.size ≤ q → A q := fun q h => by rw [← hAe]; exact Or.inr h
  have hS : va_S A s.heap s.heap [] := va_S.rf
  have hP : va_P D vwCl [(h0, .inr (9, fs0)), (h1, .inl (T 5, 3, .inr (.inr (.inr (.inr (va_up (va_up (va_up (fun _ => none) 0 (some t0)) 1 (some t1)) 2 (some t2))))))), (h2, .inr (1, fs2)), (h4, .inl (T 0, 24, .inl fk)), (t0, .inr (0, [.int (bn 0), .ref a0])), (t1, .inr (0, [.int (bn 1), .ref a1])), (t2, .inr (0, [.int (bn 2), .ref a2])), (a0, .inl (T 0, 12, .inl (bf 0))), (a1, .inl (T 0, 12, .inl (bf 1))), (a2, .inl (T 0, 12, .inl (bf 2)))] s.heap := hP
  have hl := lv_entry ([.ref h0, .int x1, .int x2, .int x3]) (n := 10) (Nat.le_of_ble_eq_true rfl)
  rw [lg_entry_eq]
  generalize (lg_sl ([.ref h0, .int x1, .int x2, .int x3]) ++ List.replicate (10 - (lg_sl ([.ref h0, .int x1, .int x2, .int x3])).length) Slot.unset).toArray = ls at hl ⊢
  have hl : lv_has ls 10 [(0, .ref h0), (1, .int x1), (2, .int x2), (3, .int x3)] := hl
  clear hD0
  refine lv_iload_n hx hb dX12_pour_0 rfl (lv_at hl 1 rfl) ?_
  refine vp_callSi (W.runS (As := [.int x1]) (rest := []) ⟨hx, hb, hml, hown, hts⟩ (c_X12_isBag l D T x1) (va_cwS 1 hts gX12_pour_X12_isBag rfl rfl rfl hs_X12_isBag ⟨Nat.le_of_ble_eq_true rfl, Nat.le_of_ble_eq_true rfl⟩) (pR_S hP hE [] rfl) rfl rfl hl.1 rfl (lv_room (Nat.le_of_ble_eq_true rfl)) dX12_pour_1 ⟨Nat.le_of_ble_eq_true rfl, Nat.le_of_ble_eq_true rfl⟩) (fun r_1 hr_1 => ?_)
  rcases bool_post hr_1 with ⟨c_2, rfl⟩ | ⟨c_2, rfl⟩
  · refine lv_if_eq (tgt := 33) hx hb dX12_pour_4 (by decide +kernel) (fun c9 => absurd c9 (by decide +kernel)) (fun _ => ?_)
    refine lv_iload_n hx hb dX12_pour_7 rfl (lv_at hl 2 rfl) ?_
    refine vp_callSi (W.runS (As := [.int x2]) (rest := []) ⟨hx, hb, hml, hown, hts⟩ (c_X12_isBag l D T x2) (va_cwS 1 hts gX12_pour_X12_isBag rfl rfl rfl hs_X12_isBag ⟨Nat.le_of_ble_eq_true rfl, Nat.le_of_ble_eq_true rfl⟩) (pR_S hP hE [] rfl) rfl rfl hl.1 rfl (lv_room (Nat.le_of_ble_eq_true rfl)) dX12_pour_8 ⟨Nat.le_of_ble_eq_true rfl, Nat.le_of_ble_eq_true rfl⟩) (fun r_3 hr_3 => ?_)
    rcases bool_post hr_3 with ⟨c_4, rfl⟩ | ⟨c_4, rfl⟩
    · refine lv_if_eq (tgt := 33) hx hb dX12_pour_11 (by decide +kernel) (fun c9 => absurd c9 (by decide +kernel)) (fun _ => ?_)
      refine lv_iload_n hx hb dX12_pour_14 rfl (lv_at hl 1 rfl) ?_
      refine lv_iload_n hx hb dX12_pour_15 rfl (lv_at hl 2 rfl) ?_
      refine lv_icmp_eq (tgt := 33) hx hb dX12_pour_16 (by decide +kernel) (fun c_5 => ?_) (fun c_5 => ?_)
      · rw [fa_eq] at c_5
        refine lv_bipush (v := (-2)) hx hb dX12_pour_33 (by decide +kernel) ?_
        exact W.iret hx hb hr (fun t ht hW => ⟨⟨_, ((fun k => [(bn 0), (bn 1), (bn 2)].getD k 0), (fun k => [(bf 0), (bf 1), (bf 2)].getD k (bf 0))), rfl, ⟨(show 0 ≤ ((bn 0)).toInt ∧ ((bn 0)).toInt ≤ 12 from by (try subst_vars); first | omega | (rw [dec1 (by omega)]; omega)), (show 0 ≤ ((bn 1)).toInt ∧ ((bn 1)).toInt ≤ 12 from by (try subst_vars); first | omega | (rw [dec1 (by omega)]; omega)), (show 0 ≤ ((bn 2)).toInt ∧ ((bn 2)).toInt ≤ 12 from by (try subst_vars); first | omega | (rw [dec1 (by omega)]; omega)), (Or.inl ⟨(fun h9 => by obtain ⟨⟨h1, h2⟩, h3, h4⟩ := h9; omega), (by decide +kernel), all3 ⟨rfl, rfl⟩ ⟨rfl, rfl⟩ ⟨rfl, rfl⟩⟩)⟩, by rw [ht]; exact hP.sub [0, 1, 2, 3, 4, 5, 6, 7, 8, 9] rfl, hD.sub [0, 1, 2, 3, 4, 5, 6, 7, 8, 9] (by decide +kernel) rfl⟩, hS.F ht⟩) hS.2.2 dX12_pour_35
      · rw [fa_eq] at c_5
        refine lv_iload_n hx hb dX12_pour_19 rfl (lv_at hl 3 rfl) ?_
        refine lv_iconst (v := (-1)) hx hb dX12_pour_20 (by decide +kernel) ?_
        refine va_getsN (v := .ref ta) hx hb hV.1.2.1 hS hown (va_Nw.use rfl (hE.2.2.1 (RX12, 126) (List.mem_of_getElem? (i := 0) rfl))) (fun _ h9 => h9) dX12_pour_21 ?_
        refine va_tlen (v := 13) hx hb hV.1.2.2 hS rfl dX12_pour_24 ?_
        refine lv_iconst (v := 1) hx hb dX12_pour_25 (by decide +kernel) ?_
        refine lv_isub hx hb dX12_pour_26 ?_
        refine lv_topi (fun z_6 ez_6 => ?_)
        obtain rfl : z_6 = 12 := ez_6.trans (by decide +kernel)
        refine vp_callSi (W.runS (As := [.int x3, .int (-1), .int 12]) (rest := []) ⟨hx, hb, hml, hown, hts⟩ (c_X12_within l D T x3 (-1) 12 (-1) 12 (by decide +kernel) (by decide +kernel)) (va_cwS 3 hts gX12_pour_X12_within rfl rfl rfl hs_X12_within ⟨Nat.le_of_ble_eq_true rfl, Nat.le_of_ble_eq_true rfl⟩) (pR_S hP hE [] rfl) rfl rfl hl.1 rfl (lv_room (Nat.le_of_ble_eq_true rfl)) dX12_pour_27 ⟨Nat.le_of_ble_eq_true rfl, Nat.le_of_ble_eq_true rfl⟩) (fun r_7 hr_7 => ?_)
        rcases bool_post hr_7 with ⟨c_8, rfl⟩ | ⟨c_8, rfl⟩
        · refine lv_if_ne (tgt := 36) hx hb dX12_pour_30 (by decide +kernel) (fun _ => ?_) (fun c9 => absurd c9 (by decide +kernel))
          rcases in3 (x := x1) (by omega) with rfl | rfl | rfl
          · rcases in3 (x := x2) (by omega) with rfl | rfl | rfl
            · omega
            · refine lv_aload_n hx hb dX12_pour_36 rfl (lv_at hl 0 rfl) ?_
              refine va_get (D := D) (ci := 9) (v := .ref h1) (C := RX12) (T := TX12) (N := 11) hx hb hts in_X12_pour_X12 hown hE.1 hP 0 rfl rfl 5 (by decide +kernel) (hts (.fieldLink RX12 37 "ClauseBook" "bags" "[LClauseBook$Bag;") (List.mem_of_getElem? (i := 1) rfl)) (fun _ h9 => h9) e0_5 dX12_pour_37 ?_
              refine lv_iload_n hx hb dX12_pour_40 rfl (lv_at hl 1 rfl) ?_
              refine va_aldq hx hb hE.1 hP 1 5 rfl rfl (by unfold vp_in; decide) dX12_pour_41 ?_
              refine W.eq (g2 := F0 m 42 ls [.ref t0]) rfl ?_
              refine lv_astore (lv' := [(4, .ref t0), (0, .ref h0), (1, .int 0), (2, .int 1), (3, .int x3)]) hx hb dX12_pour_42 hl (by decide +kernel) rfl (fun ls hl => ?_)
              refine lv_aload hx hb dX12_pour_44 (lv_at hl 0 rfl) ?_
              refine va_get (D := D) (ci := 0) (v := .int (bn 0)) (C := RX1) (T := TX1) (N := 2) hx hb hts in_X12_pour_X1 hown hE.1 hP 4 rfl rfl 0 (by decide +kernel) (hts (.fieldLink RX12 307 "ClauseBook$Bag" "size" "I") (List.mem_of_getElem? (i := 2) rfl)) (fun _ h9 => h9) rfl dX12_pour_46 ?_
              refine lv_istore (lv' := [(5, .int (bn 0)), (4, .ref t0), (0, .ref h0), (1, .int 0), (2, .int 1), (3, .int x3)]) hx hb dX12_pour_49 hl (by decide +kernel) rfl (fun ls hl => ?_)
              refine lv_iconst (v := 0) hx hb dX12_pour_51 (by decide +kernel) ?_
              refine lv_istore (lv' := [(6, .int 0), (5, .int (bn 0)), (4, .ref t0), (0, .ref h0), (1, .int 0), (2, .int 1), (3, .int x3)]) hx hb dX12_pour_52 hl (by decide +kernel) rfl (fun ls hl => ?_)
              refine lv_iconst (v := 0) hx hb dX12_pour_54 (by decide +kernel) ?_
              refine lv_istore (lv' := [(7, .int 0), (6, .int 0), (5, .int (bn 0)), (4, .ref t0), (0, .ref h0), (1, .int 0), (2, .int 1), (3, .int x3)]) hx hb dX12_pour_55 hl (by decide +kernel) rfl (fun ls hl => ?_)
              refine loopW (σ := (Int32) × (Int32) × (Int32) × (Nat → Int32) × (Nat → Int32)) (fun x9 ls H locs => lv_has ls 10 [(7, .int x9.1), (6, .int x9.2.1), (5, .int (bn 0)), (4, .ref t0), (0, .ref h0), (1, .int 0), (2, .int 1), (3, .int x3)] ∧ va_P D vwCl [(h0, .inr (9, fs0)), (h1, .inl (T 5, 3, .inr (.inr (.inr (.inr (va_up (va_up (va_up (fun _ => none) 0 (some t0)) 1 (some t1)) 2 (some t2))))))), (h2, .inr (1, fs2)), (h4, .inl (T 0, 24, .inl fk)), (t0, .inr (0, [.int (bn 0), .ref a0])), (t1, .inr (0, [.int x9.2.2.1, .ref a1])), (t2, .inr (0, [.int (bn 2), .ref a2])), (a0, .inl (T 0, 12, .inl x9.2.2.2.1)), (a1, .inl (T 0, 12, .inl x9.2.2.2.2)), (a2, .inl (T 0, 12, .inl (bf 2)))] H ∧ va_D A [(h0, .inr (9, fs0)), (h1, .inl (T 5, 3, .inr (.inr (.inr (.inr (va_up (va_up (va_up (fun _ => none) 0 (some t0)) 1 (some t1)) 2 (some t2))))))), (h2, .inr (1, fs2)), (h4, .inl (T 0, 24, .inl fk)), (t0, .inr (0, [.int (bn 0), .ref a0])), (t1, .inr (0, [.int x9.2.2.1, .ref a1])), (t2, .inr (0, [.int (bn 2), .ref a2])), (a0, .inl (T 0, 12, .inl x9.2.2.2.1)), (a1, .inl (T 0, 12, .inl x9.2.2.2.2)), (a2, .inl (T 0, 12, .inl (bf 2)))] ∧ va_S A s.heap H locs ∧ (((0 ≤ x9.2.1.toInt ∧ x9.2.1.toInt ≤ x9.1.toInt ∧ x9.1.toInt ≤ (bn 0).toInt) ∧ 0 ≤ x9.2.2.1.toInt ∧ x9.2.2.1.toInt ≤ 12) ∧ x9.2.1.toInt = (pourF (prP x3 n9 fk) (bf 0) (bf 1) ((bn 1).toNatClampNeg) (x9.1.toNatClampNeg)).1 ∧ x9.2.2.2.1 = (pourF (prP x3 n9 fk) (bf 0) (bf 1) ((bn 1).toNatClampNeg) (x9.1.toNatClampNeg)).2.1 ∧ x9.2.2.1.toInt = (pourF (prP x3 n9 fk) (bf 0) (bf 1) ((bn 1).toNatClampNeg) (x9.1.toNatClampNeg)).2.2.1 ∧ x9.2.2.2.2 = (pourF (prP x3 n9 fk) (bf 0) (bf 1) ((bn 1).toNatClampNeg) (x9.1.toNatClampNeg)).2.2.2)) (fun x9 => (12 - x9.1.toInt).toNat) (fun x9 ls H locs hI ih => ?_) (0, 0, (bn 1), (bf 0), (bf 1)) ls ⟨lv_sub hl [0, 1, 2, 3, 4, 5, 6, 7] rfl, hP.sub [0, 1, 2, 3, 4, 5, 6, 7, 8, 9] rfl, hD.sub [0, 1, 2, 3, 4, 5, 6, 7, 8, 9] (by decide +kernel) rfl, hS, ⟨(by (try dsimp only); simp only [ti_0]; omega), (by (try dsimp only); rw [tn0']; rfl), (by (try dsimp only); rw [tn0']; rfl), (by (try dsimp only); rw [tn0']; exact (tn (by omega)).symm), (by (try dsimp only); rw [tn0']; rfl)⟩⟩
              obtain ⟨ii, le, qq, g0, g1⟩ := x9
              obtain ⟨hl, hP, hD, hS, hinv⟩ := hI
              have hl : lv_has ls 10 [(7, .int ii), (6, .int le), (5, .int (bn 0)), (4, .ref t0), (0, .ref h0), (1, .int 0), (2, .int 1), (3, .int x3)] := hl
              have hP : va_P D vwCl [(h0, .inr (9, fs0)), (h1, .inl (T 5, 3, .inr (.inr (.inr (.inr (va_up (va_up (va_up (fun _ => none) 0 (some t0)) 1 (some t1)) 2 (some t2))))))), (h2, .inr (1, fs2)), (h4, .inl (T 0, 24, .inl fk)), (t0, .inr (0, [.int (bn 0), .ref a0])), (t1, .inr (0, [.int qq, .ref a1])), (t2, .inr (0, [.int (bn 2), .ref a2])), (a0, .inl (T 0, 12, .inl g0)), (a1, .inl (T 0, 12, .inl g1)), (a2, .inl (T 0, 12, .inl (bf 2)))] H := hP
              have hD : va_D A [(h0, .inr (9, fs0)), (h1, .inl (T 5, 3, .inr (.inr (.inr (.inr (va_up (va_up (va_up (fun _ => none) 0 (some t0)) 1 (some t1)) 2 (some t2))))))), (h2, .inr (1, fs2)), (h4, .inl (T 0, 24, .inl fk)), (t0, .inr (0, [.int (bn 0), .ref a0])), (t1, .inr (0, [.int qq, .ref a1])), (t2, .inr (0, [.int (bn 2), .ref a2])), (a0, .inl (T 0, 12, .inl g0)), (a1, .inl (T 0, 12, .inl g1)), (a2, .inl (T 0, 12, .inl (bf 2)))] := hD
              have hinv : ((0 ≤ le.toInt ∧ le.toInt ≤ ii.toInt ∧ ii.toInt ≤ (bn 0).toInt) ∧ 0 ≤ qq.toInt ∧ qq.toInt ≤ 12) ∧ le.toInt = (pourF (prP x3 n9 fk) (bf 0) (bf 1) ((bn 1).toNatClampNeg) (ii.toNatClampNeg)).1 ∧ g0 = (pourF (prP x3 n9 fk) (bf 0) (bf 1) ((bn 1).toNatClampNeg) (ii.toNatClampNeg)).2.1 ∧ qq.toInt = (pourF (prP x3 n9 fk) (bf 0) (bf 1) ((bn 1).toNatClampNeg) (ii.toNatClampNeg)).2.2.1 ∧ g1 = (pourF (prP x3 n9 fk) (bf 0) (bf 1) ((bn 1).toNatClampNeg) (ii.toNatClampNeg)).2.2.2 := hinv
              obtain ⟨hinv, hp1, hp2, hp3, hp4⟩ := hinv
              refine lv_iload hx hb dX12_pour_57 (lv_at hl 0 rfl) ?_
              refine lv_iload hx hb dX12_pour_59 (lv_at hl 2 rfl) ?_
              refine lv_icmp_ge (tgt := 153) hx hb dX12_pour_61 (by decide +kernel) (fun c_9 => ?_) (fun c_9 => ?_)
              · rw [fa_le] at c_9
                have e9 : ii = (bn 0) := Int32.toInt_inj.1 (by omega)
                rw [e9] at hp1 hp2 hp3 hp4
                refine lv_aload hx hb dX12_pour_153 (lv_at hl 3 rfl) ?_
                refine lv_iload hx hb dX12_pour_155 (lv_at hl 1 rfl) ?_
                refine va_put (D := D) (ci := 0) (v := .int le) (ty := .int) (C := RX1) (T := TX1) (N := 2) hx hb hts in_X12_pour_X1 tyX1 tyX1_ok nmX1 hown hE.1 hP hD hS 4 rfl rfl 0 (by decide +kernel) (hts (.fieldLink RX12 307 "ClauseBook$Bag" "size" "I") (List.mem_of_getElem? (i := 2) rfl)) (fun _ h9 => h9) rfl (by decide +kernel) rfl rfl (Nat.le_of_ble_eq_true rfl) dX12_pour_157 (fun H locs hP hD hS => ?_)
                obtain ⟨hP, hD⟩ := wPD [(h0, .inr (9, fs0)), (h1, .inl (T 5, 3, .inr (.inr (.inr (.inr (va_up (va_up (va_up (fun _ => none) 0 (some t0)) 1 (some t1)) 2 (some t2))))))), (h2, .inr (1, fs2)), (h4, .inl (T 0, 24, .inl fk)), (t0, .inr (0, [.int le, .ref a0])), (t1, .inr (0, [.int qq, .ref a1])), (t2, .inr (0, [.int (bn 2), .ref a2])), (a0, .inl (T 0, 12, .inl g0)), (a1, .inl (T 0, 12, .inl g1)), (a2, .inl (T 0, 12, .inl (bf 2)))] hP hD rfl
                refine lv_iload hx hb dX12_pour_160 (lv_at hl 2 rfl) ?_
                refine lv_iload hx hb dX12_pour_162 (lv_at hl 1 rfl) ?_
                refine lv_isub hx hb dX12_pour_164 ?_
                exact W.iret hx hb hr (fun t ht hW => ⟨⟨_, ((fun k => [le, qq, (bn 2)].getD k 0), (fun k => [g0, g1, (bf 2)].getD k g0)), rfl, ⟨(show 0 ≤ (le).toInt ∧ (le).toInt ≤ 12 from by (try subst_vars); first | omega | (rw [dec1 (by omega)]; omega)), (show 0 ≤ (qq).toInt ∧ (qq).toInt ≤ 12 from by (try subst_vars); first | omega | (rw [dec1 (by omega)]; omega)), (show 0 ≤ ((bn 2)).toInt ∧ ((bn 2)).toInt ≤ 12 from by (try subst_vars); first | omega | (rw [dec1 (by omega)]; omega)), (Or.inr ⟨⟨⟨⟨by decide, by decide⟩, by decide, by decide⟩, by decide, by omega⟩, _, rfl, (show (((bn 0) - le) : Int32).toInt = (bn 0).toInt - (((pourF (prP x3 n9 fk) (bf 0) (bf 1) ((bn 1).toNatClampNeg) ((bn 0).toNatClampNeg)).1 : Nat) : Int) from by have h8 := hp1; rw [fb_subI (by omega) (by omega)]; omega), all3 ⟨(fun _ => ⟨hp1, hp2⟩), (fun h9 => absurd h9 (by decide +kernel)), (fun h9 => absurd (by decide +kernel) h9)⟩ ⟨(fun h9 => absurd h9 (by decide +kernel)), (fun _ => ⟨hp3, hp4⟩), (fun _ h9 => absurd (by decide +kernel) h9)⟩ ⟨(fun h9 => absurd h9 (by decide +kernel)), (fun h9 => absurd h9 (by decide +kernel)), (fun _ _ => ⟨rfl, rfl⟩)⟩⟩)⟩, by rw [ht]; exact hP.sub [0, 1, 2, 3, 4, 5, 6, 7, 8, 9] rfl, hD.sub [0, 1, 2, 3, 4, 5, 6, 7, 8, 9] (by decide +kernel) rfl⟩, hS.F ht⟩) hS.2.2 dX12_pour_165
              · rw [fa_le] at c_9
                refine lv_aload hx hb dX12_pour_64 (lv_at hl 3 rfl) ?_
                refine va_get (D := D) (ci := 0) (v := .ref a0) (C := RX1) (T := TX1) (N := 2) hx hb hts in_X12_pour_X1 hown hE.1 hP 4 rfl rfl 1 (by decide +kernel) (hts (.fieldLink RX12 308 "ClauseBook$Bag" "numbers" "[I") (List.mem_of_getElem? (i := 3) rfl)) (fun _ h9 => h9) rfl dX12_pour_66 ?_
                refine lv_iload hx hb dX12_pour_69 (lv_at hl 0 rfl) ?_
                refine va_iald hx hb hE.1 hP 7 0 rfl rfl (by rw [vp_in_iff]; first | omega | (subst_vars; rw [dec1 (by omega)]; omega) | (subst_vars; rw [inc1 (n := 1000) (by omega) (by decide +kernel)]; omega)) dX12_pour_71 ?_
                refine lv_topi (fun z_10 ez_10 => ?_)
                have hzF : z_10 = (bf 0) (ii.toNatClampNeg) := by rw [ez_10, hp2]; exact pourF_keep _ _ (by have h8 := tn (x := ii) (by omega); omega)
                refine lv_istore (lv' := [(8, .int z_10), (7, .int ii), (6, .int le), (5, .int (bn 0)), (4, .ref t0), (0, .ref h0), (1, .int 0), (2, .int 1), (3, .int x3)]) hx hb dX12_pour_72 hl (by decide +kernel) rfl (fun ls hl => ?_)
                refine lv_iload_n hx hb dX12_pour_74 rfl (lv_at hl 8 rfl) ?_
                refine lv_iconst (v := (-1)) hx hb dX12_pour_75 (by decide +kernel) ?_
                refine lv_icmp_eq (tgt := 105) hx hb dX12_pour_76 (by decide +kernel) (fun c_11 => ?_) (fun c_11 => ?_)
                · rw [fa_eq] at c_11
                  try rw [ti_n1] at c_11
                  refine lv_iconst (v := 1) hx hb dX12_pour_105 (by decide +kernel) ?_
                  refine lv_goto (tgt := 110) hx hb dX12_pour_106 (by decide +kernel) ?_
                  refine lv_istore (lv' := [(9, .int 1), (8, .int z_10), (7, .int ii), (6, .int le), (5, .int (bn 0)), (4, .ref t0), (0, .ref h0), (1, .int 0), (2, .int 1), (3, .int x3)]) hx hb dX12_pour_110 hl (by decide +kernel) rfl (fun ls hl => ?_)
                  have hM : prP x3 n9 fk z_10 = true := decide_eq_true (Or.inl (by omega))
                  refine lv_iload hx hb dX12_pour_112 (lv_at hl 0 rfl) ?_
                  refine lv_if_eq (tgt := 134) hx hb dX12_pour_114 (by decide +kernel) (fun c9 => absurd c9 (by decide +kernel)) (fun _ => ?_)
                  refine lv_aload_n hx hb dX12_pour_117 rfl (lv_at hl 6 rfl) ?_
                  refine va_get (D := D) (ci := 9) (v := .ref h1) (C := RX12) (T := TX12) (N := 11) hx hb hts in_X12_pour_X12 hown hE.1 hP 0 rfl rfl 5 (by decide +kernel) (hts (.fieldLink RX12 37 "ClauseBook" "bags" "[LClauseBook$Bag;") (List.mem_of_getElem? (i := 1) rfl)) (fun _ h9 => h9) e0_5 dX12_pour_118 ?_
                  refine lv_iload_n hx hb dX12_pour_121 rfl (lv_at hl 8 rfl) ?_
                  refine va_aldq hx hb hE.1 hP 1 5 rfl rfl (by unfold vp_in; decide) dX12_pour_122 ?_
                  refine W.eq (g2 := F0 m 123 ls [.ref t1]) rfl ?_
                  refine lv_iload hx hb dX12_pour_123 (lv_at hl 1 rfl) ?_
                  have hFc := va_free (wc := [(t1, .inr (0, [.int qq, .ref a1])), (a1, .inl (T 0, 12, .inl g1))]) hD hS hA [5, 8] rfl
                  refine va_calli (va_runV (As := [.int z_10]) (rest := []) ⟨hx, hb, hml, hown, hts⟩ (c_X1_append l D T _ t1 qq a1 g1 z_10 (by omega)) (cwV 1 hts gX12_pour_X1_append rfl rfl rfl hv_X1_append ⟨Nat.le_of_ble_eq_true rfl, Nat.le_of_ble_eq_true rfl⟩) (pW_V (q := (RX1, TX1, 2)) (ci := 0) (q0 := 5) hP hE hD rfl rfl [5, 8] (by decide +kernel) rfl rfl) rfl rfl hl.1 rfl (lv_room (Nat.le_of_ble_eq_true rfl)) dX12_pour_125 ⟨Nat.le_of_ble_eq_true rfl, Nat.le_of_ble_eq_true rfl⟩) hS (fun q _ h => hFc q h) hFc (fun r_12 u_13 t H1 locs ht hvm hr_12 hB hz1 hk1 hS => ?_)
                  obtain ⟨n_14, f_15⟩ := u_13
                  have hinn_14 : 0 ≤ n_14.toInt ∧ n_14.toInt ≤ 12 := hr_12.2.1
                  have hap : ((qq).toInt < 12 → n_14.toInt = (qq).toInt + 1 ∧ f_15 = upd g1 ((qq).toNatClampNeg) z_10) ∧ (¬ (qq).toInt < 12 → n_14 = qq ∧ f_15 = g1) := hr_12.2.2
                  have hbo : r_12 = if (qq).toInt < 12 then 1 else 0 := hr_12.1
                  obtain ⟨hP1, hD1⟩ := hB
                  rw [ht] at hP1
                  obtain ⟨hP, hD⟩ := va_repl [(h0, .inr (9, fs0)), (h1, .inl (T 5, 3, .inr (.inr (.inr (.inr (va_up (va_up (va_up (fun _ => none) 0 (some t0)) 1 (some t1)) 2 (some t2))))))), (h2, .inr (1, fs2)), (h4, .inl (T 0, 24, .inl fk)), (t0, .inr (0, [.int (bn 0), .ref a0])), (t1, .inr (0, [.int n_14, .ref a1])), (t2, .inr (0, [.int (bn 2), .ref a2])), (a0, .inl (T 0, 12, .inl g0)), (a1, .inl (T 0, 12, .inl f_15)), (a2, .inl (T 0, 12, .inl (bf 2)))] hP hD [5, 8] [5, 8] rfl (by decide +kernel) rfl rfl rfl hk1 hP1
                  clear hP1 hD1 hFc
                  generalize H1 = H at hP hS ⊢
                  rcases bool_post hbo with ⟨c_16, rfl⟩ | ⟨c_16, rfl⟩
                  · refine lv_if_eq (tgt := 134) hx hb dX12_pour_128 (by decide +kernel) (fun c9 => absurd c9 (by decide +kernel)) (fun _ => ?_)
                    refine lv_goto (tgt := 147) hx hb dX12_pour_131 (by decide +kernel) ?_
                    obtain ⟨z_17, ez_17⟩ : ∃ y : Int32, y = ii + 1 := ⟨_, rfl⟩
                    refine lv_iinc (v := z_17) (lv' := [(7, .int z_17), (9, .int 1), (8, .int z_10), (6, .int le), (5, .int (bn 0)), (4, .ref t0), (0, .ref h0), (1, .int 0), (2, .int 1), (3, .int x3)]) hx hb dX12_pour_147 hl (k := 2) rfl (by rw [ez_17]; rfl) (by decide +kernel) rfl (fun ls hl => ?_)
                    have hi9 : z_17.toInt = ii.toInt + 1 := by rw [ez_17]; exact inc1 (n := 1000) (by omega) (by decide +kernel)
                    refine lv_goto (tgt := 57) hx hb dX12_pour_150 (by decide +kernel) ?_
                    exact ih (z_17, le, n_14, g0, f_15) ls _ _ ⟨lv_sub hl [0, 3, 4, 5, 6, 7, 8, 9] rfl, hP.sub [0, 1, 2, 3, 4, 5, 6, 7, 8, 9] rfl, hD.sub [0, 1, 2, 3, 4, 5, 6, 7, 8, 9] (by decide +kernel) rfl, hS, ⟨(by (try dsimp only); omega), (by (try dsimp only); exact pour_stepY (by omega) hi9 hp1 hp2 hp3 hp4 hzF hM (by omega) (hap.1 (by omega)).1 (hap.1 (by omega)).2)⟩⟩ (by (try dsimp only); omega)
                  · refine lv_if_eq (tgt := 134) hx hb dX12_pour_128 (by decide +kernel) (fun _ => ?_) (fun c9 => absurd c9 (by decide +kernel))
                    refine lv_aload hx hb dX12_pour_134 (lv_at hl 5 rfl) ?_
                    refine va_get (D := D) (ci := 0) (v := .ref a0) (C := RX1) (T := TX1) (N := 2) hx hb hts in_X12_pour_X1 hown hE.1 hP 4 rfl rfl 1 (by decide +kernel) (hts (.fieldLink RX12 308 "ClauseBook$Bag" "numbers" "[I") (List.mem_of_getElem? (i := 3) rfl)) (fun _ h9 => h9) rfl dX12_pour_136 ?_
                    refine lv_iload hx hb dX12_pour_139 (lv_at hl 3 rfl) ?_
                    refine lv_iload hx hb dX12_pour_141 (lv_at hl 1 rfl) ?_
                    refine va_iast hx hb hE.1 hP hD hS 7 0 rfl rfl (by rw [vp_in_iff]; first | omega | (subst_vars; rw [dec1 (by omega)]; omega) | (subst_vars; rw [inc1 (n := 1000) (by omega) (by decide +kernel)]; omega)) dX12_pour_143 (fun H locs hP hD hS => ?_)
                    obtain ⟨hP, hD⟩ := wPD [(h0, .inr (9, fs0)), (h1, .inl (T 5, 3, .inr (.inr (.inr (.inr (va_up (va_up (va_up (fun _ => none) 0 (some t0)) 1 (some t1)) 2 (some t2))))))), (h2, .inr (1, fs2)), (h4, .inl (T 0, 24, .inl fk)), (t0, .inr (0, [.int (bn 0), .ref a0])), (t1, .inr (0, [.int n_14, .ref a1])), (t2, .inr (0, [.int (bn 2), .ref a2])), (a0, .inl (T 0, 12, .inl (upd g0 (le.toNatClampNeg) z_10))), (a1, .inl (T 0, 12, .inl f_15)), (a2, .inl (T 0, 12, .inl (bf 2)))] hP hD rfl
                    obtain ⟨z_18, ez_18⟩ : ∃ y : Int32, y = le + 1 := ⟨_, rfl⟩
                    refine lv_iinc (v := z_18) (lv' := [(6, .int z_18), (9, .int 1), (8, .int z_10), (7, .int ii), (5, .int (bn 0)), (4, .ref t0), (0, .ref h0), (1, .int 0), (2, .int 1), (3, .int x3)]) hx hb dX12_pour_144 hl (k := 3) rfl (by rw [ez_18]; rfl) (by decide +kernel) rfl (fun ls hl => ?_)
                    obtain ⟨z_19, ez_19⟩ : ∃ y : Int32, y = ii + 1 := ⟨_, rfl⟩
                    refine lv_iinc (v := z_19) (lv' := [(7, .int z_19), (6, .int z_18), (9, .int 1), (8, .int z_10), (5, .int (bn 0)), (4, .ref t0), (0, .ref h0), (1, .int 0), (2, .int 1), (3, .int x3)]) hx hb dX12_pour_147 hl (k := 3) rfl (by rw [ez_19]; rfl) (by decide +kernel) rfl (fun ls hl => ?_)
                    have hi9 : z_19.toInt = ii.toInt + 1 := by rw [ez_19]; exact inc1 (n := 1000) (by omega) (by decide +kernel)
                    have hl9 : z_18.toInt = le.toInt + 1 := by rw [ez_18]; exact inc1 (n := 1000) (by omega) (by decide +kernel)
                    refine lv_goto (tgt := 57) hx hb dX12_pour_150 (by decide +kernel) ?_
                    exact ih (z_19, z_18, n_14, (upd g0 (le.toNatClampNeg) z_10), f_15) ls _ _ ⟨lv_sub hl [0, 1, 4, 5, 6, 7, 8, 9] rfl, hP.sub [0, 1, 2, 3, 4, 5, 6, 7, 8, 9] rfl, hD.sub [0, 1, 2, 3, 4, 5, 6, 7, 8, 9] (by decide +kernel) rfl, hS, ⟨(by (try dsimp only); omega), (by (try dsimp only); exact pour_stepN (by omega) (by omega) hi9 hp1 hp2 hp3 hp4 hzF (fun h9 => by first | exact hM h9.1 | omega) hl9 rfl (by rw [(hap.2 (by omega)).1]) (hap.2 (by omega)).2)⟩⟩ (by (try dsimp only); omega)
                · rw [fa_eq] at c_11
                  try rw [ti_n1] at c_11
                  refine lv_aload_n hx hb dX12_pour_79 rfl (lv_at hl 5 rfl) ?_
                  refine va_get (D := D) (ci := 9) (v := .ref h2) (C := RX12) (T := TX12) (N := 11) hx hb hts in_X12_pour_X12 hown hE.1 hP 0 rfl rfl 4 (by decide +kernel) (hts (.fieldLink RX12 32 "ClauseBook" "clauses" "LClauseBook$Clauses;") (List.mem_of_getElem? (i := 4) rfl)) (fun _ h9 => h9) e0_4 dX12_pour_80 ?_
                  refine lv_iload hx hb dX12_pour_83 (lv_at hl 0 rfl) ?_
                  refine vp_callSi (W.runV (As := [.int z_10]) (rest := []) ⟨hx, hb, hml, hown, hts⟩ (c_X2_has l D T h2 fs2 z_10 n9 e2_0 (by omega)) (cwV 1 hts gX12_pour_X2_has rfl rfl rfl hv_X2_has ⟨Nat.le_of_ble_eq_true rfl, Nat.le_of_ble_eq_true rfl⟩) (pR_V (q := (RX2, TX2, 8)) (ci := 1) (q0 := 2) hP hE rfl rfl [2] rfl) rfl rfl hl.1 rfl (lv_room (Nat.le_of_ble_eq_true rfl)) dX12_pour_85 ⟨Nat.le_of_ble_eq_true rfl, Nat.le_of_ble_eq_true rfl⟩) (fun r_20 hr_20 => ?_)
                  rcases bool_post hr_20 with ⟨c_21, rfl⟩ | ⟨c_21, rfl⟩
                  · refine lv_if_eq (tgt := 109) hx hb dX12_pour_88 (by decide +kernel) (fun c9 => absurd c9 (by decide +kernel)) (fun _ => ?_)
                    refine lv_aload_n hx hb dX12_pour_91 rfl (lv_at hl 5 rfl) ?_
                    refine va_get (D := D) (ci := 9) (v := .ref h2) (C := RX12) (T := TX12) (N := 11) hx hb hts in_X12_pour_X12 hown hE.1 hP 0 rfl rfl 4 (by decide +kernel) (hts (.fieldLink RX12 32 "ClauseBook" "clauses" "LClauseBook$Clauses;") (List.mem_of_getElem? (i := 4) rfl)) (fun _ h9 => h9) e0_4 dX12_pour_92 ?_
                    refine va_get (D := D) (ci := 1) (v := .ref h4) (C := RX2) (T := TX2) (N := 8) hx hb hts in_X12_pour_X2 hown hE.1 hP 2 rfl rfl 1 (by decide +kernel) (hts (.fieldLink RX12 153 "ClauseBook$Clauses" "kind" "[I") (List.mem_of_getElem? (i := 5) rfl)) (fun _ h9 => h9) e2_1 dX12_pour_95 ?_
                    refine lv_iload hx hb dX12_pour_98 (lv_at hl 0 rfl) ?_
                    refine va_iald hx hb hE.1 hP 3 0 rfl rfl (by rw [vp_in_iff]; first | omega | (subst_vars; rw [dec1 (by omega)]; omega) | (subst_vars; rw [inc1 (n := 1000) (by omega) (by decide +kernel)]; omega)) dX12_pour_100 ?_
                    refine lv_topi (fun z_22 ez_22 => ?_)
                    refine lv_iload_n hx hb dX12_pour_101 rfl (lv_at hl 8 rfl) ?_
                    refine lv_icmp_ne (tgt := 109) hx hb dX12_pour_102 (by decide +kernel) (fun c_23 => ?_) (fun c_23 => ?_)
                    · rw [fa_eq] at c_23
                      refine lv_iconst (v := 0) hx hb dX12_pour_109 (by decide +kernel) ?_
                      refine lv_istore (lv' := [(9, .int 0), (8, .int z_10), (7, .int ii), (6, .int le), (5, .int (bn 0)), (4, .ref t0), (0, .ref h0), (1, .int 0), (2, .int 1), (3, .int x3)]) hx hb dX12_pour_110 hl (by decide +kernel) rfl (fun ls hl => ?_)
                      have hM : ¬ prP x3 n9 fk z_10 = true := fun h9 => by rcases of_decide_eq_true h9 with h8 | ⟨h8, h7⟩ <;> first | omega | (rw [← ez_22] at h7; omega)
                      refine lv_iload hx hb dX12_pour_112 (lv_at hl 0 rfl) ?_
                      refine lv_if_eq (tgt := 134) hx hb dX12_pour_114 (by decide +kernel) (fun _ => ?_) (fun c9 => absurd c9 (by decide +kernel))
                      refine lv_aload hx hb dX12_pour_134 (lv_at hl 5 rfl) ?_
                      refine va_get (D := D) (ci := 0) (v := .ref a0) (C := RX1) (T := TX1) (N := 2) hx hb hts in_X12_pour_X1 hown hE.1 hP 4 rfl rfl 1 (by decide +kernel) (hts (.fieldLink RX12 308 "ClauseBook$Bag" "numbers" "[I") (List.mem_of_getElem? (i := 3) rfl)) (fun _ h9 => h9) rfl dX12_pour_136 ?_
                      refine lv_iload hx hb dX12_pour_139 (lv_at hl 3 rfl) ?_
                      refine lv_iload hx hb dX12_pour_141 (lv_at hl 1 rfl) ?_
                      refine va_iast hx hb hE.1 hP hD hS 7 0 rfl rfl (by rw [vp_in_iff]; first | omega | (subst_vars; rw [dec1 (by omega)]; omega) | (subst_vars; rw [inc1 (n := 1000) (by omega) (by decide +kernel)]; omega)) dX12_pour_143 (fun H locs hP hD hS => ?_)
                      obtain ⟨hP, hD⟩ := wPD [(h0, .inr (9, fs0)), (h1, .inl (T 5, 3, .inr (.inr (.inr (.inr (va_up (va_up (va_up (fun _ => none) 0 (some t0)) 1 (some t1)) 2 (some t2))))))), (h2, .inr (1, fs2)), (h4, .inl (T 0, 24, .inl fk)), (t0, .inr (0, [.int (bn 0), .ref a0])), (t1, .inr (0, [.int qq, .ref a1])), (t2, .inr (0, [.int (bn 2), .ref a2])), (a0, .inl (T 0, 12, .inl (upd g0 (le.toNatClampNeg) z_10))), (a1, .inl (T 0, 12, .inl g1)), (a2, .inl (T 0, 12, .inl (bf 2)))] hP hD rfl
                      obtain ⟨z_24, ez_24⟩ : ∃ y : Int32, y = le + 1 := ⟨_, rfl⟩
                      refine lv_iinc (v := z_24) (lv' := [(6, .int z_24), (9, .int 0), (8, .int z_10), (7, .int ii), (5, .int (bn 0)), (4, .ref t0), (0, .ref h0), (1, .int 0), (2, .int 1), (3, .int x3)]) hx hb dX12_pour_144 hl (k := 3) rfl (by rw [ez_24]; rfl) (by decide +kernel) rfl (fun ls hl => ?_)
                      obtain ⟨z_25, ez_25⟩ : ∃ y : Int32, y = ii + 1 := ⟨_, rfl⟩
                      refine lv_iinc (v := z_25) (lv' := [(7, .int z_25), (6, .int z_24), (9, .int 0), (8, .int z_10), (5, .int (bn 0)), (4, .ref t0), (0, .ref h0), (1, .int 0), (2, .int 1), (3, .int x3)]) hx hb dX12_pour_147 hl (k := 3) rfl (by rw [ez_25]; rfl) (by decide +kernel) rfl (fun ls hl => ?_)
                      have hi9 : z_25.toInt = ii.toInt + 1 := by rw [ez_25]; exact inc1 (n := 1000) (by omega) (by decide +kernel)
                      have hl9 : z_24.toInt = le.toInt + 1 := by rw [ez_24]; exact inc1 (n := 1000) (by omega) (by decide +kernel)
                      refine lv_goto (tgt := 57) hx hb dX12_pour_150 (by decide +kernel) ?_
                      exact ih (z_25, z_24, qq, (upd g0 (le.toNatClampNeg) z_10), g1) ls _ _ ⟨lv_sub hl [0, 1, 4, 5, 6, 7, 8, 9] rfl, hP.sub [0, 1, 2, 3, 4, 5, 6, 7, 8, 9] rfl, hD.sub [0, 1, 2, 3, 4, 5, 6, 7, 8, 9] (by decide +kernel) rfl, hS, ⟨(by (try dsimp only); omega), (by (try dsimp only); exact pour_stepN (by omega) (by omega) hi9 hp1 hp2 hp3 hp4 hzF (fun h9 => by first | exact hM h9.1 | omega) hl9 rfl rfl rfl)⟩⟩ (by (try dsimp only); omega)
                    · rw [fa_eq] at c_23
                      refine lv_iconst (v := 1) hx hb dX12_pour_105 (by decide +kernel) ?_
                      refine lv_goto (tgt := 110) hx hb dX12_pour_106 (by decide +kernel) ?_
                      refine lv_istore (lv' := [(9, .int 1), (8, .int z_10), (7, .int ii), (6, .int le), (5, .int (bn 0)), (4, .ref t0), (0, .ref h0), (1, .int 0), (2, .int 1), (3, .int x3)]) hx hb dX12_pour_110 hl (by decide +kernel) rfl (fun ls hl => ?_)
                      have hM : prP x3 n9 fk z_10 = true := decide_eq_true (by first | exact Or.inl (by omega) | exact Or.inr ⟨(by omega), (by rw [← ez_22]; omega)⟩)
                      refine lv_iload hx hb dX12_pour_112 (lv_at hl 0 rfl) ?_
                      refine lv_if_eq (tgt := 134) hx hb dX12_pour_114 (by decide +kernel) (fun c9 => absurd c9 (by decide +kernel)) (fun _ => ?_)
                      refine lv_aload_n hx hb dX12_pour_117 rfl (lv_at hl 6 rfl) ?_
                      refine va_get (D := D) (ci := 9) (v := .ref h1) (C := RX12) (T := TX12) (N := 11) hx hb hts in_X12_pour_X12 hown hE.1 hP 0 rfl rfl 5 (by decide +kernel) (hts (.fieldLink RX12 37 "ClauseBook" "bags" "[LClauseBook$Bag;") (List.mem_of_getElem? (i := 1) rfl)) (fun _ h9 => h9) e0_5 dX12_pour_118 ?_
                      refine lv_iload_n hx hb dX12_pour_121 rfl (lv_at hl 8 rfl) ?_
                      refine va_aldq hx hb hE.1 hP 1 5 rfl rfl (by unfold vp_in; decide) dX12_pour_122 ?_
                      refine W.eq (g2 := F0 m 123 ls [.ref t1]) rfl ?_
                      refine lv_iload hx hb dX12_pour_123 (lv_at hl 1 rfl) ?_
                      have hFc := va_free (wc := [(t1, .inr (0, [.int qq, .ref a1])), (a1, .inl (T 0, 12, .inl g1))]) hD hS hA [5, 8] rfl
                      refine va_calli (va_runV (As := [.int z_10]) (rest := []) ⟨hx, hb, hml, hown, hts⟩ (c_X1_append l D T _ t1 qq a1 g1 z_10 (by omega)) (cwV 1 hts gX12_pour_X1_append rfl rfl rfl hv_X1_append ⟨Nat.le_of_ble_eq_true rfl, Nat.le_of_ble_eq_true rfl⟩) (pW_V (q := (RX1, TX1, 2)) (ci := 0) (q0 := 5) hP hE hD rfl rfl [5, 8] (by decide +kernel) rfl rfl) rfl rfl hl.1 rfl (lv_room (Nat.le_of_ble_eq_true rfl)) dX12_pour_125 ⟨Nat.le_of_ble_eq_true rfl, Nat.le_of_ble_eq_true rfl⟩) hS (fun q _ h => hFc q h) hFc (fun r_26 u_27 t H1 locs ht hvm hr_26 hB hz1 hk1 hS => ?_)
                      obtain ⟨n_28, f_29⟩ := u_27
                      have hinn_28 : 0 ≤ n_28.toInt ∧ n_28.toInt ≤ 12 := hr_26.2.1
                      have hap : ((qq).toInt < 12 → n_28.toInt = (qq).toInt + 1 ∧ f_29 = upd g1 ((qq).toNatClampNeg) z_10) ∧ (¬ (qq).toInt < 12 → n_28 = qq ∧ f_29 = g1) := hr_26.2.2
                      have hbo : r_26 = if (qq).toInt < 12 then 1 else 0 := hr_26.1
                      obtain ⟨hP1, hD1⟩ := hB
                      rw [ht] at hP1
                      obtain ⟨hP, hD⟩ := va_repl [(h0, .inr (9, fs0)), (h1, .inl (T 5, 3, .inr (.inr (.inr (.inr (va_up (va_up (va_up (fun _ => none) 0 (some t0)) 1 (some t1)) 2 (some t2))))))), (h2, .inr (1, fs2)), (h4, .inl (T 0, 24, .inl fk)), (t0, .inr (0, [.int (bn 0), .ref a0])), (t1, .inr (0, [.int n_28, .ref a1])), (t2, .inr (0, [.int (bn 2), .ref a2])), (a0, .inl (T 0, 12, .inl g0)), (a1, .inl (T 0, 12, .inl f_29)), (a2, .inl (T 0, 12, .inl (bf 2)))] hP hD [5, 8] [5, 8] rfl (by decide +kernel) rfl rfl rfl hk1 hP1
                      clear hP1 hD1 hFc
                      generalize H1 = H at hP hS ⊢
                      rcases bool_post hbo with ⟨c_30, rfl⟩ | ⟨c_30, rfl⟩
                      · refine lv_if_eq (tgt := 134) hx hb dX12_pour_128 (by decide +kernel) (fun c9 => absurd c9 (by decide +kernel)) (fun _ => ?_)
                        refine lv_goto (tgt := 147) hx hb dX12_pour_131 (by decide +kernel) ?_
                        obtain ⟨z_31, ez_31⟩ : ∃ y : Int32, y = ii + 1 := ⟨_, rfl⟩
                        refine lv_iinc (v := z_31) (lv' := [(7, .int z_31), (9, .int 1), (8, .int z_10), (6, .int le), (5, .int (bn 0)), (4, .ref t0), (0, .ref h0), (1, .int 0), (2, .int 1), (3, .int x3)]) hx hb dX12_pour_147 hl (k := 2) rfl (by rw [ez_31]; rfl) (by decide +kernel) rfl (fun ls hl => ?_)
                        have hi9 : z_31.toInt = ii.toInt + 1 := by rw [ez_31]; exact inc1 (n := 1000) (by omega) (by decide +kernel)
                        refine lv_goto (tgt := 57) hx hb dX12_pour_150 (by decide +kernel) ?_
                        exact ih (z_31, le, n_28, g0, f_29) ls _ _ ⟨lv_sub hl [0, 3, 4, 5, 6, 7, 8, 9] rfl, hP.sub [0, 1, 2, 3, 4, 5, 6, 7, 8, 9] rfl, hD.sub [0, 1, 2, 3, 4, 5, 6, 7, 8, 9] (by decide +kernel) rfl, hS, ⟨(by (try dsimp only); omega), (by (try dsimp only); exact pour_stepY (by omega) hi9 hp1 hp2 hp3 hp4 hzF hM (by omega) (hap.1 (by omega)).1 (hap.1 (by omega)).2)⟩⟩ (by (try dsimp only); omega)
                      · refine lv_if_eq (tgt := 134) hx hb dX12_pour_128 (by decide +kernel) (fun _ => ?_) (fun c9 => absurd c9 (by decide +kernel))
                        refine lv_aload hx hb dX12_pour_134 (lv_at hl 5 rfl) ?_
                        refine va_get (D := D) (ci := 0) (v := .ref a0) (C := RX1) (T := TX1) (N := 2) hx hb hts in_X12_pour_X1 hown hE.1 hP 4 rfl rfl 1 (by decide +kernel) (hts (.fieldLink RX12 308 "ClauseBook$Bag" "numbers" "[I") (List.mem_of_getElem? (i := 3) rfl)) (fun _ h9 => h9) rfl dX12_pour_136 ?_
                        refine lv_iload hx hb dX12_pour_139 (lv_at hl 3 rfl) ?_
                        refine lv_iload hx hb dX12_pour_141 (lv_at hl 1 rfl) ?_
                        refine va_iast hx hb hE.1 hP hD hS 7 0 rfl rfl (by rw [vp_in_iff]; first | omega | (subst_vars; rw [dec1 (by omega)]; omega) | (subst_vars; rw [inc1 (n := 1000) (by omega) (by decide +kernel)]; omega)) dX12_pour_143 (fun H locs hP hD hS => ?_)
                        obtain ⟨hP, hD⟩ := wPD [(h0, .inr (9, fs0)), (h1, .inl (T 5, 3, .inr (.inr (.inr (.inr (va_up (va_up (va_up (fun _ => none) 0 (some t0)) 1 (some t1)) 2 (some t2))))))), (h2, .inr (1, fs2)), (h4, .inl (T 0, 24, .inl fk)), (t0, .inr (0, [.int (bn 0), .ref a0])), (t1, .inr (0, [.int n_28, .ref a1])), (t2, .inr (0, [.int (bn 2), .ref a2])), (a0, .inl (T 0, 12, .inl (upd g0 (le.toNatClampNeg) z_10))), (a1, .inl (T 0, 12, .inl f_29)), (a2, .inl (T 0, 12, .inl (bf 2)))] hP hD rfl
                        obtain ⟨z_32, ez_32⟩ : ∃ y : Int32, y = le + 1 := ⟨_, rfl⟩
                        refine lv_iinc (v := z_32) (lv' := [(6, .int z_32), (9, .int 1), (8, .int z_10), (7, .int ii), (5, .int (bn 0)), (4, .ref t0), (0, .ref h0), (1, .int 0), (2, .int 1), (3, .int x3)]) hx hb dX12_pour_144 hl (k := 3) rfl (by rw [ez_32]; rfl) (by decide +kernel) rfl (fun ls hl => ?_)
                        obtain ⟨z_33, ez_33⟩ : ∃ y : Int32, y = ii + 1 := ⟨_, rfl⟩
                        refine lv_iinc (v := z_33) (lv' := [(7, .int z_33), (6, .int z_32), (9, .int 1), (8, .int z_10), (5, .int (bn 0)), (4, .ref t0), (0, .ref h0), (1, .int 0), (2, .int 1), (3, .int x3)]) hx hb dX12_pour_147 hl (k := 3) rfl (by rw [ez_33]; rfl) (by decide +kernel) rfl (fun ls hl => ?_)
                        have hi9 : z_33.toInt = ii.toInt + 1 := by rw [ez_33]; exact inc1 (n := 1000) (by omega) (by decide +kernel)
                        have hl9 : z_32.toInt = le.toInt + 1 := by rw [ez_32]; exact inc1 (n := 1000) (by omega) (by decide +kernel)
                        refine lv_goto (tgt := 57) hx hb dX12_pour_150 (by decide +kernel) ?_
                        exact ih (z_33, z_32, n_28, (upd g0 (le.toNatClampNeg) z_10), f_29) ls _ _ ⟨lv_sub hl [0, 1, 4, 5, 6, 7, 8, 9] rfl, hP.sub [0, 1, 2, 3, 4, 5, 6, 7, 8, 9] rfl, hD.sub [0, 1, 2, 3, 4, 5, 6, 7, 8, 9] (by decide +kernel) rfl, hS, ⟨(by (try dsimp only); omega), (by (try dsimp only); exact pour_stepN (by omega) (by omega) hi9 hp1 hp2 hp3 hp4 hzF (fun h9 => by first | exact hM h9.1 | omega) hl9 rfl (by rw [(hap.2 (by omega)).1]) (hap.2 (by omega)).2)⟩⟩ (by (try dsimp only); omega)
                  · refine lv_if_eq (tgt := 109) hx hb dX12_pour_88 (by decide +kernel) (fun _ => ?_) (fun c9 => absurd c9 (by decide +kernel))
                    refine lv_iconst (v := 0) hx hb dX12_pour_109 (by decide +kernel) ?_
                    refine lv_istore (lv' := [(9, .int 0), (8, .int z_10), (7, .int ii), (6, .int le), (5, .int (bn 0)), (4, .ref t0), (0, .ref h0), (1, .int 0), (2, .int 1), (3, .int x3)]) hx hb dX12_pour_110 hl (by decide +kernel) rfl (fun ls hl => ?_)
                    have hM : ¬ prP x3 n9 fk z_10 = true := fun h9 => by rcases of_decide_eq_true h9 with h8 | ⟨h8, h7⟩ <;> first | omega | (rw [← ez_22] at h7; omega)
                    refine lv_iload hx hb dX12_pour_112 (lv_at hl 0 rfl) ?_
                    refine lv_if_eq (tgt := 134) hx hb dX12_pour_114 (by decide +kernel) (fun _ => ?_) (fun c9 => absurd c9 (by decide +kernel))
                    refine lv_aload hx hb dX12_pour_134 (lv_at hl 5 rfl) ?_
                    refine va_get (D := D) (ci := 0) (v := .ref a0) (C := RX1) (T := TX1) (N := 2) hx hb hts in_X12_pour_X1 hown hE.1 hP 4 rfl rfl 1 (by decide +kernel) (hts (.fieldLink RX12 308 "ClauseBook$Bag" "numbers" "[I") (List.mem_of_getElem? (i := 3) rfl)) (fun _ h9 => h9) rfl dX12_pour_136 ?_
                    refine lv_iload hx hb dX12_pour_139 (lv_at hl 3 rfl) ?_
                    refine lv_iload hx hb dX12_pour_141 (lv_at hl 1 rfl) ?_
                    refine va_iast hx hb hE.1 hP hD hS 7 0 rfl rfl (by rw [vp_in_iff]; first | omega | (subst_vars; rw [dec1 (by omega)]; omega) | (subst_vars; rw [inc1 (n := 1000) (by omega) (by decide +kernel)]; omega)) dX12_pour_143 (fun H locs hP hD hS => ?_)
                    obtain ⟨hP, hD⟩ := wPD [(h0, .inr (9, fs0)), (h1, .inl (T 5, 3, .inr (.inr (.inr (.inr (va_up (va_up (va_up (fun _ => none) 0 (some t0)) 1 (some t1)) 2 (some t2))))))), (h2, .inr (1, fs2)), (h4, .inl (T 0, 24, .inl fk)), (t0, .inr (0, [.int (bn 0), .ref a0])), (t1, .inr (0, [.int qq, .ref a1])), (t2, .inr (0, [.int (bn 2), .ref a2])), (a0, .inl (T 0, 12, .inl (upd g0 (le.toNatClampNeg) z_10))), (a1, .inl (T 0, 12, .inl g1)), (a2, .inl (T 0, 12, .inl (bf 2)))] hP hD rfl
                    obtain ⟨z_34, ez_34⟩ : ∃ y : Int32, y = le + 1 := ⟨_, rfl⟩
                    refine lv_iinc (v := z_34) (lv' := [(6, .int z_34), (9, .int 0), (8, .int z_10), (7, .int ii), (5, .int (bn 0)), (4, .ref t0), (0, .ref h0), (1, .int 0), (2, .int 1), (3, .int x3)]) hx hb dX12_pour_144 hl (k := 3) rfl (by rw [ez_34]; rfl) (by decide +kernel) rfl (fun ls hl => ?_)
                    obtain ⟨z_35, ez_35⟩ : ∃ y : Int32, y = ii + 1 := ⟨_, rfl⟩
                    refine lv_iinc (v := z_35) (lv' := [(7, .int z_35), (6, .int z_34), (9, .int 0), (8, .int z_10), (5, .int (bn 0)), (4, .ref t0), (0, .ref h0), (1, .int 0), (2, .int 1), (3, .int x3)]) hx hb dX12_pour_147 hl (k := 3) rfl (by rw [ez_35]; rfl) (by decide +kernel) rfl (fun ls hl => ?_)
                    have hi9 : z_35.toInt = ii.toInt + 1 := by rw [ez_35]; exact inc1 (n := 1000) (by omega) (by decide +kernel)
                    have hl9 : z_34.toInt = le.toInt + 1 := by rw [ez_34]; exact inc1 (n := 1000) (by omega) (by decide +kernel)
                    refine lv_goto (tgt := 57) hx hb dX12_pour_150 (by decide +kernel) ?_
                    exact ih (z_35, z_34, qq, (upd g0 (le.toNatClampNeg) z_10), g1) ls _ _ ⟨lv_sub hl [0, 1, 4, 5, 6, 7, 8, 9] rfl, hP.sub [0, 1, 2, 3, 4, 5, 6, 7, 8, 9] rfl, hD.sub [0, 1, 2, 3, 4, 5, 6, 7, 8, 9] (by decide +kernel) rfl, hS, ⟨(by (try dsimp only); omega), (by (try dsimp only); exact pour_stepN (by omega) (by omega) hi9 hp1 hp2 hp3 hp4 hzF (fun h9 => by first | exact hM h9.1 | omega) hl9 rfl rfl rfl)⟩⟩ (by (try dsimp only); omega)
            · refine lv_aload_n hx hb dX12_pour_36 rfl (lv_at hl 0 rfl) ?_
              refine va_get (D := D) (ci := 9) (v := .ref h1) (C := RX12) (T := TX12) (N := 11) hx hb hts in_X12_pour_X12 hown hE.1 hP 0 rfl rfl 5 (by decide +kernel) (hts (.fieldLink RX12 37 "ClauseBook" "bags" "[LClauseBook$Bag;") (List.mem_of_getElem? (i := 1) rfl)) (fun _ h9 => h9) e0_5 dX12_pour_37 ?_
              refine lv_iload_n hx hb dX12_pour_40 rfl (lv_at hl 1 rfl) ?_
              refine va_aldq hx hb hE.1 hP 1 5 rfl rfl (by unfold vp_in; decide) dX12_pour_41 ?_
              refine W.eq (g2 := F0 m 42 ls [.ref t0]) rfl ?_
              refine lv_astore (lv' := [(4, .ref t0), (0, .ref h0), (1, .int 0), (2, .int 2), (3, .int x3)]) hx hb dX12_pour_42 hl (by decide +kernel) rfl (fun ls hl => ?_)
              refine lv_aload hx hb dX12_pour_44 (lv_at hl 0 rfl) ?_
              refine va_get (D := D) (ci := 0) (v := .int (bn 0)) (C := RX1) (T := TX1) (N := 2) hx hb hts in_X12_pour_X1 hown hE.1 hP 4 rfl rfl 0 (by decide +kernel) (hts (.fieldLink RX12 307 "ClauseBook$Bag" "size" "I") (List.mem_of_getElem? (i := 2) rfl)) (fun _ h9 => h9) rfl dX12_pour_46 ?_
              refine lv_istore (lv' := [(5, .int (bn 0)), (4, .ref t0), (0, .ref h0), (1, .int 0), (2, .int 2), (3, .int x3)]) hx hb dX12_pour_49 hl (by decide +kernel) rfl (fun ls hl => ?_)
              refine lv_iconst (v := 0) hx hb dX12_pour_51 (by decide +kernel) ?_
              refine lv_istore (lv' := [(6, .int 0), (5, .int (bn 0)), (4, .ref t0), (0, .ref h0), (1, .int 0), (2, .int 2), (3, .int x3)]) hx hb dX12_pour_52 hl (by decide +kernel) rfl (fun ls hl => ?_)
              refine lv_iconst (v := 0) hx hb dX12_pour_54 (by decide +kernel) ?_
              refine lv_istore (lv' := [(7, .int 0), (6, .int 0), (5, .int (bn 0)), (4, .ref t0), (0, .ref h0), (1, .int 0), (2, .int 2), (3, .int x3)]) hx hb dX12_pour_55 hl (by decide +kernel) rfl (fun ls hl => ?_)
              refine loopW (σ := (Int32) × (Int32) × (Int32) × (Nat → Int32) × (Nat → Int32)) (fun x9 ls H locs => lv_has ls 10 [(7, .int x9.1), (6, .int x9.2.1), (5, .int (bn 0)), (4, .ref t0), (0, .ref h0), (1, .int 0), (2, .int 2), (3, .int x3)] ∧ va_P D vwCl [(h0, .inr (9, fs0)), (h1, .inl (T 5, 3, .inr (.inr (.inr (.inr (va_up (va_up (va_up (fun _ => none) 0 (some t0)) 1 (some t1)) 2 (some t2))))))), (h2, .inr (1, fs2)), (h4, .inl (T 0, 24, .inl fk)), (t0, .inr (0, [.int (bn 0), .ref a0])), (t1, .inr (0, [.int (bn 1), .ref a1])), (t2, .inr (0, [.int x9.2.2.1, .ref a2])), (a0, .inl (T 0, 12, .inl x9.2.2.2.1)), (a1, .inl (T 0, 12, .inl (bf 1))), (a2, .inl (T 0, 12, .inl x9.2.2.2.2))] H ∧ va_D A [(h0, .inr (9, fs0)), (h1, .inl (T 5, 3, .inr (.inr (.inr (.inr (va_up (va_up (va_up (fun _ => none) 0 (some t0)) 1 (some t1)) 2 (some t2))))))), (h2, .inr (1, fs2)), (h4, .inl (T 0, 24, .inl fk)), (t0, .inr (0, [.int (bn 0), .ref a0])), (t1, .inr (0, [.int (bn 1), .ref a1])), (t2, .inr (0, [.int x9.2.2.1, .ref a2])), (a0, .inl (T 0, 12, .inl x9.2.2.2.1)), (a1, .inl (T 0, 12, .inl (bf 1))), (a2, .inl (T 0, 12, .inl x9.2.2.2.2))] ∧ va_S A s.heap H locs ∧ (((0 ≤ x9.2.1.toInt ∧ x9.2.1.toInt ≤ x9.1.toInt ∧ x9.1.toInt ≤ (bn 0).toInt) ∧ 0 ≤ x9.2.2.1.toInt ∧ x9.2.2.1.toInt ≤ 12) ∧ x9.2.1.toInt = (pourF (prP x3 n9 fk) (bf 0) (bf 2) ((bn 2).toNatClampNeg) (x9.1.toNatClampNeg)).1 ∧ x9.2.2.2.1 = (pourF (prP x3 n9 fk) (bf 0) (bf 2) ((bn 2).toNatClampNeg) (x9.1.toNatClampNeg)).2.1 ∧ x9.2.2.1.toInt = (pourF (prP x3 n9 fk) (bf 0) (bf 2) ((bn 2).toNatClampNeg) (x9.1.toNatClampNeg)).2.2.1 ∧ x9.2.2.2.2 = (pourF (prP x3 n9 fk) (bf 0) (bf 2) ((bn 2).toNatClampNeg) (x9.1.toNatClampNeg)).2.2.2)) (fun x9 => (12 - x9.1.toInt).toNat) (fun x9 ls H locs hI ih => ?_) (0, 0, (bn 2), (bf 0), (bf 2)) ls ⟨lv_sub hl [0, 1, 2, 3, 4, 5, 6, 7] rfl, hP.sub [0, 1, 2, 3, 4, 5, 6, 7, 8, 9] rfl, hD.sub [0, 1, 2, 3, 4, 5, 6, 7, 8, 9] (by decide +kernel) rfl, hS, ⟨(by (try dsimp only); simp only [ti_0]; omega), (by (try dsimp only); rw [tn0']; rfl), (by (try dsimp only); rw [tn0']; rfl), (by (try dsimp only); rw [tn0']; exact (tn (by omega)).symm), (by (try dsimp only); rw [tn0']; rfl)⟩⟩
              obtain ⟨ii, le, qq, g0, g2⟩ := x9
              obtain ⟨hl, hP, hD, hS, hinv⟩ := hI
              have hl : lv_has ls 10 [(7, .int ii), (6, .int le), (5, .int (bn 0)), (4, .ref t0), (0, .ref h0), (1, .int 0), (2, .int 2), (3, .int x3)] := hl
              have hP : va_P D vwCl [(h0, .inr (9, fs0)), (h1, .inl (T 5, 3, .inr (.inr (.inr (.inr (va_up (va_up (va_up (fun _ => none) 0 (some t0)) 1 (some t1)) 2 (some t2))))))), (h2, .inr (1, fs2)), (h4, .inl (T 0, 24, .inl fk)), (t0, .inr (0, [.int (bn 0), .ref a0])), (t1, .inr (0, [.int (bn 1), .ref a1])), (t2, .inr (0, [.int qq, .ref a2])), (a0, .inl (T 0, 12, .inl g0)), (a1, .inl (T 0, 12, .inl (bf 1))), (a2, .inl (T 0, 12, .inl g2))] H := hP
              have hD : va_D A [(h0, .inr (9, fs0)), (h1, .inl (T 5, 3, .inr (.inr (.inr (.inr (va_up (va_up (va_up (fun _ => none) 0 (some t0)) 1 (some t1)) 2 (some t2))))))), (h2, .inr (1, fs2)), (h4, .inl (T 0, 24, .inl fk)), (t0, .inr (0, [.int (bn 0), .ref a0])), (t1, .inr (0, [.int (bn 1), .ref a1])), (t2, .inr (0, [.int qq, .ref a2])), (a0, .inl (T 0, 12, .inl g0)), (a1, .inl (T 0, 12, .inl (bf 1))), (a2, .inl (T 0, 12, .inl g2))] := hD
              have hinv : ((0 ≤ le.toInt ∧ le.toInt ≤ ii.toInt ∧ ii.toInt ≤ (bn 0).toInt) ∧ 0 ≤ qq.toInt ∧ qq.toInt ≤ 12) ∧ le.toInt = (pourF (prP x3 n9 fk) (bf 0) (bf 2) ((bn 2).toNatClampNeg) (ii.toNatClampNeg)).1 ∧ g0 = (pourF (prP x3 n9 fk) (bf 0) (bf 2) ((bn 2).toNatClampNeg) (ii.toNatClampNeg)).2.1 ∧ qq.toInt = (pourF (prP x3 n9 fk) (bf 0) (bf 2) ((bn 2).toNatClampNeg) (ii.toNatClampNeg)).2.2.1 ∧ g2 = (pourF (prP x3 n9 fk) (bf 0) (bf 2) ((bn 2).toNatClampNeg) (ii.toNatClampNeg)).2.2.2 := hinv
              obtain ⟨hinv, hp1, hp2, hp3, hp4⟩ := hinv
              refine lv_iload hx hb dX12_pour_57 (lv_at hl 0 rfl) ?_
              refine lv_iload hx hb dX12_pour_59 (lv_at hl 2 rfl) ?_
              refine lv_icmp_ge (tgt := 153) hx hb dX12_pour_61 (by decide +kernel) (fun c_36 => ?_) (fun c_36 => ?_)
              · rw [fa_le] at c_36
                have e9 : ii = (bn 0) := Int32.toInt_inj.1 (by omega)
                rw [e9] at hp1 hp2 hp3 hp4
                refine lv_aload hx hb dX12_pour_153 (lv_at hl 3 rfl) ?_
                refine lv_iload hx hb dX12_pour_155 (lv_at hl 1 rfl) ?_
                refine va_put (D := D) (ci := 0) (v := .int le) (ty := .int) (C := RX1) (T := TX1) (N := 2) hx hb hts in_X12_pour_X1 tyX1 tyX1_ok nmX1 hown hE.1 hP hD hS 4 rfl rfl 0 (by decide +kernel) (hts (.fieldLink RX12 307 "ClauseBook$Bag" "size" "I") (List.mem_of_getElem? (i := 2) rfl)) (fun _ h9 => h9) rfl (by decide +kernel) rfl rfl (Nat.le_of_ble_eq_true rfl) dX12_pour_157 (fun H locs hP hD hS => ?_)
                obtain ⟨hP, hD⟩ := wPD [(h0, .inr (9, fs0)), (h1, .inl (T 5, 3, .inr (.inr (.inr (.inr (va_up (va_up (va_up (fun _ => none) 0 (some t0)) 1 (some t1)) 2 (some t2))))))), (h2, .inr (1, fs2)), (h4, .inl (T 0, 24, .inl fk)), (t0, .inr (0, [.int le, .ref a0])), (t1, .inr (0, [.int (bn 1), .ref a1])), (t2, .inr (0, [.int qq, .ref a2])), (a0, .inl (T 0, 12, .inl g0)), (a1, .inl (T 0, 12, .inl (bf 1))), (a2, .inl (T 0, 12, .inl g2))] hP hD rfl
                refine lv_iload hx hb dX12_pour_160 (lv_at hl 2 rfl) ?_
                refine lv_iload hx hb dX12_pour_162 (lv_at hl 1 rfl) ?_
                refine lv_isub hx hb dX12_pour_164 ?_
                exact W.iret hx hb hr (fun t ht hW => ⟨⟨_, ((fun k => [le, (bn 1), qq].getD k 0), (fun k => [g0, (bf 1), g2].getD k g0)), rfl, ⟨(show 0 ≤ (le).toInt ∧ (le).toInt ≤ 12 from by (try subst_vars); first | omega | (rw [dec1 (by omega)]; omega)), (show 0 ≤ ((bn 1)).toInt ∧ ((bn 1)).toInt ≤ 12 from by (try subst_vars); first | omega | (rw [dec1 (by omega)]; omega)), (show 0 ≤ (qq).toInt ∧ (qq).toInt ≤ 12 from by (try subst_vars); first | omega | (rw [dec1 (by omega)]; omega)), (Or.inr ⟨⟨⟨⟨by decide, by decide⟩, by decide, by decide⟩, by decide, by omega⟩, _, rfl, (show (((bn 0) - le) : Int32).toInt = (bn 0).toInt - (((pourF (prP x3 n9 fk) (bf 0) (bf 2) ((bn 2).toNatClampNeg) ((bn 0).toNatClampNeg)).1 : Nat) : Int) from by have h8 := hp1; rw [fb_subI (by omega) (by omega)]; omega), all3 ⟨(fun _ => ⟨hp1, hp2⟩), (fun h9 => absurd h9 (by decide +kernel)), (fun h9 => absurd (by decide +kernel) h9)⟩ ⟨(fun h9 => absurd h9 (by decide +kernel)), (fun h9 => absurd h9 (by decide +kernel)), (fun _ _ => ⟨rfl, rfl⟩)⟩ ⟨(fun h9 => absurd h9 (by decide +kernel)), (fun _ => ⟨hp3, hp4⟩), (fun _ h9 => absurd (by decide +kernel) h9)⟩⟩)⟩, by rw [ht]; exact hP.sub [0, 1, 2, 3, 4, 5, 6, 7, 8, 9] rfl, hD.sub [0, 1, 2, 3, 4, 5, 6, 7, 8, 9] (by decide +kernel) rfl⟩, hS.F ht⟩) hS.2.2 dX12_pour_165
              · rw [fa_le] at c_36
                refine lv_aload hx hb dX12_pour_64 (lv_at hl 3 rfl) ?_
                refine va_get (D := D) (ci := 0) (v := .ref a0) (C := RX1) (T := TX1) (N := 2) hx hb hts in_X12_pour_X1 hown hE.1 hP 4 rfl rfl 1 (by decide +kernel) (hts (.fieldLink RX12 308 "ClauseBook$Bag" "numbers" "[I") (List.mem_of_getElem? (i := 3) rfl)) (fun _ h9 => h9) rfl dX12_pour_66 ?_
                refine lv_iload hx hb dX12_pour_69 (lv_at hl 0 rfl) ?_
                refine va_iald hx hb hE.1 hP 7 0 rfl rfl (by rw [vp_in_iff]; first | omega | (subst_vars; rw [dec1 (by omega)]; omega) | (subst_vars; rw [inc1 (n := 1000) (by omega) (by decide +kernel)]; omega)) dX12_pour_71 ?_
                refine lv_topi (fun z_37 ez_37 => ?_)
                have hzF : z_37 = (bf 0) (ii.toNatClampNeg) := by rw [ez_37, hp2]; exact pourF_keep _ _ (by have h8 := tn (x := ii) (by omega); omega)
                refine lv_istore (lv' := [(8, .int z_37), (7, .int ii), (6, .int le), (5, .int (bn 0)), (4, .ref t0), (0, .ref h0), (1, .int 0), (2, .int 2), (3, .int x3)]) hx hb dX12_pour_72 hl (by decide +kernel) rfl (fun ls hl => ?_)
                refine lv_iload_n hx hb dX12_pour_74 rfl (lv_at hl 8 rfl) ?_
                refine lv_iconst (v := (-1)) hx hb dX12_pour_75 (by decide +kernel) ?_
                refine lv_icmp_eq (tgt := 105) hx hb dX12_pour_76 (by decide +kernel) (fun c_38 => ?_) (fun c_38 => ?_)
                · rw [fa_eq] at c_38
                  try rw [ti_n1] at c_38
                  refine lv_iconst (v := 1) hx hb dX12_pour_105 (by decide +kernel) ?_
                  refine lv_goto (tgt := 110) hx hb dX12_pour_106 (by decide +kernel) ?_
                  refine lv_istore (lv' := [(9, .int 1), (8, .int z_37), (7, .int ii), (6, .int le), (5, .int (bn 0)), (4, .ref t0), (0, .ref h0), (1, .int 0), (2, .int 2), (3, .int x3)]) hx hb dX12_pour_110 hl (by decide +kernel) rfl (fun ls hl => ?_)
                  have hM : prP x3 n9 fk z_37 = true := decide_eq_true (by first | exact Or.inl (by omega) | exact Or.inr ⟨(by omega), (by rw [← ez_22]; omega)⟩)
                  refine lv_iload hx hb dX12_pour_112 (lv_at hl 0 rfl) ?_
                  refine lv_if_eq (tgt := 134) hx hb dX12_pour_114 (by decide +kernel) (fun c9 => absurd c9 (by decide +kernel)) (fun _ => ?_)
                  refine lv_aload_n hx hb dX12_pour_117 rfl (lv_at hl 6 rfl) ?_
                  refine va_get (D := D) (ci := 9) (v := .ref h1) (C := RX12) (T := TX12) (N := 11) hx hb hts in_X12_pour_X12 hown hE.1 hP 0 rfl rfl 5 (by decide +kernel) (hts (.fieldLink RX12 37 "ClauseBook" "bags" "[LClauseBook$Bag;") (List.mem_of_getElem? (i := 1) rfl)) (fun _ h9 => h9) e0_5 dX12_pour_118 ?_
                  refine lv_iload_n hx hb dX12_pour_121 rfl (lv_at hl 8 rfl) ?_
                  refine va_aldq hx hb hE.1 hP 1 5 rfl rfl (by unfold vp_in; decide) dX12_pour_122 ?_
                  refine W.eq (g2 := F0 m 123 ls [.ref t2]) rfl ?_
                  refine lv_iload hx hb dX12_pour_123 (lv_at hl 1 rfl) ?_
                  have hFc := va_free (wc := [(t2, .inr (0, [.int qq, .ref a2])), (a2, .inl (T 0, 12, .inl g2))]) hD hS hA [6, 9] rfl
                  refine va_calli (va_runV (As := [.int z_37]) (rest := []) ⟨hx, hb, hml, hown, hts⟩ (c_X1_append l D T _ t2 qq a2 g2 z_37 (by omega)) (cwV 1 hts gX12_pour_X1_append rfl rfl rfl hv_X1_append ⟨Nat.le_of_ble_eq_true rfl, Nat.le_of_ble_eq_true rfl⟩) (pW_V (q := (RX1, TX1, 2)) (ci := 0) (q0 := 6) hP hE hD rfl rfl [6, 9] (by decide +kernel) rfl rfl) rfl rfl hl.1 rfl (lv_room (Nat.le_of_ble_eq_true rfl)) dX12_pour_125 ⟨Nat.le_of_ble_eq_true rfl, Nat.le_of_ble_eq_true rfl⟩) hS (fun q _ h => hFc q h) hFc (fun r_39 u_40 t H1 locs ht hvm hr_39 hB hz1 hk1 hS => ?_)
                  obtain ⟨n_41, f_42⟩ := u_40
                  have hinn_41 : 0 ≤ n_41.toInt ∧ n_41.toInt ≤ 12 := hr_39.2.1
                  have hap : ((qq).toInt < 12 → n_41.toInt = (qq).toInt + 1 ∧ f_42 = upd g2 ((qq).toNatClampNeg) z_37) ∧ (¬ (qq).toInt < 12 → n_41 = qq ∧ f_42 = g2) := hr_39.2.2
                  have hbo : r_39 = if (qq).toInt < 12 then 1 else 0 := hr_39.1
                  obtain ⟨hP1, hD1⟩ := hB
                  rw [ht] at hP1
                  obtain ⟨hP, hD⟩ := va_repl [(h0, .inr (9, fs0)), (h1, .inl (T 5, 3, .inr (.inr (.inr (.inr (va_up (va_up (va_up (fun _ => none) 0 (some t0)) 1 (some t1)) 2 (some t2))))))), (h2, .inr (1, fs2)), (h4, .inl (T 0, 24, .inl fk)), (t0, .inr (0, [.int (bn 0), .ref a0])), (t1, .inr (0, [.int (bn 1), .ref a1])), (t2, .inr (0, [.int n_41, .ref a2])), (a0, .inl (T 0, 12, .inl g0)), (a1, .inl (T 0, 12, .inl (bf 1))), (a2, .inl (T 0, 12, .inl f_42))] hP hD [6, 9] [6, 9] rfl (by decide +kernel) rfl rfl rfl hk1 hP1
                  clear hP1 hD1 hFc
                  generalize H1 = H at hP hS ⊢
                  rcases bool_post hbo with ⟨c_43, rfl⟩ | ⟨c_43, rfl⟩
                  · refine lv_if_eq (tgt := 134) hx hb dX12_pour_128 (by decide +kernel) (fun c9 => absurd c9 (by decide +kernel)) (fun _ => ?_)
                    refine lv_goto (tgt := 147) hx hb dX12_pour_131 (by decide +kernel) ?_
                    obtain ⟨z_44, ez_44⟩ : ∃ y : Int32, y = ii + 1 := ⟨_, rfl⟩
                    refine lv_iinc (v := z_44) (lv' := [(7, .int z_44), (9, .int 1), (8, .int z_37), (6, .int le), (5, .int (bn 0)), (4, .ref t0), (0, .ref h0), (1, .int 0), (2, .int 2), (3, .int x3)]) hx hb dX12_pour_147 hl (k := 2) rfl (by rw [ez_44]; rfl) (by decide +kernel) rfl (fun ls hl => ?_)
                    have hi9 : z_44.toInt = ii.toInt + 1 := by rw [ez_44]; exact inc1 (n := 1000) (by omega) (by decide +kernel)
                    refine lv_goto (tgt := 57) hx hb dX12_pour_150 (by decide +kernel) ?_
                    exact ih (z_44, le, n_41, g0, f_42) ls _ _ ⟨lv_sub hl [0, 3, 4, 5, 6, 7, 8, 9] rfl, hP.sub [0, 1, 2, 3, 4, 5, 6, 7, 8, 9] rfl, hD.sub [0, 1, 2, 3, 4, 5, 6, 7, 8, 9] (by decide +kernel) rfl, hS, ⟨(by (try dsimp only); omega), (by (try dsimp only); exact pour_stepY (by omega) hi9 hp1 hp2 hp3 hp4 hzF hM (by omega) (hap.1 (by omega)).1 (hap.1 (by omega)).2)⟩⟩ (by (try dsimp only); omega)
                  · refine lv_if_eq (tgt := 134) hx hb dX12_pour_128 (by decide +kernel) (fun _ => ?_) (fun c9 => absurd c9 (by decide +kernel))
                    refine lv_aload hx hb dX12_pour_134 (lv_at hl 5 rfl) ?_
                    refine va_get (D := D) (ci := 0) (v := .ref a0) (C := RX1) (T := TX1) (N := 2) hx hb hts in_X12_pour_X1 hown hE.1 hP 4 rfl rfl 1 (by decide +kernel) (hts (.fieldLink RX12 308 "ClauseBook$Bag" "numbers" "[I") (List.mem_of_getElem? (i := 3) rfl)) (fun _ h9 => h9) rfl dX12_pour_136 ?_
                    refine lv_iload hx hb dX12_pour_139 (lv_at hl 3 rfl) ?_
                    refine lv_iload hx hb dX12_pour_141 (lv_at hl 1 rfl) ?_
                    refine va_iast hx hb hE.1 hP hD hS 7 0 rfl rfl (by rw [vp_in_iff]; first | omega | (subst_vars; rw [dec1 (by omega)]; omega) | (subst_vars; rw [inc1 (n := 1000) (by omega) (by decide +kernel)]; omega)) dX12_pour_143 (fun H locs hP hD hS => ?_)
                    obtain ⟨hP, hD⟩ := wPD [(h0, .inr (9, fs0)), (h1, .inl (T 5, 3, .inr (.inr (.inr (.inr (va_up (va_up (va_up (fun _ => none) 0 (some t0)) 1 (some t1)) 2 (some t2))))))), (h2, .inr (1, fs2)), (h4, .inl (T 0, 24, .inl fk)), (t0, .inr (0, [.int (bn 0), .ref a0])), (t1, .inr (0, [.int (bn 1), .ref a1])), (t2, .inr (0, [.int n_41, .ref a2])), (a0, .inl (T 0, 12, .inl (upd g0 (le.toNatClampNeg) z_37))), (a1, .inl (T 0, 12, .inl (bf 1))), (a2, .inl (T 0, 12, .inl f_42))] hP hD rfl
                    obtain ⟨z_45, ez_45⟩ : ∃ y : Int32, y = le + 1 := ⟨_, rfl⟩
                    refine lv_iinc (v := z_45) (lv' := [(6, .int z_45), (9, .int 1), (8, .int z_37), (7, .int ii), (5, .int (bn 0)), (4, .ref t0), (0, .ref h0), (1, .int 0), (2, .int 2), (3, .int x3)]) hx hb dX12_pour_144 hl (k := 3) rfl (by rw [ez_45]; rfl) (by decide +kernel) rfl (fun ls hl => ?_)
                    obtain ⟨z_46, ez_46⟩ : ∃ y : Int32, y = ii + 1 := ⟨_, rfl⟩
                    refine lv_iinc (v := z_46) (lv' := [(7, .int z_46), (6, .int z_45), (9, .int 1), (8, .int z_37), (5, .int (bn 0)), (4, .ref t0), (0, .ref h0), (1, .int 0), (2, .int 2), (3, .int x3)]) hx hb dX12_pour_147 hl (k := 3) rfl (by rw [ez_46]; rfl) (by decide +kernel) rfl (fun ls hl => ?_)
                    have hi9 : z_46.toInt = ii.toInt + 1 := by rw [ez_46]; exact inc1 (n := 1000) (by omega) (by decide +kernel)
                    have hl9 : z_45.toInt = le.toInt + 1 := by rw [ez_45]; exact inc1 (n := 1000) (by omega) (by decide +kernel)
                    refine lv_goto (tgt := 57) hx hb dX12_pour_150 (by decide +kernel) ?_
                    exact ih (z_46, z_45, n_41, (upd g0 (le.toNatClampNeg) z_37), f_42) ls _ _ ⟨lv_sub hl [0, 1, 4, 5, 6, 7, 8, 9] rfl, hP.sub [0, 1, 2, 3, 4, 5, 6, 7, 8, 9] rfl, hD.sub [0, 1, 2, 3, 4, 5, 6, 7, 8, 9] (by decide +kernel) rfl, hS, ⟨(by (try dsimp only); omega), (by (try dsimp only); exact pour_stepN (by omega) (by omega) hi9 hp1 hp2 hp3 hp4 hzF (fun h9 => by first | exact hM h9.1 | omega) hl9 rfl (by rw [(hap.2 (by omega)).1]) (hap.2 (by omega)).2)⟩⟩ (by (try dsimp only); omega)
                · rw [fa_eq] at c_38
                  try rw [ti_n1] at c_38
                  refine lv_aload_n hx hb dX12_pour_79 rfl (lv_at hl 5 rfl) ?_
                  refine va_get (D := D) (ci := 9) (v := .ref h2) (C := RX12) (T := TX12) (N := 11) hx hb hts in_X12_pour_X12 hown hE.1 hP 0 rfl rfl 4 (by decide +kernel) (hts (.fieldLink RX12 32 "ClauseBook" "clauses" "LClauseBook$Clauses;") (List.mem_of_getElem? (i := 4) rfl)) (fun _ h9 => h9) e0_4 dX12_pour_80 ?_
                  refine lv_iload hx hb dX12_pour_83 (lv_at hl 0 rfl) ?_
                  refine vp_callSi (W.runV (As := [.int z_37]) (rest := []) ⟨hx, hb, hml, hown, hts⟩ (c_X2_has l D T h2 fs2 z_37 n9 e2_0 (by omega)) (cwV 1 hts gX12_pour_X2_has rfl rfl rfl hv_X2_has ⟨Nat.le_of_ble_eq_true rfl, Nat.le_of_ble_eq_true rfl⟩) (pR_V (q := (RX2, TX2, 8)) (ci := 1) (q0 := 2) hP hE rfl rfl [2] rfl) rfl rfl hl.1 rfl (lv_room (Nat.le_of_ble_eq_true rfl)) dX12_pour_85 ⟨Nat.le_of_ble_eq_true rfl, Nat.le_of_ble_eq_true rfl⟩) (fun r_47 hr_47 => ?_)
                  rcases bool_post hr_47 with ⟨c_48, rfl⟩ | ⟨c_48, rfl⟩
                  · refine lv_if_eq (tgt := 109) hx hb dX12_pour_88 (by decide +kernel) (fun c9 => absurd c9 (by decide +kernel)) (fun _ => ?_)
                    refine lv_aload_n hx hb dX12_pour_91 rfl (lv_at hl 5 rfl) ?_
                    refine va_get (D := D) (ci := 9) (v := .ref h2) (C := RX12) (T := TX12) (N := 11) hx hb hts in_X12_pour_X12 hown hE.1 hP 0 rfl rfl 4 (by decide +kernel) (hts (.fieldLink RX12 32 "ClauseBook" "clauses" "LClauseBook$Clauses;") (List.mem_of_getElem? (i := 4) rfl)) (fun _ h9 => h9) e0_4 dX12_pour_92 ?_
                    refine va_get (D := D) (ci := 1) (v := .ref h4) (C := RX2) (T := TX2) (N := 8) hx hb hts in_X12_pour_X2 hown hE.1 hP 2 rfl rfl 1 (by decide +kernel) (hts (.fieldLink RX12 153 "ClauseBook$Clauses" "kind" "[I") (List.mem_of_getElem? (i := 5) rfl)) (fun _ h9 => h9) e2_1 dX12_pour_95 ?_
                    refine lv_iload hx hb dX12_pour_98 (lv_at hl 0 rfl) ?_
                    refine va_iald hx hb hE.1 hP 3 0 rfl rfl (by rw [vp_in_iff]; first | omega | (subst_vars; rw [dec1 (by omega)]; omega) | (subst_vars; rw [inc1 (n := 1000) (by omega) (by decide +kernel)]; omega)) dX12_pour_100 ?_
                    refine lv_topi (fun z_49 ez_49 => ?_)
                    refine lv_iload_n hx hb dX12_pour_101 rfl (lv_at hl 8 rfl) ?_
                    refine lv_icmp_ne (tgt := 109) hx hb dX12_pour_102 (by decide +kernel) (fun c_50 => ?_) (fun c_50 => ?_)
                    · rw [fa_eq] at c_50
                      refine lv_iconst (v := 0) hx hb dX12_pour_109 (by decide +kernel) ?_
                      refine lv_istore (lv' := [(9, .int 0), (8, .int z_37), (7, .int ii), (6, .int le), (5, .int (bn 0)), (4, .ref t0), (0, .ref h0), (1, .int 0), (2, .int 2), (3, .int x3)]) hx hb dX12_pour_110 hl (by decide +kernel) rfl (fun ls hl => ?_)
                      have hM : ¬ prP x3 n9 fk z_37 = true := fun h9 => by rcases of_decide_eq_true h9 with h8 | ⟨h8, h7⟩ <;> first | omega | (rw [← ez_49] at h7; omega)
                      refine lv_iload hx hb dX12_pour_112 (lv_at hl 0 rfl) ?_
                      refine lv_if_eq (tgt := 134) hx hb dX12_pour_114 (by decide +kernel) (fun _ => ?_) (fun c9 => absurd c9 (by decide +kernel))
                      refine lv_aload hx hb dX12_pour_134 (lv_at hl 5 rfl) ?_
                      refine va_get (D := D) (ci := 0) (v := .ref a0) (C := RX1) (T := TX1) (N := 2) hx hb hts in_X12_pour_X1 hown hE.1 hP 4 rfl rfl 1 (by decide +kernel) (hts (.fieldLink RX12 308 "ClauseBook$Bag" "numbers" "[I") (List.mem_of_getElem? (i := 3) rfl)) (fun _ h9 => h9) rfl dX12_pour_136 ?_
                      refine lv_iload hx hb dX12_pour_139 (lv_at hl 3 rfl) ?_
                      refine lv_iload hx hb dX12_pour_141 (lv_at hl 1 rfl) ?_
                      refine va_iast hx hb hE.1 hP hD hS 7 0 rfl rfl (by rw [vp_in_iff]; first | omega | (subst_vars; rw [dec1 (by omega)]; omega) | (subst_vars; rw [inc1 (n := 1000) (by omega) (by decide +kernel)]; omega)) dX12_pour_143 (fun H locs hP hD hS => ?_)
                      obtain ⟨hP, hD⟩ := wPD [(h0, .inr (9, fs0)), (h1, .inl (T 5, 3, .inr (.inr (.inr (.inr (va_up (va_up (va_up (fun _ => none) 0 (some t0)) 1 (some t1)) 2 (some t2))))))), (h2, .inr (1, fs2)), (h4, .inl (T 0, 24, .inl fk)), (t0, .inr (0, [.int (bn 0), .ref a0])), (t1, .inr (0, [.int (bn 1), .ref a1])), (t2, .inr (0, [.int qq, .ref a2])), (a0, .inl (T 0, 12, .inl (upd g0 (le.toNatClampNeg) z_37))), (a1, .inl (T 0, 12, .inl (bf 1))), (a2, .inl (T 0, 12, .inl g2))] hP hD rfl
                      obtain ⟨z_51, ez_51⟩ : ∃ y : Int32, y = le + 1 := ⟨_, rfl⟩
                      refine lv_iinc (v := z_51) (lv' := [(6, .int z_51), (9, .int 0), (8, .int z_37), (7, .int ii), (5, .int (bn 0)), (4, .ref t0), (0, .ref h0), (1, .int 0), (2, .int 2), (3, .int x3)]) hx hb dX12_pour_144 hl (k := 3) rfl (by rw [ez_51]; rfl) (by decide +kernel) rfl (fun ls hl => ?_)
                      obtain ⟨z_52, ez_52⟩ : ∃ y : Int32, y = ii + 1 := ⟨_, rfl⟩
                      refine lv_iinc (v := z_52) (lv' := [(7, .int z_52), (6, .int z_51), (9, .int 0), (8, .int z_37), (5, .int (bn 0)), (4, .ref t0), (0, .ref h0), (1, .int 0), (2, .int 2), (3, .int x3)]) hx hb dX12_pour_147 hl (k := 3) rfl (by rw [ez_52]; rfl) (by decide +kernel) rfl (fun ls hl => ?_)
                      have hi9 : z_52.toInt = ii.toInt + 1 := by rw [ez_52]; exact inc1 (n := 1000) (by omega) (by decide +kernel)
                      have hl9 : z_51.toInt = le.toInt + 1 := by rw [ez_51]; exact inc1 (n := 1000) (by omega) (by decide +kernel)
                      refine lv_goto (tgt := 57) hx hb dX12_pour_150 (by decide +kernel) ?_
                      exact ih (z_52, z_51, qq, (upd g0 (le.toNatClampNeg) z_37), g2) ls _ _ ⟨lv_sub hl [0, 1, 4, 5, 6, 7, 8, 9] rfl, hP.sub [0, 1, 2, 3, 4, 5, 6, 7, 8, 9] rfl, hD.sub [0, 1, 2, 3, 4, 5, 6, 7, 8, 9] (by decide +kernel) rfl, hS, ⟨(by (try dsimp only); omega), (by (try dsimp only); exact pour_stepN (by omega) (by omega) hi9 hp1 hp2 hp3 hp4 hzF (fun h9 => by first | exact hM h9.1 | omega) hl9 rfl rfl rfl)⟩⟩ (by (try dsimp only); omega)
                    · rw [fa_eq] at c_50
                      refine lv_iconst (v := 1) hx hb dX12_pour_105 (by decide +kernel) ?_
                      refine lv_goto (tgt := 110) hx hb dX12_pour_106 (by decide +kernel) ?_
                      refine lv_istore (lv' := [(9, .int 1), (8, .int z_37), (7, .int ii), (6, .int le), (5, .int (bn 0)), (4, .ref t0), (0, .ref h0), (1, .int 0), (2, .int 2), (3, .int x3)]) hx hb dX12_pour_110 hl (by decide +kernel) rfl (fun ls hl => ?_)
                      have hM : prP x3 n9 fk z_37 = true := decide_eq_true (by first | exact Or.inl (by omega) | exact Or.inr ⟨(by omega), (by rw [← ez_49]; omega)⟩)
                      refine lv_iload hx hb dX12_pour_112 (lv_at hl 0 rfl) ?_
                      refine lv_if_eq (tgt := 134) hx hb dX12_pour_114 (by decide +kernel) (fun c9 => absurd c9 (by decide +kernel)) (fun _ => ?_)
                      refine lv_aload_n hx hb dX12_pour_117 rfl (lv_at hl 6 rfl) ?_
                      refine va_get (D := D) (ci := 9) (v := .ref h1) (C := RX12) (T := TX12) (N := 11) hx hb hts in_X12_pour_X12 hown hE.1 hP 0 rfl rfl 5 (by decide +kernel) (hts (.fieldLink RX12 37 "ClauseBook" "bags" "[LClauseBook$Bag;") (List.mem_of_getElem? (i := 1) rfl)) (fun _ h9 => h9) e0_5 dX12_pour_118 ?_
                      refine lv_iload_n hx hb dX12_pour_121 rfl (lv_at hl 8 rfl) ?_
                      refine va_aldq hx hb hE.1 hP 1 5 rfl rfl (by unfold vp_in; decide) dX12_pour_122 ?_
                      refine W.eq (g2 := F0 m 123 ls [.ref t2]) rfl ?_
                      refine lv_iload hx hb dX12_pour_123 (lv_at hl 1 rfl) ?_
                      have hFc := va_free (wc := [(t2, .inr (0, [.int qq, .ref a2])), (a2, .inl (T 0, 12, .inl g2))]) hD hS hA [6, 9] rfl
                      refine va_calli (va_runV (As := [.int z_37]) (rest := []) ⟨hx, hb, hml, hown, hts⟩ (c_X1_append l D T _ t2 qq a2 g2 z_37 (by omega)) (cwV 1 hts gX12_pour_X1_append rfl rfl rfl hv_X1_append ⟨Nat.le_of_ble_eq_true rfl, Nat.le_of_ble_eq_true rfl⟩) (pW_V (q := (RX1, TX1, 2)) (ci := 0) (q0 := 6) hP hE hD rfl rfl [6, 9] (by decide +kernel) rfl rfl) rfl rfl hl.1 rfl (lv_room (Nat.le_of_ble_eq_true rfl)) dX12_pour_125 ⟨Nat.le_of_ble_eq_true rfl, Nat.le_of_ble_eq_true rfl⟩) hS (fun q _ h => hFc q h) hFc (fun r_53 u_54 t H1 locs ht hvm hr_53 hB hz1 hk1 hS => ?_)
                      obtain ⟨n_55, f_56⟩ := u_54
                      have hinn_55 : 0 ≤ n_55.toInt ∧ n_55.toInt ≤ 12 := hr_53.2.1
                      have hap : ((qq).toInt < 12 → n_55.toInt = (qq).toInt + 1 ∧ f_56 = upd g2 ((qq).toNatClampNeg) z_37) ∧ (¬ (qq).toInt < 12 → n_55 = qq ∧ f_56 = g2) := hr_53.2.2
                      have hbo : r_53 = if (qq).toInt < 12 then 1 else 0 := hr_53.1
                      obtain ⟨hP1, hD1⟩ := hB
                      rw [ht] at hP1
                      obtain ⟨hP, hD⟩ := va_repl [(h0, .inr (9, fs0)), (h1, .inl (T 5, 3, .inr (.inr (.inr (.inr (va_up (va_up (va_up (fun _ => none) 0 (some t0)) 1 (some t1)) 2 (some t2))))))), (h2, .inr (1, fs2)), (h4, .inl (T 0, 24, .inl fk)), (t0, .inr (0, [.int (bn 0), .ref a0])), (t1, .inr (0, [.int (bn 1), .ref a1])), (t2, .inr (0, [.int n_55, .ref a2])), (a0, .inl (T 0, 12, .inl g0)), (a1, .inl (T 0, 12, .inl (bf 1))), (a2, .inl (T 0, 12, .inl f_56))] hP hD [6, 9] [6, 9] rfl (by decide +kernel) rfl rfl rfl hk1 hP1
                      clear hP1 hD1 hFc
                      generalize H1 = H at hP hS ⊢
                      rcases bool_post hbo with ⟨c_57, rfl⟩ | ⟨c_57, rfl⟩
                      · refine lv_if_eq (tgt := 134) hx hb dX12_pour_128 (by decide +kernel) (fun c9 => absurd c9 (by decide +kernel)) (fun _ => ?_)
                        refine lv_goto (tgt := 147) hx hb dX12_pour_131 (by decide +kernel) ?_
                        obtain ⟨z_58, ez_58⟩ : ∃ y : Int32, y = ii + 1 := ⟨_, rfl⟩
                        refine lv_iinc (v := z_58) (lv' := [(7, .int z_58), (9, .int 1), (8, .int z_37), (6, .int le), (5, .int (bn 0)), (4, .ref t0), (0, .ref h0), (1, .int 0), (2, .int 2), (3, .int x3)]) hx hb dX12_pour_147 hl (k := 2) rfl (by rw [ez_58]; rfl) (by decide +kernel) rfl (fun ls hl => ?_)
                        have hi9 : z_58.toInt = ii.toInt + 1 := by rw [ez_58]; exact inc1 (n := 1000) (by omega) (by decide +kernel)
                        refine lv_goto (tgt := 57) hx hb dX12_pour_150 (by decide +kernel) ?_
                        exact ih (z_58, le, n_55, g0, f_56) ls _ _ ⟨lv_sub hl [0, 3, 4, 5, 6, 7, 8, 9] rfl, hP.sub [0, 1, 2, 3, 4, 5, 6, 7, 8, 9] rfl, hD.sub [0, 1, 2, 3, 4, 5, 6, 7, 8, 9] (by decide +kernel) rfl, hS, ⟨(by (try dsimp only); omega), (by (try dsimp only); exact pour_stepY (by omega) hi9 hp1 hp2 hp3 hp4 hzF hM (by omega) (hap.1 (by omega)).1 (hap.1 (by omega)).2)⟩⟩ (by (try dsimp only); omega)
                      · refine lv_if_eq (tgt := 134) hx hb dX12_pour_128 (by decide +kernel) (fun _ => ?_) (fun c9 => absurd c9 (by decide +kernel))
                        refine lv_aload hx hb dX12_pour_134 (lv_at hl 5 rfl) ?_
                        refine va_get (D := D) (ci := 0) (v := .ref a0) (C := RX1) (T := TX1) (N := 2) hx hb hts in_X12_pour_X1 hown hE.1 hP 4 rfl rfl 1 (by decide +kernel) (hts (.fieldLink RX12 308 "ClauseBook$Bag" "numbers" "[I") (List.mem_of_getElem? (i := 3) rfl)) (fun _ h9 => h9) rfl dX12_pour_136 ?_
                        refine lv_iload hx hb dX12_pour_139 (lv_at hl 3 rfl) ?_
                        refine lv_iload hx hb dX12_pour_141 (lv_at hl 1 rfl) ?_
                        refine va_iast hx hb hE.1 hP hD hS 7 0 rfl rfl (by rw [vp_in_iff]; first | omega | (subst_vars; rw [dec1 (by omega)]; omega) | (subst_vars; rw [inc1 (n := 1000) (by omega) (by decide +kernel)]; omega)) dX12_pour_143 (fun H locs hP hD hS => ?_)
                        obtain ⟨hP, hD⟩ := wPD [(h0, .inr (9, fs0)), (h1, .inl (T 5, 3, .inr (.inr (.inr (.inr (va_up (va_up (va_up (fun _ => none) 0 (some t0)) 1 (some t1)) 2 (some t2))))))), (h2, .inr (1, fs2)), (h4, .inl (T 0, 24, .inl fk)), (t0, .inr (0, [.int (bn 0), .ref a0])), (t1, .inr (0, [.int (bn 1), .ref a1])), (t2, .inr (0, [.int n_55, .ref a2])), (a0, .inl (T 0, 12, .inl (upd g0 (le.toNatClampNeg) z_37))), (a1, .inl (T 0, 12, .inl (bf 1))), (a2, .inl (T 0, 12, .inl f_56))] hP hD rfl
                        obtain ⟨z_59, ez_59⟩ : ∃ y : Int32, y = le + 1 := ⟨_, rfl⟩
                        refine lv_iinc (v := z_59) (lv' := [(6, .int z_59), (9, .int 1), (8, .int z_37), (7, .int ii), (5, .int (bn 0)), (4, .ref t0), (0, .ref h0), (1, .int 0), (2, .int 2), (3, .int x3)]) hx hb dX12_pour_144 hl (k := 3) rfl (by rw [ez_59]; rfl) (by decide +kernel) rfl (fun ls hl => ?_)
                        obtain ⟨z_60, ez_60⟩ : ∃ y : Int32, y = ii + 1 := ⟨_, rfl⟩
                        refine lv_iinc (v := z_60) (lv' := [(7, .int z_60), (6, .int z_59), (9, .int 1), (8, .int z_37), (5, .int (bn 0)), (4, .ref t0), (0, .ref h0), (1, .int 0), (2, .int 2), (3, .int x3)]) hx hb dX12_pour_147 hl (k := 3) rfl (by rw [ez_60]; rfl) (by decide +kernel) rfl (fun ls hl => ?_)
                        have hi9 : z_60.toInt = ii.toInt + 1 := by rw [ez_60]; exact inc1 (n := 1000) (by omega) (by decide +kernel)
                        have hl9 : z_59.toInt = le.toInt + 1 := by rw [ez_59]; exact inc1 (n := 1000) (by omega) (by decide +kernel)
                        refine lv_goto (tgt := 57) hx hb dX12_pour_150 (by decide +kernel) ?_
                        exact ih (z_60, z_59, n_55, (upd g0 (le.toNatClampNeg) z_37), f_56) ls _ _ ⟨lv_sub hl [0, 1, 4, 5, 6, 7, 8, 9] rfl, hP.sub [0, 1, 2, 3, 4, 5, 6, 7, 8, 9] rfl, hD.sub [0, 1, 2, 3, 4, 5, 6, 7, 8, 9] (by decide +kernel) rfl, hS, ⟨(by (try dsimp only); omega), (by (try dsimp only); exact pour_stepN (by omega) (by omega) hi9 hp1 hp2 hp3 hp4 hzF (fun h9 => by first | exact hM h9.1 | omega) hl9 rfl (by rw [(hap.2 (by omega)).1]) (hap.2 (by omega)).2)⟩⟩ (by (try dsimp only); omega)
                  · refine lv_if_eq (tgt := 109) hx hb dX12_pour_88 (by decide +kernel) (fun _ => ?_) (fun c9 => absurd c9 (by decide +kernel))
                    refine lv_iconst (v := 0) hx hb dX12_pour_109 (by decide +kernel) ?_
                    refine lv_istore (lv' := [(9, .int 0), (8, .int z_37), (7, .int ii), (6, .int le), (5, .int (bn 0)), (4, .ref t0), (0, .ref h0), (1, .int 0), (2, .int 2), (3, .int x3)]) hx hb dX12_pour_110 hl (by decide +kernel) rfl (fun ls hl => ?_)
                    have hM : ¬ prP x3 n9 fk z_37 = true := fun h9 => by rcases of_decide_eq_true h9 with h8 | ⟨h8, h7⟩ <;> first | omega | (rw [← ez_49] at h7; omega)
                    refine lv_iload hx hb dX12_pour_112 (lv_at hl 0 rfl) ?_
                    refine lv_if_eq (tgt := 134) hx hb dX12_pour_114 (by decide +kernel) (fun _ => ?_) (fun c9 => absurd c9 (by decide +kernel))
                    refine lv_aload hx hb dX12_pour_134 (lv_at hl 5 rfl) ?_
                    refine va_get (D := D) (ci := 0) (v := .ref a0) (C := RX1) (T := TX1) (N := 2) hx hb hts in_X12_pour_X1 hown hE.1 hP 4 rfl rfl 1 (by decide +kernel) (hts (.fieldLink RX12 308 "ClauseBook$Bag" "numbers" "[I") (List.mem_of_getElem? (i := 3) rfl)) (fun _ h9 => h9) rfl dX12_pour_136 ?_
                    refine lv_iload hx hb dX12_pour_139 (lv_at hl 3 rfl) ?_
                    refine lv_iload hx hb dX12_pour_141 (lv_at hl 1 rfl) ?_
                    refine va_iast hx hb hE.1 hP hD hS 7 0 rfl rfl (by rw [vp_in_iff]; first | omega | (subst_vars; rw [dec1 (by omega)]; omega) | (subst_vars; rw [inc1 (n := 1000) (by omega) (by decide +kernel)]; omega)) dX12_pour_143 (fun H locs hP hD hS => ?_)
                    obtain ⟨hP, hD⟩ := wPD [(h0, .inr (9, fs0)), (h1, .inl (T 5, 3, .inr (.inr (.inr (.inr (va_up (va_up (va_up (fun _ => none) 0 (some t0)) 1 (some t1)) 2 (some t2))))))), (h2, .inr (1, fs2)), (h4, .inl (T 0, 24, .inl fk)), (t0, .inr (0, [.int (bn 0), .ref a0])), (t1, .inr (0, [.int (bn 1), .ref a1])), (t2, .inr (0, [.int qq, .ref a2])), (a0, .inl (T 0, 12, .inl (upd g0 (le.toNatClampNeg) z_37))), (a1, .inl (T 0, 12, .inl (bf 1))), (a2, .inl (T 0, 12, .inl g2))] hP hD rfl
                    obtain ⟨z_61, ez_61⟩ : ∃ y : Int32, y = le + 1 := ⟨_, rfl⟩
                    refine lv_iinc (v := z_61) (lv' := [(6, .int z_61), (9, .int 0), (8, .int z_37), (7, .int ii), (5, .int (bn 0)), (4, .ref t0), (0, .ref h0), (1, .int 0), (2, .int 2), (3, .int x3)]) hx hb dX12_pour_144 hl (k := 3) rfl (by rw [ez_61]; rfl) (by decide +kernel) rfl (fun ls hl => ?_)
                    obtain ⟨z_62, ez_62⟩ : ∃ y : Int32, y = ii + 1 := ⟨_, rfl⟩
                    refine lv_iinc (v := z_62) (lv' := [(7, .int z_62), (6, .int z_61), (9, .int 0), (8, .int z_37), (5, .int (bn 0)), (4, .ref t0), (0, .ref h0), (1, .int 0), (2, .int 2), (3, .int x3)]) hx hb dX12_pour_147 hl (k := 3) rfl (by rw [ez_62]; rfl) (by decide +kernel) rfl (fun ls hl => ?_)
                    have hi9 : z_62.toInt = ii.toInt + 1 := by rw [ez_62]; exact inc1 (n := 1000) (by omega) (by decide +kernel)
                    have hl9 : z_61.toInt = le.toInt + 1 := by rw [ez_61]; exact inc1 (n := 1000) (by omega) (by decide +kernel)
                    refine lv_goto (tgt := 57) hx hb dX12_pour_150 (by decide +kernel) ?_
                    exact ih (z_62, z_61, qq, (upd g0 (le.toNatClampNeg) z_37), g2) ls _ _ ⟨lv_sub hl [0, 1, 4, 5, 6, 7, 8, 9] rfl, hP.sub [0, 1, 2, 3, 4, 5, 6, 7, 8, 9] rfl, hD.sub [0, 1, 2, 3, 4, 5, 6, 7, 8, 9] (by decide +kernel) rfl, hS, ⟨(by (try dsimp only); omega), (by (try dsimp only); exact pour_stepN (by omega) (by omega) hi9 hp1 hp2 hp3 hp4 hzF (fun h9 => by first | exact hM h9.1 | omega) hl9 rfl rfl rfl)⟩⟩ (by (try dsimp only); omega)
          · rcases in3 (x := x2) (by omega) with rfl | rfl | rfl
            · refine lv_aload_n hx hb dX12_pour_36 rfl (lv_at hl 0 rfl) ?_
              refine va_get (D := D) (ci := 9) (v := .ref h1) (C := RX12) (T := TX12) (N := 11) hx hb hts in_X12_pour_X12 hown hE.1 hP 0 rfl rfl 5 (by decide +kernel) (hts (.fieldLink RX12 37 "ClauseBook" "bags" "[LClauseBook$Bag;") (List.mem_of_getElem? (i := 1) rfl)) (fun _ h9 => h9) e0_5 dX12_pour_37 ?_
              refine lv_iload_n hx hb dX12_pour_40 rfl (lv_at hl 1 rfl) ?_
              refine va_aldq hx hb hE.1 hP 1 5 rfl rfl (by unfold vp_in; decide) dX12_pour_41 ?_
              refine W.eq (g2 := F0 m 42 ls [.ref t1]) rfl ?_
              refine lv_astore (lv' := [(4, .ref t1), (0, .ref h0), (1, .int 1), (2, .int 0), (3, .int x3)]) hx hb dX12_pour_42 hl (by decide +kernel) rfl (fun ls hl => ?_)
              refine lv_aload hx hb dX12_pour_44 (lv_at hl 0 rfl) ?_
              refine va_get (D := D) (ci := 0) (v := .int (bn 1)) (C := RX1) (T := TX1) (N := 2) hx hb hts in_X12_pour_X1 hown hE.1 hP 5 rfl rfl 0 (by decide +kernel) (hts (.fieldLink RX12 307 "ClauseBook$Bag" "size" "I") (List.mem_of_getElem? (i := 2) rfl)) (fun _ h9 => h9) rfl dX12_pour_46 ?_
              refine lv_istore (lv' := [(5, .int (bn 1)), (4, .ref t1), (0, .ref h0), (1, .int 1), (2, .int 0), (3, .int x3)]) hx hb dX12_pour_49 hl (by decide +kernel) rfl (fun ls hl => ?_)
              refine lv_iconst (v := 0) hx hb dX12_pour_51 (by decide +kernel) ?_
              refine lv_istore (lv' := [(6, .int 0), (5, .int (bn 1)), (4, .ref t1), (0, .ref h0), (1, .int 1), (2, .int 0), (3, .int x3)]) hx hb dX12_pour_52 hl (by decide +kernel) rfl (fun ls hl => ?_)
              refine lv_iconst (v := 0) hx hb dX12_pour_54 (by decide +kernel) ?_
              refine lv_istore (lv' := [(7, .int 0), (6, .int 0), (5, .int (bn 1)), (4, .ref t1), (0, .ref h0), (1, .int 1), (2, .int 0), (3, .int x3)]) hx hb dX12_pour_55 hl (by decide +kernel) rfl (fun ls hl => ?_)
              refine loopW (σ := (Int32) × (Int32) × (Int32) × (Nat → Int32) × (Nat → Int32)) (fun x9 ls H locs => lv_has ls 10 [(7, .int x9.1), (6, .int x9.2.1), (5, .int (bn 1)), (4, .ref t1), (0, .ref h0), (1, .int 1), (2, .int 0), (3, .int x3)] ∧ va_P D vwCl [(h0, .inr (9, fs0)), (h1, .inl (T 5, 3, .inr (.inr (.inr (.inr (va_up (va_up (va_up (fun _ => none) 0 (some t0)) 1 (some t1)) 2 (some t2))))))), (h2, .inr (1, fs2)), (h4, .inl (T 0, 24, .inl fk)), (t0, .inr (0, [.int x9.2.2.1, .ref a0])), (t1, .inr (0, [.int (bn 1), .ref a1])), (t2, .inr (0, [.int (bn 2), .ref a2])), (a0, .inl (T 0, 12, .inl x9.2.2.2.2)), (a1, .inl (T 0, 12, .inl x9.2.2.2.1)), (a2, .inl (T 0, 12, .inl (bf 2)))] H ∧ va_D A [(h0, .inr (9, fs0)), (h1, .inl (T 5, 3, .inr (.inr (.inr (.inr (va_up (va_up (va_up (fun _ => none) 0 (some t0)) 1 (some t1)) 2 (some t2))))))), (h2, .inr (1, fs2)), (h4, .inl (T 0, 24, .inl fk)), (t0, .inr (0, [.int x9.2.2.1, .ref a0])), (t1, .inr (0, [.int (bn 1), .ref a1])), (t2, .inr (0, [.int (bn 2), .ref a2])), (a0, .inl (T 0, 12, .inl x9.2.2.2.2)), (a1, .inl (T 0, 12, .inl x9.2.2.2.1)), (a2, .inl (T 0, 12, .inl (bf 2)))] ∧ va_S A s.heap H locs ∧ (((0 ≤ x9.2.1.toInt ∧ x9.2.1.toInt ≤ x9.1.toInt ∧ x9.1.toInt ≤ (bn 1).toInt) ∧ 0 ≤ x9.2.2.1.toInt ∧ x9.2.2.1.toInt ≤ 12) ∧ x9.2.1.toInt = (pourF (prP x3 n9 fk) (bf 1) (bf 0) ((bn 0).toNatClampNeg) (x9.1.toNatClampNeg)).1 ∧ x9.2.2.2.1 = (pourF (prP x3 n9 fk) (bf 1) (bf 0) ((bn 0).toNatClampNeg) (x9.1.toNatClampNeg)).2.1 ∧ x9.2.2.1.toInt = (pourF (prP x3 n9 fk) (bf 1) (bf 0) ((bn 0).toNatClampNeg) (x9.1.toNatClampNeg)).2.2.1 ∧ x9.2.2.2.2 = (pourF (prP x3 n9 fk) (bf 1) (bf 0) ((bn 0).toNatClampNeg) (x9.1.toNatClampNeg)).2.2.2)) (fun x9 => (12 - x9.1.toInt).toNat) (fun x9 ls H locs hI ih => ?_) (0, 0, (bn 0), (bf 1), (bf 0)) ls ⟨lv_sub hl [0, 1, 2, 3, 4, 5, 6, 7] rfl, hP.sub [0, 1, 2, 3, 4, 5, 6, 7, 8, 9] rfl, hD.sub [0, 1, 2, 3, 4, 5, 6, 7, 8, 9] (by decide +kernel) rfl, hS, ⟨(by (try dsimp only); simp only [ti_0]; omega), (by (try dsimp only); rw [tn0']; rfl), (by (try dsimp only); rw [tn0']; rfl), (by (try dsimp only); rw [tn0']; exact (tn (by omega)).symm), (by (try dsimp only); rw [tn0']; rfl)⟩⟩
              obtain ⟨ii, le, qq, g1, g0⟩ := x9
              obtain ⟨hl, hP, hD, hS, hinv⟩ := hI
              have hl : lv_has ls 10 [(7, .int ii), (6, .int le), (5, .int (bn 1)), (4, .ref t1), (0, .ref h0), (1, .int 1), (2, .int 0), (3, .int x3)] := hl
              have hP : va_P D vwCl [(h0, .inr (9, fs0)), (h1, .inl (T 5, 3, .inr (.inr (.inr (.inr (va_up (va_up (va_up (fun _ => none) 0 (some t0)) 1 (some t1)) 2 (some t2))))))), (h2, .inr (1, fs2)), (h4, .inl (T 0, 24, .inl fk)), (t0, .inr (0, [.int qq, .ref a0])), (t1, .inr (0, [.int (bn 1), .ref a1])), (t2, .inr (0, [.int (bn 2), .ref a2])), (a0, .inl (T 0, 12, .inl g0)), (a1, .inl (T 0, 12, .inl g1)), (a2, .inl (T 0, 12, .inl (bf 2)))] H := hP
              have hD : va_D A [(h0, .inr (9, fs0)), (h1, .inl (T 5, 3, .inr (.inr (.inr (.inr (va_up (va_up (va_up (fun _ => none) 0 (some t0)) 1 (some t1)) 2 (some t2))))))), (h2, .inr (1, fs2)), (h4, .inl (T 0, 24, .inl fk)), (t0, .inr (0, [.int qq, .ref a0])), (t1, .inr (0, [.int (bn 1), .ref a1])), (t2, .inr (0, [.int (bn 2), .ref a2])), (a0, .inl (T 0, 12, .inl g0)), (a1, .inl (T 0, 12, .inl g1)), (a2, .inl (T 0, 12, .inl (bf 2)))] := hD
              have hinv : ((0 ≤ le.toInt ∧ le.toInt ≤ ii.toInt ∧ ii.toInt ≤ (bn 1).toInt) ∧ 0 ≤ qq.toInt ∧ qq.toInt ≤ 12) ∧ le.toInt = (pourF (prP x3 n9 fk) (bf 1) (bf 0) ((bn 0).toNatClampNeg) (ii.toNatClampNeg)).1 ∧ g1 = (pourF (prP x3 n9 fk) (bf 1) (bf 0) ((bn 0).toNatClampNeg) (ii.toNatClampNeg)).2.1 ∧ qq.toInt = (pourF (prP x3 n9 fk) (bf 1) (bf 0) ((bn 0).toNatClampNeg) (ii.toNatClampNeg)).2.2.1 ∧ g0 = (pourF (prP x3 n9 fk) (bf 1) (bf 0) ((bn 0).toNatClampNeg) (ii.toNatClampNeg)).2.2.2 := hinv
              obtain ⟨hinv, hp1, hp2, hp3, hp4⟩ := hinv
              refine lv_iload hx hb dX12_pour_57 (lv_at hl 0 rfl) ?_
              refine lv_iload hx hb dX12_pour_59 (lv_at hl 2 rfl) ?_
              refine lv_icmp_ge (tgt := 153) hx hb dX12_pour_61 (by decide +kernel) (fun c_63 => ?_) (fun c_63 => ?_)
              · rw [fa_le] at c_63
                have e9 : ii = (bn 1) := Int32.toInt_inj.1 (by omega)
                rw [e9] at hp1 hp2 hp3 hp4
                refine lv_aload hx hb dX12_pour_153 (lv_at hl 3 rfl) ?_
                refine lv_iload hx hb dX12_pour_155 (lv_at hl 1 rfl) ?_
                refine va_put (D := D) (ci := 0) (v := .int le) (ty := .int) (C := RX1) (T := TX1) (N := 2) hx hb hts in_X12_pour_X1 tyX1 tyX1_ok nmX1 hown hE.1 hP hD hS 5 rfl rfl 0 (by decide +kernel) (hts (.fieldLink RX12 307 "ClauseBook$Bag" "size" "I") (List.mem_of_getElem? (i := 2) rfl)) (fun _ h9 => h9) rfl (by decide +kernel) rfl rfl (Nat.le_of_ble_eq_true rfl) dX12_pour_157 (fun H locs hP hD hS => ?_)
                obtain ⟨hP, hD⟩ := wPD [(h0, .inr (9, fs0)), (h1, .inl (T 5, 3, .inr (.inr (.inr (.inr (va_up (va_up (va_up (fun _ => none) 0 (some t0)) 1 (some t1)) 2 (some t2))))))), (h2, .inr (1, fs2)), (h4, .inl (T 0, 24, .inl fk)), (t0, .inr (0, [.int qq, .ref a0])), (t1, .inr (0, [.int le, .ref a1])), (t2, .inr (0, [.int (bn 2), .ref a2])), (a0, .inl (T 0, 12, .inl g0)), (a1, .inl (T 0, 12, .inl g1)), (a2, .inl (T 0, 12, .inl (bf 2)))] hP hD rfl
                refine lv_iload hx hb dX12_pour_160 (lv_at hl 2 rfl) ?_
                refine lv_iload hx hb dX12_pour_162 (lv_at hl 1 rfl) ?_
                refine lv_isub hx hb dX12_pour_164 ?_
                exact W.iret hx hb hr (fun t ht hW => ⟨⟨_, ((fun k => [qq, le, (bn 2)].getD k 0), (fun k => [g0, g1, (bf 2)].getD k g0)), rfl, ⟨(show 0 ≤ (qq).toInt ∧ (qq).toInt ≤ 12 from by (try subst_vars); first | omega | (rw [dec1 (by omega)]; omega)), (show 0 ≤ (le).toInt ∧ (le).toInt ≤ 12 from by (try subst_vars); first | omega | (rw [dec1 (by omega)]; omega)), (show 0 ≤ ((bn 2)).toInt ∧ ((bn 2)).toInt ≤ 12 from by (try subst_vars); first | omega | (rw [dec1 (by omega)]; omega)), (Or.inr ⟨⟨⟨⟨by decide, by decide⟩, by decide, by decide⟩, by decide, by omega⟩, _, rfl, (show (((bn 1) - le) : Int32).toInt = (bn 1).toInt - (((pourF (prP x3 n9 fk) (bf 1) (bf 0) ((bn 0).toNatClampNeg) ((bn 1).toNatClampNeg)).1 : Nat) : Int) from by have h8 := hp1; rw [fb_subI (by omega) (by omega)]; omega), all3 ⟨(fun h9 => absurd h9 (by decide +kernel)), (fun _ => ⟨hp3, hp4⟩), (fun _ h9 => absurd (by decide +kernel) h9)⟩ ⟨(fun _ => ⟨hp1, hp2⟩), (fun h9 => absurd h9 (by decide +kernel)), (fun h9 => absurd (by decide +kernel) h9)⟩ ⟨(fun h9 => absurd h9 (by decide +kernel)), (fun h9 => absurd h9 (by decide +kernel)), (fun _ _ => ⟨rfl, rfl⟩)⟩⟩)⟩, by rw [ht]; exact hP.sub [0, 1, 2, 3, 4, 5, 6, 7, 8, 9] rfl, hD.sub [0, 1, 2, 3, 4, 5, 6, 7, 8, 9] (by decide +kernel) rfl⟩, hS.F ht⟩) hS.2.2 dX12_pour_165
              · rw [fa_le] at c_63
                refine lv_aload hx hb dX12_pour_64 (lv_at hl 3 rfl) ?_
                refine va_get (D := D) (ci := 0) (v := .ref a1) (C := RX1) (T := TX1) (N := 2) hx hb hts in_X12_pour_X1 hown hE.1 hP 5 rfl rfl 1 (by decide +kernel) (hts (.fieldLink RX12 308 "ClauseBook$Bag" "numbers" "[I") (List.mem_of_getElem? (i := 3) rfl)) (fun _ h9 => h9) rfl dX12_pour_66 ?_
                refine lv_iload hx hb dX12_pour_69 (lv_at hl 0 rfl) ?_
                refine va_iald hx hb hE.1 hP 8 0 rfl rfl (by rw [vp_in_iff]; first | omega | (subst_vars; rw [dec1 (by omega)]; omega) | (subst_vars; rw [inc1 (n := 1000) (by omega) (by decide +kernel)]; omega)) dX12_pour_71 ?_
                refine lv_topi (fun z_64 ez_64 => ?_)
                have hzF : z_64 = (bf 1) (ii.toNatClampNeg) := by rw [ez_64, hp2]; exact pourF_keep _ _ (by have h8 := tn (x := ii) (by omega); omega)
                refine lv_istore (lv' := [(8, .int z_64), (7, .int ii), (6, .int le), (5, .int (bn 1)), (4, .ref t1), (0, .ref h0), (1, .int 1), (2, .int 0), (3, .int x3)]) hx hb dX12_pour_72 hl (by decide +kernel) rfl (fun ls hl => ?_)
                refine lv_iload_n hx hb dX12_pour_74 rfl (lv_at hl 8 rfl) ?_
                refine lv_iconst (v := (-1)) hx hb dX12_pour_75 (by decide +kernel) ?_
                refine lv_icmp_eq (tgt := 105) hx hb dX12_pour_76 (by decide +kernel) (fun c_65 => ?_) (fun c_65 => ?_)
                · rw [fa_eq] at c_65
                  try rw [ti_n1] at c_65
                  refine lv_iconst (v := 1) hx hb dX12_pour_105 (by decide +kernel) ?_
                  refine lv_goto (tgt := 110) hx hb dX12_pour_106 (by decide +kernel) ?_
                  refine lv_istore (lv' := [(9, .int 1), (8, .int z_64), (7, .int ii), (6, .int le), (5, .int (bn 1)), (4, .ref t1), (0, .ref h0), (1, .int 1), (2, .int 0), (3, .int x3)]) hx hb dX12_pour_110 hl (by decide +kernel) rfl (fun ls hl => ?_)
                  have hM : prP x3 n9 fk z_64 = true := decide_eq_true (by first | exact Or.inl (by omega) | exact Or.inr ⟨(by omega), (by rw [← ez_49]; omega)⟩)
                  refine lv_iload hx hb dX12_pour_112 (lv_at hl 0 rfl) ?_
                  refine lv_if_eq (tgt := 134) hx hb dX12_pour_114 (by decide +kernel) (fun c9 => absurd c9 (by decide +kernel)) (fun _ => ?_)
                  refine lv_aload_n hx hb dX12_pour_117 rfl (lv_at hl 6 rfl) ?_
                  refine va_get (D := D) (ci := 9) (v := .ref h1) (C := RX12) (T := TX12) (N := 11) hx hb hts in_X12_pour_X12 hown hE.1 hP 0 rfl rfl 5 (by decide +kernel) (hts (.fieldLink RX12 37 "ClauseBook" "bags" "[LClauseBook$Bag;") (List.mem_of_getElem? (i := 1) rfl)) (fun _ h9 => h9) e0_5 dX12_pour_118 ?_
                  refine lv_iload_n hx hb dX12_pour_121 rfl (lv_at hl 8 rfl) ?_
                  refine va_aldq hx hb hE.1 hP 1 5 rfl rfl (by unfold vp_in; decide) dX12_pour_122 ?_
                  refine W.eq (g2 := F0 m 123 ls [.ref t0]) rfl ?_
                  refine lv_iload hx hb dX12_pour_123 (lv_at hl 1 rfl) ?_
                  have hFc := va_free (wc := [(t0, .inr (0, [.int qq, .ref a0])), (a0, .inl (T 0, 12, .inl g0))]) hD hS hA [4, 7] rfl
                  refine va_calli (va_runV (As := [.int z_64]) (rest := []) ⟨hx, hb, hml, hown, hts⟩ (c_X1_append l D T _ t0 qq a0 g0 z_64 (by omega)) (cwV 1 hts gX12_pour_X1_append rfl rfl rfl hv_X1_append ⟨Nat.le_of_ble_eq_true rfl, Nat.le_of_ble_eq_true rfl⟩) (pW_V (q := (RX1, TX1, 2)) (ci := 0) (q0 := 4) hP hE hD rfl rfl [4, 7] (by decide +kernel) rfl rfl) rfl rfl hl.1 rfl (lv_room (Nat.le_of_ble_eq_true rfl)) dX12_pour_125 ⟨Nat.le_of_ble_eq_true rfl, Nat.le_of_ble_eq_true rfl⟩) hS (fun q _ h => hFc q h) hFc (fun r_66 u_67 t H1 locs ht hvm hr_66 hB hz1 hk1 hS => ?_)
                  obtain ⟨n_68, f_69⟩ := u_67
                  have hinn_68 : 0 ≤ n_68.toInt ∧ n_68.toInt ≤ 12 := hr_66.2.1
                  have hap : ((qq).toInt < 12 → n_68.toInt = (qq).toInt + 1 ∧ f_69 = upd g0 ((qq).toNatClampNeg) z_64) ∧ (¬ (qq).toInt < 12 → n_68 = qq ∧ f_69 = g0) := hr_66.2.2
                  have hbo : r_66 = if (qq).toInt < 12 then 1 else 0 := hr_66.1
                  obtain ⟨hP1, hD1⟩ := hB
                  rw [ht] at hP1
                  obtain ⟨hP, hD⟩ := va_repl [(h0, .inr (9, fs0)), (h1, .inl (T 5, 3, .inr (.inr (.inr (.inr (va_up (va_up (va_up (fun _ => none) 0 (some t0)) 1 (some t1)) 2 (some t2))))))), (h2, .inr (1, fs2)), (h4, .inl (T 0, 24, .inl fk)), (t0, .inr (0, [.int n_68, .ref a0])), (t1, .inr (0, [.int (bn 1), .ref a1])), (t2, .inr (0, [.int (bn 2), .ref a2])), (a0, .inl (T 0, 12, .inl f_69)), (a1, .inl (T 0, 12, .inl g1)), (a2, .inl (T 0, 12, .inl (bf 2)))] hP hD [4, 7] [4, 7] rfl (by decide +kernel) rfl rfl rfl hk1 hP1
                  clear hP1 hD1 hFc
                  generalize H1 = H at hP hS ⊢
                  rcases bool_post hbo with ⟨c_70, rfl⟩ | ⟨c_70, rfl⟩
                  · refine lv_if_eq (tgt := 134) hx hb dX12_pour_128 (by decide +kernel) (fun c9 => absurd c9 (by decide +kernel)) (fun _ => ?_)
                    refine lv_goto (tgt := 147) hx hb dX12_pour_131 (by decide +kernel) ?_
                    obtain ⟨z_71, ez_71⟩ : ∃ y : Int32, y = ii + 1 := ⟨_, rfl⟩
                    refine lv_iinc (v := z_71) (lv' := [(7, .int z_71), (9, .int 1), (8, .int z_64), (6, .int le), (5, .int (bn 1)), (4, .ref t1), (0, .ref h0), (1, .int 1), (2, .int 0), (3, .int x3)]) hx hb dX12_pour_147 hl (k := 2) rfl (by rw [ez_71]; rfl) (by decide +kernel) rfl (fun ls hl => ?_)
                    have hi9 : z_71.toInt = ii.toInt + 1 := by rw [ez_71]; exact inc1 (n := 1000) (by omega) (by decide +kernel)
                    refine lv_goto (tgt := 57) hx hb dX12_pour_150 (by decide +kernel) ?_
                    exact ih (z_71, le, n_68, g1, f_69) ls _ _ ⟨lv_sub hl [0, 3, 4, 5, 6, 7, 8, 9] rfl, hP.sub [0, 1, 2, 3, 4, 5, 6, 7, 8, 9] rfl, hD.sub [0, 1, 2, 3, 4, 5, 6, 7, 8, 9] (by decide +kernel) rfl, hS, ⟨(by (try dsimp only); omega), (by (try dsimp only); exact pour_stepY (by omega) hi9 hp1 hp2 hp3 hp4 hzF hM (by omega) (hap.1 (by omega)).1 (hap.1 (by omega)).2)⟩⟩ (by (try dsimp only); omega)
                  · refine lv_if_eq (tgt := 134) hx hb dX12_pour_128 (by decide +kernel) (fun _ => ?_) (fun c9 => absurd c9 (by decide +kernel))
                    refine lv_aload hx hb dX12_pour_134 (lv_at hl 5 rfl) ?_
                    refine va_get (D := D) (ci := 0) (v := .ref a1) (C := RX1) (T := TX1) (N := 2) hx hb hts in_X12_pour_X1 hown hE.1 hP 5 rfl rfl 1 (by decide +kernel) (hts (.fieldLink RX12 308 "ClauseBook$Bag" "numbers" "[I") (List.mem_of_getElem? (i := 3) rfl)) (fun _ h9 => h9) rfl dX12_pour_136 ?_
                    refine lv_iload hx hb dX12_pour_139 (lv_at hl 3 rfl) ?_
                    refine lv_iload hx hb dX12_pour_141 (lv_at hl 1 rfl) ?_
                    refine va_iast hx hb hE.1 hP hD hS 8 0 rfl rfl (by rw [vp_in_iff]; first | omega | (subst_vars; rw [dec1 (by omega)]; omega) | (subst_vars; rw [inc1 (n := 1000) (by omega) (by decide +kernel)]; omega)) dX12_pour_143 (fun H locs hP hD hS => ?_)
                    obtain ⟨hP, hD⟩ := wPD [(h0, .inr (9, fs0)), (h1, .inl (T 5, 3, .inr (.inr (.inr (.inr (va_up (va_up (va_up (fun _ => none) 0 (some t0)) 1 (some t1)) 2 (some t2))))))), (h2, .inr (1, fs2)), (h4, .inl (T 0, 24, .inl fk)), (t0, .inr (0, [.int n_68, .ref a0])), (t1, .inr (0, [.int (bn 1), .ref a1])), (t2, .inr (0, [.int (bn 2), .ref a2])), (a0, .inl (T 0, 12, .inl f_69)), (a1, .inl (T 0, 12, .inl (upd g1 (le.toNatClampNeg) z_64))), (a2, .inl (T 0, 12, .inl (bf 2)))] hP hD rfl
                    obtain ⟨z_72, ez_72⟩ : ∃ y : Int32, y = le + 1 := ⟨_, rfl⟩
                    refine lv_iinc (v := z_72) (lv' := [(6, .int z_72), (9, .int 1), (8, .int z_64), (7, .int ii), (5, .int (bn 1)), (4, .ref t1), (0, .ref h0), (1, .int 1), (2, .int 0), (3, .int x3)]) hx hb dX12_pour_144 hl (k := 3) rfl (by rw [ez_72]; rfl) (by decide +kernel) rfl (fun ls hl => ?_)
                    obtain ⟨z_73, ez_73⟩ : ∃ y : Int32, y = ii + 1 := ⟨_, rfl⟩
                    refine lv_iinc (v := z_73) (lv' := [(7, .int z_73), (6, .int z_72), (9, .int 1), (8, .int z_64), (5, .int (bn 1)), (4, .ref t1), (0, .ref h0), (1, .int 1), (2, .int 0), (3, .int x3)]) hx hb dX12_pour_147 hl (k := 3) rfl (by rw [ez_73]; rfl) (by decide +kernel) rfl (fun ls hl => ?_)
                    have hi9 : z_73.toInt = ii.toInt + 1 := by rw [ez_73]; exact inc1 (n := 1000) (by omega) (by decide +kernel)
                    have hl9 : z_72.toInt = le.toInt + 1 := by rw [ez_72]; exact inc1 (n := 1000) (by omega) (by decide +kernel)
                    refine lv_goto (tgt := 57) hx hb dX12_pour_150 (by decide +kernel) ?_
                    exact ih (z_73, z_72, n_68, (upd g1 (le.toNatClampNeg) z_64), f_69) ls _ _ ⟨lv_sub hl [0, 1, 4, 5, 6, 7, 8, 9] rfl, hP.sub [0, 1, 2, 3, 4, 5, 6, 7, 8, 9] rfl, hD.sub [0, 1, 2, 3, 4, 5, 6, 7, 8, 9] (by decide +kernel) rfl, hS, ⟨(by (try dsimp only); omega), (by (try dsimp only); exact pour_stepN (by omega) (by omega) hi9 hp1 hp2 hp3 hp4 hzF (fun h9 => by first | exact hM h9.1 | omega) hl9 rfl (by rw [(hap.2 (by omega)).1]) (hap.2 (by omega)).2)⟩⟩ (by (try dsimp only); omega)
                · rw [fa_eq] at c_65
                  try rw [ti_n1] at c_65
                  refine lv_aload_n hx hb dX12_pour_79 rfl (lv_at hl 5 rfl) ?_
                  refine va_get (D := D) (ci := 9) (v := .ref h2) (C := RX12) (T := TX12) (N := 11) hx hb hts in_X12_pour_X12 hown hE.1 hP 0 rfl rfl 4 (by decide +kernel) (hts (.fieldLink RX12 32 "ClauseBook" "clauses" "LClauseBook$Clauses;") (List.mem_of_getElem? (i := 4) rfl)) (fun _ h9 => h9) e0_4 dX12_pour_80 ?_
                  refine lv_iload hx hb dX12_pour_83 (lv_at hl 0 rfl) ?_
                  refine vp_callSi (W.runV (As := [.int z_64]) (rest := []) ⟨hx, hb, hml, hown, hts⟩ (c_X2_has l D T h2 fs2 z_64 n9 e2_0 (by omega)) (cwV 1 hts gX12_pour_X2_has rfl rfl rfl hv_X2_has ⟨Nat.le_of_ble_eq_true rfl, Nat.le_of_ble_eq_true rfl⟩) (pR_V (q := (RX2, TX2, 8)) (ci := 1) (q0 := 2) hP hE rfl rfl [2] rfl) rfl rfl hl.1 rfl (lv_room (Nat.le_of_ble_eq_true rfl)) dX12_pour_85 ⟨Nat.le_of_ble_eq_true rfl, Nat.le_of_ble_eq_true rfl⟩) (fun r_74 hr_74 => ?_)
                  rcases bool_post hr_74 with ⟨c_75, rfl⟩ | ⟨c_75, rfl⟩
                  · refine lv_if_eq (tgt := 109) hx hb dX12_pour_88 (by decide +kernel) (fun c9 => absurd c9 (by decide +kernel)) (fun _ => ?_)
                    refine lv_aload_n hx hb dX12_pour_91 rfl (lv_at hl 5 rfl) ?_
                    refine va_get (D := D) (ci := 9) (v := .ref h2) (C := RX12) (T := TX12) (N := 11) hx hb hts in_X12_pour_X12 hown hE.1 hP 0 rfl rfl 4 (by decide +kernel) (hts (.fieldLink RX12 32 "ClauseBook" "clauses" "LClauseBook$Clauses;") (List.mem_of_getElem? (i := 4) rfl)) (fun _ h9 => h9) e0_4 dX12_pour_92 ?_
                    refine va_get (D := D) (ci := 1) (v := .ref h4) (C := RX2) (T := TX2) (N := 8) hx hb hts in_X12_pour_X2 hown hE.1 hP 2 rfl rfl 1 (by decide +kernel) (hts (.fieldLink RX12 153 "ClauseBook$Clauses" "kind" "[I") (List.mem_of_getElem? (i := 5) rfl)) (fun _ h9 => h9) e2_1 dX12_pour_95 ?_
                    refine lv_iload hx hb dX12_pour_98 (lv_at hl 0 rfl) ?_
                    refine va_iald hx hb hE.1 hP 3 0 rfl rfl (by rw [vp_in_iff]; first | omega | (subst_vars; rw [dec1 (by omega)]; omega) | (subst_vars; rw [inc1 (n := 1000) (by omega) (by decide +kernel)]; omega)) dX12_pour_100 ?_
                    refine lv_topi (fun z_76 ez_76 => ?_)
                    refine lv_iload_n hx hb dX12_pour_101 rfl (lv_at hl 8 rfl) ?_
                    refine lv_icmp_ne (tgt := 109) hx hb dX12_pour_102 (by decide +kernel) (fun c_77 => ?_) (fun c_77 => ?_)
                    · rw [fa_eq] at c_77
                      refine lv_iconst (v := 0) hx hb dX12_pour_109 (by decide +kernel) ?_
                      refine lv_istore (lv' := [(9, .int 0), (8, .int z_64), (7, .int ii), (6, .int le), (5, .int (bn 1)), (4, .ref t1), (0, .ref h0), (1, .int 1), (2, .int 0), (3, .int x3)]) hx hb dX12_pour_110 hl (by decide +kernel) rfl (fun ls hl => ?_)
                      have hM : ¬ prP x3 n9 fk z_64 = true := fun h9 => by rcases of_decide_eq_true h9 with h8 | ⟨h8, h7⟩ <;> first | omega | (rw [← ez_76] at h7; omega)
                      refine lv_iload hx hb dX12_pour_112 (lv_at hl 0 rfl) ?_
                      refine lv_if_eq (tgt := 134) hx hb dX12_pour_114 (by decide +kernel) (fun _ => ?_) (fun c9 => absurd c9 (by decide +kernel))
                      refine lv_aload hx hb dX12_pour_134 (lv_at hl 5 rfl) ?_
                      refine va_get (D := D) (ci := 0) (v := .ref a1) (C := RX1) (T := TX1) (N := 2) hx hb hts in_X12_pour_X1 hown hE.1 hP 5 rfl rfl 1 (by decide +kernel) (hts (.fieldLink RX12 308 "ClauseBook$Bag" "numbers" "[I") (List.mem_of_getElem? (i := 3) rfl)) (fun _ h9 => h9) rfl dX12_pour_136 ?_
                      refine lv_iload hx hb dX12_pour_139 (lv_at hl 3 rfl) ?_
                      refine lv_iload hx hb dX12_pour_141 (lv_at hl 1 rfl) ?_
                      refine va_iast hx hb hE.1 hP hD hS 8 0 rfl rfl (by rw [vp_in_iff]; first | omega | (subst_vars; rw [dec1 (by omega)]; omega) | (subst_vars; rw [inc1 (n := 1000) (by omega) (by decide +kernel)]; omega)) dX12_pour_143 (fun H locs hP hD hS => ?_)
                      obtain ⟨hP, hD⟩ := wPD [(h0, .inr (9, fs0)), (h1, .inl (T 5, 3, .inr (.inr (.inr (.inr (va_up (va_up (va_up (fun _ => none) 0 (some t0)) 1 (some t1)) 2 (some t2))))))), (h2, .inr (1, fs2)), (h4, .inl (T 0, 24, .inl fk)), (t0, .inr (0, [.int qq, .ref a0])), (t1, .inr (0, [.int (bn 1), .ref a1])), (t2, .inr (0, [.int (bn 2), .ref a2])), (a0, .inl (T 0, 12, .inl g0)), (a1, .inl (T 0, 12, .inl (upd g1 (le.toNatClampNeg) z_64))), (a2, .inl (T 0, 12, .inl (bf 2)))] hP hD rfl
                      obtain ⟨z_78, ez_78⟩ : ∃ y : Int32, y = le + 1 := ⟨_, rfl⟩
                      refine lv_iinc (v := z_78) (lv' := [(6, .int z_78), (9, .int 0), (8, .int z_64), (7, .int ii), (5, .int (bn 1)), (4, .ref t1), (0, .ref h0), (1, .int 1), (2, .int 0), (3, .int x3)]) hx hb dX12_pour_144 hl (k := 3) rfl (by rw [ez_78]; rfl) (by decide +kernel) rfl (fun ls hl => ?_)
                      obtain ⟨z_79, ez_79⟩ : ∃ y : Int32, y = ii + 1 := ⟨_, rfl⟩
                      refine lv_iinc (v := z_79) (lv' := [(7, .int z_79), (6, .int z_78), (9, .int 0), (8, .int z_64), (5, .int (bn 1)), (4, .ref t1), (0, .ref h0), (1, .int 1), (2, .int 0), (3, .int x3)]) hx hb dX12_pour_147 hl (k := 3) rfl (by rw [ez_79]; rfl) (by decide +kernel) rfl (fun ls hl => ?_)
                      have hi9 : z_79.toInt = ii.toInt + 1 := by rw [ez_79]; exact inc1 (n := 1000) (by omega) (by decide +kernel)
                      have hl9 : z_78.toInt = le.toInt + 1 := by rw [ez_78]; exact inc1 (n := 1000) (by omega) (by decide +kernel)
                      refine lv_goto (tgt := 57) hx hb dX12_pour_150 (by decide +kernel) ?_
                      exact ih (z_79, z_78, qq, (upd g1 (le.toNatClampNeg) z_64), g0) ls _ _ ⟨lv_sub hl [0, 1, 4, 5, 6, 7, 8, 9] rfl, hP.sub [0, 1, 2, 3, 4, 5, 6, 7, 8, 9] rfl, hD.sub [0, 1, 2, 3, 4, 5, 6, 7, 8, 9] (by decide +kernel) rfl, hS, ⟨(by (try dsimp only); omega), (by (try dsimp only); exact pour_stepN (by omega) (by omega) hi9 hp1 hp2 hp3 hp4 hzF (fun h9 => by first | exact hM h9.1 | omega) hl9 rfl rfl rfl)⟩⟩ (by (try dsimp only); omega)
                    · rw [fa_eq] at c_77
                      refine lv_iconst (v := 1) hx hb dX12_pour_105 (by decide +kernel) ?_
                      refine lv_goto (tgt := 110) hx hb dX12_pour_106 (by decide +kernel) ?_
                      refine lv_istore (lv' := [(9, .int 1), (8, .int z_64), (7, .int ii), (6, .int le), (5, .int (bn 1)), (4, .ref t1), (0, .ref h0), (1, .int 1), (2, .int 0), (3, .int x3)]) hx hb dX12_pour_110 hl (by decide +kernel) rfl (fun ls hl => ?_)
                      have hM : prP x3 n9 fk z_64 = true := decide_eq_true (by first | exact Or.inl (by omega) | exact Or.inr ⟨(by omega), (by rw [← ez_76]; omega)⟩)
                      refine lv_iload hx hb dX12_pour_112 (lv_at hl 0 rfl) ?_
                      refine lv_if_eq (tgt := 134) hx hb dX12_pour_114 (by decide +kernel) (fun c9 => absurd c9 (by decide +kernel)) (fun _ => ?_)
                      refine lv_aload_n hx hb dX12_pour_117 rfl (lv_at hl 6 rfl) ?_
                      refine va_get (D := D) (ci := 9) (v := .ref h1) (C := RX12) (T := TX12) (N := 11) hx hb hts in_X12_pour_X12 hown hE.1 hP 0 rfl rfl 5 (by decide +kernel) (hts (.fieldLink RX12 37 "ClauseBook" "bags" "[LClauseBook$Bag;") (List.mem_of_getElem? (i := 1) rfl)) (fun _ h9 => h9) e0_5 dX12_pour_118 ?_
                      refine lv_iload_n hx hb dX12_pour_121 rfl (lv_at hl 8 rfl) ?_
                      refine va_aldq hx hb hE.1 hP 1 5 rfl rfl (by unfold vp_in; decide) dX12_pour_122 ?_
                      refine W.eq (g2 := F0 m 123 ls [.ref t0]) rfl ?_
                      refine lv_iload hx hb dX12_pour_123 (lv_at hl 1 rfl) ?_
                      have hFc := va_free (wc := [(t0, .inr (0, [.int qq, .ref a0])), (a0, .inl (T 0, 12, .inl g0))]) hD hS hA [4, 7] rfl
                      refine va_calli (va_runV (As := [.int z_64]) (rest := []) ⟨hx, hb, hml, hown, hts⟩ (c_X1_append l D T _ t0 qq a0 g0 z_64 (by omega)) (cwV 1 hts gX12_pour_X1_append rfl rfl rfl hv_X1_append ⟨Nat.le_of_ble_eq_true rfl, Nat.le_of_ble_eq_true rfl⟩) (pW_V (q := (RX1, TX1, 2)) (ci := 0) (q0 := 4) hP hE hD rfl rfl [4, 7] (by decide +kernel) rfl rfl) rfl rfl hl.1 rfl (lv_room (Nat.le_of_ble_eq_true rfl)) dX12_pour_125 ⟨Nat.le_of_ble_eq_true rfl, Nat.le_of_ble_eq_true rfl⟩) hS (fun q _ h => hFc q h) hFc (fun r_80 u_81 t H1 locs ht hvm hr_80 hB hz1 hk1 hS => ?_)
                      obtain ⟨n_82, f_83⟩ := u_81
                      have hinn_82 : 0 ≤ n_82.toInt ∧ n_82.toInt ≤ 12 := hr_80.2.1
                      have hap : ((qq).toInt < 12 → n_82.toInt = (qq).toInt + 1 ∧ f_83 = upd g0 ((qq).toNatClampNeg) z_64) ∧ (¬ (qq).toInt < 12 → n_82 = qq ∧ f_83 = g0) := hr_80.2.2
                      have hbo : r_80 = if (qq).toInt < 12 then 1 else 0 := hr_80.1
                      obtain ⟨hP1, hD1⟩ := hB
                      rw [ht] at hP1
                      obtain ⟨hP, hD⟩ := va_repl [(h0, .inr (9, fs0)), (h1, .inl (T 5, 3, .inr (.inr (.inr (.inr (va_up (va_up (va_up (fun _ => none) 0 (some t0)) 1 (some t1)) 2 (some t2))))))), (h2, .inr (1, fs2)), (h4, .inl (T 0, 24, .inl fk)), (t0, .inr (0, [.int n_82, .ref a0])), (t1, .inr (0, [.int (bn 1), .ref a1])), (t2, .inr (0, [.int (bn 2), .ref a2])), (a0, .inl (T 0, 12, .inl f_83)), (a1, .inl (T 0, 12, .inl g1)), (a2, .inl (T 0, 12, .inl (bf 2)))] hP hD [4, 7] [4, 7] rfl (by decide +kernel) rfl rfl rfl hk1 hP1
                      clear hP1 hD1 hFc
                      generalize H1 = H at hP hS ⊢
                      rcases bool_post hbo with ⟨c_84, rfl⟩ | ⟨c_84, rfl⟩
                      · refine lv_if_eq (tgt := 134) hx hb dX12_pour_128 (by decide +kernel) (fun c9 => absurd c9 (by decide +kernel)) (fun _ => ?_)
                        refine lv_goto (tgt := 147) hx hb dX12_pour_131 (by decide +kernel) ?_
                        obtain ⟨z_85, ez_85⟩ : ∃ y : Int32, y = ii + 1 := ⟨_, rfl⟩
                        refine lv_iinc (v := z_85) (lv' := [(7, .int z_85), (9, .int 1), (8, .int z_64), (6, .int le), (5, .int (bn 1)), (4, .ref t1), (0, .ref h0), (1, .int 1), (2, .int 0), (3, .int x3)]) hx hb dX12_pour_147 hl (k := 2) rfl (by rw [ez_85]; rfl) (by decide +kernel) rfl (fun ls hl => ?_)
                        have hi9 : z_85.toInt = ii.toInt + 1 := by rw [ez_85]; exact inc1 (n := 1000) (by omega) (by decide +kernel)
                        refine lv_goto (tgt := 57) hx hb dX12_pour_150 (by decide +kernel) ?_
                        exact ih (z_85, le, n_82, g1, f_83) ls _ _ ⟨lv_sub hl [0, 3, 4, 5, 6, 7, 8, 9] rfl, hP.sub [0, 1, 2, 3, 4, 5, 6, 7, 8, 9] rfl, hD.sub [0, 1, 2, 3, 4, 5, 6, 7, 8, 9] (by decide +kernel) rfl, hS, ⟨(by (try dsimp only); omega), (by (try dsimp only); exact pour_stepY (by omega) hi9 hp1 hp2 hp3 hp4 hzF hM (by omega) (hap.1 (by omega)).1 (hap.1 (by omega)).2)⟩⟩ (by (try dsimp only); omega)
                      · refine lv_if_eq (tgt := 134) hx hb dX12_pour_128 (by decide +kernel) (fun _ => ?_) (fun c9 => absurd c9 (by decide +kernel))
                        refine lv_aload hx hb dX12_pour_134 (lv_at hl 5 rfl) ?_
                        refine va_get (D := D) (ci := 0) (v := .ref a1) (C := RX1) (T := TX1) (N := 2) hx hb hts in_X12_pour_X1 hown hE.1 hP 5 rfl rfl 1 (by decide +kernel) (hts (.fieldLink RX12 308 "ClauseBook$Bag" "numbers" "[I") (List.mem_of_getElem? (i := 3) rfl)) (fun _ h9 => h9) rfl dX12_pour_136 ?_
                        refine lv_iload hx hb dX12_pour_139 (lv_at hl 3 rfl) ?_
                        refine lv_iload hx hb dX12_pour_141 (lv_at hl 1 rfl) ?_
                        refine va_iast hx hb hE.1 hP hD hS 8 0 rfl rfl (by rw [vp_in_iff]; first | omega | (subst_vars; rw [dec1 (by omega)]; omega) | (subst_vars; rw [inc1 (n := 1000) (by omega) (by decide +kernel)]; omega)) dX12_pour_143 (fun H locs hP hD hS => ?_)
                        obtain ⟨hP, hD⟩ := wPD [(h0, .inr (9, fs0)), (h1, .inl (T 5, 3, .inr (.inr (.inr (.inr (va_up (va_up (va_up (fun _ => none) 0 (some t0)) 1 (some t1)) 2 (some t2))))))), (h2, .inr (1, fs2)), (h4, .inl (T 0, 24, .inl fk)), (t0, .inr (0, [.int n_82, .ref a0])), (t1, .inr (0, [.int (bn 1), .ref a1])), (t2, .inr (0, [.int (bn 2), .ref a2])), (a0, .inl (T 0, 12, .inl f_83)), (a1, .inl (T 0, 12, .inl (upd g1 (le.toNatClampNeg) z_64))), (a2, .inl (T 0, 12, .inl (bf 2)))] hP hD rfl
                        obtain ⟨z_86, ez_86⟩ : ∃ y : Int32, y = le + 1 := ⟨_, rfl⟩
                        refine lv_iinc (v := z_86) (lv' := [(6, .int z_86), (9, .int 1), (8, .int z_64), (7, .int ii), (5, .int (bn 1)), (4, .ref t1), (0, .ref h0), (1, .int 1), (2, .int 0), (3, .int x3)]) hx hb dX12_pour_144 hl (k := 3) rfl (by rw [ez_86]; rfl) (by decide +kernel) rfl (fun ls hl => ?_)
                        obtain ⟨z_87, ez_87⟩ : ∃ y : Int32, y = ii + 1 := ⟨_, rfl⟩
                        refine lv_iinc (v := z_87) (lv' := [(7, .int z_87), (6, .int z_86), (9, .int 1), (8, .int z_64), (5, .int (bn 1)), (4, .ref t1), (0, .ref h0), (1, .int 1), (2, .int 0), (3, .int x3)]) hx hb dX12_pour_147 hl (k := 3) rfl (by rw [ez_87]; rfl) (by decide +kernel) rfl (fun ls hl => ?_)
                        have hi9 : z_87.toInt = ii.toInt + 1 := by rw [ez_87]; exact inc1 (n := 1000) (by omega) (by decide +kernel)
                        have hl9 : z_86.toInt = le.toInt + 1 := by rw [ez_86]; exact inc1 (n := 1000) (by omega) (by decide +kernel)
                        refine lv_goto (tgt := 57) hx hb dX12_pour_150 (by decide +kernel) ?_
                        exact ih (z_87, z_86, n_82, (upd g1 (le.toNatClampNeg) z_64), f_83) ls _ _ ⟨lv_sub hl [0, 1, 4, 5, 6, 7, 8, 9] rfl, hP.sub [0, 1, 2, 3, 4, 5, 6, 7, 8, 9] rfl, hD.sub [0, 1, 2, 3, 4, 5, 6, 7, 8, 9] (by decide +kernel) rfl, hS, ⟨(by (try dsimp only); omega), (by (try dsimp only); exact pour_stepN (by omega) (by omega) hi9 hp1 hp2 hp3 hp4 hzF (fun h9 => by first | exact hM h9.1 | omega) hl9 rfl (by rw [(hap.2 (by omega)).1]) (hap.2 (by omega)).2)⟩⟩ (by (try dsimp only); omega)
                  · refine lv_if_eq (tgt := 109) hx hb dX12_pour_88 (by decide +kernel) (fun _ => ?_) (fun c9 => absurd c9 (by decide +kernel))
                    refine lv_iconst (v := 0) hx hb dX12_pour_109 (by decide +kernel) ?_
                    refine lv_istore (lv' := [(9, .int 0), (8, .int z_64), (7, .int ii), (6, .int le), (5, .int (bn 1)), (4, .ref t1), (0, .ref h0), (1, .int 1), (2, .int 0), (3, .int x3)]) hx hb dX12_pour_110 hl (by decide +kernel) rfl (fun ls hl => ?_)
                    have hM : ¬ prP x3 n9 fk z_64 = true := fun h9 => by rcases of_decide_eq_true h9 with h8 | ⟨h8, h7⟩ <;> first | omega | (rw [← ez_76] at h7; omega)
                    refine lv_iload hx hb dX12_pour_112 (lv_at hl 0 rfl) ?_
                    refine lv_if_eq (tgt := 134) hx hb dX12_pour_114 (by decide +kernel) (fun _ => ?_) (fun c9 => absurd c9 (by decide +kernel))
                    refine lv_aload hx hb dX12_pour_134 (lv_at hl 5 rfl) ?_
                    refine va_get (D := D) (ci := 0) (v := .ref a1) (C := RX1) (T := TX1) (N := 2) hx hb hts in_X12_pour_X1 hown hE.1 hP 5 rfl rfl 1 (by decide +kernel) (hts (.fieldLink RX12 308 "ClauseBook$Bag" "numbers" "[I") (List.mem_of_getElem? (i := 3) rfl)) (fun _ h9 => h9) rfl dX12_pour_136 ?_
                    refine lv_iload hx hb dX12_pour_139 (lv_at hl 3 rfl) ?_
                    refine lv_iload hx hb dX12_pour_141 (lv_at hl 1 rfl) ?_
                    refine va_iast hx hb hE.1 hP hD hS 8 0 rfl rfl (by rw [vp_in_iff]; first | omega | (subst_vars; rw [dec1 (by omega)]; omega) | (subst_vars; rw [inc1 (n := 1000) (by omega) (by decide +kernel)]; omega)) dX12_pour_143 (fun H locs hP hD hS => ?_)
                    obtain ⟨hP, hD⟩ := wPD [(h0, .inr (9, fs0)), (h1, .inl (T 5, 3, .inr (.inr (.inr (.inr (va_up (va_up (va_up (fun _ => none) 0 (some t0)) 1 (some t1)) 2 (some t2))))))), (h2, .inr (1, fs2)), (h4, .inl (T 0, 24, .inl fk)), (t0, .inr (0, [.int qq, .ref a0])), (t1, .inr (0, [.int (bn 1), .ref a1])), (t2, .inr (0, [.int (bn 2), .ref a2])), (a0, .inl (T 0, 12, .inl g0)), (a1, .inl (T 0, 12, .inl (upd g1 (le.toNatClampNeg) z_64))), (a2, .inl (T 0, 12, .inl (bf 2)))] hP hD rfl
                    obtain ⟨z_88, ez_88⟩ : ∃ y : Int32, y = le + 1 := ⟨_, rfl⟩
                    refine lv_iinc (v := z_88) (lv' := [(6, .int z_88), (9, .int 0), (8, .int z_64), (7, .int ii), (5, .int (bn 1)), (4, .ref t1), (0, .ref h0), (1, .int 1), (2, .int 0), (3, .int x3)]) hx hb dX12_pour_144 hl (k := 3) rfl (by rw [ez_88]; rfl) (by decide +kernel) rfl (fun ls hl => ?_)
                    obtain ⟨z_89, ez_89⟩ : ∃ y : Int32, y = ii + 1 := ⟨_, rfl⟩
                    refine lv_iinc (v := z_89) (lv' := [(7, .int z_89), (6, .int z_88), (9, .int 0), (8, .int z_64), (5, .int (bn 1)), (4, .ref t1), (0, .ref h0), (1, .int 1), (2, .int 0), (3, .int x3)]) hx hb dX12_pour_147 hl (k := 3) rfl (by rw [ez_89]; rfl) (by decide +kernel) rfl (fun ls hl => ?_)
                    have hi9 : z_89.toInt = ii.toInt + 1 := by rw [ez_89]; exact inc1 (n := 1000) (by omega) (by decide +kernel)
                    have hl9 : z_88.toInt = le.toInt + 1 := by rw [ez_88]; exact inc1 (n := 1000) (by omega) (by decide +kernel)
                    refine lv_goto (tgt := 57) hx hb dX12_pour_150 (by decide +kernel) ?_
                    exact ih (z_89, z_88, qq, (upd g1 (le.toNatClampNeg) z_64), g0) ls _ _ ⟨lv_sub hl [0, 1, 4, 5, 6, 7, 8, 9] rfl, hP.sub [0, 1, 2, 3, 4, 5, 6, 7, 8, 9] rfl, hD.sub [0, 1, 2, 3, 4, 5, 6, 7, 8, 9] (by decide +kernel) rfl, hS, ⟨(by (try dsimp only); omega), (by (try dsimp only); exact pour_stepN (by omega) (by omega) hi9 hp1 hp2 hp3 hp4 hzF (fun h9 => by first | exact hM h9.1 | omega) hl9 rfl rfl rfl)⟩⟩ (by (try dsimp only); omega)
            · omega
            · refine lv_aload_n hx hb dX12_pour_36 rfl (lv_at hl 0 rfl) ?_
              refine va_get (D := D) (ci := 9) (v := .ref h1) (C := RX12) (T := TX12) (N := 11) hx hb hts in_X12_pour_X12 hown hE.1 hP 0 rfl rfl 5 (by decide +kernel) (hts (.fieldLink RX12 37 "ClauseBook" "bags" "[LClauseBook$Bag;") (List.mem_of_getElem? (i := 1) rfl)) (fun _ h9 => h9) e0_5 dX12_pour_37 ?_
              refine lv_iload_n hx hb dX12_pour_40 rfl (lv_at hl 1 rfl) ?_
              refine va_aldq hx hb hE.1 hP 1 5 rfl rfl (by unfold vp_in; decide) dX12_pour_41 ?_
              refine W.eq (g2 := F0 m 42 ls [.ref t1]) rfl ?_
              refine lv_astore (lv' := [(4, .ref t1), (0, .ref h0), (1, .int 1), (2, .int 2), (3, .int x3)]) hx hb dX12_pour_42 hl (by decide +kernel) rfl (fun ls hl => ?_)
              refine lv_aload hx hb dX12_pour_44 (lv_at hl 0 rfl) ?_
              refine va_get (D := D) (ci := 0) (v := .int (bn 1)) (C := RX1) (T := TX1) (N := 2) hx hb hts in_X12_pour_X1 hown hE.1 hP 5 rfl rfl 0 (by decide +kernel) (hts (.fieldLink RX12 307 "ClauseBook$Bag" "size" "I") (List.mem_of_getElem? (i := 2) rfl)) (fun _ h9 => h9) rfl dX12_pour_46 ?_
              refine lv_istore (lv' := [(5, .int (bn 1)), (4, .ref t1), (0, .ref h0), (1, .int 1), (2, .int 2), (3, .int x3)]) hx hb dX12_pour_49 hl (by decide +kernel) rfl (fun ls hl => ?_)
              refine lv_iconst (v := 0) hx hb dX12_pour_51 (by decide +kernel) ?_
              refine lv_istore (lv' := [(6, .int 0), (5, .int (bn 1)), (4, .ref t1), (0, .ref h0), (1, .int 1), (2, .int 2), (3, .int x3)]) hx hb dX12_pour_52 hl (by decide +kernel) rfl (fun ls hl => ?_)
              refine lv_iconst (v := 0) hx hb dX12_pour_54 (by decide +kernel) ?_
              refine lv_istore (lv' := [(7, .int 0), (6, .int 0), (5, .int (bn 1)), (4, .ref t1), (0, .ref h0), (1, .int 1), (2, .int 2), (3, .int x3)]) hx hb dX12_pour_55 hl (by decide +kernel) rfl (fun ls hl => ?_)
              refine loopW (σ := (Int32) × (Int32) × (Int32) × (Nat → Int32) × (Nat → Int32)) (fun x9 ls H locs => lv_has ls 10 [(7, .int x9.1), (6, .int x9.2.1), (5, .int (bn 1)), (4, .ref t1), (0, .ref h0), (1, .int 1), (2, .int 2), (3, .int x3)] ∧ va_P D vwCl [(h0, .inr (9, fs0)), (h1, .inl (T 5, 3, .inr (.inr (.inr (.inr (va_up (va_up (va_up (fun _ => none) 0 (some t0)) 1 (some t1)) 2 (some t2))))))), (h2, .inr (1, fs2)), (h4, .inl (T 0, 24, .inl fk)), (t0, .inr (0, [.int (bn 0), .ref a0])), (t1, .inr (0, [.int (bn 1), .ref a1])), (t2, .inr (0, [.int x9.2.2.1, .ref a2])), (a0, .inl (T 0, 12, .inl (bf 0))), (a1, .inl (T 0, 12, .inl x9.2.2.2.1)), (a2, .inl (T 0, 12, .inl x9.2.2.2.2))] H ∧ va_D A [(h0, .inr (9, fs0)), (h1, .inl (T 5, 3, .inr (.inr (.inr (.inr (va_up (va_up (va_up (fun _ => none) 0 (some t0)) 1 (some t1)) 2 (some t2))))))), (h2, .inr (1, fs2)), (h4, .inl (T 0, 24, .inl fk)), (t0, .inr (0, [.int (bn 0), .ref a0])), (t1, .inr (0, [.int (bn 1), .ref a1])), (t2, .inr (0, [.int x9.2.2.1, .ref a2])), (a0, .inl (T 0, 12, .inl (bf 0))), (a1, .inl (T 0, 12, .inl x9.2.2.2.1)), (a2, .inl (T 0, 12, .inl x9.2.2.2.2))] ∧ va_S A s.heap H locs ∧ (((0 ≤ x9.2.1.toInt ∧ x9.2.1.toInt ≤ x9.1.toInt ∧ x9.1.toInt ≤ (bn 1).toInt) ∧ 0 ≤ x9.2.2.1.toInt ∧ x9.2.2.1.toInt ≤ 12) ∧ x9.2.1.toInt = (pourF (prP x3 n9 fk) (bf 1) (bf 2) ((bn 2).toNatClampNeg) (x9.1.toNatClampNeg)).1 ∧ x9.2.2.2.1 = (pourF (prP x3 n9 fk) (bf 1) (bf 2) ((bn 2).toNatClampNeg) (x9.1.toNatClampNeg)).2.1 ∧ x9.2.2.1.toInt = (pourF (prP x3 n9 fk) (bf 1) (bf 2) ((bn 2).toNatClampNeg) (x9.1.toNatClampNeg)).2.2.1 ∧ x9.2.2.2.2 = (pourF (prP x3 n9 fk) (bf 1) (bf 2) ((bn 2).toNatClampNeg) (x9.1.toNatClampNeg)).2.2.2)) (fun x9 => (12 - x9.1.toInt).toNat) (fun x9 ls H locs hI ih => ?_) (0, 0, (bn 2), (bf 1), (bf 2)) ls ⟨lv_sub hl [0, 1, 2, 3, 4, 5, 6, 7] rfl, hP.sub [0, 1, 2, 3, 4, 5, 6, 7, 8, 9] rfl, hD.sub [0, 1, 2, 3, 4, 5, 6, 7, 8, 9] (by decide +kernel) rfl, hS, ⟨(by (try dsimp only); simp only [ti_0]; omega), (by (try dsimp only); rw [tn0']; rfl), (by (try dsimp only); rw [tn0']; rfl), (by (try dsimp only); rw [tn0']; exact (tn (by omega)).symm), (by (try dsimp only); rw [tn0']; rfl)⟩⟩
              obtain ⟨ii, le, qq, g1, g2⟩ := x9
              obtain ⟨hl, hP, hD, hS, hinv⟩ := hI
              have hl : lv_has ls 10 [(7, .int ii), (6, .int le), (5, .int (bn 1)), (4, .ref t1), (0, .ref h0), (1, .int 1), (2, .int 2), (3, .int x3)] := hl
              have hP : va_P D vwCl [(h0, .inr (9, fs0)), (h1, .inl (T 5, 3, .inr (.inr (.inr (.inr (va_up (va_up (va_up (fun _ => none) 0 (some t0)) 1 (some t1)) 2 (some t2))))))), (h2, .inr (1, fs2)), (h4, .inl (T 0, 24, .inl fk)), (t0, .inr (0, [.int (bn 0), .ref a0])), (t1, .inr (0, [.int (bn 1), .ref a1])), (t2, .inr (0, [.int qq, .ref a2])), (a0, .inl (T 0, 12, .inl (bf 0))), (a1, .inl (T 0, 12, .inl g1)), (a2, .inl (T 0, 12, .inl g2))] H := hP
              have hD : va_D A [(h0, .inr (9, fs0)), (h1, .inl (T 5, 3, .inr (.inr (.inr (.inr (va_up (va_up (va_up (fun _ => none) 0 (some t0)) 1 (some t1)) 2 (some t2))))))), (h2, .inr (1, fs2)), (h4, .inl (T 0, 24, .inl fk)), (t0, .inr (0, [.int (bn 0), .ref a0])), (t1, .inr (0, [.int (bn 1), .ref a1])), (t2, .inr (0, [.int qq, .ref a2])), (a0, .inl (T 0, 12, .inl (bf 0))), (a1, .inl (T 0, 12, .inl g1)), (a2, .inl (T 0, 12, .inl g2))] := hD
              have hinv : ((0 ≤ le.toInt ∧ le.toInt ≤ ii.toInt ∧ ii.toInt ≤ (bn 1).toInt) ∧ 0 ≤ qq.toInt ∧ qq.toInt ≤ 12) ∧ le.toInt = (pourF (prP x3 n9 fk) (bf 1) (bf 2) ((bn 2).toNatClampNeg) (ii.toNatClampNeg)).1 ∧ g1 = (pourF (prP x3 n9 fk) (bf 1) (bf 2) ((bn 2).toNatClampNeg) (ii.toNatClampNeg)).2.1 ∧ qq.toInt = (pourF (prP x3 n9 fk) (bf 1) (bf 2) ((bn 2).toNatClampNeg) (ii.toNatClampNeg)).2.2.1 ∧ g2 = (pourF (prP x3 n9 fk) (bf 1) (bf 2) ((bn 2).toNatClampNeg) (ii.toNatClampNeg)).2.2.2 := hinv
              obtain ⟨hinv, hp1, hp2, hp3, hp4⟩ := hinv
              refine lv_iload hx hb dX12_pour_57 (lv_at hl 0 rfl) ?_
              refine lv_iload hx hb dX12_pour_59 (lv_at hl 2 rfl) ?_
              refine lv_icmp_ge (tgt := 153) hx hb dX12_pour_61 (by decide +kernel) (fun c_90 => ?_) (fun c_90 => ?_)
              · rw [fa_le] at c_90
                have e9 : ii = (bn 1) := Int32.toInt_inj.1 (by omega)
                rw [e9] at hp1 hp2 hp3 hp4
                refine lv_aload hx hb dX12_pour_153 (lv_at hl 3 rfl) ?_
                refine lv_iload hx hb dX12_pour_155 (lv_at hl 1 rfl) ?_
                refine va_put (D := D) (ci := 0) (v := .int le) (ty := .int) (C := RX1) (T := TX1) (N := 2) hx hb hts in_X12_pour_X1 tyX1 tyX1_ok nmX1 hown hE.1 hP hD hS 5 rfl rfl 0 (by decide +kernel) (hts (.fieldLink RX12 307 "ClauseBook$Bag" "size" "I") (List.mem_of_getElem? (i := 2) rfl)) (fun _ h9 => h9) rfl (by decide +kernel) rfl rfl (Nat.le_of_ble_eq_true rfl) dX12_pour_157 (fun H locs hP hD hS => ?_)
                obtain ⟨hP, hD⟩ := wPD [(h0, .inr (9, fs0)), (h1, .inl (T 5, 3, .inr (.inr (.inr (.inr (va_up (va_up (va_up (fun _ => none) 0 (some t0)) 1 (some t1)) 2 (some t2))))))), (h2, .inr (1, fs2)), (h4, .inl (T 0, 24, .inl fk)), (t0, .inr (0, [.int (bn 0), .ref a0])), (t1, .inr (0, [.int le, .ref a1])), (t2, .inr (0, [.int qq, .ref a2])), (a0, .inl (T 0, 12, .inl (bf 0))), (a1, .inl (T 0, 12, .inl g1)), (a2, .inl (T 0, 12, .inl g2))] hP hD rfl
                refine lv_iload hx hb dX12_pour_160 (lv_at hl 2 rfl) ?_
                refine lv_iload hx hb dX12_pour_162 (lv_at hl 1 rfl) ?_
                refine lv_isub hx hb dX12_pour_164 ?_
                exact W.iret hx hb hr (fun t ht hW => ⟨⟨_, ((fun k => [(bn 0), le, qq].getD k 0), (fun k => [(bf 0), g1, g2].getD k (bf 0))), rfl, ⟨(show 0 ≤ ((bn 0)).toInt ∧ ((bn 0)).toInt ≤ 12 from by (try subst_vars); first | omega | (rw [dec1 (by omega)]; omega)), (show 0 ≤ (le).toInt ∧ (le).toInt ≤ 12 from by (try subst_vars); first | omega | (rw [dec1 (by omega)]; omega)), (show 0 ≤ (qq).toInt ∧ (qq).toInt ≤ 12 from by (try subst_vars); first | omega | (rw [dec1 (by omega)]; omega)), (Or.inr ⟨⟨⟨⟨by decide, by decide⟩, by decide, by decide⟩, by decide, by omega⟩, _, rfl, (show (((bn 1) - le) : Int32).toInt = (bn 1).toInt - (((pourF (prP x3 n9 fk) (bf 1) (bf 2) ((bn 2).toNatClampNeg) ((bn 1).toNatClampNeg)).1 : Nat) : Int) from by have h8 := hp1; rw [fb_subI (by omega) (by omega)]; omega), all3 ⟨(fun h9 => absurd h9 (by decide +kernel)), (fun h9 => absurd h9 (by decide +kernel)), (fun _ _ => ⟨rfl, rfl⟩)⟩ ⟨(fun _ => ⟨hp1, hp2⟩), (fun h9 => absurd h9 (by decide +kernel)), (fun h9 => absurd (by decide +kernel) h9)⟩ ⟨(fun h9 => absurd h9 (by decide +kernel)), (fun _ => ⟨hp3, hp4⟩), (fun _ h9 => absurd (by decide +kernel) h9)⟩⟩)⟩, by rw [ht]; exact hP.sub [0, 1, 2, 3, 4, 5, 6, 7, 8, 9] rfl, hD.sub [0, 1, 2, 3, 4, 5, 6, 7, 8, 9] (by decide +kernel) rfl⟩, hS.F ht⟩) hS.2.2 dX12_pour_165
              · rw [fa_le] at c_90
                refine lv_aload hx hb dX12_pour_64 (lv_at hl 3 rfl) ?_
                refine va_get (D := D) (ci := 0) (v := .ref a1) (C := RX1) (T := TX1) (N := 2) hx hb hts in_X12_pour_X1 hown hE.1 hP 5 rfl rfl 1 (by decide +kernel) (hts (.fieldLink RX12 308 "ClauseBook$Bag" "numbers" "[I") (List.mem_of_getElem? (i := 3) rfl)) (fun _ h9 => h9) rfl dX12_pour_66 ?_
                refine lv_iload hx hb dX12_pour_69 (lv_at hl 0 rfl) ?_
                refine va_iald hx hb hE.1 hP 8 0 rfl rfl (by rw [vp_in_iff]; first | omega | (subst_vars; rw [dec1 (by omega)]; omega) | (subst_vars; rw [inc1 (n := 1000) (by omega) (by decide +kernel)]; omega)) dX12_pour_71 ?_
                refine lv_topi (fun z_91 ez_91 => ?_)
                have hzF : z_91 = (bf 1) (ii.toNatClampNeg) := by rw [ez_91, hp2]; exact pourF_keep _ _ (by have h8 := tn (x := ii) (by omega); omega)
                refine lv_istore (lv' := [(8, .int z_91), (7, .int ii), (6, .int le), (5, .int (bn 1)), (4, .ref t1), (0, .ref h0), (1, .int 1), (2, .int 2), (3, .int x3)]) hx hb dX12_pour_72 hl (by decide +kernel) rfl (fun ls hl => ?_)
                refine lv_iload_n hx hb dX12_pour_74 rfl (lv_at hl 8 rfl) ?_
                refine lv_iconst (v := (-1)) hx hb dX12_pour_75 (by decide +kernel) ?_
                refine lv_icmp_eq (tgt := 105) hx hb dX12_pour_76 (by decide +kernel) (fun c_92 => ?_) (fun c_92 => ?_)
                · rw [fa_eq] at c_92
                  try rw [ti_n1] at c_92
                  refine lv_iconst (v := 1) hx hb dX12_pour_105 (by decide +kernel) ?_
                  refine lv_goto (tgt := 110) hx hb dX12_pour_106 (by decide +kernel) ?_
                  refine lv_istore (lv' := [(9, .int 1), (8, .int z_91), (7, .int ii), (6, .int le), (5, .int (bn 1)), (4, .ref t1), (0, .ref h0), (1, .int 1), (2, .int 2), (3, .int x3)]) hx hb dX12_pour_110 hl (by decide +kernel) rfl (fun ls hl => ?_)
                  have hM : prP x3 n9 fk z_91 = true := decide_eq_true (by first | exact Or.inl (by omega) | exact Or.inr ⟨(by omega), (by rw [← ez_76]; omega)⟩)
                  refine lv_iload hx hb dX12_pour_112 (lv_at hl 0 rfl) ?_
                  refine lv_if_eq (tgt := 134) hx hb dX12_pour_114 (by decide +kernel) (fun c9 => absurd c9 (by decide +kernel)) (fun _ => ?_)
                  refine lv_aload_n hx hb dX12_pour_117 rfl (lv_at hl 6 rfl) ?_
                  refine va_get (D := D) (ci := 9) (v := .ref h1) (C := RX12) (T := TX12) (N := 11) hx hb hts in_X12_pour_X12 hown hE.1 hP 0 rfl rfl 5 (by decide +kernel) (hts (.fieldLink RX12 37 "ClauseBook" "bags" "[LClauseBook$Bag;") (List.mem_of_getElem? (i := 1) rfl)) (fun _ h9 => h9) e0_5 dX12_pour_118 ?_
                  refine lv_iload_n hx hb dX12_pour_121 rfl (lv_at hl 8 rfl) ?_
                  refine va_aldq hx hb hE.1 hP 1 5 rfl rfl (by unfold vp_in; decide) dX12_pour_122 ?_
                  refine W.eq (g2 := F0 m 123 ls [.ref t2]) rfl ?_
                  refine lv_iload hx hb dX12_pour_123 (lv_at hl 1 rfl) ?_
                  have hFc := va_free (wc := [(t2, .inr (0, [.int qq, .ref a2])), (a2, .inl (T 0, 12, .inl g2))]) hD hS hA [6, 9] rfl
                  refine va_calli (va_runV (As := [.int z_91]) (rest := []) ⟨hx, hb, hml, hown, hts⟩ (c_X1_append l D T _ t2 qq a2 g2 z_91 (by omega)) (cwV 1 hts gX12_pour_X1_append rfl rfl rfl hv_X1_append ⟨Nat.le_of_ble_eq_true rfl, Nat.le_of_ble_eq_true rfl⟩) (pW_V (q := (RX1, TX1, 2)) (ci := 0) (q0 := 6) hP hE hD rfl rfl [6, 9] (by decide +kernel) rfl rfl) rfl rfl hl.1 rfl (lv_room (Nat.le_of_ble_eq_true rfl)) dX12_pour_125 ⟨Nat.le_of_ble_eq_true rfl, Nat.le_of_ble_eq_true rfl⟩) hS (fun q _ h => hFc q h) hFc (fun r_93 u_94 t H1 locs ht hvm hr_93 hB hz1 hk1 hS => ?_)
                  obtain ⟨n_95, f_96⟩ := u_94
                  have hinn_95 : 0 ≤ n_95.toInt ∧ n_95.toInt ≤ 12 := hr_93.2.1
                  have hap : ((qq).toInt < 12 → n_95.toInt = (qq).toInt + 1 ∧ f_96 = upd g2 ((qq).toNatClampNeg) z_91) ∧ (¬ (qq).toInt < 12 → n_95 = qq ∧ f_96 = g2) := hr_93.2.2
                  have hbo : r_93 = if (qq).toInt < 12 then 1 else 0 := hr_93.1
                  obtain ⟨hP1, hD1⟩ := hB
                  rw [ht] at hP1
                  obtain ⟨hP, hD⟩ := va_repl [(h0, .inr (9, fs0)), (h1, .inl (T 5, 3, .inr (.inr (.inr (.inr (va_up (va_up (va_up (fun _ => none) 0 (some t0)) 1 (some t1)) 2 (some t2))))))), (h2, .inr (1, fs2)), (h4, .inl (T 0, 24, .inl fk)), (t0, .inr (0, [.int (bn 0), .ref a0])), (t1, .inr (0, [.int (bn 1), .ref a1])), (t2, .inr (0, [.int n_95, .ref a2])), (a0, .inl (T 0, 12, .inl (bf 0))), (a1, .inl (T 0, 12, .inl g1)), (a2, .inl (T 0, 12, .inl f_96))] hP hD [6, 9] [6, 9] rfl (by decide +kernel) rfl rfl rfl hk1 hP1
                  clear hP1 hD1 hFc
                  generalize H1 = H at hP hS ⊢
                  rcases bool_post hbo with ⟨c_97, rfl⟩ | ⟨c_97, rfl⟩
                  · refine lv_if_eq (tgt := 134) hx hb dX12_pour_128 (by decide +kernel) (fun c9 => absurd c9 (by decide +kernel)) (fun _ => ?_)
                    refine lv_goto (tgt := 147) hx hb dX12_pour_131 (by decide +kernel) ?_
                    obtain ⟨z_98, ez_98⟩ : ∃ y : Int32, y = ii + 1 := ⟨_, rfl⟩
                    refine lv_iinc (v := z_98) (lv' := [(7, .int z_98), (9, .int 1), (8, .int z_91), (6, .int le), (5, .int (bn 1)), (4, .ref t1), (0, .ref h0), (1, .int 1), (2, .int 2), (3, .int x3)]) hx hb dX12_pour_147 hl (k := 2) rfl (by rw [ez_98]; rfl) (by decide +kernel) rfl (fun ls hl => ?_)
                    have hi9 : z_98.toInt = ii.toInt + 1 := by rw [ez_98]; exact inc1 (n := 1000) (by omega) (by decide +kernel)
                    refine lv_goto (tgt := 57) hx hb dX12_pour_150 (by decide +kernel) ?_
                    exact ih (z_98, le, n_95, g1, f_96) ls _ _ ⟨lv_sub hl [0, 3, 4, 5, 6, 7, 8, 9] rfl, hP.sub [0, 1, 2, 3, 4, 5, 6, 7, 8, 9] rfl, hD.sub [0, 1, 2, 3, 4, 5, 6, 7, 8, 9] (by decide +kernel) rfl, hS, ⟨(by (try dsimp only); omega), (by (try dsimp only); exact pour_stepY (by omega) hi9 hp1 hp2 hp3 hp4 hzF hM (by omega) (hap.1 (by omega)).1 (hap.1 (by omega)).2)⟩⟩ (by (try dsimp only); omega)
                  · refine lv_if_eq (tgt := 134) hx hb dX12_pour_128 (by decide +kernel) (fun _ => ?_) (fun c9 => absurd c9 (by decide +kernel))
                    refine lv_aload hx hb dX12_pour_134 (lv_at hl 5 rfl) ?_
                    refine va_get (D := D) (ci := 0) (v := .ref a1) (C := RX1) (T := TX1) (N := 2) hx hb hts in_X12_pour_X1 hown hE.1 hP 5 rfl rfl 1 (by decide +kernel) (hts (.fieldLink RX12 308 "ClauseBook$Bag" "numbers" "[I") (List.mem_of_getElem? (i := 3) rfl)) (fun _ h9 => h9) rfl dX12_pour_136 ?_
                    refine lv_iload hx hb dX12_pour_139 (lv_at hl 3 rfl) ?_
                    refine lv_iload hx hb dX12_pour_141 (lv_at hl 1 rfl) ?_
                    refine va_iast hx hb hE.1 hP hD hS 8 0 rfl rfl (by rw [vp_in_iff]; first | omega | (subst_vars; rw [dec1 (by omega)]; omega) | (subst_vars; rw [inc1 (n := 1000) (by omega) (by decide +kernel)]; omega)) dX12_pour_143 (fun H locs hP hD hS => ?_)
                    obtain ⟨hP, hD⟩ := wPD [(h0, .inr (9, fs0)), (h1, .inl (T 5, 3, .inr (.inr (.inr (.inr (va_up (va_up (va_up (fun _ => none) 0 (some t0)) 1 (some t1)) 2 (some t2))))))), (h2, .inr (1, fs2)), (h4, .inl (T 0, 24, .inl fk)), (t0, .inr (0, [.int (bn 0), .ref a0])), (t1, .inr (0, [.int (bn 1), .ref a1])), (t2, .inr (0, [.int n_95, .ref a2])), (a0, .inl (T 0, 12, .inl (bf 0))), (a1, .inl (T 0, 12, .inl (upd g1 (le.toNatClampNeg) z_91))), (a2, .inl (T 0, 12, .inl f_96))] hP hD rfl
                    obtain ⟨z_99, ez_99⟩ : ∃ y : Int32, y = le + 1 := ⟨_, rfl⟩
                    refine lv_iinc (v := z_99) (lv' := [(6, .int z_99), (9, .int 1), (8, .int z_91), (7, .int ii), (5, .int (bn 1)), (4, .ref t1), (0, .ref h0), (1, .int 1), (2, .int 2), (3, .int x3)]) hx hb dX12_pour_144 hl (k := 3) rfl (by rw [ez_99]; rfl) (by decide +kernel) rfl (fun ls hl => ?_)
                    obtain ⟨z_100, ez_100⟩ : ∃ y : Int32, y = ii + 1 := ⟨_, rfl⟩
                    refine lv_iinc (v := z_100) (lv' := [(7, .int z_100), (6, .int z_99), (9, .int 1), (8, .int z_91), (5, .int (bn 1)), (4, .ref t1), (0, .ref h0), (1, .int 1), (2, .int 2), (3, .int x3)]) hx hb dX12_pour_147 hl (k := 3) rfl (by rw [ez_100]; rfl) (by decide +kernel) rfl (fun ls hl => ?_)
                    have hi9 : z_100.toInt = ii.toInt + 1 := by rw [ez_100]; exact inc1 (n := 1000) (by omega) (by decide +kernel)
                    have hl9 : z_99.toInt = le.toInt + 1 := by rw [ez_99]; exact inc1 (n := 1000) (by omega) (by decide +kernel)
                    refine lv_goto (tgt := 57) hx hb dX12_pour_150 (by decide +kernel) ?_
                    exact ih (z_100, z_99, n_95, (upd g1 (le.toNatClampNeg) z_91), f_96) ls _ _ ⟨lv_sub hl [0, 1, 4, 5, 6, 7, 8, 9] rfl, hP.sub [0, 1, 2, 3, 4, 5, 6, 7, 8, 9] rfl, hD.sub [0, 1, 2, 3, 4, 5, 6, 7, 8, 9] (by decide +kernel) rfl, hS, ⟨(by (try dsimp only); omega), (by (try dsimp only); exact pour_stepN (by omega) (by omega) hi9 hp1 hp2 hp3 hp4 hzF (fun h9 => by first | exact hM h9.1 | omega) hl9 rfl (by rw [(hap.2 (by omega)).1]) (hap.2 (by omega)).2)⟩⟩ (by (try dsimp only); omega)
                · rw [fa_eq] at c_92
                  try rw [ti_n1] at c_92
                  refine lv_aload_n hx hb dX12_pour_79 rfl (lv_at hl 5 rfl) ?_
                  refine va_get (D := D) (ci := 9) (v := .ref h2) (C := RX12) (T := TX12) (N := 11) hx hb hts in_X12_pour_X12 hown hE.1 hP 0 rfl rfl 4 (by decide +kernel) (hts (.fieldLink RX12 32 "ClauseBook" "clauses" "LClauseBook$Clauses;") (List.mem_of_getElem? (i := 4) rfl)) (fun _ h9 => h9) e0_4 dX12_pour_80 ?_
                  refine lv_iload hx hb dX12_pour_83 (lv_at hl 0 rfl) ?_
                  refine vp_callSi (W.runV (As := [.int z_91]) (rest := []) ⟨hx, hb, hml, hown, hts⟩ (c_X2_has l D T h2 fs2 z_91 n9 e2_0 (by omega)) (cwV 1 hts gX12_pour_X2_has rfl rfl rfl hv_X2_has ⟨Nat.le_of_ble_eq_true rfl, Nat.le_of_ble_eq_true rfl⟩) (pR_V (q := (RX2, TX2, 8)) (ci := 1) (q0 := 2) hP hE rfl rfl [2] rfl) rfl rfl hl.1 rfl (lv_room (Nat.le_of_ble_eq_true rfl)) dX12_pour_85 ⟨Nat.le_of_ble_eq_true rfl, Nat.le_of_ble_eq_true rfl⟩) (fun r_101 hr_101 => ?_)
                  rcases bool_post hr_101 with ⟨c_102, rfl⟩ | ⟨c_102, rfl⟩
                  · refine lv_if_eq (tgt := 109) hx hb dX12_pour_88 (by decide +kernel) (fun c9 => absurd c9 (by decide +kernel)) (fun _ => ?_)
                    refine lv_aload_n hx hb dX12_pour_91 rfl (lv_at hl 5 rfl) ?_
                    refine va_get (D := D) (ci := 9) (v := .ref h2) (C := RX12) (T := TX12) (N := 11) hx hb hts in_X12_pour_X12 hown hE.1 hP 0 rfl rfl 4 (by decide +kernel) (hts (.fieldLink RX12 32 "ClauseBook" "clauses" "LClauseBook$Clauses;") (List.mem_of_getElem? (i := 4) rfl)) (fun _ h9 => h9) e0_4 dX12_pour_92 ?_
                    refine va_get (D := D) (ci := 1) (v := .ref h4) (C := RX2) (T := TX2) (N := 8) hx hb hts in_X12_pour_X2 hown hE.1 hP 2 rfl rfl 1 (by decide +kernel) (hts (.fieldLink RX12 153 "ClauseBook$Clauses" "kind" "[I") (List.mem_of_getElem? (i := 5) rfl)) (fun _ h9 => h9) e2_1 dX12_pour_95 ?_
                    refine lv_iload hx hb dX12_pour_98 (lv_at hl 0 rfl) ?_
                    refine va_iald hx hb hE.1 hP 3 0 rfl rfl (by rw [vp_in_iff]; first | omega | (subst_vars; rw [dec1 (by omega)]; omega) | (subst_vars; rw [inc1 (n := 1000) (by omega) (by decide +kernel)]; omega)) dX12_pour_100 ?_
                    refine lv_topi (fun z_103 ez_103 => ?_)
                    refine lv_iload_n hx hb dX12_pour_101 rfl (lv_at hl 8 rfl) ?_
                    refine lv_icmp_ne (tgt := 109) hx hb dX12_pour_102 (by decide +kernel) (fun c_104 => ?_) (fun c_104 => ?_)
                    · rw [fa_eq] at c_104
                      refine lv_iconst (v := 0) hx hb dX12_pour_109 (by decide +kernel) ?_
                      refine lv_istore (lv' := [(9, .int 0), (8, .int z_91), (7, .int ii), (6, .int le), (5, .int (bn 1)), (4, .ref t1), (0, .ref h0), (1, .int 1), (2, .int 2), (3, .int x3)]) hx hb dX12_pour_110 hl (by decide +kernel) rfl (fun ls hl => ?_)
                      have hM : ¬ prP x3 n9 fk z_91 = true := fun h9 => by rcases of_decide_eq_true h9 with h8 | ⟨h8, h7⟩ <;> first | omega | (rw [← ez_103] at h7; omega)
                      refine lv_iload hx hb dX12_pour_112 (lv_at hl 0 rfl) ?_
                      refine lv_if_eq (tgt := 134) hx hb dX12_pour_114 (by decide +kernel) (fun _ => ?_) (fun c9 => absurd c9 (by decide +kernel))
                      refine lv_aload hx hb dX12_pour_134 (lv_at hl 5 rfl) ?_
                      refine va_get (D := D) (ci := 0) (v := .ref a1) (C := RX1) (T := TX1) (N := 2) hx hb hts in_X12_pour_X1 hown hE.1 hP 5 rfl rfl 1 (by decide +kernel) (hts (.fieldLink RX12 308 "ClauseBook$Bag" "numbers" "[I") (List.mem_of_getElem? (i := 3) rfl)) (fun _ h9 => h9) rfl dX12_pour_136 ?_
                      refine lv_iload hx hb dX12_pour_139 (lv_at hl 3 rfl) ?_
                      refine lv_iload hx hb dX12_pour_141 (lv_at hl 1 rfl) ?_
                      refine va_iast hx hb hE.1 hP hD hS 8 0 rfl rfl (by rw [vp_in_iff]; first | omega | (subst_vars; rw [dec1 (by omega)]; omega) | (subst_vars; rw [inc1 (n := 1000) (by omega) (by decide +kernel)]; omega)) dX12_pour_143 (fun H locs hP hD hS => ?_)
                      obtain ⟨hP, hD⟩ := wPD [(h0, .inr (9, fs0)), (h1, .inl (T 5, 3, .inr (.inr (.inr (.inr (va_up (va_up (va_up (fun _ => none) 0 (some t0)) 1 (some t1)) 2 (some t2))))))), (h2, .inr (1, fs2)), (h4, .inl (T 0, 24, .inl fk)), (t0, .inr (0, [.int (bn 0), .ref a0])), (t1, .inr (0, [.int (bn 1), .ref a1])), (t2, .inr (0, [.int qq, .ref a2])), (a0, .inl (T 0, 12, .inl (bf 0))), (a1, .inl (T 0, 12, .inl (upd g1 (le.toNatClampNeg) z_91))), (a2, .inl (T 0, 12, .inl g2))] hP hD rfl
                      obtain ⟨z_105, ez_105⟩ : ∃ y : Int32, y = le + 1 := ⟨_, rfl⟩
                      refine lv_iinc (v := z_105) (lv' := [(6, .int z_105), (9, .int 0), (8, .int z_91), (7, .int ii), (5, .int (bn 1)), (4, .ref t1), (0, .ref h0), (1, .int 1), (2, .int 2), (3, .int x3)]) hx hb dX12_pour_144 hl (k := 3) rfl (by rw [ez_105]; rfl) (by decide +kernel) rfl (fun ls hl => ?_)
                      obtain ⟨z_106, ez_106⟩ : ∃ y : Int32, y = ii + 1 := ⟨_, rfl⟩
                      refine lv_iinc (v := z_106) (lv' := [(7, .int z_106), (6, .int z_105), (9, .int 0), (8, .int z_91), (5, .int (bn 1)), (4, .ref t1), (0, .ref h0), (1, .int 1), (2, .int 2), (3, .int x3)]) hx hb dX12_pour_147 hl (k := 3) rfl (by rw [ez_106]; rfl) (by decide +kernel) rfl (fun ls hl => ?_)
                      have hi9 : z_106.toInt = ii.toInt + 1 := by rw [ez_106]; exact inc1 (n := 1000) (by omega) (by decide +kernel)
                      have hl9 : z_105.toInt = le.toInt + 1 := by rw [ez_105]; exact inc1 (n := 1000) (by omega) (by decide +kernel)
                      refine lv_goto (tgt := 57) hx hb dX12_pour_150 (by decide +kernel) ?_
                      exact ih (z_106, z_105, qq, (upd g1 (le.toNatClampNeg) z_91), g2) ls _ _ ⟨lv_sub hl [0, 1, 4, 5, 6, 7, 8, 9] rfl, hP.sub [0, 1, 2, 3, 4, 5, 6, 7, 8, 9] rfl, hD.sub [0, 1, 2, 3, 4, 5, 6, 7, 8, 9] (by decide +kernel) rfl, hS, ⟨(by (try dsimp only); omega), (by (try dsimp only); exact pour_stepN (by omega) (by omega) hi9 hp1 hp2 hp3 hp4 hzF (fun h9 => by first | exact hM h9.1 | omega) hl9 rfl rfl rfl)⟩⟩ (by (try dsimp only); omega)
                    · rw [fa_eq] at c_104
                      refine lv_iconst (v := 1) hx hb dX12_pour_105 (by decide +kernel) ?_
                      refine lv_goto (tgt := 110) hx hb dX12_pour_106 (by decide +kernel) ?_
                      refine lv_istore (lv' := [(9, .int 1), (8, .int z_91), (7, .int ii), (6, .int le), (5, .int (bn 1)), (4, .ref t1), (0, .ref h0), (1, .int 1), (2, .int 2), (3, .int x3)]) hx hb dX12_pour_110 hl (by decide +kernel) rfl (fun ls hl => ?_)
                      have hM : prP x3 n9 fk z_91 = true := decide_eq_true (by first | exact Or.inl (by omega) | exact Or.inr ⟨(by omega), (by rw [← ez_103]; omega)⟩)
                      refine lv_iload hx hb dX12_pour_112 (lv_at hl 0 rfl) ?_
                      refine lv_if_eq (tgt := 134) hx hb dX12_pour_114 (by decide +kernel) (fun c9 => absurd c9 (by decide +kernel)) (fun _ => ?_)
                      refine lv_aload_n hx hb dX12_pour_117 rfl (lv_at hl 6 rfl) ?_
                      refine va_get (D := D) (ci := 9) (v := .ref h1) (C := RX12) (T := TX12) (N := 11) hx hb hts in_X12_pour_X12 hown hE.1 hP 0 rfl rfl 5 (by decide +kernel) (hts (.fieldLink RX12 37 "ClauseBook" "bags" "[LClauseBook$Bag;") (List.mem_of_getElem? (i := 1) rfl)) (fun _ h9 => h9) e0_5 dX12_pour_118 ?_
                      refine lv_iload_n hx hb dX12_pour_121 rfl (lv_at hl 8 rfl) ?_
                      refine va_aldq hx hb hE.1 hP 1 5 rfl rfl (by unfold vp_in; decide) dX12_pour_122 ?_
                      refine W.eq (g2 := F0 m 123 ls [.ref t2]) rfl ?_
                      refine lv_iload hx hb dX12_pour_123 (lv_at hl 1 rfl) ?_
                      have hFc := va_free (wc := [(t2, .inr (0, [.int qq, .ref a2])), (a2, .inl (T 0, 12, .inl g2))]) hD hS hA [6, 9] rfl
                      refine va_calli (va_runV (As := [.int z_91]) (rest := []) ⟨hx, hb, hml, hown, hts⟩ (c_X1_append l D T _ t2 qq a2 g2 z_91 (by omega)) (cwV 1 hts gX12_pour_X1_append rfl rfl rfl hv_X1_append ⟨Nat.le_of_ble_eq_true rfl, Nat.le_of_ble_eq_true rfl⟩) (pW_V (q := (RX1, TX1, 2)) (ci := 0) (q0 := 6) hP hE hD rfl rfl [6, 9] (by decide +kernel) rfl rfl) rfl rfl hl.1 rfl (lv_room (Nat.le_of_ble_eq_true rfl)) dX12_pour_125 ⟨Nat.le_of_ble_eq_true rfl, Nat.le_of_ble_eq_true rfl⟩) hS (fun q _ h => hFc q h) hFc (fun r_107 u_108 t H1 locs ht hvm hr_107 hB hz1 hk1 hS => ?_)
                      obtain ⟨n_109, f_110⟩ := u_108
                      have hinn_109 : 0 ≤ n_109.toInt ∧ n_109.toInt ≤ 12 := hr_107.2.1
                      have hap : ((qq).toInt < 12 → n_109.toInt = (qq).toInt + 1 ∧ f_110 = upd g2 ((qq).toNatClampNeg) z_91) ∧ (¬ (qq).toInt < 12 → n_109 = qq ∧ f_110 = g2) := hr_107.2.2
                      have hbo : r_107 = if (qq).toInt < 12 then 1 else 0 := hr_107.1
                      obtain ⟨hP1, hD1⟩ := hB
                      rw [ht] at hP1
                      obtain ⟨hP, hD⟩ := va_repl [(h0, .inr (9, fs0)), (h1, .inl (T 5, 3, .inr (.inr (.inr (.inr (va_up (va_up (va_up (fun _ => none) 0 (some t0)) 1 (some t1)) 2 (some t2))))))), (h2, .inr (1, fs2)), (h4, .inl (T 0, 24, .inl fk)), (t0, .inr (0, [.int (bn 0), .ref a0])), (t1, .inr (0, [.int (bn 1), .ref a1])), (t2, .inr (0, [.int n_109, .ref a2])), (a0, .inl (T 0, 12, .inl (bf 0))), (a1, .inl (T 0, 12, .inl g1)), (a2, .inl (T 0, 12, .inl f_110))] hP hD [6, 9] [6, 9] rfl (by decide +kernel) rfl rfl rfl hk1 hP1
                      clear hP1 hD1 hFc
                      generalize H1 = H at hP hS ⊢
                      rcases bool_post hbo with ⟨c_111, rfl⟩ | ⟨c_111, rfl⟩
                      · refine lv_if_eq (tgt := 134) hx hb dX12_pour_128 (by decide +kernel) (fun c9 => absurd c9 (by decide +kernel)) (fun _ => ?_)
                        refine lv_goto (tgt := 147) hx hb dX12_pour_131 (by decide +kernel) ?_
                        obtain ⟨z_112, ez_112⟩ : ∃ y : Int32, y = ii + 1 := ⟨_, rfl⟩
                        refine lv_iinc (v := z_112) (lv' := [(7, .int z_112), (9, .int 1), (8, .int z_91), (6, .int le), (5, .int (bn 1)), (4, .ref t1), (0, .ref h0), (1, .int 1), (2, .int 2), (3, .int x3)]) hx hb dX12_pour_147 hl (k := 2) rfl (by rw [ez_112]; rfl) (by decide +kernel) rfl (fun ls hl => ?_)
                        have hi9 : z_112.toInt = ii.toInt + 1 := by rw [ez_112]; exact inc1 (n := 1000) (by omega) (by decide +kernel)
                        refine lv_goto (tgt := 57) hx hb dX12_pour_150 (by decide +kernel) ?_
                        exact ih (z_112, le, n_109, g1, f_110) ls _ _ ⟨lv_sub hl [0, 3, 4, 5, 6, 7, 8, 9] rfl, hP.sub [0, 1, 2, 3, 4, 5, 6, 7, 8, 9] rfl, hD.sub [0, 1, 2, 3, 4, 5, 6, 7, 8, 9] (by decide +kernel) rfl, hS, ⟨(by (try dsimp only); omega), (by (try dsimp only); exact pour_stepY (by omega) hi9 hp1 hp2 hp3 hp4 hzF hM (by omega) (hap.1 (by omega)).1 (hap.1 (by omega)).2)⟩⟩ (by (try dsimp only); omega)
                      · refine lv_if_eq (tgt := 134) hx hb dX12_pour_128 (by decide +kernel) (fun _ => ?_) (fun c9 => absurd c9 (by decide +kernel))
                        refine lv_aload hx hb dX12_pour_134 (lv_at hl 5 rfl) ?_
                        refine va_get (D := D) (ci := 0) (v := .ref a1) (C := RX1) (T := TX1) (N := 2) hx hb hts in_X12_pour_X1 hown hE.1 hP 5 rfl rfl 1 (by decide +kernel) (hts (.fieldLink RX12 308 "ClauseBook$Bag" "numbers" "[I") (List.mem_of_getElem? (i := 3) rfl)) (fun _ h9 => h9) rfl dX12_pour_136 ?_
                        refine lv_iload hx hb dX12_pour_139 (lv_at hl 3 rfl) ?_
                        refine lv_iload hx hb dX12_pour_141 (lv_at hl 1 rfl) ?_
                        refine va_iast hx hb hE.1 hP hD hS 8 0 rfl rfl (by rw [vp_in_iff]; first | omega | (subst_vars; rw [dec1 (by omega)]; omega) | (subst_vars; rw [inc1 (n := 1000) (by omega) (by decide +kernel)]; omega)) dX12_pour_143 (fun H locs hP hD hS => ?_)
                        obtain ⟨hP, hD⟩ := wPD [(h0, .inr (9, fs0)), (h1, .inl (T 5, 3, .inr (.inr (.inr (.inr (va_up (va_up (va_up (fun _ => none) 0 (some t0)) 1 (some t1)) 2 (some t2))))))), (h2, .inr (1, fs2)), (h4, .inl (T 0, 24, .inl fk)), (t0, .inr (0, [.int (bn 0), .ref a0])), (t1, .inr (0, [.int (bn 1), .ref a1])), (t2, .inr (0, [.int n_109, .ref a2])), (a0, .inl (T 0, 12, .inl (bf 0))), (a1, .inl (T 0, 12, .inl (upd g1 (le.toNatClampNeg) z_91))), (a2, .inl (T 0, 12, .inl f_110))] hP hD rfl
                        obtain ⟨z_113, ez_113⟩ : ∃ y : Int32, y = le + 1 := ⟨_, rfl⟩
                        refine lv_iinc (v := z_113) (lv' := [(6, .int z_113), (9, .int 1), (8, .int z_91), (7, .int ii), (5, .int (bn 1)), (4, .ref t1), (0, .ref h0), (1, .int 1), (2, .int 2), (3, .int x3)]) hx hb dX12_pour_144 hl (k := 3) rfl (by rw [ez_113]; rfl) (by decide +kernel) rfl (fun ls hl => ?_)
                        obtain ⟨z_114, ez_114⟩ : ∃ y : Int32, y = ii + 1 := ⟨_, rfl⟩
                        refine lv_iinc (v := z_114) (lv' := [(7, .int z_114), (6, .int z_113), (9, .int 1), (8, .int z_91), (5, .int (bn 1)), (4, .ref t1), (0, .ref h0), (1, .int 1), (2, .int 2), (3, .int x3)]) hx hb dX12_pour_147 hl (k := 3) rfl (by rw [ez_114]; rfl) (by decide +kernel) rfl (fun ls hl => ?_)
                        have hi9 : z_114.toInt = ii.toInt + 1 := by rw [ez_114]; exact inc1 (n := 1000) (by omega) (by decide +kernel)
                        have hl9 : z_113.toInt = le.toInt + 1 := by rw [ez_113]; exact inc1 (n := 1000) (by omega) (by decide +kernel)
                        refine lv_goto (tgt := 57) hx hb dX12_pour_150 (by decide +kernel) ?_
                        exact ih (z_114, z_113, n_109, (upd g1 (le.toNatClampNeg) z_91), f_110) ls _ _ ⟨lv_sub hl [0, 1, 4, 5, 6, 7, 8, 9] rfl, hP.sub [0, 1, 2, 3, 4, 5, 6, 7, 8, 9] rfl, hD.sub [0, 1, 2, 3, 4, 5, 6, 7, 8, 9] (by decide +kernel) rfl, hS, ⟨(by (try dsimp only); omega), (by (try dsimp only); exact pour_stepN (by omega) (by omega) hi9 hp1 hp2 hp3 hp4 hzF (fun h9 => by first | exact hM h9.1 | omega) hl9 rfl (by rw [(hap.2 (by omega)).1]) (hap.2 (by omega)).2)⟩⟩ (by (try dsimp only); omega)
                  · refine lv_if_eq (tgt := 109) hx hb dX12_pour_88 (by decide +kernel) (fun _ => ?_) (fun c9 => absurd c9 (by decide +kernel))
                    refine lv_iconst (v := 0) hx hb dX12_pour_109 (by decide +kernel) ?_
                    refine lv_istore (lv' := [(9, .int 0), (8, .int z_91), (7, .int ii), (6, .int le), (5, .int (bn 1)), (4, .ref t1), (0, .ref h0), (1, .int 1), (2, .int 2), (3, .int x3)]) hx hb dX12_pour_110 hl (by decide +kernel) rfl (fun ls hl => ?_)
                    have hM : ¬ prP x3 n9 fk z_91 = true := fun h9 => by rcases of_decide_eq_true h9 with h8 | ⟨h8, h7⟩ <;> first | omega | (rw [← ez_103] at h7; omega)
                    refine lv_iload hx hb dX12_pour_112 (lv_at hl 0 rfl) ?_
                    refine lv_if_eq (tgt := 134) hx hb dX12_pour_114 (by decide +kernel) (fun _ => ?_) (fun c9 => absurd c9 (by decide +kernel))
                    refine lv_aload hx hb dX12_pour_134 (lv_at hl 5 rfl) ?_
                    refine va_get (D := D) (ci := 0) (v := .ref a1) (C := RX1) (T := TX1) (N := 2) hx hb hts in_X12_pour_X1 hown hE.1 hP 5 rfl rfl 1 (by decide +kernel) (hts (.fieldLink RX12 308 "ClauseBook$Bag" "numbers" "[I") (List.mem_of_getElem? (i := 3) rfl)) (fun _ h9 => h9) rfl dX12_pour_136 ?_
                    refine lv_iload hx hb dX12_pour_139 (lv_at hl 3 rfl) ?_
                    refine lv_iload hx hb dX12_pour_141 (lv_at hl 1 rfl) ?_
                    refine va_iast hx hb hE.1 hP hD hS 8 0 rfl rfl (by rw [vp_in_iff]; first | omega | (subst_vars; rw [dec1 (by omega)]; omega) | (subst_vars; rw [inc1 (n := 1000) (by omega) (by decide +kernel)]; omega)) dX12_pour_143 (fun H locs hP hD hS => ?_)
                    obtain ⟨hP, hD⟩ := wPD [(h0, .inr (9, fs0)), (h1, .inl (T 5, 3, .inr (.inr (.inr (.inr (va_up (va_up (va_up (fun _ => none) 0 (some t0)) 1 (some t1)) 2 (some t2))))))), (h2, .inr (1, fs2)), (h4, .inl (T 0, 24, .inl fk)), (t0, .inr (0, [.int (bn 0), .ref a0])), (t1, .inr (0, [.int (bn 1), .ref a1])), (t2, .inr (0, [.int qq, .ref a2])), (a0, .inl (T 0, 12, .inl (bf 0))), (a1, .inl (T 0, 12, .inl (upd g1 (le.toNatClampNeg) z_91))), (a2, .inl (T 0, 12, .inl g2))] hP hD rfl
                    obtain ⟨z_115, ez_115⟩ : ∃ y : Int32, y = le + 1 := ⟨_, rfl⟩
                    refine lv_iinc (v := z_115) (lv' := [(6, .int z_115), (9, .int 0), (8, .int z_91), (7, .int ii), (5, .int (bn 1)), (4, .ref t1), (0, .ref h0), (1, .int 1), (2, .int 2), (3, .int x3)]) hx hb dX12_pour_144 hl (k := 3) rfl (by rw [ez_115]; rfl) (by decide +kernel) rfl (fun ls hl => ?_)
                    obtain ⟨z_116, ez_116⟩ : ∃ y : Int32, y = ii + 1 := ⟨_, rfl⟩
                    refine lv_iinc (v := z_116) (lv' := [(7, .int z_116), (6, .int z_115), (9, .int 0), (8, .int z_91), (5, .int (bn 1)), (4, .ref t1), (0, .ref h0), (1, .int 1), (2, .int 2), (3, .int x3)]) hx hb dX12_pour_147 hl (k := 3) rfl (by rw [ez_116]; rfl) (by decide +kernel) rfl (fun ls hl => ?_)
                    have hi9 : z_116.toInt = ii.toInt + 1 := by rw [ez_116]; exact inc1 (n := 1000) (by omega) (by decide +kernel)
                    have hl9 : z_115.toInt = le.toInt + 1 := by rw [ez_115]; exact inc1 (n := 1000) (by omega) (by decide +kernel)
                    refine lv_goto (tgt := 57) hx hb dX12_pour_150 (by decide +kernel) ?_
                    exact ih (z_116, z_115, qq, (upd g1 (le.toNatClampNeg) z_91), g2) ls _ _ ⟨lv_sub hl [0, 1, 4, 5, 6, 7, 8, 9] rfl, hP.sub [0, 1, 2, 3, 4, 5, 6, 7, 8, 9] rfl, hD.sub [0, 1, 2, 3, 4, 5, 6, 7, 8, 9] (by decide +kernel) rfl, hS, ⟨(by (try dsimp only); omega), (by (try dsimp only); exact pour_stepN (by omega) (by omega) hi9 hp1 hp2 hp3 hp4 hzF (fun h9 => by first | exact hM h9.1 | omega) hl9 rfl rfl rfl)⟩⟩ (by (try dsimp only); omega)
          · rcases in3 (x := x2) (by omega) with rfl | rfl | rfl
            · refine lv_aload_n hx hb dX12_pour_36 rfl (lv_at hl 0 rfl) ?_
              refine va_get (D := D) (ci := 9) (v := .ref h1) (C := RX12) (T := TX12) (N := 11) hx hb hts in_X12_pour_X12 hown hE.1 hP 0 rfl rfl 5 (by decide +kernel) (hts (.fieldLink RX12 37 "ClauseBook" "bags" "[LClauseBook$Bag;") (List.mem_of_getElem? (i := 1) rfl)) (fun _ h9 => h9) e0_5 dX12_pour_37 ?_
              refine lv_iload_n hx hb dX12_pour_40 rfl (lv_at hl 1 rfl) ?_
              refine va_aldq hx hb hE.1 hP 1 5 rfl rfl (by unfold vp_in; decide) dX12_pour_41 ?_
              refine W.eq (g2 := F0 m 42 ls [.ref t2]) rfl ?_
              refine lv_astore (lv' := [(4, .ref t2), (0, .ref h0), (1, .int 2), (2, .int 0), (3, .int x3)]) hx hb dX12_pour_42 hl (by decide +kernel) rfl (fun ls hl => ?_)
              refine lv_aload hx hb dX12_pour_44 (lv_at hl 0 rfl) ?_
              refine va_get (D := D) (ci := 0) (v := .int (bn 2)) (C := RX1) (T := TX1) (N := 2) hx hb hts in_X12_pour_X1 hown hE.1 hP 6 rfl rfl 0 (by decide +kernel) (hts (.fieldLink RX12 307 "ClauseBook$Bag" "size" "I") (List.mem_of_getElem? (i := 2) rfl)) (fun _ h9 => h9) rfl dX12_pour_46 ?_
              refine lv_istore (lv' := [(5, .int (bn 2)), (4, .ref t2), (0, .ref h0), (1, .int 2), (2, .int 0), (3, .int x3)]) hx hb dX12_pour_49 hl (by decide +kernel) rfl (fun ls hl => ?_)
              refine lv_iconst (v := 0) hx hb dX12_pour_51 (by decide +kernel) ?_
              refine lv_istore (lv' := [(6, .int 0), (5, .int (bn 2)), (4, .ref t2), (0, .ref h0), (1, .int 2), (2, .int 0), (3, .int x3)]) hx hb dX12_pour_52 hl (by decide +kernel) rfl (fun ls hl => ?_)
              refine lv_iconst (v := 0) hx hb dX12_pour_54 (by decide +kernel) ?_
              refine lv_istore (lv' := [(7, .int 0), (6, .int 0), (5, .int (bn 2)), (4, .ref t2), (0, .ref h0), (1, .int 2), (2, .int 0), (3, .int x3)]) hx hb dX12_pour_55 hl (by decide +kernel) rfl (fun ls hl => ?_)
              refine loopW (σ := (Int32) × (Int32) × (Int32) × (Nat → Int32) × (Nat → Int32)) (fun x9 ls H locs => lv_has ls 10 [(7, .int x9.1), (6, .int x9.2.1), (5, .int (bn 2)), (4, .ref t2), (0, .ref h0), (1, .int 2), (2, .int 0), (3, .int x3)] ∧ va_P D vwCl [(h0, .inr (9, fs0)), (h1, .inl (T 5, 3, .inr (.inr (.inr (.inr (va_up (va_up (va_up (fun _ => none) 0 (some t0)) 1 (some t1)) 2 (some t2))))))), (h2, .inr (1, fs2)), (h4, .inl (T 0, 24, .inl fk)), (t0, .inr (0, [.int x9.2.2.1, .ref a0])), (t1, .inr (0, [.int (bn 1), .ref a1])), (t2, .inr (0, [.int (bn 2), .ref a2])), (a0, .inl (T 0, 12, .inl x9.2.2.2.2)), (a1, .inl (T 0, 12, .inl (bf 1))), (a2, .inl (T 0, 12, .inl x9.2.2.2.1))] H ∧ va_D A [(h0, .inr (9, fs0)), (h1, .inl (T 5, 3, .inr (.inr (.inr (.inr (va_up (va_up (va_up (fun _ => none) 0 (some t0)) 1 (some t1)) 2 (some t2))))))), (h2, .inr (1, fs2)), (h4, .inl (T 0, 24, .inl fk)), (t0, .inr (0, [.int x9.2.2.1, .ref a0])), (t1, .inr (0, [.int (bn 1), .ref a1])), (t2, .inr (0, [.int (bn 2), .ref a2])), (a0, .inl (T 0, 12, .inl x9.2.2.2.2)), (a1, .inl (T 0, 12, .inl (bf 1))), (a2, .inl (T 0, 12, .inl x9.2.2.2.1))] ∧ va_S A s.heap H locs ∧ (((0 ≤ x9.2.1.toInt ∧ x9.2.1.toInt ≤ x9.1.toInt ∧ x9.1.toInt ≤ (bn 2).toInt) ∧ 0 ≤ x9.2.2.1.toInt ∧ x9.2.2.1.toInt ≤ 12) ∧ x9.2.1.toInt = (pourF (prP x3 n9 fk) (bf 2) (bf 0) ((bn 0).toNatClampNeg) (x9.1.toNatClampNeg)).1 ∧ x9.2.2.2.1 = (pourF (prP x3 n9 fk) (bf 2) (bf 0) ((bn 0).toNatClampNeg) (x9.1.toNatClampNeg)).2.1 ∧ x9.2.2.1.toInt = (pourF (prP x3 n9 fk) (bf 2) (bf 0) ((bn 0).toNatClampNeg) (x9.1.toNatClampNeg)).2.2.1 ∧ x9.2.2.2.2 = (pourF (prP x3 n9 fk) (bf 2) (bf 0) ((bn 0).toNatClampNeg) (x9.1.toNatClampNeg)).2.2.2)) (fun x9 => (12 - x9.1.toInt).toNat) (fun x9 ls H locs hI ih => ?_) (0, 0, (bn 0), (bf 2), (bf 0)) ls ⟨lv_sub hl [0, 1, 2, 3, 4, 5, 6, 7] rfl, hP.sub [0, 1, 2, 3, 4, 5, 6, 7, 8, 9] rfl, hD.sub [0, 1, 2, 3, 4, 5, 6, 7, 8, 9] (by decide +kernel) rfl, hS, ⟨(by (try dsimp only); simp only [ti_0]; omega), (by (try dsimp only); rw [tn0']; rfl), (by (try dsimp only); rw [tn0']; rfl), (by (try dsimp only); rw [tn0']; exact (tn (by omega)).symm), (by (try dsimp only); rw [tn0']; rfl)⟩⟩
              obtain ⟨ii, le, qq, g2, g0⟩ := x9
              obtain ⟨hl, hP, hD, hS, hinv⟩ := hI
              have hl : lv_has ls 10 [(7, .int ii), (6, .int le), (5, .int (bn 2)), (4, .ref t2), (0, .ref h0), (1, .int 2), (2, .int 0), (3, .int x3)] := hl
              have hP : va_P D vwCl [(h0, .inr (9, fs0)), (h1, .inl (T 5, 3, .inr (.inr (.inr (.inr (va_up (va_up (va_up (fun _ => none) 0 (some t0)) 1 (some t1)) 2 (some t2))))))), (h2, .inr (1, fs2)), (h4, .inl (T 0, 24, .inl fk)), (t0, .inr (0, [.int qq, .ref a0])), (t1, .inr (0, [.int (bn 1), .ref a1])), (t2, .inr (0, [.int (bn 2), .ref a2])), (a0, .inl (T 0, 12, .inl g0)), (a1, .inl (T 0, 12, .inl (bf 1))), (a2, .inl (T 0, 12, .inl g2))] H := hP
              have hD : va_D A [(h0, .inr (9, fs0)), (h1, .inl (T 5, 3, .inr (.inr (.inr (.inr (va_up (va_up (va_up (fun _ => none) 0 (some t0)) 1 (some t1)) 2 (some t2))))))), (h2, .inr (1, fs2)), (h4, .inl (T 0, 24, .inl fk)), (t0, .inr (0, [.int qq, .ref a0])), (t1, .inr (0, [.int (bn 1), .ref a1])), (t2, .inr (0, [.int (bn 2), .ref a2])), (a0, .inl (T 0, 12, .inl g0)), (a1, .inl (T 0, 12, .inl (bf 1))), (a2, .inl (T 0, 12, .inl g2))] := hD
              have hinv : ((0 ≤ le.toInt ∧ le.toInt ≤ ii.toInt ∧ ii.toInt ≤ (bn 2).toInt) ∧ 0 ≤ qq.toInt ∧ qq.toInt ≤ 12) ∧ le.toInt = (pourF (prP x3 n9 fk) (bf 2) (bf 0) ((bn 0).toNatClampNeg) (ii.toNatClampNeg)).1 ∧ g2 = (pourF (prP x3 n9 fk) (bf 2) (bf 0) ((bn 0).toNatClampNeg) (ii.toNatClampNeg)).2.1 ∧ qq.toInt = (pourF (prP x3 n9 fk) (bf 2) (bf 0) ((bn 0).toNatClampNeg) (ii.toNatClampNeg)).2.2.1 ∧ g0 = (pourF (prP x3 n9 fk) (bf 2) (bf 0) ((bn 0).toNatClampNeg) (ii.toNatClampNeg)).2.2.2 := hinv
              obtain ⟨hinv, hp1, hp2, hp3, hp4⟩ := hinv
              refine lv_iload hx hb dX12_pour_57 (lv_at hl 0 rfl) ?_
              refine lv_iload hx hb dX12_pour_59 (lv_at hl 2 rfl) ?_
              refine lv_icmp_ge (tgt := 153) hx hb dX12_pour_61 (by decide +kernel) (fun c_117 => ?_) (fun c_117 => ?_)
              · rw [fa_le] at c_117
                have e9 : ii = (bn 2) := Int32.toInt_inj.1 (by omega)
                rw [e9] at hp1 hp2 hp3 hp4
                refine lv_aload hx hb dX12_pour_153 (lv_at hl 3 rfl) ?_
                refine lv_iload hx hb dX12_pour_155 (lv_at hl 1 rfl) ?_
                refine va_put (D := D) (ci := 0) (v := .int le) (ty := .int) (C := RX1) (T := TX1) (N := 2) hx hb hts in_X12_pour_X1 tyX1 tyX1_ok nmX1 hown hE.1 hP hD hS 6 rfl rfl 0 (by decide +kernel) (hts (.fieldLink RX12 307 "ClauseBook$Bag" "size" "I") (List.mem_of_getElem? (i := 2) rfl)) (fun _ h9 => h9) rfl (by decide +kernel) rfl rfl (Nat.le_of_ble_eq_true rfl) dX12_pour_157 (fun H locs hP hD hS => ?_)
                obtain ⟨hP, hD⟩ := wPD [(h0, .inr (9, fs0)), (h1, .inl (T 5, 3, .inr (.inr (.inr (.inr (va_up (va_up (va_up (fun _ => none) 0 (some t0)) 1 (some t1)) 2 (some t2))))))), (h2, .inr (1, fs2)), (h4, .inl (T 0, 24, .inl fk)), (t0, .inr (0, [.int qq, .ref a0])), (t1, .inr (0, [.int (bn 1), .ref a1])), (t2, .inr (0, [.int le, .ref a2])), (a0, .inl (T 0, 12, .inl g0)), (a1, .inl (T 0, 12, .inl (bf 1))), (a2, .inl (T 0, 12, .inl g2))] hP hD rfl
                refine lv_iload hx hb dX12_pour_160 (lv_at hl 2 rfl) ?_
                refine lv_iload hx hb dX12_pour_162 (lv_at hl 1 rfl) ?_
                refine lv_isub hx hb dX12_pour_164 ?_
                exact W.iret hx hb hr (fun t ht hW => ⟨⟨_, ((fun k => [qq, (bn 1), le].getD k 0), (fun k => [g0, (bf 1), g2].getD k g0)), rfl, ⟨(show 0 ≤ (qq).toInt ∧ (qq).toInt ≤ 12 from by (try subst_vars); first | omega | (rw [dec1 (by omega)]; omega)), (show 0 ≤ ((bn 1)).toInt ∧ ((bn 1)).toInt ≤ 12 from by (try subst_vars); first | omega | (rw [dec1 (by omega)]; omega)), (show 0 ≤ (le).toInt ∧ (le).toInt ≤ 12 from by (try subst_vars); first | omega | (rw [dec1 (by omega)]; omega)), (Or.inr ⟨⟨⟨⟨by decide, by decide⟩, by decide, by decide⟩, by decide, by omega⟩, _, rfl, (show (((bn 2) - le) : Int32).toInt = (bn 2).toInt - (((pourF (prP x3 n9 fk) (bf 2) (bf 0) ((bn 0).toNatClampNeg) ((bn 2).toNatClampNeg)).1 : Nat) : Int) from by have h8 := hp1; rw [fb_subI (by omega) (by omega)]; omega), all3 ⟨(fun h9 => absurd h9 (by decide +kernel)), (fun _ => ⟨hp3, hp4⟩), (fun _ h9 => absurd (by decide +kernel) h9)⟩ ⟨(fun h9 => absurd h9 (by decide +kernel)), (fun h9 => absurd h9 (by decide +kernel)), (fun _ _ => ⟨rfl, rfl⟩)⟩ ⟨(fun _ => ⟨hp1, hp2⟩), (fun h9 => absurd h9 (by decide +kernel)), (fun h9 => absurd (by decide +kernel) h9)⟩⟩)⟩, by rw [ht]; exact hP.sub [0, 1, 2, 3, 4, 5, 6, 7, 8, 9] rfl, hD.sub [0, 1, 2, 3, 4, 5, 6, 7, 8, 9] (by decide +kernel) rfl⟩, hS.F ht⟩) hS.2.2 dX12_pour_165
              · rw [fa_le] at c_117
                refine lv_aload hx hb dX12_pour_64 (lv_at hl 3 rfl) ?_
                refine va_get (D := D) (ci := 0) (v := .ref a2) (C := RX1) (T := TX1) (N := 2) hx hb hts in_X12_pour_X1 hown hE.1 hP 6 rfl rfl 1 (by decide +kernel) (hts (.fieldLink RX12 308 "ClauseBook$Bag" "numbers" "[I") (List.mem_of_getElem? (i := 3) rfl)) (fun _ h9 => h9) rfl dX12_pour_66 ?_
                refine lv_iload hx hb dX12_pour_69 (lv_at hl 0 rfl) ?_
                refine va_iald hx hb hE.1 hP 9 0 rfl rfl (by rw [vp_in_iff]; first | omega | (subst_vars; rw [dec1 (by omega)]; omega) | (subst_vars; rw [inc1 (n := 1000) (by omega) (by decide +kernel)]; omega)) dX12_pour_71 ?_
                refine lv_topi (fun z_118 ez_118 => ?_)
                have hzF : z_118 = (bf 2) (ii.toNatClampNeg) := by rw [ez_118, hp2]; exact pourF_keep _ _ (by have h8 := tn (x := ii) (by omega); omega)
                refine lv_istore (lv' := [(8, .int z_118), (7, .int ii), (6, .int le), (5, .int (bn 2)), (4, .ref t2), (0, .ref h0), (1, .int 2), (2, .int 0), (3, .int x3)]) hx hb dX12_pour_72 hl (by decide +kernel) rfl (fun ls hl => ?_)
                refine lv_iload_n hx hb dX12_pour_74 rfl (lv_at hl 8 rfl) ?_
                refine lv_iconst (v := (-1)) hx hb dX12_pour_75 (by decide +kernel) ?_
                refine lv_icmp_eq (tgt := 105) hx hb dX12_pour_76 (by decide +kernel) (fun c_119 => ?_) (fun c_119 => ?_)
                · rw [fa_eq] at c_119
                  try rw [ti_n1] at c_119
                  refine lv_iconst (v := 1) hx hb dX12_pour_105 (by decide +kernel) ?_
                  refine lv_goto (tgt := 110) hx hb dX12_pour_106 (by decide +kernel) ?_
                  refine lv_istore (lv' := [(9, .int 1), (8, .int z_118), (7, .int ii), (6, .int le), (5, .int (bn 2)), (4, .ref t2), (0, .ref h0), (1, .int 2), (2, .int 0), (3, .int x3)]) hx hb dX12_pour_110 hl (by decide +kernel) rfl (fun ls hl => ?_)
                  have hM : prP x3 n9 fk z_118 = true := decide_eq_true (by first | exact Or.inl (by omega) | exact Or.inr ⟨(by omega), (by rw [← ez_103]; omega)⟩)
                  refine lv_iload hx hb dX12_pour_112 (lv_at hl 0 rfl) ?_
                  refine lv_if_eq (tgt := 134) hx hb dX12_pour_114 (by decide +kernel) (fun c9 => absurd c9 (by decide +kernel)) (fun _ => ?_)
                  refine lv_aload_n hx hb dX12_pour_117 rfl (lv_at hl 6 rfl) ?_
                  refine va_get (D := D) (ci := 9) (v := .ref h1) (C := RX12) (T := TX12) (N := 11) hx hb hts in_X12_pour_X12 hown hE.1 hP 0 rfl rfl 5 (by decide +kernel) (hts (.fieldLink RX12 37 "ClauseBook" "bags" "[LClauseBook$Bag;") (List.mem_of_getElem? (i := 1) rfl)) (fun _ h9 => h9) e0_5 dX12_pour_118 ?_
                  refine lv_iload_n hx hb dX12_pour_121 rfl (lv_at hl 8 rfl) ?_
                  refine va_aldq hx hb hE.1 hP 1 5 rfl rfl (by unfold vp_in; decide) dX12_pour_122 ?_
                  refine W.eq (g2 := F0 m 123 ls [.ref t0]) rfl ?_
                  refine lv_iload hx hb dX12_pour_123 (lv_at hl 1 rfl) ?_
                  have hFc := va_free (wc := [(t0, .inr (0, [.int qq, .ref a0])), (a0, .inl (T 0, 12, .inl g0))]) hD hS hA [4, 7] rfl
                  refine va_calli (va_runV (As := [.int z_118]) (rest := []) ⟨hx, hb, hml, hown, hts⟩ (c_X1_append l D T _ t0 qq a0 g0 z_118 (by omega)) (cwV 1 hts gX12_pour_X1_append rfl rfl rfl hv_X1_append ⟨Nat.le_of_ble_eq_true rfl, Nat.le_of_ble_eq_true rfl⟩) (pW_V (q := (RX1, TX1, 2)) (ci := 0) (q0 := 4) hP hE hD rfl rfl [4, 7] (by decide +kernel) rfl rfl) rfl rfl hl.1 rfl (lv_room (Nat.le_of_ble_eq_true rfl)) dX12_pour_125 ⟨Nat.le_of_ble_eq_true rfl, Nat.le_of_ble_eq_true rfl⟩) hS (fun q _ h => hFc q h) hFc (fun r_120 u_121 t H1 locs ht hvm hr_120 hB hz1 hk1 hS => ?_)
                  obtain ⟨n_122, f_123⟩ := u_121
                  have hinn_122 : 0 ≤ n_122.toInt ∧ n_122.toInt ≤ 12 := hr_120.2.1
                  have hap : ((qq).toInt < 12 → n_122.toInt = (qq).toInt + 1 ∧ f_123 = upd g0 ((qq).toNatClampNeg) z_118) ∧ (¬ (qq).toInt < 12 → n_122 = qq ∧ f_123 = g0) := hr_120.2.2
                  have hbo : r_120 = if (qq).toInt < 12 then 1 else 0 := hr_120.1
                  obtain ⟨hP1, hD1⟩ := hB
                  rw [ht] at hP1
                  obtain ⟨hP, hD⟩ := va_repl [(h0, .inr (9, fs0)), (h1, .inl (T 5, 3, .inr (.inr (.inr (.inr (va_up (va_up (va_up (fun _ => none) 0 (some t0)) 1 (some t1)) 2 (some t2))))))), (h2, .inr (1, fs2)), (h4, .inl (T 0, 24, .inl fk)), (t0, .inr (0, [.int n_122, .ref a0])), (t1, .inr (0, [.int (bn 1), .ref a1])), (t2, .inr (0, [.int (bn 2), .ref a2])), (a0, .inl (T 0, 12, .inl f_123)), (a1, .inl (T 0, 12, .inl (bf 1))), (a2, .inl (T 0, 12, .inl g2))] hP hD [4, 7] [4, 7] rfl (by decide +kernel) rfl rfl rfl hk1 hP1
                  clear hP1 hD1 hFc
                  generalize H1 = H at hP hS ⊢
                  rcases bool_post hbo with ⟨c_124, rfl⟩ | ⟨c_124, rfl⟩
                  · refine lv_if_eq (tgt := 134) hx hb dX12_pour_128 (by decide +kernel) (fun c9 => absurd c9 (by decide +kernel)) (fun _ => ?_)
                    refine lv_goto (tgt := 147) hx hb dX12_pour_131 (by decide +kernel) ?_
                    obtain ⟨z_125, ez_125⟩ : ∃ y : Int32, y = ii + 1 := ⟨_, rfl⟩
                    refine lv_iinc (v := z_125) (lv' := [(7, .int z_125), (9, .int 1), (8, .int z_118), (6, .int le), (5, .int (bn 2)), (4, .ref t2), (0, .ref h0), (1, .int 2), (2, .int 0), (3, .int x3)]) hx hb dX12_pour_147 hl (k := 2) rfl (by rw [ez_125]; rfl) (by decide +kernel) rfl (fun ls hl => ?_)
                    have hi9 : z_125.toInt = ii.toInt + 1 := by rw [ez_125]; exact inc1 (n := 1000) (by omega) (by decide +kernel)
                    refine lv_goto (tgt := 57) hx hb dX12_pour_150 (by decide +kernel) ?_
                    exact ih (z_125, le, n_122, g2, f_123) ls _ _ ⟨lv_sub hl [0, 3, 4, 5, 6, 7, 8, 9] rfl, hP.sub [0, 1, 2, 3, 4, 5, 6, 7, 8, 9] rfl, hD.sub [0, 1, 2, 3, 4, 5, 6, 7, 8, 9] (by decide +kernel) rfl, hS, ⟨(by (try dsimp only); omega), (by (try dsimp only); exact pour_stepY (by omega) hi9 hp1 hp2 hp3 hp4 hzF hM (by omega) (hap.1 (by omega)).1 (hap.1 (by omega)).2)⟩⟩ (by (try dsimp only); omega)
                  · refine lv_if_eq (tgt := 134) hx hb dX12_pour_128 (by decide +kernel) (fun _ => ?_) (fun c9 => absurd c9 (by decide +kernel))
                    refine lv_aload hx hb dX12_pour_134 (lv_at hl 5 rfl) ?_
                    refine va_get (D := D) (ci := 0) (v := .ref a2) (C := RX1) (T := TX1) (N := 2) hx hb hts in_X12_pour_X1 hown hE.1 hP 6 rfl rfl 1 (by decide +kernel) (hts (.fieldLink RX12 308 "ClauseBook$Bag" "numbers" "[I") (List.mem_of_getElem? (i := 3) rfl)) (fun _ h9 => h9) rfl dX12_pour_136 ?_
                    refine lv_iload hx hb dX12_pour_139 (lv_at hl 3 rfl) ?_
                    refine lv_iload hx hb dX12_pour_141 (lv_at hl 1 rfl) ?_
                    refine va_iast hx hb hE.1 hP hD hS 9 0 rfl rfl (by rw [vp_in_iff]; first | omega | (subst_vars; rw [dec1 (by omega)]; omega) | (subst_vars; rw [inc1 (n := 1000) (by omega) (by decide +kernel)]; omega)) dX12_pour_143 (fun H locs hP hD hS => ?_)
                    obtain ⟨hP, hD⟩ := wPD [(h0, .inr (9, fs0)), (h1, .inl (T 5, 3, .inr (.inr (.inr (.inr (va_up (va_up (va_up (fun _ => none) 0 (some t0)) 1 (some t1)) 2 (some t2))))))), (h2, .inr (1, fs2)), (h4, .inl (T 0, 24, .inl fk)), (t0, .inr (0, [.int n_122, .ref a0])), (t1, .inr (0, [.int (bn 1), .ref a1])), (t2, .inr (0, [.int (bn 2), .ref a2])), (a0, .inl (T 0, 12, .inl f_123)), (a1, .inl (T 0, 12, .inl (bf 1))), (a2, .inl (T 0, 12, .inl (upd g2 (le.toNatClampNeg) z_118)))] hP hD rfl
                    obtain ⟨z_126, ez_126⟩ : ∃ y : Int32, y = le + 1 := ⟨_, rfl⟩
                    refine lv_iinc (v := z_126) (lv' := [(6, .int z_126), (9, .int 1), (8, .int z_118), (7, .int ii), (5, .int (bn 2)), (4, .ref t2), (0, .ref h0), (1, .int 2), (2, .int 0), (3, .int x3)]) hx hb dX12_pour_144 hl (k := 3) rfl (by rw [ez_126]; rfl) (by decide +kernel) rfl (fun ls hl => ?_)
                    obtain ⟨z_127, ez_127⟩ : ∃ y : Int32, y = ii + 1 := ⟨_, rfl⟩
                    refine lv_iinc (v := z_127) (lv' := [(7, .int z_127), (6, .int z_126), (9, .int 1), (8, .int z_118), (5, .int (bn 2)), (4, .ref t2), (0, .ref h0), (1, .int 2), (2, .int 0), (3, .int x3)]) hx hb dX12_pour_147 hl (k := 3) rfl (by rw [ez_127]; rfl) (by decide +kernel) rfl (fun ls hl => ?_)
                    have hi9 : z_127.toInt = ii.toInt + 1 := by rw [ez_127]; exact inc1 (n := 1000) (by omega) (by decide +kernel)
                    have hl9 : z_126.toInt = le.toInt + 1 := by rw [ez_126]; exact inc1 (n := 1000) (by omega) (by decide +kernel)
                    refine lv_goto (tgt := 57) hx hb dX12_pour_150 (by decide +kernel) ?_
                    exact ih (z_127, z_126, n_122, (upd g2 (le.toNatClampNeg) z_118), f_123) ls _ _ ⟨lv_sub hl [0, 1, 4, 5, 6, 7, 8, 9] rfl, hP.sub [0, 1, 2, 3, 4, 5, 6, 7, 8, 9] rfl, hD.sub [0, 1, 2, 3, 4, 5, 6, 7, 8, 9] (by decide +kernel) rfl, hS, ⟨(by (try dsimp only); omega), (by (try dsimp only); exact pour_stepN (by omega) (by omega) hi9 hp1 hp2 hp3 hp4 hzF (fun h9 => by first | exact hM h9.1 | omega) hl9 rfl (by rw [(hap.2 (by omega)).1]) (hap.2 (by omega)).2)⟩⟩ (by (try dsimp only); omega)
                · rw [fa_eq] at c_119
                  try rw [ti_n1] at c_119
                  refine lv_aload_n hx hb dX12_pour_79 rfl (lv_at hl 5 rfl) ?_
                  refine va_get (D := D) (ci := 9) (v := .ref h2) (C := RX12) (T := TX12) (N := 11) hx hb hts in_X12_pour_X12 hown hE.1 hP 0 rfl rfl 4 (by decide +kernel) (hts (.fieldLink RX12 32 "ClauseBook" "clauses" "LClauseBook$Clauses;") (List.mem_of_getElem? (i := 4) rfl)) (fun _ h9 => h9) e0_4 dX12_pour_80 ?_
                  refine lv_iload hx hb dX12_pour_83 (lv_at hl 0 rfl) ?_
                  refine vp_callSi (W.runV (As := [.int z_118]) (rest := []) ⟨hx, hb, hml, hown, hts⟩ (c_X2_has l D T h2 fs2 z_118 n9 e2_0 (by omega)) (cwV 1 hts gX12_pour_X2_has rfl rfl rfl hv_X2_has ⟨Nat.le_of_ble_eq_true rfl, Nat.le_of_ble_eq_true rfl⟩) (pR_V (q := (RX2, TX2, 8)) (ci := 1) (q0 := 2) hP hE rfl rfl [2] rfl) rfl rfl hl.1 rfl (lv_room (Nat.le_of_ble_eq_true rfl)) dX12_pour_85 ⟨Nat.le_of_ble_eq_true rfl, Nat.le_of_ble_eq_true rfl⟩) (fun r_128 hr_128 => ?_)
                  rcases bool_post hr_128 with ⟨c_129, rfl⟩ | ⟨c_129, rfl⟩
                  · refine lv_if_eq (tgt := 109) hx hb dX12_pour_88 (by decide +kernel) (fun c9 => absurd c9 (by decide +kernel)) (fun _ => ?_)
                    refine lv_aload_n hx hb dX12_pour_91 rfl (lv_at hl 5 rfl) ?_
                    refine va_get (D := D) (ci := 9) (v := .ref h2) (C := RX12) (T := TX12) (N := 11) hx hb hts in_X12_pour_X12 hown hE.1 hP 0 rfl rfl 4 (by decide +kernel) (hts (.fieldLink RX12 32 "ClauseBook" "clauses" "LClauseBook$Clauses;") (List.mem_of_getElem? (i := 4) rfl)) (fun _ h9 => h9) e0_4 dX12_pour_92 ?_
                    refine va_get (D := D) (ci := 1) (v := .ref h4) (C := RX2) (T := TX2) (N := 8) hx hb hts in_X12_pour_X2 hown hE.1 hP 2 rfl rfl 1 (by decide +kernel) (hts (.fieldLink RX12 153 "ClauseBook$Clauses" "kind" "[I") (List.mem_of_getElem? (i := 5) rfl)) (fun _ h9 => h9) e2_1 dX12_pour_95 ?_
                    refine lv_iload hx hb dX12_pour_98 (lv_at hl 0 rfl) ?_
                    refine va_iald hx hb hE.1 hP 3 0 rfl rfl (by rw [vp_in_iff]; first | omega | (subst_vars; rw [dec1 (by omega)]; omega) | (subst_vars; rw [inc1 (n := 1000) (by omega) (by decide +kernel)]; omega)) dX12_pour_100 ?_
                    refine lv_topi (fun z_130 ez_130 => ?_)
                    refine lv_iload_n hx hb dX12_pour_101 rfl (lv_at hl 8 rfl) ?_
                    refine lv_icmp_ne (tgt := 109) hx hb dX12_pour_102 (by decide +kernel) (fun c_131 => ?_) (fun c_131 => ?_)
                    · rw [fa_eq] at c_131
                      refine lv_iconst (v := 0) hx hb dX12_pour_109 (by decide +kernel) ?_
                      refine lv_istore (lv' := [(9, .int 0), (8, .int z_118), (7, .int ii), (6, .int le), (5, .int (bn 2)), (4, .ref t2), (0, .ref h0), (1, .int 2), (2, .int 0), (3, .int x3)]) hx hb dX12_pour_110 hl (by decide +kernel) rfl (fun ls hl => ?_)
                      have hM : ¬ prP x3 n9 fk z_118 = true := fun h9 => by rcases of_decide_eq_true h9 with h8 | ⟨h8, h7⟩ <;> first | omega | (rw [← ez_130] at h7; omega)
                      refine lv_iload hx hb dX12_pour_112 (lv_at hl 0 rfl) ?_
                      refine lv_if_eq (tgt := 134) hx hb dX12_pour_114 (by decide +kernel) (fun _ => ?_) (fun c9 => absurd c9 (by decide +kernel))
                      refine lv_aload hx hb dX12_pour_134 (lv_at hl 5 rfl) ?_
                      refine va_get (D := D) (ci := 0) (v := .ref a2) (C := RX1) (T := TX1) (N := 2) hx hb hts in_X12_pour_X1 hown hE.1 hP 6 rfl rfl 1 (by decide +kernel) (hts (.fieldLink RX12 308 "ClauseBook$Bag" "numbers" "[I") (List.mem_of_getElem? (i := 3) rfl)) (fun _ h9 => h9) rfl dX12_pour_136 ?_
                      refine lv_iload hx hb dX12_pour_139 (lv_at hl 3 rfl) ?_
                      refine lv_iload hx hb dX12_pour_141 (lv_at hl 1 rfl) ?_
                      refine va_iast hx hb hE.1 hP hD hS 9 0 rfl rfl (by rw [vp_in_iff]; first | omega | (subst_vars; rw [dec1 (by omega)]; omega) | (subst_vars; rw [inc1 (n := 1000) (by omega) (by decide +kernel)]; omega)) dX12_pour_143 (fun H locs hP hD hS => ?_)
                      obtain ⟨hP, hD⟩ := wPD [(h0, .inr (9, fs0)), (h1, .inl (T 5, 3, .inr (.inr (.inr (.inr (va_up (va_up (va_up (fun _ => none) 0 (some t0)) 1 (some t1)) 2 (some t2))))))), (h2, .inr (1, fs2)), (h4, .inl (T 0, 24, .inl fk)), (t0, .inr (0, [.int qq, .ref a0])), (t1, .inr (0, [.int (bn 1), .ref a1])), (t2, .inr (0, [.int (bn 2), .ref a2])), (a0, .inl (T 0, 12, .inl g0)), (a1, .inl (T 0, 12, .inl (bf 1))), (a2, .inl (T 0, 12, .inl (upd g2 (le.toNatClampNeg) z_118)))] hP hD rfl
                      obtain ⟨z_132, ez_132⟩ : ∃ y : Int32, y = le + 1 := ⟨_, rfl⟩
                      refine lv_iinc (v := z_132) (lv' := [(6, .int z_132), (9, .int 0), (8, .int z_118), (7, .int ii), (5, .int (bn 2)), (4, .ref t2), (0, .ref h0), (1, .int 2), (2, .int 0), (3, .int x3)]) hx hb dX12_pour_144 hl (k := 3) rfl (by rw [ez_132]; rfl) (by decide +kernel) rfl (fun ls hl => ?_)
                      obtain ⟨z_133, ez_133⟩ : ∃ y : Int32, y = ii + 1 := ⟨_, rfl⟩
                      refine lv_iinc (v := z_133) (lv' := [(7, .int z_133), (6, .int z_132), (9, .int 0), (8, .int z_118), (5, .int (bn 2)), (4, .ref t2), (0, .ref h0), (1, .int 2), (2, .int 0), (3, .int x3)]) hx hb dX12_pour_147 hl (k := 3) rfl (by rw [ez_133]; rfl) (by decide +kernel) rfl (fun ls hl => ?_)
                      have hi9 : z_133.toInt = ii.toInt + 1 := by rw [ez_133]; exact inc1 (n := 1000) (by omega) (by decide +kernel)
                      have hl9 : z_132.toInt = le.toInt + 1 := by rw [ez_132]; exact inc1 (n := 1000) (by omega) (by decide +kernel)
                      refine lv_goto (tgt := 57) hx hb dX12_pour_150 (by decide +kernel) ?_
                      exact ih (z_133, z_132, qq, (upd g2 (le.toNatClampNeg) z_118), g0) ls _ _ ⟨lv_sub hl [0, 1, 4, 5, 6, 7, 8, 9] rfl, hP.sub [0, 1, 2, 3, 4, 5, 6, 7, 8, 9] rfl, hD.sub [0, 1, 2, 3, 4, 5, 6, 7, 8, 9] (by decide +kernel) rfl, hS, ⟨(by (try dsimp only); omega), (by (try dsimp only); exact pour_stepN (by omega) (by omega) hi9 hp1 hp2 hp3 hp4 hzF (fun h9 => by first | exact hM h9.1 | omega) hl9 rfl rfl rfl)⟩⟩ (by (try dsimp only); omega)
                    · rw [fa_eq] at c_131
                      refine lv_iconst (v := 1) hx hb dX12_pour_105 (by decide +kernel) ?_
                      refine lv_goto (tgt := 110) hx hb dX12_pour_106 (by decide +kernel) ?_
                      refine lv_istore (lv' := [(9, .int 1), (8, .int z_118), (7, .int ii), (6, .int le), (5, .int (bn 2)), (4, .ref t2), (0, .ref h0), (1, .int 2), (2, .int 0), (3, .int x3)]) hx hb dX12_pour_110 hl (by decide +kernel) rfl (fun ls hl => ?_)
                      have hM : prP x3 n9 fk z_118 = true := decide_eq_true (by first | exact Or.inl (by omega) | exact Or.inr ⟨(by omega), (by rw [← ez_130]; omega)⟩)
                      refine lv_iload hx hb dX12_pour_112 (lv_at hl 0 rfl) ?_
                      refine lv_if_eq (tgt := 134) hx hb dX12_pour_114 (by decide +kernel) (fun c9 => absurd c9 (by decide +kernel)) (fun _ => ?_)
                      refine lv_aload_n hx hb dX12_pour_117 rfl (lv_at hl 6 rfl) ?_
                      refine va_get (D := D) (ci := 9) (v := .ref h1) (C := RX12) (T := TX12) (N := 11) hx hb hts in_X12_pour_X12 hown hE.1 hP 0 rfl rfl 5 (by decide +kernel) (hts (.fieldLink RX12 37 "ClauseBook" "bags" "[LClauseBook$Bag;") (List.mem_of_getElem? (i := 1) rfl)) (fun _ h9 => h9) e0_5 dX12_pour_118 ?_
                      refine lv_iload_n hx hb dX12_pour_121 rfl (lv_at hl 8 rfl) ?_
                      refine va_aldq hx hb hE.1 hP 1 5 rfl rfl (by unfold vp_in; decide) dX12_pour_122 ?_
                      refine W.eq (g2 := F0 m 123 ls [.ref t0]) rfl ?_
                      refine lv_iload hx hb dX12_pour_123 (lv_at hl 1 rfl) ?_
                      have hFc := va_free (wc := [(t0, .inr (0, [.int qq, .ref a0])), (a0, .inl (T 0, 12, .inl g0))]) hD hS hA [4, 7] rfl
                      refine va_calli (va_runV (As := [.int z_118]) (rest := []) ⟨hx, hb, hml, hown, hts⟩ (c_X1_append l D T _ t0 qq a0 g0 z_118 (by omega)) (cwV 1 hts gX12_pour_X1_append rfl rfl rfl hv_X1_append ⟨Nat.le_of_ble_eq_true rfl, Nat.le_of_ble_eq_true rfl⟩) (pW_V (q := (RX1, TX1, 2)) (ci := 0) (q0 := 4) hP hE hD rfl rfl [4, 7] (by decide +kernel) rfl rfl) rfl rfl hl.1 rfl (lv_room (Nat.le_of_ble_eq_true rfl)) dX12_pour_125 ⟨Nat.le_of_ble_eq_true rfl, Nat.le_of_ble_eq_true rfl⟩) hS (fun q _ h => hFc q h) hFc (fun r_134 u_135 t H1 locs ht hvm hr_134 hB hz1 hk1 hS => ?_)
                      obtain ⟨n_136, f_137⟩ := u_135
                      have hinn_136 : 0 ≤ n_136.toInt ∧ n_136.toInt ≤ 12 := hr_134.2.1
                      have hap : ((qq).toInt < 12 → n_136.toInt = (qq).toInt + 1 ∧ f_137 = upd g0 ((qq).toNatClampNeg) z_118) ∧ (¬ (qq).toInt < 12 → n_136 = qq ∧ f_137 = g0) := hr_134.2.2
                      have hbo : r_134 = if (qq).toInt < 12 then 1 else 0 := hr_134.1
                      obtain ⟨hP1, hD1⟩ := hB
                      rw [ht] at hP1
                      obtain ⟨hP, hD⟩ := va_repl [(h0, .inr (9, fs0)), (h1, .inl (T 5, 3, .inr (.inr (.inr (.inr (va_up (va_up (va_up (fun _ => none) 0 (some t0)) 1 (some t1)) 2 (some t2))))))), (h2, .inr (1, fs2)), (h4, .inl (T 0, 24, .inl fk)), (t0, .inr (0, [.int n_136, .ref a0])), (t1, .inr (0, [.int (bn 1), .ref a1])), (t2, .inr (0, [.int (bn 2), .ref a2])), (a0, .inl (T 0, 12, .inl f_137)), (a1, .inl (T 0, 12, .inl (bf 1))), (a2, .inl (T 0, 12, .inl g2))] hP hD [4, 7] [4, 7] rfl (by decide +kernel) rfl rfl rfl hk1 hP1
                      clear hP1 hD1 hFc
                      generalize H1 = H at hP hS ⊢
                      rcases bool_post hbo with ⟨c_138, rfl⟩ | ⟨c_138, rfl⟩
                      · refine lv_if_eq (tgt := 134) hx hb dX12_pour_128 (by decide +kernel) (fun c9 => absurd c9 (by decide +kernel)) (fun _ => ?_)
                        refine lv_goto (tgt := 147) hx hb dX12_pour_131 (by decide +kernel) ?_
                        obtain ⟨z_139, ez_139⟩ : ∃ y : Int32, y = ii + 1 := ⟨_, rfl⟩
                        refine lv_iinc (v := z_139) (lv' := [(7, .int z_139), (9, .int 1), (8, .int z_118), (6, .int le), (5, .int (bn 2)), (4, .ref t2), (0, .ref h0), (1, .int 2), (2, .int 0), (3, .int x3)]) hx hb dX12_pour_147 hl (k := 2) rfl (by rw [ez_139]; rfl) (by decide +kernel) rfl (fun ls hl => ?_)
                        have hi9 : z_139.toInt = ii.toInt + 1 := by rw [ez_139]; exact inc1 (n := 1000) (by omega) (by decide +kernel)
                        refine lv_goto (tgt := 57) hx hb dX12_pour_150 (by decide +kernel) ?_
                        exact ih (z_139, le, n_136, g2, f_137) ls _ _ ⟨lv_sub hl [0, 3, 4, 5, 6, 7, 8, 9] rfl, hP.sub [0, 1, 2, 3, 4, 5, 6, 7, 8, 9] rfl, hD.sub [0, 1, 2, 3, 4, 5, 6, 7, 8, 9] (by decide +kernel) rfl, hS, ⟨(by (try dsimp only); omega), (by (try dsimp only); exact pour_stepY (by omega) hi9 hp1 hp2 hp3 hp4 hzF hM (by omega) (hap.1 (by omega)).1 (hap.1 (by omega)).2)⟩⟩ (by (try dsimp only); omega)
                      · refine lv_if_eq (tgt := 134) hx hb dX12_pour_128 (by decide +kernel) (fun _ => ?_) (fun c9 => absurd c9 (by decide +kernel))
                        refine lv_aload hx hb dX12_pour_134 (lv_at hl 5 rfl) ?_
                        refine va_get (D := D) (ci := 0) (v := .ref a2) (C := RX1) (T := TX1) (N := 2) hx hb hts in_X12_pour_X1 hown hE.1 hP 6 rfl rfl 1 (by decide +kernel) (hts (.fieldLink RX12 308 "ClauseBook$Bag" "numbers" "[I") (List.mem_of_getElem? (i := 3) rfl)) (fun _ h9 => h9) rfl dX12_pour_136 ?_
                        refine lv_iload hx hb dX12_pour_139 (lv_at hl 3 rfl) ?_
                        refine lv_iload hx hb dX12_pour_141 (lv_at hl 1 rfl) ?_
                        refine va_iast hx hb hE.1 hP hD hS 9 0 rfl rfl (by rw [vp_in_iff]; first | omega | (subst_vars; rw [dec1 (by omega)]; omega) | (subst_vars; rw [inc1 (n := 1000) (by omega) (by decide +kernel)]; omega)) dX12_pour_143 (fun H locs hP hD hS => ?_)
                        obtain ⟨hP, hD⟩ := wPD [(h0, .inr (9, fs0)), (h1, .inl (T 5, 3, .inr (.inr (.inr (.inr (va_up (va_up (va_up (fun _ => none) 0 (some t0)) 1 (some t1)) 2 (some t2))))))), (h2, .inr (1, fs2)), (h4, .inl (T 0, 24, .inl fk)), (t0, .inr (0, [.int n_136, .ref a0])), (t1, .inr (0, [.int (bn 1), .ref a1])), (t2, .inr (0, [.int (bn 2), .ref a2])), (a0, .inl (T 0, 12, .inl f_137)), (a1, .inl (T 0, 12, .inl (bf 1))), (a2, .inl (T 0, 12, .inl (upd g2 (le.toNatClampNeg) z_118)))] hP hD rfl
                        obtain ⟨z_140, ez_140⟩ : ∃ y : Int32, y = le + 1 := ⟨_, rfl⟩
                        refine lv_iinc (v := z_140) (lv' := [(6, .int z_140), (9, .int 1), (8, .int z_118), (7, .int ii), (5, .int (bn 2)), (4, .ref t2), (0, .ref h0), (1, .int 2), (2, .int 0), (3, .int x3)]) hx hb dX12_pour_144 hl (k := 3) rfl (by rw [ez_140]; rfl) (by decide +kernel) rfl (fun ls hl => ?_)
                        obtain ⟨z_141, ez_141⟩ : ∃ y : Int32, y = ii + 1 := ⟨_, rfl⟩
                        refine lv_iinc (v := z_141) (lv' := [(7, .int z_141), (6, .int z_140), (9, .int 1), (8, .int z_118), (5, .int (bn 2)), (4, .ref t2), (0, .ref h0), (1, .int 2), (2, .int 0), (3, .int x3)]) hx hb dX12_pour_147 hl (k := 3) rfl (by rw [ez_141]; rfl) (by decide +kernel) rfl (fun ls hl => ?_)
                        have hi9 : z_141.toInt = ii.toInt + 1 := by rw [ez_141]; exact inc1 (n := 1000) (by omega) (by decide +kernel)
                        have hl9 : z_140.toInt = le.toInt + 1 := by rw [ez_140]; exact inc1 (n := 1000) (by omega) (by decide +kernel)
                        refine lv_goto (tgt := 57) hx hb dX12_pour_150 (by decide +kernel) ?_
                        exact ih (z_141, z_140, n_136, (upd g2 (le.toNatClampNeg) z_118), f_137) ls _ _ ⟨lv_sub hl [0, 1, 4, 5, 6, 7, 8, 9] rfl, hP.sub [0, 1, 2, 3, 4, 5, 6, 7, 8, 9] rfl, hD.sub [0, 1, 2, 3, 4, 5, 6, 7, 8, 9] (by decide +kernel) rfl, hS, ⟨(by (try dsimp only); omega), (by (try dsimp only); exact pour_stepN (by omega) (by omega) hi9 hp1 hp2 hp3 hp4 hzF (fun h9 => by first | exact hM h9.1 | omega) hl9 rfl (by rw [(hap.2 (by omega)).1]) (hap.2 (by omega)).2)⟩⟩ (by (try dsimp only); omega)
                  · refine lv_if_eq (tgt := 109) hx hb dX12_pour_88 (by decide +kernel) (fun _ => ?_) (fun c9 => absurd c9 (by decide +kernel))
                    refine lv_iconst (v := 0) hx hb dX12_pour_109 (by decide +kernel) ?_
                    refine lv_istore (lv' := [(9, .int 0), (8, .int z_118), (7, .int ii), (6, .int le), (5, .int (bn 2)), (4, .ref t2), (0, .ref h0), (1, .int 2), (2, .int 0), (3, .int x3)]) hx hb dX12_pour_110 hl (by decide +kernel) rfl (fun ls hl => ?_)
                    have hM : ¬ prP x3 n9 fk z_118 = true := fun h9 => by rcases of_decide_eq_true h9 with h8 | ⟨h8, h7⟩ <;> first | omega | (rw [← ez_130] at h7; omega)
                    refine lv_iload hx hb dX12_pour_112 (lv_at hl 0 rfl) ?_
                    refine lv_if_eq (tgt := 134) hx hb dX12_pour_114 (by decide +kernel) (fun _ => ?_) (fun c9 => absurd c9 (by decide +kernel))
                    refine lv_aload hx hb dX12_pour_134 (lv_at hl 5 rfl) ?_
                    refine va_get (D := D) (ci := 0) (v := .ref a2) (C := RX1) (T := TX1) (N := 2) hx hb hts in_X12_pour_X1 hown hE.1 hP 6 rfl rfl 1 (by decide +kernel) (hts (.fieldLink RX12 308 "ClauseBook$Bag" "numbers" "[I") (List.mem_of_getElem? (i := 3) rfl)) (fun _ h9 => h9) rfl dX12_pour_136 ?_
                    refine lv_iload hx hb dX12_pour_139 (lv_at hl 3 rfl) ?_
                    refine lv_iload hx hb dX12_pour_141 (lv_at hl 1 rfl) ?_
                    refine va_iast hx hb hE.1 hP hD hS 9 0 rfl rfl (by rw [vp_in_iff]; first | omega | (subst_vars; rw [dec1 (by omega)]; omega) | (subst_vars; rw [inc1 (n := 1000) (by omega) (by decide +kernel)]; omega)) dX12_pour_143 (fun H locs hP hD hS => ?_)
                    obtain ⟨hP, hD⟩ := wPD [(h0, .inr (9, fs0)), (h1, .inl (T 5, 3, .inr (.inr (.inr (.inr (va_up (va_up (va_up (fun _ => none) 0 (some t0)) 1 (some t1)) 2 (some t2))))))), (h2, .inr (1, fs2)), (h4, .inl (T 0, 24, .inl fk)), (t0, .inr (0, [.int qq, .ref a0])), (t1, .inr (0, [.int (bn 1), .ref a1])), (t2, .inr (0, [.int (bn 2), .ref a2])), (a0, .inl (T 0, 12, .inl g0)), (a1, .inl (T 0, 12, .inl (bf 1))), (a2, .inl (T 0, 12, .inl (upd g2 (le.toNatClampNeg) z_118)))] hP hD rfl
                    obtain ⟨z_142, ez_142⟩ : ∃ y : Int32, y = le + 1 := ⟨_, rfl⟩
                    refine lv_iinc (v := z_142) (lv' := [(6, .int z_142), (9, .int 0), (8, .int z_118), (7, .int ii), (5, .int (bn 2)), (4, .ref t2), (0, .ref h0), (1, .int 2), (2, .int 0), (3, .int x3)]) hx hb dX12_pour_144 hl (k := 3) rfl (by rw [ez_142]; rfl) (by decide +kernel) rfl (fun ls hl => ?_)
                    obtain ⟨z_143, ez_143⟩ : ∃ y : Int32, y = ii + 1 := ⟨_, rfl⟩
                    refine lv_iinc (v := z_143) (lv' := [(7, .int z_143), (6, .int z_142), (9, .int 0), (8, .int z_118), (5, .int (bn 2)), (4, .ref t2), (0, .ref h0), (1, .int 2), (2, .int 0), (3, .int x3)]) hx hb dX12_pour_147 hl (k := 3) rfl (by rw [ez_143]; rfl) (by decide +kernel) rfl (fun ls hl => ?_)
                    have hi9 : z_143.toInt = ii.toInt + 1 := by rw [ez_143]; exact inc1 (n := 1000) (by omega) (by decide +kernel)
                    have hl9 : z_142.toInt = le.toInt + 1 := by rw [ez_142]; exact inc1 (n := 1000) (by omega) (by decide +kernel)
                    refine lv_goto (tgt := 57) hx hb dX12_pour_150 (by decide +kernel) ?_
                    exact ih (z_143, z_142, qq, (upd g2 (le.toNatClampNeg) z_118), g0) ls _ _ ⟨lv_sub hl [0, 1, 4, 5, 6, 7, 8, 9] rfl, hP.sub [0, 1, 2, 3, 4, 5, 6, 7, 8, 9] rfl, hD.sub [0, 1, 2, 3, 4, 5, 6, 7, 8, 9] (by decide +kernel) rfl, hS, ⟨(by (try dsimp only); omega), (by (try dsimp only); exact pour_stepN (by omega) (by omega) hi9 hp1 hp2 hp3 hp4 hzF (fun h9 => by first | exact hM h9.1 | omega) hl9 rfl rfl rfl)⟩⟩ (by (try dsimp only); omega)
            · refine lv_aload_n hx hb dX12_pour_36 rfl (lv_at hl 0 rfl) ?_
              refine va_get (D := D) (ci := 9) (v := .ref h1) (C := RX12) (T := TX12) (N := 11) hx hb hts in_X12_pour_X12 hown hE.1 hP 0 rfl rfl 5 (by decide +kernel) (hts (.fieldLink RX12 37 "ClauseBook" "bags" "[LClauseBook$Bag;") (List.mem_of_getElem? (i := 1) rfl)) (fun _ h9 => h9) e0_5 dX12_pour_37 ?_
              refine lv_iload_n hx hb dX12_pour_40 rfl (lv_at hl 1 rfl) ?_
              refine va_aldq hx hb hE.1 hP 1 5 rfl rfl (by unfold vp_in; decide) dX12_pour_41 ?_
              refine W.eq (g2 := F0 m 42 ls [.ref t2]) rfl ?_
              refine lv_astore (lv' := [(4, .ref t2), (0, .ref h0), (1, .int 2), (2, .int 1), (3, .int x3)]) hx hb dX12_pour_42 hl (by decide +kernel) rfl (fun ls hl => ?_)
              refine lv_aload hx hb dX12_pour_44 (lv_at hl 0 rfl) ?_
              refine va_get (D := D) (ci := 0) (v := .int (bn 2)) (C := RX1) (T := TX1) (N := 2) hx hb hts in_X12_pour_X1 hown hE.1 hP 6 rfl rfl 0 (by decide +kernel) (hts (.fieldLink RX12 307 "ClauseBook$Bag" "size" "I") (List.mem_of_getElem? (i := 2) rfl)) (fun _ h9 => h9) rfl dX12_pour_46 ?_
              refine lv_istore (lv' := [(5, .int (bn 2)), (4, .ref t2), (0, .ref h0), (1, .int 2), (2, .int 1), (3, .int x3)]) hx hb dX12_pour_49 hl (by decide +kernel) rfl (fun ls hl => ?_)
              refine lv_iconst (v := 0) hx hb dX12_pour_51 (by decide +kernel) ?_
              refine lv_istore (lv' := [(6, .int 0), (5, .int (bn 2)), (4, .ref t2), (0, .ref h0), (1, .int 2), (2, .int 1), (3, .int x3)]) hx hb dX12_pour_52 hl (by decide +kernel) rfl (fun ls hl => ?_)
              refine lv_iconst (v := 0) hx hb dX12_pour_54 (by decide +kernel) ?_
              refine lv_istore (lv' := [(7, .int 0), (6, .int 0), (5, .int (bn 2)), (4, .ref t2), (0, .ref h0), (1, .int 2), (2, .int 1), (3, .int x3)]) hx hb dX12_pour_55 hl (by decide +kernel) rfl (fun ls hl => ?_)
              refine loopW (σ := (Int32) × (Int32) × (Int32) × (Nat → Int32) × (Nat → Int32)) (fun x9 ls H locs => lv_has ls 10 [(7, .int x9.1), (6, .int x9.2.1), (5, .int (bn 2)), (4, .ref t2), (0, .ref h0), (1, .int 2), (2, .int 1), (3, .int x3)] ∧ va_P D vwCl [(h0, .inr (9, fs0)), (h1, .inl (T 5, 3, .inr (.inr (.inr (.inr (va_up (va_up (va_up (fun _ => none) 0 (some t0)) 1 (some t1)) 2 (some t2))))))), (h2, .inr (1, fs2)), (h4, .inl (T 0, 24, .inl fk)), (t0, .inr (0, [.int (bn 0), .ref a0])), (t1, .inr (0, [.int x9.2.2.1, .ref a1])), (t2, .inr (0, [.int (bn 2), .ref a2])), (a0, .inl (T 0, 12, .inl (bf 0))), (a1, .inl (T 0, 12, .inl x9.2.2.2.2)), (a2, .inl (T 0, 12, .inl x9.2.2.2.1))] H ∧ va_D A [(h0, .inr (9, fs0)), (h1, .inl (T 5, 3, .inr (.inr (.inr (.inr (va_up (va_up (va_up (fun _ => none) 0 (some t0)) 1 (some t1)) 2 (some t2))))))), (h2, .inr (1, fs2)), (h4, .inl (T 0, 24, .inl fk)), (t0, .inr (0, [.int (bn 0), .ref a0])), (t1, .inr (0, [.int x9.2.2.1, .ref a1])), (t2, .inr (0, [.int (bn 2), .ref a2])), (a0, .inl (T 0, 12, .inl (bf 0))), (a1, .inl (T 0, 12, .inl x9.2.2.2.2)), (a2, .inl (T 0, 12, .inl x9.2.2.2.1))] ∧ va_S A s.heap H locs ∧ (((0 ≤ x9.2.1.toInt ∧ x9.2.1.toInt ≤ x9.1.toInt ∧ x9.1.toInt ≤ (bn 2).toInt) ∧ 0 ≤ x9.2.2.1.toInt ∧ x9.2.2.1.toInt ≤ 12) ∧ x9.2.1.toInt = (pourF (prP x3 n9 fk) (bf 2) (bf 1) ((bn 1).toNatClampNeg) (x9.1.toNatClampNeg)).1 ∧ x9.2.2.2.1 = (pourF (prP x3 n9 fk) (bf 2) (bf 1) ((bn 1).toNatClampNeg) (x9.1.toNatClampNeg)).2.1 ∧ x9.2.2.1.toInt = (pourF (prP x3 n9 fk) (bf 2) (bf 1) ((bn 1).toNatClampNeg) (x9.1.toNatClampNeg)).2.2.1 ∧ x9.2.2.2.2 = (pourF (prP x3 n9 fk) (bf 2) (bf 1) ((bn 1).toNatClampNeg) (x9.1.toNatClampNeg)).2.2.2)) (fun x9 => (12 - x9.1.toInt).toNat) (fun x9 ls H locs hI ih => ?_) (0, 0, (bn 1), (bf 2), (bf 1)) ls ⟨lv_sub hl [0, 1, 2, 3, 4, 5, 6, 7] rfl, hP.sub [0, 1, 2, 3, 4, 5, 6, 7, 8, 9] rfl, hD.sub [0, 1, 2, 3, 4, 5, 6, 7, 8, 9] (by decide +kernel) rfl, hS, ⟨(by (try dsimp only); simp only [ti_0]; omega), (by (try dsimp only); rw [tn0']; rfl), (by (try dsimp only); rw [tn0']; rfl), (by (try dsimp only); rw [tn0']; exact (tn (by omega)).symm), (by (try dsimp only); rw [tn0']; rfl)⟩⟩
              obtain ⟨ii, le, qq, g2, g1⟩ := x9
              obtain ⟨hl, hP, hD, hS, hinv⟩ := hI
              have hl : lv_has ls 10 [(7, .int ii), (6, .int le), (5, .int (bn 2)), (4, .ref t2), (0, .ref h0), (1, .int 2), (2, .int 1), (3, .int x3)] := hl
              have hP : va_P D vwCl [(h0, .inr (9, fs0)), (h1, .inl (T 5, 3, .inr (.inr (.inr (.inr (va_up (va_up (va_up (fun _ => none) 0 (some t0)) 1 (some t1)) 2 (some t2))))))), (h2, .inr (1, fs2)), (h4, .inl (T 0, 24, .inl fk)), (t0, .inr (0, [.int (bn 0), .ref a0])), (t1, .inr (0, [.int qq, .ref a1])), (t2, .inr (0, [.int (bn 2), .ref a2])), (a0, .inl (T 0, 12, .inl (bf 0))), (a1, .inl (T 0, 12, .inl g1)), (a2, .inl (T 0, 12, .inl g2))] H := hP
              have hD : va_D A [(h0, .inr (9, fs0)), (h1, .inl (T 5, 3, .inr (.inr (.inr (.inr (va_up (va_up (va_up (fun _ => none) 0 (some t0)) 1 (some t1)) 2 (some t2))))))), (h2, .inr (1, fs2)), (h4, .inl (T 0, 24, .inl fk)), (t0, .inr (0, [.int (bn 0), .ref a0])), (t1, .inr (0, [.int qq, .ref a1])), (t2, .inr (0, [.int (bn 2), .ref a2])), (a0, .inl (T 0, 12, .inl (bf 0))), (a1, .inl (T 0, 12, .inl g1)), (a2, .inl (T 0, 12, .inl g2))] := hD
              have hinv : ((0 ≤ le.toInt ∧ le.toInt ≤ ii.toInt ∧ ii.toInt ≤ (bn 2).toInt) ∧ 0 ≤ qq.toInt ∧ qq.toInt ≤ 12) ∧ le.toInt = (pourF (prP x3 n9 fk) (bf 2) (bf 1) ((bn 1).toNatClampNeg) (ii.toNatClampNeg)).1 ∧ g2 = (pourF (prP x3 n9 fk) (bf 2) (bf 1) ((bn 1).toNatClampNeg) (ii.toNatClampNeg)).2.1 ∧ qq.toInt = (pourF (prP x3 n9 fk) (bf 2) (bf 1) ((bn 1).toNatClampNeg) (ii.toNatClampNeg)).2.2.1 ∧ g1 = (pourF (prP x3 n9 fk) (bf 2) (bf 1) ((bn 1).toNatClampNeg) (ii.toNatClampNeg)).2.2.2 := hinv
              obtain ⟨hinv, hp1, hp2, hp3, hp4⟩ := hinv
              refine lv_iload hx hb dX12_pour_57 (lv_at hl 0 rfl) ?_
              refine lv_iload hx hb dX12_pour_59 (lv_at hl 2 rfl) ?_
              refine lv_icmp_ge (tgt := 153) hx hb dX12_pour_61 (by decide +kernel) (fun c_144 => ?_) (fun c_144 => ?_)
              · rw [fa_le] at c_144
                have e9 : ii = (bn 2) := Int32.toInt_inj.1 (by omega)
                rw [e9] at hp1 hp2 hp3 hp4
                refine lv_aload hx hb dX12_pour_153 (lv_at hl 3 rfl) ?_
                refine lv_iload hx hb dX12_pour_155 (lv_at hl 1 rfl) ?_
                refine va_put (D := D) (ci := 0) (v := .int le) (ty := .int) (C := RX1) (T := TX1) (N := 2) hx hb hts in_X12_pour_X1 tyX1 tyX1_ok nmX1 hown hE.1 hP hD hS 6 rfl rfl 0 (by decide +kernel) (hts (.fieldLink RX12 307 "ClauseBook$Bag" "size" "I") (List.mem_of_getElem? (i := 2) rfl)) (fun _ h9 => h9) rfl (by decide +kernel) rfl rfl (Nat.le_of_ble_eq_true rfl) dX12_pour_157 (fun H locs hP hD hS => ?_)
                obtain ⟨hP, hD⟩ := wPD [(h0, .inr (9, fs0)), (h1, .inl (T 5, 3, .inr (.inr (.inr (.inr (va_up (va_up (va_up (fun _ => none) 0 (some t0)) 1 (some t1)) 2 (some t2))))))), (h2, .inr (1, fs2)), (h4, .inl (T 0, 24, .inl fk)), (t0, .inr (0, [.int (bn 0), .ref a0])), (t1, .inr (0, [.int qq, .ref a1])), (t2, .inr (0, [.int le, .ref a2])), (a0, .inl (T 0, 12, .inl (bf 0))), (a1, .inl (T 0, 12, .inl g1)), (a2, .inl (T 0, 12, .inl g2))] hP hD rfl
                refine lv_iload hx hb dX12_pour_160 (lv_at hl 2 rfl) ?_
                refine lv_iload hx hb dX12_pour_162 (lv_at hl 1 rfl) ?_
                refine lv_isub hx hb dX12_pour_164 ?_
                exact W.iret hx hb hr (fun t ht hW => ⟨⟨_, ((fun k => [(bn 0), qq, le].getD k 0), (fun k => [(bf 0), g1, g2].getD k (bf 0))), rfl, ⟨(show 0 ≤ ((bn 0)).toInt ∧ ((bn 0)).toInt ≤ 12 from by (try subst_vars); first | omega | (rw [dec1 (by omega)]; omega)), (show 0 ≤ (qq).toInt ∧ (qq).toInt ≤ 12 from by (try subst_vars); first | omega | (rw [dec1 (by omega)]; omega)), (show 0 ≤ (le).toInt ∧ (le).toInt ≤ 12 from by (try subst_vars); first | omega | (rw [dec1 (by omega)]; omega)), (Or.inr ⟨⟨⟨⟨by decide, by decide⟩, by decide, by decide⟩, by decide, by omega⟩, _, rfl, (show (((bn 2) - le) : Int32).toInt = (bn 2).toInt - (((pourF (prP x3 n9 fk) (bf 2) (bf 1) ((bn 1).toNatClampNeg) ((bn 2).toNatClampNeg)).1 : Nat) : Int) from by have h8 := hp1; rw [fb_subI (by omega) (by omega)]; omega), all3 ⟨(fun h9 => absurd h9 (by decide +kernel)), (fun h9 => absurd h9 (by decide +kernel)), (fun _ _ => ⟨rfl, rfl⟩)⟩ ⟨(fun h9 => absurd h9 (by decide +kernel)), (fun _ => ⟨hp3, hp4⟩), (fun _ h9 => absurd (by decide +kernel) h9)⟩ ⟨(fun _ => ⟨hp1, hp2⟩), (fun h9 => absurd h9 (by decide +kernel)), (fun h9 => absurd (by decide +kernel) h9)⟩⟩)⟩, by rw [ht]; exact hP.sub [0, 1, 2, 3, 4, 5, 6, 7, 8, 9] rfl, hD.sub [0, 1, 2, 3, 4, 5, 6, 7, 8, 9] (by decide +kernel) rfl⟩, hS.F ht⟩) hS.2.2 dX12_pour_165
              · rw [fa_le] at c_144
                refine lv_aload hx hb dX12_pour_64 (lv_at hl 3 rfl) ?_
                refine va_get (D := D) (ci := 0) (v := .ref a2) (C := RX1) (T := TX1) (N := 2) hx hb hts in_X12_pour_X1 hown hE.1 hP 6 rfl rfl 1 (by decide +kernel) (hts (.fieldLink RX12 308 "ClauseBook$Bag" "numbers" "[I") (List.mem_of_getElem? (i := 3) rfl)) (fun _ h9 => h9) rfl dX12_pour_66 ?_
                refine lv_iload hx hb dX12_pour_69 (lv_at hl 0 rfl) ?_
                refine va_iald hx hb hE.1 hP 9 0 rfl rfl (by rw [vp_in_iff]; first | omega | (subst_vars; rw [dec1 (by omega)]; omega) | (subst_vars; rw [inc1 (n := 1000) (by omega) (by decide +kernel)]; omega)) dX12_pour_71 ?_
                refine lv_topi (fun z_145 ez_145 => ?_)
                have hzF : z_145 = (bf 2) (ii.toNatClampNeg) := by rw [ez_145, hp2]; exact pourF_keep _ _ (by have h8 := tn (x := ii) (by omega); omega)
                refine lv_istore (lv' := [(8, .int z_145), (7, .int ii), (6, .int le), (5, .int (bn 2)), (4, .ref t2), (0, .ref h0), (1, .int 2), (2, .int 1), (3, .int x3)]) hx hb dX12_pour_72 hl (by decide +kernel) rfl (fun ls hl => ?_)
                refine lv_iload_n hx hb dX12_pour_74 rfl (lv_at hl 8 rfl) ?_
                refine lv_iconst (v := (-1)) hx hb dX12_pour_75 (by decide +kernel) ?_
                refine lv_icmp_eq (tgt := 105) hx hb dX12_pour_76 (by decide +kernel) (fun c_146 => ?_) (fun c_146 => ?_)
                · rw [fa_eq] at c_146
                  try rw [ti_n1] at c_146
                  refine lv_iconst (v := 1) hx hb dX12_pour_105 (by decide +kernel) ?_
                  refine lv_goto (tgt := 110) hx hb dX12_pour_106 (by decide +kernel) ?_
                  refine lv_istore (lv' := [(9, .int 1), (8, .int z_145), (7, .int ii), (6, .int le), (5, .int (bn 2)), (4, .ref t2), (0, .ref h0), (1, .int 2), (2, .int 1), (3, .int x3)]) hx hb dX12_pour_110 hl (by decide +kernel) rfl (fun ls hl => ?_)
                  have hM : prP x3 n9 fk z_145 = true := decide_eq_true (by first | exact Or.inl (by omega) | exact Or.inr ⟨(by omega), (by rw [← ez_130]; omega)⟩)
                  refine lv_iload hx hb dX12_pour_112 (lv_at hl 0 rfl) ?_
                  refine lv_if_eq (tgt := 134) hx hb dX12_pour_114 (by decide +kernel) (fun c9 => absurd c9 (by decide +kernel)) (fun _ => ?_)
                  refine lv_aload_n hx hb dX12_pour_117 rfl (lv_at hl 6 rfl) ?_
                  refine va_get (D := D) (ci := 9) (v := .ref h1) (C := RX12) (T := TX12) (N := 11) hx hb hts in_X12_pour_X12 hown hE.1 hP 0 rfl rfl 5 (by decide +kernel) (hts (.fieldLink RX12 37 "ClauseBook" "bags" "[LClauseBook$Bag;") (List.mem_of_getElem? (i := 1) rfl)) (fun _ h9 => h9) e0_5 dX12_pour_118 ?_
                  refine lv_iload_n hx hb dX12_pour_121 rfl (lv_at hl 8 rfl) ?_
                  refine va_aldq hx hb hE.1 hP 1 5 rfl rfl (by unfold vp_in; decide) dX12_pour_122 ?_
                  refine W.eq (g2 := F0 m 123 ls [.ref t1]) rfl ?_
                  refine lv_iload hx hb dX12_pour_123 (lv_at hl 1 rfl) ?_
                  have hFc := va_free (wc := [(t1, .inr (0, [.int qq, .ref a1])), (a1, .inl (T 0, 12, .inl g1))]) hD hS hA [5, 8] rfl
                  refine va_calli (va_runV (As := [.int z_145]) (rest := []) ⟨hx, hb, hml, hown, hts⟩ (c_X1_append l D T _ t1 qq a1 g1 z_145 (by omega)) (cwV 1 hts gX12_pour_X1_append rfl rfl rfl hv_X1_append ⟨Nat.le_of_ble_eq_true rfl, Nat.le_of_ble_eq_true rfl⟩) (pW_V (q := (RX1, TX1, 2)) (ci := 0) (q0 := 5) hP hE hD rfl rfl [5, 8] (by decide +kernel) rfl rfl) rfl rfl hl.1 rfl (lv_room (Nat.le_of_ble_eq_true rfl)) dX12_pour_125 ⟨Nat.le_of_ble_eq_true rfl, Nat.le_of_ble_eq_true rfl⟩) hS (fun q _ h => hFc q h) hFc (fun r_147 u_148 t H1 locs ht hvm hr_147 hB hz1 hk1 hS => ?_)
                  obtain ⟨n_149, f_150⟩ := u_148
                  have hinn_149 : 0 ≤ n_149.toInt ∧ n_149.toInt ≤ 12 := hr_147.2.1
                  have hap : ((qq).toInt < 12 → n_149.toInt = (qq).toInt + 1 ∧ f_150 = upd g1 ((qq).toNatClampNeg) z_145) ∧ (¬ (qq).toInt < 12 → n_149 = qq ∧ f_150 = g1) := hr_147.2.2
                  have hbo : r_147 = if (qq).toInt < 12 then 1 else 0 := hr_147.1
                  obtain ⟨hP1, hD1⟩ := hB
                  rw [ht] at hP1
                  obtain ⟨hP, hD⟩ := va_repl [(h0, .inr (9, fs0)), (h1, .inl (T 5, 3, .inr (.inr (.inr (.inr (va_up (va_up (va_up (fun _ => none) 0 (some t0)) 1 (some t1)) 2 (some t2))))))), (h2, .inr (1, fs2)), (h4, .inl (T 0, 24, .inl fk)), (t0, .inr (0, [.int (bn 0), .ref a0])), (t1, .inr (0, [.int n_149, .ref a1])), (t2, .inr (0, [.int (bn 2), .ref a2])), (a0, .inl (T 0, 12, .inl (bf 0))), (a1, .inl (T 0, 12, .inl f_150)), (a2, .inl (T 0, 12, .inl g2))] hP hD [5, 8] [5, 8] rfl (by decide +kernel) rfl rfl rfl hk1 hP1
                  clear hP1 hD1 hFc
                  generalize H1 = H at hP hS ⊢
                  rcases bool_post hbo with ⟨c_151, rfl⟩ | ⟨c_151, rfl⟩
                  · refine lv_if_eq (tgt := 134) hx hb dX12_pour_128 (by decide +kernel) (fun c9 => absurd c9 (by decide +kernel)) (fun _ => ?_)
                    refine lv_goto (tgt := 147) hx hb dX12_pour_131 (by decide +kernel) ?_
                    obtain ⟨z_152, ez_152⟩ : ∃ y : Int32, y = ii + 1 := ⟨_, rfl⟩
                    refine lv_iinc (v := z_152) (lv' := [(7, .int z_152), (9, .int 1), (8, .int z_145), (6, .int le), (5, .int (bn 2)), (4, .ref t2), (0, .ref h0), (1, .int 2), (2, .int 1), (3, .int x3)]) hx hb dX12_pour_147 hl (k := 2) rfl (by rw [ez_152]; rfl) (by decide +kernel) rfl (fun ls hl => ?_)
                    have hi9 : z_152.toInt = ii.toInt + 1 := by rw [ez_152]; exact inc1 (n := 1000) (by omega) (by decide +kernel)
                    refine lv_goto (tgt := 57) hx hb dX12_pour_150 (by decide +kernel) ?_
                    exact ih (z_152, le, n_149, g2, f_150) ls _ _ ⟨lv_sub hl [0, 3, 4, 5, 6, 7, 8, 9] rfl, hP.sub [0, 1, 2, 3, 4, 5, 6, 7, 8, 9] rfl, hD.sub [0, 1, 2, 3, 4, 5, 6, 7, 8, 9] (by decide +kernel) rfl, hS, ⟨(by (try dsimp only); omega), (by (try dsimp only); exact pour_stepY (by omega) hi9 hp1 hp2 hp3 hp4 hzF hM (by omega) (hap.1 (by omega)).1 (hap.1 (by omega)).2)⟩⟩ (by (try dsimp only); omega)
                  · refine lv_if_eq (tgt := 134) hx hb dX12_pour_128 (by decide +kernel) (fun _ => ?_) (fun c9 => absurd c9 (by decide +kernel))
                    refine lv_aload hx hb dX12_pour_134 (lv_at hl 5 rfl) ?_
                    refine va_get (D := D) (ci := 0) (v := .ref a2) (C := RX1) (T := TX1) (N := 2) hx hb hts in_X12_pour_X1 hown hE.1 hP 6 rfl rfl 1 (by decide +kernel) (hts (.fieldLink RX12 308 "ClauseBook$Bag" "numbers" "[I") (List.mem_of_getElem? (i := 3) rfl)) (fun _ h9 => h9) rfl dX12_pour_136 ?_
                    refine lv_iload hx hb dX12_pour_139 (lv_at hl 3 rfl) ?_
                    refine lv_iload hx hb dX12_pour_141 (lv_at hl 1 rfl) ?_
                    refine va_iast hx hb hE.1 hP hD hS 9 0 rfl rfl (by rw [vp_in_iff]; first | omega | (subst_vars; rw [dec1 (by omega)]; omega) | (subst_vars; rw [inc1 (n := 1000) (by omega) (by decide +kernel)]; omega)) dX12_pour_143 (fun H locs hP hD hS => ?_)
                    obtain ⟨hP, hD⟩ := wPD [(h0, .inr (9, fs0)), (h1, .inl (T 5, 3, .inr (.inr (.inr (.inr (va_up (va_up (va_up (fun _ => none) 0 (some t0)) 1 (some t1)) 2 (some t2))))))), (h2, .inr (1, fs2)), (h4, .inl (T 0, 24, .inl fk)), (t0, .inr (0, [.int (bn 0), .ref a0])), (t1, .inr (0, [.int n_149, .ref a1])), (t2, .inr (0, [.int (bn 2), .ref a2])), (a0, .inl (T 0, 12, .inl (bf 0))), (a1, .inl (T 0, 12, .inl f_150)), (a2, .inl (T 0, 12, .inl (upd g2 (le.toNatClampNeg) z_145)))] hP hD rfl
                    obtain ⟨z_153, ez_153⟩ : ∃ y : Int32, y = le + 1 := ⟨_, rfl⟩
                    refine lv_iinc (v := z_153) (lv' := [(6, .int z_153), (9, .int 1), (8, .int z_145), (7, .int ii), (5, .int (bn 2)), (4, .ref t2), (0, .ref h0), (1, .int 2), (2, .int 1), (3, .int x3)]) hx hb dX12_pour_144 hl (k := 3) rfl (by rw [ez_153]; rfl) (by decide +kernel) rfl (fun ls hl => ?_)
                    obtain ⟨z_154, ez_154⟩ : ∃ y : Int32, y = ii + 1 := ⟨_, rfl⟩
                    refine lv_iinc (v := z_154) (lv' := [(7, .int z_154), (6, .int z_153), (9, .int 1), (8, .int z_145), (5, .int (bn 2)), (4, .ref t2), (0, .ref h0), (1, .int 2), (2, .int 1), (3, .int x3)]) hx hb dX12_pour_147 hl (k := 3) rfl (by rw [ez_154]; rfl) (by decide +kernel) rfl (fun ls hl => ?_)
                    have hi9 : z_154.toInt = ii.toInt + 1 := by rw [ez_154]; exact inc1 (n := 1000) (by omega) (by decide +kernel)
                    have hl9 : z_153.toInt = le.toInt + 1 := by rw [ez_153]; exact inc1 (n := 1000) (by omega) (by decide +kernel)
                    refine lv_goto (tgt := 57) hx hb dX12_pour_150 (by decide +kernel) ?_
                    exact ih (z_154, z_153, n_149, (upd g2 (le.toNatClampNeg) z_145), f_150) ls _ _ ⟨lv_sub hl [0, 1, 4, 5, 6, 7, 8, 9] rfl, hP.sub [0, 1, 2, 3, 4, 5, 6, 7, 8, 9] rfl, hD.sub [0, 1, 2, 3, 4, 5, 6, 7, 8, 9] (by decide +kernel) rfl, hS, ⟨(by (try dsimp only); omega), (by (try dsimp only); exact pour_stepN (by omega) (by omega) hi9 hp1 hp2 hp3 hp4 hzF (fun h9 => by first | exact hM h9.1 | omega) hl9 rfl (by rw [(hap.2 (by omega)).1]) (hap.2 (by omega)).2)⟩⟩ (by (try dsimp only); omega)
                · rw [fa_eq] at c_146
                  try rw [ti_n1] at c_146
                  refine lv_aload_n hx hb dX12_pour_79 rfl (lv_at hl 5 rfl) ?_
                  refine va_get (D := D) (ci := 9) (v := .ref h2) (C := RX12) (T := TX12) (N := 11) hx hb hts in_X12_pour_X12 hown hE.1 hP 0 rfl rfl 4 (by decide +kernel) (hts (.fieldLink RX12 32 "ClauseBook" "clauses" "LClauseBook$Clauses;") (List.mem_of_getElem? (i := 4) rfl)) (fun _ h9 => h9) e0_4 dX12_pour_80 ?_
                  refine lv_iload hx hb dX12_pour_83 (lv_at hl 0 rfl) ?_
                  refine vp_callSi (W.runV (As := [.int z_145]) (rest := []) ⟨hx, hb, hml, hown, hts⟩ (c_X2_has l D T h2 fs2 z_145 n9 e2_0 (by omega)) (cwV 1 hts gX12_pour_X2_has rfl rfl rfl hv_X2_has ⟨Nat.le_of_ble_eq_true rfl, Nat.le_of_ble_eq_true rfl⟩) (pR_V (q := (RX2, TX2, 8)) (ci := 1) (q0 := 2) hP hE rfl rfl [2] rfl) rfl rfl hl.1 rfl (lv_room (Nat.le_of_ble_eq_true rfl)) dX12_pour_85 ⟨Nat.le_of_ble_eq_true rfl, Nat.le_of_ble_eq_true rfl⟩) (fun r_155 hr_155 => ?_)
                  rcases bool_post hr_155 with ⟨c_156, rfl⟩ | ⟨c_156, rfl⟩
                  · refine lv_if_eq (tgt := 109) hx hb dX12_pour_88 (by decide +kernel) (fun c9 => absurd c9 (by decide +kernel)) (fun _ => ?_)
                    refine lv_aload_n hx hb dX12_pour_91 rfl (lv_at hl 5 rfl) ?_
                    refine va_get (D := D) (ci := 9) (v := .ref h2) (C := RX12) (T := TX12) (N := 11) hx hb hts in_X12_pour_X12 hown hE.1 hP 0 rfl rfl 4 (by decide +kernel) (hts (.fieldLink RX12 32 "ClauseBook" "clauses" "LClauseBook$Clauses;") (List.mem_of_getElem? (i := 4) rfl)) (fun _ h9 => h9) e0_4 dX12_pour_92 ?_
                    refine va_get (D := D) (ci := 1) (v := .ref h4) (C := RX2) (T := TX2) (N := 8) hx hb hts in_X12_pour_X2 hown hE.1 hP 2 rfl rfl 1 (by decide +kernel) (hts (.fieldLink RX12 153 "ClauseBook$Clauses" "kind" "[I") (List.mem_of_getElem? (i := 5) rfl)) (fun _ h9 => h9) e2_1 dX12_pour_95 ?_
                    refine lv_iload hx hb dX12_pour_98 (lv_at hl 0 rfl) ?_
                    refine va_iald hx hb hE.1 hP 3 0 rfl rfl (by rw [vp_in_iff]; first | omega | (subst_vars; rw [dec1 (by omega)]; omega) | (subst_vars; rw [inc1 (n := 1000) (by omega) (by decide +kernel)]; omega)) dX12_pour_100 ?_
                    refine lv_topi (fun z_157 ez_157 => ?_)
                    refine lv_iload_n hx hb dX12_pour_101 rfl (lv_at hl 8 rfl) ?_
                    refine lv_icmp_ne (tgt := 109) hx hb dX12_pour_102 (by decide +kernel) (fun c_158 => ?_) (fun c_158 => ?_)
                    · rw [fa_eq] at c_158
                      refine lv_iconst (v := 0) hx hb dX12_pour_109 (by decide +kernel) ?_
                      refine lv_istore (lv' := [(9, .int 0), (8, .int z_145), (7, .int ii), (6, .int le), (5, .int (bn 2)), (4, .ref t2), (0, .ref h0), (1, .int 2), (2, .int 1), (3, .int x3)]) hx hb dX12_pour_110 hl (by decide +kernel) rfl (fun ls hl => ?_)
                      have hM : ¬ prP x3 n9 fk z_145 = true := fun h9 => by rcases of_decide_eq_true h9 with h8 | ⟨h8, h7⟩ <;> first | omega | (rw [← ez_157] at h7; omega)
                      refine lv_iload hx hb dX12_pour_112 (lv_at hl 0 rfl) ?_
                      refine lv_if_eq (tgt := 134) hx hb dX12_pour_114 (by decide +kernel) (fun _ => ?_) (fun c9 => absurd c9 (by decide +kernel))
                      refine lv_aload hx hb dX12_pour_134 (lv_at hl 5 rfl) ?_
                      refine va_get (D := D) (ci := 0) (v := .ref a2) (C := RX1) (T := TX1) (N := 2) hx hb hts in_X12_pour_X1 hown hE.1 hP 6 rfl rfl 1 (by decide +kernel) (hts (.fieldLink RX12 308 "ClauseBook$Bag" "numbers" "[I") (List.mem_of_getElem? (i := 3) rfl)) (fun _ h9 => h9) rfl dX12_pour_136 ?_
                      refine lv_iload hx hb dX12_pour_139 (lv_at hl 3 rfl) ?_
                      refine lv_iload hx hb dX12_pour_141 (lv_at hl 1 rfl) ?_
                      refine va_iast hx hb hE.1 hP hD hS 9 0 rfl rfl (by rw [vp_in_iff]; first | omega | (subst_vars; rw [dec1 (by omega)]; omega) | (subst_vars; rw [inc1 (n := 1000) (by omega) (by decide +kernel)]; omega)) dX12_pour_143 (fun H locs hP hD hS => ?_)
                      obtain ⟨hP, hD⟩ := wPD [(h0, .inr (9, fs0)), (h1, .inl (T 5, 3, .inr (.inr (.inr (.inr (va_up (va_up (va_up (fun _ => none) 0 (some t0)) 1 (some t1)) 2 (some t2))))))), (h2, .inr (1, fs2)), (h4, .inl (T 0, 24, .inl fk)), (t0, .inr (0, [.int (bn 0), .ref a0])), (t1, .inr (0, [.int qq, .ref a1])), (t2, .inr (0, [.int (bn 2), .ref a2])), (a0, .inl (T 0, 12, .inl (bf 0))), (a1, .inl (T 0, 12, .inl g1)), (a2, .inl (T 0, 12, .inl (upd g2 (le.toNatClampNeg) z_145)))] hP hD rfl
                      obtain ⟨z_159, ez_159⟩ : ∃ y : Int32, y = le + 1 := ⟨_, rfl⟩
                      refine lv_iinc (v := z_159) (lv' := [(6, .int z_159), (9, .int 0), (8, .int z_145), (7, .int ii), (5, .int (bn 2)), (4, .ref t2), (0, .ref h0), (1, .int 2), (2, .int 1), (3, .int x3)]) hx hb dX12_pour_144 hl (k := 3) rfl (by rw [ez_159]; rfl) (by decide +kernel) rfl (fun ls hl => ?_)
                      obtain ⟨z_160, ez_160⟩ : ∃ y : Int32, y = ii + 1 := ⟨_, rfl⟩
                      refine lv_iinc (v := z_160) (lv' := [(7, .int z_160), (6, .int z_159), (9, .int 0), (8, .int z_145), (5, .int (bn 2)), (4, .ref t2), (0, .ref h0), (1, .int 2), (2, .int 1), (3, .int x3)]) hx hb dX12_pour_147 hl (k := 3) rfl (by rw [ez_160]; rfl) (by decide +kernel) rfl (fun ls hl => ?_)
                      have hi9 : z_160.toInt = ii.toInt + 1 := by rw [ez_160]; exact inc1 (n := 1000) (by omega) (by decide +kernel)
                      have hl9 : z_159.toInt = le.toInt + 1 := by rw [ez_159]; exact inc1 (n := 1000) (by omega) (by decide +kernel)
                      refine lv_goto (tgt := 57) hx hb dX12_pour_150 (by decide +kernel) ?_
                      exact ih (z_160, z_159, qq, (upd g2 (le.toNatClampNeg) z_145), g1) ls _ _ ⟨lv_sub hl [0, 1, 4, 5, 6, 7, 8, 9] rfl, hP.sub [0, 1, 2, 3, 4, 5, 6, 7, 8, 9] rfl, hD.sub [0, 1, 2, 3, 4, 5, 6, 7, 8, 9] (by decide +kernel) rfl, hS, ⟨(by (try dsimp only); omega), (by (try dsimp only); exact pour_stepN (by omega) (by omega) hi9 hp1 hp2 hp3 hp4 hzF (fun h9 => by first | exact hM h9.1 | omega) hl9 rfl rfl rfl)⟩⟩ (by (try dsimp only); omega)
                    · rw [fa_eq] at c_158
                      refine lv_iconst (v := 1) hx hb dX12_pour_105 (by decide +kernel) ?_
                      refine lv_goto (tgt := 110) hx hb dX12_pour_106 (by decide +kernel) ?_
                      refine lv_istore (lv' := [(9, .int 1), (8, .int z_145), (7, .int ii), (6, .int le), (5, .int (bn 2)), (4, .ref t2), (0, .ref h0), (1, .int 2), (2, .int 1), (3, .int x3)]) hx hb dX12_pour_110 hl (by decide +kernel) rfl (fun ls hl => ?_)
                      have hM : prP x3 n9 fk z_145 = true := decide_eq_true (by first | exact Or.inl (by omega) | exact Or.inr ⟨(by omega), (by rw [← ez_157]; omega)⟩)
                      refine lv_iload hx hb dX12_pour_112 (lv_at hl 0 rfl) ?_
                      refine lv_if_eq (tgt := 134) hx hb dX12_pour_114 (by decide +kernel) (fun c9 => absurd c9 (by decide +kernel)) (fun _ => ?_)
                      refine lv_aload_n hx hb dX12_pour_117 rfl (lv_at hl 6 rfl) ?_
                      refine va_get (D := D) (ci := 9) (v := .ref h1) (C := RX12) (T := TX12) (N := 11) hx hb hts in_X12_pour_X12 hown hE.1 hP 0 rfl rfl 5 (by decide +kernel) (hts (.fieldLink RX12 37 "ClauseBook" "bags" "[LClauseBook$Bag;") (List.mem_of_getElem? (i := 1) rfl)) (fun _ h9 => h9) e0_5 dX12_pour_118 ?_
                      refine lv_iload_n hx hb dX12_pour_121 rfl (lv_at hl 8 rfl) ?_
                      refine va_aldq hx hb hE.1 hP 1 5 rfl rfl (by unfold vp_in; decide) dX12_pour_122 ?_
                      refine W.eq (g2 := F0 m 123 ls [.ref t1]) rfl ?_
                      refine lv_iload hx hb dX12_pour_123 (lv_at hl 1 rfl) ?_
                      have hFc := va_free (wc := [(t1, .inr (0, [.int qq, .ref a1])), (a1, .inl (T 0, 12, .inl g1))]) hD hS hA [5, 8] rfl
                      refine va_calli (va_runV (As := [.int z_145]) (rest := []) ⟨hx, hb, hml, hown, hts⟩ (c_X1_append l D T _ t1 qq a1 g1 z_145 (by omega)) (cwV 1 hts gX12_pour_X1_append rfl rfl rfl hv_X1_append ⟨Nat.le_of_ble_eq_true rfl, Nat.le_of_ble_eq_true rfl⟩) (pW_V (q := (RX1, TX1, 2)) (ci := 0) (q0 := 5) hP hE hD rfl rfl [5, 8] (by decide +kernel) rfl rfl) rfl rfl hl.1 rfl (lv_room (Nat.le_of_ble_eq_true rfl)) dX12_pour_125 ⟨Nat.le_of_ble_eq_true rfl, Nat.le_of_ble_eq_true rfl⟩) hS (fun q _ h => hFc q h) hFc (fun r_161 u_162 t H1 locs ht hvm hr_161 hB hz1 hk1 hS => ?_)
                      obtain ⟨n_163, f_164⟩ := u_162
                      have hinn_163 : 0 ≤ n_163.toInt ∧ n_163.toInt ≤ 12 := hr_161.2.1
                      have hap : ((qq).toInt < 12 → n_163.toInt = (qq).toInt + 1 ∧ f_164 = upd g1 ((qq).toNatClampNeg) z_145) ∧ (¬ (qq).toInt < 12 → n_163 = qq ∧ f_164 = g1) := hr_161.2.2
                      have hbo : r_161 = if (qq).toInt < 12 then 1 else 0 := hr_161.1
                      obtain ⟨hP1, hD1⟩ := hB
                      rw [ht] at hP1
                      obtain ⟨hP, hD⟩ := va_repl [(h0, .inr (9, fs0)), (h1, .inl (T 5, 3, .inr (.inr (.inr (.inr (va_up (va_up (va_up (fun _ => none) 0 (some t0)) 1 (some t1)) 2 (some t2))))))), (h2, .inr (1, fs2)), (h4, .inl (T 0, 24, .inl fk)), (t0, .inr (0, [.int (bn 0), .ref a0])), (t1, .inr (0, [.int n_163, .ref a1])), (t2, .inr (0, [.int (bn 2), .ref a2])), (a0, .inl (T 0, 12, .inl (bf 0))), (a1, .inl (T 0, 12, .inl f_164)), (a2, .inl (T 0, 12, .inl g2))] hP hD [5, 8] [5, 8] rfl (by decide +kernel) rfl rfl rfl hk1 hP1
                      clear hP1 hD1 hFc
                      generalize H1 = H at hP hS ⊢
                      rcases bool_post hbo with ⟨c_165, rfl⟩ | ⟨c_165, rfl⟩
                      · refine lv_if_eq (tgt := 134) hx hb dX12_pour_128 (by decide +kernel) (fun c9 => absurd c9 (by decide +kernel)) (fun _ => ?_)
                        refine lv_goto (tgt := 147) hx hb dX12_pour_131 (by decide +kernel) ?_
                        obtain ⟨z_166, ez_166⟩ : ∃ y : Int32, y = ii + 1 := ⟨_, rfl⟩
                        refine lv_iinc (v := z_166) (lv' := [(7, .int z_166), (9, .int 1), (8, .int z_145), (6, .int le), (5, .int (bn 2)), (4, .ref t2), (0, .ref h0), (1, .int 2), (2, .int 1), (3, .int x3)]) hx hb dX12_pour_147 hl (k := 2) rfl (by rw [ez_166]; rfl) (by decide +kernel) rfl (fun ls hl => ?_)
                        have hi9 : z_166.toInt = ii.toInt + 1 := by rw [ez_166]; exact inc1 (n := 1000) (by omega) (by decide +kernel)
                        refine lv_goto (tgt := 57) hx hb dX12_pour_150 (by decide +kernel) ?_
                        exact ih (z_166, le, n_163, g2, f_164) ls _ _ ⟨lv_sub hl [0, 3, 4, 5, 6, 7, 8, 9] rfl, hP.sub [0, 1, 2, 3, 4, 5, 6, 7, 8, 9] rfl, hD.sub [0, 1, 2, 3, 4, 5, 6, 7, 8, 9] (by decide +kernel) rfl, hS, ⟨(by (try dsimp only); omega), (by (try dsimp only); exact pour_stepY (by omega) hi9 hp1 hp2 hp3 hp4 hzF hM (by omega) (hap.1 (by omega)).1 (hap.1 (by omega)).2)⟩⟩ (by (try dsimp only); omega)
                      · refine lv_if_eq (tgt := 134) hx hb dX12_pour_128 (by decide +kernel) (fun _ => ?_) (fun c9 => absurd c9 (by decide +kernel))
                        refine lv_aload hx hb dX12_pour_134 (lv_at hl 5 rfl) ?_
                        refine va_get (D := D) (ci := 0) (v := .ref a2) (C := RX1) (T := TX1) (N := 2) hx hb hts in_X12_pour_X1 hown hE.1 hP 6 rfl rfl 1 (by decide +kernel) (hts (.fieldLink RX12 308 "ClauseBook$Bag" "numbers" "[I") (List.mem_of_getElem? (i := 3) rfl)) (fun _ h9 => h9) rfl dX12_pour_136 ?_
                        refine lv_iload hx hb dX12_pour_139 (lv_at hl 3 rfl) ?_
                        refine lv_iload hx hb dX12_pour_141 (lv_at hl 1 rfl) ?_
                        refine va_iast hx hb hE.1 hP hD hS 9 0 rfl rfl (by rw [vp_in_iff]; first | omega | (subst_vars; rw [dec1 (by omega)]; omega) | (subst_vars; rw [inc1 (n := 1000) (by omega) (by decide +kernel)]; omega)) dX12_pour_143 (fun H locs hP hD hS => ?_)
                        obtain ⟨hP, hD⟩ := wPD [(h0, .inr (9, fs0)), (h1, .inl (T 5, 3, .inr (.inr (.inr (.inr (va_up (va_up (va_up (fun _ => none) 0 (some t0)) 1 (some t1)) 2 (some t2))))))), (h2, .inr (1, fs2)), (h4, .inl (T 0, 24, .inl fk)), (t0, .inr (0, [.int (bn 0), .ref a0])), (t1, .inr (0, [.int n_163, .ref a1])), (t2, .inr (0, [.int (bn 2), .ref a2])), (a0, .inl (T 0, 12, .inl (bf 0))), (a1, .inl (T 0, 12, .inl f_164)), (a2, .inl (T 0, 12, .inl (upd g2 (le.toNatClampNeg) z_145)))] hP hD rfl
                        obtain ⟨z_167, ez_167⟩ : ∃ y : Int32, y = le + 1 := ⟨_, rfl⟩
                        refine lv_iinc (v := z_167) (lv' := [(6, .int z_167), (9, .int 1), (8, .int z_145), (7, .int ii), (5, .int (bn 2)), (4, .ref t2), (0, .ref h0), (1, .int 2), (2, .int 1), (3, .int x3)]) hx hb dX12_pour_144 hl (k := 3) rfl (by rw [ez_167]; rfl) (by decide +kernel) rfl (fun ls hl => ?_)
                        obtain ⟨z_168, ez_168⟩ : ∃ y : Int32, y = ii + 1 := ⟨_, rfl⟩
                        refine lv_iinc (v := z_168) (lv' := [(7, .int z_168), (6, .int z_167), (9, .int 1), (8, .int z_145), (5, .int (bn 2)), (4, .ref t2), (0, .ref h0), (1, .int 2), (2, .int 1), (3, .int x3)]) hx hb dX12_pour_147 hl (k := 3) rfl (by rw [ez_168]; rfl) (by decide +kernel) rfl (fun ls hl => ?_)
                        have hi9 : z_168.toInt = ii.toInt + 1 := by rw [ez_168]; exact inc1 (n := 1000) (by omega) (by decide +kernel)
                        have hl9 : z_167.toInt = le.toInt + 1 := by rw [ez_167]; exact inc1 (n := 1000) (by omega) (by decide +kernel)
                        refine lv_goto (tgt := 57) hx hb dX12_pour_150 (by decide +kernel) ?_
                        exact ih (z_168, z_167, n_163, (upd g2 (le.toNatClampNeg) z_145), f_164) ls _ _ ⟨lv_sub hl [0, 1, 4, 5, 6, 7, 8, 9] rfl, hP.sub [0, 1, 2, 3, 4, 5, 6, 7, 8, 9] rfl, hD.sub [0, 1, 2, 3, 4, 5, 6, 7, 8, 9] (by decide +kernel) rfl, hS, ⟨(by (try dsimp only); omega), (by (try dsimp only); exact pour_stepN (by omega) (by omega) hi9 hp1 hp2 hp3 hp4 hzF (fun h9 => by first | exact hM h9.1 | omega) hl9 rfl (by rw [(hap.2 (by omega)).1]) (hap.2 (by omega)).2)⟩⟩ (by (try dsimp only); omega)
                  · refine lv_if_eq (tgt := 109) hx hb dX12_pour_88 (by decide +kernel) (fun _ => ?_) (fun c9 => absurd c9 (by decide +kernel))
                    refine lv_iconst (v := 0) hx hb dX12_pour_109 (by decide +kernel) ?_
                    refine lv_istore (lv' := [(9, .int 0), (8, .int z_145), (7, .int ii), (6, .int le), (5, .int (bn 2)), (4, .ref t2), (0, .ref h0), (1, .int 2), (2, .int 1), (3, .int x3)]) hx hb dX12_pour_110 hl (by decide +kernel) rfl (fun ls hl => ?_)
                    have hM : ¬ prP x3 n9 fk z_145 = true := fun h9 => by rcases of_decide_eq_true h9 with h8 | ⟨h8, h7⟩ <;> first | omega | (rw [← ez_157] at h7; omega)
                    refine lv_iload hx hb dX12_pour_112 (lv_at hl 0 rfl) ?_
                    refine lv_if_eq (tgt := 134) hx hb dX12_pour_114 (by decide +kernel) (fun _ => ?_) (fun c9 => absurd c9 (by decide +kernel))
                    refine lv_aload hx hb dX12_pour_134 (lv_at hl 5 rfl) ?_
                    refine va_get (D := D) (ci := 0) (v := .ref a2) (C := RX1) (T := TX1) (N := 2) hx hb hts in_X12_pour_X1 hown hE.1 hP 6 rfl rfl 1 (by decide +kernel) (hts (.fieldLink RX12 308 "ClauseBook$Bag" "numbers" "[I") (List.mem_of_getElem? (i := 3) rfl)) (fun _ h9 => h9) rfl dX12_pour_136 ?_
                    refine lv_iload hx hb dX12_pour_139 (lv_at hl 3 rfl) ?_
                    refine lv_iload hx hb dX12_pour_141 (lv_at hl 1 rfl) ?_
                    refine va_iast hx hb hE.1 hP hD hS 9 0 rfl rfl (by rw [vp_in_iff]; first | omega | (subst_vars; rw [dec1 (by omega)]; omega) | (subst_vars; rw [inc1 (n := 1000) (by omega) (by decide +kernel)]; omega)) dX12_pour_143 (fun H locs hP hD hS => ?_)
                    obtain ⟨hP, hD⟩ := wPD [(h0, .inr (9, fs0)), (h1, .inl (T 5, 3, .inr (.inr (.inr (.inr (va_up (va_up (va_up (fun _ => none) 0 (some t0)) 1 (some t1)) 2 (some t2))))))), (h2, .inr (1, fs2)), (h4, .inl (T 0, 24, .inl fk)), (t0, .inr (0, [.int (bn 0), .ref a0])), (t1, .inr (0, [.int qq, .ref a1])), (t2, .inr (0, [.int (bn 2), .ref a2])), (a0, .inl (T 0, 12, .inl (bf 0))), (a1, .inl (T 0, 12, .inl g1)), (a2, .inl (T 0, 12, .inl (upd g2 (le.toNatClampNeg) z_145)))] hP hD rfl
                    obtain ⟨z_169, ez_169⟩ : ∃ y : Int32, y = le + 1 := ⟨_, rfl⟩
                    refine lv_iinc (v := z_169) (lv' := [(6, .int z_169), (9, .int 0), (8, .int z_145), (7, .int ii), (5, .int (bn 2)), (4, .ref t2), (0, .ref h0), (1, .int 2), (2, .int 1), (3, .int x3)]) hx hb dX12_pour_144 hl (k := 3) rfl (by rw [ez_169]; rfl) (by decide +kernel) rfl (fun ls hl => ?_)
                    obtain ⟨z_170, ez_170⟩ : ∃ y : Int32, y = ii + 1 := ⟨_, rfl⟩
                    refine lv_iinc (v := z_170) (lv' := [(7, .int z_170), (6, .int z_169), (9, .int 0), (8, .int z_145), (5, .int (bn 2)), (4, .ref t2), (0, .ref h0), (1, .int 2), (2, .int 1), (3, .int x3)]) hx hb dX12_pour_147 hl (k := 3) rfl (by rw [ez_170]; rfl) (by decide +kernel) rfl (fun ls hl => ?_)
                    have hi9 : z_170.toInt = ii.toInt + 1 := by rw [ez_170]; exact inc1 (n := 1000) (by omega) (by decide +kernel)
                    have hl9 : z_169.toInt = le.toInt + 1 := by rw [ez_169]; exact inc1 (n := 1000) (by omega) (by decide +kernel)
                    refine lv_goto (tgt := 57) hx hb dX12_pour_150 (by decide +kernel) ?_
                    exact ih (z_170, z_169, qq, (upd g2 (le.toNatClampNeg) z_145), g1) ls _ _ ⟨lv_sub hl [0, 1, 4, 5, 6, 7, 8, 9] rfl, hP.sub [0, 1, 2, 3, 4, 5, 6, 7, 8, 9] rfl, hD.sub [0, 1, 2, 3, 4, 5, 6, 7, 8, 9] (by decide +kernel) rfl, hS, ⟨(by (try dsimp only); omega), (by (try dsimp only); exact pour_stepN (by omega) (by omega) hi9 hp1 hp2 hp3 hp4 hzF (fun h9 => by first | exact hM h9.1 | omega) hl9 rfl rfl rfl)⟩⟩ (by (try dsimp only); omega)
            · omega
        · refine lv_if_ne (tgt := 36) hx hb dX12_pour_30 (by decide +kernel) (fun c9 => absurd c9 (by decide +kernel)) (fun _ => ?_)
          refine lv_bipush (v := (-2)) hx hb dX12_pour_33 (by decide +kernel) ?_
          exact W.iret hx hb hr (fun t ht hW => ⟨⟨_, ((fun k => [(bn 0), (bn 1), (bn 2)].getD k 0), (fun k => [(bf 0), (bf 1), (bf 2)].getD k (bf 0))), rfl, ⟨(show 0 ≤ ((bn 0)).toInt ∧ ((bn 0)).toInt ≤ 12 from by (try subst_vars); first | omega | (rw [dec1 (by omega)]; omega)), (show 0 ≤ ((bn 1)).toInt ∧ ((bn 1)).toInt ≤ 12 from by (try subst_vars); first | omega | (rw [dec1 (by omega)]; omega)), (show 0 ≤ ((bn 2)).toInt ∧ ((bn 2)).toInt ≤ 12 from by (try subst_vars); first | omega | (rw [dec1 (by omega)]; omega)), (Or.inl ⟨(fun h9 => by obtain ⟨⟨h1, h2⟩, h3, h4⟩ := h9; omega), (by decide +kernel), all3 ⟨rfl, rfl⟩ ⟨rfl, rfl⟩ ⟨rfl, rfl⟩⟩)⟩, by rw [ht]; exact hP.sub [0, 1, 2, 3, 4, 5, 6, 7, 8, 9] rfl, hD.sub [0, 1, 2, 3, 4, 5, 6, 7, 8, 9] (by decide +kernel) rfl⟩, hS.F ht⟩) hS.2.2 dX12_pour_35
    · refine lv_if_eq (tgt := 33) hx hb dX12_pour_11 (by decide +kernel) (fun _ => ?_) (fun c9 => absurd c9 (by decide +kernel))
      refine lv_bipush (v := (-2)) hx hb dX12_pour_33 (by decide +kernel) ?_
      exact W.iret hx hb hr (fun t ht hW => ⟨⟨_, ((fun k => [(bn 0), (bn 1), (bn 2)].getD k 0), (fun k => [(bf 0), (bf 1), (bf 2)].getD k (bf 0))), rfl, ⟨(show 0 ≤ ((bn 0)).toInt ∧ ((bn 0)).toInt ≤ 12 from by (try subst_vars); first | omega | (rw [dec1 (by omega)]; omega)), (show 0 ≤ ((bn 1)).toInt ∧ ((bn 1)).toInt ≤ 12 from by (try subst_vars); first | omega | (rw [dec1 (by omega)]; omega)), (show 0 ≤ ((bn 2)).toInt ∧ ((bn 2)).toInt ≤ 12 from by (try subst_vars); first | omega | (rw [dec1 (by omega)]; omega)), (Or.inl ⟨(fun h9 => by obtain ⟨⟨h1, h2⟩, h3, h4⟩ := h9; omega), (by decide +kernel), all3 ⟨rfl, rfl⟩ ⟨rfl, rfl⟩ ⟨rfl, rfl⟩⟩)⟩, by rw [ht]; exact hP.sub [0, 1, 2, 3, 4, 5, 6, 7, 8, 9] rfl, hD.sub [0, 1, 2, 3, 4, 5, 6, 7, 8, 9] (by decide +kernel) rfl⟩, hS.F ht⟩) hS.2.2 dX12_pour_35
  · refine lv_if_eq (tgt := 33) hx hb dX12_pour_4 (by decide +kernel) (fun _ => ?_) (fun c9 => absurd c9 (by decide +kernel))
    refine lv_bipush (v := (-2)) hx hb dX12_pour_33 (by decide +kernel) ?_
    exact W.iret hx hb hr (fun t ht hW => ⟨⟨_, ((fun k => [(bn 0), (bn 1), (bn 2)].getD k 0), (fun k => [(bf 0), (bf 1), (bf 2)].getD k (bf 0))), rfl, ⟨(show 0 ≤ ((bn 0)).toInt ∧ ((bn 0)).toInt ≤ 12 from by (try subst_vars); first | omega | (rw [dec1 (by omega)]; omega)), (show 0 ≤ ((bn 1)).toInt ∧ ((bn 1)).toInt ≤ 12 from by (try subst_vars); first | omega | (rw [dec1 (by omega)]; omega)), (show 0 ≤ ((bn 2)).toInt ∧ ((bn 2)).toInt ≤ 12 from by (try subst_vars); first | omega | (rw [dec1 (by omega)]; omega)), (Or.inl ⟨(fun h9 => by obtain ⟨⟨h1, h2⟩, h3, h4⟩ := h9; omega), (by decide +kernel), all3 ⟨rfl, rfl⟩ ⟨rfl, rfl⟩ ⟨rfl, rfl⟩⟩)⟩, by rw [ht]; exact hP.sub [0, 1, 2, 3, 4, 5, 6, 7, 8, 9] rfl, hD.sub [0, 1, 2, 3, 4, 5, 6, 7, 8, 9] (by decide +kernel) rfl⟩, hS.F ht⟩) hS.2.2 dX12_pour_35
