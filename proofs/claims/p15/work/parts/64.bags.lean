theorem bg_up {f : Nat → Int32} {x v : Int32} (h : ∀ k : Nat, k < 3 → 0 ≤ (f k).toInt ∧ (f k).toInt ≤ 12) (hv : 0 ≤ v.toInt ∧ v.toInt ≤ 12) : ∀ k : Nat, k < 3 → 0 ≤ (upd f x.toNatClampNeg v k).toInt ∧ (upd f x.toNatClampNeg v k).toInt ≤ 12 := by
  intro k hk
  simp only [upd]
  split
  · exact hv
  · exact h k hk
theorem tn3 {x : Int32} {k : Nat} (h : 0 ≤ x.toInt) (h2 : x.toInt < k) : x.toNatClampNeg < k := by
  have := tn h
  omega
theorem ix12 {b z : Int32} (hb : 0 ≤ b.toInt ∧ b.toInt ≤ 2) (hz : 0 ≤ z.toInt ∧ z.toInt ≤ 12) : ((12 * b) + z).toNatClampNeg = 12 * b.toNatClampNeg + z.toNatClampNeg := by
  have e12 : (12 : Int32).toInt = 12 := by decide
  have h1 : (12 * b).toInt = 12 * b.toInt := by rw [fb_mulI (by rw [e12]; omega) (by rw [e12]; omega), e12]
  have h2 : ((12 * b) + z).toInt = 12 * b.toInt + z.toInt := by rw [fb_addI (by omega) (by omega), h1]
  have t1 := tn hb.1
  have t2 := tn hz.1
  have t3 := tn (x := (12 * b) + z) (by omega)
  omega
theorem dX13_put_0 : decode cX13_put 0 = .ok (.iload_n 1, 1) := by decide +kernel
theorem dX13_put_1 : decode cX13_put 1 = .ok (.invokestatic 405, 3) := by decide +kernel
theorem dX13_put_12 : decode cX13_put 12 = .ok (.ifCond .ne 6, 3) := by decide +kernel
theorem dX13_put_15 : decode cX13_put 15 = .ok (.bipush (-2), 2) := by decide +kernel
theorem dX13_put_17 : decode cX13_put 17 = .ok (.ireturn, 1) := by decide +kernel
theorem dX13_put_18 : decode cX13_put 18 = .ok (.aload_n 0, 1) := by decide +kernel
theorem dX13_put_19 : decode cX13_put 19 = .ok (.getfield 44, 3) := by decide +kernel
theorem dX13_put_22 : decode cX13_put 22 = .ok (.iload_n 1, 1) := by decide +kernel
theorem dX13_put_23 : decode cX13_put 23 = .ok (.iaload, 1) := by decide +kernel
theorem dX13_put_24 : decode cX13_put 24 = .ok (.bipush 12, 2) := by decide +kernel
theorem dX13_put_26 : decode cX13_put 26 = .ok (.if_icmp .ne 6, 3) := by decide +kernel
theorem dX13_put_29 : decode cX13_put 29 = .ok (.bipush (-4), 2) := by decide +kernel
theorem dX13_put_31 : decode cX13_put 31 = .ok (.ireturn, 1) := by decide +kernel
theorem dX13_put_32 : decode cX13_put 32 = .ok (.aload_n 0, 1) := by decide +kernel
theorem dX13_put_33 : decode cX13_put 33 = .ok (.getfield 41, 3) := by decide +kernel
theorem dX13_put_36 : decode cX13_put 36 = .ok (.bipush 12, 2) := by decide +kernel
theorem dX13_put_38 : decode cX13_put 38 = .ok (.iload_n 1, 1) := by decide +kernel
theorem dX13_put_39 : decode cX13_put 39 = .ok (.imul, 1) := by decide +kernel
theorem dX13_put_4 : decode cX13_put 4 = .ok (.ifCond .eq 11, 3) := by decide +kernel
theorem dX13_put_40 : decode cX13_put 40 = .ok (.aload_n 0, 1) := by decide +kernel
theorem dX13_put_41 : decode cX13_put 41 = .ok (.getfield 44, 3) := by decide +kernel
theorem dX13_put_44 : decode cX13_put 44 = .ok (.iload_n 1, 1) := by decide +kernel
theorem dX13_put_45 : decode cX13_put 45 = .ok (.iaload, 1) := by decide +kernel
theorem dX13_put_46 : decode cX13_put 46 = .ok (.iadd, 1) := by decide +kernel
theorem dX13_put_47 : decode cX13_put 47 = .ok (.iload_n 2, 1) := by decide +kernel
theorem dX13_put_48 : decode cX13_put 48 = .ok (.iastore, 1) := by decide +kernel
theorem dX13_put_49 : decode cX13_put 49 = .ok (.aload_n 0, 1) := by decide +kernel
theorem dX13_put_50 : decode cX13_put 50 = .ok (.getfield 44, 3) := by decide +kernel
theorem dX13_put_53 : decode cX13_put 53 = .ok (.iload_n 1, 1) := by decide +kernel
theorem dX13_put_54 : decode cX13_put 54 = .ok (.dup2, 1) := by decide +kernel
theorem dX13_put_55 : decode cX13_put 55 = .ok (.iaload, 1) := by decide +kernel
theorem dX13_put_56 : decode cX13_put 56 = .ok (.iconst 1, 1) := by decide +kernel
theorem dX13_put_57 : decode cX13_put 57 = .ok (.iadd, 1) := by decide +kernel
theorem dX13_put_58 : decode cX13_put 58 = .ok (.iastore, 1) := by decide +kernel
theorem dX13_put_59 : decode cX13_put 59 = .ok (.aload_n 0, 1) := by decide +kernel
theorem dX13_put_60 : decode cX13_put 60 = .ok (.getfield 44, 3) := by decide +kernel
theorem dX13_put_63 : decode cX13_put 63 = .ok (.iload_n 1, 1) := by decide +kernel
theorem dX13_put_64 : decode cX13_put 64 = .ok (.iaload, 1) := by decide +kernel
theorem dX13_put_65 : decode cX13_put 65 = .ok (.ireturn, 1) := by decide +kernel
theorem dX13_put_7 : decode cX13_put 7 = .ok (.aload_n 0, 1) := by decide +kernel
theorem dX13_put_8 : decode cX13_put 8 = .ok (.iload_n 2, 1) := by decide +kernel
theorem dX13_put_9 : decode cX13_put 9 = .ok (.invokevirtual 233, 3) := by decide +kernel
set_option maxRecDepth 20000 in
theorem ggX13_put_X13_isBag : GoodIn wsX13_put wsX13_isBag := goodIn_r _ [6, 7, 8, 9, 5, 10] rfl (by decide +kernel)
set_option maxRecDepth 20000 in
theorem ggX13_put_X13_isClause : GoodIn wsX13_put wsX13_isClause := goodIn_r _ [14, 15, 8, 9, 5, 10, 16, 17, 18, 19, 20, 21, 22, 23, 24, 25, 26, 27, 28, 29, 30, 31, 32, 33, 34, 35, 36, 37, 38, 39, 40, 41, 42, 43, 44, 45, 46, 47, 48, 49, 50, 51, 52, 53, 54, 55, 56, 57, 58, 59, 60] rfl (by decide +kernel)
set_option maxRecDepth 20000 in
theorem gX13_put_X13_isBag : GoodIn wsX13_put (va_wsS RX13 405 yX13_isBag wsX13_isBag) := goodIn_app (goodIn_of _ (by decide +kernel)) ggX13_put_X13_isBag
set_option maxRecDepth 20000 in
theorem gX13_put_X13_isClause : GoodIn wsX13_put (wsV RX13 233 RX13 yX13_isClause wsX13_isClause) := goodIn_app (goodIn_r _ [11, 12, 13, 5] rfl (by decide +kernel)) ggX13_put_X13_isClause
theorem hs_X13_isBag : yX13_isBag.cls ≠ "java/lang/invoke/MethodHandle" ∧ yX13_isBag.cls ≠ "java/lang/invoke/VarHandle" ∧ (parseMethodDescriptor yX13_isBag.desc).map (fun d => d.parameters.length) = some 1 := by decide +kernel
set_option maxRecDepth 20000 in
theorem in_X13_put_X13 : ∀ w ∈ wsX130, w ∈ wsX13_put := sub_r [16, 17, 18, 19, 20, 21, 22, 23, 24, 25, 26, 27, 28, 29, 30, 31, 32, 33, 34, 35, 36, 37, 38, 39, 40, 41, 42, 43, 44, 45, 46, 47, 48, 49, 50, 51, 52, 53, 54, 55, 56, 57, 58, 59, 60] rfl
set_option maxHeartbeats 4000000 in
set_option maxRecDepth 100000 in
theorem c_X13_put (l : Launch) (D : va_G) (T : Nat → ClassId) (sz : Nat) (h0 : Nat) (q : Nat → Int32) (v : Int64) (w : Int64) (a : Nat → Nat) (f12 : Nat → Int32) (f13 : Nat → Int32) (x1 : Int32) (x2 : Int32) (hm : 0 ≤ (q 7).toInt ∧ (q 7).toInt ≤ 24) (hbg : ∀ k : Nat, k < 3 → 0 ≤ (f13 k).toInt ∧ (f13 k).toInt ≤ 12) : Met l yX13_put wsX13_put ({ frames := 2, cells := 0, slots := 0, locals := 46 }) (pW [.ref h0, .int x1, .int x2] D T [(h0, .inr (10, (Value.int (q 0) :: Value.int (q 1) :: Value.int (q 2) :: Value.int (q 3) :: Value.int (q 4) :: Value.int (q 5) :: Value.int (q 6) :: Value.int (q 7) :: Value.ref (a 8) :: Value.ref (a 9) :: Value.ref (a 10) :: Value.ref (a 11) :: Value.ref (a 12) :: Value.ref (a 13) :: Value.int (q 14) :: Value.long v :: Value.long w :: Value.ref (a 17) :: Value.ref (a 18) :: Value.ref (a 19) :: Value.ref (a 20) :: Value.ref (a 21) :: Value.ref (a 22) :: Value.ref (a 23) :: Value.int (q 24) :: Value.ref (a 25) :: Value.int (q 26) :: Value.ref (a 27) :: Value.int (q 28) :: Value.int (q 29) :: Value.int (q 30) :: Value.int (q 31) :: Value.int (q 32) :: Value.int (q 33) :: Value.ref (a 34) :: Value.ref (a 35) :: Value.ref (a 36) :: Value.ref (a 37) :: Value.ref (a 38) :: Value.ref (a 39) :: Value.ref (a 40) :: Value.int (q 41) :: Value.ref (a 42) :: Value.int (q 43) :: Value.int (q 44) :: []))), ((a 12), .inl (T 0, 36, .inl f12)), ((a 13), .inl (T 0, 3, .inl f13))] sz) (va_Qi (fun (r : Int32) (u : (Nat → Int32) × (Nat → Int32)) => (∀ k : Nat, k < 3 → 0 ≤ (u.2 k).toInt ∧ (u.2 k).toInt ≤ 12) ∧ (putR (q 7) x1 x2 r f13 u.2 f12 u.1)) (bW D (va_A [(h0, .inr (10, (Value.int (q 0) :: Value.int (q 1) :: Value.int (q 2) :: Value.int (q 3) :: Value.int (q 4) :: Value.int (q 5) :: Value.int (q 6) :: Value.int (q 7) :: Value.ref (a 8) :: Value.ref (a 9) :: Value.ref (a 10) :: Value.ref (a 11) :: Value.ref (a 12) :: Value.ref (a 13) :: Value.int (q 14) :: Value.long v :: Value.long w :: Value.ref (a 17) :: Value.ref (a 18) :: Value.ref (a 19) :: Value.ref (a 20) :: Value.ref (a 21) :: Value.ref (a 22) :: Value.ref (a 23) :: Value.int (q 24) :: Value.ref (a 25) :: Value.int (q 26) :: Value.ref (a 27) :: Value.int (q 28) :: Value.int (q 29) :: Value.int (q 30) :: Value.int (q 31) :: Value.int (q 32) :: Value.int (q 33) :: Value.ref (a 34) :: Value.ref (a 35) :: Value.ref (a 36) :: Value.ref (a 37) :: Value.ref (a 38) :: Value.ref (a 39) :: Value.ref (a 40) :: Value.int (q 41) :: Value.ref (a 42) :: Value.int (q 43) :: Value.int (q 44) :: []))), ((a 12), .inl (T 0, 36, .inl f12)), ((a 13), .inl (T 0, 3, .inl f13))] sz) (fun (u : (Nat → Int32) × (Nat → Int32)) => [(h0, .inr (10, (Value.int (q 0) :: Value.int (q 1) :: Value.int (q 2) :: Value.int (q 3) :: Value.int (q 4) :: Value.int (q 5) :: Value.int (q 6) :: Value.int (q 7) :: Value.ref (a 8) :: Value.ref (a 9) :: Value.ref (a 10) :: Value.ref (a 11) :: Value.ref (a 12) :: Value.ref (a 13) :: Value.int (q 14) :: Value.long v :: Value.long w :: Value.ref (a 17) :: Value.ref (a 18) :: Value.ref (a 19) :: Value.ref (a 20) :: Value.ref (a 21) :: Value.ref (a 22) :: Value.ref (a 23) :: Value.int (q 24) :: Value.ref (a 25) :: Value.int (q 26) :: Value.ref (a 27) :: Value.int (q 28) :: Value.int (q 29) :: Value.int (q 30) :: Value.int (q 31) :: Value.int (q 32) :: Value.int (q 33) :: Value.ref (a 34) :: Value.ref (a 35) :: Value.ref (a 36) :: Value.ref (a 37) :: Value.ref (a 38) :: Value.ref (a 39) :: Value.ref (a 40) :: Value.int (q 41) :: Value.ref (a 42) :: Value.int (q 43) :: Value.int (q 44) :: []))), ((a 12), .inl (T 0, 36, .inl u.1)), ((a 13), .inl (T 0, 3, .inl u.2))])) (va_A [(h0, .inr (10, (Value.int (q 0) :: Value.int (q 1) :: Value.int (q 2) :: Value.int (q 3) :: Value.int (q 4) :: Value.int (q 5) :: Value.int (q 6) :: Value.int (q 7) :: Value.ref (a 8) :: Value.ref (a 9) :: Value.ref (a 10) :: Value.ref (a 11) :: Value.ref (a 12) :: Value.ref (a 13) :: Value.int (q 14) :: Value.long v :: Value.long w :: Value.ref (a 17) :: Value.ref (a 18) :: Value.ref (a 19) :: Value.ref (a 20) :: Value.ref (a 21) :: Value.ref (a 22) :: Value.ref (a 23) :: Value.int (q 24) :: Value.ref (a 25) :: Value.int (q 26) :: Value.ref (a 27) :: Value.int (q 28) :: Value.int (q 29) :: Value.int (q 30) :: Value.int (q 31) :: Value.int (q 32) :: Value.int (q 33) :: Value.ref (a 34) :: Value.ref (a 35) :: Value.ref (a 36) :: Value.ref (a 37) :: Value.ref (a 38) :: Value.ref (a 39) :: Value.ref (a 40) :: Value.int (q 41) :: Value.ref (a 42) :: Value.int (q 43) :: Value.int (q 44) :: []))), ((a 12), .inl (T 0, 36, .inl f12)), ((a 13), .inl (T 0, 3, .inl f13))] sz)) 0 0 (va_A [(h0, .inr (10, (Value.int (q 0) :: Value.int (q 1) :: Value.int (q 2) :: Value.int (q 3) :: Value.int (q 4) :: Value.int (q 5) :: Value.int (q 6) :: Value.int (q 7) :: Value.ref (a 8) :: Value.ref (a 9) :: Value.ref (a 10) :: Value.ref (a 11) :: Value.ref (a 12) :: Value.ref (a 13) :: Value.int (q 14) :: Value.long v :: Value.long w :: Value.ref (a 17) :: Value.ref (a 18) :: Value.ref (a 19) :: Value.ref (a 20) :: Value.ref (a 21) :: Value.ref (a 22) :: Value.ref (a 23) :: Value.int (q 24) :: Value.ref (a 25) :: Value.int (q 26) :: Value.ref (a 27) :: Value.int (q 28) :: Value.int (q 29) :: Value.int (q 30) :: Value.int (q 31) :: Value.int (q 32) :: Value.int (q 33) :: Value.ref (a 34) :: Value.ref (a 35) :: Value.ref (a 36) :: Value.ref (a 37) :: Value.ref (a 38) :: Value.ref (a 39) :: Value.ref (a 40) :: Value.int (q 41) :: Value.ref (a 42) :: Value.int (q 43) :: Value.int (q 44) :: []))), ((a 12), .inl (T 0, 36, .inl f12)), ((a 13), .inl (T 0, 3, .inl f13))] sz) := by
  refine Met.ofW (cc := cX13_put) (maxL := 3) (ret := (some .int)) (by decide +kernel) rfl ?_
  intro p e s m args below meth c s₁ B hml hv
  obtain ⟨rfl, hsz, hP, hE, hD0⟩ := hv
  have hx := B.exec
  have hb := B.bytes
  have hr := B.returns
  have hts := atoms_spec (ws := wsX13_put) B.pre
  have hown : s.vm.findClass RX13 = some m.cls := findClass_of_methodNamed B.named
  have hlocks := B.notSynchronized
  subst hsz
  have hD := hD0.self (sz := s.heap.size)
  generalize hAe : va_A [(h0, .inr (10, (Value.int (q 0) :: Value.int (q 1) :: Value.int (q 2) :: Value.int (q 3) :: Value.int (q 4) :: Value.int (q 5) :: Value.int (q 6) :: Value.int (q 7) :: Value.ref (a 8) :: Value.ref (a 9) :: Value.ref (a 10) :: Value.ref (a 11) :: Value.ref (a 12) :: Value.ref (a 13) :: Value.int (q 14) :: Value.long v :: Value.long w :: Value.ref (a 17) :: Value.ref (a 18) :: Value.ref (a 19) :: Value.ref (a 20) :: Value.ref (a 21) :: Value.ref (a 22) :: Value.ref (a 23) :: Value.int (q 24) :: Value.ref (a 25) :: Value.int (q 26) :: Value.ref (a 27) :: Value.int (q 28) :: Value.int (q 29) :: Value.int (q 30) :: Value.int (q 31) :: Value.int (q 32) :: Value.int (q 33) :: Value.ref (a 34) :: Value.ref (a 35) :: Value.ref (a 36) :: Value.ref (a 37) :: Value.ref (a 38) :: Value.ref (a 39) :: Value.ref (a 40) :: Value.int (q 41) :: Value.ref (a 42) :: Value.int (q 43) :: Value.int (q 44) :: []))), ((a 12), .inl (T 0, 36, .inl f12)), ((a 13), .inl (T 0, 3, .inl f13))] s.heap.size = A at hD ⊢
  have hA : ∀ q : Nat, s.heap.size ≤ q → A q := fun q h => by rw [← hAe]; exact Or.inr h
  have hS : va_S A s.heap s.heap [] := va_S.rf
  have hP : va_P D vwCl [(h0, .inr (10, (Value.int (q 0) :: Value.int (q 1) :: Value.int (q 2) :: Value.int (q 3) :: Value.int (q 4) :: Value.int (q 5) :: Value.int (q 6) :: Value.int (q 7) :: Value.ref (a 8) :: Value.ref (a 9) :: Value.ref (a 10) :: Value.ref (a 11) :: Value.ref (a 12) :: Value.ref (a 13) :: Value.int (q 14) :: Value.long v :: Value.long w :: Value.ref (a 17) :: Value.ref (a 18) :: Value.ref (a 19) :: Value.ref (a 20) :: Value.ref (a 21) :: Value.ref (a 22) :: Value.ref (a 23) :: Value.int (q 24) :: Value.ref (a 25) :: Value.int (q 26) :: Value.ref (a 27) :: Value.int (q 28) :: Value.int (q 29) :: Value.int (q 30) :: Value.int (q 31) :: Value.int (q 32) :: Value.int (q 33) :: Value.ref (a 34) :: Value.ref (a 35) :: Value.ref (a 36) :: Value.ref (a 37) :: Value.ref (a 38) :: Value.ref (a 39) :: Value.ref (a 40) :: Value.int (q 41) :: Value.ref (a 42) :: Value.int (q 43) :: Value.int (q 44) :: []))), ((a 12), .inl (T 0, 36, .inl f12)), ((a 13), .inl (T 0, 3, .inl f13))] s.heap := hP
  have hl := lv_entry ([.ref h0, .int x1, .int x2]) (n := 3) (Nat.le_of_ble_eq_true rfl)
  rw [lg_entry_eq]
  generalize (lg_sl ([.ref h0, .int x1, .int x2]) ++ List.replicate (3 - (lg_sl ([.ref h0, .int x1, .int x2])).length) Slot.unset).toArray = ls at hl ⊢
  have hl : lv_has ls 3 [(0, .ref h0), (1, .int x1), (2, .int x2)] := hl
  clear hD0
  refine lv_iload_n hx hb dX13_put_0 rfl (lv_at hl 1 rfl) ?_
  refine vp_callSi (W.runS (As := [.int x1]) (rest := []) ⟨hx, hb, hml, hown, hts⟩ (c_X13_isBag l D T x1) (va_cwS 1 hts gX13_put_X13_isBag rfl rfl rfl hs_X13_isBag ⟨Nat.le_of_ble_eq_true rfl, Nat.le_of_ble_eq_true rfl⟩) (pR_S hP hE [] rfl) rfl rfl hl.1 rfl (lv_room (Nat.le_of_ble_eq_true rfl)) dX13_put_1 ⟨Nat.le_of_ble_eq_true rfl, Nat.le_of_ble_eq_true rfl⟩) (fun r_1 hr_1 => ?_)
  rcases bool_post hr_1 with ⟨c_2, rfl⟩ | ⟨c_2, rfl⟩
  · refine lv_if_eq (tgt := 15) hx hb dX13_put_4 (by decide +kernel) (fun c9 => absurd c9 (by decide +kernel)) (fun _ => ?_)
    refine lv_aload_n hx hb dX13_put_7 rfl (lv_at hl 0 rfl) ?_
    refine lv_iload_n hx hb dX13_put_8 rfl (lv_at hl 2 rfl) ?_
    refine vp_callSi (W.runV (As := [.int x2]) (rest := []) ⟨hx, hb, hml, hown, hts⟩ (c_X13_isClause l D T h0 [.int (q 0), .int (q 1), .int (q 2), .int (q 3), .int (q 4), .int (q 5), .int (q 6), .int (q 7), .ref (a 8), .ref (a 9), .ref (a 10), .ref (a 11), .ref (a 12), .ref (a 13), .int (q 14), .long v, .long w, .ref (a 17), .ref (a 18), .ref (a 19), .ref (a 20), .ref (a 21), .ref (a 22), .ref (a 23), .int (q 24), .ref (a 25), .int (q 26), .ref (a 27), .int (q 28), .int (q 29), .int (q 30), .int (q 31), .int (q 32), .int (q 33), .ref (a 34), .ref (a 35), .ref (a 36), .ref (a 37), .ref (a 38), .ref (a 39), .ref (a 40), .int (q 41), .ref (a 42), .int (q 43), .int (q 44)] x2 (q 7) rfl (by omega)) (cwV 1 hts gX13_put_X13_isClause rfl rfl rfl hv_X13_isClause ⟨Nat.le_of_ble_eq_true rfl, Nat.le_of_ble_eq_true rfl⟩) (pR_V (q := (RX13, TX13, 45)) (ci := 10) (q0 := 0) hP hE rfl rfl [0] rfl) rfl rfl hl.1 rfl (lv_room (Nat.le_of_ble_eq_true rfl)) dX13_put_9 ⟨Nat.le_of_ble_eq_true rfl, Nat.le_of_ble_eq_true rfl⟩) (fun r_3 hr_3 => ?_)
    rcases bool_post hr_3 with ⟨c_4, rfl⟩ | ⟨c_4, rfl⟩
    · refine lv_if_ne (tgt := 18) hx hb dX13_put_12 (by decide +kernel) (fun _ => ?_) (fun c9 => absurd c9 (by decide +kernel))
      refine lv_aload_n hx hb dX13_put_18 rfl (lv_at hl 0 rfl) ?_
      refine va_get (D := D) (ci := 10) (v := .ref (a 13)) (C := RX13) (T := TX13) (N := 45) hx hb hts in_X13_put_X13 hown hE.1 hP 0 rfl rfl 13 (by decide +kernel) (hts (.fieldLink RX13 44 "ClauseBookModel" "bagged" "[I") (List.mem_of_getElem? (i := 1) rfl)) (fun _ h9 => h9) rfl dX13_put_19 ?_
      refine lv_iload_n hx hb dX13_put_22 rfl (lv_at hl 1 rfl) ?_
      refine va_iald hx hb hE.1 hP 2 0 rfl rfl (by rw [vp_in_iff]; first | omega | (rw [fb_addI (by omega) (by omega)]; omega)) dX13_put_23 ?_
      refine lv_topi (fun z_5 ez_5 => ?_)
      have hbz_5 : 0 ≤ z_5.toInt ∧ z_5.toInt ≤ 12 := by rw [ez_5]; exact hbg _ (tn3 (by omega) (by omega))
      refine lv_bipush (v := 12) hx hb dX13_put_24 (by decide +kernel) ?_
      refine lv_icmp_ne (tgt := 32) hx hb dX13_put_26 (by decide +kernel) (fun c_6 => ?_) (fun c_6 => ?_)
      · rw [fa_eq] at c_6
        try rw [ti_12] at c_6
        have h12x1 : (12 * x1).toInt = 12 * x1.toInt := by rw [fb_mulI (by rw [ti_12]; omega) (by rw [ti_12]; omega), ti_12]
        refine lv_aload_n hx hb dX13_put_32 rfl (lv_at hl 0 rfl) ?_
        refine va_get (D := D) (ci := 10) (v := .ref (a 12)) (C := RX13) (T := TX13) (N := 45) hx hb hts in_X13_put_X13 hown hE.1 hP 0 rfl rfl 12 (by decide +kernel) (hts (.fieldLink RX13 41 "ClauseBookModel" "bag" "[I") (List.mem_of_getElem? (i := 2) rfl)) (fun _ h9 => h9) rfl dX13_put_33 ?_
        refine lv_bipush (v := 12) hx hb dX13_put_36 (by decide +kernel) ?_
        refine lv_iload_n hx hb dX13_put_38 rfl (lv_at hl 1 rfl) ?_
        refine lv_imul hx hb dX13_put_39 ?_
        refine lv_aload_n hx hb dX13_put_40 rfl (lv_at hl 0 rfl) ?_
        refine va_get (D := D) (ci := 10) (v := .ref (a 13)) (C := RX13) (T := TX13) (N := 45) hx hb hts in_X13_put_X13 hown hE.1 hP 0 rfl rfl 13 (by decide +kernel) (hts (.fieldLink RX13 44 "ClauseBookModel" "bagged" "[I") (List.mem_of_getElem? (i := 1) rfl)) (fun _ h9 => h9) rfl dX13_put_41 ?_
        refine lv_iload_n hx hb dX13_put_44 rfl (lv_at hl 1 rfl) ?_
        refine va_iald hx hb hE.1 hP 2 0 rfl rfl (by rw [vp_in_iff]; first | omega | (rw [fb_addI (by omega) (by omega)]; omega)) dX13_put_45 ?_
        refine lv_topi (fun z_7 ez_7 => ?_)
        have hbz_7 : 0 ≤ z_7.toInt ∧ z_7.toInt ≤ 12 := by rw [ez_7]; exact hbg _ (tn3 (by omega) (by omega))
        have hqz_7 : z_7.toInt = z_5.toInt := by rw [ez_7, ez_5]
        refine lv_iadd hx hb dX13_put_46 ?_
        refine lv_iload_n hx hb dX13_put_47 rfl (lv_at hl 2 rfl) ?_
        refine va_iast hx hb hE.1 hP hD hS 1 0 rfl rfl (by rw [vp_in_iff]; first | omega | (rw [fb_addI (by omega) (by omega)]; omega)) dX13_put_48 (fun H locs hP hD hS => ?_)
        obtain ⟨hP, hD⟩ := wPD [(h0, .inr (10, (Value.int (q 0) :: Value.int (q 1) :: Value.int (q 2) :: Value.int (q 3) :: Value.int (q 4) :: Value.int (q 5) :: Value.int (q 6) :: Value.int (q 7) :: Value.ref (a 8) :: Value.ref (a 9) :: Value.ref (a 10) :: Value.ref (a 11) :: Value.ref (a 12) :: Value.ref (a 13) :: Value.int (q 14) :: Value.long v :: Value.long w :: Value.ref (a 17) :: Value.ref (a 18) :: Value.ref (a 19) :: Value.ref (a 20) :: Value.ref (a 21) :: Value.ref (a 22) :: Value.ref (a 23) :: Value.int (q 24) :: Value.ref (a 25) :: Value.int (q 26) :: Value.ref (a 27) :: Value.int (q 28) :: Value.int (q 29) :: Value.int (q 30) :: Value.int (q 31) :: Value.int (q 32) :: Value.int (q 33) :: Value.ref (a 34) :: Value.ref (a 35) :: Value.ref (a 36) :: Value.ref (a 37) :: Value.ref (a 38) :: Value.ref (a 39) :: Value.ref (a 40) :: Value.int (q 41) :: Value.ref (a 42) :: Value.int (q 43) :: Value.int (q 44) :: []))), ((a 12), .inl (T 0, 36, .inl (upd f12 (((12 * x1) + z_7).toNatClampNeg) x2))), ((a 13), .inl (T 0, 3, .inl f13))] hP hD rfl
        refine lv_aload_n hx hb dX13_put_49 rfl (lv_at hl 0 rfl) ?_
        refine va_get (D := D) (ci := 10) (v := .ref (a 13)) (C := RX13) (T := TX13) (N := 45) hx hb hts in_X13_put_X13 hown hE.1 hP 0 rfl rfl 13 (by decide +kernel) (hts (.fieldLink RX13 44 "ClauseBookModel" "bagged" "[I") (List.mem_of_getElem? (i := 1) rfl)) (fun _ h9 => h9) rfl dX13_put_50 ?_
        refine lv_iload_n hx hb dX13_put_53 rfl (lv_at hl 1 rfl) ?_
        refine lv_dup2_11 hx hb dX13_put_54 rfl rfl ?_
        refine va_iald hx hb hE.1 hP 2 0 rfl rfl (by rw [vp_in_iff]; first | omega | (rw [fb_addI (by omega) (by omega)]; omega)) dX13_put_55 ?_
        refine lv_topi (fun z_8 ez_8 => ?_)
        have hbz_8 : 0 ≤ z_8.toInt ∧ z_8.toInt ≤ 12 := by rw [ez_8]; exact hbg _ (tn3 (by omega) (by omega))
        have hqz_8 : z_8.toInt = z_5.toInt := by rw [ez_8, ez_5]
        refine lv_iconst (v := 1) hx hb dX13_put_56 (by decide +kernel) ?_
        refine lv_iadd hx hb dX13_put_57 ?_
        refine lv_topi (fun z_9 ez_9 => ?_)
        have hvz_9 : 0 ≤ z_9.toInt ∧ z_9.toInt ≤ 12 := by rw [ez_9, inc1 (n := 1000) (by omega) (by decide +kernel)]; omega
        refine va_iast hx hb hE.1 hP hD hS 2 0 rfl rfl (by rw [vp_in_iff]; first | omega | (rw [fb_addI (by omega) (by omega)]; omega)) dX13_put_58 (fun H locs hP hD hS => ?_)
        obtain ⟨hP, hD⟩ := wPD [(h0, .inr (10, (Value.int (q 0) :: Value.int (q 1) :: Value.int (q 2) :: Value.int (q 3) :: Value.int (q 4) :: Value.int (q 5) :: Value.int (q 6) :: Value.int (q 7) :: Value.ref (a 8) :: Value.ref (a 9) :: Value.ref (a 10) :: Value.ref (a 11) :: Value.ref (a 12) :: Value.ref (a 13) :: Value.int (q 14) :: Value.long v :: Value.long w :: Value.ref (a 17) :: Value.ref (a 18) :: Value.ref (a 19) :: Value.ref (a 20) :: Value.ref (a 21) :: Value.ref (a 22) :: Value.ref (a 23) :: Value.int (q 24) :: Value.ref (a 25) :: Value.int (q 26) :: Value.ref (a 27) :: Value.int (q 28) :: Value.int (q 29) :: Value.int (q 30) :: Value.int (q 31) :: Value.int (q 32) :: Value.int (q 33) :: Value.ref (a 34) :: Value.ref (a 35) :: Value.ref (a 36) :: Value.ref (a 37) :: Value.ref (a 38) :: Value.ref (a 39) :: Value.ref (a 40) :: Value.int (q 41) :: Value.ref (a 42) :: Value.int (q 43) :: Value.int (q 44) :: []))), ((a 12), .inl (T 0, 36, .inl (upd f12 (((12 * x1) + z_7).toNatClampNeg) x2))), ((a 13), .inl (T 0, 3, .inl (upd f13 (x1.toNatClampNeg) z_9)))] hP hD rfl
        have hbg := bg_up (x := x1) hbg hvz_9
        refine lv_aload_n hx hb dX13_put_59 rfl (lv_at hl 0 rfl) ?_
        refine va_get (D := D) (ci := 10) (v := .ref (a 13)) (C := RX13) (T := TX13) (N := 45) hx hb hts in_X13_put_X13 hown hE.1 hP 0 rfl rfl 13 (by decide +kernel) (hts (.fieldLink RX13 44 "ClauseBookModel" "bagged" "[I") (List.mem_of_getElem? (i := 1) rfl)) (fun _ h9 => h9) rfl dX13_put_60 ?_
        refine lv_iload_n hx hb dX13_put_63 rfl (lv_at hl 1 rfl) ?_
        refine va_iald hx hb hE.1 hP 2 0 rfl rfl (by rw [vp_in_iff]; first | omega | (rw [fb_addI (by omega) (by omega)]; omega)) dX13_put_64 ?_
        refine lv_topi (fun z_10 ez_10 => ?_)
        have hbz_10 : 0 ≤ z_10.toInt ∧ z_10.toInt ≤ 12 := by rw [ez_10]; exact hbg _ (tn3 (by omega) (by omega))
        have hr65 : z_10 = z_9 := by rw [ez_10, upd_at]
        have hv65 : z_9.toInt = z_5.toInt + 1 := by rw [ez_9, inc1 (n := 1000) (by omega) (by decide +kernel)]; omega
        exact W.iret hx hb hr (fun t ht hW => ⟨⟨_, ((upd f12 (((12 * x1) + z_7).toNatClampNeg) x2), (upd f13 (x1.toNatClampNeg) z_9)), rfl, ⟨(show ∀ k : Nat, k < 3 → 0 ≤ ((upd f13 (x1.toNatClampNeg) z_9) k).toInt ∧ ((upd f13 (x1.toNatClampNeg) z_9) k).toInt ≤ 12 from hbg), (show putR (q 7) x1 x2 z_10 f13 (upd f13 (x1.toNatClampNeg) z_9) f12 (upd f12 (((12 * x1) + z_7).toNatClampNeg) x2) from (Or.inr (Or.inr ⟨(by constructor <;> omega), (by rw [← ez_5]; omega), (by rw [hr65, ← ez_5]; omega), (by rw [hr65]), (by rw [ix12 (by omega) (by omega), ez_7])⟩)))⟩, by rw [ht]; exact hP.sub [0, 1, 2] rfl, hD.sub [0, 1, 2] (by decide +kernel) rfl⟩, hS.F ht⟩) hS.2.2 dX13_put_65
      · rw [fa_eq] at c_6
        try rw [ti_12] at c_6
        refine lv_bipush (v := (-4)) hx hb dX13_put_29 (by decide +kernel) ?_
        exact W.iret hx hb hr (fun t ht hW => ⟨⟨_, (f12, f13), rfl, ⟨(show ∀ k : Nat, k < 3 → 0 ≤ (f13 k).toInt ∧ (f13 k).toInt ≤ 12 from hbg), (show putR (q 7) x1 x2 ((-4) : Int32) f13 f13 f12 f12 from (Or.inr (Or.inl ⟨(by constructor <;> omega), (by rw [← ez_5]; omega), (by decide +kernel), rfl, rfl⟩)))⟩, by rw [ht]; exact hP.sub [0, 1, 2] rfl, hD.sub [0, 1, 2] (by decide +kernel) rfl⟩, hS.F ht⟩) hS.2.2 dX13_put_31
    · refine lv_if_ne (tgt := 18) hx hb dX13_put_12 (by decide +kernel) (fun c9 => absurd c9 (by decide +kernel)) (fun _ => ?_)
      refine lv_bipush (v := (-2)) hx hb dX13_put_15 (by decide +kernel) ?_
      exact W.iret hx hb hr (fun t ht hW => ⟨⟨_, (f12, f13), rfl, ⟨(show ∀ k : Nat, k < 3 → 0 ≤ (f13 k).toInt ∧ (f13 k).toInt ≤ 12 from hbg), (show putR (q 7) x1 x2 ((-2) : Int32) f13 f13 f12 f12 from (Or.inl ⟨(fun h9 => by have h8 := h9.1; have h7 := h9.2; omega), (by decide +kernel), rfl, rfl⟩))⟩, by rw [ht]; exact hP.sub [0, 1, 2] rfl, hD.sub [0, 1, 2] (by decide +kernel) rfl⟩, hS.F ht⟩) hS.2.2 dX13_put_17
  · refine lv_if_eq (tgt := 15) hx hb dX13_put_4 (by decide +kernel) (fun _ => ?_) (fun c9 => absurd c9 (by decide +kernel))
    refine lv_bipush (v := (-2)) hx hb dX13_put_15 (by decide +kernel) ?_
    exact W.iret hx hb hr (fun t ht hW => ⟨⟨_, (f12, f13), rfl, ⟨(show ∀ k : Nat, k < 3 → 0 ≤ (f13 k).toInt ∧ (f13 k).toInt ≤ 12 from hbg), (show putR (q 7) x1 x2 ((-2) : Int32) f13 f13 f12 f12 from (Or.inl ⟨(fun h9 => by have h8 := h9.1; have h7 := h9.2; omega), (by decide +kernel), rfl, rfl⟩))⟩, by rw [ht]; exact hP.sub [0, 1, 2] rfl, hD.sub [0, 1, 2] (by decide +kernel) rfl⟩, hS.F ht⟩) hS.2.2 dX13_put_17
theorem dX13_take_0 : decode cX13_take 0 = .ok (.iload_n 1, 1) := by decide +kernel
theorem dX13_take_1 : decode cX13_take 1 = .ok (.invokestatic 405, 3) := by decide +kernel
theorem dX13_take_10 : decode cX13_take 10 = .ok (.aload_n 0, 1) := by decide +kernel
theorem dX13_take_11 : decode cX13_take 11 = .ok (.getfield 44, 3) := by decide +kernel
theorem dX13_take_14 : decode cX13_take 14 = .ok (.iload_n 1, 1) := by decide +kernel
theorem dX13_take_15 : decode cX13_take 15 = .ok (.iaload, 1) := by decide +kernel
theorem dX13_take_16 : decode cX13_take 16 = .ok (.ifCond .ne 5, 3) := by decide +kernel
theorem dX13_take_19 : decode cX13_take 19 = .ok (.iconst (-1), 1) := by decide +kernel
theorem dX13_take_20 : decode cX13_take 20 = .ok (.ireturn, 1) := by decide +kernel
theorem dX13_take_21 : decode cX13_take 21 = .ok (.aload_n 0, 1) := by decide +kernel
theorem dX13_take_22 : decode cX13_take 22 = .ok (.getfield 44, 3) := by decide +kernel
theorem dX13_take_25 : decode cX13_take 25 = .ok (.iload_n 1, 1) := by decide +kernel
theorem dX13_take_26 : decode cX13_take 26 = .ok (.dup2, 1) := by decide +kernel
theorem dX13_take_27 : decode cX13_take 27 = .ok (.iaload, 1) := by decide +kernel
theorem dX13_take_28 : decode cX13_take 28 = .ok (.iconst 1, 1) := by decide +kernel
theorem dX13_take_29 : decode cX13_take 29 = .ok (.isub, 1) := by decide +kernel
theorem dX13_take_30 : decode cX13_take 30 = .ok (.iastore, 1) := by decide +kernel
theorem dX13_take_31 : decode cX13_take 31 = .ok (.aload_n 0, 1) := by decide +kernel
theorem dX13_take_32 : decode cX13_take 32 = .ok (.getfield 41, 3) := by decide +kernel
theorem dX13_take_35 : decode cX13_take 35 = .ok (.bipush 12, 2) := by decide +kernel
theorem dX13_take_37 : decode cX13_take 37 = .ok (.iload_n 1, 1) := by decide +kernel
theorem dX13_take_38 : decode cX13_take 38 = .ok (.imul, 1) := by decide +kernel
theorem dX13_take_39 : decode cX13_take 39 = .ok (.aload_n 0, 1) := by decide +kernel
theorem dX13_take_4 : decode cX13_take 4 = .ok (.ifCond .ne 6, 3) := by decide +kernel
theorem dX13_take_40 : decode cX13_take 40 = .ok (.getfield 44, 3) := by decide +kernel
theorem dX13_take_43 : decode cX13_take 43 = .ok (.iload_n 1, 1) := by decide +kernel
theorem dX13_take_44 : decode cX13_take 44 = .ok (.iaload, 1) := by decide +kernel
theorem dX13_take_45 : decode cX13_take 45 = .ok (.iadd, 1) := by decide +kernel
theorem dX13_take_46 : decode cX13_take 46 = .ok (.iaload, 1) := by decide +kernel
theorem dX13_take_47 : decode cX13_take 47 = .ok (.ireturn, 1) := by decide +kernel
theorem dX13_take_7 : decode cX13_take 7 = .ok (.bipush (-2), 2) := by decide +kernel
theorem dX13_take_9 : decode cX13_take 9 = .ok (.ireturn, 1) := by decide +kernel
set_option maxRecDepth 20000 in
theorem ggX13_take_X13_isBag : GoodIn wsX13_take wsX13_isBag := goodIn_r _ [6, 7, 8, 9, 5, 10] rfl (by decide +kernel)
set_option maxRecDepth 20000 in
theorem gX13_take_X13_isBag : GoodIn wsX13_take (va_wsS RX13 405 yX13_isBag wsX13_isBag) := goodIn_app (goodIn_of _ (by decide +kernel)) ggX13_take_X13_isBag
set_option maxRecDepth 20000 in
theorem in_X13_take_X13 : ∀ w ∈ wsX130, w ∈ wsX13_take := sub_r [11, 12, 13, 14, 15, 16, 17, 18, 19, 20, 21, 22, 23, 24, 25, 26, 27, 28, 29, 30, 31, 32, 33, 34, 35, 36, 37, 38, 39, 40, 41, 42, 43, 44, 45, 46, 47, 48, 49, 50, 51, 52, 53, 54, 55] rfl
set_option maxHeartbeats 4000000 in
set_option maxRecDepth 100000 in
theorem c_X13_take (l : Launch) (D : va_G) (T : Nat → ClassId) (sz : Nat) (h0 : Nat) (q : Nat → Int32) (v : Int64) (w : Int64) (a : Nat → Nat) (f12 : Nat → Int32) (f13 : Nat → Int32) (x1 : Int32) (hbg : ∀ k : Nat, k < 3 → 0 ≤ (f13 k).toInt ∧ (f13 k).toInt ≤ 12) : Met l yX13_take wsX13_take ({ frames := 2, cells := 0, slots := 0, locals := 45 }) (pW [.ref h0, .int x1] D T [(h0, .inr (10, (Value.int (q 0) :: Value.int (q 1) :: Value.int (q 2) :: Value.int (q 3) :: Value.int (q 4) :: Value.int (q 5) :: Value.int (q 6) :: Value.int (q 7) :: Value.ref (a 8) :: Value.ref (a 9) :: Value.ref (a 10) :: Value.ref (a 11) :: Value.ref (a 12) :: Value.ref (a 13) :: Value.int (q 14) :: Value.long v :: Value.long w :: Value.ref (a 17) :: Value.ref (a 18) :: Value.ref (a 19) :: Value.ref (a 20) :: Value.ref (a 21) :: Value.ref (a 22) :: Value.ref (a 23) :: Value.int (q 24) :: Value.ref (a 25) :: Value.int (q 26) :: Value.ref (a 27) :: Value.int (q 28) :: Value.int (q 29) :: Value.int (q 30) :: Value.int (q 31) :: Value.int (q 32) :: Value.int (q 33) :: Value.ref (a 34) :: Value.ref (a 35) :: Value.ref (a 36) :: Value.ref (a 37) :: Value.ref (a 38) :: Value.ref (a 39) :: Value.ref (a 40) :: Value.int (q 41) :: Value.ref (a 42) :: Value.int (q 43) :: Value.int (q 44) :: []))), ((a 12), .inl (T 0, 36, .inl f12)), ((a 13), .inl (T 0, 3, .inl f13))] sz) (va_Qi (fun (r : Int32) (u : (Nat → Int32) × (Nat → Int32)) => (∀ k : Nat, k < 3 → 0 ≤ (u.2 k).toInt ∧ (u.2 k).toInt ≤ 12) ∧ (takeR x1 r f13 u.2 f12 u.1)) (bW D (va_A [(h0, .inr (10, (Value.int (q 0) :: Value.int (q 1) :: Value.int (q 2) :: Value.int (q 3) :: Value.int (q 4) :: Value.int (q 5) :: Value.int (q 6) :: Value.int (q 7) :: Value.ref (a 8) :: Value.ref (a 9) :: Value.ref (a 10) :: Value.ref (a 11) :: Value.ref (a 12) :: Value.ref (a 13) :: Value.int (q 14) :: Value.long v :: Value.long w :: Value.ref (a 17) :: Value.ref (a 18) :: Value.ref (a 19) :: Value.ref (a 20) :: Value.ref (a 21) :: Value.ref (a 22) :: Value.ref (a 23) :: Value.int (q 24) :: Value.ref (a 25) :: Value.int (q 26) :: Value.ref (a 27) :: Value.int (q 28) :: Value.int (q 29) :: Value.int (q 30) :: Value.int (q 31) :: Value.int (q 32) :: Value.int (q 33) :: Value.ref (a 34) :: Value.ref (a 35) :: Value.ref (a 36) :: Value.ref (a 37) :: Value.ref (a 38) :: Value.ref (a 39) :: Value.ref (a 40) :: Value.int (q 41) :: Value.ref (a 42) :: Value.int (q 43) :: Value.int (q 44) :: []))), ((a 12), .inl (T 0, 36, .inl f12)), ((a 13), .inl (T 0, 3, .inl f13))] sz) (fun (u : (Nat → Int32) × (Nat → Int32)) => [(h0, .inr (10, (Value.int (q 0) :: Value.int (q 1) :: Value.int (q 2) :: Value.int (q 3) :: Value.int (q 4) :: Value.int (q 5) :: Value.int (q 6) :: Value.int (q 7) :: Value.ref (a 8) :: Value.ref (a 9) :: Value.ref (a 10) :: Value.ref (a 11) :: Value.ref (a 12) :: Value.ref (a 13) :: Value.int (q 14) :: Value.long v :: Value.long w :: Value.ref (a 17) :: Value.ref (a 18) :: Value.ref (a 19) :: Value.ref (a 20) :: Value.ref (a 21) :: Value.ref (a 22) :: Value.ref (a 23) :: Value.int (q 24) :: Value.ref (a 25) :: Value.int (q 26) :: Value.ref (a 27) :: Value.int (q 28) :: Value.int (q 29) :: Value.int (q 30) :: Value.int (q 31) :: Value.int (q 32) :: Value.int (q 33) :: Value.ref (a 34) :: Value.ref (a 35) :: Value.ref (a 36) :: Value.ref (a 37) :: Value.ref (a 38) :: Value.ref (a 39) :: Value.ref (a 40) :: Value.int (q 41) :: Value.ref (a 42) :: Value.int (q 43) :: Value.int (q 44) :: []))), ((a 12), .inl (T 0, 36, .inl u.1)), ((a 13), .inl (T 0, 3, .inl u.2))])) (va_A [(h0, .inr (10, (Value.int (q 0) :: Value.int (q 1) :: Value.int (q 2) :: Value.int (q 3) :: Value.int (q 4) :: Value.int (q 5) :: Value.int (q 6) :: Value.int (q 7) :: Value.ref (a 8) :: Value.ref (a 9) :: Value.ref (a 10) :: Value.ref (a 11) :: Value.ref (a 12) :: Value.ref (a 13) :: Value.int (q 14) :: Value.long v :: Value.long w :: Value.ref (a 17) :: Value.ref (a 18) :: Value.ref (a 19) :: Value.ref (a 20) :: Value.ref (a 21) :: Value.ref (a 22) :: Value.ref (a 23) :: Value.int (q 24) :: Value.ref (a 25) :: Value.int (q 26) :: Value.ref (a 27) :: Value.int (q 28) :: Value.int (q 29) :: Value.int (q 30) :: Value.int (q 31) :: Value.int (q 32) :: Value.int (q 33) :: Value.ref (a 34) :: Value.ref (a 35) :: Value.ref (a 36) :: Value.ref (a 37) :: Value.ref (a 38) :: Value.ref (a 39) :: Value.ref (a 40) :: Value.int (q 41) :: Value.ref (a 42) :: Value.int (q 43) :: Value.int (q 44) :: []))), ((a 12), .inl (T 0, 36, .inl f12)), ((a 13), .inl (T 0, 3, .inl f13))] sz)) 0 0 (va_A [(h0, .inr (10, (Value.int (q 0) :: Value.int (q 1) :: Value.int (q 2) :: Value.int (q 3) :: Value.int (q 4) :: Value.int (q 5) :: Value.int (q 6) :: Value.int (q 7) :: Value.ref (a 8) :: Value.ref (a 9) :: Value.ref (a 10) :: Value.ref (a 11) :: Value.ref (a 12) :: Value.ref (a 13) :: Value.int (q 14) :: Value.long v :: Value.long w :: Value.ref (a 17) :: Value.ref (a 18) :: Value.ref (a 19) :: Value.ref (a 20) :: Value.ref (a 21) :: Value.ref (a 22) :: Value.ref (a 23) :: Value.int (q 24) :: Value.ref (a 25) :: Value.int (q 26) :: Value.ref (a 27) :: Value.int (q 28) :: Value.int (q 29) :: Value.int (q 30) :: Value.int (q 31) :: Value.int (q 32) :: Value.int (q 33) :: Value.ref (a 34) :: Value.ref (a 35) :: Value.ref (a 36) :: Value.ref (a 37) :: Value.ref (a 38) :: Value.ref (a 39) :: Value.ref (a 40) :: Value.int (q 41) :: Value.ref (a 42) :: Value.int (q 43) :: Value.int (q 44) :: []))), ((a 12), .inl (T 0, 36, .inl f12)), ((a 13), .inl (T 0, 3, .inl f13))] sz) := by
  refine Met.ofW (cc := cX13_take) (maxL := 2) (ret := (some .int)) (by decide +kernel) rfl ?_
  intro p e s m args below meth c s₁ B hml hv
  obtain ⟨rfl, hsz, hP, hE, hD0⟩ := hv
  have hx := B.exec
  have hb := B.bytes
  have hr := B.returns
  have hts := atoms_spec (ws := wsX13_take) B.pre
  have hown : s.vm.findClass RX13 = some m.cls := findClass_of_methodNamed B.named
  have hlocks := B.notSynchronized
  subst hsz
  have hD := hD0.self (sz := s.heap.size)
  generalize hAe : va_A [(h0, .inr (10, (Value.int (q 0) :: Value.int (q 1) :: Value.int (q 2) :: Value.int (q 3) :: Value.int (q 4) :: Value.int (q 5) :: Value.int (q 6) :: Value.int (q 7) :: Value.ref (a 8) :: Value.ref (a 9) :: Value.ref (a 10) :: Value.ref (a 11) :: Value.ref (a 12) :: Value.ref (a 13) :: Value.int (q 14) :: Value.long v :: Value.long w :: Value.ref (a 17) :: Value.ref (a 18) :: Value.ref (a 19) :: Value.ref (a 20) :: Value.ref (a 21) :: Value.ref (a 22) :: Value.ref (a 23) :: Value.int (q 24) :: Value.ref (a 25) :: Value.int (q 26) :: Value.ref (a 27) :: Value.int (q 28) :: Value.int (q 29) :: Value.int (q 30) :: Value.int (q 31) :: Value.int (q 32) :: Value.int (q 33) :: Value.ref (a 34) :: Value.ref (a 35) :: Value.ref (a 36) :: Value.ref (a 37) :: Value.ref (a 38) :: Value.ref (a 39) :: Value.ref (a 40) :: Value.int (q 41) :: Value.ref (a 42) :: Value.int (q 43) :: Value.int (q 44) :: []))), ((a 12), .inl (T 0, 36, .inl f12)), ((a 13), .inl (T 0, 3, .inl f13))] s.heap.size = A at hD ⊢
  have hA : ∀ q : Nat, s.heap.size ≤ q → A q := fun q h => by rw [← hAe]; exact Or.inr h
  have hS : va_S A s.heap s.heap [] := va_S.rf
  have hP : va_P D vwCl [(h0, .inr (10, (Value.int (q 0) :: Value.int (q 1) :: Value.int (q 2) :: Value.int (q 3) :: Value.int (q 4) :: Value.int (q 5) :: Value.int (q 6) :: Value.int (q 7) :: Value.ref (a 8) :: Value.ref (a 9) :: Value.ref (a 10) :: Value.ref (a 11) :: Value.ref (a 12) :: Value.ref (a 13) :: Value.int (q 14) :: Value.long v :: Value.long w :: Value.ref (a 17) :: Value.ref (a 18) :: Value.ref (a 19) :: Value.ref (a 20) :: Value.ref (a 21) :: Value.ref (a 22) :: Value.ref (a 23) :: Value.int (q 24) :: Value.ref (a 25) :: Value.int (q 26) :: Value.ref (a 27) :: Value.int (q 28) :: Value.int (q 29) :: Value.int (q 30) :: Value.int (q 31) :: Value.int (q 32) :: Value.int (q 33) :: Value.ref (a 34) :: Value.ref (a 35) :: Value.ref (a 36) :: Value.ref (a 37) :: Value.ref (a 38) :: Value.ref (a 39) :: Value.ref (a 40) :: Value.int (q 41) :: Value.ref (a 42) :: Value.int (q 43) :: Value.int (q 44) :: []))), ((a 12), .inl (T 0, 36, .inl f12)), ((a 13), .inl (T 0, 3, .inl f13))] s.heap := hP
  have hl := lv_entry ([.ref h0, .int x1]) (n := 2) (Nat.le_of_ble_eq_true rfl)
  rw [lg_entry_eq]
  generalize (lg_sl ([.ref h0, .int x1]) ++ List.replicate (2 - (lg_sl ([.ref h0, .int x1])).length) Slot.unset).toArray = ls at hl ⊢
  have hl : lv_has ls 2 [(0, .ref h0), (1, .int x1)] := hl
  clear hD0
  refine lv_iload_n hx hb dX13_take_0 rfl (lv_at hl 1 rfl) ?_
  refine vp_callSi (W.runS (As := [.int x1]) (rest := []) ⟨hx, hb, hml, hown, hts⟩ (c_X13_isBag l D T x1) (va_cwS 1 hts gX13_take_X13_isBag rfl rfl rfl hs_X13_isBag ⟨Nat.le_of_ble_eq_true rfl, Nat.le_of_ble_eq_true rfl⟩) (pR_S hP hE [] rfl) rfl rfl hl.1 rfl (lv_room (Nat.le_of_ble_eq_true rfl)) dX13_take_1 ⟨Nat.le_of_ble_eq_true rfl, Nat.le_of_ble_eq_true rfl⟩) (fun r_1 hr_1 => ?_)
  rcases bool_post hr_1 with ⟨c_2, rfl⟩ | ⟨c_2, rfl⟩
  · refine lv_if_ne (tgt := 10) hx hb dX13_take_4 (by decide +kernel) (fun _ => ?_) (fun c9 => absurd c9 (by decide +kernel))
    refine lv_aload_n hx hb dX13_take_10 rfl (lv_at hl 0 rfl) ?_
    refine va_get (D := D) (ci := 10) (v := .ref (a 13)) (C := RX13) (T := TX13) (N := 45) hx hb hts in_X13_take_X13 hown hE.1 hP 0 rfl rfl 13 (by decide +kernel) (hts (.fieldLink RX13 44 "ClauseBookModel" "bagged" "[I") (List.mem_of_getElem? (i := 1) rfl)) (fun _ h9 => h9) rfl dX13_take_11 ?_
    refine lv_iload_n hx hb dX13_take_14 rfl (lv_at hl 1 rfl) ?_
    refine va_iald hx hb hE.1 hP 2 0 rfl rfl (by rw [vp_in_iff]; first | omega | (rw [fb_addI (by omega) (by omega)]; omega)) dX13_take_15 ?_
    refine lv_topi (fun z_3 ez_3 => ?_)
    have hbz_3 : 0 ≤ z_3.toInt ∧ z_3.toInt ≤ 12 := by rw [ez_3]; exact hbg _ (tn3 (by omega) (by omega))
    refine lv_if_ne (tgt := 21) hx hb dX13_take_16 (by decide +kernel) (fun c_4 => ?_) (fun c_4 => ?_)
    · rw [fa_eq] at c_4
      try rw [ti_0] at c_4
      refine lv_aload_n hx hb dX13_take_21 rfl (lv_at hl 0 rfl) ?_
      refine va_get (D := D) (ci := 10) (v := .ref (a 13)) (C := RX13) (T := TX13) (N := 45) hx hb hts in_X13_take_X13 hown hE.1 hP 0 rfl rfl 13 (by decide +kernel) (hts (.fieldLink RX13 44 "ClauseBookModel" "bagged" "[I") (List.mem_of_getElem? (i := 1) rfl)) (fun _ h9 => h9) rfl dX13_take_22 ?_
      refine lv_iload_n hx hb dX13_take_25 rfl (lv_at hl 1 rfl) ?_
      refine lv_dup2_11 hx hb dX13_take_26 rfl rfl ?_
      refine va_iald hx hb hE.1 hP 2 0 rfl rfl (by rw [vp_in_iff]; first | omega | (rw [fb_addI (by omega) (by omega)]; omega)) dX13_take_27 ?_
      refine lv_topi (fun z_5 ez_5 => ?_)
      have hbz_5 : 0 ≤ z_5.toInt ∧ z_5.toInt ≤ 12 := by rw [ez_5]; exact hbg _ (tn3 (by omega) (by omega))
      have hqz_5 : z_5.toInt = z_3.toInt := by rw [ez_5, ez_3]
      refine lv_iconst (v := 1) hx hb dX13_take_28 (by decide +kernel) ?_
      refine lv_isub hx hb dX13_take_29 ?_
      refine lv_topi (fun z_6 ez_6 => ?_)
      have hvz_6 : 0 ≤ z_6.toInt ∧ z_6.toInt ≤ 12 := by rw [ez_6, dec1 (by omega)]; omega
      have hwz_6 : z_6.toInt ≤ 11 := by rw [ez_6, dec1 (by omega)]; omega
      refine va_iast hx hb hE.1 hP hD hS 2 0 rfl rfl (by rw [vp_in_iff]; first | omega | (rw [fb_addI (by omega) (by omega)]; omega)) dX13_take_30 (fun H locs hP hD hS => ?_)
      obtain ⟨hP, hD⟩ := wPD [(h0, .inr (10, (Value.int (q 0) :: Value.int (q 1) :: Value.int (q 2) :: Value.int (q 3) :: Value.int (q 4) :: Value.int (q 5) :: Value.int (q 6) :: Value.int (q 7) :: Value.ref (a 8) :: Value.ref (a 9) :: Value.ref (a 10) :: Value.ref (a 11) :: Value.ref (a 12) :: Value.ref (a 13) :: Value.int (q 14) :: Value.long v :: Value.long w :: Value.ref (a 17) :: Value.ref (a 18) :: Value.ref (a 19) :: Value.ref (a 20) :: Value.ref (a 21) :: Value.ref (a 22) :: Value.ref (a 23) :: Value.int (q 24) :: Value.ref (a 25) :: Value.int (q 26) :: Value.ref (a 27) :: Value.int (q 28) :: Value.int (q 29) :: Value.int (q 30) :: Value.int (q 31) :: Value.int (q 32) :: Value.int (q 33) :: Value.ref (a 34) :: Value.ref (a 35) :: Value.ref (a 36) :: Value.ref (a 37) :: Value.ref (a 38) :: Value.ref (a 39) :: Value.ref (a 40) :: Value.int (q 41) :: Value.ref (a 42) :: Value.int (q 43) :: Value.int (q 44) :: []))), ((a 12), .inl (T 0, 36, .inl f12)), ((a 13), .inl (T 0, 3, .inl (upd f13 (x1.toNatClampNeg) z_6)))] hP hD rfl
      have hbg := bg_up (x := x1) hbg hvz_6
      have h12x1 : (12 * x1).toInt = 12 * x1.toInt := by rw [fb_mulI (by rw [ti_12]; omega) (by rw [ti_12]; omega), ti_12]
      refine lv_aload_n hx hb dX13_take_31 rfl (lv_at hl 0 rfl) ?_
      refine va_get (D := D) (ci := 10) (v := .ref (a 12)) (C := RX13) (T := TX13) (N := 45) hx hb hts in_X13_take_X13 hown hE.1 hP 0 rfl rfl 12 (by decide +kernel) (hts (.fieldLink RX13 41 "ClauseBookModel" "bag" "[I") (List.mem_of_getElem? (i := 2) rfl)) (fun _ h9 => h9) rfl dX13_take_32 ?_
      refine lv_bipush (v := 12) hx hb dX13_take_35 (by decide +kernel) ?_
      refine lv_iload_n hx hb dX13_take_37 rfl (lv_at hl 1 rfl) ?_
      refine lv_imul hx hb dX13_take_38 ?_
      refine lv_aload_n hx hb dX13_take_39 rfl (lv_at hl 0 rfl) ?_
      refine va_get (D := D) (ci := 10) (v := .ref (a 13)) (C := RX13) (T := TX13) (N := 45) hx hb hts in_X13_take_X13 hown hE.1 hP 0 rfl rfl 13 (by decide +kernel) (hts (.fieldLink RX13 44 "ClauseBookModel" "bagged" "[I") (List.mem_of_getElem? (i := 1) rfl)) (fun _ h9 => h9) rfl dX13_take_40 ?_
      refine lv_iload_n hx hb dX13_take_43 rfl (lv_at hl 1 rfl) ?_
      refine va_iald hx hb hE.1 hP 2 0 rfl rfl (by rw [vp_in_iff]; first | omega | (rw [fb_addI (by omega) (by omega)]; omega)) dX13_take_44 ?_
      refine lv_topi (fun z_7 ez_7 => ?_)
      have hbz_7 : z_7.toInt = z_6.toInt := by rw [ez_7, upd_at]
      refine lv_iadd hx hb dX13_take_45 ?_
      refine va_iald hx hb hE.1 hP 1 0 rfl rfl (by rw [vp_in_iff]; first | omega | (rw [fb_addI (by omega) (by omega)]; omega)) dX13_take_46 ?_
      refine lv_topi (fun z_8 ez_8 => ?_)
      exact W.iret hx hb hr (fun t ht hW => ⟨⟨_, (f12, (upd f13 (x1.toNatClampNeg) z_6)), rfl, ⟨(show ∀ k : Nat, k < 3 → 0 ≤ ((upd f13 (x1.toNatClampNeg) z_6) k).toInt ∧ ((upd f13 (x1.toNatClampNeg) z_6) k).toInt ≤ 12 from hbg), (show takeR x1 z_8 f13 (upd f13 (x1.toNatClampNeg) z_6) f12 f12 from ⟨rfl, (Or.inr (Or.inr ⟨(by omega), (by rw [← ez_3]; omega), z_6, (by rw [← ez_3, ez_6, dec1 (by omega)]; omega), (by rw [ez_8, ix12 (by omega) (by omega), ez_7, upd_at]), rfl⟩))⟩)⟩, by rw [ht]; exact hP.sub [0, 1, 2] rfl, hD.sub [0, 1, 2] (by decide +kernel) rfl⟩, hS.F ht⟩) hS.2.2 dX13_take_47
    · rw [fa_eq] at c_4
      try rw [ti_0] at c_4
      refine lv_iconst (v := (-1)) hx hb dX13_take_19 (by decide +kernel) ?_
      exact W.iret hx hb hr (fun t ht hW => ⟨⟨_, (f12, f13), rfl, ⟨(show ∀ k : Nat, k < 3 → 0 ≤ (f13 k).toInt ∧ (f13 k).toInt ≤ 12 from hbg), (show takeR x1 ((-1) : Int32) f13 f13 f12 f12 from ⟨rfl, (Or.inr (Or.inl ⟨(by omega), (by rw [← ez_3]; omega), (by decide +kernel), rfl⟩))⟩)⟩, by rw [ht]; exact hP.sub [0, 1, 2] rfl, hD.sub [0, 1, 2] (by decide +kernel) rfl⟩, hS.F ht⟩) hS.2.2 dX13_take_20
  · refine lv_if_ne (tgt := 10) hx hb dX13_take_4 (by decide +kernel) (fun c9 => absurd c9 (by decide +kernel)) (fun _ => ?_)
    refine lv_bipush (v := (-2)) hx hb dX13_take_7 (by decide +kernel) ?_
    exact W.iret hx hb hr (fun t ht hW => ⟨⟨_, (f12, f13), rfl, ⟨(show ∀ k : Nat, k < 3 → 0 ≤ (f13 k).toInt ∧ (f13 k).toInt ≤ 12 from hbg), (show takeR x1 ((-2) : Int32) f13 f13 f12 f12 from ⟨rfl, (Or.inl ⟨(by omega), (by decide +kernel), rfl⟩)⟩)⟩, by rw [ht]; exact hP.sub [0, 1, 2] rfl, hD.sub [0, 1, 2] (by decide +kernel) rfl⟩, hS.F ht⟩) hS.2.2 dX13_take_9
theorem dX13_bagOf_0 : decode cX13_bagOf 0 = .ok (.iload_n 1, 1) := by decide +kernel
theorem dX13_bagOf_1 : decode cX13_bagOf 1 = .ok (.invokestatic 405, 3) := by decide +kernel
theorem dX13_bagOf_12 : decode cX13_bagOf 12 = .ok (.iload_n 2, 1) := by decide +kernel
theorem dX13_bagOf_13 : decode cX13_bagOf 13 = .ok (.i2l, 1) := by decide +kernel
theorem dX13_bagOf_14 : decode cX13_bagOf 14 = .ok (.lconst 0, 1) := by decide +kernel
theorem dX13_bagOf_15 : decode cX13_bagOf 15 = .ok (.aload_n 0, 1) := by decide +kernel
theorem dX13_bagOf_16 : decode cX13_bagOf 16 = .ok (.getfield 44, 3) := by decide +kernel
theorem dX13_bagOf_19 : decode cX13_bagOf 19 = .ok (.iload_n 1, 1) := by decide +kernel
theorem dX13_bagOf_20 : decode cX13_bagOf 20 = .ok (.iaload, 1) := by decide +kernel
theorem dX13_bagOf_21 : decode cX13_bagOf 21 = .ok (.iconst 1, 1) := by decide +kernel
theorem dX13_bagOf_22 : decode cX13_bagOf 22 = .ok (.isub, 1) := by decide +kernel
theorem dX13_bagOf_23 : decode cX13_bagOf 23 = .ok (.i2l, 1) := by decide +kernel
theorem dX13_bagOf_24 : decode cX13_bagOf 24 = .ok (.invokestatic 175, 3) := by decide +kernel
theorem dX13_bagOf_27 : decode cX13_bagOf 27 = .ok (.ifCond .eq 17, 3) := by decide +kernel
theorem dX13_bagOf_30 : decode cX13_bagOf 30 = .ok (.aload_n 0, 1) := by decide +kernel
theorem dX13_bagOf_31 : decode cX13_bagOf 31 = .ok (.getfield 41, 3) := by decide +kernel
theorem dX13_bagOf_34 : decode cX13_bagOf 34 = .ok (.bipush 12, 2) := by decide +kernel
theorem dX13_bagOf_36 : decode cX13_bagOf 36 = .ok (.iload_n 1, 1) := by decide +kernel
theorem dX13_bagOf_37 : decode cX13_bagOf 37 = .ok (.imul, 1) := by decide +kernel
theorem dX13_bagOf_38 : decode cX13_bagOf 38 = .ok (.iload_n 2, 1) := by decide +kernel
theorem dX13_bagOf_39 : decode cX13_bagOf 39 = .ok (.iadd, 1) := by decide +kernel
theorem dX13_bagOf_4 : decode cX13_bagOf 4 = .ok (.ifCond .ne 8, 3) := by decide +kernel
theorem dX13_bagOf_40 : decode cX13_bagOf 40 = .ok (.iaload, 1) := by decide +kernel
theorem dX13_bagOf_41 : decode cX13_bagOf 41 = .ok (.goto 5, 3) := by decide +kernel
theorem dX13_bagOf_44 : decode cX13_bagOf 44 = .ok (.bipush (-12), 2) := by decide +kernel
theorem dX13_bagOf_46 : decode cX13_bagOf 46 = .ok (.ireturn, 1) := by decide +kernel
theorem dX13_bagOf_7 : decode cX13_bagOf 7 = .ok (.bipush (-2), 2) := by decide +kernel
theorem dX13_bagOf_9 : decode cX13_bagOf 9 = .ok (.goto 37, 3) := by decide +kernel
set_option maxRecDepth 20000 in
theorem ggX13_bagOf_X13_in : GoodIn wsX13_bagOf wsX13_in := goodIn_r _ [10] rfl (by decide +kernel)
set_option maxRecDepth 20000 in
theorem ggX13_bagOf_X13_isBag : GoodIn wsX13_bagOf wsX13_isBag := goodIn_r _ [6, 7, 8, 9, 5, 10] rfl (by decide +kernel)
set_option maxRecDepth 20000 in
theorem gX13_bagOf_X13_in : GoodIn wsX13_bagOf (va_wsS RX13 175 yX13_in wsX13_in) := goodIn_app (goodIn_of _ (by decide +kernel)) ggX13_bagOf_X13_in
set_option maxRecDepth 20000 in
theorem gX13_bagOf_X13_isBag : GoodIn wsX13_bagOf (va_wsS RX13 405 yX13_isBag wsX13_isBag) := goodIn_app (goodIn_of _ (by decide +kernel)) ggX13_bagOf_X13_isBag
set_option maxRecDepth 20000 in
theorem in_X13_bagOf_X13 : ∀ w ∈ wsX130, w ∈ wsX13_bagOf := sub_r [11, 12, 13, 14, 15, 16, 17, 18, 19, 20, 21, 22, 23, 24, 25, 26, 27, 28, 29, 30, 31, 32, 33, 34, 35, 36, 37, 38, 39, 40, 41, 42, 43, 44, 45, 46, 47, 48, 49, 50, 51, 52, 53, 54, 55] rfl
set_option maxHeartbeats 4000000 in
set_option maxRecDepth 100000 in
theorem c_X13_bagOf (l : Launch) (D : va_G) (T : Nat → ClassId) (sz : Nat) (h0 : Nat) (q : Nat → Int32) (v : Int64) (w : Int64) (a : Nat → Nat) (f12 : Nat → Int32) (f13 : Nat → Int32) (x1 : Int32) (x2 : Int32) (hbg : ∀ k : Nat, k < 3 → 0 ≤ (f13 k).toInt ∧ (f13 k).toInt ≤ 12) : Met l yX13_bagOf wsX13_bagOf ({ frames := 2, cells := 0, slots := 0, locals := 45 }) (pW [.ref h0, .int x1, .int x2] D T [(h0, .inr (10, (Value.int (q 0) :: Value.int (q 1) :: Value.int (q 2) :: Value.int (q 3) :: Value.int (q 4) :: Value.int (q 5) :: Value.int (q 6) :: Value.int (q 7) :: Value.ref (a 8) :: Value.ref (a 9) :: Value.ref (a 10) :: Value.ref (a 11) :: Value.ref (a 12) :: Value.ref (a 13) :: Value.int (q 14) :: Value.long v :: Value.long w :: Value.ref (a 17) :: Value.ref (a 18) :: Value.ref (a 19) :: Value.ref (a 20) :: Value.ref (a 21) :: Value.ref (a 22) :: Value.ref (a 23) :: Value.int (q 24) :: Value.ref (a 25) :: Value.int (q 26) :: Value.ref (a 27) :: Value.int (q 28) :: Value.int (q 29) :: Value.int (q 30) :: Value.int (q 31) :: Value.int (q 32) :: Value.int (q 33) :: Value.ref (a 34) :: Value.ref (a 35) :: Value.ref (a 36) :: Value.ref (a 37) :: Value.ref (a 38) :: Value.ref (a 39) :: Value.ref (a 40) :: Value.int (q 41) :: Value.ref (a 42) :: Value.int (q 43) :: Value.int (q 44) :: []))), ((a 12), .inl (T 0, 36, .inl f12)), ((a 13), .inl (T 0, 3, .inl f13))] sz) (va_Qi (fun (r : Int32) (u : Unit) => (bagOfC x1 x2 r f13 (fun k i => f12 (12 * k + i)))) (bW D (va_A [(h0, .inr (10, (Value.int (q 0) :: Value.int (q 1) :: Value.int (q 2) :: Value.int (q 3) :: Value.int (q 4) :: Value.int (q 5) :: Value.int (q 6) :: Value.int (q 7) :: Value.ref (a 8) :: Value.ref (a 9) :: Value.ref (a 10) :: Value.ref (a 11) :: Value.ref (a 12) :: Value.ref (a 13) :: Value.int (q 14) :: Value.long v :: Value.long w :: Value.ref (a 17) :: Value.ref (a 18) :: Value.ref (a 19) :: Value.ref (a 20) :: Value.ref (a 21) :: Value.ref (a 22) :: Value.ref (a 23) :: Value.int (q 24) :: Value.ref (a 25) :: Value.int (q 26) :: Value.ref (a 27) :: Value.int (q 28) :: Value.int (q 29) :: Value.int (q 30) :: Value.int (q 31) :: Value.int (q 32) :: Value.int (q 33) :: Value.ref (a 34) :: Value.ref (a 35) :: Value.ref (a 36) :: Value.ref (a 37) :: Value.ref (a 38) :: Value.ref (a 39) :: Value.ref (a 40) :: Value.int (q 41) :: Value.ref (a 42) :: Value.int (q 43) :: Value.int (q 44) :: []))), ((a 12), .inl (T 0, 36, .inl f12)), ((a 13), .inl (T 0, 3, .inl f13))] sz) (fun (u : Unit) => [(h0, .inr (10, (Value.int (q 0) :: Value.int (q 1) :: Value.int (q 2) :: Value.int (q 3) :: Value.int (q 4) :: Value.int (q 5) :: Value.int (q 6) :: Value.int (q 7) :: Value.ref (a 8) :: Value.ref (a 9) :: Value.ref (a 10) :: Value.ref (a 11) :: Value.ref (a 12) :: Value.ref (a 13) :: Value.int (q 14) :: Value.long v :: Value.long w :: Value.ref (a 17) :: Value.ref (a 18) :: Value.ref (a 19) :: Value.ref (a 20) :: Value.ref (a 21) :: Value.ref (a 22) :: Value.ref (a 23) :: Value.int (q 24) :: Value.ref (a 25) :: Value.int (q 26) :: Value.ref (a 27) :: Value.int (q 28) :: Value.int (q 29) :: Value.int (q 30) :: Value.int (q 31) :: Value.int (q 32) :: Value.int (q 33) :: Value.ref (a 34) :: Value.ref (a 35) :: Value.ref (a 36) :: Value.ref (a 37) :: Value.ref (a 38) :: Value.ref (a 39) :: Value.ref (a 40) :: Value.int (q 41) :: Value.ref (a 42) :: Value.int (q 43) :: Value.int (q 44) :: []))), ((a 12), .inl (T 0, 36, .inl f12)), ((a 13), .inl (T 0, 3, .inl f13))])) (va_A [(h0, .inr (10, (Value.int (q 0) :: Value.int (q 1) :: Value.int (q 2) :: Value.int (q 3) :: Value.int (q 4) :: Value.int (q 5) :: Value.int (q 6) :: Value.int (q 7) :: Value.ref (a 8) :: Value.ref (a 9) :: Value.ref (a 10) :: Value.ref (a 11) :: Value.ref (a 12) :: Value.ref (a 13) :: Value.int (q 14) :: Value.long v :: Value.long w :: Value.ref (a 17) :: Value.ref (a 18) :: Value.ref (a 19) :: Value.ref (a 20) :: Value.ref (a 21) :: Value.ref (a 22) :: Value.ref (a 23) :: Value.int (q 24) :: Value.ref (a 25) :: Value.int (q 26) :: Value.ref (a 27) :: Value.int (q 28) :: Value.int (q 29) :: Value.int (q 30) :: Value.int (q 31) :: Value.int (q 32) :: Value.int (q 33) :: Value.ref (a 34) :: Value.ref (a 35) :: Value.ref (a 36) :: Value.ref (a 37) :: Value.ref (a 38) :: Value.ref (a 39) :: Value.ref (a 40) :: Value.int (q 41) :: Value.ref (a 42) :: Value.int (q 43) :: Value.int (q 44) :: []))), ((a 12), .inl (T 0, 36, .inl f12)), ((a 13), .inl (T 0, 3, .inl f13))] sz)) 0 0 (va_A [(h0, .inr (10, (Value.int (q 0) :: Value.int (q 1) :: Value.int (q 2) :: Value.int (q 3) :: Value.int (q 4) :: Value.int (q 5) :: Value.int (q 6) :: Value.int (q 7) :: Value.ref (a 8) :: Value.ref (a 9) :: Value.ref (a 10) :: Value.ref (a 11) :: Value.ref (a 12) :: Value.ref (a 13) :: Value.int (q 14) :: Value.long v :: Value.long w :: Value.ref (a 17) :: Value.ref (a 18) :: Value.ref (a 19) :: Value.ref (a 20) :: Value.ref (a 21) :: Value.ref (a 22) :: Value.ref (a 23) :: Value.int (q 24) :: Value.ref (a 25) :: Value.int (q 26) :: Value.ref (a 27) :: Value.int (q 28) :: Value.int (q 29) :: Value.int (q 30) :: Value.int (q 31) :: Value.int (q 32) :: Value.int (q 33) :: Value.ref (a 34) :: Value.ref (a 35) :: Value.ref (a 36) :: Value.ref (a 37) :: Value.ref (a 38) :: Value.ref (a 39) :: Value.ref (a 40) :: Value.int (q 41) :: Value.ref (a 42) :: Value.int (q 43) :: Value.int (q 44) :: []))), ((a 12), .inl (T 0, 36, .inl f12)), ((a 13), .inl (T 0, 3, .inl f13))] sz) := by
  refine Met.ofW (cc := cX13_bagOf) (maxL := 3) (ret := (some .int)) (by decide +kernel) rfl ?_
  intro p e s m args below meth c s₁ B hml hv
  obtain ⟨rfl, hsz, hP, hE, hD0⟩ := hv
  have hx := B.exec
  have hb := B.bytes
  have hr := B.returns
  have hts := atoms_spec (ws := wsX13_bagOf) B.pre
  have hown : s.vm.findClass RX13 = some m.cls := findClass_of_methodNamed B.named
  have hlocks := B.notSynchronized
  subst hsz
  have hD := hD0.self (sz := s.heap.size)
  generalize hAe : va_A [(h0, .inr (10, (Value.int (q 0) :: Value.int (q 1) :: Value.int (q 2) :: Value.int (q 3) :: Value.int (q 4) :: Value.int (q 5) :: Value.int (q 6) :: Value.int (q 7) :: Value.ref (a 8) :: Value.ref (a 9) :: Value.ref (a 10) :: Value.ref (a 11) :: Value.ref (a 12) :: Value.ref (a 13) :: Value.int (q 14) :: Value.long v :: Value.long w :: Value.ref (a 17) :: Value.ref (a 18) :: Value.ref (a 19) :: Value.ref (a 20) :: Value.ref (a 21) :: Value.ref (a 22) :: Value.ref (a 23) :: Value.int (q 24) :: Value.ref (a 25) :: Value.int (q 26) :: Value.ref (a 27) :: Value.int (q 28) :: Value.int (q 29) :: Value.int (q 30) :: Value.int (q 31) :: Value.int (q 32) :: Value.int (q 33) :: Value.ref (a 34) :: Value.ref (a 35) :: Value.ref (a 36) :: Value.ref (a 37) :: Value.ref (a 38) :: Value.ref (a 39) :: Value.ref (a 40) :: Value.int (q 41) :: Value.ref (a 42) :: Value.int (q 43) :: Value.int (q 44) :: []))), ((a 12), .inl (T 0, 36, .inl f12)), ((a 13), .inl (T 0, 3, .inl f13))] s.heap.size = A at hD ⊢
  have hA : ∀ q : Nat, s.heap.size ≤ q → A q := fun q h => by rw [← hAe]; exact Or.inr h
  have hS : va_S A s.heap s.heap [] := va_S.rf
  have hP : va_P D vwCl [(h0, .inr (10, (Value.int (q 0) :: Value.int (q 1) :: Value.int (q 2) :: Value.int (q 3) :: Value.int (q 4) :: Value.int (q 5) :: Value.int (q 6) :: Value.int (q 7) :: Value.ref (a 8) :: Value.ref (a 9) :: Value.ref (a 10) :: Value.ref (a 11) :: Value.ref (a 12) :: Value.ref (a 13) :: Value.int (q 14) :: Value.long v :: Value.long w :: Value.ref (a 17) :: Value.ref (a 18) :: Value.ref (a 19) :: Value.ref (a 20) :: Value.ref (a 21) :: Value.ref (a 22) :: Value.ref (a 23) :: Value.int (q 24) :: Value.ref (a 25) :: Value.int (q 26) :: Value.ref (a 27) :: Value.int (q 28) :: Value.int (q 29) :: Value.int (q 30) :: Value.int (q 31) :: Value.int (q 32) :: Value.int (q 33) :: Value.ref (a 34) :: Value.ref (a 35) :: Value.ref (a 36) :: Value.ref (a 37) :: Value.ref (a 38) :: Value.ref (a 39) :: Value.ref (a 40) :: Value.int (q 41) :: Value.ref (a 42) :: Value.int (q 43) :: Value.int (q 44) :: []))), ((a 12), .inl (T 0, 36, .inl f12)), ((a 13), .inl (T 0, 3, .inl f13))] s.heap := hP
  have hl := lv_entry ([.ref h0, .int x1, .int x2]) (n := 3) (Nat.le_of_ble_eq_true rfl)
  rw [lg_entry_eq]
  generalize (lg_sl ([.ref h0, .int x1, .int x2]) ++ List.replicate (3 - (lg_sl ([.ref h0, .int x1, .int x2])).length) Slot.unset).toArray = ls at hl ⊢
  have hl : lv_has ls 3 [(0, .ref h0), (1, .int x1), (2, .int x2)] := hl
  clear hD0
  refine lv_iload_n hx hb dX13_bagOf_0 rfl (lv_at hl 1 rfl) ?_
  refine vp_callSi (W.runS (As := [.int x1]) (rest := []) ⟨hx, hb, hml, hown, hts⟩ (c_X13_isBag l D T x1) (va_cwS 1 hts gX13_bagOf_X13_isBag rfl rfl rfl hs_X13_isBag ⟨Nat.le_of_ble_eq_true rfl, Nat.le_of_ble_eq_true rfl⟩) (pR_S hP hE [] rfl) rfl rfl hl.1 rfl (lv_room (Nat.le_of_ble_eq_true rfl)) dX13_bagOf_1 ⟨Nat.le_of_ble_eq_true rfl, Nat.le_of_ble_eq_true rfl⟩) (fun r_1 hr_1 => ?_)
  rcases bool_post hr_1 with ⟨c_2, rfl⟩ | ⟨c_2, rfl⟩
  · refine lv_if_ne (tgt := 12) hx hb dX13_bagOf_4 (by decide +kernel) (fun _ => ?_) (fun c9 => absurd c9 (by decide +kernel))
    refine lv_iload_n hx hb dX13_bagOf_12 rfl (lv_at hl 2 rfl) ?_
    refine lv_i2l hx hb dX13_bagOf_13 rfl ?_
    refine lv_lconst (v := 0) hx hb dX13_bagOf_14 (by decide +kernel) ?_
    refine lv_aload_n hx hb dX13_bagOf_15 rfl (lv_at hl 0 rfl) ?_
    refine va_get (D := D) (ci := 10) (v := .ref (a 13)) (C := RX13) (T := TX13) (N := 45) hx hb hts in_X13_bagOf_X13 hown hE.1 hP 0 rfl rfl 13 (by decide +kernel) (hts (.fieldLink RX13 44 "ClauseBookModel" "bagged" "[I") (List.mem_of_getElem? (i := 1) rfl)) (fun _ h9 => h9) rfl dX13_bagOf_16 ?_
    refine lv_iload_n hx hb dX13_bagOf_19 rfl (lv_at hl 1 rfl) ?_
    refine va_iald hx hb hE.1 hP 2 0 rfl rfl (by rw [vp_in_iff]; first | omega | (rw [fb_addI (by omega) (by omega)]; omega)) dX13_bagOf_20 ?_
    refine lv_topi (fun z_3 ez_3 => ?_)
    have hbz_3 : 0 ≤ z_3.toInt ∧ z_3.toInt ≤ 12 := by rw [ez_3]; exact hbg _ (tn3 (by omega) (by omega))
    have hd9 := dec1 (i := z_3) (by omega)
    refine lv_iconst (v := 1) hx hb dX13_bagOf_21 (by decide +kernel) ?_
    refine lv_isub hx hb dX13_bagOf_22 ?_
    refine lv_i2l hx hb dX13_bagOf_23 rfl ?_
    refine vp_callSi (W.runS (As := [.long (x2.toInt64), .long 0, .long ((z_3 - 1).toInt64)]) (rest := []) ⟨hx, hb, hml, hown, hts⟩ (c_X13_in l D T (x2.toInt64) 0 ((z_3 - 1).toInt64) x2.toInt 0 ((z_3 - 1)).toInt ((Int32.toInt_toInt64 _).trans rfl) (by decide +kernel) ((Int32.toInt_toInt64 _).trans rfl)) (va_cwS 3 hts gX13_bagOf_X13_in rfl rfl rfl hs_X13_in ⟨Nat.le_of_ble_eq_true rfl, Nat.le_of_ble_eq_true rfl⟩) (pR_S hP hE [] rfl) rfl rfl hl.1 rfl (lv_room (Nat.le_of_ble_eq_true rfl)) dX13_bagOf_24 ⟨Nat.le_of_ble_eq_true rfl, Nat.le_of_ble_eq_true rfl⟩) (fun r_4 hr_4 => ?_)
    rcases bool_post hr_4 with ⟨c_5, rfl⟩ | ⟨c_5, rfl⟩
    · refine lv_if_eq (tgt := 44) hx hb dX13_bagOf_27 (by decide +kernel) (fun c9 => absurd c9 (by decide +kernel)) (fun _ => ?_)
      have h12x1 : (12 * x1).toInt = 12 * x1.toInt := by rw [fb_mulI (by rw [ti_12]; omega) (by rw [ti_12]; omega), ti_12]
      refine lv_aload_n hx hb dX13_bagOf_30 rfl (lv_at hl 0 rfl) ?_
      refine va_get (D := D) (ci := 10) (v := .ref (a 12)) (C := RX13) (T := TX13) (N := 45) hx hb hts in_X13_bagOf_X13 hown hE.1 hP 0 rfl rfl 12 (by decide +kernel) (hts (.fieldLink RX13 41 "ClauseBookModel" "bag" "[I") (List.mem_of_getElem? (i := 2) rfl)) (fun _ h9 => h9) rfl dX13_bagOf_31 ?_
      refine lv_bipush (v := 12) hx hb dX13_bagOf_34 (by decide +kernel) ?_
      refine lv_iload_n hx hb dX13_bagOf_36 rfl (lv_at hl 1 rfl) ?_
      refine lv_imul hx hb dX13_bagOf_37 ?_
      refine lv_iload_n hx hb dX13_bagOf_38 rfl (lv_at hl 2 rfl) ?_
      refine lv_iadd hx hb dX13_bagOf_39 ?_
      refine va_iald hx hb hE.1 hP 1 0 rfl rfl (by rw [vp_in_iff]; first | omega | (rw [fb_addI (by omega) (by omega)]; omega)) dX13_bagOf_40 ?_
      refine lv_topi (fun z_6 ez_6 => ?_)
      refine lv_goto (tgt := 46) hx hb dX13_bagOf_41 (by decide +kernel) ?_
      exact W.iret hx hb hr (fun t ht hW => ⟨⟨_, (), rfl, (show bagOfC x1 x2 z_6 f13 (fun k i => f12 (12 * k + i)) from (Or.inr (Or.inr ⟨(by omega), (by rw [← ez_3]; omega), (by rw [ez_6, ix12 (by omega) (by omega)])⟩))), by rw [ht]; exact hP.sub [0, 1, 2] rfl, hD.sub [0, 1, 2] (by decide +kernel) rfl⟩, hS.F ht⟩) hS.2.2 dX13_bagOf_46
    · refine lv_if_eq (tgt := 44) hx hb dX13_bagOf_27 (by decide +kernel) (fun _ => ?_) (fun c9 => absurd c9 (by decide +kernel))
      refine lv_bipush (v := (-12)) hx hb dX13_bagOf_44 (by decide +kernel) ?_
      exact W.iret hx hb hr (fun t ht hW => ⟨⟨_, (), rfl, (show bagOfC x1 x2 ((-12) : Int32) f13 (fun k i => f12 (12 * k + i)) from (Or.inr (Or.inl ⟨(by omega), (by rw [← ez_3]; omega), (by decide +kernel)⟩))), by rw [ht]; exact hP.sub [0, 1, 2] rfl, hD.sub [0, 1, 2] (by decide +kernel) rfl⟩, hS.F ht⟩) hS.2.2 dX13_bagOf_46
  · refine lv_if_ne (tgt := 12) hx hb dX13_bagOf_4 (by decide +kernel) (fun c9 => absurd c9 (by decide +kernel)) (fun _ => ?_)
    refine lv_bipush (v := (-2)) hx hb dX13_bagOf_7 (by decide +kernel) ?_
    refine lv_goto (tgt := 46) hx hb dX13_bagOf_9 (by decide +kernel) ?_
    exact W.iret hx hb hr (fun t ht hW => ⟨⟨_, (), rfl, (show bagOfC x1 x2 ((-2) : Int32) f13 (fun k i => f12 (12 * k + i)) from (Or.inl ⟨(by omega), (by decide +kernel)⟩)), by rw [ht]; exact hP.sub [0, 1, 2] rfl, hD.sub [0, 1, 2] (by decide +kernel) rfl⟩, hS.F ht⟩) hS.2.2 dX13_bagOf_46
theorem dX13_pour_0 : decode cX13_pour 0 = .ok (.iload_n 1, 1) := by decide +kernel
theorem dX13_pour_1 : decode cX13_pour 1 = .ok (.invokestatic 405, 3) := by decide +kernel
theorem dX13_pour_100 : decode cX13_pour 100 = .ok (.istore 8, 2) := by decide +kernel
theorem dX13_pour_102 : decode cX13_pour 102 = .ok (.iload 8, 2) := by decide +kernel
theorem dX13_pour_104 : decode cX13_pour 104 = .ok (.ifCond .eq 48, 3) := by decide +kernel
theorem dX13_pour_107 : decode cX13_pour 107 = .ok (.aload_n 0, 1) := by decide +kernel
theorem dX13_pour_108 : decode cX13_pour 108 = .ok (.getfield 44, 3) := by decide +kernel
theorem dX13_pour_11 : decode cX13_pour 11 = .ok (.ifCond .eq 22, 3) := by decide +kernel
theorem dX13_pour_111 : decode cX13_pour 111 = .ok (.iload_n 2, 1) := by decide +kernel
theorem dX13_pour_112 : decode cX13_pour 112 = .ok (.iaload, 1) := by decide +kernel
theorem dX13_pour_113 : decode cX13_pour 113 = .ok (.bipush 12, 2) := by decide +kernel
theorem dX13_pour_115 : decode cX13_pour 115 = .ok (.if_icmp .ge 37, 3) := by decide +kernel
theorem dX13_pour_118 : decode cX13_pour 118 = .ok (.aload_n 0, 1) := by decide +kernel
theorem dX13_pour_119 : decode cX13_pour 119 = .ok (.getfield 41, 3) := by decide +kernel
theorem dX13_pour_122 : decode cX13_pour 122 = .ok (.bipush 12, 2) := by decide +kernel
theorem dX13_pour_124 : decode cX13_pour 124 = .ok (.iload_n 2, 1) := by decide +kernel
theorem dX13_pour_125 : decode cX13_pour 125 = .ok (.imul, 1) := by decide +kernel
theorem dX13_pour_126 : decode cX13_pour 126 = .ok (.aload_n 0, 1) := by decide +kernel
theorem dX13_pour_127 : decode cX13_pour 127 = .ok (.getfield 44, 3) := by decide +kernel
theorem dX13_pour_130 : decode cX13_pour 130 = .ok (.iload_n 2, 1) := by decide +kernel
theorem dX13_pour_131 : decode cX13_pour 131 = .ok (.iaload, 1) := by decide +kernel
theorem dX13_pour_132 : decode cX13_pour 132 = .ok (.iadd, 1) := by decide +kernel
theorem dX13_pour_133 : decode cX13_pour 133 = .ok (.iload 7, 2) := by decide +kernel
theorem dX13_pour_135 : decode cX13_pour 135 = .ok (.iastore, 1) := by decide +kernel
theorem dX13_pour_136 : decode cX13_pour 136 = .ok (.aload_n 0, 1) := by decide +kernel
theorem dX13_pour_137 : decode cX13_pour 137 = .ok (.getfield 44, 3) := by decide +kernel
theorem dX13_pour_14 : decode cX13_pour 14 = .ok (.iload_n 1, 1) := by decide +kernel
theorem dX13_pour_140 : decode cX13_pour 140 = .ok (.iload_n 2, 1) := by decide +kernel
theorem dX13_pour_141 : decode cX13_pour 141 = .ok (.dup2, 1) := by decide +kernel
theorem dX13_pour_142 : decode cX13_pour 142 = .ok (.iaload, 1) := by decide +kernel
theorem dX13_pour_143 : decode cX13_pour 143 = .ok (.iconst 1, 1) := by decide +kernel
theorem dX13_pour_144 : decode cX13_pour 144 = .ok (.iadd, 1) := by decide +kernel
theorem dX13_pour_145 : decode cX13_pour 145 = .ok (.iastore, 1) := by decide +kernel
theorem dX13_pour_146 : decode cX13_pour 146 = .ok (.iinc 4 1, 3) := by decide +kernel
theorem dX13_pour_149 : decode cX13_pour 149 = .ok (.goto 20, 3) := by decide +kernel
theorem dX13_pour_15 : decode cX13_pour 15 = .ok (.iload_n 2, 1) := by decide +kernel
theorem dX13_pour_152 : decode cX13_pour 152 = .ok (.aload_n 0, 1) := by decide +kernel
theorem dX13_pour_153 : decode cX13_pour 153 = .ok (.getfield 41, 3) := by decide +kernel
theorem dX13_pour_156 : decode cX13_pour 156 = .ok (.bipush 12, 2) := by decide +kernel
theorem dX13_pour_158 : decode cX13_pour 158 = .ok (.iload_n 1, 1) := by decide +kernel
theorem dX13_pour_159 : decode cX13_pour 159 = .ok (.imul, 1) := by decide +kernel
theorem dX13_pour_16 : decode cX13_pour 16 = .ok (.if_icmp .eq 17, 3) := by decide +kernel
theorem dX13_pour_160 : decode cX13_pour 160 = .ok (.iload 5, 2) := by decide +kernel
theorem dX13_pour_162 : decode cX13_pour 162 = .ok (.iadd, 1) := by decide +kernel
theorem dX13_pour_163 : decode cX13_pour 163 = .ok (.iload 7, 2) := by decide +kernel
theorem dX13_pour_165 : decode cX13_pour 165 = .ok (.iastore, 1) := by decide +kernel
theorem dX13_pour_166 : decode cX13_pour 166 = .ok (.iinc 5 1, 3) := by decide +kernel
theorem dX13_pour_169 : decode cX13_pour 169 = .ok (.iinc 6 1, 3) := by decide +kernel
theorem dX13_pour_172 : decode cX13_pour 172 = .ok (.goto (-127), 3) := by decide +kernel
theorem dX13_pour_175 : decode cX13_pour 175 = .ok (.aload_n 0, 1) := by decide +kernel
theorem dX13_pour_176 : decode cX13_pour 176 = .ok (.getfield 44, 3) := by decide +kernel
theorem dX13_pour_179 : decode cX13_pour 179 = .ok (.iload_n 1, 1) := by decide +kernel
theorem dX13_pour_180 : decode cX13_pour 180 = .ok (.iload 5, 2) := by decide +kernel
theorem dX13_pour_182 : decode cX13_pour 182 = .ok (.iastore, 1) := by decide +kernel
theorem dX13_pour_183 : decode cX13_pour 183 = .ok (.iload 4, 2) := by decide +kernel
theorem dX13_pour_185 : decode cX13_pour 185 = .ok (.ireturn, 1) := by decide +kernel
theorem dX13_pour_19 : decode cX13_pour 19 = .ok (.iload_n 3, 1) := by decide +kernel
theorem dX13_pour_20 : decode cX13_pour 20 = .ok (.i2l, 1) := by decide +kernel
theorem dX13_pour_21 : decode cX13_pour 21 = .ok (.ldc2_w 135, 3) := by decide +kernel
theorem dX13_pour_24 : decode cX13_pour 24 = .ok (.ldc2_w 214, 3) := by decide +kernel
theorem dX13_pour_27 : decode cX13_pour 27 = .ok (.invokestatic 175, 3) := by decide +kernel
theorem dX13_pour_30 : decode cX13_pour 30 = .ok (.ifCond .ne 6, 3) := by decide +kernel
theorem dX13_pour_33 : decode cX13_pour 33 = .ok (.bipush (-2), 2) := by decide +kernel
theorem dX13_pour_35 : decode cX13_pour 35 = .ok (.ireturn, 1) := by decide +kernel
theorem dX13_pour_36 : decode cX13_pour 36 = .ok (.iconst 0, 1) := by decide +kernel
theorem dX13_pour_37 : decode cX13_pour 37 = .ok (.istore 4, 2) := by decide +kernel
theorem dX13_pour_39 : decode cX13_pour 39 = .ok (.iconst 0, 1) := by decide +kernel
theorem dX13_pour_4 : decode cX13_pour 4 = .ok (.ifCond .eq 29, 3) := by decide +kernel
theorem dX13_pour_40 : decode cX13_pour 40 = .ok (.istore 5, 2) := by decide +kernel
theorem dX13_pour_42 : decode cX13_pour 42 = .ok (.iconst 0, 1) := by decide +kernel
theorem dX13_pour_43 : decode cX13_pour 43 = .ok (.istore 6, 2) := by decide +kernel
theorem dX13_pour_45 : decode cX13_pour 45 = .ok (.iload 6, 2) := by decide +kernel
theorem dX13_pour_47 : decode cX13_pour 47 = .ok (.aload_n 0, 1) := by decide +kernel
theorem dX13_pour_48 : decode cX13_pour 48 = .ok (.getfield 44, 3) := by decide +kernel
theorem dX13_pour_51 : decode cX13_pour 51 = .ok (.iload_n 1, 1) := by decide +kernel
theorem dX13_pour_52 : decode cX13_pour 52 = .ok (.iaload, 1) := by decide +kernel
theorem dX13_pour_53 : decode cX13_pour 53 = .ok (.if_icmp .ge 122, 3) := by decide +kernel
theorem dX13_pour_56 : decode cX13_pour 56 = .ok (.aload_n 0, 1) := by decide +kernel
theorem dX13_pour_57 : decode cX13_pour 57 = .ok (.getfield 41, 3) := by decide +kernel
theorem dX13_pour_60 : decode cX13_pour 60 = .ok (.bipush 12, 2) := by decide +kernel
theorem dX13_pour_62 : decode cX13_pour 62 = .ok (.iload_n 1, 1) := by decide +kernel
theorem dX13_pour_63 : decode cX13_pour 63 = .ok (.imul, 1) := by decide +kernel
theorem dX13_pour_64 : decode cX13_pour 64 = .ok (.iload 6, 2) := by decide +kernel
theorem dX13_pour_66 : decode cX13_pour 66 = .ok (.iadd, 1) := by decide +kernel
theorem dX13_pour_67 : decode cX13_pour 67 = .ok (.iaload, 1) := by decide +kernel
theorem dX13_pour_68 : decode cX13_pour 68 = .ok (.istore 7, 2) := by decide +kernel
theorem dX13_pour_7 : decode cX13_pour 7 = .ok (.iload_n 2, 1) := by decide +kernel
theorem dX13_pour_70 : decode cX13_pour 70 = .ok (.iload_n 3, 1) := by decide +kernel
theorem dX13_pour_71 : decode cX13_pour 71 = .ok (.iconst (-1), 1) := by decide +kernel
theorem dX13_pour_72 : decode cX13_pour 72 = .ok (.if_icmp .eq 23, 3) := by decide +kernel
theorem dX13_pour_75 : decode cX13_pour 75 = .ok (.aload_n 0, 1) := by decide +kernel
theorem dX13_pour_76 : decode cX13_pour 76 = .ok (.iload 7, 2) := by decide +kernel
theorem dX13_pour_78 : decode cX13_pour 78 = .ok (.invokevirtual 233, 3) := by decide +kernel
theorem dX13_pour_8 : decode cX13_pour 8 = .ok (.invokestatic 405, 3) := by decide +kernel
theorem dX13_pour_81 : decode cX13_pour 81 = .ok (.ifCond .eq 18, 3) := by decide +kernel
theorem dX13_pour_84 : decode cX13_pour 84 = .ok (.aload_n 0, 1) := by decide +kernel
theorem dX13_pour_85 : decode cX13_pour 85 = .ok (.getfield 28, 3) := by decide +kernel
theorem dX13_pour_88 : decode cX13_pour 88 = .ok (.iload 7, 2) := by decide +kernel
theorem dX13_pour_90 : decode cX13_pour 90 = .ok (.iaload, 1) := by decide +kernel
theorem dX13_pour_91 : decode cX13_pour 91 = .ok (.iload_n 3, 1) := by decide +kernel
theorem dX13_pour_92 : decode cX13_pour 92 = .ok (.if_icmp .ne 7, 3) := by decide +kernel
theorem dX13_pour_95 : decode cX13_pour 95 = .ok (.iconst 1, 1) := by decide +kernel
theorem dX13_pour_96 : decode cX13_pour 96 = .ok (.goto 4, 3) := by decide +kernel
theorem dX13_pour_99 : decode cX13_pour 99 = .ok (.iconst 0, 1) := by decide +kernel
set_option maxRecDepth 20000 in
theorem ggX13_pour_X13_in : GoodIn wsX13_pour wsX13_in := goodIn_r _ [13] rfl (by decide +kernel)
set_option maxRecDepth 20000 in
theorem ggX13_pour_X13_isBag : GoodIn wsX13_pour wsX13_isBag := goodIn_r _ [9, 10, 11, 12, 8, 13] rfl (by decide +kernel)
set_option maxRecDepth 20000 in
theorem ggX13_pour_X13_isClause : GoodIn wsX13_pour wsX13_isClause := goodIn_r _ [17, 18, 11, 12, 8, 13, 19, 20, 21, 22, 23, 24, 25, 26, 27, 28, 29, 30, 31, 32, 33, 34, 35, 36, 37, 38, 39, 40, 41, 42, 43, 44, 45, 46, 47, 48, 49, 50, 51, 52, 53, 54, 55, 56, 57, 58, 59, 60, 61, 62, 63] rfl (by decide +kernel)
set_option maxRecDepth 20000 in
theorem gX13_pour_X13_in : GoodIn wsX13_pour (va_wsS RX13 175 yX13_in wsX13_in) := goodIn_app (goodIn_of _ (by decide +kernel)) ggX13_pour_X13_in
set_option maxRecDepth 20000 in
theorem gX13_pour_X13_isBag : GoodIn wsX13_pour (va_wsS RX13 405 yX13_isBag wsX13_isBag) := goodIn_app (goodIn_of _ (by decide +kernel)) ggX13_pour_X13_isBag
set_option maxRecDepth 20000 in
theorem gX13_pour_X13_isClause : GoodIn wsX13_pour (wsV RX13 233 RX13 yX13_isClause wsX13_isClause) := goodIn_app (goodIn_r _ [14, 15, 16, 8] rfl (by decide +kernel)) ggX13_pour_X13_isClause
set_option maxRecDepth 20000 in
theorem in_X13_pour_X13 : ∀ w ∈ wsX130, w ∈ wsX13_pour := sub_r [19, 20, 21, 22, 23, 24, 25, 26, 27, 28, 29, 30, 31, 32, 33, 34, 35, 36, 37, 38, 39, 40, 41, 42, 43, 44, 45, 46, 47, 48, 49, 50, 51, 52, 53, 54, 55, 56, 57, 58, 59, 60, 61, 62, 63] rfl
set_option maxHeartbeats 4000000 in
set_option maxRecDepth 100000 in
theorem c_X13_pour (l : Launch) (D : va_G) (T : Nat → ClassId) (sz : Nat) (h0 : Nat) (q : Nat → Int32) (v : Int64) (w : Int64) (a : Nat → Nat) (f8 : Nat → Int32) (f12 : Nat → Int32) (f13 : Nat → Int32) (x1 : Int32) (x2 : Int32) (x3 : Int32) (hm : 0 ≤ (q 7).toInt ∧ (q 7).toInt ≤ 24) (hbg : ∀ k : Nat, k < 3 → 0 ≤ (f13 k).toInt ∧ (f13 k).toInt ≤ 12) : Met l yX13_pour wsX13_pour ({ frames := 2, cells := 0, slots := 0, locals := 46 }) (pW [.ref h0, .int x1, .int x2, .int x3] D T [(h0, .inr (10, (Value.int (q 0) :: Value.int (q 1) :: Value.int (q 2) :: Value.int (q 3) :: Value.int (q 4) :: Value.int (q 5) :: Value.int (q 6) :: Value.int (q 7) :: Value.ref (a 8) :: Value.ref (a 9) :: Value.ref (a 10) :: Value.ref (a 11) :: Value.ref (a 12) :: Value.ref (a 13) :: Value.int (q 14) :: Value.long v :: Value.long w :: Value.ref (a 17) :: Value.ref (a 18) :: Value.ref (a 19) :: Value.ref (a 20) :: Value.ref (a 21) :: Value.ref (a 22) :: Value.ref (a 23) :: Value.int (q 24) :: Value.ref (a 25) :: Value.int (q 26) :: Value.ref (a 27) :: Value.int (q 28) :: Value.int (q 29) :: Value.int (q 30) :: Value.int (q 31) :: Value.int (q 32) :: Value.int (q 33) :: Value.ref (a 34) :: Value.ref (a 35) :: Value.ref (a 36) :: Value.ref (a 37) :: Value.ref (a 38) :: Value.ref (a 39) :: Value.ref (a 40) :: Value.int (q 41) :: Value.ref (a 42) :: Value.int (q 43) :: Value.int (q 44) :: []))), ((a 8), .inl (T 0, 24, .inl f8)), ((a 12), .inl (T 0, 36, .inl f12)), ((a 13), .inl (T 0, 3, .inl f13))] sz) (va_Qi (fun (r : Int32) (u : (Nat → Int32) × (Nat → Int32)) => (∀ k : Nat, k < 3 → 0 ≤ (u.2 k).toInt ∧ (u.2 k).toInt ≤ 12) ∧ (pourR (q 7) x1 x2 x3 r f8 f13 u.2 f12 u.1)) (bW D (va_A [(h0, .inr (10, (Value.int (q 0) :: Value.int (q 1) :: Value.int (q 2) :: Value.int (q 3) :: Value.int (q 4) :: Value.int (q 5) :: Value.int (q 6) :: Value.int (q 7) :: Value.ref (a 8) :: Value.ref (a 9) :: Value.ref (a 10) :: Value.ref (a 11) :: Value.ref (a 12) :: Value.ref (a 13) :: Value.int (q 14) :: Value.long v :: Value.long w :: Value.ref (a 17) :: Value.ref (a 18) :: Value.ref (a 19) :: Value.ref (a 20) :: Value.ref (a 21) :: Value.ref (a 22) :: Value.ref (a 23) :: Value.int (q 24) :: Value.ref (a 25) :: Value.int (q 26) :: Value.ref (a 27) :: Value.int (q 28) :: Value.int (q 29) :: Value.int (q 30) :: Value.int (q 31) :: Value.int (q 32) :: Value.int (q 33) :: Value.ref (a 34) :: Value.ref (a 35) :: Value.ref (a 36) :: Value.ref (a 37) :: Value.ref (a 38) :: Value.ref (a 39) :: Value.ref (a 40) :: Value.int (q 41) :: Value.ref (a 42) :: Value.int (q 43) :: Value.int (q 44) :: []))), ((a 8), .inl (T 0, 24, .inl f8)), ((a 12), .inl (T 0, 36, .inl f12)), ((a 13), .inl (T 0, 3, .inl f13))] sz) (fun (u : (Nat → Int32) × (Nat → Int32)) => [(h0, .inr (10, (Value.int (q 0) :: Value.int (q 1) :: Value.int (q 2) :: Value.int (q 3) :: Value.int (q 4) :: Value.int (q 5) :: Value.int (q 6) :: Value.int (q 7) :: Value.ref (a 8) :: Value.ref (a 9) :: Value.ref (a 10) :: Value.ref (a 11) :: Value.ref (a 12) :: Value.ref (a 13) :: Value.int (q 14) :: Value.long v :: Value.long w :: Value.ref (a 17) :: Value.ref (a 18) :: Value.ref (a 19) :: Value.ref (a 20) :: Value.ref (a 21) :: Value.ref (a 22) :: Value.ref (a 23) :: Value.int (q 24) :: Value.ref (a 25) :: Value.int (q 26) :: Value.ref (a 27) :: Value.int (q 28) :: Value.int (q 29) :: Value.int (q 30) :: Value.int (q 31) :: Value.int (q 32) :: Value.int (q 33) :: Value.ref (a 34) :: Value.ref (a 35) :: Value.ref (a 36) :: Value.ref (a 37) :: Value.ref (a 38) :: Value.ref (a 39) :: Value.ref (a 40) :: Value.int (q 41) :: Value.ref (a 42) :: Value.int (q 43) :: Value.int (q 44) :: []))), ((a 8), .inl (T 0, 24, .inl f8)), ((a 12), .inl (T 0, 36, .inl u.1)), ((a 13), .inl (T 0, 3, .inl u.2))])) (va_A [(h0, .inr (10, (Value.int (q 0) :: Value.int (q 1) :: Value.int (q 2) :: Value.int (q 3) :: Value.int (q 4) :: Value.int (q 5) :: Value.int (q 6) :: Value.int (q 7) :: Value.ref (a 8) :: Value.ref (a 9) :: Value.ref (a 10) :: Value.ref (a 11) :: Value.ref (a 12) :: Value.ref (a 13) :: Value.int (q 14) :: Value.long v :: Value.long w :: Value.ref (a 17) :: Value.ref (a 18) :: Value.ref (a 19) :: Value.ref (a 20) :: Value.ref (a 21) :: Value.ref (a 22) :: Value.ref (a 23) :: Value.int (q 24) :: Value.ref (a 25) :: Value.int (q 26) :: Value.ref (a 27) :: Value.int (q 28) :: Value.int (q 29) :: Value.int (q 30) :: Value.int (q 31) :: Value.int (q 32) :: Value.int (q 33) :: Value.ref (a 34) :: Value.ref (a 35) :: Value.ref (a 36) :: Value.ref (a 37) :: Value.ref (a 38) :: Value.ref (a 39) :: Value.ref (a 40) :: Value.int (q 41) :: Value.ref (a 42) :: Value.int (q 43) :: Value.int (q 44) :: []))), ((a 8), .inl (T 0, 24, .inl f8)), ((a 12), .inl (T 0, 36, .inl f12)), ((a 13), .inl (T 0, 3, .inl f13))] sz)) 0 0 (va_A [(h0, .inr (10, (Value.int (q 0) :: Value.int (q 1) :: Value.int (q 2) :: Value.int (q 3) :: Value.int (q 4) :: Value.int (q 5) :: Value.int (q 6) :: Value.int (q 7) :: Value.ref (a 8) :: Value.ref (a 9) :: Value.ref (a 10) :: Value.ref (a 11) :: Value.ref (a 12) :: Value.ref (a 13) :: Value.int (q 14) :: Value.long v :: Value.long w :: Value.ref (a 17) :: Value.ref (a 18) :: Value.ref (a 19) :: Value.ref (a 20) :: Value.ref (a 21) :: Value.ref (a 22) :: Value.ref (a 23) :: Value.int (q 24) :: Value.ref (a 25) :: Value.int (q 26) :: Value.ref (a 27) :: Value.int (q 28) :: Value.int (q 29) :: Value.int (q 30) :: Value.int (q 31) :: Value.int (q 32) :: Value.int (q 33) :: Value.ref (a 34) :: Value.ref (a 35) :: Value.ref (a 36) :: Value.ref (a 37) :: Value.ref (a 38) :: Value.ref (a 39) :: Value.ref (a 40) :: Value.int (q 41) :: Value.ref (a 42) :: Value.int (q 43) :: Value.int (q 44) :: []))), ((a 8), .inl (T 0, 24, .inl f8)), ((a 12), .inl (T 0, 36, .inl f12)), ((a 13), .inl (T 0, 3, .inl f13))] sz) := by
  refine Met.ofW (cc := cX13_pour) (maxL := 9) (ret := (some .int)) (by decide +kernel) rfl ?_
  intro p e s m args below meth c s₁ B hml hv
  obtain ⟨rfl, hsz, hP, hE, hD0⟩ := hv
  have hx := B.exec
  have hb := B.bytes
  have hr := B.returns
  have hts := atoms_spec (ws := wsX13_pour) B.pre
  have hown : s.vm.findClass RX13 = some m.cls := findClass_of_methodNamed B.named
  have hlocks := B.notSynchronized
  subst hsz
  have hD := hD0.self (sz := s.heap.size)
  generalize hAe : va_A [(h0, .inr (10, (Value.int (q 0) :: Value.int (q 1) :: Value.int (q 2) :: Value.int (q 3) :: Value.int (q 4) :: Value.int (q 5) :: Value.int (q 6) :: Value.int (q 7) :: Value.ref (a 8) :: Value.ref (a 9) :: Value.ref (a 10) :: Value.ref (a 11) :: Value.ref (a 12) :: Value.ref (a 13) :: Value.int (q 14) :: Value.long v :: Value.long w :: Value.ref (a 17) :: Value.ref (a 18) :: Value.ref (a 19) :: Value.ref (a 20) :: Value.ref (a 21) :: Value.ref (a 22) :: Value.ref (a 23) :: Value.int (q 24) :: Value.ref (a 25) :: Value.int (q 26) :: Value.ref (a 27) :: Value.int (q 28) :: Value.int (q 29) :: Value.int (q 30) :: Value.int (q 31) :: Value.int (q 32) :: Value.int (q 33) :: Value.ref (a 34) :: Value.ref (a 35) :: Value.ref (a 36) :: Value.ref (a 37) :: Value.ref (a 38) :: Value.ref (a 39) :: Value.ref (a 40) :: Value.int (q 41) :: Value.ref (a 42) :: Value.int (q 43) :: Value.int (q 44) :: []))), ((a 8), .inl (T 0, 24, .inl f8)), ((a 12), .inl (T 0, 36, .inl f12)), ((a 13), .inl (T 0, 3, .inl f13))] s.heap.size = A at hD ⊢
  have hA : ∀ q : Nat, s.heap.size ≤ q → A q := fun q h => by rw [← hAe]; exact Or.inr h
  have hS : va_S A s.heap s.heap [] := va_S.rf
  have hP : va_P D vwCl [(h0, .inr (10, (Value.int (q 0) :: Value.int (q 1) :: Value.int (q 2) :: Value.int (q 3) :: Value.int (q 4) :: Value.int (q 5) :: Value.int (q 6) :: Value.int (q 7) :: Value.ref (a 8) :: Value.ref (a 9) :: Value.ref (a 10) :: Value.ref (a 11) :: Value.ref (a 12) :: Value.ref (a 13) :: Value.int (q 14) :: Value.long v :: Value.long w :: Value.ref (a 17) :: Value.ref (a 18) :: Value.ref (a 19) :: Value.ref (a 20) :: Value.ref (a 21) :: Value.ref (a 22) :: Value.ref (a 23) :: Value.int (q 24) :: Value.ref (a 25) :: Value.int (q 26) :: Value.ref (a 27) :: Value.int (q 28) :: Value.int (q 29) :: Value.int (q 30) :: Value.int (q 31) :: Value.int (q 32) :: Value.int (q 33) :: Value.ref (a 34) :: Value.ref (a 35) :: Value.ref (a 36) :: Value.ref (a 37) :: Value.ref (a 38) :: Value.ref (a 39) :: Value.ref (a 40) :: Value.int (q 41) :: Value.ref (a 42) :: Value.int (q 43) :: Value.int (q 44) :: []))), ((a 8), .inl (T 0, 24, .inl f8)), ((a 12), .inl (T 0, 36, .inl f12)), ((a 13), .inl (T 0, 3, .inl f13))] s.heap := hP
  have hl := lv_entry ([.ref h0, .int x1, .int x2, .int x3]) (n := 9) (Nat.le_of_ble_eq_true rfl)
  rw [lg_entry_eq]
  generalize (lg_sl ([.ref h0, .int x1, .int x2, .int x3]) ++ List.replicate (9 - (lg_sl ([.ref h0, .int x1, .int x2, .int x3])).length) Slot.unset).toArray = ls at hl ⊢
  have hl : lv_has ls 9 [(0, .ref h0), (1, .int x1), (2, .int x2), (3, .int x3)] := hl
  clear hD0
  refine lv_iload_n hx hb dX13_pour_0 rfl (lv_at hl 1 rfl) ?_
  refine vp_callSi (W.runS (As := [.int x1]) (rest := []) ⟨hx, hb, hml, hown, hts⟩ (c_X13_isBag l D T x1) (va_cwS 1 hts gX13_pour_X13_isBag rfl rfl rfl hs_X13_isBag ⟨Nat.le_of_ble_eq_true rfl, Nat.le_of_ble_eq_true rfl⟩) (pR_S hP hE [] rfl) rfl rfl hl.1 rfl (lv_room (Nat.le_of_ble_eq_true rfl)) dX13_pour_1 ⟨Nat.le_of_ble_eq_true rfl, Nat.le_of_ble_eq_true rfl⟩) (fun r_1 hr_1 => ?_)
  rcases bool_post hr_1 with ⟨c_2, rfl⟩ | ⟨c_2, rfl⟩
  · refine lv_if_eq (tgt := 33) hx hb dX13_pour_4 (by decide +kernel) (fun c9 => absurd c9 (by decide +kernel)) (fun _ => ?_)
    refine lv_iload_n hx hb dX13_pour_7 rfl (lv_at hl 2 rfl) ?_
    refine vp_callSi (W.runS (As := [.int x2]) (rest := []) ⟨hx, hb, hml, hown, hts⟩ (c_X13_isBag l D T x2) (va_cwS 1 hts gX13_pour_X13_isBag rfl rfl rfl hs_X13_isBag ⟨Nat.le_of_ble_eq_true rfl, Nat.le_of_ble_eq_true rfl⟩) (pR_S hP hE [] rfl) rfl rfl hl.1 rfl (lv_room (Nat.le_of_ble_eq_true rfl)) dX13_pour_8 ⟨Nat.le_of_ble_eq_true rfl, Nat.le_of_ble_eq_true rfl⟩) (fun r_3 hr_3 => ?_)
    rcases bool_post hr_3 with ⟨c_4, rfl⟩ | ⟨c_4, rfl⟩
    · refine lv_if_eq (tgt := 33) hx hb dX13_pour_11 (by decide +kernel) (fun c9 => absurd c9 (by decide +kernel)) (fun _ => ?_)
      refine lv_iload_n hx hb dX13_pour_14 rfl (lv_at hl 1 rfl) ?_
      refine lv_iload_n hx hb dX13_pour_15 rfl (lv_at hl 2 rfl) ?_
      refine lv_icmp_eq (tgt := 33) hx hb dX13_pour_16 (by decide +kernel) (fun c_5 => ?_) (fun c_5 => ?_)
      · rw [fa_eq] at c_5
        refine lv_bipush (v := (-2)) hx hb dX13_pour_33 (by decide +kernel) ?_
        exact W.iret hx hb hr (fun t ht hW => ⟨⟨_, (f12, f13), rfl, ⟨(show ∀ k : Nat, k < 3 → 0 ≤ (f13 k).toInt ∧ (f13 k).toInt ≤ 12 from hbg), (show pourR (q 7) x1 x2 x3 ((-2) : Int32) f8 f13 f13 f12 f12 from (Or.inl ⟨(fun h9 => by obtain ⟨⟨h1, h2⟩, h3, h4⟩ := h9; omega), (by decide +kernel), rfl, rfl⟩))⟩, by rw [ht]; exact hP.sub [0, 1, 2, 3] rfl, hD.sub [0, 1, 2, 3] (by decide +kernel) rfl⟩, hS.F ht⟩) hS.2.2 dX13_pour_35
      · rw [fa_eq] at c_5
        refine lv_iload_n hx hb dX13_pour_19 rfl (lv_at hl 3 rfl) ?_
        refine lv_i2l hx hb dX13_pour_20 rfl ?_
        refine lv_ldc2 (v := (-1)) hx hb hown (hts (.constantLong RX13 135 (-1)) (List.mem_of_getElem? (i := 1) rfl)) dX13_pour_21 ?_
        refine lv_ldc2 (v := 12) hx hb hown (hts (.constantLong RX13 214 (12)) (List.mem_of_getElem? (i := 2) rfl)) dX13_pour_24 ?_
        refine vp_callSi (W.runS (As := [.long (x3.toInt64), .long (-1), .long 12]) (rest := []) ⟨hx, hb, hml, hown, hts⟩ (c_X13_in l D T (x3.toInt64) (-1) 12 x3.toInt (-1) 12 ((Int32.toInt_toInt64 _).trans rfl) (by decide +kernel) (by decide +kernel)) (va_cwS 3 hts gX13_pour_X13_in rfl rfl rfl hs_X13_in ⟨Nat.le_of_ble_eq_true rfl, Nat.le_of_ble_eq_true rfl⟩) (pR_S hP hE [] rfl) rfl rfl hl.1 rfl (lv_room (Nat.le_of_ble_eq_true rfl)) dX13_pour_27 ⟨Nat.le_of_ble_eq_true rfl, Nat.le_of_ble_eq_true rfl⟩) (fun r_6 hr_6 => ?_)
        rcases bool_post hr_6 with ⟨c_7, rfl⟩ | ⟨c_7, rfl⟩
        · refine lv_if_ne (tgt := 36) hx hb dX13_pour_30 (by decide +kernel) (fun _ => ?_) (fun c9 => absurd c9 (by decide +kernel))
          have hX1 : x1.toNatClampNeg < 3 := tn3 (by omega) (by omega)
          have hX2 : x2.toNatClampNeg < 3 := tn3 (by omega) (by omega)
          have hXn : x1.toNatClampNeg ≠ x2.toNatClampNeg := by have h8 := tn (x := x1) (by omega); have h7 := tn (x := x2) (by omega); omega
          have hV9 : pourV x1 x2 x3 := by refine ⟨⟨?_, ?_⟩, ?_, ?_⟩ <;> omega
          refine lv_iconst (v := 0) hx hb dX13_pour_36 (by decide +kernel) ?_
          refine lv_istore (lv' := [(4, .int 0), (0, .ref h0), (1, .int x1), (2, .int x2), (3, .int x3)]) hx hb dX13_pour_37 hl (by decide +kernel) rfl (fun ls hl => ?_)
          refine lv_iconst (v := 0) hx hb dX13_pour_39 (by decide +kernel) ?_
          refine lv_istore (lv' := [(5, .int 0), (4, .int 0), (0, .ref h0), (1, .int x1), (2, .int x2), (3, .int x3)]) hx hb dX13_pour_40 hl (by decide +kernel) rfl (fun ls hl => ?_)
          refine lv_iconst (v := 0) hx hb dX13_pour_42 (by decide +kernel) ?_
          refine lv_istore (lv' := [(6, .int 0), (5, .int 0), (4, .int 0), (0, .ref h0), (1, .int x1), (2, .int x2), (3, .int x3)]) hx hb dX13_pour_43 hl (by decide +kernel) rfl (fun ls hl => ?_)
          refine loopW (σ := (Int32) × (Int32) × (Int32) × (Nat → Int32) × (Nat → Int32)) (fun x9 ls H locs => lv_has ls 9 [(6, .int x9.1), (5, .int x9.2.1), (4, .int x9.2.2.1), (0, .ref h0), (1, .int x1), (2, .int x2), (3, .int x3)] ∧ va_P D vwCl [(h0, .inr (10, (Value.int (q 0) :: Value.int (q 1) :: Value.int (q 2) :: Value.int (q 3) :: Value.int (q 4) :: Value.int (q 5) :: Value.int (q 6) :: Value.int (q 7) :: Value.ref (a 8) :: Value.ref (a 9) :: Value.ref (a 10) :: Value.ref (a 11) :: Value.ref (a 12) :: Value.ref (a 13) :: Value.int (q 14) :: Value.long v :: Value.long w :: Value.ref (a 17) :: Value.ref (a 18) :: Value.ref (a 19) :: Value.ref (a 20) :: Value.ref (a 21) :: Value.ref (a 22) :: Value.ref (a 23) :: Value.int (q 24) :: Value.ref (a 25) :: Value.int (q 26) :: Value.ref (a 27) :: Value.int (q 28) :: Value.int (q 29) :: Value.int (q 30) :: Value.int (q 31) :: Value.int (q 32) :: Value.int (q 33) :: Value.ref (a 34) :: Value.ref (a 35) :: Value.ref (a 36) :: Value.ref (a 37) :: Value.ref (a 38) :: Value.ref (a 39) :: Value.ref (a 40) :: Value.int (q 41) :: Value.ref (a 42) :: Value.int (q 43) :: Value.int (q 44) :: []))), ((a 8), .inl (T 0, 24, .inl f8)), ((a 12), .inl (T 0, 36, .inl x9.2.2.2.1)), ((a 13), .inl (T 0, 3, .inl x9.2.2.2.2))] H ∧ va_D A [(h0, .inr (10, (Value.int (q 0) :: Value.int (q 1) :: Value.int (q 2) :: Value.int (q 3) :: Value.int (q 4) :: Value.int (q 5) :: Value.int (q 6) :: Value.int (q 7) :: Value.ref (a 8) :: Value.ref (a 9) :: Value.ref (a 10) :: Value.ref (a 11) :: Value.ref (a 12) :: Value.ref (a 13) :: Value.int (q 14) :: Value.long v :: Value.long w :: Value.ref (a 17) :: Value.ref (a 18) :: Value.ref (a 19) :: Value.ref (a 20) :: Value.ref (a 21) :: Value.ref (a 22) :: Value.ref (a 23) :: Value.int (q 24) :: Value.ref (a 25) :: Value.int (q 26) :: Value.ref (a 27) :: Value.int (q 28) :: Value.int (q 29) :: Value.int (q 30) :: Value.int (q 31) :: Value.int (q 32) :: Value.int (q 33) :: Value.ref (a 34) :: Value.ref (a 35) :: Value.ref (a 36) :: Value.ref (a 37) :: Value.ref (a 38) :: Value.ref (a 39) :: Value.ref (a 40) :: Value.int (q 41) :: Value.ref (a 42) :: Value.int (q 43) :: Value.int (q 44) :: []))), ((a 8), .inl (T 0, 24, .inl f8)), ((a 12), .inl (T 0, 36, .inl x9.2.2.2.1)), ((a 13), .inl (T 0, 3, .inl x9.2.2.2.2))] ∧ va_S A s.heap H locs ∧ ((0 ≤ x9.2.1.toInt ∧ x9.2.1.toInt ≤ x9.1.toInt ∧ x9.1.toInt ≤ 12 ∧ x9.1.toInt ≤ (f13 x1.toNatClampNeg).toInt) ∧ (∀ k : Nat, k < 3 → 0 ≤ (x9.2.2.2.2 k).toInt ∧ (x9.2.2.2.2 k).toInt ≤ 12) ∧ pourJ (prP x3 (q 7) f8) f12 f13 x1.toNatClampNeg x2.toNatClampNeg x9.1.toNatClampNeg x9.2.1 x9.2.2.1 x9.2.2.2.1 x9.2.2.2.2)) (fun x9 => (12 - x9.1.toInt).toNat) (fun x9 ls H locs hI ih => ?_) (0, 0, 0, f12, f13) ls ⟨lv_sub hl [0, 1, 2, 3, 4, 5, 6] rfl, hP.sub [0, 1, 2, 3] rfl, hD.sub [0, 1, 2, 3] (by decide +kernel) rfl, hS, ⟨(by (try dsimp only); have h8 := hbg _ hX1; simp only [ti_0]; omega), hbg, (by (try dsimp only); rw [tn0']; exact pourJ_0 hX2 (hbg _ hX2).1)⟩⟩
          obtain ⟨ii, st, ca, g12, g13⟩ := x9
          obtain ⟨hl, hP, hD, hS, hinv⟩ := hI
          have hl : lv_has ls 9 [(6, .int ii), (5, .int st), (4, .int ca), (0, .ref h0), (1, .int x1), (2, .int x2), (3, .int x3)] := hl
          have hP : va_P D vwCl [(h0, .inr (10, (Value.int (q 0) :: Value.int (q 1) :: Value.int (q 2) :: Value.int (q 3) :: Value.int (q 4) :: Value.int (q 5) :: Value.int (q 6) :: Value.int (q 7) :: Value.ref (a 8) :: Value.ref (a 9) :: Value.ref (a 10) :: Value.ref (a 11) :: Value.ref (a 12) :: Value.ref (a 13) :: Value.int (q 14) :: Value.long v :: Value.long w :: Value.ref (a 17) :: Value.ref (a 18) :: Value.ref (a 19) :: Value.ref (a 20) :: Value.ref (a 21) :: Value.ref (a 22) :: Value.ref (a 23) :: Value.int (q 24) :: Value.ref (a 25) :: Value.int (q 26) :: Value.ref (a 27) :: Value.int (q 28) :: Value.int (q 29) :: Value.int (q 30) :: Value.int (q 31) :: Value.int (q 32) :: Value.int (q 33) :: Value.ref (a 34) :: Value.ref (a 35) :: Value.ref (a 36) :: Value.ref (a 37) :: Value.ref (a 38) :: Value.ref (a 39) :: Value.ref (a 40) :: Value.int (q 41) :: Value.ref (a 42) :: Value.int (q 43) :: Value.int (q 44) :: []))), ((a 8), .inl (T 0, 24, .inl f8)), ((a 12), .inl (T 0, 36, .inl g12)), ((a 13), .inl (T 0, 3, .inl g13))] H := hP
          have hD : va_D A [(h0, .inr (10, (Value.int (q 0) :: Value.int (q 1) :: Value.int (q 2) :: Value.int (q 3) :: Value.int (q 4) :: Value.int (q 5) :: Value.int (q 6) :: Value.int (q 7) :: Value.ref (a 8) :: Value.ref (a 9) :: Value.ref (a 10) :: Value.ref (a 11) :: Value.ref (a 12) :: Value.ref (a 13) :: Value.int (q 14) :: Value.long v :: Value.long w :: Value.ref (a 17) :: Value.ref (a 18) :: Value.ref (a 19) :: Value.ref (a 20) :: Value.ref (a 21) :: Value.ref (a 22) :: Value.ref (a 23) :: Value.int (q 24) :: Value.ref (a 25) :: Value.int (q 26) :: Value.ref (a 27) :: Value.int (q 28) :: Value.int (q 29) :: Value.int (q 30) :: Value.int (q 31) :: Value.int (q 32) :: Value.int (q 33) :: Value.ref (a 34) :: Value.ref (a 35) :: Value.ref (a 36) :: Value.ref (a 37) :: Value.ref (a 38) :: Value.ref (a 39) :: Value.ref (a 40) :: Value.int (q 41) :: Value.ref (a 42) :: Value.int (q 43) :: Value.int (q 44) :: []))), ((a 8), .inl (T 0, 24, .inl f8)), ((a 12), .inl (T 0, 36, .inl g12)), ((a 13), .inl (T 0, 3, .inl g13))] := hD
          have hinv : (0 ≤ st.toInt ∧ st.toInt ≤ ii.toInt ∧ ii.toInt ≤ 12 ∧ ii.toInt ≤ (f13 x1.toNatClampNeg).toInt) ∧ (∀ k : Nat, k < 3 → 0 ≤ (g13 k).toInt ∧ (g13 k).toInt ≤ 12) ∧ pourJ (prP x3 (q 7) f8) f12 f13 x1.toNatClampNeg x2.toNatClampNeg ii.toNatClampNeg st ca g12 g13 := hinv
          obtain ⟨hii, hbg, hpj⟩ := hinv
          have h12x1 : (12 * x1).toInt = 12 * x1.toInt := by rw [fb_mulI (by rw [ti_12]; omega) (by rw [ti_12]; omega), ti_12]
          have h12x2 : (12 * x2).toInt = 12 * x2.toInt := by rw [fb_mulI (by rw [ti_12]; omega) (by rw [ti_12]; omega), ti_12]
          have hg1 : g13 x1.toNatClampNeg = f13 x1.toNatClampNeg := (hpj.2.1 _ hX1).2 hXn
          refine lv_iload hx hb dX13_pour_45 (lv_at hl 0 rfl) ?_
          refine lv_aload_n hx hb dX13_pour_47 rfl (lv_at hl 3 rfl) ?_
          refine va_get (D := D) (ci := 10) (v := .ref (a 13)) (C := RX13) (T := TX13) (N := 45) hx hb hts in_X13_pour_X13 hown hE.1 hP 0 rfl rfl 13 (by decide +kernel) (hts (.fieldLink RX13 44 "ClauseBookModel" "bagged" "[I") (List.mem_of_getElem? (i := 3) rfl)) (fun _ h9 => h9) rfl dX13_pour_48 ?_
          refine lv_iload_n hx hb dX13_pour_51 rfl (lv_at hl 4 rfl) ?_
          refine va_iald hx hb hE.1 hP 3 0 rfl rfl (by rw [vp_in_iff]; first | omega | (rw [fb_addI (by omega) (by omega)]; omega)) dX13_pour_52 ?_
          refine lv_topi (fun z_8 ez_8 => ?_)
          have hbz_8 : 0 ≤ z_8.toInt ∧ z_8.toInt ≤ 12 := by rw [ez_8]; exact hbg _ (tn3 (by omega) (by omega))
          have hfz_8 : z_8.toInt = (f13 x1.toNatClampNeg).toInt := by rw [ez_8, hg1]
          refine lv_icmp_ge (tgt := 175) hx hb dX13_pour_53 (by decide +kernel) (fun c_9 => ?_) (fun c_9 => ?_)
          · rw [fa_le] at c_9
            refine lv_aload_n hx hb dX13_pour_175 rfl (lv_at hl 3 rfl) ?_
            refine va_get (D := D) (ci := 10) (v := .ref (a 13)) (C := RX13) (T := TX13) (N := 45) hx hb hts in_X13_pour_X13 hown hE.1 hP 0 rfl rfl 13 (by decide +kernel) (hts (.fieldLink RX13 44 "ClauseBookModel" "bagged" "[I") (List.mem_of_getElem? (i := 3) rfl)) (fun _ h9 => h9) rfl dX13_pour_176 ?_
            refine lv_iload_n hx hb dX13_pour_179 rfl (lv_at hl 4 rfl) ?_
            refine lv_iload hx hb dX13_pour_180 (lv_at hl 1 rfl) ?_
            refine va_iast hx hb hE.1 hP hD hS 3 0 rfl rfl (by rw [vp_in_iff]; first | omega | (rw [fb_addI (by omega) (by omega)]; omega)) dX13_pour_182 (fun H locs hP hD hS => ?_)
            obtain ⟨hP, hD⟩ := wPD [(h0, .inr (10, (Value.int (q 0) :: Value.int (q 1) :: Value.int (q 2) :: Value.int (q 3) :: Value.int (q 4) :: Value.int (q 5) :: Value.int (q 6) :: Value.int (q 7) :: Value.ref (a 8) :: Value.ref (a 9) :: Value.ref (a 10) :: Value.ref (a 11) :: Value.ref (a 12) :: Value.ref (a 13) :: Value.int (q 14) :: Value.long v :: Value.long w :: Value.ref (a 17) :: Value.ref (a 18) :: Value.ref (a 19) :: Value.ref (a 20) :: Value.ref (a 21) :: Value.ref (a 22) :: Value.ref (a 23) :: Value.int (q 24) :: Value.ref (a 25) :: Value.int (q 26) :: Value.ref (a 27) :: Value.int (q 28) :: Value.int (q 29) :: Value.int (q 30) :: Value.int (q 31) :: Value.int (q 32) :: Value.int (q 33) :: Value.ref (a 34) :: Value.ref (a 35) :: Value.ref (a 36) :: Value.ref (a 37) :: Value.ref (a 38) :: Value.ref (a 39) :: Value.ref (a 40) :: Value.int (q 41) :: Value.ref (a 42) :: Value.int (q 43) :: Value.int (q 44) :: []))), ((a 8), .inl (T 0, 24, .inl f8)), ((a 12), .inl (T 0, 36, .inl g12)), ((a 13), .inl (T 0, 3, .inl (upd g13 (x1.toNatClampNeg) st)))] hP hD rfl
            have hbg := bg_up (x := x1) (v := st) hbg (by omega)
            refine lv_iload hx hb dX13_pour_183 (lv_at hl 2 rfl) ?_
            exact W.iret hx hb hr (fun t ht hW => ⟨⟨_, (g12, (upd g13 (x1.toNatClampNeg) st)), rfl, ⟨(show ∀ k : Nat, k < 3 → 0 ≤ ((upd g13 (x1.toNatClampNeg) st) k).toInt ∧ ((upd g13 (x1.toNatClampNeg) st) k).toInt ≤ 12 from hbg), (show pourR (q 7) x1 x2 x3 ca f8 f13 (upd g13 (x1.toNatClampNeg) st) f12 g12 from (pourJ_end hV9 hpj (by have h8 := tn (x := ii) (by omega); have h7 := tn (x := f13 x1.toNatClampNeg) (by omega); omega) (by omega)))⟩, by rw [ht]; exact hP.sub [0, 1, 2, 3] rfl, hD.sub [0, 1, 2, 3] (by decide +kernel) rfl⟩, hS.F ht⟩) hS.2.2 dX13_pour_185
          · rw [fa_le] at c_9
            refine lv_aload_n hx hb dX13_pour_56 rfl (lv_at hl 3 rfl) ?_
            refine va_get (D := D) (ci := 10) (v := .ref (a 12)) (C := RX13) (T := TX13) (N := 45) hx hb hts in_X13_pour_X13 hown hE.1 hP 0 rfl rfl 12 (by decide +kernel) (hts (.fieldLink RX13 41 "ClauseBookModel" "bag" "[I") (List.mem_of_getElem? (i := 4) rfl)) (fun _ h9 => h9) rfl dX13_pour_57 ?_
            refine lv_bipush (v := 12) hx hb dX13_pour_60 (by decide +kernel) ?_
            refine lv_iload_n hx hb dX13_pour_62 rfl (lv_at hl 4 rfl) ?_
            refine lv_imul hx hb dX13_pour_63 ?_
            refine lv_iload hx hb dX13_pour_64 (lv_at hl 0 rfl) ?_
            refine lv_iadd hx hb dX13_pour_66 ?_
            refine va_iald hx hb hE.1 hP 2 0 rfl rfl (by rw [vp_in_iff]; first | omega | (rw [fb_addI (by omega) (by omega)]; omega)) dX13_pour_67 ?_
            refine lv_topi (fun z_10 ez_10 => ?_)
            have hzF : z_10 = f12 (12 * x1.toNatClampNeg + ii.toNatClampNeg) := pourJ_z hpj hX1 (by have h8 := tn (x := ii) (by omega); omega) (by rw [ez_10, ix12 (by omega) (by omega)])
            refine lv_istore (lv' := [(7, .int z_10), (6, .int ii), (5, .int st), (4, .int ca), (0, .ref h0), (1, .int x1), (2, .int x2), (3, .int x3)]) hx hb dX13_pour_68 hl (by decide +kernel) rfl (fun ls hl => ?_)
            refine lv_iload_n hx hb dX13_pour_70 rfl (lv_at hl 7 rfl) ?_
            refine lv_iconst (v := (-1)) hx hb dX13_pour_71 (by decide +kernel) ?_
            refine lv_icmp_eq (tgt := 95) hx hb dX13_pour_72 (by decide +kernel) (fun c_11 => ?_) (fun c_11 => ?_)
            · rw [fa_eq] at c_11
              try rw [ti_n1] at c_11
              refine lv_iconst (v := 1) hx hb dX13_pour_95 (by decide +kernel) ?_
              refine lv_goto (tgt := 100) hx hb dX13_pour_96 (by decide +kernel) ?_
              refine lv_istore (lv' := [(8, .int 1), (7, .int z_10), (6, .int ii), (5, .int st), (4, .int ca), (0, .ref h0), (1, .int x1), (2, .int x2), (3, .int x3)]) hx hb dX13_pour_100 hl (by decide +kernel) rfl (fun ls hl => ?_)
              have hM : prP x3 (q 7) f8 z_10 = true := decide_eq_true (Or.inl (by omega))
              refine lv_iload hx hb dX13_pour_102 (lv_at hl 0 rfl) ?_
              refine lv_if_eq (tgt := 152) hx hb dX13_pour_104 (by decide +kernel) (fun c9 => absurd c9 (by decide +kernel)) (fun _ => ?_)
              refine lv_aload_n hx hb dX13_pour_107 rfl (lv_at hl 5 rfl) ?_
              refine va_get (D := D) (ci := 10) (v := .ref (a 13)) (C := RX13) (T := TX13) (N := 45) hx hb hts in_X13_pour_X13 hown hE.1 hP 0 rfl rfl 13 (by decide +kernel) (hts (.fieldLink RX13 44 "ClauseBookModel" "bagged" "[I") (List.mem_of_getElem? (i := 3) rfl)) (fun _ h9 => h9) rfl dX13_pour_108 ?_
              refine lv_iload_n hx hb dX13_pour_111 rfl (lv_at hl 7 rfl) ?_
              refine va_iald hx hb hE.1 hP 3 0 rfl rfl (by rw [vp_in_iff]; first | omega | (rw [fb_addI (by omega) (by omega)]; omega)) dX13_pour_112 ?_
              refine lv_topi (fun z_12 ez_12 => ?_)
              have hbz_12 : 0 ≤ z_12.toInt ∧ z_12.toInt ≤ 12 := by rw [ez_12]; exact hbg _ (tn3 (by omega) (by omega))
              refine lv_bipush (v := 12) hx hb dX13_pour_113 (by decide +kernel) ?_
              refine lv_icmp_ge (tgt := 152) hx hb dX13_pour_115 (by decide +kernel) (fun c_13 => ?_) (fun c_13 => ?_)
              · rw [fa_le] at c_13
                try rw [ti_12] at c_13
                refine lv_aload_n hx hb dX13_pour_152 rfl (lv_at hl 5 rfl) ?_
                refine va_get (D := D) (ci := 10) (v := .ref (a 12)) (C := RX13) (T := TX13) (N := 45) hx hb hts in_X13_pour_X13 hown hE.1 hP 0 rfl rfl 12 (by decide +kernel) (hts (.fieldLink RX13 41 "ClauseBookModel" "bag" "[I") (List.mem_of_getElem? (i := 4) rfl)) (fun _ h9 => h9) rfl dX13_pour_153 ?_
                refine lv_bipush (v := 12) hx hb dX13_pour_156 (by decide +kernel) ?_
                refine lv_iload_n hx hb dX13_pour_158 rfl (lv_at hl 6 rfl) ?_
                refine lv_imul hx hb dX13_pour_159 ?_
                refine lv_iload hx hb dX13_pour_160 (lv_at hl 3 rfl) ?_
                refine lv_iadd hx hb dX13_pour_162 ?_
                refine lv_iload hx hb dX13_pour_163 (lv_at hl 1 rfl) ?_
                refine va_iast hx hb hE.1 hP hD hS 2 0 rfl rfl (by rw [vp_in_iff]; first | omega | (rw [fb_addI (by omega) (by omega)]; omega)) dX13_pour_165 (fun H locs hP hD hS => ?_)
                obtain ⟨hP, hD⟩ := wPD [(h0, .inr (10, (Value.int (q 0) :: Value.int (q 1) :: Value.int (q 2) :: Value.int (q 3) :: Value.int (q 4) :: Value.int (q 5) :: Value.int (q 6) :: Value.int (q 7) :: Value.ref (a 8) :: Value.ref (a 9) :: Value.ref (a 10) :: Value.ref (a 11) :: Value.ref (a 12) :: Value.ref (a 13) :: Value.int (q 14) :: Value.long v :: Value.long w :: Value.ref (a 17) :: Value.ref (a 18) :: Value.ref (a 19) :: Value.ref (a 20) :: Value.ref (a 21) :: Value.ref (a 22) :: Value.ref (a 23) :: Value.int (q 24) :: Value.ref (a 25) :: Value.int (q 26) :: Value.ref (a 27) :: Value.int (q 28) :: Value.int (q 29) :: Value.int (q 30) :: Value.int (q 31) :: Value.int (q 32) :: Value.int (q 33) :: Value.ref (a 34) :: Value.ref (a 35) :: Value.ref (a 36) :: Value.ref (a 37) :: Value.ref (a 38) :: Value.ref (a 39) :: Value.ref (a 40) :: Value.int (q 41) :: Value.ref (a 42) :: Value.int (q 43) :: Value.int (q 44) :: []))), ((a 8), .inl (T 0, 24, .inl f8)), ((a 12), .inl (T 0, 36, .inl (upd g12 (((12 * x1) + st).toNatClampNeg) z_10))), ((a 13), .inl (T 0, 3, .inl g13))] hP hD rfl
                obtain ⟨z_14, ez_14⟩ : ∃ y : Int32, y = st + 1 := ⟨_, rfl⟩
                refine lv_iinc (v := z_14) (lv' := [(5, .int z_14), (8, .int 1), (7, .int z_10), (6, .int ii), (4, .int ca), (0, .ref h0), (1, .int x1), (2, .int x2), (3, .int x3)]) hx hb dX13_pour_166 hl (k := 3) rfl (by rw [ez_14]; rfl) (by decide +kernel) rfl (fun ls hl => ?_)
                have hs9 : z_14.toInt = st.toInt + 1 := by rw [ez_14]; exact inc1 (n := 1000) (by omega) (by decide +kernel)
                have hpn := pourJ_no (st' := z_14) hpj hX1 hX2 hXn hzF (fun h9 => by first | exact hM h9.1 | (have h8 := h9.2; rw [← ez_12] at h8; omega)) (by omega) hs9
                rw [← ix12 (b := x1) (z := st) (by omega) (by omega)] at hpn
                obtain ⟨z_15, ez_15⟩ : ∃ y : Int32, y = ii + 1 := ⟨_, rfl⟩
                refine lv_iinc (v := z_15) (lv' := [(6, .int z_15), (5, .int z_14), (8, .int 1), (7, .int z_10), (4, .int ca), (0, .ref h0), (1, .int x1), (2, .int x2), (3, .int x3)]) hx hb dX13_pour_169 hl (k := 3) rfl (by rw [ez_15]; rfl) (by decide +kernel) rfl (fun ls hl => ?_)
                have hi9 : z_15.toInt = ii.toInt + 1 := by rw [ez_15]; exact inc1 (n := 1000) (by omega) (by decide +kernel)
                refine lv_goto (tgt := 45) hx hb dX13_pour_172 (by decide +kernel) ?_
                exact ih (z_15, z_14, ca, (upd g12 (((12 * x1) + st).toNatClampNeg) z_10), g13) ls _ _ ⟨lv_sub hl [0, 1, 4, 5, 6, 7, 8] rfl, hP.sub [0, 1, 2, 3] rfl, hD.sub [0, 1, 2, 3] (by decide +kernel) rfl, hS, ⟨(by (try dsimp only); omega), hbg, (by (try dsimp only); rw [tnS (by omega) hi9]; exact hpn)⟩⟩ (by (try dsimp only); omega)
              · rw [fa_le] at c_13
                try rw [ti_12] at c_13
                refine lv_aload_n hx hb dX13_pour_118 rfl (lv_at hl 5 rfl) ?_
                refine va_get (D := D) (ci := 10) (v := .ref (a 12)) (C := RX13) (T := TX13) (N := 45) hx hb hts in_X13_pour_X13 hown hE.1 hP 0 rfl rfl 12 (by decide +kernel) (hts (.fieldLink RX13 41 "ClauseBookModel" "bag" "[I") (List.mem_of_getElem? (i := 4) rfl)) (fun _ h9 => h9) rfl dX13_pour_119 ?_
                refine lv_bipush (v := 12) hx hb dX13_pour_122 (by decide +kernel) ?_
                refine lv_iload_n hx hb dX13_pour_124 rfl (lv_at hl 7 rfl) ?_
                refine lv_imul hx hb dX13_pour_125 ?_
                refine lv_aload_n hx hb dX13_pour_126 rfl (lv_at hl 5 rfl) ?_
                refine va_get (D := D) (ci := 10) (v := .ref (a 13)) (C := RX13) (T := TX13) (N := 45) hx hb hts in_X13_pour_X13 hown hE.1 hP 0 rfl rfl 13 (by decide +kernel) (hts (.fieldLink RX13 44 "ClauseBookModel" "bagged" "[I") (List.mem_of_getElem? (i := 3) rfl)) (fun _ h9 => h9) rfl dX13_pour_127 ?_
                refine lv_iload_n hx hb dX13_pour_130 rfl (lv_at hl 7 rfl) ?_
                refine va_iald hx hb hE.1 hP 3 0 rfl rfl (by rw [vp_in_iff]; first | omega | (rw [fb_addI (by omega) (by omega)]; omega)) dX13_pour_131 ?_
                refine lv_topi (fun z_16 ez_16 => ?_)
                have hbz_16 : 0 ≤ z_16.toInt ∧ z_16.toInt ≤ 12 := by rw [ez_16]; exact hbg _ (tn3 (by omega) (by omega))
                have hqz_16 : z_16.toInt = z_12.toInt := by rw [ez_16, ez_12]
                refine lv_iadd hx hb dX13_pour_132 ?_
                refine lv_iload hx hb dX13_pour_133 (lv_at hl 1 rfl) ?_
                refine va_iast hx hb hE.1 hP hD hS 2 0 rfl rfl (by rw [vp_in_iff]; first | omega | (rw [fb_addI (by omega) (by omega)]; omega)) dX13_pour_135 (fun H locs hP hD hS => ?_)
                obtain ⟨hP, hD⟩ := wPD [(h0, .inr (10, (Value.int (q 0) :: Value.int (q 1) :: Value.int (q 2) :: Value.int (q 3) :: Value.int (q 4) :: Value.int (q 5) :: Value.int (q 6) :: Value.int (q 7) :: Value.ref (a 8) :: Value.ref (a 9) :: Value.ref (a 10) :: Value.ref (a 11) :: Value.ref (a 12) :: Value.ref (a 13) :: Value.int (q 14) :: Value.long v :: Value.long w :: Value.ref (a 17) :: Value.ref (a 18) :: Value.ref (a 19) :: Value.ref (a 20) :: Value.ref (a 21) :: Value.ref (a 22) :: Value.ref (a 23) :: Value.int (q 24) :: Value.ref (a 25) :: Value.int (q 26) :: Value.ref (a 27) :: Value.int (q 28) :: Value.int (q 29) :: Value.int (q 30) :: Value.int (q 31) :: Value.int (q 32) :: Value.int (q 33) :: Value.ref (a 34) :: Value.ref (a 35) :: Value.ref (a 36) :: Value.ref (a 37) :: Value.ref (a 38) :: Value.ref (a 39) :: Value.ref (a 40) :: Value.int (q 41) :: Value.ref (a 42) :: Value.int (q 43) :: Value.int (q 44) :: []))), ((a 8), .inl (T 0, 24, .inl f8)), ((a 12), .inl (T 0, 36, .inl (upd g12 (((12 * x2) + z_16).toNatClampNeg) z_10))), ((a 13), .inl (T 0, 3, .inl g13))] hP hD rfl
                refine lv_aload_n hx hb dX13_pour_136 rfl (lv_at hl 5 rfl) ?_
                refine va_get (D := D) (ci := 10) (v := .ref (a 13)) (C := RX13) (T := TX13) (N := 45) hx hb hts in_X13_pour_X13 hown hE.1 hP 0 rfl rfl 13 (by decide +kernel) (hts (.fieldLink RX13 44 "ClauseBookModel" "bagged" "[I") (List.mem_of_getElem? (i := 3) rfl)) (fun _ h9 => h9) rfl dX13_pour_137 ?_
                refine lv_iload_n hx hb dX13_pour_140 rfl (lv_at hl 7 rfl) ?_
                refine lv_dup2_11 hx hb dX13_pour_141 rfl rfl ?_
                refine va_iald hx hb hE.1 hP 3 0 rfl rfl (by rw [vp_in_iff]; first | omega | (rw [fb_addI (by omega) (by omega)]; omega)) dX13_pour_142 ?_
                refine lv_topi (fun z_17 ez_17 => ?_)
                have hbz_17 : 0 ≤ z_17.toInt ∧ z_17.toInt ≤ 12 := by rw [ez_17]; exact hbg _ (tn3 (by omega) (by omega))
                have hqz_17 : z_17.toInt = z_12.toInt := by rw [ez_17, ez_12]
                refine lv_iconst (v := 1) hx hb dX13_pour_143 (by decide +kernel) ?_
                refine lv_iadd hx hb dX13_pour_144 ?_
                refine lv_topi (fun z_18 ez_18 => ?_)
                have hvz_18 : 0 ≤ z_18.toInt ∧ z_18.toInt ≤ 12 := by rw [ez_18, inc1 (n := 1000) (by omega) (by decide +kernel)]; omega
                refine va_iast hx hb hE.1 hP hD hS 3 0 rfl rfl (by rw [vp_in_iff]; first | omega | (rw [fb_addI (by omega) (by omega)]; omega)) dX13_pour_145 (fun H locs hP hD hS => ?_)
                obtain ⟨hP, hD⟩ := wPD [(h0, .inr (10, (Value.int (q 0) :: Value.int (q 1) :: Value.int (q 2) :: Value.int (q 3) :: Value.int (q 4) :: Value.int (q 5) :: Value.int (q 6) :: Value.int (q 7) :: Value.ref (a 8) :: Value.ref (a 9) :: Value.ref (a 10) :: Value.ref (a 11) :: Value.ref (a 12) :: Value.ref (a 13) :: Value.int (q 14) :: Value.long v :: Value.long w :: Value.ref (a 17) :: Value.ref (a 18) :: Value.ref (a 19) :: Value.ref (a 20) :: Value.ref (a 21) :: Value.ref (a 22) :: Value.ref (a 23) :: Value.int (q 24) :: Value.ref (a 25) :: Value.int (q 26) :: Value.ref (a 27) :: Value.int (q 28) :: Value.int (q 29) :: Value.int (q 30) :: Value.int (q 31) :: Value.int (q 32) :: Value.int (q 33) :: Value.ref (a 34) :: Value.ref (a 35) :: Value.ref (a 36) :: Value.ref (a 37) :: Value.ref (a 38) :: Value.ref (a 39) :: Value.ref (a 40) :: Value.int (q 41) :: Value.ref (a 42) :: Value.int (q 43) :: Value.int (q 44) :: []))), ((a 8), .inl (T 0, 24, .inl f8)), ((a 12), .inl (T 0, 36, .inl (upd g12 (((12 * x2) + z_16).toNatClampNeg) z_10))), ((a 13), .inl (T 0, 3, .inl (upd g13 (x2.toNatClampNeg) z_18)))] hP hD rfl
                have hbg := bg_up (x := x2) hbg hvz_18
                obtain ⟨z_19, ez_19⟩ : ∃ y : Int32, y = ca + 1 := ⟨_, rfl⟩
                refine lv_iinc (v := z_19) (lv' := [(4, .int z_19), (8, .int 1), (7, .int z_10), (6, .int ii), (5, .int st), (0, .ref h0), (1, .int x1), (2, .int x2), (3, .int x3)]) hx hb dX13_pour_146 hl (k := 4) rfl (by rw [ez_19]; rfl) (by decide +kernel) rfl (fun ls hl => ?_)
                have hc9 : z_19.toInt = ca.toInt + 1 := by
                  have h8 := hpj.1.2
                  have h7 := tn (x := ii) (by omega)
                  have h6 := hpj.1.1
                  rw [ez_19]
                  exact inc1 (n := 1000) (by omega) (by decide +kernel)
                have hpn := pourJ_yes (q := z_16) (q' := z_18) (ca' := z_19) hpj hX1 hX2 hXn hzF hM ez_16 (by omega) (by rw [ez_18, inc1 (n := 1000) (by omega) (by decide +kernel)]; omega) hc9
                rw [← ix12 (b := x2) (z := z_16) (by omega) (by omega)] at hpn
                refine lv_goto (tgt := 169) hx hb dX13_pour_149 (by decide +kernel) ?_
                obtain ⟨z_20, ez_20⟩ : ∃ y : Int32, y = ii + 1 := ⟨_, rfl⟩
                refine lv_iinc (v := z_20) (lv' := [(6, .int z_20), (4, .int z_19), (8, .int 1), (7, .int z_10), (5, .int st), (0, .ref h0), (1, .int x1), (2, .int x2), (3, .int x3)]) hx hb dX13_pour_169 hl (k := 3) rfl (by rw [ez_20]; rfl) (by decide +kernel) rfl (fun ls hl => ?_)
                have hi9 : z_20.toInt = ii.toInt + 1 := by rw [ez_20]; exact inc1 (n := 1000) (by omega) (by decide +kernel)
                refine lv_goto (tgt := 45) hx hb dX13_pour_172 (by decide +kernel) ?_
                exact ih (z_20, st, z_19, (upd g12 (((12 * x2) + z_16).toNatClampNeg) z_10), (upd g13 (x2.toNatClampNeg) z_18)) ls _ _ ⟨lv_sub hl [0, 4, 1, 5, 6, 7, 8] rfl, hP.sub [0, 1, 2, 3] rfl, hD.sub [0, 1, 2, 3] (by decide +kernel) rfl, hS, ⟨(by (try dsimp only); omega), hbg, (by (try dsimp only); rw [tnS (by omega) hi9]; exact hpn)⟩⟩ (by (try dsimp only); omega)
            · rw [fa_eq] at c_11
              try rw [ti_n1] at c_11
              refine lv_aload_n hx hb dX13_pour_75 rfl (lv_at hl 4 rfl) ?_
              refine lv_iload hx hb dX13_pour_76 (lv_at hl 0 rfl) ?_
              refine vp_callSi (W.runV (As := [.int z_10]) (rest := []) ⟨hx, hb, hml, hown, hts⟩ (c_X13_isClause l D T h0 [.int (q 0), .int (q 1), .int (q 2), .int (q 3), .int (q 4), .int (q 5), .int (q 6), .int (q 7), .ref (a 8), .ref (a 9), .ref (a 10), .ref (a 11), .ref (a 12), .ref (a 13), .int (q 14), .long v, .long w, .ref (a 17), .ref (a 18), .ref (a 19), .ref (a 20), .ref (a 21), .ref (a 22), .ref (a 23), .int (q 24), .ref (a 25), .int (q 26), .ref (a 27), .int (q 28), .int (q 29), .int (q 30), .int (q 31), .int (q 32), .int (q 33), .ref (a 34), .ref (a 35), .ref (a 36), .ref (a 37), .ref (a 38), .ref (a 39), .ref (a 40), .int (q 41), .ref (a 42), .int (q 43), .int (q 44)] z_10 (q 7) rfl (by omega)) (cwV 1 hts gX13_pour_X13_isClause rfl rfl rfl hv_X13_isClause ⟨Nat.le_of_ble_eq_true rfl, Nat.le_of_ble_eq_true rfl⟩) (pR_V (q := (RX13, TX13, 45)) (ci := 10) (q0 := 0) hP hE rfl rfl [0] rfl) rfl rfl hl.1 rfl (lv_room (Nat.le_of_ble_eq_true rfl)) dX13_pour_78 ⟨Nat.le_of_ble_eq_true rfl, Nat.le_of_ble_eq_true rfl⟩) (fun r_21 hr_21 => ?_)
              rcases bool_post hr_21 with ⟨c_22, rfl⟩ | ⟨c_22, rfl⟩
              · refine lv_if_eq (tgt := 99) hx hb dX13_pour_81 (by decide +kernel) (fun c9 => absurd c9 (by decide +kernel)) (fun _ => ?_)
                refine lv_aload_n hx hb dX13_pour_84 rfl (lv_at hl 4 rfl) ?_
                refine va_get (D := D) (ci := 10) (v := .ref (a 8)) (C := RX13) (T := TX13) (N := 45) hx hb hts in_X13_pour_X13 hown hE.1 hP 0 rfl rfl 8 (by decide +kernel) (hts (.fieldLink RX13 28 "ClauseBookModel" "kind" "[I") (List.mem_of_getElem? (i := 5) rfl)) (fun _ h9 => h9) rfl dX13_pour_85 ?_
                refine lv_iload hx hb dX13_pour_88 (lv_at hl 0 rfl) ?_
                refine va_iald hx hb hE.1 hP 1 0 rfl rfl (by rw [vp_in_iff]; first | omega | (rw [fb_addI (by omega) (by omega)]; omega)) dX13_pour_90 ?_
                refine lv_topi (fun z_23 ez_23 => ?_)
                refine lv_iload_n hx hb dX13_pour_91 rfl (lv_at hl 7 rfl) ?_
                refine lv_icmp_ne (tgt := 99) hx hb dX13_pour_92 (by decide +kernel) (fun c_24 => ?_) (fun c_24 => ?_)
                · rw [fa_eq] at c_24
                  refine lv_iconst (v := 0) hx hb dX13_pour_99 (by decide +kernel) ?_
                  refine lv_istore (lv' := [(8, .int 0), (7, .int z_10), (6, .int ii), (5, .int st), (4, .int ca), (0, .ref h0), (1, .int x1), (2, .int x2), (3, .int x3)]) hx hb dX13_pour_100 hl (by decide +kernel) rfl (fun ls hl => ?_)
                  have hM : ¬ prP x3 (q 7) f8 z_10 = true := fun h9 => by rcases of_decide_eq_true h9 with h8 | ⟨h8, h7⟩ <;> first | omega | (rw [← ez_23] at h7; omega)
                  refine lv_iload hx hb dX13_pour_102 (lv_at hl 0 rfl) ?_
                  refine lv_if_eq (tgt := 152) hx hb dX13_pour_104 (by decide +kernel) (fun _ => ?_) (fun c9 => absurd c9 (by decide +kernel))
                  refine lv_aload_n hx hb dX13_pour_152 rfl (lv_at hl 5 rfl) ?_
                  refine va_get (D := D) (ci := 10) (v := .ref (a 12)) (C := RX13) (T := TX13) (N := 45) hx hb hts in_X13_pour_X13 hown hE.1 hP 0 rfl rfl 12 (by decide +kernel) (hts (.fieldLink RX13 41 "ClauseBookModel" "bag" "[I") (List.mem_of_getElem? (i := 4) rfl)) (fun _ h9 => h9) rfl dX13_pour_153 ?_
                  refine lv_bipush (v := 12) hx hb dX13_pour_156 (by decide +kernel) ?_
                  refine lv_iload_n hx hb dX13_pour_158 rfl (lv_at hl 6 rfl) ?_
                  refine lv_imul hx hb dX13_pour_159 ?_
                  refine lv_iload hx hb dX13_pour_160 (lv_at hl 3 rfl) ?_
                  refine lv_iadd hx hb dX13_pour_162 ?_
                  refine lv_iload hx hb dX13_pour_163 (lv_at hl 1 rfl) ?_
                  refine va_iast hx hb hE.1 hP hD hS 2 0 rfl rfl (by rw [vp_in_iff]; first | omega | (rw [fb_addI (by omega) (by omega)]; omega)) dX13_pour_165 (fun H locs hP hD hS => ?_)
                  obtain ⟨hP, hD⟩ := wPD [(h0, .inr (10, (Value.int (q 0) :: Value.int (q 1) :: Value.int (q 2) :: Value.int (q 3) :: Value.int (q 4) :: Value.int (q 5) :: Value.int (q 6) :: Value.int (q 7) :: Value.ref (a 8) :: Value.ref (a 9) :: Value.ref (a 10) :: Value.ref (a 11) :: Value.ref (a 12) :: Value.ref (a 13) :: Value.int (q 14) :: Value.long v :: Value.long w :: Value.ref (a 17) :: Value.ref (a 18) :: Value.ref (a 19) :: Value.ref (a 20) :: Value.ref (a 21) :: Value.ref (a 22) :: Value.ref (a 23) :: Value.int (q 24) :: Value.ref (a 25) :: Value.int (q 26) :: Value.ref (a 27) :: Value.int (q 28) :: Value.int (q 29) :: Value.int (q 30) :: Value.int (q 31) :: Value.int (q 32) :: Value.int (q 33) :: Value.ref (a 34) :: Value.ref (a 35) :: Value.ref (a 36) :: Value.ref (a 37) :: Value.ref (a 38) :: Value.ref (a 39) :: Value.ref (a 40) :: Value.int (q 41) :: Value.ref (a 42) :: Value.int (q 43) :: Value.int (q 44) :: []))), ((a 8), .inl (T 0, 24, .inl f8)), ((a 12), .inl (T 0, 36, .inl (upd g12 (((12 * x1) + st).toNatClampNeg) z_10))), ((a 13), .inl (T 0, 3, .inl g13))] hP hD rfl
                  obtain ⟨z_25, ez_25⟩ : ∃ y : Int32, y = st + 1 := ⟨_, rfl⟩
                  refine lv_iinc (v := z_25) (lv' := [(5, .int z_25), (8, .int 0), (7, .int z_10), (6, .int ii), (4, .int ca), (0, .ref h0), (1, .int x1), (2, .int x2), (3, .int x3)]) hx hb dX13_pour_166 hl (k := 3) rfl (by rw [ez_25]; rfl) (by decide +kernel) rfl (fun ls hl => ?_)
                  have hs9 : z_25.toInt = st.toInt + 1 := by rw [ez_25]; exact inc1 (n := 1000) (by omega) (by decide +kernel)
                  have hpn := pourJ_no (st' := z_25) hpj hX1 hX2 hXn hzF (fun h9 => by first | exact hM h9.1 | (have h8 := h9.2; rw [← ez_12] at h8; omega)) (by omega) hs9
                  rw [← ix12 (b := x1) (z := st) (by omega) (by omega)] at hpn
                  obtain ⟨z_26, ez_26⟩ : ∃ y : Int32, y = ii + 1 := ⟨_, rfl⟩
                  refine lv_iinc (v := z_26) (lv' := [(6, .int z_26), (5, .int z_25), (8, .int 0), (7, .int z_10), (4, .int ca), (0, .ref h0), (1, .int x1), (2, .int x2), (3, .int x3)]) hx hb dX13_pour_169 hl (k := 3) rfl (by rw [ez_26]; rfl) (by decide +kernel) rfl (fun ls hl => ?_)
                  have hi9 : z_26.toInt = ii.toInt + 1 := by rw [ez_26]; exact inc1 (n := 1000) (by omega) (by decide +kernel)
                  refine lv_goto (tgt := 45) hx hb dX13_pour_172 (by decide +kernel) ?_
                  exact ih (z_26, z_25, ca, (upd g12 (((12 * x1) + st).toNatClampNeg) z_10), g13) ls _ _ ⟨lv_sub hl [0, 1, 4, 5, 6, 7, 8] rfl, hP.sub [0, 1, 2, 3] rfl, hD.sub [0, 1, 2, 3] (by decide +kernel) rfl, hS, ⟨(by (try dsimp only); omega), hbg, (by (try dsimp only); rw [tnS (by omega) hi9]; exact hpn)⟩⟩ (by (try dsimp only); omega)
                · rw [fa_eq] at c_24
                  refine lv_iconst (v := 1) hx hb dX13_pour_95 (by decide +kernel) ?_
                  refine lv_goto (tgt := 100) hx hb dX13_pour_96 (by decide +kernel) ?_
                  refine lv_istore (lv' := [(8, .int 1), (7, .int z_10), (6, .int ii), (5, .int st), (4, .int ca), (0, .ref h0), (1, .int x1), (2, .int x2), (3, .int x3)]) hx hb dX13_pour_100 hl (by decide +kernel) rfl (fun ls hl => ?_)
                  have hM : prP x3 (q 7) f8 z_10 = true := decide_eq_true (by first | exact Or.inl (by omega) | exact Or.inr ⟨(by omega), (by rw [← ez_23]; omega)⟩)
                  refine lv_iload hx hb dX13_pour_102 (lv_at hl 0 rfl) ?_
                  refine lv_if_eq (tgt := 152) hx hb dX13_pour_104 (by decide +kernel) (fun c9 => absurd c9 (by decide +kernel)) (fun _ => ?_)
                  refine lv_aload_n hx hb dX13_pour_107 rfl (lv_at hl 5 rfl) ?_
                  refine va_get (D := D) (ci := 10) (v := .ref (a 13)) (C := RX13) (T := TX13) (N := 45) hx hb hts in_X13_pour_X13 hown hE.1 hP 0 rfl rfl 13 (by decide +kernel) (hts (.fieldLink RX13 44 "ClauseBookModel" "bagged" "[I") (List.mem_of_getElem? (i := 3) rfl)) (fun _ h9 => h9) rfl dX13_pour_108 ?_
                  refine lv_iload_n hx hb dX13_pour_111 rfl (lv_at hl 7 rfl) ?_
                  refine va_iald hx hb hE.1 hP 3 0 rfl rfl (by rw [vp_in_iff]; first | omega | (rw [fb_addI (by omega) (by omega)]; omega)) dX13_pour_112 ?_
                  refine lv_topi (fun z_27 ez_27 => ?_)
                  have hbz_27 : 0 ≤ z_27.toInt ∧ z_27.toInt ≤ 12 := by rw [ez_27]; exact hbg _ (tn3 (by omega) (by omega))
                  refine lv_bipush (v := 12) hx hb dX13_pour_113 (by decide +kernel) ?_
                  refine lv_icmp_ge (tgt := 152) hx hb dX13_pour_115 (by decide +kernel) (fun c_28 => ?_) (fun c_28 => ?_)
                  · rw [fa_le] at c_28
                    try rw [ti_12] at c_28
                    refine lv_aload_n hx hb dX13_pour_152 rfl (lv_at hl 5 rfl) ?_
                    refine va_get (D := D) (ci := 10) (v := .ref (a 12)) (C := RX13) (T := TX13) (N := 45) hx hb hts in_X13_pour_X13 hown hE.1 hP 0 rfl rfl 12 (by decide +kernel) (hts (.fieldLink RX13 41 "ClauseBookModel" "bag" "[I") (List.mem_of_getElem? (i := 4) rfl)) (fun _ h9 => h9) rfl dX13_pour_153 ?_
                    refine lv_bipush (v := 12) hx hb dX13_pour_156 (by decide +kernel) ?_
                    refine lv_iload_n hx hb dX13_pour_158 rfl (lv_at hl 6 rfl) ?_
                    refine lv_imul hx hb dX13_pour_159 ?_
                    refine lv_iload hx hb dX13_pour_160 (lv_at hl 3 rfl) ?_
                    refine lv_iadd hx hb dX13_pour_162 ?_
                    refine lv_iload hx hb dX13_pour_163 (lv_at hl 1 rfl) ?_
                    refine va_iast hx hb hE.1 hP hD hS 2 0 rfl rfl (by rw [vp_in_iff]; first | omega | (rw [fb_addI (by omega) (by omega)]; omega)) dX13_pour_165 (fun H locs hP hD hS => ?_)
                    obtain ⟨hP, hD⟩ := wPD [(h0, .inr (10, (Value.int (q 0) :: Value.int (q 1) :: Value.int (q 2) :: Value.int (q 3) :: Value.int (q 4) :: Value.int (q 5) :: Value.int (q 6) :: Value.int (q 7) :: Value.ref (a 8) :: Value.ref (a 9) :: Value.ref (a 10) :: Value.ref (a 11) :: Value.ref (a 12) :: Value.ref (a 13) :: Value.int (q 14) :: Value.long v :: Value.long w :: Value.ref (a 17) :: Value.ref (a 18) :: Value.ref (a 19) :: Value.ref (a 20) :: Value.ref (a 21) :: Value.ref (a 22) :: Value.ref (a 23) :: Value.int (q 24) :: Value.ref (a 25) :: Value.int (q 26) :: Value.ref (a 27) :: Value.int (q 28) :: Value.int (q 29) :: Value.int (q 30) :: Value.int (q 31) :: Value.int (q 32) :: Value.int (q 33) :: Value.ref (a 34) :: Value.ref (a 35) :: Value.ref (a 36) :: Value.ref (a 37) :: Value.ref (a 38) :: Value.ref (a 39) :: Value.ref (a 40) :: Value.int (q 41) :: Value.ref (a 42) :: Value.int (q 43) :: Value.int (q 44) :: []))), ((a 8), .inl (T 0, 24, .inl f8)), ((a 12), .inl (T 0, 36, .inl (upd g12 (((12 * x1) + st).toNatClampNeg) z_10))), ((a 13), .inl (T 0, 3, .inl g13))] hP hD rfl
                    obtain ⟨z_29, ez_29⟩ : ∃ y : Int32, y = st + 1 := ⟨_, rfl⟩
                    refine lv_iinc (v := z_29) (lv' := [(5, .int z_29), (8, .int 1), (7, .int z_10), (6, .int ii), (4, .int ca), (0, .ref h0), (1, .int x1), (2, .int x2), (3, .int x3)]) hx hb dX13_pour_166 hl (k := 3) rfl (by rw [ez_29]; rfl) (by decide +kernel) rfl (fun ls hl => ?_)
                    have hs9 : z_29.toInt = st.toInt + 1 := by rw [ez_29]; exact inc1 (n := 1000) (by omega) (by decide +kernel)
                    have hpn := pourJ_no (st' := z_29) hpj hX1 hX2 hXn hzF (fun h9 => by first | exact hM h9.1 | (have h8 := h9.2; rw [← ez_27] at h8; omega)) (by omega) hs9
                    rw [← ix12 (b := x1) (z := st) (by omega) (by omega)] at hpn
                    obtain ⟨z_30, ez_30⟩ : ∃ y : Int32, y = ii + 1 := ⟨_, rfl⟩
                    refine lv_iinc (v := z_30) (lv' := [(6, .int z_30), (5, .int z_29), (8, .int 1), (7, .int z_10), (4, .int ca), (0, .ref h0), (1, .int x1), (2, .int x2), (3, .int x3)]) hx hb dX13_pour_169 hl (k := 3) rfl (by rw [ez_30]; rfl) (by decide +kernel) rfl (fun ls hl => ?_)
                    have hi9 : z_30.toInt = ii.toInt + 1 := by rw [ez_30]; exact inc1 (n := 1000) (by omega) (by decide +kernel)
                    refine lv_goto (tgt := 45) hx hb dX13_pour_172 (by decide +kernel) ?_
                    exact ih (z_30, z_29, ca, (upd g12 (((12 * x1) + st).toNatClampNeg) z_10), g13) ls _ _ ⟨lv_sub hl [0, 1, 4, 5, 6, 7, 8] rfl, hP.sub [0, 1, 2, 3] rfl, hD.sub [0, 1, 2, 3] (by decide +kernel) rfl, hS, ⟨(by (try dsimp only); omega), hbg, (by (try dsimp only); rw [tnS (by omega) hi9]; exact hpn)⟩⟩ (by (try dsimp only); omega)
                  · rw [fa_le] at c_28
                    try rw [ti_12] at c_28
                    refine lv_aload_n hx hb dX13_pour_118 rfl (lv_at hl 5 rfl) ?_
                    refine va_get (D := D) (ci := 10) (v := .ref (a 12)) (C := RX13) (T := TX13) (N := 45) hx hb hts in_X13_pour_X13 hown hE.1 hP 0 rfl rfl 12 (by decide +kernel) (hts (.fieldLink RX13 41 "ClauseBookModel" "bag" "[I") (List.mem_of_getElem? (i := 4) rfl)) (fun _ h9 => h9) rfl dX13_pour_119 ?_
                    refine lv_bipush (v := 12) hx hb dX13_pour_122 (by decide +kernel) ?_
                    refine lv_iload_n hx hb dX13_pour_124 rfl (lv_at hl 7 rfl) ?_
                    refine lv_imul hx hb dX13_pour_125 ?_
                    refine lv_aload_n hx hb dX13_pour_126 rfl (lv_at hl 5 rfl) ?_
                    refine va_get (D := D) (ci := 10) (v := .ref (a 13)) (C := RX13) (T := TX13) (N := 45) hx hb hts in_X13_pour_X13 hown hE.1 hP 0 rfl rfl 13 (by decide +kernel) (hts (.fieldLink RX13 44 "ClauseBookModel" "bagged" "[I") (List.mem_of_getElem? (i := 3) rfl)) (fun _ h9 => h9) rfl dX13_pour_127 ?_
                    refine lv_iload_n hx hb dX13_pour_130 rfl (lv_at hl 7 rfl) ?_
                    refine va_iald hx hb hE.1 hP 3 0 rfl rfl (by rw [vp_in_iff]; first | omega | (rw [fb_addI (by omega) (by omega)]; omega)) dX13_pour_131 ?_
                    refine lv_topi (fun z_31 ez_31 => ?_)
                    have hbz_31 : 0 ≤ z_31.toInt ∧ z_31.toInt ≤ 12 := by rw [ez_31]; exact hbg _ (tn3 (by omega) (by omega))
                    have hqz_31 : z_31.toInt = z_27.toInt := by rw [ez_31, ez_27]
                    refine lv_iadd hx hb dX13_pour_132 ?_
                    refine lv_iload hx hb dX13_pour_133 (lv_at hl 1 rfl) ?_
                    refine va_iast hx hb hE.1 hP hD hS 2 0 rfl rfl (by rw [vp_in_iff]; first | omega | (rw [fb_addI (by omega) (by omega)]; omega)) dX13_pour_135 (fun H locs hP hD hS => ?_)
                    obtain ⟨hP, hD⟩ := wPD [(h0, .inr (10, (Value.int (q 0) :: Value.int (q 1) :: Value.int (q 2) :: Value.int (q 3) :: Value.int (q 4) :: Value.int (q 5) :: Value.int (q 6) :: Value.int (q 7) :: Value.ref (a 8) :: Value.ref (a 9) :: Value.ref (a 10) :: Value.ref (a 11) :: Value.ref (a 12) :: Value.ref (a 13) :: Value.int (q 14) :: Value.long v :: Value.long w :: Value.ref (a 17) :: Value.ref (a 18) :: Value.ref (a 19) :: Value.ref (a 20) :: Value.ref (a 21) :: Value.ref (a 22) :: Value.ref (a 23) :: Value.int (q 24) :: Value.ref (a 25) :: Value.int (q 26) :: Value.ref (a 27) :: Value.int (q 28) :: Value.int (q 29) :: Value.int (q 30) :: Value.int (q 31) :: Value.int (q 32) :: Value.int (q 33) :: Value.ref (a 34) :: Value.ref (a 35) :: Value.ref (a 36) :: Value.ref (a 37) :: Value.ref (a 38) :: Value.ref (a 39) :: Value.ref (a 40) :: Value.int (q 41) :: Value.ref (a 42) :: Value.int (q 43) :: Value.int (q 44) :: []))), ((a 8), .inl (T 0, 24, .inl f8)), ((a 12), .inl (T 0, 36, .inl (upd g12 (((12 * x2) + z_31).toNatClampNeg) z_10))), ((a 13), .inl (T 0, 3, .inl g13))] hP hD rfl
                    refine lv_aload_n hx hb dX13_pour_136 rfl (lv_at hl 5 rfl) ?_
                    refine va_get (D := D) (ci := 10) (v := .ref (a 13)) (C := RX13) (T := TX13) (N := 45) hx hb hts in_X13_pour_X13 hown hE.1 hP 0 rfl rfl 13 (by decide +kernel) (hts (.fieldLink RX13 44 "ClauseBookModel" "bagged" "[I") (List.mem_of_getElem? (i := 3) rfl)) (fun _ h9 => h9) rfl dX13_pour_137 ?_
                    refine lv_iload_n hx hb dX13_pour_140 rfl (lv_at hl 7 rfl) ?_
                    refine lv_dup2_11 hx hb dX13_pour_141 rfl rfl ?_
                    refine va_iald hx hb hE.1 hP 3 0 rfl rfl (by rw [vp_in_iff]; first | omega | (rw [fb_addI (by omega) (by omega)]; omega)) dX13_pour_142 ?_
                    refine lv_topi (fun z_32 ez_32 => ?_)
                    have hbz_32 : 0 ≤ z_32.toInt ∧ z_32.toInt ≤ 12 := by rw [ez_32]; exact hbg _ (tn3 (by omega) (by omega))
                    have hqz_32 : z_32.toInt = z_27.toInt := by rw [ez_32, ez_27]
                    refine lv_iconst (v := 1) hx hb dX13_pour_143 (by decide +kernel) ?_
                    refine lv_iadd hx hb dX13_pour_144 ?_
                    refine lv_topi (fun z_33 ez_33 => ?_)
                    have hvz_33 : 0 ≤ z_33.toInt ∧ z_33.toInt ≤ 12 := by rw [ez_33, inc1 (n := 1000) (by omega) (by decide +kernel)]; omega
                    refine va_iast hx hb hE.1 hP hD hS 3 0 rfl rfl (by rw [vp_in_iff]; first | omega | (rw [fb_addI (by omega) (by omega)]; omega)) dX13_pour_145 (fun H locs hP hD hS => ?_)
                    obtain ⟨hP, hD⟩ := wPD [(h0, .inr (10, (Value.int (q 0) :: Value.int (q 1) :: Value.int (q 2) :: Value.int (q 3) :: Value.int (q 4) :: Value.int (q 5) :: Value.int (q 6) :: Value.int (q 7) :: Value.ref (a 8) :: Value.ref (a 9) :: Value.ref (a 10) :: Value.ref (a 11) :: Value.ref (a 12) :: Value.ref (a 13) :: Value.int (q 14) :: Value.long v :: Value.long w :: Value.ref (a 17) :: Value.ref (a 18) :: Value.ref (a 19) :: Value.ref (a 20) :: Value.ref (a 21) :: Value.ref (a 22) :: Value.ref (a 23) :: Value.int (q 24) :: Value.ref (a 25) :: Value.int (q 26) :: Value.ref (a 27) :: Value.int (q 28) :: Value.int (q 29) :: Value.int (q 30) :: Value.int (q 31) :: Value.int (q 32) :: Value.int (q 33) :: Value.ref (a 34) :: Value.ref (a 35) :: Value.ref (a 36) :: Value.ref (a 37) :: Value.ref (a 38) :: Value.ref (a 39) :: Value.ref (a 40) :: Value.int (q 41) :: Value.ref (a 42) :: Value.int (q 43) :: Value.int (q 44) :: []))), ((a 8), .inl (T 0, 24, .inl f8)), ((a 12), .inl (T 0, 36, .inl (upd g12 (((12 * x2) + z_31).toNatClampNeg) z_10))), ((a 13), .inl (T 0, 3, .inl (upd g13 (x2.toNatClampNeg) z_33)))] hP hD rfl
                    have hbg := bg_up (x := x2) hbg hvz_33
                    obtain ⟨z_34, ez_34⟩ : ∃ y : Int32, y = ca + 1 := ⟨_, rfl⟩
                    refine lv_iinc (v := z_34) (lv' := [(4, .int z_34), (8, .int 1), (7, .int z_10), (6, .int ii), (5, .int st), (0, .ref h0), (1, .int x1), (2, .int x2), (3, .int x3)]) hx hb dX13_pour_146 hl (k := 4) rfl (by rw [ez_34]; rfl) (by decide +kernel) rfl (fun ls hl => ?_)
                    have hc9 : z_34.toInt = ca.toInt + 1 := by
                      have h8 := hpj.1.2
                      have h7 := tn (x := ii) (by omega)
                      have h6 := hpj.1.1
                      rw [ez_34]
                      exact inc1 (n := 1000) (by omega) (by decide +kernel)
                    have hpn := pourJ_yes (q := z_31) (q' := z_33) (ca' := z_34) hpj hX1 hX2 hXn hzF hM ez_31 (by omega) (by rw [ez_33, inc1 (n := 1000) (by omega) (by decide +kernel)]; omega) hc9
                    rw [← ix12 (b := x2) (z := z_31) (by omega) (by omega)] at hpn
                    refine lv_goto (tgt := 169) hx hb dX13_pour_149 (by decide +kernel) ?_
                    obtain ⟨z_35, ez_35⟩ : ∃ y : Int32, y = ii + 1 := ⟨_, rfl⟩
                    refine lv_iinc (v := z_35) (lv' := [(6, .int z_35), (4, .int z_34), (8, .int 1), (7, .int z_10), (5, .int st), (0, .ref h0), (1, .int x1), (2, .int x2), (3, .int x3)]) hx hb dX13_pour_169 hl (k := 3) rfl (by rw [ez_35]; rfl) (by decide +kernel) rfl (fun ls hl => ?_)
                    have hi9 : z_35.toInt = ii.toInt + 1 := by rw [ez_35]; exact inc1 (n := 1000) (by omega) (by decide +kernel)
                    refine lv_goto (tgt := 45) hx hb dX13_pour_172 (by decide +kernel) ?_
                    exact ih (z_35, st, z_34, (upd g12 (((12 * x2) + z_31).toNatClampNeg) z_10), (upd g13 (x2.toNatClampNeg) z_33)) ls _ _ ⟨lv_sub hl [0, 4, 1, 5, 6, 7, 8] rfl, hP.sub [0, 1, 2, 3] rfl, hD.sub [0, 1, 2, 3] (by decide +kernel) rfl, hS, ⟨(by (try dsimp only); omega), hbg, (by (try dsimp only); rw [tnS (by omega) hi9]; exact hpn)⟩⟩ (by (try dsimp only); omega)
              · refine lv_if_eq (tgt := 99) hx hb dX13_pour_81 (by decide +kernel) (fun _ => ?_) (fun c9 => absurd c9 (by decide +kernel))
                refine lv_iconst (v := 0) hx hb dX13_pour_99 (by decide +kernel) ?_
                refine lv_istore (lv' := [(8, .int 0), (7, .int z_10), (6, .int ii), (5, .int st), (4, .int ca), (0, .ref h0), (1, .int x1), (2, .int x2), (3, .int x3)]) hx hb dX13_pour_100 hl (by decide +kernel) rfl (fun ls hl => ?_)
                have hM : ¬ prP x3 (q 7) f8 z_10 = true := fun h9 => by rcases of_decide_eq_true h9 with h8 | ⟨h8, h7⟩ <;> first | omega | (rw [← ez_23] at h7; omega)
                refine lv_iload hx hb dX13_pour_102 (lv_at hl 0 rfl) ?_
                refine lv_if_eq (tgt := 152) hx hb dX13_pour_104 (by decide +kernel) (fun _ => ?_) (fun c9 => absurd c9 (by decide +kernel))
                refine lv_aload_n hx hb dX13_pour_152 rfl (lv_at hl 5 rfl) ?_
                refine va_get (D := D) (ci := 10) (v := .ref (a 12)) (C := RX13) (T := TX13) (N := 45) hx hb hts in_X13_pour_X13 hown hE.1 hP 0 rfl rfl 12 (by decide +kernel) (hts (.fieldLink RX13 41 "ClauseBookModel" "bag" "[I") (List.mem_of_getElem? (i := 4) rfl)) (fun _ h9 => h9) rfl dX13_pour_153 ?_
                refine lv_bipush (v := 12) hx hb dX13_pour_156 (by decide +kernel) ?_
                refine lv_iload_n hx hb dX13_pour_158 rfl (lv_at hl 6 rfl) ?_
                refine lv_imul hx hb dX13_pour_159 ?_
                refine lv_iload hx hb dX13_pour_160 (lv_at hl 3 rfl) ?_
                refine lv_iadd hx hb dX13_pour_162 ?_
                refine lv_iload hx hb dX13_pour_163 (lv_at hl 1 rfl) ?_
                refine va_iast hx hb hE.1 hP hD hS 2 0 rfl rfl (by rw [vp_in_iff]; first | omega | (rw [fb_addI (by omega) (by omega)]; omega)) dX13_pour_165 (fun H locs hP hD hS => ?_)
                obtain ⟨hP, hD⟩ := wPD [(h0, .inr (10, (Value.int (q 0) :: Value.int (q 1) :: Value.int (q 2) :: Value.int (q 3) :: Value.int (q 4) :: Value.int (q 5) :: Value.int (q 6) :: Value.int (q 7) :: Value.ref (a 8) :: Value.ref (a 9) :: Value.ref (a 10) :: Value.ref (a 11) :: Value.ref (a 12) :: Value.ref (a 13) :: Value.int (q 14) :: Value.long v :: Value.long w :: Value.ref (a 17) :: Value.ref (a 18) :: Value.ref (a 19) :: Value.ref (a 20) :: Value.ref (a 21) :: Value.ref (a 22) :: Value.ref (a 23) :: Value.int (q 24) :: Value.ref (a 25) :: Value.int (q 26) :: Value.ref (a 27) :: Value.int (q 28) :: Value.int (q 29) :: Value.int (q 30) :: Value.int (q 31) :: Value.int (q 32) :: Value.int (q 33) :: Value.ref (a 34) :: Value.ref (a 35) :: Value.ref (a 36) :: Value.ref (a 37) :: Value.ref (a 38) :: Value.ref (a 39) :: Value.ref (a 40) :: Value.int (q 41) :: Value.ref (a 42) :: Value.int (q 43) :: Value.int (q 44) :: []))), ((a 8), .inl (T 0, 24, .inl f8)), ((a 12), .inl (T 0, 36, .inl (upd g12 (((12 * x1) + st).toNatClampNeg) z_10))), ((a 13), .inl (T 0, 3, .inl g13))] hP hD rfl
                obtain ⟨z_36, ez_36⟩ : ∃ y : Int32, y = st + 1 := ⟨_, rfl⟩
                refine lv_iinc (v := z_36) (lv' := [(5, .int z_36), (8, .int 0), (7, .int z_10), (6, .int ii), (4, .int ca), (0, .ref h0), (1, .int x1), (2, .int x2), (3, .int x3)]) hx hb dX13_pour_166 hl (k := 3) rfl (by rw [ez_36]; rfl) (by decide +kernel) rfl (fun ls hl => ?_)
                have hs9 : z_36.toInt = st.toInt + 1 := by rw [ez_36]; exact inc1 (n := 1000) (by omega) (by decide +kernel)
                have hpn := pourJ_no (st' := z_36) hpj hX1 hX2 hXn hzF (fun h9 => by first | exact hM h9.1 | (have h8 := h9.2; rw [← ez_27] at h8; omega)) (by omega) hs9
                rw [← ix12 (b := x1) (z := st) (by omega) (by omega)] at hpn
                obtain ⟨z_37, ez_37⟩ : ∃ y : Int32, y = ii + 1 := ⟨_, rfl⟩
                refine lv_iinc (v := z_37) (lv' := [(6, .int z_37), (5, .int z_36), (8, .int 0), (7, .int z_10), (4, .int ca), (0, .ref h0), (1, .int x1), (2, .int x2), (3, .int x3)]) hx hb dX13_pour_169 hl (k := 3) rfl (by rw [ez_37]; rfl) (by decide +kernel) rfl (fun ls hl => ?_)
                have hi9 : z_37.toInt = ii.toInt + 1 := by rw [ez_37]; exact inc1 (n := 1000) (by omega) (by decide +kernel)
                refine lv_goto (tgt := 45) hx hb dX13_pour_172 (by decide +kernel) ?_
                exact ih (z_37, z_36, ca, (upd g12 (((12 * x1) + st).toNatClampNeg) z_10), g13) ls _ _ ⟨lv_sub hl [0, 1, 4, 5, 6, 7, 8] rfl, hP.sub [0, 1, 2, 3] rfl, hD.sub [0, 1, 2, 3] (by decide +kernel) rfl, hS, ⟨(by (try dsimp only); omega), hbg, (by (try dsimp only); rw [tnS (by omega) hi9]; exact hpn)⟩⟩ (by (try dsimp only); omega)
        · refine lv_if_ne (tgt := 36) hx hb dX13_pour_30 (by decide +kernel) (fun c9 => absurd c9 (by decide +kernel)) (fun _ => ?_)
          refine lv_bipush (v := (-2)) hx hb dX13_pour_33 (by decide +kernel) ?_
          exact W.iret hx hb hr (fun t ht hW => ⟨⟨_, (f12, f13), rfl, ⟨(show ∀ k : Nat, k < 3 → 0 ≤ (f13 k).toInt ∧ (f13 k).toInt ≤ 12 from hbg), (show pourR (q 7) x1 x2 x3 ((-2) : Int32) f8 f13 f13 f12 f12 from (Or.inl ⟨(fun h9 => by obtain ⟨⟨h1, h2⟩, h3, h4⟩ := h9; omega), (by decide +kernel), rfl, rfl⟩))⟩, by rw [ht]; exact hP.sub [0, 1, 2, 3] rfl, hD.sub [0, 1, 2, 3] (by decide +kernel) rfl⟩, hS.F ht⟩) hS.2.2 dX13_pour_35
    · refine lv_if_eq (tgt := 33) hx hb dX13_pour_11 (by decide +kernel) (fun _ => ?_) (fun c9 => absurd c9 (by decide +kernel))
      refine lv_bipush (v := (-2)) hx hb dX13_pour_33 (by decide +kernel) ?_
      exact W.iret hx hb hr (fun t ht hW => ⟨⟨_, (f12, f13), rfl, ⟨(show ∀ k : Nat, k < 3 → 0 ≤ (f13 k).toInt ∧ (f13 k).toInt ≤ 12 from hbg), (show pourR (q 7) x1 x2 x3 ((-2) : Int32) f8 f13 f13 f12 f12 from (Or.inl ⟨(fun h9 => by obtain ⟨⟨h1, h2⟩, h3, h4⟩ := h9; omega), (by decide +kernel), rfl, rfl⟩))⟩, by rw [ht]; exact hP.sub [0, 1, 2, 3] rfl, hD.sub [0, 1, 2, 3] (by decide +kernel) rfl⟩, hS.F ht⟩) hS.2.2 dX13_pour_35
  · refine lv_if_eq (tgt := 33) hx hb dX13_pour_4 (by decide +kernel) (fun _ => ?_) (fun c9 => absurd c9 (by decide +kernel))
    refine lv_bipush (v := (-2)) hx hb dX13_pour_33 (by decide +kernel) ?_
    exact W.iret hx hb hr (fun t ht hW => ⟨⟨_, (f12, f13), rfl, ⟨(show ∀ k : Nat, k < 3 → 0 ≤ (f13 k).toInt ∧ (f13 k).toInt ≤ 12 from hbg), (show pourR (q 7) x1 x2 x3 ((-2) : Int32) f8 f13 f13 f12 f12 from (Or.inl ⟨(fun h9 => by obtain ⟨⟨h1, h2⟩, h3, h4⟩ := h9; omega), (by decide +kernel), rfl, rfl⟩))⟩, by rw [ht]; exact hP.sub [0, 1, 2, 3] rfl, hD.sub [0, 1, 2, 3] (by decide +kernel) rfl⟩, hS.F ht⟩) hS.2.2 dX13_pour_35
