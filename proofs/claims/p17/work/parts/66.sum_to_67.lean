section
theorem sum_stepR {f : Nat → Int32} {k : Nat} {i i' n z : Int32} (h : ∀ j : Nat, (j : Int) < i.toInt → 0 ≤ (f (k + j)).toInt ∧ (f (k + j)).toInt < n.toInt) (hi : i'.toInt = i.toInt + 1) (h0 : 0 ≤ i.toInt) (hz : z = f (k + i.toNatClampNeg)) (hv : 0 ≤ z.toInt ∧ z.toInt < n.toInt) : ∀ j : Nat, (j : Int) < i'.toInt → 0 ≤ (f (k + j)).toInt ∧ (f (k + j)).toInt < n.toInt := by
  intro j hj
  have h2 := tn h0
  by_cases e : j = i.toNatClampNeg
  · subst e
    rw [← hz]
    exact hv
  · exact h j (by omega)
theorem sum_stepM {g : Nat → Int32} {n0 nn n' al r z ii ii' : Int32} {f1 f2 f3 f4 v1 v2 v3 v4 w1 w2 w3 w4 : Nat → Int32} (h1 : 1 ≤ ii.toInt) (hi : ii'.toInt = ii.toInt + 1) (hnn : 0 ≤ nn.toInt) (Ha : al = (sumF g (rfA n0 f1 f2 f3 f4) (ii.toNatClampNeg - 1)).1) (HA : rfA nn v1 v2 v3 v4 = (sumF g (rfA n0 f1 f2 f3 f4) (ii.toNatClampNeg - 1)).2) (hz : z = g ii.toNatClampNeg) (hr : r.toInt = nn.toInt) (hn' : n'.toInt = nn.toInt + 1) (hw : w1 = upd v1 nn.toNatClampNeg 5 ∧ w2 = upd v2 nn.toNatClampNeg 0 ∧ w3 = upd v3 nn.toNatClampNeg al ∧ w4 = upd v4 nn.toNatClampNeg z) : r = (sumF g (rfA n0 f1 f2 f3 f4) (ii'.toNatClampNeg - 1)).1 ∧ rfA n' w1 w2 w3 w4 = (sumF g (rfA n0 f1 f2 f3 f4) (ii'.toNatClampNeg - 1)).2 := by
  have t := tn (x := ii) (by omega)
  have t2 := tnS (by omega) hi
  have e : ii'.toNatClampNeg - 1 = (ii.toNatClampNeg - 1) + 1 := by omega
  rw [e]
  obtain ⟨w5, w6, w7, w8⟩ := hw
  refine ⟨?_, ?_⟩
  · show r = nI (sumF g (rfA n0 f1 f2 f3 f4) (ii.toNatClampNeg - 1)).2.1
    rw [← HA]
    show r = nI nn.toNatClampNeg
    rw [nI_back hnn]
    exact Int32.toInt_inj.1 hr
  · show rfA n' w1 w2 w3 w4 = clsP (sumF g (rfA n0 f1 f2 f3 f4) (ii.toNatClampNeg - 1)).2 5 0 (sumF g (rfA n0 f1 f2 f3 f4) (ii.toNatClampNeg - 1)).1 (g (ii.toNatClampNeg - 1 + 1))
    rw [← HA, ← Ha, show ii.toNatClampNeg - 1 + 1 = ii.toNatClampNeg by omega, ← hz, w5, w6, w7, w8]
    show (n'.toNatClampNeg, _, _, _, _) = (nn.toNatClampNeg + 1, _, _, _, _)
    rw [tnS hnn hn']
theorem dX13_sum_0 : decode cX13_sum 0 = .ok (.iload_n 1, 1) := by decide +kernel
theorem dX13_sum_1 : decode cX13_sum 1 = .ok (.invokestatic 405, 3) := by decide +kernel
theorem dX13_sum_10 : decode cX13_sum 10 = .ok (.aload_n 0, 1) := by decide +kernel
theorem dX13_sum_101 : decode cX13_sum 101 = .ok (.iload 4, 2) := by decide +kernel
theorem dX13_sum_103 : decode cX13_sum 103 = .ok (.aload_n 0, 1) := by decide +kernel
theorem dX13_sum_104 : decode cX13_sum 104 = .ok (.getfield 44, 3) := by decide +kernel
theorem dX13_sum_107 : decode cX13_sum 107 = .ok (.iload_n 1, 1) := by decide +kernel
theorem dX13_sum_108 : decode cX13_sum 108 = .ok (.iaload, 1) := by decide +kernel
theorem dX13_sum_109 : decode cX13_sum 109 = .ok (.if_icmp .ge 29, 3) := by decide +kernel
theorem dX13_sum_11 : decode cX13_sum 11 = .ok (.getfield 44, 3) := by decide +kernel
theorem dX13_sum_112 : decode cX13_sum 112 = .ok (.aload_n 0, 1) := by decide +kernel
theorem dX13_sum_113 : decode cX13_sum 113 = .ok (.iconst 5, 1) := by decide +kernel
theorem dX13_sum_114 : decode cX13_sum 114 = .ok (.iconst 0, 1) := by decide +kernel
theorem dX13_sum_115 : decode cX13_sum 115 = .ok (.iload_n 3, 1) := by decide +kernel
theorem dX13_sum_116 : decode cX13_sum 116 = .ok (.aload_n 0, 1) := by decide +kernel
theorem dX13_sum_117 : decode cX13_sum 117 = .ok (.getfield 41, 3) := by decide +kernel
theorem dX13_sum_120 : decode cX13_sum 120 = .ok (.bipush 12, 2) := by decide +kernel
theorem dX13_sum_122 : decode cX13_sum 122 = .ok (.iload_n 1, 1) := by decide +kernel
theorem dX13_sum_123 : decode cX13_sum 123 = .ok (.imul, 1) := by decide +kernel
theorem dX13_sum_124 : decode cX13_sum 124 = .ok (.iload 4, 2) := by decide +kernel
theorem dX13_sum_126 : decode cX13_sum 126 = .ok (.iadd, 1) := by decide +kernel
theorem dX13_sum_127 : decode cX13_sum 127 = .ok (.iaload, 1) := by decide +kernel
theorem dX13_sum_128 : decode cX13_sum 128 = .ok (.invokevirtual 223, 3) := by decide +kernel
theorem dX13_sum_131 : decode cX13_sum 131 = .ok (.istore_n 3, 1) := by decide +kernel
theorem dX13_sum_132 : decode cX13_sum 132 = .ok (.iinc 4 1, 3) := by decide +kernel
theorem dX13_sum_135 : decode cX13_sum 135 = .ok (.goto (-34), 3) := by decide +kernel
theorem dX13_sum_138 : decode cX13_sum 138 = .ok (.iload_n 3, 1) := by decide +kernel
theorem dX13_sum_139 : decode cX13_sum 139 = .ok (.ireturn, 1) := by decide +kernel
theorem dX13_sum_14 : decode cX13_sum 14 = .ok (.iload_n 1, 1) := by decide +kernel
theorem dX13_sum_15 : decode cX13_sum 15 = .ok (.iaload, 1) := by decide +kernel
theorem dX13_sum_16 : decode cX13_sum 16 = .ok (.ifCond .le 7, 3) := by decide +kernel
theorem dX13_sum_19 : decode cX13_sum 19 = .ok (.iconst 1, 1) := by decide +kernel
theorem dX13_sum_20 : decode cX13_sum 20 = .ok (.goto 4, 3) := by decide +kernel
theorem dX13_sum_23 : decode cX13_sum 23 = .ok (.iconst 0, 1) := by decide +kernel
theorem dX13_sum_24 : decode cX13_sum 24 = .ok (.istore_n 2, 1) := by decide +kernel
theorem dX13_sum_25 : decode cX13_sum 25 = .ok (.iconst 0, 1) := by decide +kernel
theorem dX13_sum_26 : decode cX13_sum 26 = .ok (.istore_n 3, 1) := by decide +kernel
theorem dX13_sum_27 : decode cX13_sum 27 = .ok (.iload_n 3, 1) := by decide +kernel
theorem dX13_sum_28 : decode cX13_sum 28 = .ok (.aload_n 0, 1) := by decide +kernel
theorem dX13_sum_29 : decode cX13_sum 29 = .ok (.getfield 44, 3) := by decide +kernel
theorem dX13_sum_32 : decode cX13_sum 32 = .ok (.iload_n 1, 1) := by decide +kernel
theorem dX13_sum_33 : decode cX13_sum 33 = .ok (.iaload, 1) := by decide +kernel
theorem dX13_sum_34 : decode cX13_sum 34 = .ok (.if_icmp .ge 27, 3) := by decide +kernel
theorem dX13_sum_37 : decode cX13_sum 37 = .ok (.iload_n 2, 1) := by decide +kernel
theorem dX13_sum_38 : decode cX13_sum 38 = .ok (.aload_n 0, 1) := by decide +kernel
theorem dX13_sum_39 : decode cX13_sum 39 = .ok (.aload_n 0, 1) := by decide +kernel
theorem dX13_sum_4 : decode cX13_sum 4 = .ok (.ifCond .ne 6, 3) := by decide +kernel
theorem dX13_sum_40 : decode cX13_sum 40 = .ok (.getfield 41, 3) := by decide +kernel
theorem dX13_sum_43 : decode cX13_sum 43 = .ok (.bipush 12, 2) := by decide +kernel
theorem dX13_sum_45 : decode cX13_sum 45 = .ok (.iload_n 1, 1) := by decide +kernel
theorem dX13_sum_46 : decode cX13_sum 46 = .ok (.imul, 1) := by decide +kernel
theorem dX13_sum_47 : decode cX13_sum 47 = .ok (.iload_n 3, 1) := by decide +kernel
theorem dX13_sum_48 : decode cX13_sum 48 = .ok (.iadd, 1) := by decide +kernel
theorem dX13_sum_49 : decode cX13_sum 49 = .ok (.iaload, 1) := by decide +kernel
theorem dX13_sum_50 : decode cX13_sum 50 = .ok (.invokevirtual 233, 3) := by decide +kernel
theorem dX13_sum_53 : decode cX13_sum 53 = .ok (.iand, 1) := by decide +kernel
theorem dX13_sum_54 : decode cX13_sum 54 = .ok (.istore_n 2, 1) := by decide +kernel
theorem dX13_sum_55 : decode cX13_sum 55 = .ok (.iinc 3 1, 3) := by decide +kernel
theorem dX13_sum_58 : decode cX13_sum 58 = .ok (.goto (-31), 3) := by decide +kernel
theorem dX13_sum_61 : decode cX13_sum 61 = .ok (.iload_n 2, 1) := by decide +kernel
theorem dX13_sum_62 : decode cX13_sum 62 = .ok (.ifCond .ne 5, 3) := by decide +kernel
theorem dX13_sum_65 : decode cX13_sum 65 = .ok (.iconst (-1), 1) := by decide +kernel
theorem dX13_sum_66 : decode cX13_sum 66 = .ok (.ireturn, 1) := by decide +kernel
theorem dX13_sum_67 : decode cX13_sum 67 = .ok (.aload_n 0, 1) := by decide +kernel
theorem dX13_sum_68 : decode cX13_sum 68 = .ok (.getfield 205, 3) := by decide +kernel
theorem dX13_sum_7 : decode cX13_sum 7 = .ok (.bipush (-2), 2) := by decide +kernel
theorem dX13_sum_71 : decode cX13_sum 71 = .ok (.aload_n 0, 1) := by decide +kernel
theorem dX13_sum_72 : decode cX13_sum 72 = .ok (.getfield 44, 3) := by decide +kernel
theorem dX13_sum_75 : decode cX13_sum 75 = .ok (.iload_n 1, 1) := by decide +kernel
theorem dX13_sum_76 : decode cX13_sum 76 = .ok (.iaload, 1) := by decide +kernel
theorem dX13_sum_77 : decode cX13_sum 77 = .ok (.iadd, 1) := by decide +kernel
theorem dX13_sum_78 : decode cX13_sum 78 = .ok (.iconst 1, 1) := by decide +kernel
theorem dX13_sum_79 : decode cX13_sum 79 = .ok (.isub, 1) := by decide +kernel
theorem dX13_sum_80 : decode cX13_sum 80 = .ok (.bipush 24, 2) := by decide +kernel
theorem dX13_sum_82 : decode cX13_sum 82 = .ok (.if_icmp .le 6, 3) := by decide +kernel
theorem dX13_sum_85 : decode cX13_sum 85 = .ok (.bipush (-4), 2) := by decide +kernel
theorem dX13_sum_87 : decode cX13_sum 87 = .ok (.ireturn, 1) := by decide +kernel
theorem dX13_sum_88 : decode cX13_sum 88 = .ok (.aload_n 0, 1) := by decide +kernel
theorem dX13_sum_89 : decode cX13_sum 89 = .ok (.getfield 41, 3) := by decide +kernel
theorem dX13_sum_9 : decode cX13_sum 9 = .ok (.ireturn, 1) := by decide +kernel
theorem dX13_sum_92 : decode cX13_sum 92 = .ok (.bipush 12, 2) := by decide +kernel
theorem dX13_sum_94 : decode cX13_sum 94 = .ok (.iload_n 1, 1) := by decide +kernel
theorem dX13_sum_95 : decode cX13_sum 95 = .ok (.imul, 1) := by decide +kernel
theorem dX13_sum_96 : decode cX13_sum 96 = .ok (.iaload, 1) := by decide +kernel
theorem dX13_sum_97 : decode cX13_sum 97 = .ok (.istore_n 3, 1) := by decide +kernel
theorem dX13_sum_98 : decode cX13_sum 98 = .ok (.iconst 1, 1) := by decide +kernel
theorem dX13_sum_99 : decode cX13_sum 99 = .ok (.istore 4, 2) := by decide +kernel
set_option maxRecDepth 20000 in
theorem ggX13_sum_X13_comes : GoodIn wsX13_sum wsX13_comes := goodIn_r _ [19, 20, 3, 21, 22, 23, 24, 25, 26, 27, 28, 29, 30, 31, 32, 33, 34, 35, 36, 37, 38, 39, 40, 41, 42, 43, 44, 45, 46, 47, 48, 49, 50, 51, 52, 53, 54, 55, 56, 57, 58, 59, 60, 61, 62, 63, 64, 65, 66, 67, 68] rfl (by decide +kernel)
set_option maxRecDepth 20000 in
theorem ggX13_sum_X13_isBag : GoodIn wsX13_sum wsX13_isBag := goodIn_r _ [7, 8, 9, 10, 6, 11] rfl (by decide +kernel)
set_option maxRecDepth 20000 in
theorem ggX13_sum_X13_isClause : GoodIn wsX13_sum wsX13_isClause := goodIn_r _ [15, 3, 9, 10, 6, 11, 24, 25, 26, 27, 28, 29, 30, 31, 32, 33, 34, 35, 36, 37, 38, 39, 40, 41, 42, 43, 44, 45, 46, 47, 48, 49, 50, 51, 52, 53, 54, 55, 56, 57, 58, 59, 60, 61, 62, 63, 64, 65, 66, 67, 68] rfl (by decide +kernel)
set_option maxRecDepth 20000 in
theorem gX13_sum_X13_comes : GoodIn wsX13_sum (wsV RX13 223 RX13 yX13_comes wsX13_comes) := goodIn_app (goodIn_r _ [16, 17, 18, 6] rfl (by decide +kernel)) ggX13_sum_X13_comes
set_option maxRecDepth 20000 in
theorem gX13_sum_X13_isBag : GoodIn wsX13_sum (va_wsS RX13 405 yX13_isBag wsX13_isBag) := goodIn_app (goodIn_of _ (by decide +kernel)) ggX13_sum_X13_isBag
set_option maxRecDepth 20000 in
theorem gX13_sum_X13_isClause : GoodIn wsX13_sum (wsV RX13 233 RX13 yX13_isClause wsX13_isClause) := goodIn_app (goodIn_r _ [12, 13, 14, 6] rfl (by decide +kernel)) ggX13_sum_X13_isClause
set_option maxRecDepth 20000 in
theorem in_X13_sum_X13 : ∀ w ∈ wsX130, w ∈ wsX13_sum := sub_r [24, 25, 26, 27, 28, 29, 30, 31, 32, 33, 34, 35, 36, 37, 38, 39, 40, 41, 42, 43, 44, 45, 46, 47, 48, 49, 50, 51, 52, 53, 54, 55, 56, 57, 58, 59, 60, 61, 62, 63, 64, 65, 66, 67, 68] rfl
set_option maxHeartbeats 4000000 in
set_option maxRecDepth 100000 in
theorem c_X13_sum (l : Launch) (D : va_G) (T : Nat → ClassId) (sz : Nat) (h0 : Nat) (q : Nat → Int32) (v : Int64) (w : Int64) (a : Nat → Nat) (f8 : Nat → Int32) (f9 : Nat → Int32) (f10 : Nat → Int32) (f11 : Nat → Int32) (f12 : Nat → Int32) (f13 : Nat → Int32) (x1 : Int32) (hm : 0 ≤ (q 7).toInt ∧ (q 7).toInt ≤ 24) (hokR : okR f8 f10 f11) (hbg : ∀ k : Nat, k < 3 → 0 ≤ (f13 k).toInt ∧ (f13 k).toInt ≤ 12) : Met l yX13_sum wsX13_sum ({ frames := 2, cells := 0, slots := 0, locals := 46 }) (pW [.ref h0, .int x1] D T [(h0, .inr (10, (Value.int (q 0) :: Value.int (q 1) :: Value.int (q 2) :: Value.int (q 3) :: Value.int (q 4) :: Value.int (q 5) :: Value.int (q 6) :: Value.int (q 7) :: Value.ref (a 8) :: Value.ref (a 9) :: Value.ref (a 10) :: Value.ref (a 11) :: Value.ref (a 12) :: Value.ref (a 13) :: Value.int (q 14) :: Value.long v :: Value.long w :: Value.ref (a 17) :: Value.ref (a 18) :: Value.ref (a 19) :: Value.ref (a 20) :: Value.ref (a 21) :: Value.ref (a 22) :: Value.ref (a 23) :: Value.int (q 24) :: Value.ref (a 25) :: Value.int (q 26) :: Value.ref (a 27) :: Value.int (q 28) :: Value.int (q 29) :: Value.int (q 30) :: Value.int (q 31) :: Value.int (q 32) :: Value.int (q 33) :: Value.ref (a 34) :: Value.ref (a 35) :: Value.ref (a 36) :: Value.ref (a 37) :: Value.ref (a 38) :: Value.ref (a 39) :: Value.ref (a 40) :: Value.int (q 41) :: Value.ref (a 42) :: Value.int (q 43) :: Value.int (q 44) :: []))), ((a 8), .inl (T 0, 24, .inl f8)), ((a 9), .inl (T 0, 24, .inl f9)), ((a 10), .inl (T 0, 24, .inl f10)), ((a 11), .inl (T 0, 24, .inl f11)), ((a 12), .inl (T 0, 36, .inl f12)), ((a 13), .inl (T 0, 3, .inl f13))] sz) (va_Qi (fun (r : Int32) (u : (Int32) × (Nat → Int32) × (Nat → Int32) × (Nat → Int32) × (Nat → Int32)) => (okR u.2.1 u.2.2.2.1 u.2.2.2.2) ∧ (0 ≤ u.1.toInt ∧ u.1.toInt ≤ 24) ∧ (sumR (q 7) r u.1 (f13 x1.toNatClampNeg) (fun i => f12 (12 * x1.toNatClampNeg + i)) f8 f9 f10 f11 u.2.1 u.2.2.1 u.2.2.2.1 u.2.2.2.2 (¬ (0 ≤ x1.toInt ∧ x1.toInt ≤ 2)))) (bW D (va_A [(h0, .inr (10, (Value.int (q 0) :: Value.int (q 1) :: Value.int (q 2) :: Value.int (q 3) :: Value.int (q 4) :: Value.int (q 5) :: Value.int (q 6) :: Value.int (q 7) :: Value.ref (a 8) :: Value.ref (a 9) :: Value.ref (a 10) :: Value.ref (a 11) :: Value.ref (a 12) :: Value.ref (a 13) :: Value.int (q 14) :: Value.long v :: Value.long w :: Value.ref (a 17) :: Value.ref (a 18) :: Value.ref (a 19) :: Value.ref (a 20) :: Value.ref (a 21) :: Value.ref (a 22) :: Value.ref (a 23) :: Value.int (q 24) :: Value.ref (a 25) :: Value.int (q 26) :: Value.ref (a 27) :: Value.int (q 28) :: Value.int (q 29) :: Value.int (q 30) :: Value.int (q 31) :: Value.int (q 32) :: Value.int (q 33) :: Value.ref (a 34) :: Value.ref (a 35) :: Value.ref (a 36) :: Value.ref (a 37) :: Value.ref (a 38) :: Value.ref (a 39) :: Value.ref (a 40) :: Value.int (q 41) :: Value.ref (a 42) :: Value.int (q 43) :: Value.int (q 44) :: []))), ((a 8), .inl (T 0, 24, .inl f8)), ((a 9), .inl (T 0, 24, .inl f9)), ((a 10), .inl (T 0, 24, .inl f10)), ((a 11), .inl (T 0, 24, .inl f11)), ((a 12), .inl (T 0, 36, .inl f12)), ((a 13), .inl (T 0, 3, .inl f13))] sz) (fun (u : (Int32) × (Nat → Int32) × (Nat → Int32) × (Nat → Int32) × (Nat → Int32)) => [(h0, .inr (10, (Value.int (q 0) :: Value.int (q 1) :: Value.int (q 2) :: Value.int (q 3) :: Value.int (q 4) :: Value.int (q 5) :: Value.int (q 6) :: Value.int u.1 :: Value.ref (a 8) :: Value.ref (a 9) :: Value.ref (a 10) :: Value.ref (a 11) :: Value.ref (a 12) :: Value.ref (a 13) :: Value.int (q 14) :: Value.long v :: Value.long w :: Value.ref (a 17) :: Value.ref (a 18) :: Value.ref (a 19) :: Value.ref (a 20) :: Value.ref (a 21) :: Value.ref (a 22) :: Value.ref (a 23) :: Value.int (q 24) :: Value.ref (a 25) :: Value.int (q 26) :: Value.ref (a 27) :: Value.int (q 28) :: Value.int (q 29) :: Value.int (q 30) :: Value.int (q 31) :: Value.int (q 32) :: Value.int (q 33) :: Value.ref (a 34) :: Value.ref (a 35) :: Value.ref (a 36) :: Value.ref (a 37) :: Value.ref (a 38) :: Value.ref (a 39) :: Value.ref (a 40) :: Value.int (q 41) :: Value.ref (a 42) :: Value.int (q 43) :: Value.int (q 44) :: []))), ((a 8), .inl (T 0, 24, .inl u.2.1)), ((a 9), .inl (T 0, 24, .inl u.2.2.1)), ((a 10), .inl (T 0, 24, .inl u.2.2.2.1)), ((a 11), .inl (T 0, 24, .inl u.2.2.2.2)), ((a 12), .inl (T 0, 36, .inl f12)), ((a 13), .inl (T 0, 3, .inl f13))])) (va_A [(h0, .inr (10, (Value.int (q 0) :: Value.int (q 1) :: Value.int (q 2) :: Value.int (q 3) :: Value.int (q 4) :: Value.int (q 5) :: Value.int (q 6) :: Value.int (q 7) :: Value.ref (a 8) :: Value.ref (a 9) :: Value.ref (a 10) :: Value.ref (a 11) :: Value.ref (a 12) :: Value.ref (a 13) :: Value.int (q 14) :: Value.long v :: Value.long w :: Value.ref (a 17) :: Value.ref (a 18) :: Value.ref (a 19) :: Value.ref (a 20) :: Value.ref (a 21) :: Value.ref (a 22) :: Value.ref (a 23) :: Value.int (q 24) :: Value.ref (a 25) :: Value.int (q 26) :: Value.ref (a 27) :: Value.int (q 28) :: Value.int (q 29) :: Value.int (q 30) :: Value.int (q 31) :: Value.int (q 32) :: Value.int (q 33) :: Value.ref (a 34) :: Value.ref (a 35) :: Value.ref (a 36) :: Value.ref (a 37) :: Value.ref (a 38) :: Value.ref (a 39) :: Value.ref (a 40) :: Value.int (q 41) :: Value.ref (a 42) :: Value.int (q 43) :: Value.int (q 44) :: []))), ((a 8), .inl (T 0, 24, .inl f8)), ((a 9), .inl (T 0, 24, .inl f9)), ((a 10), .inl (T 0, 24, .inl f10)), ((a 11), .inl (T 0, 24, .inl f11)), ((a 12), .inl (T 0, 36, .inl f12)), ((a 13), .inl (T 0, 3, .inl f13))] sz)) 0 0 (va_A [(h0, .inr (10, (Value.int (q 0) :: Value.int (q 1) :: Value.int (q 2) :: Value.int (q 3) :: Value.int (q 4) :: Value.int (q 5) :: Value.int (q 6) :: Value.int (q 7) :: Value.ref (a 8) :: Value.ref (a 9) :: Value.ref (a 10) :: Value.ref (a 11) :: Value.ref (a 12) :: Value.ref (a 13) :: Value.int (q 14) :: Value.long v :: Value.long w :: Value.ref (a 17) :: Value.ref (a 18) :: Value.ref (a 19) :: Value.ref (a 20) :: Value.ref (a 21) :: Value.ref (a 22) :: Value.ref (a 23) :: Value.int (q 24) :: Value.ref (a 25) :: Value.int (q 26) :: Value.ref (a 27) :: Value.int (q 28) :: Value.int (q 29) :: Value.int (q 30) :: Value.int (q 31) :: Value.int (q 32) :: Value.int (q 33) :: Value.ref (a 34) :: Value.ref (a 35) :: Value.ref (a 36) :: Value.ref (a 37) :: Value.ref (a 38) :: Value.ref (a 39) :: Value.ref (a 40) :: Value.int (q 41) :: Value.ref (a 42) :: Value.int (q 43) :: Value.int (q 44) :: []))), ((a 8), .inl (T 0, 24, .inl f8)), ((a 9), .inl (T 0, 24, .inl f9)), ((a 10), .inl (T 0, 24, .inl f10)), ((a 11), .inl (T 0, 24, .inl f11)), ((a 12), .inl (T 0, 36, .inl f12)), ((a 13), .inl (T 0, 3, .inl f13))] sz) := by
  refine Met.ofW (cc := cX13_sum) (maxL := 5) (ret := (some .int)) (by decide +kernel) rfl ?_
  intro p e s m args below meth c s₁ B hml hv
  obtain ⟨rfl, hsz, hP, hE, hD0⟩ := hv
  have hx := B.exec
  have hb := B.bytes
  have hr := B.returns
  have hts := atoms_spec (ws := wsX13_sum) B.pre
  have hown : s.vm.findClass RX13 = some m.cls := findClass_of_methodNamed B.named
  have hlocks := B.notSynchronized
  subst hsz
  have hD := hD0.self (sz := s.heap.size)
  generalize hAe : va_A [(h0, .inr (10, (Value.int (q 0) :: Value.int (q 1) :: Value.int (q 2) :: Value.int (q 3) :: Value.int (q 4) :: Value.int (q 5) :: Value.int (q 6) :: Value.int (q 7) :: Value.ref (a 8) :: Value.ref (a 9) :: Value.ref (a 10) :: Value.ref (a 11) :: Value.ref (a 12) :: Value.ref (a 13) :: Value.int (q 14) :: Value.long v :: Value.long w :: Value.ref (a 17) :: Value.ref (a 18) :: Value.ref (a 19) :: Value.ref (a 20) :: Value.ref (a 21) :: Value.ref (a 22) :: Value.ref (a 23) :: Value.int (q 24) :: Value.ref (a 25) :: Value.int (q 26) :: Value.ref (a 27) :: Value.int (q 28) :: Value.int (q 29) :: Value.int (q 30) :: Value.int (q 31) :: Value.int (q 32) :: Value.int (q 33) :: Value.ref (a 34) :: Value.ref (a 35) :: Value.ref (a 36) :: Value.ref (a 37) :: Value.ref (a 38) :: Value.ref (a 39) :: Value.ref (a 40) :: Value.int (q 41) :: Value.ref (a 42) :: Value.int (q 43) :: Value.int (q 44) :: []))), ((a 8), .inl (T 0, 24, .inl f8)), ((a 9), .inl (T 0, 24, .inl f9)), ((a 10), .inl (T 0, 24, .inl f10)), ((a 11), .inl (T 0, 24, .inl f11)), ((a 12), .inl (T 0, 36, .inl f12)), ((a 13), .inl (T 0, 3, .inl f13))] s.heap.size = A at hD ⊢
  have hA : ∀ q : Nat, s.heap.size ≤ q → A q := fun q h => by rw [← hAe]; exact Or.inr h
  have hS : va_S A s.heap s.heap [] := va_S.rf
  have hP : va_P D vwCl [(h0, .inr (10, (Value.int (q 0) :: Value.int (q 1) :: Value.int (q 2) :: Value.int (q 3) :: Value.int (q 4) :: Value.int (q 5) :: Value.int (q 6) :: Value.int (q 7) :: Value.ref (a 8) :: Value.ref (a 9) :: Value.ref (a 10) :: Value.ref (a 11) :: Value.ref (a 12) :: Value.ref (a 13) :: Value.int (q 14) :: Value.long v :: Value.long w :: Value.ref (a 17) :: Value.ref (a 18) :: Value.ref (a 19) :: Value.ref (a 20) :: Value.ref (a 21) :: Value.ref (a 22) :: Value.ref (a 23) :: Value.int (q 24) :: Value.ref (a 25) :: Value.int (q 26) :: Value.ref (a 27) :: Value.int (q 28) :: Value.int (q 29) :: Value.int (q 30) :: Value.int (q 31) :: Value.int (q 32) :: Value.int (q 33) :: Value.ref (a 34) :: Value.ref (a 35) :: Value.ref (a 36) :: Value.ref (a 37) :: Value.ref (a 38) :: Value.ref (a 39) :: Value.ref (a 40) :: Value.int (q 41) :: Value.ref (a 42) :: Value.int (q 43) :: Value.int (q 44) :: []))), ((a 8), .inl (T 0, 24, .inl f8)), ((a 9), .inl (T 0, 24, .inl f9)), ((a 10), .inl (T 0, 24, .inl f10)), ((a 11), .inl (T 0, 24, .inl f11)), ((a 12), .inl (T 0, 36, .inl f12)), ((a 13), .inl (T 0, 3, .inl f13))] s.heap := hP
  have hl := lv_entry ([.ref h0, .int x1]) (n := 5) (Nat.le_of_ble_eq_true rfl)
  rw [lg_entry_eq]
  generalize (lg_sl ([.ref h0, .int x1]) ++ List.replicate (5 - (lg_sl ([.ref h0, .int x1])).length) Slot.unset).toArray = ls at hl ⊢
  have hl : lv_has ls 5 [(0, .ref h0), (1, .int x1)] := hl
  clear hD0
  refine lv_iload_n hx hb dX13_sum_0 rfl (lv_at hl 1 rfl) ?_
  refine vp_callSi (W.runS (As := [.int x1]) (rest := []) ⟨hx, hb, hml, hown, hts⟩ (c_X13_isBag l D T x1) (va_cwS 1 hts gX13_sum_X13_isBag rfl rfl rfl hs_X13_isBag ⟨Nat.le_of_ble_eq_true rfl, Nat.le_of_ble_eq_true rfl⟩) (pR_S hP hE [] rfl) rfl rfl hl.1 rfl (lv_room (Nat.le_of_ble_eq_true rfl)) dX13_sum_1 ⟨Nat.le_of_ble_eq_true rfl, Nat.le_of_ble_eq_true rfl⟩) (fun r_1 hr_1 => ?_)
  rcases bool_post hr_1 with ⟨c_2, rfl⟩ | ⟨c_2, rfl⟩
  · refine lv_if_ne (tgt := 10) hx hb dX13_sum_4 (by decide +kernel) (fun _ => ?_) (fun c9 => absurd c9 (by decide +kernel))
    refine lv_aload_n hx hb dX13_sum_10 rfl (lv_at hl 0 rfl) ?_
    refine va_get (D := D) (ci := 10) (v := .ref (a 13)) (C := RX13) (T := TX13) (N := 45) hx hb hts in_X13_sum_X13 hown hE.1 hP 0 rfl rfl 13 (by decide +kernel) (hts (.fieldLink RX13 44 "ClauseBookModel" "bagged" "[I") (List.mem_of_getElem? (i := 1) rfl)) (fun _ h9 => h9) rfl dX13_sum_11 ?_
    refine lv_iload_n hx hb dX13_sum_14 rfl (lv_at hl 1 rfl) ?_
    refine va_iald hx hb hE.1 hP 6 0 rfl rfl (by rw [vp_in_iff]; first | omega | (rw [fb_addI (by omega) (by omega)]; omega)) dX13_sum_15 ?_
    refine lv_topi (fun z_3 ez_3 => ?_)
    have hbz_3 : 0 ≤ z_3.toInt ∧ z_3.toInt ≤ 12 := by rw [ez_3]; exact hbg _ (tn3 (by omega) (by omega))
    have htz_3 : z_3.toInt = (f13 (x1.toNatClampNeg)).toInt := by rw [ez_3]
    refine lv_if_le (tgt := 23) hx hb dX13_sum_16 (by decide +kernel) (fun c_4 => ?_) (fun c_4 => ?_)
    · rw [fa_le] at c_4
      try rw [ti_0] at c_4
      refine lv_iconst (v := 0) hx hb dX13_sum_23 (by decide +kernel) ?_
      refine lv_istore_n (lv' := [(2, .int 0), (0, .ref h0), (1, .int x1)]) hx hb dX13_sum_24 rfl hl (by decide +kernel) rfl (fun ls hl => ?_)
      refine lv_iconst (v := 0) hx hb dX13_sum_25 (by decide +kernel) ?_
      refine lv_istore_n (lv' := [(3, .int 0), (2, .int 0), (0, .ref h0), (1, .int x1)]) hx hb dX13_sum_26 rfl hl (by decide +kernel) rfl (fun ls hl => ?_)
      refine loopR (σ := (Int32) × (Int32)) (fun x9 ls => lv_has ls 5 [(3, .int x9.1), (2, .int x9.2), (0, .ref h0), (1, .int x1)] ∧ ((0 ≤ x9.1.toInt ∧ x9.1.toInt ≤ 12 ∧ x9.1.toInt ≤ (f13 (x1.toNatClampNeg)).toInt) ∧ isB x9.2 ∧ (x9.2.toInt = 0 → ¬ sumN (q 7) (f13 x1.toNatClampNeg) (fun i => f12 (12 * x1.toNatClampNeg + i))) ∧ (x9.2.toInt ≠ 0 → 1 ≤ (f13 (x1.toNatClampNeg)).toInt ∧ ∀ j : Nat, (j : Int) < x9.1.toInt → 0 ≤ (f12 ((12 * x1).toNatClampNeg + j)).toInt ∧ (f12 ((12 * x1).toNatClampNeg + j)).toInt < (q 7).toInt))) (fun x9 => (12 - x9.1.toInt).toNat) (fun x9 ls hI ih => ?_) (0, 0) ls ⟨lv_sub hl [0, 1, 2, 3] rfl, ⟨(by (try dsimp only); simp only [ti_0]; omega), isB0, (fun h9 h8 => by first | exact absurd h9 (by (try dsimp only); decide) | (have h7 : 1 ≤ (f13 (x1.toNatClampNeg)).toInt := h8.1; omega)), (fun h9 => ⟨(by first | omega | exact absurd h9 (by (try dsimp only); decide)), fun j hj => absurd hj (by (try dsimp only); rw [ti_0]; omega)⟩)⟩⟩
      obtain ⟨ii, ar⟩ := x9
      obtain ⟨hl, hinv⟩ := hI
      have hl : lv_has ls 5 [(3, .int ii), (2, .int ar), (0, .ref h0), (1, .int x1)] := hl
      have hinv : (0 ≤ ii.toInt ∧ ii.toInt ≤ 12 ∧ ii.toInt ≤ (f13 (x1.toNatClampNeg)).toInt) ∧ isB ar ∧ (ar.toInt = 0 → ¬ sumN (q 7) (f13 x1.toNatClampNeg) (fun i => f12 (12 * x1.toNatClampNeg + i))) ∧ (ar.toInt ≠ 0 → 1 ≤ (f13 (x1.toNatClampNeg)).toInt ∧ ∀ j : Nat, (j : Int) < ii.toInt → 0 ≤ (f12 ((12 * x1).toNatClampNeg + j)).toInt ∧ (f12 ((12 * x1).toNatClampNeg + j)).toInt < (q 7).toInt) := hinv
      obtain ⟨hii, hBa, hnz, hal⟩ := hinv
      have h12x1 : (12 * x1).toInt = 12 * x1.toInt := by rw [fb_mulI (by rw [ti_12]; omega) (by rw [ti_12]; omega), ti_12]
      refine lv_iload_n hx hb dX13_sum_27 rfl (lv_at hl 0 rfl) ?_
      refine lv_aload_n hx hb dX13_sum_28 rfl (lv_at hl 2 rfl) ?_
      refine va_get (D := D) (ci := 10) (v := .ref (a 13)) (C := RX13) (T := TX13) (N := 45) hx hb hts in_X13_sum_X13 hown hE.1 hP 0 rfl rfl 13 (by decide +kernel) (hts (.fieldLink RX13 44 "ClauseBookModel" "bagged" "[I") (List.mem_of_getElem? (i := 1) rfl)) (fun _ h9 => h9) rfl dX13_sum_29 ?_
      refine lv_iload_n hx hb dX13_sum_32 rfl (lv_at hl 3 rfl) ?_
      refine va_iald hx hb hE.1 hP 6 0 rfl rfl (by rw [vp_in_iff]; first | omega | (rw [fb_addI (by omega) (by omega)]; omega)) dX13_sum_33 ?_
      refine lv_topi (fun z_5 ez_5 => ?_)
      have hbz_5 : 0 ≤ z_5.toInt ∧ z_5.toInt ≤ 12 := by rw [ez_5]; exact hbg _ (tn3 (by omega) (by omega))
      have htz_5 : z_5.toInt = (f13 (x1.toNatClampNeg)).toInt := by rw [ez_5]
      refine lv_icmp_ge (tgt := 61) hx hb dX13_sum_34 (by decide +kernel) (fun c_6 => ?_) (fun c_6 => ?_)
      · rw [fa_le] at c_6
        refine lv_iload_n hx hb dX13_sum_61 rfl (lv_at hl 1 rfl) ?_
        refine lv_if_ne (tgt := 67) hx hb dX13_sum_62 (by decide +kernel) (fun c_7 => ?_) (fun c_7 => ?_)
        · rw [fa_eq] at c_7
          try rw [ti_0] at c_7
          have hal := hal (by omega)
          have hsN : sumN (q 7) (f13 x1.toNatClampNeg) (fun i => f12 (12 * x1.toNatClampNeg + i)) := ⟨hal.1, (fun j hj => by
              have h8 := hal.2 j (by omega)
              have h7 := tn (x := (12 * x1)) (by omega)
              have h6 := tn (x := x1) (by omega)
              rw [show (12 * x1).toNatClampNeg = 12 * x1.toNatClampNeg by omega] at h8
              exact h8)⟩
          refine lv_aload_n hx hb dX13_sum_67 rfl (lv_at hl 2 rfl) ?_
          refine va_get (D := D) (ci := 10) (v := .int (q 7)) (C := RX13) (T := TX13) (N := 45) hx hb hts in_X13_sum_X13 hown hE.1 hP 0 rfl rfl 7 (by decide +kernel) (hts (.fieldLink RX13 205 "ClauseBookModel" "many" "I") (List.mem_of_getElem? (i := 3) rfl)) (fun _ h9 => h9) rfl dX13_sum_68 ?_
          refine lv_aload_n hx hb dX13_sum_71 rfl (lv_at hl 2 rfl) ?_
          refine va_get (D := D) (ci := 10) (v := .ref (a 13)) (C := RX13) (T := TX13) (N := 45) hx hb hts in_X13_sum_X13 hown hE.1 hP 0 rfl rfl 13 (by decide +kernel) (hts (.fieldLink RX13 44 "ClauseBookModel" "bagged" "[I") (List.mem_of_getElem? (i := 1) rfl)) (fun _ h9 => h9) rfl dX13_sum_72 ?_
          refine lv_iload_n hx hb dX13_sum_75 rfl (lv_at hl 3 rfl) ?_
          refine va_iald hx hb hE.1 hP 6 0 rfl rfl (by rw [vp_in_iff]; first | omega | (rw [fb_addI (by omega) (by omega)]; omega)) dX13_sum_76 ?_
          refine lv_topi (fun z_8 ez_8 => ?_)
          have hbz_8 : 0 ≤ z_8.toInt ∧ z_8.toInt ≤ 12 := by rw [ez_8]; exact hbg _ (tn3 (by omega) (by omega))
          have htz_8 : z_8.toInt = (f13 (x1.toNatClampNeg)).toInt := by rw [ez_8]
          refine lv_iadd hx hb dX13_sum_77 ?_
          refine lv_iconst (v := 1) hx hb dX13_sum_78 (by decide +kernel) ?_
          refine lv_isub hx hb dX13_sum_79 ?_
          have hs9 : ((q 7) + z_8).toInt = (q 7).toInt + z_8.toInt := fb_addI (by omega) (by omega)
          have hs8 := dec1 (i := (q 7) + z_8) (by omega)
          refine lv_bipush (v := 24) hx hb dX13_sum_80 (by decide +kernel) ?_
          refine lv_icmp_le (tgt := 88) hx hb dX13_sum_82 (by decide +kernel) (fun c_9 => ?_) (fun c_9 => ?_)
          · rw [fa_le] at c_9
            try rw [ti_24] at c_9
            have h12x1 : (12 * x1).toInt = 12 * x1.toInt := by rw [fb_mulI (by rw [ti_12]; omega) (by rw [ti_12]; omega), ti_12]
            refine lv_aload_n hx hb dX13_sum_88 rfl (lv_at hl 2 rfl) ?_
            refine va_get (D := D) (ci := 10) (v := .ref (a 12)) (C := RX13) (T := TX13) (N := 45) hx hb hts in_X13_sum_X13 hown hE.1 hP 0 rfl rfl 12 (by decide +kernel) (hts (.fieldLink RX13 41 "ClauseBookModel" "bag" "[I") (List.mem_of_getElem? (i := 2) rfl)) (fun _ h9 => h9) rfl dX13_sum_89 ?_
            refine lv_bipush (v := 12) hx hb dX13_sum_92 (by decide +kernel) ?_
            refine lv_iload_n hx hb dX13_sum_94 rfl (lv_at hl 3 rfl) ?_
            refine lv_imul hx hb dX13_sum_95 ?_
            refine va_iald hx hb hE.1 hP 5 0 rfl rfl (by rw [vp_in_iff]; first | omega | (rw [fb_addI (by omega) (by omega)]; omega)) dX13_sum_96 ?_
            refine lv_topi (fun z_10 ez_10 => ?_)
            have hxz_10 : 0 ≤ z_10.toInt ∧ z_10.toInt < (q 7).toInt := by rw [ez_10]; exact hal.2 0 (by omega)
            refine lv_istore_n (lv' := [(3, .int z_10), (2, .int ar), (0, .ref h0), (1, .int x1)]) hx hb dX13_sum_97 rfl hl (by decide +kernel) rfl (fun ls hl => ?_)
            refine lv_iconst (v := 1) hx hb dX13_sum_98 (by decide +kernel) ?_
            refine lv_istore (lv' := [(4, .int 1), (3, .int z_10), (2, .int ar), (0, .ref h0), (1, .int x1)]) hx hb dX13_sum_99 hl (by decide +kernel) rfl (fun ls hl => ?_)
            refine loopW (σ := (Int32) × (Int32) × (Int32) × (Nat → Int32) × (Nat → Int32) × (Nat → Int32) × (Nat → Int32)) (fun x9 ls H locs => lv_has ls 5 [(4, .int x9.1), (3, .int x9.2.1), (0, .ref h0), (1, .int x1)] ∧ va_P D vwCl [(h0, .inr (10, (Value.int (q 0) :: Value.int (q 1) :: Value.int (q 2) :: Value.int (q 3) :: Value.int (q 4) :: Value.int (q 5) :: Value.int (q 6) :: Value.int x9.2.2.1 :: Value.ref (a 8) :: Value.ref (a 9) :: Value.ref (a 10) :: Value.ref (a 11) :: Value.ref (a 12) :: Value.ref (a 13) :: Value.int (q 14) :: Value.long v :: Value.long w :: Value.ref (a 17) :: Value.ref (a 18) :: Value.ref (a 19) :: Value.ref (a 20) :: Value.ref (a 21) :: Value.ref (a 22) :: Value.ref (a 23) :: Value.int (q 24) :: Value.ref (a 25) :: Value.int (q 26) :: Value.ref (a 27) :: Value.int (q 28) :: Value.int (q 29) :: Value.int (q 30) :: Value.int (q 31) :: Value.int (q 32) :: Value.int (q 33) :: Value.ref (a 34) :: Value.ref (a 35) :: Value.ref (a 36) :: Value.ref (a 37) :: Value.ref (a 38) :: Value.ref (a 39) :: Value.ref (a 40) :: Value.int (q 41) :: Value.ref (a 42) :: Value.int (q 43) :: Value.int (q 44) :: []))), ((a 8), .inl (T 0, 24, .inl x9.2.2.2.1)), ((a 9), .inl (T 0, 24, .inl x9.2.2.2.2.1)), ((a 10), .inl (T 0, 24, .inl x9.2.2.2.2.2.1)), ((a 11), .inl (T 0, 24, .inl x9.2.2.2.2.2.2)), ((a 12), .inl (T 0, 36, .inl f12)), ((a 13), .inl (T 0, 3, .inl f13))] H ∧ va_D A [(h0, .inr (10, (Value.int (q 0) :: Value.int (q 1) :: Value.int (q 2) :: Value.int (q 3) :: Value.int (q 4) :: Value.int (q 5) :: Value.int (q 6) :: Value.int x9.2.2.1 :: Value.ref (a 8) :: Value.ref (a 9) :: Value.ref (a 10) :: Value.ref (a 11) :: Value.ref (a 12) :: Value.ref (a 13) :: Value.int (q 14) :: Value.long v :: Value.long w :: Value.ref (a 17) :: Value.ref (a 18) :: Value.ref (a 19) :: Value.ref (a 20) :: Value.ref (a 21) :: Value.ref (a 22) :: Value.ref (a 23) :: Value.int (q 24) :: Value.ref (a 25) :: Value.int (q 26) :: Value.ref (a 27) :: Value.int (q 28) :: Value.int (q 29) :: Value.int (q 30) :: Value.int (q 31) :: Value.int (q 32) :: Value.int (q 33) :: Value.ref (a 34) :: Value.ref (a 35) :: Value.ref (a 36) :: Value.ref (a 37) :: Value.ref (a 38) :: Value.ref (a 39) :: Value.ref (a 40) :: Value.int (q 41) :: Value.ref (a 42) :: Value.int (q 43) :: Value.int (q 44) :: []))), ((a 8), .inl (T 0, 24, .inl x9.2.2.2.1)), ((a 9), .inl (T 0, 24, .inl x9.2.2.2.2.1)), ((a 10), .inl (T 0, 24, .inl x9.2.2.2.2.2.1)), ((a 11), .inl (T 0, 24, .inl x9.2.2.2.2.2.2)), ((a 12), .inl (T 0, 36, .inl f12)), ((a 13), .inl (T 0, 3, .inl f13))] ∧ va_S A s.heap H locs ∧ (((1 ≤ x9.1.toInt ∧ x9.1.toInt ≤ (f13 (x1.toNatClampNeg)).toInt) ∧ x9.2.2.1.toInt = (q 7).toInt + x9.1.toInt - 1 ∧ 0 ≤ x9.2.1.toInt ∧ x9.2.1.toInt < x9.2.2.1.toInt) ∧ okR x9.2.2.2.1 x9.2.2.2.2.2.1 x9.2.2.2.2.2.2 ∧ x9.2.1 = (sumF (fun i => f12 (12 * x1.toNatClampNeg + i)) (rfA (q 7) f8 f9 f10 f11) (x9.1.toNatClampNeg - 1)).1 ∧ rfA x9.2.2.1 x9.2.2.2.1 x9.2.2.2.2.1 x9.2.2.2.2.2.1 x9.2.2.2.2.2.2 = (sumF (fun i => f12 (12 * x1.toNatClampNeg + i)) (rfA (q 7) f8 f9 f10 f11) (x9.1.toNatClampNeg - 1)).2)) (fun x9 => (12 - x9.1.toInt).toNat) (fun x9 ls H locs hI ih => ?_) (1, z_10, (q 7), f8, f9, f10, f11) ls ⟨lv_sub hl [0, 1, 3, 4] rfl, hP.sub [0, 1, 2, 3, 4, 5, 6] rfl, hD.sub [0, 1, 2, 3, 4, 5, 6] (by decide +kernel) rfl, hS, ⟨(by (try dsimp only); rw [ti_1]; omega), hokR, (by (try dsimp only); rw [tn1']; show z_10 = f12 (12 * x1.toNatClampNeg + 0); rw [ez_10]; congr 1; have h8 := tn (x := (12 * x1)) (by omega); have h7 := tn (x := x1) (by omega); omega), (by (try dsimp only); rw [tn1']; rfl)⟩⟩
            obtain ⟨kk, xx, nn, g8, g9, g10, g11⟩ := x9
            obtain ⟨hl, hP, hD, hS, hinv⟩ := hI
            have hl : lv_has ls 5 [(4, .int kk), (3, .int xx), (0, .ref h0), (1, .int x1)] := hl
            have hP : va_P D vwCl [(h0, .inr (10, (Value.int (q 0) :: Value.int (q 1) :: Value.int (q 2) :: Value.int (q 3) :: Value.int (q 4) :: Value.int (q 5) :: Value.int (q 6) :: Value.int nn :: Value.ref (a 8) :: Value.ref (a 9) :: Value.ref (a 10) :: Value.ref (a 11) :: Value.ref (a 12) :: Value.ref (a 13) :: Value.int (q 14) :: Value.long v :: Value.long w :: Value.ref (a 17) :: Value.ref (a 18) :: Value.ref (a 19) :: Value.ref (a 20) :: Value.ref (a 21) :: Value.ref (a 22) :: Value.ref (a 23) :: Value.int (q 24) :: Value.ref (a 25) :: Value.int (q 26) :: Value.ref (a 27) :: Value.int (q 28) :: Value.int (q 29) :: Value.int (q 30) :: Value.int (q 31) :: Value.int (q 32) :: Value.int (q 33) :: Value.ref (a 34) :: Value.ref (a 35) :: Value.ref (a 36) :: Value.ref (a 37) :: Value.ref (a 38) :: Value.ref (a 39) :: Value.ref (a 40) :: Value.int (q 41) :: Value.ref (a 42) :: Value.int (q 43) :: Value.int (q 44) :: []))), ((a 8), .inl (T 0, 24, .inl g8)), ((a 9), .inl (T 0, 24, .inl g9)), ((a 10), .inl (T 0, 24, .inl g10)), ((a 11), .inl (T 0, 24, .inl g11)), ((a 12), .inl (T 0, 36, .inl f12)), ((a 13), .inl (T 0, 3, .inl f13))] H := hP
            have hD : va_D A [(h0, .inr (10, (Value.int (q 0) :: Value.int (q 1) :: Value.int (q 2) :: Value.int (q 3) :: Value.int (q 4) :: Value.int (q 5) :: Value.int (q 6) :: Value.int nn :: Value.ref (a 8) :: Value.ref (a 9) :: Value.ref (a 10) :: Value.ref (a 11) :: Value.ref (a 12) :: Value.ref (a 13) :: Value.int (q 14) :: Value.long v :: Value.long w :: Value.ref (a 17) :: Value.ref (a 18) :: Value.ref (a 19) :: Value.ref (a 20) :: Value.ref (a 21) :: Value.ref (a 22) :: Value.ref (a 23) :: Value.int (q 24) :: Value.ref (a 25) :: Value.int (q 26) :: Value.ref (a 27) :: Value.int (q 28) :: Value.int (q 29) :: Value.int (q 30) :: Value.int (q 31) :: Value.int (q 32) :: Value.int (q 33) :: Value.ref (a 34) :: Value.ref (a 35) :: Value.ref (a 36) :: Value.ref (a 37) :: Value.ref (a 38) :: Value.ref (a 39) :: Value.ref (a 40) :: Value.int (q 41) :: Value.ref (a 42) :: Value.int (q 43) :: Value.int (q 44) :: []))), ((a 8), .inl (T 0, 24, .inl g8)), ((a 9), .inl (T 0, 24, .inl g9)), ((a 10), .inl (T 0, 24, .inl g10)), ((a 11), .inl (T 0, 24, .inl g11)), ((a 12), .inl (T 0, 36, .inl f12)), ((a 13), .inl (T 0, 3, .inl f13))] := hD
            have hinv : ((1 ≤ kk.toInt ∧ kk.toInt ≤ (f13 (x1.toNatClampNeg)).toInt) ∧ nn.toInt = (q 7).toInt + kk.toInt - 1 ∧ 0 ≤ xx.toInt ∧ xx.toInt < nn.toInt) ∧ okR g8 g10 g11 ∧ xx = (sumF (fun i => f12 (12 * x1.toNatClampNeg + i)) (rfA (q 7) f8 f9 f10 f11) (kk.toNatClampNeg - 1)).1 ∧ rfA nn g8 g9 g10 g11 = (sumF (fun i => f12 (12 * x1.toNatClampNeg + i)) (rfA (q 7) f8 f9 f10 f11) (kk.toNatClampNeg - 1)).2 := hinv
            obtain ⟨hkk, hokR, hsx, hsA⟩ := hinv
            refine lv_iload hx hb dX13_sum_101 (lv_at hl 0 rfl) ?_
            refine lv_aload_n hx hb dX13_sum_103 rfl (lv_at hl 2 rfl) ?_
            refine va_get (D := D) (ci := 10) (v := .ref (a 13)) (C := RX13) (T := TX13) (N := 45) hx hb hts in_X13_sum_X13 hown hE.1 hP 0 rfl rfl 13 (by decide +kernel) (hts (.fieldLink RX13 44 "ClauseBookModel" "bagged" "[I") (List.mem_of_getElem? (i := 1) rfl)) (fun _ h9 => h9) rfl dX13_sum_104 ?_
            refine lv_iload_n hx hb dX13_sum_107 rfl (lv_at hl 3 rfl) ?_
            refine va_iald hx hb hE.1 hP 6 0 rfl rfl (by rw [vp_in_iff]; first | omega | (rw [fb_addI (by omega) (by omega)]; omega)) dX13_sum_108 ?_
            refine lv_topi (fun z_11 ez_11 => ?_)
            have hbz_11 : 0 ≤ z_11.toInt ∧ z_11.toInt ≤ 12 := by rw [ez_11]; exact hbg _ (tn3 (by omega) (by omega))
            have htz_11 : z_11.toInt = (f13 (x1.toNatClampNeg)).toInt := by rw [ez_11]
            refine lv_icmp_ge (tgt := 138) hx hb dX13_sum_109 (by decide +kernel) (fun c_12 => ?_) (fun c_12 => ?_)
            · rw [fa_le] at c_12
              have hkb : kk.toNatClampNeg = (f13 x1.toNatClampNeg).toNatClampNeg := congrArg Int32.toNatClampNeg (Int32.toInt_inj.1 (by omega))
              refine lv_iload_n hx hb dX13_sum_138 rfl (lv_at hl 1 rfl) ?_
              exact W.iret hx hb hr (fun t ht hW => ⟨⟨_, (nn, g8, g9, g10, g11), rfl, ⟨(show okR g8 g10 g11 from hokR), (show 0 ≤ nn.toInt ∧ nn.toInt ≤ 24 from (by first | omega | (subst_vars; omega))), (show sumR (q 7) xx nn (f13 x1.toNatClampNeg) (fun i => f12 (12 * x1.toNatClampNeg + i)) f8 f9 f10 f11 g8 g9 g10 g11 (¬ (0 ≤ x1.toInt ∧ x1.toInt ≤ 2)) from (Or.inr (Or.inr (Or.inr ⟨(fun h9 => h9 (by omega)), hsN, (by omega), (by rw [hkb] at hsx; exact hsx), (by rw [hkb] at hsA; exact hsA)⟩))))⟩, by rw [ht]; exact hP.sub [0, 1, 2, 3, 4, 5, 6] rfl, hD.sub [0, 1, 2, 3, 4, 5, 6] (by decide +kernel) rfl⟩, hS.F ht⟩) hS.2.2 dX13_sum_139
            · rw [fa_le] at c_12
              refine lv_aload_n hx hb dX13_sum_112 rfl (lv_at hl 2 rfl) ?_
              refine lv_iconst (v := 5) hx hb dX13_sum_113 (by decide +kernel) ?_
              refine lv_iconst (v := 0) hx hb dX13_sum_114 (by decide +kernel) ?_
              refine lv_iload_n hx hb dX13_sum_115 rfl (lv_at hl 1 rfl) ?_
              refine lv_aload_n hx hb dX13_sum_116 rfl (lv_at hl 2 rfl) ?_
              refine va_get (D := D) (ci := 10) (v := .ref (a 12)) (C := RX13) (T := TX13) (N := 45) hx hb hts in_X13_sum_X13 hown hE.1 hP 0 rfl rfl 12 (by decide +kernel) (hts (.fieldLink RX13 41 "ClauseBookModel" "bag" "[I") (List.mem_of_getElem? (i := 2) rfl)) (fun _ h9 => h9) rfl dX13_sum_117 ?_
              refine lv_bipush (v := 12) hx hb dX13_sum_120 (by decide +kernel) ?_
              refine lv_iload_n hx hb dX13_sum_122 rfl (lv_at hl 3 rfl) ?_
              refine lv_imul hx hb dX13_sum_123 ?_
              refine lv_iload hx hb dX13_sum_124 (lv_at hl 0 rfl) ?_
              refine lv_iadd hx hb dX13_sum_126 ?_
              refine va_iald hx hb hE.1 hP 5 0 rfl rfl (by rw [vp_in_iff]; first | omega | (rw [fb_addI (by omega) (by omega)]; omega)) dX13_sum_127 ?_
              refine lv_topi (fun z_13 ez_13 => ?_)
              have hyz_13 : 0 ≤ z_13.toInt ∧ z_13.toInt < (q 7).toInt := by
                have h8 := tn (x := kk) (by omega)
                rw [ez_13, ix_nat (n := 0) (m := 0) (z := 0) (by omega) (by omega)]
                exact hal.2 _ (by omega)
              have hyg : z_13 = (fun i => f12 (12 * x1.toNatClampNeg + i)) kk.toNatClampNeg := by show z_13 = f12 (12 * x1.toNatClampNeg + kk.toNatClampNeg); rw [ez_13, ix12 (by omega) (by omega)]
              have hFc := va_free (wc := [(h0, .inr (10, (Value.int (q 0) :: Value.int (q 1) :: Value.int (q 2) :: Value.int (q 3) :: Value.int (q 4) :: Value.int (q 5) :: Value.int (q 6) :: Value.int nn :: Value.ref (a 8) :: Value.ref (a 9) :: Value.ref (a 10) :: Value.ref (a 11) :: Value.ref (a 12) :: Value.ref (a 13) :: Value.int (q 14) :: Value.long v :: Value.long w :: Value.ref (a 17) :: Value.ref (a 18) :: Value.ref (a 19) :: Value.ref (a 20) :: Value.ref (a 21) :: Value.ref (a 22) :: Value.ref (a 23) :: Value.int (q 24) :: Value.ref (a 25) :: Value.int (q 26) :: Value.ref (a 27) :: Value.int (q 28) :: Value.int (q 29) :: Value.int (q 30) :: Value.int (q 31) :: Value.int (q 32) :: Value.int (q 33) :: Value.ref (a 34) :: Value.ref (a 35) :: Value.ref (a 36) :: Value.ref (a 37) :: Value.ref (a 38) :: Value.ref (a 39) :: Value.ref (a 40) :: Value.int (q 41) :: Value.ref (a 42) :: Value.int (q 43) :: Value.int (q 44) :: []))), ((a 8), .inl (T 0, 24, .inl g8)), ((a 9), .inl (T 0, 24, .inl g9)), ((a 10), .inl (T 0, 24, .inl g10)), ((a 11), .inl (T 0, 24, .inl g11))]) hD hS hA [0, 1, 2, 3, 4] rfl
              refine va_calli (va_runV (As := [.int 5, .int 0, .int xx, .int z_13]) (rest := []) ⟨hx, hb, hml, hown, hts⟩ (c_X13_comes l D T _ h0 (fun k => cond (Nat.beq k 7) nn (q k)) v w a g8 g9 g10 g11 5 0 xx z_13 (show 0 ≤ nn.toInt ∧ nn.toInt < 24 from (by omega)) (show okR g8 g10 g11 from hokR) (show 0 ≤ (5 : Int32).toInt ∧ (5 : Int32).toInt ≤ 12 from (by decide +kernel)) (show 1 ≤ (nmT ((5 : Int32).toNatClampNeg)).toInt → 0 ≤ xx.toInt ∧ xx.toInt < nn.toInt from (fun _ => by omega)) (show (nmT ((5 : Int32).toNatClampNeg)).toInt = 2 → 0 ≤ z_13.toInt ∧ z_13.toInt < nn.toInt from (fun _ => by omega))) (cwV 4 hts gX13_sum_X13_comes rfl rfl rfl hv_X13_comes ⟨Nat.le_of_ble_eq_true rfl, Nat.le_of_ble_eq_true rfl⟩) (pW_V (q := (RX13, TX13, 45)) (ci := 10) (q0 := 0) hP hE hD rfl rfl [0, 1, 2, 3, 4] (by decide +kernel) rfl rfl) rfl rfl hl.1 rfl (lv_room (Nat.le_of_ble_eq_true rfl)) dX13_sum_128 ⟨Nat.le_of_ble_eq_true rfl, Nat.le_of_ble_eq_true rfl⟩) hS (fun q _ h => hFc q h) hFc (fun r_14 u_15 t H1 locs ht hvm hr_14 hB hz1 hk1 hS => ?_)
              obtain ⟨n_16, f_17, f_18, f_19, f_20⟩ := u_15
              obtain ⟨hi0_r_14, hi1_r_14, hi2_r_14⟩ := hr_14
              have hokR : okR f_17 f_19 f_20 := hi0_r_14
              have hcr : r_14.toInt = nn.toInt ∧ n_16.toInt = nn.toInt + 1 := hi1_r_14
              have hcm : f_17 = upd g8 (nn.toNatClampNeg) (5 : Int32) ∧ f_18 = upd g9 (nn.toNatClampNeg) (0 : Int32) ∧ f_19 = upd g10 (nn.toNatClampNeg) xx ∧ f_20 = upd g11 (nn.toNatClampNeg) z_13 := hi2_r_14
              obtain ⟨hP1, hD1⟩ := hB
              rw [ht] at hP1
              obtain ⟨hP, hD⟩ := va_repl [(h0, .inr (10, (Value.int (q 0) :: Value.int (q 1) :: Value.int (q 2) :: Value.int (q 3) :: Value.int (q 4) :: Value.int (q 5) :: Value.int (q 6) :: Value.int n_16 :: Value.ref (a 8) :: Value.ref (a 9) :: Value.ref (a 10) :: Value.ref (a 11) :: Value.ref (a 12) :: Value.ref (a 13) :: Value.int (q 14) :: Value.long v :: Value.long w :: Value.ref (a 17) :: Value.ref (a 18) :: Value.ref (a 19) :: Value.ref (a 20) :: Value.ref (a 21) :: Value.ref (a 22) :: Value.ref (a 23) :: Value.int (q 24) :: Value.ref (a 25) :: Value.int (q 26) :: Value.ref (a 27) :: Value.int (q 28) :: Value.int (q 29) :: Value.int (q 30) :: Value.int (q 31) :: Value.int (q 32) :: Value.int (q 33) :: Value.ref (a 34) :: Value.ref (a 35) :: Value.ref (a 36) :: Value.ref (a 37) :: Value.ref (a 38) :: Value.ref (a 39) :: Value.ref (a 40) :: Value.int (q 41) :: Value.ref (a 42) :: Value.int (q 43) :: Value.int (q 44) :: []))), ((a 8), .inl (T 0, 24, .inl f_17)), ((a 9), .inl (T 0, 24, .inl f_18)), ((a 10), .inl (T 0, 24, .inl f_19)), ((a 11), .inl (T 0, 24, .inl f_20)), ((a 12), .inl (T 0, 36, .inl f12)), ((a 13), .inl (T 0, 3, .inl f13))] hP hD [0, 1, 2, 3, 4] [0, 1, 2, 3, 4] rfl (by decide +kernel) rfl rfl rfl hk1 hP1
              clear hP1 hD1 hFc
              generalize H1 = H at hP hS ⊢
              refine lv_istore_n (lv' := [(3, .int r_14), (4, .int kk), (0, .ref h0), (1, .int x1)]) hx hb dX13_sum_131 rfl hl (by decide +kernel) rfl (fun ls hl => ?_)
              obtain ⟨z_21, ez_21⟩ : ∃ y : Int32, y = kk + 1 := ⟨_, rfl⟩
              refine lv_iinc (v := z_21) (lv' := [(4, .int z_21), (3, .int r_14), (0, .ref h0), (1, .int x1)]) hx hb dX13_sum_132 hl (k := 1) rfl (by rw [ez_21]; rfl) (by decide +kernel) rfl (fun ls hl => ?_)
              have hi9 : z_21.toInt = kk.toInt + 1 := by rw [ez_21]; exact inc1 (n := 1000) (by omega) (by decide +kernel)
              refine lv_goto (tgt := 101) hx hb dX13_sum_135 (by decide +kernel) ?_
              exact ih (z_21, r_14, n_16, f_17, f_18, f_19, f_20) ls _ _ ⟨lv_sub hl [0, 1, 2, 3] rfl, hP.sub [0, 1, 2, 3, 4, 5, 6] rfl, hD.sub [0, 1, 2, 3, 4, 5, 6] (by decide +kernel) rfl, hS, ⟨(by (try dsimp only); omega), hokR, (by (try dsimp only); exact (sum_stepM (by omega) hi9 (by omega) hsx hsA hyg hcr.1 hcr.2 hcm).1), (by (try dsimp only); exact (sum_stepM (by omega) hi9 (by omega) hsx hsA hyg hcr.1 hcr.2 hcm).2)⟩⟩ (by (try dsimp only); omega)
          · rw [fa_le] at c_9
            try rw [ti_24] at c_9
            refine lv_bipush (v := (-4)) hx hb dX13_sum_85 (by decide +kernel) ?_
            exact W.iret hx hb hr (fun t ht hW => ⟨⟨_, ((q 7), f8, f9, f10, f11), rfl, ⟨(show okR f8 f10 f11 from hokR), (show 0 ≤ (q 7).toInt ∧ (q 7).toInt ≤ 24 from (by first | omega | (subst_vars; omega))), (show sumR (q 7) ((-4) : Int32) (q 7) (f13 x1.toNatClampNeg) (fun i => f12 (12 * x1.toNatClampNeg + i)) f8 f9 f10 f11 f8 f9 f10 f11 (¬ (0 ≤ x1.toInt ∧ x1.toInt ≤ 2)) from (Or.inr (Or.inr (Or.inl ⟨(fun h9 => h9 (by omega)), hsN, (by omega), (by decide +kernel), ⟨rfl, rfl, rfl, rfl, rfl⟩⟩))))⟩, by rw [ht]; exact hP.sub [0, 1, 2, 3, 4, 5, 6] rfl, hD.sub [0, 1, 2, 3, 4, 5, 6] (by decide +kernel) rfl⟩, hS.F ht⟩) hS.2.2 dX13_sum_87
        · rw [fa_eq] at c_7
          try rw [ti_0] at c_7
          refine lv_iconst (v := (-1)) hx hb dX13_sum_65 (by decide +kernel) ?_
          exact W.iret hx hb hr (fun t ht hW => ⟨⟨_, ((q 7), f8, f9, f10, f11), rfl, ⟨(show okR f8 f10 f11 from hokR), (show 0 ≤ (q 7).toInt ∧ (q 7).toInt ≤ 24 from (by first | omega | (subst_vars; omega))), (show sumR (q 7) ((-1) : Int32) (q 7) (f13 x1.toNatClampNeg) (fun i => f12 (12 * x1.toNatClampNeg + i)) f8 f9 f10 f11 f8 f9 f10 f11 (¬ (0 ≤ x1.toInt ∧ x1.toInt ≤ 2)) from (Or.inr (Or.inl ⟨(fun h9 => h9 (by omega)), hnz (by omega), (by decide +kernel), ⟨rfl, rfl, rfl, rfl, rfl⟩⟩)))⟩, by rw [ht]; exact hP.sub [0, 1, 2, 3, 4, 5, 6] rfl, hD.sub [0, 1, 2, 3, 4, 5, 6] (by decide +kernel) rfl⟩, hS.F ht⟩) hS.2.2 dX13_sum_66
      · rw [fa_le] at c_6
        refine lv_iload_n hx hb dX13_sum_37 rfl (lv_at hl 1 rfl) ?_
        refine lv_aload_n hx hb dX13_sum_38 rfl (lv_at hl 2 rfl) ?_
        refine lv_aload_n hx hb dX13_sum_39 rfl (lv_at hl 2 rfl) ?_
        refine va_get (D := D) (ci := 10) (v := .ref (a 12)) (C := RX13) (T := TX13) (N := 45) hx hb hts in_X13_sum_X13 hown hE.1 hP 0 rfl rfl 12 (by decide +kernel) (hts (.fieldLink RX13 41 "ClauseBookModel" "bag" "[I") (List.mem_of_getElem? (i := 2) rfl)) (fun _ h9 => h9) rfl dX13_sum_40 ?_
        refine lv_bipush (v := 12) hx hb dX13_sum_43 (by decide +kernel) ?_
        refine lv_iload_n hx hb dX13_sum_45 rfl (lv_at hl 3 rfl) ?_
        refine lv_imul hx hb dX13_sum_46 ?_
        refine lv_iload_n hx hb dX13_sum_47 rfl (lv_at hl 0 rfl) ?_
        refine lv_iadd hx hb dX13_sum_48 ?_
        refine va_iald hx hb hE.1 hP 5 0 rfl rfl (by rw [vp_in_iff]; first | omega | (rw [fb_addI (by omega) (by omega)]; omega)) dX13_sum_49 ?_
        refine lv_topi (fun z_22 ez_22 => ?_)
        refine vp_callSi (W.runV (As := [.int z_22]) (rest := [.int ar]) ⟨hx, hb, hml, hown, hts⟩ (c_X13_isClause l D T h0 [.int (q 0), .int (q 1), .int (q 2), .int (q 3), .int (q 4), .int (q 5), .int (q 6), .int (q 7), .ref (a 8), .ref (a 9), .ref (a 10), .ref (a 11), .ref (a 12), .ref (a 13), .int (q 14), .long v, .long w, .ref (a 17), .ref (a 18), .ref (a 19), .ref (a 20), .ref (a 21), .ref (a 22), .ref (a 23), .int (q 24), .ref (a 25), .int (q 26), .ref (a 27), .int (q 28), .int (q 29), .int (q 30), .int (q 31), .int (q 32), .int (q 33), .ref (a 34), .ref (a 35), .ref (a 36), .ref (a 37), .ref (a 38), .ref (a 39), .ref (a 40), .int (q 41), .ref (a 42), .int (q 43), .int (q 44)] z_22 (q 7) rfl (by omega)) (cwV 1 hts gX13_sum_X13_isClause rfl rfl rfl hv_X13_isClause ⟨Nat.le_of_ble_eq_true rfl, Nat.le_of_ble_eq_true rfl⟩) (pR_V (q := (RX13, TX13, 45)) (ci := 10) (q0 := 0) hP hE rfl rfl [0] rfl) rfl rfl hl.1 rfl (lv_room (Nat.le_of_ble_eq_true rfl)) dX13_sum_50 ⟨Nat.le_of_ble_eq_true rfl, Nat.le_of_ble_eq_true rfl⟩) (fun r_23 hr_23 => ?_)
        rcases bool_post hr_23 with ⟨c_24, rfl⟩ | ⟨c_24, rfl⟩
        · refine lv_iand hx hb dX13_sum_53 ?_
          refine lv_topi (fun z_25 ez_25 => ?_)
          have hzz_25 : z_25 = ar := by rw [ez_25]; exact isB.and1 hBa
          refine lv_istore_n (lv' := [(2, .int z_25), (3, .int ii), (0, .ref h0), (1, .int x1)]) hx hb dX13_sum_54 rfl hl (by decide +kernel) rfl (fun ls hl => ?_)
          obtain ⟨z_26, ez_26⟩ : ∃ y : Int32, y = ii + 1 := ⟨_, rfl⟩
          refine lv_iinc (v := z_26) (lv' := [(3, .int z_26), (2, .int z_25), (0, .ref h0), (1, .int x1)]) hx hb dX13_sum_55 hl (k := 1) rfl (by rw [ez_26]; rfl) (by decide +kernel) rfl (fun ls hl => ?_)
          have hi9 : z_26.toInt = ii.toInt + 1 := by rw [ez_26]; exact inc1 (n := 1000) (by omega) (by decide +kernel)
          refine lv_goto (tgt := 27) hx hb dX13_sum_58 (by decide +kernel) ?_
          exact ih (z_26, z_25) ls ⟨lv_sub hl [0, 1, 2, 3] rfl, ⟨(by subst_vars; (try dsimp only); rw [inc1 (i := ii) (n := 1000) (by omega) (by decide +kernel)]; omega), (by (try dsimp only); rw [hzz_25]; exact hBa), (by (try dsimp only); rw [hzz_25]; exact hnz), (by (try dsimp only); rw [hzz_25]; exact fun h9 => ⟨(hal h9).1, sum_stepR (z := z_22) (hal h9).2 hi9 (by omega) (by rw [ez_22]; exact congrArg f12 (ix_nat (n := 0) (m := 0) (z := 0) (by omega) (by omega))) (by omega)⟩)⟩⟩ (by subst_vars; (try dsimp only); rw [inc1 (i := ii) (n := 1000) (by omega) (by decide +kernel)]; omega)
        · refine lv_iand hx hb dX13_sum_53 ?_
          refine lv_topi (fun z_27 ez_27 => ?_)
          have hzz_27 : z_27 = 0 := by rw [ez_27]; exact and_0 hBa
          refine lv_istore_n (lv' := [(2, .int z_27), (3, .int ii), (0, .ref h0), (1, .int x1)]) hx hb dX13_sum_54 rfl hl (by decide +kernel) rfl (fun ls hl => ?_)
          obtain ⟨z_28, ez_28⟩ : ∃ y : Int32, y = ii + 1 := ⟨_, rfl⟩
          refine lv_iinc (v := z_28) (lv' := [(3, .int z_28), (2, .int z_27), (0, .ref h0), (1, .int x1)]) hx hb dX13_sum_55 hl (k := 1) rfl (by rw [ez_28]; rfl) (by decide +kernel) rfl (fun ls hl => ?_)
          have hi9 : z_28.toInt = ii.toInt + 1 := by rw [ez_28]; exact inc1 (n := 1000) (by omega) (by decide +kernel)
          refine lv_goto (tgt := 27) hx hb dX13_sum_58 (by decide +kernel) ?_
          exact ih (z_28, z_27) ls ⟨lv_sub hl [0, 1, 2, 3] rfl, ⟨(by subst_vars; (try dsimp only); rw [inc1 (i := ii) (n := 1000) (by omega) (by decide +kernel)]; omega), (by (try dsimp only); rw [hzz_27]; exact isB0), (fun _ h8 => by
                                                            have h7 := h8.2 ii.toNatClampNeg (by have h6 := tn (x := ii) (by omega); omega)
                                                            have h7 : 0 ≤ (f12 (12 * x1.toNatClampNeg + ii.toNatClampNeg)).toInt ∧ (f12 (12 * x1.toNatClampNeg + ii.toNatClampNeg)).toInt < (q 7).toInt := h7
                                                            rw [← ix12 (b := x1) (z := ii) (by omega) (by omega), ← ez_22] at h7
                                                            omega), (by (try dsimp only); rw [hzz_27]; exact fun h9 => absurd (by decide +kernel) h9)⟩⟩ (by subst_vars; (try dsimp only); rw [inc1 (i := ii) (n := 1000) (by omega) (by decide +kernel)]; omega)
    · rw [fa_le] at c_4
      try rw [ti_0] at c_4
      refine lv_iconst (v := 1) hx hb dX13_sum_19 (by decide +kernel) ?_
      refine lv_goto (tgt := 24) hx hb dX13_sum_20 (by decide +kernel) ?_
      refine lv_istore_n (lv' := [(2, .int 1), (0, .ref h0), (1, .int x1)]) hx hb dX13_sum_24 rfl hl (by decide +kernel) rfl (fun ls hl => ?_)
      refine lv_iconst (v := 0) hx hb dX13_sum_25 (by decide +kernel) ?_
      refine lv_istore_n (lv' := [(3, .int 0), (2, .int 1), (0, .ref h0), (1, .int x1)]) hx hb dX13_sum_26 rfl hl (by decide +kernel) rfl (fun ls hl => ?_)
      refine loopR (σ := (Int32) × (Int32)) (fun x9 ls => lv_has ls 5 [(3, .int x9.1), (2, .int x9.2), (0, .ref h0), (1, .int x1)] ∧ ((0 ≤ x9.1.toInt ∧ x9.1.toInt ≤ 12 ∧ x9.1.toInt ≤ (f13 (x1.toNatClampNeg)).toInt) ∧ isB x9.2 ∧ (x9.2.toInt = 0 → ¬ sumN (q 7) (f13 x1.toNatClampNeg) (fun i => f12 (12 * x1.toNatClampNeg + i))) ∧ (x9.2.toInt ≠ 0 → 1 ≤ (f13 (x1.toNatClampNeg)).toInt ∧ ∀ j : Nat, (j : Int) < x9.1.toInt → 0 ≤ (f12 ((12 * x1).toNatClampNeg + j)).toInt ∧ (f12 ((12 * x1).toNatClampNeg + j)).toInt < (q 7).toInt))) (fun x9 => (12 - x9.1.toInt).toNat) (fun x9 ls hI ih => ?_) (0, 1) ls ⟨lv_sub hl [0, 1, 2, 3] rfl, ⟨(by (try dsimp only); simp only [ti_0]; omega), isB1, (fun h9 h8 => by first | exact absurd h9 (by (try dsimp only); decide) | (have h7 : 1 ≤ (f13 (x1.toNatClampNeg)).toInt := h8.1; omega)), (fun h9 => ⟨(by first | omega | exact absurd h9 (by (try dsimp only); decide)), fun j hj => absurd hj (by (try dsimp only); rw [ti_0]; omega)⟩)⟩⟩
      obtain ⟨ii, ar⟩ := x9
      obtain ⟨hl, hinv⟩ := hI
      have hl : lv_has ls 5 [(3, .int ii), (2, .int ar), (0, .ref h0), (1, .int x1)] := hl
      have hinv : (0 ≤ ii.toInt ∧ ii.toInt ≤ 12 ∧ ii.toInt ≤ (f13 (x1.toNatClampNeg)).toInt) ∧ isB ar ∧ (ar.toInt = 0 → ¬ sumN (q 7) (f13 x1.toNatClampNeg) (fun i => f12 (12 * x1.toNatClampNeg + i))) ∧ (ar.toInt ≠ 0 → 1 ≤ (f13 (x1.toNatClampNeg)).toInt ∧ ∀ j : Nat, (j : Int) < ii.toInt → 0 ≤ (f12 ((12 * x1).toNatClampNeg + j)).toInt ∧ (f12 ((12 * x1).toNatClampNeg + j)).toInt < (q 7).toInt) := hinv
      obtain ⟨hii, hBa, hnz, hal⟩ := hinv
      have h12x1 : (12 * x1).toInt = 12 * x1.toInt := by rw [fb_mulI (by rw [ti_12]; omega) (by rw [ti_12]; omega), ti_12]
      refine lv_iload_n hx hb dX13_sum_27 rfl (lv_at hl 0 rfl) ?_
      refine lv_aload_n hx hb dX13_sum_28 rfl (lv_at hl 2 rfl) ?_
      refine va_get (D := D) (ci := 10) (v := .ref (a 13)) (C := RX13) (T := TX13) (N := 45) hx hb hts in_X13_sum_X13 hown hE.1 hP 0 rfl rfl 13 (by decide +kernel) (hts (.fieldLink RX13 44 "ClauseBookModel" "bagged" "[I") (List.mem_of_getElem? (i := 1) rfl)) (fun _ h9 => h9) rfl dX13_sum_29 ?_
      refine lv_iload_n hx hb dX13_sum_32 rfl (lv_at hl 3 rfl) ?_
      refine va_iald hx hb hE.1 hP 6 0 rfl rfl (by rw [vp_in_iff]; first | omega | (rw [fb_addI (by omega) (by omega)]; omega)) dX13_sum_33 ?_
      refine lv_topi (fun z_29 ez_29 => ?_)
      have hbz_29 : 0 ≤ z_29.toInt ∧ z_29.toInt ≤ 12 := by rw [ez_29]; exact hbg _ (tn3 (by omega) (by omega))
      have htz_29 : z_29.toInt = (f13 (x1.toNatClampNeg)).toInt := by rw [ez_29]
      refine lv_icmp_ge (tgt := 61) hx hb dX13_sum_34 (by decide +kernel) (fun c_30 => ?_) (fun c_30 => ?_)
      · rw [fa_le] at c_30
        refine lv_iload_n hx hb dX13_sum_61 rfl (lv_at hl 1 rfl) ?_
        refine lv_if_ne (tgt := 67) hx hb dX13_sum_62 (by decide +kernel) (fun c_31 => ?_) (fun c_31 => ?_)
        · rw [fa_eq] at c_31
          try rw [ti_0] at c_31
          have hal := hal (by omega)
          have hsN : sumN (q 7) (f13 x1.toNatClampNeg) (fun i => f12 (12 * x1.toNatClampNeg + i)) := ⟨hal.1, (fun j hj => by
              have h8 := hal.2 j (by omega)
              have h7 := tn (x := (12 * x1)) (by omega)
              have h6 := tn (x := x1) (by omega)
              rw [show (12 * x1).toNatClampNeg = 12 * x1.toNatClampNeg by omega] at h8
              exact h8)⟩
          refine lv_aload_n hx hb dX13_sum_67 rfl (lv_at hl 2 rfl) ?_
          refine va_get (D := D) (ci := 10) (v := .int (q 7)) (C := RX13) (T := TX13) (N := 45) hx hb hts in_X13_sum_X13 hown hE.1 hP 0 rfl rfl 7 (by decide +kernel) (hts (.fieldLink RX13 205 "ClauseBookModel" "many" "I") (List.mem_of_getElem? (i := 3) rfl)) (fun _ h9 => h9) rfl dX13_sum_68 ?_
          refine lv_aload_n hx hb dX13_sum_71 rfl (lv_at hl 2 rfl) ?_
          refine va_get (D := D) (ci := 10) (v := .ref (a 13)) (C := RX13) (T := TX13) (N := 45) hx hb hts in_X13_sum_X13 hown hE.1 hP 0 rfl rfl 13 (by decide +kernel) (hts (.fieldLink RX13 44 "ClauseBookModel" "bagged" "[I") (List.mem_of_getElem? (i := 1) rfl)) (fun _ h9 => h9) rfl dX13_sum_72 ?_
          refine lv_iload_n hx hb dX13_sum_75 rfl (lv_at hl 3 rfl) ?_
          refine va_iald hx hb hE.1 hP 6 0 rfl rfl (by rw [vp_in_iff]; first | omega | (rw [fb_addI (by omega) (by omega)]; omega)) dX13_sum_76 ?_
          refine lv_topi (fun z_32 ez_32 => ?_)
          have hbz_32 : 0 ≤ z_32.toInt ∧ z_32.toInt ≤ 12 := by rw [ez_32]; exact hbg _ (tn3 (by omega) (by omega))
          have htz_32 : z_32.toInt = (f13 (x1.toNatClampNeg)).toInt := by rw [ez_32]
          refine lv_iadd hx hb dX13_sum_77 ?_
          refine lv_iconst (v := 1) hx hb dX13_sum_78 (by decide +kernel) ?_
          refine lv_isub hx hb dX13_sum_79 ?_
          have hs9 : ((q 7) + z_32).toInt = (q 7).toInt + z_32.toInt := fb_addI (by omega) (by omega)
          have hs8 := dec1 (i := (q 7) + z_32) (by omega)
          refine lv_bipush (v := 24) hx hb dX13_sum_80 (by decide +kernel) ?_
          refine lv_icmp_le (tgt := 88) hx hb dX13_sum_82 (by decide +kernel) (fun c_33 => ?_) (fun c_33 => ?_)
          · rw [fa_le] at c_33
            try rw [ti_24] at c_33
            have h12x1 : (12 * x1).toInt = 12 * x1.toInt := by rw [fb_mulI (by rw [ti_12]; omega) (by rw [ti_12]; omega), ti_12]
            refine lv_aload_n hx hb dX13_sum_88 rfl (lv_at hl 2 rfl) ?_
            refine va_get (D := D) (ci := 10) (v := .ref (a 12)) (C := RX13) (T := TX13) (N := 45) hx hb hts in_X13_sum_X13 hown hE.1 hP 0 rfl rfl 12 (by decide +kernel) (hts (.fieldLink RX13 41 "ClauseBookModel" "bag" "[I") (List.mem_of_getElem? (i := 2) rfl)) (fun _ h9 => h9) rfl dX13_sum_89 ?_
            refine lv_bipush (v := 12) hx hb dX13_sum_92 (by decide +kernel) ?_
            refine lv_iload_n hx hb dX13_sum_94 rfl (lv_at hl 3 rfl) ?_
            refine lv_imul hx hb dX13_sum_95 ?_
            refine va_iald hx hb hE.1 hP 5 0 rfl rfl (by rw [vp_in_iff]; first | omega | (rw [fb_addI (by omega) (by omega)]; omega)) dX13_sum_96 ?_
            refine lv_topi (fun z_34 ez_34 => ?_)
            have hxz_34 : 0 ≤ z_34.toInt ∧ z_34.toInt < (q 7).toInt := by rw [ez_34]; exact hal.2 0 (by omega)
            refine lv_istore_n (lv' := [(3, .int z_34), (2, .int ar), (0, .ref h0), (1, .int x1)]) hx hb dX13_sum_97 rfl hl (by decide +kernel) rfl (fun ls hl => ?_)
            refine lv_iconst (v := 1) hx hb dX13_sum_98 (by decide +kernel) ?_
            refine lv_istore (lv' := [(4, .int 1), (3, .int z_34), (2, .int ar), (0, .ref h0), (1, .int x1)]) hx hb dX13_sum_99 hl (by decide +kernel) rfl (fun ls hl => ?_)
            refine loopW (σ := (Int32) × (Int32) × (Int32) × (Nat → Int32) × (Nat → Int32) × (Nat → Int32) × (Nat → Int32)) (fun x9 ls H locs => lv_has ls 5 [(4, .int x9.1), (3, .int x9.2.1), (0, .ref h0), (1, .int x1)] ∧ va_P D vwCl [(h0, .inr (10, (Value.int (q 0) :: Value.int (q 1) :: Value.int (q 2) :: Value.int (q 3) :: Value.int (q 4) :: Value.int (q 5) :: Value.int (q 6) :: Value.int x9.2.2.1 :: Value.ref (a 8) :: Value.ref (a 9) :: Value.ref (a 10) :: Value.ref (a 11) :: Value.ref (a 12) :: Value.ref (a 13) :: Value.int (q 14) :: Value.long v :: Value.long w :: Value.ref (a 17) :: Value.ref (a 18) :: Value.ref (a 19) :: Value.ref (a 20) :: Value.ref (a 21) :: Value.ref (a 22) :: Value.ref (a 23) :: Value.int (q 24) :: Value.ref (a 25) :: Value.int (q 26) :: Value.ref (a 27) :: Value.int (q 28) :: Value.int (q 29) :: Value.int (q 30) :: Value.int (q 31) :: Value.int (q 32) :: Value.int (q 33) :: Value.ref (a 34) :: Value.ref (a 35) :: Value.ref (a 36) :: Value.ref (a 37) :: Value.ref (a 38) :: Value.ref (a 39) :: Value.ref (a 40) :: Value.int (q 41) :: Value.ref (a 42) :: Value.int (q 43) :: Value.int (q 44) :: []))), ((a 8), .inl (T 0, 24, .inl x9.2.2.2.1)), ((a 9), .inl (T 0, 24, .inl x9.2.2.2.2.1)), ((a 10), .inl (T 0, 24, .inl x9.2.2.2.2.2.1)), ((a 11), .inl (T 0, 24, .inl x9.2.2.2.2.2.2)), ((a 12), .inl (T 0, 36, .inl f12)), ((a 13), .inl (T 0, 3, .inl f13))] H ∧ va_D A [(h0, .inr (10, (Value.int (q 0) :: Value.int (q 1) :: Value.int (q 2) :: Value.int (q 3) :: Value.int (q 4) :: Value.int (q 5) :: Value.int (q 6) :: Value.int x9.2.2.1 :: Value.ref (a 8) :: Value.ref (a 9) :: Value.ref (a 10) :: Value.ref (a 11) :: Value.ref (a 12) :: Value.ref (a 13) :: Value.int (q 14) :: Value.long v :: Value.long w :: Value.ref (a 17) :: Value.ref (a 18) :: Value.ref (a 19) :: Value.ref (a 20) :: Value.ref (a 21) :: Value.ref (a 22) :: Value.ref (a 23) :: Value.int (q 24) :: Value.ref (a 25) :: Value.int (q 26) :: Value.ref (a 27) :: Value.int (q 28) :: Value.int (q 29) :: Value.int (q 30) :: Value.int (q 31) :: Value.int (q 32) :: Value.int (q 33) :: Value.ref (a 34) :: Value.ref (a 35) :: Value.ref (a 36) :: Value.ref (a 37) :: Value.ref (a 38) :: Value.ref (a 39) :: Value.ref (a 40) :: Value.int (q 41) :: Value.ref (a 42) :: Value.int (q 43) :: Value.int (q 44) :: []))), ((a 8), .inl (T 0, 24, .inl x9.2.2.2.1)), ((a 9), .inl (T 0, 24, .inl x9.2.2.2.2.1)), ((a 10), .inl (T 0, 24, .inl x9.2.2.2.2.2.1)), ((a 11), .inl (T 0, 24, .inl x9.2.2.2.2.2.2)), ((a 12), .inl (T 0, 36, .inl f12)), ((a 13), .inl (T 0, 3, .inl f13))] ∧ va_S A s.heap H locs ∧ (((1 ≤ x9.1.toInt ∧ x9.1.toInt ≤ (f13 (x1.toNatClampNeg)).toInt) ∧ x9.2.2.1.toInt = (q 7).toInt + x9.1.toInt - 1 ∧ 0 ≤ x9.2.1.toInt ∧ x9.2.1.toInt < x9.2.2.1.toInt) ∧ okR x9.2.2.2.1 x9.2.2.2.2.2.1 x9.2.2.2.2.2.2 ∧ x9.2.1 = (sumF (fun i => f12 (12 * x1.toNatClampNeg + i)) (rfA (q 7) f8 f9 f10 f11) (x9.1.toNatClampNeg - 1)).1 ∧ rfA x9.2.2.1 x9.2.2.2.1 x9.2.2.2.2.1 x9.2.2.2.2.2.1 x9.2.2.2.2.2.2 = (sumF (fun i => f12 (12 * x1.toNatClampNeg + i)) (rfA (q 7) f8 f9 f10 f11) (x9.1.toNatClampNeg - 1)).2)) (fun x9 => (12 - x9.1.toInt).toNat) (fun x9 ls H locs hI ih => ?_) (1, z_34, (q 7), f8, f9, f10, f11) ls ⟨lv_sub hl [0, 1, 3, 4] rfl, hP.sub [0, 1, 2, 3, 4, 5, 6] rfl, hD.sub [0, 1, 2, 3, 4, 5, 6] (by decide +kernel) rfl, hS, ⟨(by (try dsimp only); rw [ti_1]; omega), hokR, (by (try dsimp only); rw [tn1']; show z_34 = f12 (12 * x1.toNatClampNeg + 0); rw [ez_34]; congr 1; have h8 := tn (x := (12 * x1)) (by omega); have h7 := tn (x := x1) (by omega); omega), (by (try dsimp only); rw [tn1']; rfl)⟩⟩
            obtain ⟨kk, xx, nn, g8, g9, g10, g11⟩ := x9
            obtain ⟨hl, hP, hD, hS, hinv⟩ := hI
            have hl : lv_has ls 5 [(4, .int kk), (3, .int xx), (0, .ref h0), (1, .int x1)] := hl
            have hP : va_P D vwCl [(h0, .inr (10, (Value.int (q 0) :: Value.int (q 1) :: Value.int (q 2) :: Value.int (q 3) :: Value.int (q 4) :: Value.int (q 5) :: Value.int (q 6) :: Value.int nn :: Value.ref (a 8) :: Value.ref (a 9) :: Value.ref (a 10) :: Value.ref (a 11) :: Value.ref (a 12) :: Value.ref (a 13) :: Value.int (q 14) :: Value.long v :: Value.long w :: Value.ref (a 17) :: Value.ref (a 18) :: Value.ref (a 19) :: Value.ref (a 20) :: Value.ref (a 21) :: Value.ref (a 22) :: Value.ref (a 23) :: Value.int (q 24) :: Value.ref (a 25) :: Value.int (q 26) :: Value.ref (a 27) :: Value.int (q 28) :: Value.int (q 29) :: Value.int (q 30) :: Value.int (q 31) :: Value.int (q 32) :: Value.int (q 33) :: Value.ref (a 34) :: Value.ref (a 35) :: Value.ref (a 36) :: Value.ref (a 37) :: Value.ref (a 38) :: Value.ref (a 39) :: Value.ref (a 40) :: Value.int (q 41) :: Value.ref (a 42) :: Value.int (q 43) :: Value.int (q 44) :: []))), ((a 8), .inl (T 0, 24, .inl g8)), ((a 9), .inl (T 0, 24, .inl g9)), ((a 10), .inl (T 0, 24, .inl g10)), ((a 11), .inl (T 0, 24, .inl g11)), ((a 12), .inl (T 0, 36, .inl f12)), ((a 13), .inl (T 0, 3, .inl f13))] H := hP
            have hD : va_D A [(h0, .inr (10, (Value.int (q 0) :: Value.int (q 1) :: Value.int (q 2) :: Value.int (q 3) :: Value.int (q 4) :: Value.int (q 5) :: Value.int (q 6) :: Value.int nn :: Value.ref (a 8) :: Value.ref (a 9) :: Value.ref (a 10) :: Value.ref (a 11) :: Value.ref (a 12) :: Value.ref (a 13) :: Value.int (q 14) :: Value.long v :: Value.long w :: Value.ref (a 17) :: Value.ref (a 18) :: Value.ref (a 19) :: Value.ref (a 20) :: Value.ref (a 21) :: Value.ref (a 22) :: Value.ref (a 23) :: Value.int (q 24) :: Value.ref (a 25) :: Value.int (q 26) :: Value.ref (a 27) :: Value.int (q 28) :: Value.int (q 29) :: Value.int (q 30) :: Value.int (q 31) :: Value.int (q 32) :: Value.int (q 33) :: Value.ref (a 34) :: Value.ref (a 35) :: Value.ref (a 36) :: Value.ref (a 37) :: Value.ref (a 38) :: Value.ref (a 39) :: Value.ref (a 40) :: Value.int (q 41) :: Value.ref (a 42) :: Value.int (q 43) :: Value.int (q 44) :: []))), ((a 8), .inl (T 0, 24, .inl g8)), ((a 9), .inl (T 0, 24, .inl g9)), ((a 10), .inl (T 0, 24, .inl g10)), ((a 11), .inl (T 0, 24, .inl g11)), ((a 12), .inl (T 0, 36, .inl f12)), ((a 13), .inl (T 0, 3, .inl f13))] := hD
            have hinv : ((1 ≤ kk.toInt ∧ kk.toInt ≤ (f13 (x1.toNatClampNeg)).toInt) ∧ nn.toInt = (q 7).toInt + kk.toInt - 1 ∧ 0 ≤ xx.toInt ∧ xx.toInt < nn.toInt) ∧ okR g8 g10 g11 ∧ xx = (sumF (fun i => f12 (12 * x1.toNatClampNeg + i)) (rfA (q 7) f8 f9 f10 f11) (kk.toNatClampNeg - 1)).1 ∧ rfA nn g8 g9 g10 g11 = (sumF (fun i => f12 (12 * x1.toNatClampNeg + i)) (rfA (q 7) f8 f9 f10 f11) (kk.toNatClampNeg - 1)).2 := hinv
            obtain ⟨hkk, hokR, hsx, hsA⟩ := hinv
            refine lv_iload hx hb dX13_sum_101 (lv_at hl 0 rfl) ?_
            refine lv_aload_n hx hb dX13_sum_103 rfl (lv_at hl 2 rfl) ?_
            refine va_get (D := D) (ci := 10) (v := .ref (a 13)) (C := RX13) (T := TX13) (N := 45) hx hb hts in_X13_sum_X13 hown hE.1 hP 0 rfl rfl 13 (by decide +kernel) (hts (.fieldLink RX13 44 "ClauseBookModel" "bagged" "[I") (List.mem_of_getElem? (i := 1) rfl)) (fun _ h9 => h9) rfl dX13_sum_104 ?_
            refine lv_iload_n hx hb dX13_sum_107 rfl (lv_at hl 3 rfl) ?_
            refine va_iald hx hb hE.1 hP 6 0 rfl rfl (by rw [vp_in_iff]; first | omega | (rw [fb_addI (by omega) (by omega)]; omega)) dX13_sum_108 ?_
            refine lv_topi (fun z_35 ez_35 => ?_)
            have hbz_35 : 0 ≤ z_35.toInt ∧ z_35.toInt ≤ 12 := by rw [ez_35]; exact hbg _ (tn3 (by omega) (by omega))
            have htz_35 : z_35.toInt = (f13 (x1.toNatClampNeg)).toInt := by rw [ez_35]
            refine lv_icmp_ge (tgt := 138) hx hb dX13_sum_109 (by decide +kernel) (fun c_36 => ?_) (fun c_36 => ?_)
            · rw [fa_le] at c_36
              have hkb : kk.toNatClampNeg = (f13 x1.toNatClampNeg).toNatClampNeg := congrArg Int32.toNatClampNeg (Int32.toInt_inj.1 (by omega))
              refine lv_iload_n hx hb dX13_sum_138 rfl (lv_at hl 1 rfl) ?_
              exact W.iret hx hb hr (fun t ht hW => ⟨⟨_, (nn, g8, g9, g10, g11), rfl, ⟨(show okR g8 g10 g11 from hokR), (show 0 ≤ nn.toInt ∧ nn.toInt ≤ 24 from (by first | omega | (subst_vars; omega))), (show sumR (q 7) xx nn (f13 x1.toNatClampNeg) (fun i => f12 (12 * x1.toNatClampNeg + i)) f8 f9 f10 f11 g8 g9 g10 g11 (¬ (0 ≤ x1.toInt ∧ x1.toInt ≤ 2)) from (Or.inr (Or.inr (Or.inr ⟨(fun h9 => h9 (by omega)), hsN, (by omega), (by rw [hkb] at hsx; exact hsx), (by rw [hkb] at hsA; exact hsA)⟩))))⟩, by rw [ht]; exact hP.sub [0, 1, 2, 3, 4, 5, 6] rfl, hD.sub [0, 1, 2, 3, 4, 5, 6] (by decide +kernel) rfl⟩, hS.F ht⟩) hS.2.2 dX13_sum_139
            · rw [fa_le] at c_36
              refine lv_aload_n hx hb dX13_sum_112 rfl (lv_at hl 2 rfl) ?_
              refine lv_iconst (v := 5) hx hb dX13_sum_113 (by decide +kernel) ?_
              refine lv_iconst (v := 0) hx hb dX13_sum_114 (by decide +kernel) ?_
              refine lv_iload_n hx hb dX13_sum_115 rfl (lv_at hl 1 rfl) ?_
              refine lv_aload_n hx hb dX13_sum_116 rfl (lv_at hl 2 rfl) ?_
              refine va_get (D := D) (ci := 10) (v := .ref (a 12)) (C := RX13) (T := TX13) (N := 45) hx hb hts in_X13_sum_X13 hown hE.1 hP 0 rfl rfl 12 (by decide +kernel) (hts (.fieldLink RX13 41 "ClauseBookModel" "bag" "[I") (List.mem_of_getElem? (i := 2) rfl)) (fun _ h9 => h9) rfl dX13_sum_117 ?_
              refine lv_bipush (v := 12) hx hb dX13_sum_120 (by decide +kernel) ?_
              refine lv_iload_n hx hb dX13_sum_122 rfl (lv_at hl 3 rfl) ?_
              refine lv_imul hx hb dX13_sum_123 ?_
              refine lv_iload hx hb dX13_sum_124 (lv_at hl 0 rfl) ?_
              refine lv_iadd hx hb dX13_sum_126 ?_
              refine va_iald hx hb hE.1 hP 5 0 rfl rfl (by rw [vp_in_iff]; first | omega | (rw [fb_addI (by omega) (by omega)]; omega)) dX13_sum_127 ?_
              refine lv_topi (fun z_37 ez_37 => ?_)
              have hyz_37 : 0 ≤ z_37.toInt ∧ z_37.toInt < (q 7).toInt := by
                have h8 := tn (x := kk) (by omega)
                rw [ez_37, ix_nat (n := 0) (m := 0) (z := 0) (by omega) (by omega)]
                exact hal.2 _ (by omega)
              have hyg : z_37 = (fun i => f12 (12 * x1.toNatClampNeg + i)) kk.toNatClampNeg := by show z_37 = f12 (12 * x1.toNatClampNeg + kk.toNatClampNeg); rw [ez_37, ix12 (by omega) (by omega)]
              have hFc := va_free (wc := [(h0, .inr (10, (Value.int (q 0) :: Value.int (q 1) :: Value.int (q 2) :: Value.int (q 3) :: Value.int (q 4) :: Value.int (q 5) :: Value.int (q 6) :: Value.int nn :: Value.ref (a 8) :: Value.ref (a 9) :: Value.ref (a 10) :: Value.ref (a 11) :: Value.ref (a 12) :: Value.ref (a 13) :: Value.int (q 14) :: Value.long v :: Value.long w :: Value.ref (a 17) :: Value.ref (a 18) :: Value.ref (a 19) :: Value.ref (a 20) :: Value.ref (a 21) :: Value.ref (a 22) :: Value.ref (a 23) :: Value.int (q 24) :: Value.ref (a 25) :: Value.int (q 26) :: Value.ref (a 27) :: Value.int (q 28) :: Value.int (q 29) :: Value.int (q 30) :: Value.int (q 31) :: Value.int (q 32) :: Value.int (q 33) :: Value.ref (a 34) :: Value.ref (a 35) :: Value.ref (a 36) :: Value.ref (a 37) :: Value.ref (a 38) :: Value.ref (a 39) :: Value.ref (a 40) :: Value.int (q 41) :: Value.ref (a 42) :: Value.int (q 43) :: Value.int (q 44) :: []))), ((a 8), .inl (T 0, 24, .inl g8)), ((a 9), .inl (T 0, 24, .inl g9)), ((a 10), .inl (T 0, 24, .inl g10)), ((a 11), .inl (T 0, 24, .inl g11))]) hD hS hA [0, 1, 2, 3, 4] rfl
              refine va_calli (va_runV (As := [.int 5, .int 0, .int xx, .int z_37]) (rest := []) ⟨hx, hb, hml, hown, hts⟩ (c_X13_comes l D T _ h0 (fun k => cond (Nat.beq k 7) nn (q k)) v w a g8 g9 g10 g11 5 0 xx z_37 (show 0 ≤ nn.toInt ∧ nn.toInt < 24 from (by omega)) (show okR g8 g10 g11 from hokR) (show 0 ≤ (5 : Int32).toInt ∧ (5 : Int32).toInt ≤ 12 from (by decide +kernel)) (show 1 ≤ (nmT ((5 : Int32).toNatClampNeg)).toInt → 0 ≤ xx.toInt ∧ xx.toInt < nn.toInt from (fun _ => by omega)) (show (nmT ((5 : Int32).toNatClampNeg)).toInt = 2 → 0 ≤ z_37.toInt ∧ z_37.toInt < nn.toInt from (fun _ => by omega))) (cwV 4 hts gX13_sum_X13_comes rfl rfl rfl hv_X13_comes ⟨Nat.le_of_ble_eq_true rfl, Nat.le_of_ble_eq_true rfl⟩) (pW_V (q := (RX13, TX13, 45)) (ci := 10) (q0 := 0) hP hE hD rfl rfl [0, 1, 2, 3, 4] (by decide +kernel) rfl rfl) rfl rfl hl.1 rfl (lv_room (Nat.le_of_ble_eq_true rfl)) dX13_sum_128 ⟨Nat.le_of_ble_eq_true rfl, Nat.le_of_ble_eq_true rfl⟩) hS (fun q _ h => hFc q h) hFc (fun r_38 u_39 t H1 locs ht hvm hr_38 hB hz1 hk1 hS => ?_)
              obtain ⟨n_40, f_41, f_42, f_43, f_44⟩ := u_39
              obtain ⟨hi0_r_38, hi1_r_38, hi2_r_38⟩ := hr_38
              have hokR : okR f_41 f_43 f_44 := hi0_r_38
              have hcr : r_38.toInt = nn.toInt ∧ n_40.toInt = nn.toInt + 1 := hi1_r_38
              have hcm : f_41 = upd g8 (nn.toNatClampNeg) (5 : Int32) ∧ f_42 = upd g9 (nn.toNatClampNeg) (0 : Int32) ∧ f_43 = upd g10 (nn.toNatClampNeg) xx ∧ f_44 = upd g11 (nn.toNatClampNeg) z_37 := hi2_r_38
              obtain ⟨hP1, hD1⟩ := hB
              rw [ht] at hP1
              obtain ⟨hP, hD⟩ := va_repl [(h0, .inr (10, (Value.int (q 0) :: Value.int (q 1) :: Value.int (q 2) :: Value.int (q 3) :: Value.int (q 4) :: Value.int (q 5) :: Value.int (q 6) :: Value.int n_40 :: Value.ref (a 8) :: Value.ref (a 9) :: Value.ref (a 10) :: Value.ref (a 11) :: Value.ref (a 12) :: Value.ref (a 13) :: Value.int (q 14) :: Value.long v :: Value.long w :: Value.ref (a 17) :: Value.ref (a 18) :: Value.ref (a 19) :: Value.ref (a 20) :: Value.ref (a 21) :: Value.ref (a 22) :: Value.ref (a 23) :: Value.int (q 24) :: Value.ref (a 25) :: Value.int (q 26) :: Value.ref (a 27) :: Value.int (q 28) :: Value.int (q 29) :: Value.int (q 30) :: Value.int (q 31) :: Value.int (q 32) :: Value.int (q 33) :: Value.ref (a 34) :: Value.ref (a 35) :: Value.ref (a 36) :: Value.ref (a 37) :: Value.ref (a 38) :: Value.ref (a 39) :: Value.ref (a 40) :: Value.int (q 41) :: Value.ref (a 42) :: Value.int (q 43) :: Value.int (q 44) :: []))), ((a 8), .inl (T 0, 24, .inl f_41)), ((a 9), .inl (T 0, 24, .inl f_42)), ((a 10), .inl (T 0, 24, .inl f_43)), ((a 11), .inl (T 0, 24, .inl f_44)), ((a 12), .inl (T 0, 36, .inl f12)), ((a 13), .inl (T 0, 3, .inl f13))] hP hD [0, 1, 2, 3, 4] [0, 1, 2, 3, 4] rfl (by decide +kernel) rfl rfl rfl hk1 hP1
              clear hP1 hD1 hFc
              generalize H1 = H at hP hS ⊢
              refine lv_istore_n (lv' := [(3, .int r_38), (4, .int kk), (0, .ref h0), (1, .int x1)]) hx hb dX13_sum_131 rfl hl (by decide +kernel) rfl (fun ls hl => ?_)
              obtain ⟨z_45, ez_45⟩ : ∃ y : Int32, y = kk + 1 := ⟨_, rfl⟩
              refine lv_iinc (v := z_45) (lv' := [(4, .int z_45), (3, .int r_38), (0, .ref h0), (1, .int x1)]) hx hb dX13_sum_132 hl (k := 1) rfl (by rw [ez_45]; rfl) (by decide +kernel) rfl (fun ls hl => ?_)
              have hi9 : z_45.toInt = kk.toInt + 1 := by rw [ez_45]; exact inc1 (n := 1000) (by omega) (by decide +kernel)
              refine lv_goto (tgt := 101) hx hb dX13_sum_135 (by decide +kernel) ?_
              exact ih (z_45, r_38, n_40, f_41, f_42, f_43, f_44) ls _ _ ⟨lv_sub hl [0, 1, 2, 3] rfl, hP.sub [0, 1, 2, 3, 4, 5, 6] rfl, hD.sub [0, 1, 2, 3, 4, 5, 6] (by decide +kernel) rfl, hS, ⟨(by (try dsimp only); omega), hokR, (by (try dsimp only); exact (sum_stepM (by omega) hi9 (by omega) hsx hsA hyg hcr.1 hcr.2 hcm).1), (by (try dsimp only); exact (sum_stepM (by omega) hi9 (by omega) hsx hsA hyg hcr.1 hcr.2 hcm).2)⟩⟩ (by (try dsimp only); omega)
          · rw [fa_le] at c_33
            try rw [ti_24] at c_33
            refine lv_bipush (v := (-4)) hx hb dX13_sum_85 (by decide +kernel) ?_
            exact W.iret hx hb hr (fun t ht hW => ⟨⟨_, ((q 7), f8, f9, f10, f11), rfl, ⟨(show okR f8 f10 f11 from hokR), (show 0 ≤ (q 7).toInt ∧ (q 7).toInt ≤ 24 from (by first | omega | (subst_vars; omega))), (show sumR (q 7) ((-4) : Int32) (q 7) (f13 x1.toNatClampNeg) (fun i => f12 (12 * x1.toNatClampNeg + i)) f8 f9 f10 f11 f8 f9 f10 f11 (¬ (0 ≤ x1.toInt ∧ x1.toInt ≤ 2)) from (Or.inr (Or.inr (Or.inl ⟨(fun h9 => h9 (by omega)), hsN, (by omega), (by decide +kernel), ⟨rfl, rfl, rfl, rfl, rfl⟩⟩))))⟩, by rw [ht]; exact hP.sub [0, 1, 2, 3, 4, 5, 6] rfl, hD.sub [0, 1, 2, 3, 4, 5, 6] (by decide +kernel) rfl⟩, hS.F ht⟩) hS.2.2 dX13_sum_87
        · rw [fa_eq] at c_31
          try rw [ti_0] at c_31
          refine lv_iconst (v := (-1)) hx hb dX13_sum_65 (by decide +kernel) ?_
          exact W.iret hx hb hr (fun t ht hW => ⟨⟨_, ((q 7), f8, f9, f10, f11), rfl, ⟨(show okR f8 f10 f11 from hokR), (show 0 ≤ (q 7).toInt ∧ (q 7).toInt ≤ 24 from (by first | omega | (subst_vars; omega))), (show sumR (q 7) ((-1) : Int32) (q 7) (f13 x1.toNatClampNeg) (fun i => f12 (12 * x1.toNatClampNeg + i)) f8 f9 f10 f11 f8 f9 f10 f11 (¬ (0 ≤ x1.toInt ∧ x1.toInt ≤ 2)) from (Or.inr (Or.inl ⟨(fun h9 => h9 (by omega)), hnz (by omega), (by decide +kernel), ⟨rfl, rfl, rfl, rfl, rfl⟩⟩)))⟩, by rw [ht]; exact hP.sub [0, 1, 2, 3, 4, 5, 6] rfl, hD.sub [0, 1, 2, 3, 4, 5, 6] (by decide +kernel) rfl⟩, hS.F ht⟩) hS.2.2 dX13_sum_66
      · rw [fa_le] at c_30
        refine lv_iload_n hx hb dX13_sum_37 rfl (lv_at hl 1 rfl) ?_
        refine lv_aload_n hx hb dX13_sum_38 rfl (lv_at hl 2 rfl) ?_
        refine lv_aload_n hx hb dX13_sum_39 rfl (lv_at hl 2 rfl) ?_
        refine va_get (D := D) (ci := 10) (v := .ref (a 12)) (C := RX13) (T := TX13) (N := 45) hx hb hts in_X13_sum_X13 hown hE.1 hP 0 rfl rfl 12 (by decide +kernel) (hts (.fieldLink RX13 41 "ClauseBookModel" "bag" "[I") (List.mem_of_getElem? (i := 2) rfl)) (fun _ h9 => h9) rfl dX13_sum_40 ?_
        refine lv_bipush (v := 12) hx hb dX13_sum_43 (by decide +kernel) ?_
        refine lv_iload_n hx hb dX13_sum_45 rfl (lv_at hl 3 rfl) ?_
        refine lv_imul hx hb dX13_sum_46 ?_
        refine lv_iload_n hx hb dX13_sum_47 rfl (lv_at hl 0 rfl) ?_
        refine lv_iadd hx hb dX13_sum_48 ?_
        refine va_iald hx hb hE.1 hP 5 0 rfl rfl (by rw [vp_in_iff]; first | omega | (rw [fb_addI (by omega) (by omega)]; omega)) dX13_sum_49 ?_
        refine lv_topi (fun z_46 ez_46 => ?_)
        refine vp_callSi (W.runV (As := [.int z_46]) (rest := [.int ar]) ⟨hx, hb, hml, hown, hts⟩ (c_X13_isClause l D T h0 [.int (q 0), .int (q 1), .int (q 2), .int (q 3), .int (q 4), .int (q 5), .int (q 6), .int (q 7), .ref (a 8), .ref (a 9), .ref (a 10), .ref (a 11), .ref (a 12), .ref (a 13), .int (q 14), .long v, .long w, .ref (a 17), .ref (a 18), .ref (a 19), .ref (a 20), .ref (a 21), .ref (a 22), .ref (a 23), .int (q 24), .ref (a 25), .int (q 26), .ref (a 27), .int (q 28), .int (q 29), .int (q 30), .int (q 31), .int (q 32), .int (q 33), .ref (a 34), .ref (a 35), .ref (a 36), .ref (a 37), .ref (a 38), .ref (a 39), .ref (a 40), .int (q 41), .ref (a 42), .int (q 43), .int (q 44)] z_46 (q 7) rfl (by omega)) (cwV 1 hts gX13_sum_X13_isClause rfl rfl rfl hv_X13_isClause ⟨Nat.le_of_ble_eq_true rfl, Nat.le_of_ble_eq_true rfl⟩) (pR_V (q := (RX13, TX13, 45)) (ci := 10) (q0 := 0) hP hE rfl rfl [0] rfl) rfl rfl hl.1 rfl (lv_room (Nat.le_of_ble_eq_true rfl)) dX13_sum_50 ⟨Nat.le_of_ble_eq_true rfl, Nat.le_of_ble_eq_true rfl⟩) (fun r_47 hr_47 => ?_)
        rcases bool_post hr_47 with ⟨c_48, rfl⟩ | ⟨c_48, rfl⟩
        · refine lv_iand hx hb dX13_sum_53 ?_
          refine lv_topi (fun z_49 ez_49 => ?_)
          have hzz_49 : z_49 = ar := by rw [ez_49]; exact isB.and1 hBa
          refine lv_istore_n (lv' := [(2, .int z_49), (3, .int ii), (0, .ref h0), (1, .int x1)]) hx hb dX13_sum_54 rfl hl (by decide +kernel) rfl (fun ls hl => ?_)
          obtain ⟨z_50, ez_50⟩ : ∃ y : Int32, y = ii + 1 := ⟨_, rfl⟩
          refine lv_iinc (v := z_50) (lv' := [(3, .int z_50), (2, .int z_49), (0, .ref h0), (1, .int x1)]) hx hb dX13_sum_55 hl (k := 1) rfl (by rw [ez_50]; rfl) (by decide +kernel) rfl (fun ls hl => ?_)
          have hi9 : z_50.toInt = ii.toInt + 1 := by rw [ez_50]; exact inc1 (n := 1000) (by omega) (by decide +kernel)
          refine lv_goto (tgt := 27) hx hb dX13_sum_58 (by decide +kernel) ?_
          exact ih (z_50, z_49) ls ⟨lv_sub hl [0, 1, 2, 3] rfl, ⟨(by subst_vars; (try dsimp only); rw [inc1 (i := ii) (n := 1000) (by omega) (by decide +kernel)]; omega), (by (try dsimp only); rw [hzz_49]; exact hBa), (by (try dsimp only); rw [hzz_49]; exact hnz), (by (try dsimp only); rw [hzz_49]; exact fun h9 => ⟨(hal h9).1, sum_stepR (z := z_46) (hal h9).2 hi9 (by omega) (by rw [ez_46]; exact congrArg f12 (ix_nat (n := 0) (m := 0) (z := 0) (by omega) (by omega))) (by omega)⟩)⟩⟩ (by subst_vars; (try dsimp only); rw [inc1 (i := ii) (n := 1000) (by omega) (by decide +kernel)]; omega)
        · refine lv_iand hx hb dX13_sum_53 ?_
          refine lv_topi (fun z_51 ez_51 => ?_)
          have hzz_51 : z_51 = 0 := by rw [ez_51]; exact and_0 hBa
          refine lv_istore_n (lv' := [(2, .int z_51), (3, .int ii), (0, .ref h0), (1, .int x1)]) hx hb dX13_sum_54 rfl hl (by decide +kernel) rfl (fun ls hl => ?_)
          obtain ⟨z_52, ez_52⟩ : ∃ y : Int32, y = ii + 1 := ⟨_, rfl⟩
          refine lv_iinc (v := z_52) (lv' := [(3, .int z_52), (2, .int z_51), (0, .ref h0), (1, .int x1)]) hx hb dX13_sum_55 hl (k := 1) rfl (by rw [ez_52]; rfl) (by decide +kernel) rfl (fun ls hl => ?_)
          have hi9 : z_52.toInt = ii.toInt + 1 := by rw [ez_52]; exact inc1 (n := 1000) (by omega) (by decide +kernel)
          refine lv_goto (tgt := 27) hx hb dX13_sum_58 (by decide +kernel) ?_
          exact ih (z_52, z_51) ls ⟨lv_sub hl [0, 1, 2, 3] rfl, ⟨(by subst_vars; (try dsimp only); rw [inc1 (i := ii) (n := 1000) (by omega) (by decide +kernel)]; omega), (by (try dsimp only); rw [hzz_51]; exact isB0), (fun _ h8 => by
                                                            have h7 := h8.2 ii.toNatClampNeg (by have h6 := tn (x := ii) (by omega); omega)
                                                            have h7 : 0 ≤ (f12 (12 * x1.toNatClampNeg + ii.toNatClampNeg)).toInt ∧ (f12 (12 * x1.toNatClampNeg + ii.toNatClampNeg)).toInt < (q 7).toInt := h7
                                                            rw [← ix12 (b := x1) (z := ii) (by omega) (by omega), ← ez_46] at h7
                                                            omega), (by (try dsimp only); rw [hzz_51]; exact fun h9 => absurd (by decide +kernel) h9)⟩⟩ (by subst_vars; (try dsimp only); rw [inc1 (i := ii) (n := 1000) (by omega) (by decide +kernel)]; omega)
  · refine lv_if_ne (tgt := 10) hx hb dX13_sum_4 (by decide +kernel) (fun c9 => absurd c9 (by decide +kernel)) (fun _ => ?_)
    refine lv_bipush (v := (-2)) hx hb dX13_sum_7 (by decide +kernel) ?_
    exact W.iret hx hb hr (fun t ht hW => ⟨⟨_, ((q 7), f8, f9, f10, f11), rfl, ⟨(show okR f8 f10 f11 from hokR), (show 0 ≤ (q 7).toInt ∧ (q 7).toInt ≤ 24 from (by first | omega | (subst_vars; omega))), (show sumR (q 7) ((-2) : Int32) (q 7) (f13 x1.toNatClampNeg) (fun i => f12 (12 * x1.toNatClampNeg + i)) f8 f9 f10 f11 f8 f9 f10 f11 (¬ (0 ≤ x1.toInt ∧ x1.toInt ≤ 2)) from (Or.inl ⟨(by omega), (by decide +kernel), ⟨rfl, rfl, rfl, rfl, rfl⟩⟩))⟩, by rw [ht]; exact hP.sub [0, 1, 2, 3, 4, 5, 6] rfl, hD.sub [0, 1, 2, 3, 4, 5, 6] (by decide +kernel) rfl⟩, hS.F ht⟩) hS.2.2 dX13_sum_9
end
section
theorem dX13_feed_0 : decode cX13_feed 0 = .ok (.iload_n 1, 1) := by decide +kernel
theorem dX13_feed_1 : decode cX13_feed 1 = .ok (.i2l, 1) := by decide +kernel
theorem dX13_feed_12 : decode cX13_feed 12 = .ok (.bipush (-2), 2) := by decide +kernel
theorem dX13_feed_14 : decode cX13_feed 14 = .ok (.ireturn, 1) := by decide +kernel
theorem dX13_feed_15 : decode cX13_feed 15 = .ok (.aload_n 0, 1) := by decide +kernel
theorem dX13_feed_16 : decode cX13_feed 16 = .ok (.getfield 341, 3) := by decide +kernel
theorem dX13_feed_19 : decode cX13_feed 19 = .ok (.iload_n 1, 1) := by decide +kernel
theorem dX13_feed_2 : decode cX13_feed 2 = .ok (.lconst 1, 1) := by decide +kernel
theorem dX13_feed_20 : decode cX13_feed 20 = .ok (.iadd, 1) := by decide +kernel
theorem dX13_feed_21 : decode cX13_feed 21 = .ok (.bipush 120, 2) := by decide +kernel
theorem dX13_feed_23 : decode cX13_feed 23 = .ok (.if_icmp .le 6, 3) := by decide +kernel
theorem dX13_feed_26 : decode cX13_feed 26 = .ok (.bipush (-4), 2) := by decide +kernel
theorem dX13_feed_28 : decode cX13_feed 28 = .ok (.ireturn, 1) := by decide +kernel
theorem dX13_feed_29 : decode cX13_feed 29 = .ok (.iconst 0, 1) := by decide +kernel
theorem dX13_feed_3 : decode cX13_feed 3 = .ok (.ldc2_w 339, 3) := by decide +kernel
theorem dX13_feed_30 : decode cX13_feed 30 = .ok (.istore_n 3, 1) := by decide +kernel
theorem dX13_feed_31 : decode cX13_feed 31 = .ok (.iload_n 3, 1) := by decide +kernel
theorem dX13_feed_32 : decode cX13_feed 32 = .ok (.iload_n 1, 1) := by decide +kernel
theorem dX13_feed_33 : decode cX13_feed 33 = .ok (.if_icmp .ge 41, 3) := by decide +kernel
theorem dX13_feed_36 : decode cX13_feed 36 = .ok (.aload_n 0, 1) := by decide +kernel
theorem dX13_feed_37 : decode cX13_feed 37 = .ok (.getfield 70, 3) := by decide +kernel
theorem dX13_feed_40 : decode cX13_feed 40 = .ok (.aload_n 0, 1) := by decide +kernel
theorem dX13_feed_41 : decode cX13_feed 41 = .ok (.getfield 341, 3) := by decide +kernel
theorem dX13_feed_44 : decode cX13_feed 44 = .ok (.iload_n 2, 1) := by decide +kernel
theorem dX13_feed_45 : decode cX13_feed 45 = .ok (.bipush 24, 2) := by decide +kernel
theorem dX13_feed_47 : decode cX13_feed 47 = .ok (.bipush 8, 2) := by decide +kernel
theorem dX13_feed_49 : decode cX13_feed 49 = .ok (.iload_n 3, 1) := by decide +kernel
theorem dX13_feed_50 : decode cX13_feed 50 = .ok (.imul, 1) := by decide +kernel
theorem dX13_feed_51 : decode cX13_feed 51 = .ok (.isub, 1) := by decide +kernel
theorem dX13_feed_52 : decode cX13_feed 52 = .ok (.iushr, 1) := by decide +kernel
theorem dX13_feed_53 : decode cX13_feed 53 = .ok (.sipush 255, 3) := by decide +kernel
theorem dX13_feed_56 : decode cX13_feed 56 = .ok (.iand, 1) := by decide +kernel
theorem dX13_feed_57 : decode cX13_feed 57 = .ok (.iastore, 1) := by decide +kernel
theorem dX13_feed_58 : decode cX13_feed 58 = .ok (.aload_n 0, 1) := by decide +kernel
theorem dX13_feed_59 : decode cX13_feed 59 = .ok (.dup, 1) := by decide +kernel
theorem dX13_feed_6 : decode cX13_feed 6 = .ok (.invokestatic 175, 3) := by decide +kernel
theorem dX13_feed_60 : decode cX13_feed 60 = .ok (.getfield 341, 3) := by decide +kernel
theorem dX13_feed_63 : decode cX13_feed 63 = .ok (.iconst 1, 1) := by decide +kernel
theorem dX13_feed_64 : decode cX13_feed 64 = .ok (.iadd, 1) := by decide +kernel
theorem dX13_feed_65 : decode cX13_feed 65 = .ok (.putfield 341, 3) := by decide +kernel
theorem dX13_feed_68 : decode cX13_feed 68 = .ok (.iinc 3 1, 3) := by decide +kernel
theorem dX13_feed_71 : decode cX13_feed 71 = .ok (.goto (-40), 3) := by decide +kernel
theorem dX13_feed_74 : decode cX13_feed 74 = .ok (.aload_n 0, 1) := by decide +kernel
theorem dX13_feed_75 : decode cX13_feed 75 = .ok (.getfield 341, 3) := by decide +kernel
theorem dX13_feed_78 : decode cX13_feed 78 = .ok (.ireturn, 1) := by decide +kernel
theorem dX13_feed_9 : decode cX13_feed 9 = .ok (.ifCond .ne 6, 3) := by decide +kernel
set_option maxRecDepth 20000 in
theorem ggX13_feed_X13_in : GoodIn wsX13_feed wsX13_in := goodIn_r _ [7] rfl (by decide +kernel)
set_option maxRecDepth 20000 in
theorem gX13_feed_X13_in : GoodIn wsX13_feed (va_wsS RX13 175 yX13_in wsX13_in) := goodIn_app (goodIn_of _ (by decide +kernel)) ggX13_feed_X13_in
set_option maxRecDepth 20000 in
theorem in_X13_feed_X13 : ∀ w ∈ wsX130, w ∈ wsX13_feed := sub_r [8, 9, 10, 11, 12, 13, 14, 15, 16, 17, 18, 19, 20, 21, 22, 23, 24, 25, 26, 27, 28, 29, 30, 31, 32, 33, 34, 35, 36, 37, 38, 39, 40, 41, 42, 43, 44, 45, 46, 47, 48, 49, 50, 51, 52] rfl
set_option maxHeartbeats 4000000 in
set_option maxRecDepth 100000 in
theorem c_X13_feed (l : Launch) (D : va_G) (T : Nat → ClassId) (sz : Nat) (h0 : Nat) (q : Nat → Int32) (v : Int64) (w : Int64) (a : Nat → Nat) (f25 : Nat → Int32) (x1 : Int32) (x2 : Int32) (htp : 0 ≤ (q 26).toInt ∧ (q 26).toInt ≤ 120) : Met l yX13_feed wsX13_feed ({ frames := 1, cells := 0, slots := 0, locals := 25 }) (pW [.ref h0, .int x1, .int x2] D T [(h0, .inr (10, (Value.int (q 0) :: Value.int (q 1) :: Value.int (q 2) :: Value.int (q 3) :: Value.int (q 4) :: Value.int (q 5) :: Value.int (q 6) :: Value.int (q 7) :: Value.ref (a 8) :: Value.ref (a 9) :: Value.ref (a 10) :: Value.ref (a 11) :: Value.ref (a 12) :: Value.ref (a 13) :: Value.int (q 14) :: Value.long v :: Value.long w :: Value.ref (a 17) :: Value.ref (a 18) :: Value.ref (a 19) :: Value.ref (a 20) :: Value.ref (a 21) :: Value.ref (a 22) :: Value.ref (a 23) :: Value.int (q 24) :: Value.ref (a 25) :: Value.int (q 26) :: Value.ref (a 27) :: Value.int (q 28) :: Value.int (q 29) :: Value.int (q 30) :: Value.int (q 31) :: Value.int (q 32) :: Value.int (q 33) :: Value.ref (a 34) :: Value.ref (a 35) :: Value.ref (a 36) :: Value.ref (a 37) :: Value.ref (a 38) :: Value.ref (a 39) :: Value.ref (a 40) :: Value.int (q 41) :: Value.ref (a 42) :: Value.int (q 43) :: Value.int (q 44) :: []))), ((a 25), .inl (T 0, 120, .inl f25))] sz) (va_Qi (fun (r : Int32) (u : (Int32) × (Nat → Int32)) => (0 ≤ u.1.toInt ∧ u.1.toInt ≤ 120) ∧ (((¬ (1 ≤ x1.toInt ∧ x1.toInt ≤ 4) ∧ r.toInt = -2 ∧ u.1.toInt = (q 26).toInt) ∨ ((1 ≤ x1.toInt ∧ x1.toInt ≤ 4) ∧ 120 < (q 26).toInt + x1.toInt ∧ r.toInt = -4 ∧ u.1.toInt = (q 26).toInt) ∨ ((1 ≤ x1.toInt ∧ x1.toInt ≤ 4) ∧ (q 26).toInt + x1.toInt ≤ 120 ∧ r.toInt = u.1.toInt ∧ u.1.toInt = (q 26).toInt + x1.toInt))) ∧ (((1 ≤ x1.toInt ∧ x1.toInt ≤ 4) ∧ (q 26).toInt + x1.toInt ≤ 120 → u.2 = fdF f25 ((q 26)).toNatClampNeg x2 x1.toNatClampNeg) ∧ (¬ ((1 ≤ x1.toInt ∧ x1.toInt ≤ 4) ∧ (q 26).toInt + x1.toInt ≤ 120) → u.2 = f25))) (bW D (va_A [(h0, .inr (10, (Value.int (q 0) :: Value.int (q 1) :: Value.int (q 2) :: Value.int (q 3) :: Value.int (q 4) :: Value.int (q 5) :: Value.int (q 6) :: Value.int (q 7) :: Value.ref (a 8) :: Value.ref (a 9) :: Value.ref (a 10) :: Value.ref (a 11) :: Value.ref (a 12) :: Value.ref (a 13) :: Value.int (q 14) :: Value.long v :: Value.long w :: Value.ref (a 17) :: Value.ref (a 18) :: Value.ref (a 19) :: Value.ref (a 20) :: Value.ref (a 21) :: Value.ref (a 22) :: Value.ref (a 23) :: Value.int (q 24) :: Value.ref (a 25) :: Value.int (q 26) :: Value.ref (a 27) :: Value.int (q 28) :: Value.int (q 29) :: Value.int (q 30) :: Value.int (q 31) :: Value.int (q 32) :: Value.int (q 33) :: Value.ref (a 34) :: Value.ref (a 35) :: Value.ref (a 36) :: Value.ref (a 37) :: Value.ref (a 38) :: Value.ref (a 39) :: Value.ref (a 40) :: Value.int (q 41) :: Value.ref (a 42) :: Value.int (q 43) :: Value.int (q 44) :: []))), ((a 25), .inl (T 0, 120, .inl f25))] sz) (fun (u : (Int32) × (Nat → Int32)) => [(h0, .inr (10, (Value.int (q 0) :: Value.int (q 1) :: Value.int (q 2) :: Value.int (q 3) :: Value.int (q 4) :: Value.int (q 5) :: Value.int (q 6) :: Value.int (q 7) :: Value.ref (a 8) :: Value.ref (a 9) :: Value.ref (a 10) :: Value.ref (a 11) :: Value.ref (a 12) :: Value.ref (a 13) :: Value.int (q 14) :: Value.long v :: Value.long w :: Value.ref (a 17) :: Value.ref (a 18) :: Value.ref (a 19) :: Value.ref (a 20) :: Value.ref (a 21) :: Value.ref (a 22) :: Value.ref (a 23) :: Value.int (q 24) :: Value.ref (a 25) :: Value.int u.1 :: Value.ref (a 27) :: Value.int (q 28) :: Value.int (q 29) :: Value.int (q 30) :: Value.int (q 31) :: Value.int (q 32) :: Value.int (q 33) :: Value.ref (a 34) :: Value.ref (a 35) :: Value.ref (a 36) :: Value.ref (a 37) :: Value.ref (a 38) :: Value.ref (a 39) :: Value.ref (a 40) :: Value.int (q 41) :: Value.ref (a 42) :: Value.int (q 43) :: Value.int (q 44) :: []))), ((a 25), .inl (T 0, 120, .inl u.2))])) (va_A [(h0, .inr (10, (Value.int (q 0) :: Value.int (q 1) :: Value.int (q 2) :: Value.int (q 3) :: Value.int (q 4) :: Value.int (q 5) :: Value.int (q 6) :: Value.int (q 7) :: Value.ref (a 8) :: Value.ref (a 9) :: Value.ref (a 10) :: Value.ref (a 11) :: Value.ref (a 12) :: Value.ref (a 13) :: Value.int (q 14) :: Value.long v :: Value.long w :: Value.ref (a 17) :: Value.ref (a 18) :: Value.ref (a 19) :: Value.ref (a 20) :: Value.ref (a 21) :: Value.ref (a 22) :: Value.ref (a 23) :: Value.int (q 24) :: Value.ref (a 25) :: Value.int (q 26) :: Value.ref (a 27) :: Value.int (q 28) :: Value.int (q 29) :: Value.int (q 30) :: Value.int (q 31) :: Value.int (q 32) :: Value.int (q 33) :: Value.ref (a 34) :: Value.ref (a 35) :: Value.ref (a 36) :: Value.ref (a 37) :: Value.ref (a 38) :: Value.ref (a 39) :: Value.ref (a 40) :: Value.int (q 41) :: Value.ref (a 42) :: Value.int (q 43) :: Value.int (q 44) :: []))), ((a 25), .inl (T 0, 120, .inl f25))] sz)) 0 0 (va_A [(h0, .inr (10, (Value.int (q 0) :: Value.int (q 1) :: Value.int (q 2) :: Value.int (q 3) :: Value.int (q 4) :: Value.int (q 5) :: Value.int (q 6) :: Value.int (q 7) :: Value.ref (a 8) :: Value.ref (a 9) :: Value.ref (a 10) :: Value.ref (a 11) :: Value.ref (a 12) :: Value.ref (a 13) :: Value.int (q 14) :: Value.long v :: Value.long w :: Value.ref (a 17) :: Value.ref (a 18) :: Value.ref (a 19) :: Value.ref (a 20) :: Value.ref (a 21) :: Value.ref (a 22) :: Value.ref (a 23) :: Value.int (q 24) :: Value.ref (a 25) :: Value.int (q 26) :: Value.ref (a 27) :: Value.int (q 28) :: Value.int (q 29) :: Value.int (q 30) :: Value.int (q 31) :: Value.int (q 32) :: Value.int (q 33) :: Value.ref (a 34) :: Value.ref (a 35) :: Value.ref (a 36) :: Value.ref (a 37) :: Value.ref (a 38) :: Value.ref (a 39) :: Value.ref (a 40) :: Value.int (q 41) :: Value.ref (a 42) :: Value.int (q 43) :: Value.int (q 44) :: []))), ((a 25), .inl (T 0, 120, .inl f25))] sz) := by
  refine Met.ofW (cc := cX13_feed) (maxL := 4) (ret := (some .int)) (by decide +kernel) rfl ?_
  intro p e s m args below meth c s₁ B hml hv
  obtain ⟨rfl, hsz, hP, hE, hD0⟩ := hv
  have hx := B.exec
  have hb := B.bytes
  have hr := B.returns
  have hts := atoms_spec (ws := wsX13_feed) B.pre
  have hown : s.vm.findClass RX13 = some m.cls := findClass_of_methodNamed B.named
  have hlocks := B.notSynchronized
  subst hsz
  have hD := hD0.self (sz := s.heap.size)
  generalize hAe : va_A [(h0, .inr (10, (Value.int (q 0) :: Value.int (q 1) :: Value.int (q 2) :: Value.int (q 3) :: Value.int (q 4) :: Value.int (q 5) :: Value.int (q 6) :: Value.int (q 7) :: Value.ref (a 8) :: Value.ref (a 9) :: Value.ref (a 10) :: Value.ref (a 11) :: Value.ref (a 12) :: Value.ref (a 13) :: Value.int (q 14) :: Value.long v :: Value.long w :: Value.ref (a 17) :: Value.ref (a 18) :: Value.ref (a 19) :: Value.ref (a 20) :: Value.ref (a 21) :: Value.ref (a 22) :: Value.ref (a 23) :: Value.int (q 24) :: Value.ref (a 25) :: Value.int (q 26) :: Value.ref (a 27) :: Value.int (q 28) :: Value.int (q 29) :: Value.int (q 30) :: Value.int (q 31) :: Value.int (q 32) :: Value.int (q 33) :: Value.ref (a 34) :: Value.ref (a 35) :: Value.ref (a 36) :: Value.ref (a 37) :: Value.ref (a 38) :: Value.ref (a 39) :: Value.ref (a 40) :: Value.int (q 41) :: Value.ref (a 42) :: Value.int (q 43) :: Value.int (q 44) :: []))), ((a 25), .inl (T 0, 120, .inl f25))] s.heap.size = A at hD ⊢
  have hA : ∀ q : Nat, s.heap.size ≤ q → A q := fun q h => by rw [← hAe]; exact Or.inr h
  have hS : va_S A s.heap s.heap [] := va_S.rf
  have hP : va_P D vwCl [(h0, .inr (10, (Value.int (q 0) :: Value.int (q 1) :: Value.int (q 2) :: Value.int (q 3) :: Value.int (q 4) :: Value.int (q 5) :: Value.int (q 6) :: Value.int (q 7) :: Value.ref (a 8) :: Value.ref (a 9) :: Value.ref (a 10) :: Value.ref (a 11) :: Value.ref (a 12) :: Value.ref (a 13) :: Value.int (q 14) :: Value.long v :: Value.long w :: Value.ref (a 17) :: Value.ref (a 18) :: Value.ref (a 19) :: Value.ref (a 20) :: Value.ref (a 21) :: Value.ref (a 22) :: Value.ref (a 23) :: Value.int (q 24) :: Value.ref (a 25) :: Value.int (q 26) :: Value.ref (a 27) :: Value.int (q 28) :: Value.int (q 29) :: Value.int (q 30) :: Value.int (q 31) :: Value.int (q 32) :: Value.int (q 33) :: Value.ref (a 34) :: Value.ref (a 35) :: Value.ref (a 36) :: Value.ref (a 37) :: Value.ref (a 38) :: Value.ref (a 39) :: Value.ref (a 40) :: Value.int (q 41) :: Value.ref (a 42) :: Value.int (q 43) :: Value.int (q 44) :: []))), ((a 25), .inl (T 0, 120, .inl f25))] s.heap := hP
  have hl := lv_entry ([.ref h0, .int x1, .int x2]) (n := 4) (Nat.le_of_ble_eq_true rfl)
  rw [lg_entry_eq]
  generalize (lg_sl ([.ref h0, .int x1, .int x2]) ++ List.replicate (4 - (lg_sl ([.ref h0, .int x1, .int x2])).length) Slot.unset).toArray = ls at hl ⊢
  have hl : lv_has ls 4 [(0, .ref h0), (1, .int x1), (2, .int x2)] := hl
  clear hD0
  refine lv_iload_n hx hb dX13_feed_0 rfl (lv_at hl 1 rfl) ?_
  refine lv_i2l hx hb dX13_feed_1 rfl ?_
  refine lv_lconst (v := 1) hx hb dX13_feed_2 (by decide +kernel) ?_
  refine lv_ldc2 (v := 4) hx hb hown (hts (.constantLong RX13 339 (4)) (List.mem_of_getElem? (i := 1) rfl)) dX13_feed_3 ?_
  refine vp_callSi (W.runS (As := [.long (x1.toInt64), .long 1, .long 4]) (rest := []) ⟨hx, hb, hml, hown, hts⟩ (c_X13_in l D T (x1.toInt64) 1 4 x1.toInt 1 4 ((Int32.toInt_toInt64 _).trans rfl) (by decide +kernel) (by decide +kernel)) (va_cwS 3 hts gX13_feed_X13_in rfl rfl rfl hs_X13_in ⟨Nat.le_of_ble_eq_true rfl, Nat.le_of_ble_eq_true rfl⟩) (pR_S hP hE [] rfl) rfl rfl hl.1 rfl (lv_room (Nat.le_of_ble_eq_true rfl)) dX13_feed_6 ⟨Nat.le_of_ble_eq_true rfl, Nat.le_of_ble_eq_true rfl⟩) (fun r_1 hr_1 => ?_)
  rcases bool_post hr_1 with ⟨c_2, rfl⟩ | ⟨c_2, rfl⟩
  · refine lv_if_ne (tgt := 15) hx hb dX13_feed_9 (by decide +kernel) (fun _ => ?_) (fun c9 => absurd c9 (by decide +kernel))
    refine lv_aload_n hx hb dX13_feed_15 rfl (lv_at hl 0 rfl) ?_
    refine va_get (D := D) (ci := 10) (v := .int (q 26)) (C := RX13) (T := TX13) (N := 45) hx hb hts in_X13_feed_X13 hown hE.1 hP 0 rfl rfl 26 (by decide +kernel) (hts (.fieldLink RX13 341 "ClauseBookModel" "taped" "I") (List.mem_of_getElem? (i := 2) rfl)) (fun _ h9 => h9) rfl dX13_feed_16 ?_
    refine lv_iload_n hx hb dX13_feed_19 rfl (lv_at hl 1 rfl) ?_
    refine lv_iadd hx hb dX13_feed_20 ?_
    have hs9 : ((q 26) + x1).toInt = (q 26).toInt + x1.toInt := fb_addI (by omega) (by omega)
    refine lv_bipush (v := 120) hx hb dX13_feed_21 (by decide +kernel) ?_
    refine lv_icmp_le (tgt := 29) hx hb dX13_feed_23 (by decide +kernel) (fun c_3 => ?_) (fun c_3 => ?_)
    · rw [fa_le] at c_3
      try rw [ti_120] at c_3
      refine lv_iconst (v := 0) hx hb dX13_feed_29 (by decide +kernel) ?_
      refine lv_istore_n (lv' := [(3, .int 0), (0, .ref h0), (1, .int x1), (2, .int x2)]) hx hb dX13_feed_30 rfl hl (by decide +kernel) rfl (fun ls hl => ?_)
      refine loopW (σ := (Int32) × (Int32) × (Nat → Int32)) (fun x9 ls H locs => lv_has ls 4 [(3, .int x9.1), (0, .ref h0), (1, .int x1), (2, .int x2)] ∧ va_P D vwCl [(h0, .inr (10, (Value.int (q 0) :: Value.int (q 1) :: Value.int (q 2) :: Value.int (q 3) :: Value.int (q 4) :: Value.int (q 5) :: Value.int (q 6) :: Value.int (q 7) :: Value.ref (a 8) :: Value.ref (a 9) :: Value.ref (a 10) :: Value.ref (a 11) :: Value.ref (a 12) :: Value.ref (a 13) :: Value.int (q 14) :: Value.long v :: Value.long w :: Value.ref (a 17) :: Value.ref (a 18) :: Value.ref (a 19) :: Value.ref (a 20) :: Value.ref (a 21) :: Value.ref (a 22) :: Value.ref (a 23) :: Value.int (q 24) :: Value.ref (a 25) :: Value.int x9.2.1 :: Value.ref (a 27) :: Value.int (q 28) :: Value.int (q 29) :: Value.int (q 30) :: Value.int (q 31) :: Value.int (q 32) :: Value.int (q 33) :: Value.ref (a 34) :: Value.ref (a 35) :: Value.ref (a 36) :: Value.ref (a 37) :: Value.ref (a 38) :: Value.ref (a 39) :: Value.ref (a 40) :: Value.int (q 41) :: Value.ref (a 42) :: Value.int (q 43) :: Value.int (q 44) :: []))), ((a 25), .inl (T 0, 120, .inl x9.2.2))] H ∧ va_D A [(h0, .inr (10, (Value.int (q 0) :: Value.int (q 1) :: Value.int (q 2) :: Value.int (q 3) :: Value.int (q 4) :: Value.int (q 5) :: Value.int (q 6) :: Value.int (q 7) :: Value.ref (a 8) :: Value.ref (a 9) :: Value.ref (a 10) :: Value.ref (a 11) :: Value.ref (a 12) :: Value.ref (a 13) :: Value.int (q 14) :: Value.long v :: Value.long w :: Value.ref (a 17) :: Value.ref (a 18) :: Value.ref (a 19) :: Value.ref (a 20) :: Value.ref (a 21) :: Value.ref (a 22) :: Value.ref (a 23) :: Value.int (q 24) :: Value.ref (a 25) :: Value.int x9.2.1 :: Value.ref (a 27) :: Value.int (q 28) :: Value.int (q 29) :: Value.int (q 30) :: Value.int (q 31) :: Value.int (q 32) :: Value.int (q 33) :: Value.ref (a 34) :: Value.ref (a 35) :: Value.ref (a 36) :: Value.ref (a 37) :: Value.ref (a 38) :: Value.ref (a 39) :: Value.ref (a 40) :: Value.int (q 41) :: Value.ref (a 42) :: Value.int (q 43) :: Value.int (q 44) :: []))), ((a 25), .inl (T 0, 120, .inl x9.2.2))] ∧ va_S A s.heap H locs ∧ ((0 ≤ x9.1.toInt ∧ x9.1.toInt ≤ x1.toInt ∧ x9.2.1.toInt = (q 26).toInt + x9.1.toInt) ∧ x9.2.2 = fdF f25 (q 26).toNatClampNeg x2 x9.1.toNatClampNeg)) (fun x9 => (5 - x9.1.toInt).toNat) (fun x9 ls H locs hI ih => ?_) (0, (q 26), f25) ls ⟨lv_sub hl [0, 1, 2, 3] rfl, hP.sub [0, 1] rfl, hD.sub [0, 1] (by decide +kernel) rfl, hS, ⟨(by (try dsimp only); rw [ti_0]; omega), (by (try dsimp only); rw [tn0']; rfl)⟩⟩
      obtain ⟨kk, tt, g25⟩ := x9
      obtain ⟨hl, hP, hD, hS, hinv⟩ := hI
      have hl : lv_has ls 4 [(3, .int kk), (0, .ref h0), (1, .int x1), (2, .int x2)] := hl
      have hP : va_P D vwCl [(h0, .inr (10, (Value.int (q 0) :: Value.int (q 1) :: Value.int (q 2) :: Value.int (q 3) :: Value.int (q 4) :: Value.int (q 5) :: Value.int (q 6) :: Value.int (q 7) :: Value.ref (a 8) :: Value.ref (a 9) :: Value.ref (a 10) :: Value.ref (a 11) :: Value.ref (a 12) :: Value.ref (a 13) :: Value.int (q 14) :: Value.long v :: Value.long w :: Value.ref (a 17) :: Value.ref (a 18) :: Value.ref (a 19) :: Value.ref (a 20) :: Value.ref (a 21) :: Value.ref (a 22) :: Value.ref (a 23) :: Value.int (q 24) :: Value.ref (a 25) :: Value.int tt :: Value.ref (a 27) :: Value.int (q 28) :: Value.int (q 29) :: Value.int (q 30) :: Value.int (q 31) :: Value.int (q 32) :: Value.int (q 33) :: Value.ref (a 34) :: Value.ref (a 35) :: Value.ref (a 36) :: Value.ref (a 37) :: Value.ref (a 38) :: Value.ref (a 39) :: Value.ref (a 40) :: Value.int (q 41) :: Value.ref (a 42) :: Value.int (q 43) :: Value.int (q 44) :: []))), ((a 25), .inl (T 0, 120, .inl g25))] H := hP
      have hD : va_D A [(h0, .inr (10, (Value.int (q 0) :: Value.int (q 1) :: Value.int (q 2) :: Value.int (q 3) :: Value.int (q 4) :: Value.int (q 5) :: Value.int (q 6) :: Value.int (q 7) :: Value.ref (a 8) :: Value.ref (a 9) :: Value.ref (a 10) :: Value.ref (a 11) :: Value.ref (a 12) :: Value.ref (a 13) :: Value.int (q 14) :: Value.long v :: Value.long w :: Value.ref (a 17) :: Value.ref (a 18) :: Value.ref (a 19) :: Value.ref (a 20) :: Value.ref (a 21) :: Value.ref (a 22) :: Value.ref (a 23) :: Value.int (q 24) :: Value.ref (a 25) :: Value.int tt :: Value.ref (a 27) :: Value.int (q 28) :: Value.int (q 29) :: Value.int (q 30) :: Value.int (q 31) :: Value.int (q 32) :: Value.int (q 33) :: Value.ref (a 34) :: Value.ref (a 35) :: Value.ref (a 36) :: Value.ref (a 37) :: Value.ref (a 38) :: Value.ref (a 39) :: Value.ref (a 40) :: Value.int (q 41) :: Value.ref (a 42) :: Value.int (q 43) :: Value.int (q 44) :: []))), ((a 25), .inl (T 0, 120, .inl g25))] := hD
      have hinv : (0 ≤ kk.toInt ∧ kk.toInt ≤ x1.toInt ∧ tt.toInt = (q 26).toInt + kk.toInt) ∧ g25 = fdF f25 (q 26).toNatClampNeg x2 kk.toNatClampNeg := hinv
      obtain ⟨hinv, hfi⟩ := hinv
      refine lv_iload_n hx hb dX13_feed_31 rfl (lv_at hl 0 rfl) ?_
      refine lv_iload_n hx hb dX13_feed_32 rfl (lv_at hl 2 rfl) ?_
      refine lv_icmp_ge (tgt := 74) hx hb dX13_feed_33 (by decide +kernel) (fun c_4 => ?_) (fun c_4 => ?_)
      · rw [fa_le] at c_4
        refine lv_aload_n hx hb dX13_feed_74 rfl (lv_at hl 1 rfl) ?_
        refine va_get (D := D) (ci := 10) (v := .int tt) (C := RX13) (T := TX13) (N := 45) hx hb hts in_X13_feed_X13 hown hE.1 hP 0 rfl rfl 26 (by decide +kernel) (hts (.fieldLink RX13 341 "ClauseBookModel" "taped" "I") (List.mem_of_getElem? (i := 2) rfl)) (fun _ h9 => h9) rfl dX13_feed_75 ?_
        exact W.iret hx hb hr (fun t ht hW => ⟨⟨_, (tt, g25), rfl, ⟨(show 0 ≤ tt.toInt ∧ tt.toInt ≤ 120 from (by first | omega | (subst_vars; omega))), (show ((¬ (1 ≤ x1.toInt ∧ x1.toInt ≤ 4) ∧ tt.toInt = -2 ∧ tt.toInt = (q 26).toInt) ∨ ((1 ≤ x1.toInt ∧ x1.toInt ≤ 4) ∧ 120 < (q 26).toInt + x1.toInt ∧ tt.toInt = -4 ∧ tt.toInt = (q 26).toInt) ∨ ((1 ≤ x1.toInt ∧ x1.toInt ≤ 4) ∧ (q 26).toInt + x1.toInt ≤ 120 ∧ tt.toInt = tt.toInt ∧ tt.toInt = (q 26).toInt + x1.toInt)) from (Or.inr (Or.inr ⟨by omega, by omega, rfl, (by (try dsimp only); omega)⟩))), (show ((1 ≤ x1.toInt ∧ x1.toInt ≤ 4) ∧ (q 26).toInt + x1.toInt ≤ 120 → g25 = fdF f25 ((q 26)).toNatClampNeg x2 x1.toNatClampNeg) ∧ (¬ ((1 ≤ x1.toInt ∧ x1.toInt ≤ 4) ∧ (q 26).toInt + x1.toInt ≤ 120) → g25 = f25) from ⟨(fun _ => (show kk = x1 from Int32.toInt_inj.1 (by omega)) ▸ hfi), (fun h9 => absurd (by omega) h9)⟩)⟩, by rw [ht]; exact hP.sub [0, 1] rfl, hD.sub [0, 1] (by decide +kernel) rfl⟩, hS.F ht⟩) hS.2.2 dX13_feed_78
      · rw [fa_le] at c_4
        refine lv_aload_n hx hb dX13_feed_36 rfl (lv_at hl 1 rfl) ?_
        refine va_get (D := D) (ci := 10) (v := .ref (a 25)) (C := RX13) (T := TX13) (N := 45) hx hb hts in_X13_feed_X13 hown hE.1 hP 0 rfl rfl 25 (by decide +kernel) (hts (.fieldLink RX13 70 "ClauseBookModel" "tape" "[I") (List.mem_of_getElem? (i := 3) rfl)) (fun _ h9 => h9) rfl dX13_feed_37 ?_
        refine lv_aload_n hx hb dX13_feed_40 rfl (lv_at hl 1 rfl) ?_
        refine va_get (D := D) (ci := 10) (v := .int tt) (C := RX13) (T := TX13) (N := 45) hx hb hts in_X13_feed_X13 hown hE.1 hP 0 rfl rfl 26 (by decide +kernel) (hts (.fieldLink RX13 341 "ClauseBookModel" "taped" "I") (List.mem_of_getElem? (i := 2) rfl)) (fun _ h9 => h9) rfl dX13_feed_41 ?_
        refine lv_iload_n hx hb dX13_feed_44 rfl (lv_at hl 3 rfl) ?_
        refine lv_bipush (v := 24) hx hb dX13_feed_45 (by decide +kernel) ?_
        refine lv_bipush (v := 8) hx hb dX13_feed_47 (by decide +kernel) ?_
        refine lv_iload_n hx hb dX13_feed_49 rfl (lv_at hl 0 rfl) ?_
        refine lv_imul hx hb dX13_feed_50 ?_
        refine lv_isub hx hb dX13_feed_51 ?_
        obtain ⟨z_5, ez_5⟩ : ∃ y : Int32, (x2.toUInt32 >>> ((24 - (8 * kk)).toUInt32 &&& Int32.toUInt32 31)).toInt32 = y := ⟨_, rfl⟩
        refine lv_iushr (v := z_5) hx hb dX13_feed_52 ez_5 ?_
        refine lv_sipush (v := 255) hx hb dX13_feed_53 (by decide +kernel) ?_
        refine lv_iand hx hb dX13_feed_56 ?_
        refine va_iast hx hb hE.1 hP hD hS 1 0 rfl rfl (by rw [vp_in_iff]; first | omega | (subst_vars; omega)) dX13_feed_57 (fun H locs hP hD hS => ?_)
        obtain ⟨hP, hD⟩ := wPD [(h0, .inr (10, (Value.int (q 0) :: Value.int (q 1) :: Value.int (q 2) :: Value.int (q 3) :: Value.int (q 4) :: Value.int (q 5) :: Value.int (q 6) :: Value.int (q 7) :: Value.ref (a 8) :: Value.ref (a 9) :: Value.ref (a 10) :: Value.ref (a 11) :: Value.ref (a 12) :: Value.ref (a 13) :: Value.int (q 14) :: Value.long v :: Value.long w :: Value.ref (a 17) :: Value.ref (a 18) :: Value.ref (a 19) :: Value.ref (a 20) :: Value.ref (a 21) :: Value.ref (a 22) :: Value.ref (a 23) :: Value.int (q 24) :: Value.ref (a 25) :: Value.int tt :: Value.ref (a 27) :: Value.int (q 28) :: Value.int (q 29) :: Value.int (q 30) :: Value.int (q 31) :: Value.int (q 32) :: Value.int (q 33) :: Value.ref (a 34) :: Value.ref (a 35) :: Value.ref (a 36) :: Value.ref (a 37) :: Value.ref (a 38) :: Value.ref (a 39) :: Value.ref (a 40) :: Value.int (q 41) :: Value.ref (a 42) :: Value.int (q 43) :: Value.int (q 44) :: []))), ((a 25), .inl (T 0, 120, .inl (upd g25 (tt.toNatClampNeg) (z_5 &&& 255))))] hP hD rfl
        refine lv_aload_n hx hb dX13_feed_58 rfl (lv_at hl 1 rfl) ?_
        refine lv_dup hx hb dX13_feed_59 rfl ?_
        refine va_get (D := D) (ci := 10) (v := .int tt) (C := RX13) (T := TX13) (N := 45) hx hb hts in_X13_feed_X13 hown hE.1 hP 0 rfl rfl 26 (by decide +kernel) (hts (.fieldLink RX13 341 "ClauseBookModel" "taped" "I") (List.mem_of_getElem? (i := 2) rfl)) (fun _ h9 => h9) rfl dX13_feed_60 ?_
        refine lv_iconst (v := 1) hx hb dX13_feed_63 (by decide +kernel) ?_
        refine lv_iadd hx hb dX13_feed_64 ?_
        refine lv_topi (fun z_6 ez_6 => ?_)
        refine va_put (D := D) (ci := 10) (v := .int z_6) (ty := .int) (C := RX13) (T := TX13) (N := 45) hx hb hts in_X13_feed_X13 tyX13 tyX13_ok nmX13 hown hE.1 hP hD hS 0 rfl rfl 26 (by decide +kernel) (hts (.fieldLink RX13 341 "ClauseBookModel" "taped" "I") (List.mem_of_getElem? (i := 2) rfl)) (fun _ h9 => h9) rfl (by decide +kernel) rfl rfl (Nat.le_of_ble_eq_true rfl) dX13_feed_65 (fun H locs hP hD hS => ?_)
        obtain ⟨hP, hD⟩ := wPD [(h0, .inr (10, (Value.int (q 0) :: Value.int (q 1) :: Value.int (q 2) :: Value.int (q 3) :: Value.int (q 4) :: Value.int (q 5) :: Value.int (q 6) :: Value.int (q 7) :: Value.ref (a 8) :: Value.ref (a 9) :: Value.ref (a 10) :: Value.ref (a 11) :: Value.ref (a 12) :: Value.ref (a 13) :: Value.int (q 14) :: Value.long v :: Value.long w :: Value.ref (a 17) :: Value.ref (a 18) :: Value.ref (a 19) :: Value.ref (a 20) :: Value.ref (a 21) :: Value.ref (a 22) :: Value.ref (a 23) :: Value.int (q 24) :: Value.ref (a 25) :: Value.int z_6 :: Value.ref (a 27) :: Value.int (q 28) :: Value.int (q 29) :: Value.int (q 30) :: Value.int (q 31) :: Value.int (q 32) :: Value.int (q 33) :: Value.ref (a 34) :: Value.ref (a 35) :: Value.ref (a 36) :: Value.ref (a 37) :: Value.ref (a 38) :: Value.ref (a 39) :: Value.ref (a 40) :: Value.int (q 41) :: Value.ref (a 42) :: Value.int (q 43) :: Value.int (q 44) :: []))), ((a 25), .inl (T 0, 120, .inl (upd g25 (tt.toNatClampNeg) (z_5 &&& 255))))] hP hD rfl
        obtain ⟨z_7, ez_7⟩ : ∃ y : Int32, y = kk + 1 := ⟨_, rfl⟩
        refine lv_iinc (v := z_7) (lv' := [(3, .int z_7), (0, .ref h0), (1, .int x1), (2, .int x2)]) hx hb dX13_feed_68 hl (k := 0) rfl (by rw [ez_7]; rfl) (by decide +kernel) rfl (fun ls hl => ?_)
        have hi9 : z_7.toInt = kk.toInt + 1 := by rw [ez_7]; exact inc1 (n := 1000) (by omega) (by decide +kernel)
        have ht9 : z_6.toInt = tt.toInt + 1 := by rw [ez_6]; exact inc1 (n := 1000) (by omega) (by decide +kernel)
        refine lv_goto (tgt := 31) hx hb dX13_feed_71 (by decide +kernel) ?_
        exact ih (z_7, z_6, (upd g25 (tt.toNatClampNeg) (z_5 &&& 255))) ls _ _ ⟨lv_sub hl [0, 1, 2, 3] rfl, hP.sub [0, 1] rfl, hD.sub [0, 1] (by decide +kernel) rfl, hS, ⟨(by (try dsimp only); omega), (by (try dsimp only); exact fdF_step (n := (q 26)) (i := kk) (by omega) (by omega) hi9 (by omega) hfi (by rw [← ez_5]; rfl))⟩⟩ (by (try dsimp only); omega)
    · rw [fa_le] at c_3
      try rw [ti_120] at c_3
      refine lv_bipush (v := (-4)) hx hb dX13_feed_26 (by decide +kernel) ?_
      exact W.iret hx hb hr (fun t ht hW => ⟨⟨_, ((q 26), f25), rfl, ⟨(show 0 ≤ (q 26).toInt ∧ (q 26).toInt ≤ 120 from (by first | omega | (subst_vars; omega))), (show ((¬ (1 ≤ x1.toInt ∧ x1.toInt ≤ 4) ∧ ((-4) : Int32).toInt = -2 ∧ (q 26).toInt = (q 26).toInt) ∨ ((1 ≤ x1.toInt ∧ x1.toInt ≤ 4) ∧ 120 < (q 26).toInt + x1.toInt ∧ ((-4) : Int32).toInt = -4 ∧ (q 26).toInt = (q 26).toInt) ∨ ((1 ≤ x1.toInt ∧ x1.toInt ≤ 4) ∧ (q 26).toInt + x1.toInt ≤ 120 ∧ ((-4) : Int32).toInt = (q 26).toInt ∧ (q 26).toInt = (q 26).toInt + x1.toInt)) from (Or.inr (Or.inl ⟨by omega, by omega, by decide, rfl⟩))), (show ((1 ≤ x1.toInt ∧ x1.toInt ≤ 4) ∧ (q 26).toInt + x1.toInt ≤ 120 → f25 = fdF f25 ((q 26)).toNatClampNeg x2 x1.toNatClampNeg) ∧ (¬ ((1 ≤ x1.toInt ∧ x1.toInt ≤ 4) ∧ (q 26).toInt + x1.toInt ≤ 120) → f25 = f25) from ⟨(fun h9 => absurd h9 (by omega)), (fun _ => rfl)⟩)⟩, by rw [ht]; exact hP.sub [0, 1] rfl, hD.sub [0, 1] (by decide +kernel) rfl⟩, hS.F ht⟩) hS.2.2 dX13_feed_28
  · refine lv_if_ne (tgt := 15) hx hb dX13_feed_9 (by decide +kernel) (fun c9 => absurd c9 (by decide +kernel)) (fun _ => ?_)
    refine lv_bipush (v := (-2)) hx hb dX13_feed_12 (by decide +kernel) ?_
    exact W.iret hx hb hr (fun t ht hW => ⟨⟨_, ((q 26), f25), rfl, ⟨(show 0 ≤ (q 26).toInt ∧ (q 26).toInt ≤ 120 from (by first | omega | (subst_vars; omega))), (show ((¬ (1 ≤ x1.toInt ∧ x1.toInt ≤ 4) ∧ ((-2) : Int32).toInt = -2 ∧ (q 26).toInt = (q 26).toInt) ∨ ((1 ≤ x1.toInt ∧ x1.toInt ≤ 4) ∧ 120 < (q 26).toInt + x1.toInt ∧ ((-2) : Int32).toInt = -4 ∧ (q 26).toInt = (q 26).toInt) ∨ ((1 ≤ x1.toInt ∧ x1.toInt ≤ 4) ∧ (q 26).toInt + x1.toInt ≤ 120 ∧ ((-2) : Int32).toInt = (q 26).toInt ∧ (q 26).toInt = (q 26).toInt + x1.toInt)) from (Or.inl ⟨by omega, by decide, rfl⟩)), (show ((1 ≤ x1.toInt ∧ x1.toInt ≤ 4) ∧ (q 26).toInt + x1.toInt ≤ 120 → f25 = fdF f25 ((q 26)).toNatClampNeg x2 x1.toNatClampNeg) ∧ (¬ ((1 ≤ x1.toInt ∧ x1.toInt ≤ 4) ∧ (q 26).toInt + x1.toInt ≤ 120) → f25 = f25) from ⟨(fun h9 => absurd h9 (by omega)), (fun _ => rfl)⟩)⟩, by rw [ht]; exact hP.sub [0, 1] rfl, hD.sub [0, 1] (by decide +kernel) rfl⟩, hS.F ht⟩) hS.2.2 dX13_feed_14
theorem dX13_here_0 : decode cX13_here 0 = .ok (.aload_n 0, 1) := by decide +kernel
theorem dX13_here_1 : decode cX13_here 1 = .ok (.getfield 344, 3) := by decide +kernel
theorem dX13_here_11 : decode cX13_here 11 = .ok (.aload_n 0, 1) := by decide +kernel
theorem dX13_here_12 : decode cX13_here 12 = .ok (.getfield 70, 3) := by decide +kernel
theorem dX13_here_15 : decode cX13_here 15 = .ok (.aload_n 0, 1) := by decide +kernel
theorem dX13_here_16 : decode cX13_here 16 = .ok (.getfield 344, 3) := by decide +kernel
theorem dX13_here_19 : decode cX13_here 19 = .ok (.iaload, 1) := by decide +kernel
theorem dX13_here_20 : decode cX13_here 20 = .ok (.goto 4, 3) := by decide +kernel
theorem dX13_here_23 : decode cX13_here 23 = .ok (.iconst (-1), 1) := by decide +kernel
theorem dX13_here_24 : decode cX13_here 24 = .ok (.ireturn, 1) := by decide +kernel
theorem dX13_here_4 : decode cX13_here 4 = .ok (.aload_n 0, 1) := by decide +kernel
theorem dX13_here_5 : decode cX13_here 5 = .ok (.getfield 341, 3) := by decide +kernel
theorem dX13_here_8 : decode cX13_here 8 = .ok (.if_icmp .ge 15, 3) := by decide +kernel
set_option maxRecDepth 20000 in
theorem in_X13_here_X13 : ∀ w ∈ wsX130, w ∈ wsX13_here := sub_r [4, 5, 6, 7, 8, 9, 10, 11, 12, 13, 14, 15, 16, 17, 18, 19, 20, 21, 22, 23, 24, 25, 26, 27, 28, 29, 30, 31, 32, 33, 34, 35, 36, 37, 38, 39, 40, 41, 42, 43, 44, 45, 46, 47, 48] rfl
set_option maxHeartbeats 4000000 in
set_option maxRecDepth 100000 in
theorem c_X13_here (l : Launch) (D : va_G) (T : Nat → ClassId) (h0 : Nat) (fs0 : List Value) (h1 : Nat) (f1 : Nat → Int32) (cu : Int32) (n : Int32) (e0_28 : fs0[28]? = some (.int cu)) (e0_26 : fs0[26]? = some (.int n)) (e0_25 : fs0[25]? = some (.ref h1)) (hcu : 0 ≤ cu.toInt ∧ cu.toInt ≤ n.toInt ∧ n.toInt ≤ 120) : Met l yX13_here wsX13_here ({ frames := 0, cells := 0, slots := 0, locals := 0 }) (pR [.ref h0] D T [(h0, .inr (10, fs0)), (h1, .inl (T 0, 120, .inl f1))]) (vp_Si (fun r => (r.toInt = -1 ∧ n.toInt ≤ cu.toInt) ∨ (cu.toInt < n.toInt ∧ r = f1 (cu.toNatClampNeg)))) 0 0 (fun _ => False) := by
  refine Met.ofW (cc := cX13_here) (maxL := 1) (ret := (some .int)) (by decide +kernel) rfl ?_
  intro p e s m args below meth c s₁ B hml hv
  obtain ⟨rfl, hP, hE⟩ := hv
  have hx := B.exec
  have hb := B.bytes
  have hr := B.returns
  have hts := atoms_spec (ws := wsX13_here) B.pre
  have hown : s.vm.findClass RX13 = some m.cls := findClass_of_methodNamed B.named
  have hlocks := B.notSynchronized
  have hP : va_P D vwCl [(h0, .inr (10, fs0)), (h1, .inl (T 0, 120, .inl f1))] s.heap := hP
  have hl := lv_entry ([.ref h0]) (n := 1) (Nat.le_of_ble_eq_true rfl)
  rw [lg_entry_eq]
  generalize (lg_sl ([.ref h0]) ++ List.replicate (1 - (lg_sl ([.ref h0])).length) Slot.unset).toArray = ls at hl ⊢
  have hl : lv_has ls 1 [(0, .ref h0)] := hl
  refine lv_aload_n hx hb dX13_here_0 rfl (lv_at hl 0 rfl) ?_
  refine va_get (D := D) (ci := 10) (v := .int cu) (C := RX13) (T := TX13) (N := 45) hx hb hts in_X13_here_X13 hown hE.1 hP 0 rfl rfl 28 (by decide +kernel) (hts (.fieldLink RX13 344 "ClauseBookModel" "cursor" "I") (List.mem_of_getElem? (i := 1) rfl)) (fun _ h9 => h9) e0_28 dX13_here_1 ?_
  refine lv_aload_n hx hb dX13_here_4 rfl (lv_at hl 0 rfl) ?_
  refine va_get (D := D) (ci := 10) (v := .int n) (C := RX13) (T := TX13) (N := 45) hx hb hts in_X13_here_X13 hown hE.1 hP 0 rfl rfl 26 (by decide +kernel) (hts (.fieldLink RX13 341 "ClauseBookModel" "taped" "I") (List.mem_of_getElem? (i := 2) rfl)) (fun _ h9 => h9) e0_26 dX13_here_5 ?_
  refine lv_icmp_ge (tgt := 23) hx hb dX13_here_8 (by decide +kernel) (fun c_1 => ?_) (fun c_1 => ?_)
  · rw [fa_le] at c_1
    refine lv_iconst (v := (-1)) hx hb dX13_here_23 (by decide +kernel) ?_
    exact W.iret hx hb hr (fun t ht hW => ⟨_, rfl, (Or.inl ⟨by decide, by omega⟩), ht⟩) (fun _ h => by cases h) dX13_here_24
  · rw [fa_le] at c_1
    refine lv_aload_n hx hb dX13_here_11 rfl (lv_at hl 0 rfl) ?_
    refine va_get (D := D) (ci := 10) (v := .ref h1) (C := RX13) (T := TX13) (N := 45) hx hb hts in_X13_here_X13 hown hE.1 hP 0 rfl rfl 25 (by decide +kernel) (hts (.fieldLink RX13 70 "ClauseBookModel" "tape" "[I") (List.mem_of_getElem? (i := 3) rfl)) (fun _ h9 => h9) e0_25 dX13_here_12 ?_
    refine lv_aload_n hx hb dX13_here_15 rfl (lv_at hl 0 rfl) ?_
    refine va_get (D := D) (ci := 10) (v := .int cu) (C := RX13) (T := TX13) (N := 45) hx hb hts in_X13_here_X13 hown hE.1 hP 0 rfl rfl 28 (by decide +kernel) (hts (.fieldLink RX13 344 "ClauseBookModel" "cursor" "I") (List.mem_of_getElem? (i := 1) rfl)) (fun _ h9 => h9) e0_28 dX13_here_16 ?_
    refine va_iald hx hb hE.1 hP 1 0 rfl rfl (by rw [vp_in_iff]; first | omega | (subst_vars; omega)) dX13_here_19 ?_
    refine lv_topi (fun z_2 ez_2 => ?_)
    refine lv_goto (tgt := 24) hx hb dX13_here_20 (by decide +kernel) ?_
    exact W.iret hx hb hr (fun t ht hW => ⟨_, rfl, (Or.inr ⟨by omega, ez_2⟩), ht⟩) (fun _ h => by cases h) dX13_here_24
theorem dX13_isDigit_0 : decode cX13_isDigit 0 = .ok (.aload_n 0, 1) := by decide +kernel
theorem dX13_isDigit_1 : decode cX13_isDigit 1 = .ok (.invokevirtual 350, 3) := by decide +kernel
theorem dX13_isDigit_11 : decode cX13_isDigit 11 = .ok (.invokestatic 175, 3) := by decide +kernel
theorem dX13_isDigit_14 : decode cX13_isDigit 14 = .ok (.ireturn, 1) := by decide +kernel
theorem dX13_isDigit_4 : decode cX13_isDigit 4 = .ok (.i2l, 1) := by decide +kernel
theorem dX13_isDigit_5 : decode cX13_isDigit 5 = .ok (.ldc2_w 354, 3) := by decide +kernel
theorem dX13_isDigit_8 : decode cX13_isDigit 8 = .ok (.ldc2_w 356, 3) := by decide +kernel
set_option maxRecDepth 20000 in
theorem ggX13_isDigit_X13_here : GoodIn wsX13_isDigit wsX13_here := goodIn_r _ [7, 8, 9, 10, 14, 15, 16, 17, 18, 19, 20, 21, 22, 23, 24, 25, 26, 27, 28, 29, 30, 31, 32, 33, 34, 35, 36, 37, 38, 39, 40, 41, 42, 43, 44, 45, 46, 47, 48, 49, 50, 51, 52, 53, 54, 55, 56, 57, 58] rfl (by decide +kernel)
set_option maxRecDepth 20000 in
theorem ggX13_isDigit_X13_in : GoodIn wsX13_isDigit wsX13_in := goodIn_r _ [13] rfl (by decide +kernel)
set_option maxRecDepth 20000 in
theorem gX13_isDigit_X13_here : GoodIn wsX13_isDigit (wsV RX13 350 RX13 yX13_here wsX13_here) := goodIn_app (goodIn_r _ [3, 4, 5, 6] rfl (by decide +kernel)) ggX13_isDigit_X13_here
set_option maxRecDepth 20000 in
theorem gX13_isDigit_X13_in : GoodIn wsX13_isDigit (va_wsS RX13 175 yX13_in wsX13_in) := goodIn_app (goodIn_of _ (by decide +kernel)) ggX13_isDigit_X13_in
theorem hv_X13_here : yX13_here.cls = RX13 ∧ yX13_here.cls ≠ "java/lang/invoke/MethodHandle" ∧ yX13_here.cls ≠ "java/lang/invoke/VarHandle" ∧ (parseMethodDescriptor yX13_here.desc).map (fun d => d.parameters.length) = some 0 := by decide +kernel
set_option maxHeartbeats 4000000 in
set_option maxRecDepth 100000 in
theorem c_X13_isDigit (l : Launch) (D : va_G) (T : Nat → ClassId) (h0 : Nat) (fs0 : List Value) (h1 : Nat) (f1 : Nat → Int32) (cu : Int32) (n : Int32) (e0_28 : fs0[28]? = some (.int cu)) (e0_26 : fs0[26]? = some (.int n)) (e0_25 : fs0[25]? = some (.ref h1)) (hcu : 0 ≤ cu.toInt ∧ cu.toInt ≤ n.toInt ∧ n.toInt ≤ 120) : Met l yX13_isDigit wsX13_isDigit ({ frames := 1, cells := 0, slots := 0, locals := 25 }) (pR [.ref h0] D T [(h0, .inr (10, fs0)), (h1, .inl (T 0, 120, .inl f1))]) (vp_Si (fun r => r = if cu.toInt < n.toInt ∧ 48 ≤ (f1 (cu.toNatClampNeg)).toInt ∧ (f1 (cu.toNatClampNeg)).toInt ≤ 57 then 1 else 0)) 0 0 (fun _ => False) := by
  refine Met.ofW (cc := cX13_isDigit) (maxL := 1) (ret := (some .boolean)) (by decide +kernel) rfl ?_
  intro p e s m args below meth c s₁ B hml hv
  obtain ⟨rfl, hP, hE⟩ := hv
  have hx := B.exec
  have hb := B.bytes
  have hr := B.returns
  have hts := atoms_spec (ws := wsX13_isDigit) B.pre
  have hown : s.vm.findClass RX13 = some m.cls := findClass_of_methodNamed B.named
  have hlocks := B.notSynchronized
  have hP : va_P D vwCl [(h0, .inr (10, fs0)), (h1, .inl (T 0, 120, .inl f1))] s.heap := hP
  have hl := lv_entry ([.ref h0]) (n := 1) (Nat.le_of_ble_eq_true rfl)
  rw [lg_entry_eq]
  generalize (lg_sl ([.ref h0]) ++ List.replicate (1 - (lg_sl ([.ref h0])).length) Slot.unset).toArray = ls at hl ⊢
  have hl : lv_has ls 1 [(0, .ref h0)] := hl
  refine lv_aload_n hx hb dX13_isDigit_0 rfl (lv_at hl 0 rfl) ?_
  refine vp_callSi (W.runV (As := []) (rest := []) ⟨hx, hb, hml, hown, hts⟩ (c_X13_here l D T h0 fs0 h1 f1 cu n e0_28 e0_26 e0_25 (by omega)) (cwV 0 hts gX13_isDigit_X13_here rfl rfl rfl hv_X13_here ⟨Nat.le_of_ble_eq_true rfl, Nat.le_of_ble_eq_true rfl⟩) (pR_V (q := (RX13, TX13, 45)) (ci := 10) (q0 := 0) hP hE rfl rfl [0, 1] rfl) rfl rfl hl.1 rfl (lv_room (Nat.le_of_ble_eq_true rfl)) dX13_isDigit_1 ⟨Nat.le_of_ble_eq_true rfl, Nat.le_of_ble_eq_true rfl⟩) (fun r_1 hr_1 => ?_)
  refine lv_i2l hx hb dX13_isDigit_4 rfl ?_
  refine lv_ldc2 (v := 48) hx hb hown (hts (.constantLong RX13 354 (48)) (List.mem_of_getElem? (i := 1) rfl)) dX13_isDigit_5 ?_
  refine lv_ldc2 (v := 57) hx hb hown (hts (.constantLong RX13 356 (57)) (List.mem_of_getElem? (i := 2) rfl)) dX13_isDigit_8 ?_
  refine vp_callSi (W.runS (As := [.long (r_1.toInt64), .long 48, .long 57]) (rest := []) ⟨hx, hb, hml, hown, hts⟩ (c_X13_in l D T (r_1.toInt64) 48 57 r_1.toInt 48 57 ((Int32.toInt_toInt64 _).trans rfl) (by decide +kernel) (by decide +kernel)) (va_cwS 3 hts gX13_isDigit_X13_in rfl rfl rfl hs_X13_in ⟨Nat.le_of_ble_eq_true rfl, Nat.le_of_ble_eq_true rfl⟩) (pR_S hP hE [] rfl) rfl rfl hl.1 rfl (lv_room (Nat.le_of_ble_eq_true rfl)) dX13_isDigit_11 ⟨Nat.le_of_ble_eq_true rfl, Nat.le_of_ble_eq_true rfl⟩) (fun r_2 hr_2 => ?_)
  rcases bool_post hr_2 with ⟨c_3, rfl⟩ | ⟨c_3, rfl⟩
  · exact W.zret hx hb hr rfl (fun t ht hW => ⟨_, rfl, (by rcases hr_1 with ⟨h8, h7⟩ | ⟨h8, h7⟩ <;> (try rw [← h7]) <;> exact (if_pos (by omega)).symm), ht⟩) (fun _ h => by cases h) dX13_isDigit_14
  · exact W.zret hx hb hr rfl (fun t ht hW => ⟨_, rfl, (by rcases hr_1 with ⟨h8, h7⟩ | ⟨h8, h7⟩ <;> (try rw [← h7]) <;> exact (if_neg (by omega)).symm), ht⟩) (fun _ h => by cases h) dX13_isDigit_14
theorem dX13_must_0 : decode cX13_must 0 = .ok (.aload_n 0, 1) := by decide +kernel
theorem dX13_must_1 : decode cX13_must 1 = .ok (.iload_n 1, 1) := by decide +kernel
theorem dX13_must_12 : decode cX13_must 12 = .ok (.iload_n 2, 1) := by decide +kernel
theorem dX13_must_13 : decode cX13_must 13 = .ok (.putfield 347, 3) := by decide +kernel
theorem dX13_must_16 : decode cX13_must 16 = .ok (.iload_n 1, 1) := by decide +kernel
theorem dX13_must_17 : decode cX13_must 17 = .ok (.ireturn, 1) := by decide +kernel
theorem dX13_must_2 : decode cX13_must 2 = .ok (.ifCond .eq 10, 3) := by decide +kernel
theorem dX13_must_5 : decode cX13_must 5 = .ok (.aload_n 0, 1) := by decide +kernel
theorem dX13_must_6 : decode cX13_must 6 = .ok (.getfield 347, 3) := by decide +kernel
theorem dX13_must_9 : decode cX13_must 9 = .ok (.goto 4, 3) := by decide +kernel
set_option maxRecDepth 20000 in
theorem in_X13_must_X13 : ∀ w ∈ wsX130, w ∈ wsX13_must := sub_r [2, 3, 4, 5, 6, 7, 8, 9, 10, 11, 12, 13, 14, 15, 16, 17, 18, 19, 20, 21, 22, 23, 24, 25, 26, 27, 28, 29, 30, 31, 32, 33, 34, 35, 36, 37, 38, 39, 40, 41, 42, 43, 44, 45, 46] rfl
set_option maxHeartbeats 4000000 in
set_option maxRecDepth 100000 in
theorem c_X13_must (l : Launch) (D : va_G) (T : Nat → ClassId) (sz : Nat) (h0 : Nat) (q : Nat → Int32) (v : Int64) (w : Int64) (a : Nat → Nat) (x1 : Int32) (x2 : Int32) (hgb : isB x1) : Met l yX13_must wsX13_must ({ frames := 0, cells := 0, slots := 0, locals := 0 }) (pW [.ref h0, .int x1, .int x2] D T [(h0, .inr (10, (Value.int (q 0) :: Value.int (q 1) :: Value.int (q 2) :: Value.int (q 3) :: Value.int (q 4) :: Value.int (q 5) :: Value.int (q 6) :: Value.int (q 7) :: Value.ref (a 8) :: Value.ref (a 9) :: Value.ref (a 10) :: Value.ref (a 11) :: Value.ref (a 12) :: Value.ref (a 13) :: Value.int (q 14) :: Value.long v :: Value.long w :: Value.ref (a 17) :: Value.ref (a 18) :: Value.ref (a 19) :: Value.ref (a 20) :: Value.ref (a 21) :: Value.ref (a 22) :: Value.ref (a 23) :: Value.int (q 24) :: Value.ref (a 25) :: Value.int (q 26) :: Value.ref (a 27) :: Value.int (q 28) :: Value.int (q 29) :: Value.int (q 30) :: Value.int (q 31) :: Value.int (q 32) :: Value.int (q 33) :: Value.ref (a 34) :: Value.ref (a 35) :: Value.ref (a 36) :: Value.ref (a 37) :: Value.ref (a 38) :: Value.ref (a 39) :: Value.ref (a 40) :: Value.int (q 41) :: Value.ref (a 42) :: Value.int (q 43) :: Value.int (q 44) :: [])))] sz) (va_Qi (fun (r : Int32) (u : (Int32)) => (r = x1) ∧ (isB r) ∧ ((x1.toInt = 0 → u = x2) ∧ (¬ x1.toInt = 0 → u = (q 29)))) (bW D (va_A [(h0, .inr (10, (Value.int (q 0) :: Value.int (q 1) :: Value.int (q 2) :: Value.int (q 3) :: Value.int (q 4) :: Value.int (q 5) :: Value.int (q 6) :: Value.int (q 7) :: Value.ref (a 8) :: Value.ref (a 9) :: Value.ref (a 10) :: Value.ref (a 11) :: Value.ref (a 12) :: Value.ref (a 13) :: Value.int (q 14) :: Value.long v :: Value.long w :: Value.ref (a 17) :: Value.ref (a 18) :: Value.ref (a 19) :: Value.ref (a 20) :: Value.ref (a 21) :: Value.ref (a 22) :: Value.ref (a 23) :: Value.int (q 24) :: Value.ref (a 25) :: Value.int (q 26) :: Value.ref (a 27) :: Value.int (q 28) :: Value.int (q 29) :: Value.int (q 30) :: Value.int (q 31) :: Value.int (q 32) :: Value.int (q 33) :: Value.ref (a 34) :: Value.ref (a 35) :: Value.ref (a 36) :: Value.ref (a 37) :: Value.ref (a 38) :: Value.ref (a 39) :: Value.ref (a 40) :: Value.int (q 41) :: Value.ref (a 42) :: Value.int (q 43) :: Value.int (q 44) :: [])))] sz) (fun (u : (Int32)) => [(h0, .inr (10, (Value.int (q 0) :: Value.int (q 1) :: Value.int (q 2) :: Value.int (q 3) :: Value.int (q 4) :: Value.int (q 5) :: Value.int (q 6) :: Value.int (q 7) :: Value.ref (a 8) :: Value.ref (a 9) :: Value.ref (a 10) :: Value.ref (a 11) :: Value.ref (a 12) :: Value.ref (a 13) :: Value.int (q 14) :: Value.long v :: Value.long w :: Value.ref (a 17) :: Value.ref (a 18) :: Value.ref (a 19) :: Value.ref (a 20) :: Value.ref (a 21) :: Value.ref (a 22) :: Value.ref (a 23) :: Value.int (q 24) :: Value.ref (a 25) :: Value.int (q 26) :: Value.ref (a 27) :: Value.int (q 28) :: Value.int u :: Value.int (q 30) :: Value.int (q 31) :: Value.int (q 32) :: Value.int (q 33) :: Value.ref (a 34) :: Value.ref (a 35) :: Value.ref (a 36) :: Value.ref (a 37) :: Value.ref (a 38) :: Value.ref (a 39) :: Value.ref (a 40) :: Value.int (q 41) :: Value.ref (a 42) :: Value.int (q 43) :: Value.int (q 44) :: [])))])) (va_A [(h0, .inr (10, (Value.int (q 0) :: Value.int (q 1) :: Value.int (q 2) :: Value.int (q 3) :: Value.int (q 4) :: Value.int (q 5) :: Value.int (q 6) :: Value.int (q 7) :: Value.ref (a 8) :: Value.ref (a 9) :: Value.ref (a 10) :: Value.ref (a 11) :: Value.ref (a 12) :: Value.ref (a 13) :: Value.int (q 14) :: Value.long v :: Value.long w :: Value.ref (a 17) :: Value.ref (a 18) :: Value.ref (a 19) :: Value.ref (a 20) :: Value.ref (a 21) :: Value.ref (a 22) :: Value.ref (a 23) :: Value.int (q 24) :: Value.ref (a 25) :: Value.int (q 26) :: Value.ref (a 27) :: Value.int (q 28) :: Value.int (q 29) :: Value.int (q 30) :: Value.int (q 31) :: Value.int (q 32) :: Value.int (q 33) :: Value.ref (a 34) :: Value.ref (a 35) :: Value.ref (a 36) :: Value.ref (a 37) :: Value.ref (a 38) :: Value.ref (a 39) :: Value.ref (a 40) :: Value.int (q 41) :: Value.ref (a 42) :: Value.int (q 43) :: Value.int (q 44) :: [])))] sz)) 0 0 (va_A [(h0, .inr (10, (Value.int (q 0) :: Value.int (q 1) :: Value.int (q 2) :: Value.int (q 3) :: Value.int (q 4) :: Value.int (q 5) :: Value.int (q 6) :: Value.int (q 7) :: Value.ref (a 8) :: Value.ref (a 9) :: Value.ref (a 10) :: Value.ref (a 11) :: Value.ref (a 12) :: Value.ref (a 13) :: Value.int (q 14) :: Value.long v :: Value.long w :: Value.ref (a 17) :: Value.ref (a 18) :: Value.ref (a 19) :: Value.ref (a 20) :: Value.ref (a 21) :: Value.ref (a 22) :: Value.ref (a 23) :: Value.int (q 24) :: Value.ref (a 25) :: Value.int (q 26) :: Value.ref (a 27) :: Value.int (q 28) :: Value.int (q 29) :: Value.int (q 30) :: Value.int (q 31) :: Value.int (q 32) :: Value.int (q 33) :: Value.ref (a 34) :: Value.ref (a 35) :: Value.ref (a 36) :: Value.ref (a 37) :: Value.ref (a 38) :: Value.ref (a 39) :: Value.ref (a 40) :: Value.int (q 41) :: Value.ref (a 42) :: Value.int (q 43) :: Value.int (q 44) :: [])))] sz) := by
  refine Met.ofW (cc := cX13_must) (maxL := 3) (ret := (some .boolean)) (by decide +kernel) rfl ?_
  intro p e s m args below meth c s₁ B hml hv
  obtain ⟨rfl, hsz, hP, hE, hD0⟩ := hv
  have hx := B.exec
  have hb := B.bytes
  have hr := B.returns
  have hts := atoms_spec (ws := wsX13_must) B.pre
  have hown : s.vm.findClass RX13 = some m.cls := findClass_of_methodNamed B.named
  have hlocks := B.notSynchronized
  subst hsz
  have hD := hD0.self (sz := s.heap.size)
  generalize hAe : va_A [(h0, .inr (10, (Value.int (q 0) :: Value.int (q 1) :: Value.int (q 2) :: Value.int (q 3) :: Value.int (q 4) :: Value.int (q 5) :: Value.int (q 6) :: Value.int (q 7) :: Value.ref (a 8) :: Value.ref (a 9) :: Value.ref (a 10) :: Value.ref (a 11) :: Value.ref (a 12) :: Value.ref (a 13) :: Value.int (q 14) :: Value.long v :: Value.long w :: Value.ref (a 17) :: Value.ref (a 18) :: Value.ref (a 19) :: Value.ref (a 20) :: Value.ref (a 21) :: Value.ref (a 22) :: Value.ref (a 23) :: Value.int (q 24) :: Value.ref (a 25) :: Value.int (q 26) :: Value.ref (a 27) :: Value.int (q 28) :: Value.int (q 29) :: Value.int (q 30) :: Value.int (q 31) :: Value.int (q 32) :: Value.int (q 33) :: Value.ref (a 34) :: Value.ref (a 35) :: Value.ref (a 36) :: Value.ref (a 37) :: Value.ref (a 38) :: Value.ref (a 39) :: Value.ref (a 40) :: Value.int (q 41) :: Value.ref (a 42) :: Value.int (q 43) :: Value.int (q 44) :: [])))] s.heap.size = A at hD ⊢
  have hA : ∀ q : Nat, s.heap.size ≤ q → A q := fun q h => by rw [← hAe]; exact Or.inr h
  have hS : va_S A s.heap s.heap [] := va_S.rf
  have hP : va_P D vwCl [(h0, .inr (10, (Value.int (q 0) :: Value.int (q 1) :: Value.int (q 2) :: Value.int (q 3) :: Value.int (q 4) :: Value.int (q 5) :: Value.int (q 6) :: Value.int (q 7) :: Value.ref (a 8) :: Value.ref (a 9) :: Value.ref (a 10) :: Value.ref (a 11) :: Value.ref (a 12) :: Value.ref (a 13) :: Value.int (q 14) :: Value.long v :: Value.long w :: Value.ref (a 17) :: Value.ref (a 18) :: Value.ref (a 19) :: Value.ref (a 20) :: Value.ref (a 21) :: Value.ref (a 22) :: Value.ref (a 23) :: Value.int (q 24) :: Value.ref (a 25) :: Value.int (q 26) :: Value.ref (a 27) :: Value.int (q 28) :: Value.int (q 29) :: Value.int (q 30) :: Value.int (q 31) :: Value.int (q 32) :: Value.int (q 33) :: Value.ref (a 34) :: Value.ref (a 35) :: Value.ref (a 36) :: Value.ref (a 37) :: Value.ref (a 38) :: Value.ref (a 39) :: Value.ref (a 40) :: Value.int (q 41) :: Value.ref (a 42) :: Value.int (q 43) :: Value.int (q 44) :: [])))] s.heap := hP
  have hl := lv_entry ([.ref h0, .int x1, .int x2]) (n := 3) (Nat.le_of_ble_eq_true rfl)
  rw [lg_entry_eq]
  generalize (lg_sl ([.ref h0, .int x1, .int x2]) ++ List.replicate (3 - (lg_sl ([.ref h0, .int x1, .int x2])).length) Slot.unset).toArray = ls at hl ⊢
  have hl : lv_has ls 3 [(0, .ref h0), (1, .int x1), (2, .int x2)] := hl
  clear hD0
  refine lv_aload_n hx hb dX13_must_0 rfl (lv_at hl 0 rfl) ?_
  refine lv_iload_n hx hb dX13_must_1 rfl (lv_at hl 1 rfl) ?_
  refine lv_if_eq (tgt := 12) hx hb dX13_must_2 (by decide +kernel) (fun c_1 => ?_) (fun c_1 => ?_)
  · rw [fa_eq] at c_1
    try rw [ti_0] at c_1
    refine lv_iload_n hx hb dX13_must_12 rfl (lv_at hl 2 rfl) ?_
    refine va_put (D := D) (ci := 10) (v := .int x2) (ty := .int) (C := RX13) (T := TX13) (N := 45) hx hb hts in_X13_must_X13 tyX13 tyX13_ok nmX13 hown hE.1 hP hD hS 0 rfl rfl 29 (by decide +kernel) (hts (.fieldLink RX13 347 "ClauseBookModel" "fault" "I") (List.mem_of_getElem? (i := 1) rfl)) (fun _ h9 => h9) rfl (by decide +kernel) rfl rfl (Nat.le_of_ble_eq_true rfl) dX13_must_13 (fun H locs hP hD hS => ?_)
    obtain ⟨hP, hD⟩ := wPD [(h0, .inr (10, (Value.int (q 0) :: Value.int (q 1) :: Value.int (q 2) :: Value.int (q 3) :: Value.int (q 4) :: Value.int (q 5) :: Value.int (q 6) :: Value.int (q 7) :: Value.ref (a 8) :: Value.ref (a 9) :: Value.ref (a 10) :: Value.ref (a 11) :: Value.ref (a 12) :: Value.ref (a 13) :: Value.int (q 14) :: Value.long v :: Value.long w :: Value.ref (a 17) :: Value.ref (a 18) :: Value.ref (a 19) :: Value.ref (a 20) :: Value.ref (a 21) :: Value.ref (a 22) :: Value.ref (a 23) :: Value.int (q 24) :: Value.ref (a 25) :: Value.int (q 26) :: Value.ref (a 27) :: Value.int (q 28) :: Value.int x2 :: Value.int (q 30) :: Value.int (q 31) :: Value.int (q 32) :: Value.int (q 33) :: Value.ref (a 34) :: Value.ref (a 35) :: Value.ref (a 36) :: Value.ref (a 37) :: Value.ref (a 38) :: Value.ref (a 39) :: Value.ref (a 40) :: Value.int (q 41) :: Value.ref (a 42) :: Value.int (q 43) :: Value.int (q 44) :: [])))] hP hD rfl
    refine lv_iload_n hx hb dX13_must_16 rfl (lv_at hl 1 rfl) ?_
    exact W.zret hx hb hr (isB.nar hgb) (fun t ht hW => ⟨⟨_, x2, rfl, ⟨(show x1 = x1 from rfl), (show isB x1 from hgb), (show (x1.toInt = 0 → x2 = x2) ∧ (¬ x1.toInt = 0 → x2 = (q 29)) from ⟨(fun _ => rfl), (fun h9 => absurd (by omega) h9)⟩)⟩, by rw [ht]; exact hP.sub [0] rfl, hD.sub [0] (by decide +kernel) rfl⟩, hS.F ht⟩) hS.2.2 dX13_must_17
  · rw [fa_eq] at c_1
    try rw [ti_0] at c_1
    refine lv_aload_n hx hb dX13_must_5 rfl (lv_at hl 0 rfl) ?_
    refine va_get (D := D) (ci := 10) (v := .int (q 29)) (C := RX13) (T := TX13) (N := 45) hx hb hts in_X13_must_X13 hown hE.1 hP 0 rfl rfl 29 (by decide +kernel) (hts (.fieldLink RX13 347 "ClauseBookModel" "fault" "I") (List.mem_of_getElem? (i := 1) rfl)) (fun _ h9 => h9) rfl dX13_must_6 ?_
    refine lv_goto (tgt := 13) hx hb dX13_must_9 (by decide +kernel) ?_
    refine va_put (D := D) (ci := 10) (v := .int (q 29)) (ty := .int) (C := RX13) (T := TX13) (N := 45) hx hb hts in_X13_must_X13 tyX13 tyX13_ok nmX13 hown hE.1 hP hD hS 0 rfl rfl 29 (by decide +kernel) (hts (.fieldLink RX13 347 "ClauseBookModel" "fault" "I") (List.mem_of_getElem? (i := 1) rfl)) (fun _ h9 => h9) rfl (by decide +kernel) rfl rfl (Nat.le_of_ble_eq_true rfl) dX13_must_13 (fun H locs hP hD hS => ?_)
    obtain ⟨hP, hD⟩ := wPD [(h0, .inr (10, (Value.int (q 0) :: Value.int (q 1) :: Value.int (q 2) :: Value.int (q 3) :: Value.int (q 4) :: Value.int (q 5) :: Value.int (q 6) :: Value.int (q 7) :: Value.ref (a 8) :: Value.ref (a 9) :: Value.ref (a 10) :: Value.ref (a 11) :: Value.ref (a 12) :: Value.ref (a 13) :: Value.int (q 14) :: Value.long v :: Value.long w :: Value.ref (a 17) :: Value.ref (a 18) :: Value.ref (a 19) :: Value.ref (a 20) :: Value.ref (a 21) :: Value.ref (a 22) :: Value.ref (a 23) :: Value.int (q 24) :: Value.ref (a 25) :: Value.int (q 26) :: Value.ref (a 27) :: Value.int (q 28) :: Value.int (q 29) :: Value.int (q 30) :: Value.int (q 31) :: Value.int (q 32) :: Value.int (q 33) :: Value.ref (a 34) :: Value.ref (a 35) :: Value.ref (a 36) :: Value.ref (a 37) :: Value.ref (a 38) :: Value.ref (a 39) :: Value.ref (a 40) :: Value.int (q 41) :: Value.ref (a 42) :: Value.int (q 43) :: Value.int (q 44) :: [])))] hP hD rfl
    refine lv_iload_n hx hb dX13_must_16 rfl (lv_at hl 1 rfl) ?_
    exact W.zret hx hb hr (isB.nar hgb) (fun t ht hW => ⟨⟨_, (q 29), rfl, ⟨(show x1 = x1 from rfl), (show isB x1 from hgb), (show (x1.toInt = 0 → (q 29) = x2) ∧ (¬ x1.toInt = 0 → (q 29) = (q 29)) from ⟨(fun h9 => absurd h9 (by omega)), (fun _ => rfl)⟩)⟩, by rw [ht]; exact hP.sub [0] rfl, hD.sub [0] (by decide +kernel) rfl⟩, hS.F ht⟩) hS.2.2 dX13_must_17
theorem dX13_blanks_0 : decode cX13_blanks 0 = .ok (.aload_n 0, 1) := by decide +kernel
theorem dX13_blanks_1 : decode cX13_blanks 1 = .ok (.invokevirtual 350, 3) := by decide +kernel
theorem dX13_blanks_10 : decode cX13_blanks 10 = .ok (.dup, 1) := by decide +kernel
theorem dX13_blanks_11 : decode cX13_blanks 11 = .ok (.getfield 344, 3) := by decide +kernel
theorem dX13_blanks_14 : decode cX13_blanks 14 = .ok (.iconst 1, 1) := by decide +kernel
theorem dX13_blanks_15 : decode cX13_blanks 15 = .ok (.iadd, 1) := by decide +kernel
theorem dX13_blanks_16 : decode cX13_blanks 16 = .ok (.putfield 344, 3) := by decide +kernel
theorem dX13_blanks_19 : decode cX13_blanks 19 = .ok (.goto (-19), 3) := by decide +kernel
theorem dX13_blanks_22 : decode cX13_blanks 22 = .ok (.return_, 1) := by decide +kernel
theorem dX13_blanks_4 : decode cX13_blanks 4 = .ok (.bipush 32, 2) := by decide +kernel
theorem dX13_blanks_6 : decode cX13_blanks 6 = .ok (.if_icmp .ne 16, 3) := by decide +kernel
theorem dX13_blanks_9 : decode cX13_blanks 9 = .ok (.aload_n 0, 1) := by decide +kernel
set_option maxRecDepth 20000 in
theorem ggX13_blanks_X13_here : GoodIn wsX13_blanks wsX13_here := goodIn_r _ [6, 1, 7, 8, 9, 10, 11, 12, 13, 14, 15, 16, 17, 18, 19, 20, 21, 22, 23, 24, 25, 26, 27, 28, 29, 30, 31, 32, 33, 34, 35, 36, 37, 38, 39, 40, 41, 42, 43, 44, 45, 46, 47, 48, 49, 50, 51, 52, 53] rfl (by decide +kernel)
set_option maxRecDepth 20000 in
theorem gX13_blanks_X13_here : GoodIn wsX13_blanks (wsV RX13 350 RX13 yX13_here wsX13_here) := goodIn_app (goodIn_r _ [2, 3, 4, 5] rfl (by decide +kernel)) ggX13_blanks_X13_here
set_option maxRecDepth 20000 in
theorem in_X13_blanks_X13 : ∀ w ∈ wsX130, w ∈ wsX13_blanks := sub_r [9, 10, 11, 12, 13, 14, 15, 16, 17, 18, 19, 20, 21, 22, 23, 24, 25, 26, 27, 28, 29, 30, 31, 32, 33, 34, 35, 36, 37, 38, 39, 40, 41, 42, 43, 44, 45, 46, 47, 48, 49, 50, 51, 52, 53] rfl
set_option maxHeartbeats 4000000 in
set_option maxRecDepth 100000 in
theorem c_X13_blanks (l : Launch) (D : va_G) (T : Nat → ClassId) (sz : Nat) (h0 : Nat) (q : Nat → Int32) (v : Int64) (w : Int64) (a : Nat → Nat) (f25 : Nat → Int32) (hcu : 0 ≤ (q 28).toInt ∧ (q 28).toInt ≤ (q 26).toInt ∧ (q 26).toInt ≤ 120) : Met l yX13_blanks wsX13_blanks ({ frames := 1, cells := 0, slots := 0, locals := 20 }) (pW [.ref h0] D T [(h0, .inr (10, (Value.int (q 0) :: Value.int (q 1) :: Value.int (q 2) :: Value.int (q 3) :: Value.int (q 4) :: Value.int (q 5) :: Value.int (q 6) :: Value.int (q 7) :: Value.ref (a 8) :: Value.ref (a 9) :: Value.ref (a 10) :: Value.ref (a 11) :: Value.ref (a 12) :: Value.ref (a 13) :: Value.int (q 14) :: Value.long v :: Value.long w :: Value.ref (a 17) :: Value.ref (a 18) :: Value.ref (a 19) :: Value.ref (a 20) :: Value.ref (a 21) :: Value.ref (a 22) :: Value.ref (a 23) :: Value.int (q 24) :: Value.ref (a 25) :: Value.int (q 26) :: Value.ref (a 27) :: Value.int (q 28) :: Value.int (q 29) :: Value.int (q 30) :: Value.int (q 31) :: Value.int (q 32) :: Value.int (q 33) :: Value.ref (a 34) :: Value.ref (a 35) :: Value.ref (a 36) :: Value.ref (a 37) :: Value.ref (a 38) :: Value.ref (a 39) :: Value.ref (a 40) :: Value.int (q 41) :: Value.ref (a 42) :: Value.int (q 43) :: Value.int (q 44) :: []))), ((a 25), .inl (T 0, 120, .inl f25))] sz) (va_Qv (fun (u : (Int32)) => ((q 28).toInt ≤ u.toInt ∧ u.toInt ≤ (q 26).toInt) ∧ (rnP (isBl f25) ((q 26).toNatClampNeg) ((q 28).toNatClampNeg) (u.toNatClampNeg))) (bW D (va_A [(h0, .inr (10, (Value.int (q 0) :: Value.int (q 1) :: Value.int (q 2) :: Value.int (q 3) :: Value.int (q 4) :: Value.int (q 5) :: Value.int (q 6) :: Value.int (q 7) :: Value.ref (a 8) :: Value.ref (a 9) :: Value.ref (a 10) :: Value.ref (a 11) :: Value.ref (a 12) :: Value.ref (a 13) :: Value.int (q 14) :: Value.long v :: Value.long w :: Value.ref (a 17) :: Value.ref (a 18) :: Value.ref (a 19) :: Value.ref (a 20) :: Value.ref (a 21) :: Value.ref (a 22) :: Value.ref (a 23) :: Value.int (q 24) :: Value.ref (a 25) :: Value.int (q 26) :: Value.ref (a 27) :: Value.int (q 28) :: Value.int (q 29) :: Value.int (q 30) :: Value.int (q 31) :: Value.int (q 32) :: Value.int (q 33) :: Value.ref (a 34) :: Value.ref (a 35) :: Value.ref (a 36) :: Value.ref (a 37) :: Value.ref (a 38) :: Value.ref (a 39) :: Value.ref (a 40) :: Value.int (q 41) :: Value.ref (a 42) :: Value.int (q 43) :: Value.int (q 44) :: []))), ((a 25), .inl (T 0, 120, .inl f25))] sz) (fun (u : (Int32)) => [(h0, .inr (10, (Value.int (q 0) :: Value.int (q 1) :: Value.int (q 2) :: Value.int (q 3) :: Value.int (q 4) :: Value.int (q 5) :: Value.int (q 6) :: Value.int (q 7) :: Value.ref (a 8) :: Value.ref (a 9) :: Value.ref (a 10) :: Value.ref (a 11) :: Value.ref (a 12) :: Value.ref (a 13) :: Value.int (q 14) :: Value.long v :: Value.long w :: Value.ref (a 17) :: Value.ref (a 18) :: Value.ref (a 19) :: Value.ref (a 20) :: Value.ref (a 21) :: Value.ref (a 22) :: Value.ref (a 23) :: Value.int (q 24) :: Value.ref (a 25) :: Value.int (q 26) :: Value.ref (a 27) :: Value.int u :: Value.int (q 29) :: Value.int (q 30) :: Value.int (q 31) :: Value.int (q 32) :: Value.int (q 33) :: Value.ref (a 34) :: Value.ref (a 35) :: Value.ref (a 36) :: Value.ref (a 37) :: Value.ref (a 38) :: Value.ref (a 39) :: Value.ref (a 40) :: Value.int (q 41) :: Value.ref (a 42) :: Value.int (q 43) :: Value.int (q 44) :: []))), ((a 25), .inl (T 0, 120, .inl f25))])) (va_A [(h0, .inr (10, (Value.int (q 0) :: Value.int (q 1) :: Value.int (q 2) :: Value.int (q 3) :: Value.int (q 4) :: Value.int (q 5) :: Value.int (q 6) :: Value.int (q 7) :: Value.ref (a 8) :: Value.ref (a 9) :: Value.ref (a 10) :: Value.ref (a 11) :: Value.ref (a 12) :: Value.ref (a 13) :: Value.int (q 14) :: Value.long v :: Value.long w :: Value.ref (a 17) :: Value.ref (a 18) :: Value.ref (a 19) :: Value.ref (a 20) :: Value.ref (a 21) :: Value.ref (a 22) :: Value.ref (a 23) :: Value.int (q 24) :: Value.ref (a 25) :: Value.int (q 26) :: Value.ref (a 27) :: Value.int (q 28) :: Value.int (q 29) :: Value.int (q 30) :: Value.int (q 31) :: Value.int (q 32) :: Value.int (q 33) :: Value.ref (a 34) :: Value.ref (a 35) :: Value.ref (a 36) :: Value.ref (a 37) :: Value.ref (a 38) :: Value.ref (a 39) :: Value.ref (a 40) :: Value.int (q 41) :: Value.ref (a 42) :: Value.int (q 43) :: Value.int (q 44) :: []))), ((a 25), .inl (T 0, 120, .inl f25))] sz)) 0 0 (va_A [(h0, .inr (10, (Value.int (q 0) :: Value.int (q 1) :: Value.int (q 2) :: Value.int (q 3) :: Value.int (q 4) :: Value.int (q 5) :: Value.int (q 6) :: Value.int (q 7) :: Value.ref (a 8) :: Value.ref (a 9) :: Value.ref (a 10) :: Value.ref (a 11) :: Value.ref (a 12) :: Value.ref (a 13) :: Value.int (q 14) :: Value.long v :: Value.long w :: Value.ref (a 17) :: Value.ref (a 18) :: Value.ref (a 19) :: Value.ref (a 20) :: Value.ref (a 21) :: Value.ref (a 22) :: Value.ref (a 23) :: Value.int (q 24) :: Value.ref (a 25) :: Value.int (q 26) :: Value.ref (a 27) :: Value.int (q 28) :: Value.int (q 29) :: Value.int (q 30) :: Value.int (q 31) :: Value.int (q 32) :: Value.int (q 33) :: Value.ref (a 34) :: Value.ref (a 35) :: Value.ref (a 36) :: Value.ref (a 37) :: Value.ref (a 38) :: Value.ref (a 39) :: Value.ref (a 40) :: Value.int (q 41) :: Value.ref (a 42) :: Value.int (q 43) :: Value.int (q 44) :: []))), ((a 25), .inl (T 0, 120, .inl f25))] sz) := by
  refine Met.ofW (cc := cX13_blanks) (maxL := 1) (ret := none) (by decide +kernel) rfl ?_
  intro p e s m args below meth c s₁ B hml hv
  obtain ⟨rfl, hsz, hP, hE, hD0⟩ := hv
  have hx := B.exec
  have hb := B.bytes
  have hr := B.returns
  have hts := atoms_spec (ws := wsX13_blanks) B.pre
  have hown : s.vm.findClass RX13 = some m.cls := findClass_of_methodNamed B.named
  have hlocks := B.notSynchronized
  subst hsz
  have hD := hD0.self (sz := s.heap.size)
  generalize hAe : va_A [(h0, .inr (10, (Value.int (q 0) :: Value.int (q 1) :: Value.int (q 2) :: Value.int (q 3) :: Value.int (q 4) :: Value.int (q 5) :: Value.int (q 6) :: Value.int (q 7) :: Value.ref (a 8) :: Value.ref (a 9) :: Value.ref (a 10) :: Value.ref (a 11) :: Value.ref (a 12) :: Value.ref (a 13) :: Value.int (q 14) :: Value.long v :: Value.long w :: Value.ref (a 17) :: Value.ref (a 18) :: Value.ref (a 19) :: Value.ref (a 20) :: Value.ref (a 21) :: Value.ref (a 22) :: Value.ref (a 23) :: Value.int (q 24) :: Value.ref (a 25) :: Value.int (q 26) :: Value.ref (a 27) :: Value.int (q 28) :: Value.int (q 29) :: Value.int (q 30) :: Value.int (q 31) :: Value.int (q 32) :: Value.int (q 33) :: Value.ref (a 34) :: Value.ref (a 35) :: Value.ref (a 36) :: Value.ref (a 37) :: Value.ref (a 38) :: Value.ref (a 39) :: Value.ref (a 40) :: Value.int (q 41) :: Value.ref (a 42) :: Value.int (q 43) :: Value.int (q 44) :: []))), ((a 25), .inl (T 0, 120, .inl f25))] s.heap.size = A at hD ⊢
  have hA : ∀ q : Nat, s.heap.size ≤ q → A q := fun q h => by rw [← hAe]; exact Or.inr h
  have hS : va_S A s.heap s.heap [] := va_S.rf
  have hP : va_P D vwCl [(h0, .inr (10, (Value.int (q 0) :: Value.int (q 1) :: Value.int (q 2) :: Value.int (q 3) :: Value.int (q 4) :: Value.int (q 5) :: Value.int (q 6) :: Value.int (q 7) :: Value.ref (a 8) :: Value.ref (a 9) :: Value.ref (a 10) :: Value.ref (a 11) :: Value.ref (a 12) :: Value.ref (a 13) :: Value.int (q 14) :: Value.long v :: Value.long w :: Value.ref (a 17) :: Value.ref (a 18) :: Value.ref (a 19) :: Value.ref (a 20) :: Value.ref (a 21) :: Value.ref (a 22) :: Value.ref (a 23) :: Value.int (q 24) :: Value.ref (a 25) :: Value.int (q 26) :: Value.ref (a 27) :: Value.int (q 28) :: Value.int (q 29) :: Value.int (q 30) :: Value.int (q 31) :: Value.int (q 32) :: Value.int (q 33) :: Value.ref (a 34) :: Value.ref (a 35) :: Value.ref (a 36) :: Value.ref (a 37) :: Value.ref (a 38) :: Value.ref (a 39) :: Value.ref (a 40) :: Value.int (q 41) :: Value.ref (a 42) :: Value.int (q 43) :: Value.int (q 44) :: []))), ((a 25), .inl (T 0, 120, .inl f25))] s.heap := hP
  have hl := lv_entry ([.ref h0]) (n := 1) (Nat.le_of_ble_eq_true rfl)
  rw [lg_entry_eq]
  generalize (lg_sl ([.ref h0]) ++ List.replicate (1 - (lg_sl ([.ref h0])).length) Slot.unset).toArray = ls at hl ⊢
  have hl : lv_has ls 1 [(0, .ref h0)] := hl
  clear hD0
  refine loopW (σ := (Int32)) (fun x9 ls H locs => lv_has ls 1 [(0, .ref h0)] ∧ va_P D vwCl [(h0, .inr (10, (Value.int (q 0) :: Value.int (q 1) :: Value.int (q 2) :: Value.int (q 3) :: Value.int (q 4) :: Value.int (q 5) :: Value.int (q 6) :: Value.int (q 7) :: Value.ref (a 8) :: Value.ref (a 9) :: Value.ref (a 10) :: Value.ref (a 11) :: Value.ref (a 12) :: Value.ref (a 13) :: Value.int (q 14) :: Value.long v :: Value.long w :: Value.ref (a 17) :: Value.ref (a 18) :: Value.ref (a 19) :: Value.ref (a 20) :: Value.ref (a 21) :: Value.ref (a 22) :: Value.ref (a 23) :: Value.int (q 24) :: Value.ref (a 25) :: Value.int (q 26) :: Value.ref (a 27) :: Value.int x9 :: Value.int (q 29) :: Value.int (q 30) :: Value.int (q 31) :: Value.int (q 32) :: Value.int (q 33) :: Value.ref (a 34) :: Value.ref (a 35) :: Value.ref (a 36) :: Value.ref (a 37) :: Value.ref (a 38) :: Value.ref (a 39) :: Value.ref (a 40) :: Value.int (q 41) :: Value.ref (a 42) :: Value.int (q 43) :: Value.int (q 44) :: []))), ((a 25), .inl (T 0, 120, .inl f25))] H ∧ va_D A [(h0, .inr (10, (Value.int (q 0) :: Value.int (q 1) :: Value.int (q 2) :: Value.int (q 3) :: Value.int (q 4) :: Value.int (q 5) :: Value.int (q 6) :: Value.int (q 7) :: Value.ref (a 8) :: Value.ref (a 9) :: Value.ref (a 10) :: Value.ref (a 11) :: Value.ref (a 12) :: Value.ref (a 13) :: Value.int (q 14) :: Value.long v :: Value.long w :: Value.ref (a 17) :: Value.ref (a 18) :: Value.ref (a 19) :: Value.ref (a 20) :: Value.ref (a 21) :: Value.ref (a 22) :: Value.ref (a 23) :: Value.int (q 24) :: Value.ref (a 25) :: Value.int (q 26) :: Value.ref (a 27) :: Value.int x9 :: Value.int (q 29) :: Value.int (q 30) :: Value.int (q 31) :: Value.int (q 32) :: Value.int (q 33) :: Value.ref (a 34) :: Value.ref (a 35) :: Value.ref (a 36) :: Value.ref (a 37) :: Value.ref (a 38) :: Value.ref (a 39) :: Value.ref (a 40) :: Value.int (q 41) :: Value.ref (a 42) :: Value.int (q 43) :: Value.int (q 44) :: []))), ((a 25), .inl (T 0, 120, .inl f25))] ∧ va_S A s.heap H locs ∧ (((q 28).toInt ≤ x9.toInt ∧ x9.toInt ≤ (q 26).toInt) ∧ ∀ j : Nat, (q 28).toNatClampNeg ≤ j → j < x9.toNatClampNeg → isBl f25 j)) (fun x9 => (120 - x9.toInt).toNat) (fun x9 ls H locs hI ih => ?_) (q 28) ls ⟨lv_sub hl [0] rfl, hP.sub [0, 1] rfl, hD.sub [0, 1] (by decide +kernel) rfl, hS, ⟨(by (try dsimp only); omega), (fun j h8 h9 => absurd h9 (by (try dsimp only); omega))⟩⟩
  obtain ⟨cu, rfl⟩ : ∃ z, z = x9 := ⟨_, rfl⟩
  obtain ⟨hl, hP, hD, hS, hinv⟩ := hI
  have hl : lv_has ls 1 [(0, .ref h0)] := hl
  have hP : va_P D vwCl [(h0, .inr (10, (Value.int (q 0) :: Value.int (q 1) :: Value.int (q 2) :: Value.int (q 3) :: Value.int (q 4) :: Value.int (q 5) :: Value.int (q 6) :: Value.int (q 7) :: Value.ref (a 8) :: Value.ref (a 9) :: Value.ref (a 10) :: Value.ref (a 11) :: Value.ref (a 12) :: Value.ref (a 13) :: Value.int (q 14) :: Value.long v :: Value.long w :: Value.ref (a 17) :: Value.ref (a 18) :: Value.ref (a 19) :: Value.ref (a 20) :: Value.ref (a 21) :: Value.ref (a 22) :: Value.ref (a 23) :: Value.int (q 24) :: Value.ref (a 25) :: Value.int (q 26) :: Value.ref (a 27) :: Value.int cu :: Value.int (q 29) :: Value.int (q 30) :: Value.int (q 31) :: Value.int (q 32) :: Value.int (q 33) :: Value.ref (a 34) :: Value.ref (a 35) :: Value.ref (a 36) :: Value.ref (a 37) :: Value.ref (a 38) :: Value.ref (a 39) :: Value.ref (a 40) :: Value.int (q 41) :: Value.ref (a 42) :: Value.int (q 43) :: Value.int (q 44) :: []))), ((a 25), .inl (T 0, 120, .inl f25))] H := hP
  have hD : va_D A [(h0, .inr (10, (Value.int (q 0) :: Value.int (q 1) :: Value.int (q 2) :: Value.int (q 3) :: Value.int (q 4) :: Value.int (q 5) :: Value.int (q 6) :: Value.int (q 7) :: Value.ref (a 8) :: Value.ref (a 9) :: Value.ref (a 10) :: Value.ref (a 11) :: Value.ref (a 12) :: Value.ref (a 13) :: Value.int (q 14) :: Value.long v :: Value.long w :: Value.ref (a 17) :: Value.ref (a 18) :: Value.ref (a 19) :: Value.ref (a 20) :: Value.ref (a 21) :: Value.ref (a 22) :: Value.ref (a 23) :: Value.int (q 24) :: Value.ref (a 25) :: Value.int (q 26) :: Value.ref (a 27) :: Value.int cu :: Value.int (q 29) :: Value.int (q 30) :: Value.int (q 31) :: Value.int (q 32) :: Value.int (q 33) :: Value.ref (a 34) :: Value.ref (a 35) :: Value.ref (a 36) :: Value.ref (a 37) :: Value.ref (a 38) :: Value.ref (a 39) :: Value.ref (a 40) :: Value.int (q 41) :: Value.ref (a 42) :: Value.int (q 43) :: Value.int (q 44) :: []))), ((a 25), .inl (T 0, 120, .inl f25))] := hD
  have hinv : ((q 28).toInt ≤ cu.toInt ∧ cu.toInt ≤ (q 26).toInt) ∧ ∀ j : Nat, (q 28).toNatClampNeg ≤ j → j < cu.toNatClampNeg → isBl f25 j := hinv
  obtain ⟨hinv, hal⟩ := hinv
  refine lv_aload_n hx hb dX13_blanks_0 rfl (lv_at hl 0 rfl) ?_
  refine vp_callSi (W.runV (As := []) (rest := []) ⟨hx, hb, hml, hown, hts⟩ (c_X13_here l D T h0 [.int (q 0), .int (q 1), .int (q 2), .int (q 3), .int (q 4), .int (q 5), .int (q 6), .int (q 7), .ref (a 8), .ref (a 9), .ref (a 10), .ref (a 11), .ref (a 12), .ref (a 13), .int (q 14), .long v, .long w, .ref (a 17), .ref (a 18), .ref (a 19), .ref (a 20), .ref (a 21), .ref (a 22), .ref (a 23), .int (q 24), .ref (a 25), .int (q 26), .ref (a 27), .int cu, .int (q 29), .int (q 30), .int (q 31), .int (q 32), .int (q 33), .ref (a 34), .ref (a 35), .ref (a 36), .ref (a 37), .ref (a 38), .ref (a 39), .ref (a 40), .int (q 41), .ref (a 42), .int (q 43), .int (q 44)] (a 25) f25 cu (q 26) rfl rfl rfl (by omega)) (cwV 0 hts gX13_blanks_X13_here rfl rfl rfl hv_X13_here ⟨Nat.le_of_ble_eq_true rfl, Nat.le_of_ble_eq_true rfl⟩) (pR_V (q := (RX13, TX13, 45)) (ci := 10) (q0 := 0) hP hE rfl rfl [0, 1] rfl) rfl rfl hl.1 rfl (lv_room (Nat.le_of_ble_eq_true rfl)) dX13_blanks_1 ⟨Nat.le_of_ble_eq_true rfl, Nat.le_of_ble_eq_true rfl⟩) (fun r_1 hr_1 => ?_)
  refine lv_bipush (v := 32) hx hb dX13_blanks_4 (by decide +kernel) ?_
  refine lv_icmp_ne (tgt := 22) hx hb dX13_blanks_6 (by decide +kernel) (fun c_2 => ?_) (fun c_2 => ?_)
  · rw [fa_eq] at c_2
    try rw [ti_32] at c_2
    exact W.vret hx hb hr (fun t ht hW => ⟨⟨cu, rfl, ⟨(show (q 28).toInt ≤ cu.toInt ∧ cu.toInt ≤ (q 26).toInt from (by first | omega | (subst_vars; omega))), (show rnP (isBl f25) ((q 26).toNatClampNeg) ((q 28).toNatClampNeg) (cu.toNatClampNeg) from (rn_end (by omega) (by omega) (by omega) hal (fun h9 h8 => by rcases hr_1 with ⟨h7, h6⟩ | ⟨h7, h6⟩ <;> first | omega | (unfold isBl at h8; rw [← h6] at h8; omega))))⟩, by rw [ht]; exact hP.sub [0, 1] rfl, hD.sub [0, 1] (by decide +kernel) rfl⟩, hS.F ht⟩) hS.2.2 dX13_blanks_22
  · rw [fa_eq] at c_2
    try rw [ti_32] at c_2
    have hrb := hr_1.resolve_left (fun h9 => by have h8 := h9.1; omega)
    refine lv_aload_n hx hb dX13_blanks_9 rfl (lv_at hl 0 rfl) ?_
    refine lv_dup hx hb dX13_blanks_10 rfl ?_
    refine va_get (D := D) (ci := 10) (v := .int cu) (C := RX13) (T := TX13) (N := 45) hx hb hts in_X13_blanks_X13 hown hE.1 hP 0 rfl rfl 28 (by decide +kernel) (hts (.fieldLink RX13 344 "ClauseBookModel" "cursor" "I") (List.mem_of_getElem? (i := 1) rfl)) (fun _ h9 => h9) rfl dX13_blanks_11 ?_
    refine lv_iconst (v := 1) hx hb dX13_blanks_14 (by decide +kernel) ?_
    refine lv_iadd hx hb dX13_blanks_15 ?_
    refine lv_topi (fun z_3 ez_3 => ?_)
    refine va_put (D := D) (ci := 10) (v := .int z_3) (ty := .int) (C := RX13) (T := TX13) (N := 45) hx hb hts in_X13_blanks_X13 tyX13 tyX13_ok nmX13 hown hE.1 hP hD hS 0 rfl rfl 28 (by decide +kernel) (hts (.fieldLink RX13 344 "ClauseBookModel" "cursor" "I") (List.mem_of_getElem? (i := 1) rfl)) (fun _ h9 => h9) rfl (by decide +kernel) rfl rfl (Nat.le_of_ble_eq_true rfl) dX13_blanks_16 (fun H locs hP hD hS => ?_)
    obtain ⟨hP, hD⟩ := wPD [(h0, .inr (10, (Value.int (q 0) :: Value.int (q 1) :: Value.int (q 2) :: Value.int (q 3) :: Value.int (q 4) :: Value.int (q 5) :: Value.int (q 6) :: Value.int (q 7) :: Value.ref (a 8) :: Value.ref (a 9) :: Value.ref (a 10) :: Value.ref (a 11) :: Value.ref (a 12) :: Value.ref (a 13) :: Value.int (q 14) :: Value.long v :: Value.long w :: Value.ref (a 17) :: Value.ref (a 18) :: Value.ref (a 19) :: Value.ref (a 20) :: Value.ref (a 21) :: Value.ref (a 22) :: Value.ref (a 23) :: Value.int (q 24) :: Value.ref (a 25) :: Value.int (q 26) :: Value.ref (a 27) :: Value.int z_3 :: Value.int (q 29) :: Value.int (q 30) :: Value.int (q 31) :: Value.int (q 32) :: Value.int (q 33) :: Value.ref (a 34) :: Value.ref (a 35) :: Value.ref (a 36) :: Value.ref (a 37) :: Value.ref (a 38) :: Value.ref (a 39) :: Value.ref (a 40) :: Value.int (q 41) :: Value.ref (a 42) :: Value.int (q 43) :: Value.int (q 44) :: []))), ((a 25), .inl (T 0, 120, .inl f25))] hP hD rfl
    have hi9 : z_3.toInt = cu.toInt + 1 := by rw [ez_3]; exact inc1 (n := 1000) (by omega) (by decide +kernel)
    refine lv_goto (tgt := 0) hx hb dX13_blanks_19 (by decide +kernel) ?_
    exact ih z_3 ls _ _ ⟨lv_sub hl [0] rfl, hP.sub [0, 1] rfl, hD.sub [0, 1] (by decide +kernel) rfl, hS, ⟨(by (try dsimp only); omega), (by (try dsimp only); exact rn_step (by omega) hi9 hal (show isBl f25 (cu.toNatClampNeg) from by unfold isBl; rw [← hrb.2]; omega))⟩⟩ (by (try dsimp only); omega)
/-! how the reference reads a text, clause by clause -/
def tdS (f : Nat → Int32) (n : Nat) (room : Int) (K V : Nat → Int32) (rd cu : Nat) (op : Int) : Prop := pthT f n room K V rd cu ∧ op = 1 + smT K rd
/-- a clause has been read: what is known then -/
def tdG (f : Nat → Int32) (n : Nat) (room : Int) (K V : Nat → Int32) (rd : Nat) (A : clsA) (rd' cu' : Nat) (op' : Int) (rb : Nat) (A' : clsA) : Prop := ∃ K' V' : Nat → Int32, (∀ j : Nat, j < rd → K j = K' j ∧ V j = V' j) ∧ tdS f n room K' V' rd' cu' op' ∧ bldR K' V' rd A rd' rb A' ∧ rd < rd'
theorem td_agree {K V : Nat → Int32} {m : Nat} {k v : Int32} : ∀ j : Nat, j < m → K j = upd K m k j ∧ V j = upd V m v j := by
  intro j hj
  simp only [upd]
  rw [if_neg (by omega), if_neg (by omega)]
  exact ⟨rfl, rfl⟩
theorem td_word {f : Nat → Int32} {n : Nat} {room : Int} {K V : Nat → Int32} {rd cu cu' : Nat} {op : Int} {k v : Int32} (h : tdS f n room K V rd cu op) (h1 : 1 ≤ op) (hs : stpK f n room cu rd op k v cu') : tdS f n room (upd K rd k) (upd V rd v) (rd + 1) cu' (op + (nmT k.toNatClampNeg).toInt - 1) := by
  obtain ⟨a, b⟩ := h
  have e := smT_ext rd (fun j hj => (td_agree (K := K) (V := V) (k := k) (v := v) j hj).1)
  have ek : upd K rd k rd = k := by simp only [upd, if_pos]
  have ev : upd V rd v rd = v := by simp only [upd, if_pos]
  refine ⟨⟨cu, pthT_ext rd cu td_agree a, by rw [← e]; omega, ?_⟩, ?_⟩
  · rw [← e, ek, ev, ← b]; exact hs
  · show op + (nmT k.toNatClampNeg).toInt - 1 = 1 + (smT (upd K rd k) rd + (nmT (upd K rd k rd).toNatClampNeg).toInt - 1)
    rw [← e, ek]
    omega
theorem td_0 {f : Nat → Int32} {n : Nat} {room : Int} {K V : Nat → Int32} {rd cu' : Nat} {op' : Int} {k v : Int32} {A : clsA} (h : tdS f n room (upd K rd k) (upd V rd v) (rd + 1) cu' op') (hn : (nmT k.toNatClampNeg).toInt = 0) : tdG f n room K V rd A (rd + 1) cu' op' A.1 (clsP A k v (nI 0) (nI 0)) := by
  have ek : upd K rd k rd = k := by simp only [upd, if_pos]
  have ev : upd V rd v rd = v := by simp only [upd, if_pos]
  have b := bldR_0 (K := upd K rd k) (V := upd V rd v) (nx := rd) (A := A) (by rw [ek]; omega)
  rw [ek, ev] at b
  exact ⟨_, _, td_agree, h, b, by omega⟩
theorem td_1 {f : Nat → Int32} {n : Nat} {room : Int} {K V : Nat → Int32} {rd m1 cu1 c : Nat} {op1 : Int} {k v : Int32} {A A1 : clsA} (G : tdG f n room (upd K rd k) (upd V rd v) (rd + 1) A m1 cu1 op1 c A1) (hn : (nmT k.toNatClampNeg).toInt = 1) : tdG f n room K V rd A m1 cu1 op1 A1.1 (clsP A1 k v (nI c) (nI 0)) := by
  obtain ⟨K2, V2, g1, g2, g3, g4⟩ := G
  have ek : K2 rd = k := by rw [← (g1 rd (by omega)).1]; simp only [upd, if_pos]
  have ev : V2 rd = v := by rw [← (g1 rd (by omega)).2]; simp only [upd, if_pos]
  have b := bldR_1 (K := K2) (V := V2) (nx := rd) (by rw [ek]; omega) (by rw [ek]; omega) g3
  rw [ek, ev] at b
  refine ⟨K2, V2, fun j hj => ?_, g2, b, by omega⟩
  have a := td_agree (K := K) (V := V) (k := k) (v := v) j hj
  have a2 := g1 j (by omega)
  exact ⟨a.1.trans a2.1, a.2.trans a2.2⟩
theorem td_2 {f : Nat → Int32} {n : Nat} {room : Int} {K V K2 V2 : Nat → Int32} {rd m1 m2 cu2 c d : Nat} {op2 : Int} {k v : Int32} {A A1 A2 : clsA} (g1 : ∀ j : Nat, j < rd + 1 → upd K rd k j = K2 j ∧ upd V rd v j = V2 j) (b1 : bldR K2 V2 (rd + 1) A m1 c A1) (hm : rd + 1 < m1) (G : tdG f n room K2 V2 m1 A1 m2 cu2 op2 d A2) (hn : (nmT k.toNatClampNeg).toInt = 2) : tdG f n room K V rd A m2 cu2 op2 A2.1 (clsP A2 k v (nI c) (nI d)) := by
  obtain ⟨K3, V3, h1, h2, h3, h4⟩ := G
  have a1 := g1 rd (by omega)
  have a2 := h1 rd (by omega)
  have ek : K3 rd = k := by rw [← a2.1, ← a1.1]; simp only [upd, if_pos]
  have ev : V3 rd = v := by rw [← a2.2, ← a1.2]; simp only [upd, if_pos]
  have b := bldR_2 (K := K3) (V := V3) (nx := rd) (by rw [ek]; exact hn) (bldR_local b1 (fun j _ hj => h1 j hj)) h3
  rw [ek, ev] at b
  refine ⟨K3, V3, fun j hj => ?_, h2, b, by omega⟩
  have a := td_agree (K := K) (V := V) (k := k) (v := v) j hj
  have b1 := g1 j (by omega)
  have b2 := h1 j (by omega)
  exact ⟨(a.1.trans b1.1).trans b2.1, (a.2.trans b1.2).trans b2.2⟩
theorem ls_ms : ∀ k : Nat, k < 13 → (lsT k ≠ msT k ↔ k = 3 ∨ k = 8 ∨ k = 12) := by decide
/-- the faults -/
theorem tdF_word {f : Nat → Int32} {n : Nat} {room : Int} {K V : Nat → Int32} {rd cu p e : Nat} {op : Int} (h : tdS f n room K V rd cu op) (h1 : 1 ≤ op) (hb : rnP (isBl f) n cu p) (hl : rnP (isLe f) n p e) (hx : (∀ k : Nat, ¬ wordK f p e k) ∨ ∃ k : Nat, wordK f p e k ∧ room < (rd : Int) + 1 + (op + (nmT k).toInt - 1)) : txtF f n room p := by
  obtain ⟨a, b⟩ := h
  refine ⟨K, V, rd, cu, a, Or.inl ⟨by omega, p, e, ⟨hb, hl⟩, ?_⟩⟩
  rw [← b]
  rcases hx with hx | ⟨k, hx, hy⟩
  · exact Or.inl ⟨rfl, hx⟩
  · exact Or.inr ⟨k, hx, Or.inl ⟨rfl, hy⟩⟩
theorem tdF_num {f : Nat → Int32} {n : Nat} {room : Int} {K V : Nat → Int32} {rd cu p e k q : Nat} {op : Int} (h : tdS f n room K V rd cu op) (h1 : 1 ≤ op) (hb : rnP (isBl f) n cu p) (hl : rnP (isLe f) n p e) (hw : wordK f p e k) (hr : (rd : Int) + 1 + (op + (nmT k).toInt - 1) ≤ room) (hn : lsT k ≠ msT k) (hq : rnP (isBl f) n e q) (hx : ∀ (e2 : Nat) (v : Int32), ¬ numK f n q k e2 v) : txtF f n room q := by
  obtain ⟨a, b⟩ := h
  refine ⟨K, V, rd, cu, a, Or.inl ⟨by omega, p, e, ⟨hb, hl⟩, ?_⟩⟩
  rw [← b]
  exact Or.inr ⟨k, hw, Or.inr ⟨hr, hn, hq, hx⟩⟩
/-- as the reference counts digits -/
def dvR (f : Nat → Int32) (s c : Nat) (va : Int32) : Prop := (dvl f s c ≤ 99 ∧ va.toInt = dvl f s c) ∨ (99 < dvl f s c ∧ 99 < va.toInt ∧ va.toInt ≤ 1089)
theorem dvR_step {f : Nat → Int32} {s : Nat} {i i' va va' : Int32} {z : Int32} (hs : (s : Int) ≤ i.toInt) (hi : i'.toInt = i.toInt + 1) (hd : ∀ j : Nat, s ≤ j → j < i.toNatClampNeg → isDi f j) (h : dvR f s (i.toNatClampNeg - s) va) (hz : z = f i.toNatClampNeg) (hzd : 48 ≤ z.toInt ∧ z.toInt ≤ 57) (hv : (99 < va.toInt ∧ va'.toInt = va.toInt) ∨ (va.toInt ≤ 99 ∧ va'.toInt = 10 * va.toInt + z.toInt - 48)) : dvR f s (i'.toNatClampNeg - s) va' := by
  have t := tn (x := i) (by omega)
  have t2 := tnS (by omega) hi
  have e : i'.toNatClampNeg - s = (i.toNatClampNeg - s) + 1 := by omega
  have p := dvl_pos (f := f) (s := s) (i.toNatClampNeg - s) (fun j a b => hd j a (by omega))
  unfold dvR at *
  rw [e]
  have ed : dvl f s (i.toNatClampNeg - s + 1) = 10 * dvl f s (i.toNatClampNeg - s) + (z.toInt - 48) := by
    show 10 * dvl f s (i.toNatClampNeg - s) + ((f (s + (i.toNatClampNeg - s))).toInt - 48) = _
    rw [show s + (i.toNatClampNeg - s) = i.toNatClampNeg by omega, ← hz]
  rw [ed]
  omega
theorem numK_nodig {f : Nat → Int32} {n a k e : Nat} {v : Int32} (h : ¬ (sgS f a < n ∧ isDi f (sgS f a))) : ¬ numK f n a k e v := fun g => by
  have g1 := g.1
  have g2 := g.2.1
  exact h ⟨by have := g1.1.2; omega, g1.2.1 _ (Nat.le_refl _) g2⟩
theorem numR_yes {f : Nat → Int32} {n a s e k : Nat} {va v : Int32} (hsg : sgS f a = s) (hr : rnP (isDi f) n s e) (hse : s < e) (hd : dvR f s (e - s) va) (h99 : va.toInt ≤ 99) (hv : v.toInt = if (f a).toInt = 45 then -va.toInt else va.toInt) (hk : (lsT k).toInt ≤ v.toInt ∧ v.toInt ≤ (msT k).toInt) : numK f n a k e v := by
  unfold dvR at hd
  unfold numK
  rw [hsg]
  have e1 : va.toInt = dvl f s (e - s) := by omega
  refine ⟨hr, hse, by omega, ?_, hk⟩
  rw [hv, e1]
theorem numR_no {f : Nat → Int32} {n a s e k : Nat} {va v : Int32} (hsg : sgS f a = s) (hr : rnP (isDi f) n s e) (hd : dvR f s (e - s) va) (hv : v.toInt = if (f a).toInt = 45 then -va.toInt else va.toInt) (hk : ¬ (va.toInt ≤ 99 ∧ (lsT k).toInt ≤ v.toInt ∧ v.toInt ≤ (msT k).toInt)) : ∀ (e' : Nat) (v' : Int32), ¬ numK f n a k e' v' := by
  intro e' v' g
  unfold numK at g
  rw [hsg] at g
  obtain ⟨g1, g2, g3, g4, g5⟩ := g
  have e1 := rnP_uniq hr g1
  subst e1
  unfold dvR at hd
  have e2 : va.toInt = dvl f s (e - s) := by omega
  rw [← e2, ← hv] at g4
  rw [g4] at g5
  exact hk ⟨by omega, g5⟩
theorem rfA_push {m m' k v c d : Int32} {g1 g2 g3 g4 w1 w2 w3 w4 : Nat → Int32} (hm : 0 ≤ m.toInt) (h : m'.toInt = m.toInt + 1) (hw : w1 = upd g1 m.toNatClampNeg k ∧ w2 = upd g2 m.toNatClampNeg v ∧ w3 = upd g3 m.toNatClampNeg c ∧ w4 = upd g4 m.toNatClampNeg d) : rfA m' w1 w2 w3 w4 = clsP (rfA m g1 g2 g3 g4) k v c d := by
  obtain ⟨h1, h2, h3, h4⟩ := hw
  rw [h1, h2, h3, h4]
  show (m'.toNatClampNeg, _, _, _, _) = (m.toNatClampNeg + 1, _, _, _, _)
  rw [tnS hm h]
/-- the clauses below n are as they were -/
def unC (n : Int32) (f1 f2 f3 f4 g1 g2 g3 g4 : Nat → Int32) : Prop := ∀ j : Nat, (j : Int) < n.toInt → g1 j = f1 j ∧ g2 j = f2 j ∧ g3 j = f3 j ∧ g4 j = f4 j
theorem unC_rf {n : Int32} {f1 f2 f3 f4 : Nat → Int32} : unC n f1 f2 f3 f4 f1 f2 f3 f4 := fun _ _ => ⟨rfl, rfl, rfl, rfl⟩
theorem unC_tr {n n' : Int32} {f1 f2 f3 f4 g1 g2 g3 g4 h1 h2 h3 h4 : Nat → Int32} (a : unC n f1 f2 f3 f4 g1 g2 g3 g4) (b : unC n' g1 g2 g3 g4 h1 h2 h3 h4) (hn : n.toInt ≤ n'.toInt) : unC n f1 f2 f3 f4 h1 h2 h3 h4 := fun j hj => by
  obtain ⟨a1, a2, a3, a4⟩ := a j hj
  obtain ⟨b1, b2, b3, b4⟩ := b j (by omega)
  exact ⟨b1.trans a1, b2.trans a2, b3.trans a3, b4.trans a4⟩
theorem unC_push {n m k v c d : Int32} {g1 g2 g3 g4 w1 w2 w3 w4 : Nat → Int32} (hm : 0 ≤ m.toInt) (hn : n.toInt ≤ m.toInt) (hw : w1 = upd g1 m.toNatClampNeg k ∧ w2 = upd g2 m.toNatClampNeg v ∧ w3 = upd g3 m.toNatClampNeg c ∧ w4 = upd g4 m.toNatClampNeg d) : unC n g1 g2 g3 g4 w1 w2 w3 w4 := fun j hj => by
  obtain ⟨h1, h2, h3, h4⟩ := hw
  have t := tn hm
  rw [h1, h2, h3, h4]
  simp only [upd]
  rw [if_neg (by omega), if_neg (by omega), if_neg (by omega), if_neg (by omega)]
  exact ⟨rfl, rfl, rfl, rfl⟩
theorem nI_of_eq {r m : Int32} (hm : 0 ≤ m.toInt) (h : r.toInt = m.toInt) : r = nI m.toNatClampNeg := by
  rw [nI_back hm]
  exact Int32.toInt_inj.1 h
theorem dX13_reads_0 : decode cX13_reads 0 = .ok (.aload_n 0, 1) := by decide +kernel
theorem dX13_reads_1 : decode cX13_reads 1 = .ok (.invokevirtual 358, 3) := by decide +kernel
theorem dX13_reads_10 : decode cX13_reads 10 = .ok (.invokevirtual 350, 3) := by decide +kernel
theorem dX13_reads_100 : decode cX13_reads 100 = .ok (.putfield 369, 3) := by decide +kernel
theorem dX13_reads_103 : decode cX13_reads 103 = .ok (.aload_n 0, 1) := by decide +kernel
theorem dX13_reads_104 : decode cX13_reads 104 = .ok (.dup, 1) := by decide +kernel
theorem dX13_reads_105 : decode cX13_reads 105 = .ok (.getfield 344, 3) := by decide +kernel
theorem dX13_reads_108 : decode cX13_reads 108 = .ok (.iconst 1, 1) := by decide +kernel
theorem dX13_reads_109 : decode cX13_reads 109 = .ok (.iadd, 1) := by decide +kernel
theorem dX13_reads_110 : decode cX13_reads 110 = .ok (.putfield 344, 3) := by decide +kernel
theorem dX13_reads_113 : decode cX13_reads 113 = .ok (.goto (-52), 3) := by decide +kernel
theorem dX13_reads_116 : decode cX13_reads 116 = .ok (.aload_n 0, 1) := by decide +kernel
theorem dX13_reads_117 : decode cX13_reads 117 = .ok (.getfield 369, 3) := by decide +kernel
theorem dX13_reads_120 : decode cX13_reads 120 = .ok (.bipush 99, 2) := by decide +kernel
theorem dX13_reads_122 : decode cX13_reads 122 = .ok (.if_icmp .gt 7, 3) := by decide +kernel
theorem dX13_reads_125 : decode cX13_reads 125 = .ok (.iconst 1, 1) := by decide +kernel
theorem dX13_reads_126 : decode cX13_reads 126 = .ok (.goto 4, 3) := by decide +kernel
theorem dX13_reads_129 : decode cX13_reads 129 = .ok (.iconst 0, 1) := by decide +kernel
theorem dX13_reads_13 : decode cX13_reads 13 = .ok (.bipush 45, 2) := by decide +kernel
theorem dX13_reads_130 : decode cX13_reads 130 = .ok (.istore 4, 2) := by decide +kernel
theorem dX13_reads_132 : decode cX13_reads 132 = .ok (.aload_n 0, 1) := by decide +kernel
theorem dX13_reads_133 : decode cX13_reads 133 = .ok (.iload_n 3, 1) := by decide +kernel
theorem dX13_reads_134 : decode cX13_reads 134 = .ok (.ifCond .eq 11, 3) := by decide +kernel
theorem dX13_reads_137 : decode cX13_reads 137 = .ok (.aload_n 0, 1) := by decide +kernel
theorem dX13_reads_138 : decode cX13_reads 138 = .ok (.getfield 369, 3) := by decide +kernel
theorem dX13_reads_141 : decode cX13_reads 141 = .ok (.ineg, 1) := by decide +kernel
theorem dX13_reads_142 : decode cX13_reads 142 = .ok (.goto 7, 3) := by decide +kernel
theorem dX13_reads_145 : decode cX13_reads 145 = .ok (.aload_n 0, 1) := by decide +kernel
theorem dX13_reads_146 : decode cX13_reads 146 = .ok (.getfield 369, 3) := by decide +kernel
theorem dX13_reads_149 : decode cX13_reads 149 = .ok (.putfield 369, 3) := by decide +kernel
theorem dX13_reads_15 : decode cX13_reads 15 = .ok (.if_icmp .ne 7, 3) := by decide +kernel
theorem dX13_reads_152 : decode cX13_reads 152 = .ok (.aload_n 0, 1) := by decide +kernel
theorem dX13_reads_153 : decode cX13_reads 153 = .ok (.iload 4, 2) := by decide +kernel
theorem dX13_reads_155 : decode cX13_reads 155 = .ok (.ifCond .eq 18, 3) := by decide +kernel
theorem dX13_reads_158 : decode cX13_reads 158 = .ok (.iload_n 1, 1) := by decide +kernel
theorem dX13_reads_159 : decode cX13_reads 159 = .ok (.aload_n 0, 1) := by decide +kernel
theorem dX13_reads_160 : decode cX13_reads 160 = .ok (.getfield 369, 3) := by decide +kernel
theorem dX13_reads_163 : decode cX13_reads 163 = .ok (.invokestatic 216, 3) := by decide +kernel
theorem dX13_reads_166 : decode cX13_reads 166 = .ok (.ifCond .eq 7, 3) := by decide +kernel
theorem dX13_reads_169 : decode cX13_reads 169 = .ok (.iconst 1, 1) := by decide +kernel
theorem dX13_reads_170 : decode cX13_reads 170 = .ok (.goto 4, 3) := by decide +kernel
theorem dX13_reads_173 : decode cX13_reads 173 = .ok (.iconst 0, 1) := by decide +kernel
theorem dX13_reads_174 : decode cX13_reads 174 = .ok (.iload_n 2, 1) := by decide +kernel
theorem dX13_reads_175 : decode cX13_reads 175 = .ok (.invokevirtual 365, 3) := by decide +kernel
theorem dX13_reads_178 : decode cX13_reads 178 = .ok (.ireturn, 1) := by decide +kernel
theorem dX13_reads_18 : decode cX13_reads 18 = .ok (.iconst 1, 1) := by decide +kernel
theorem dX13_reads_19 : decode cX13_reads 19 = .ok (.goto 4, 3) := by decide +kernel
theorem dX13_reads_22 : decode cX13_reads 22 = .ok (.iconst 0, 1) := by decide +kernel
theorem dX13_reads_23 : decode cX13_reads 23 = .ok (.istore_n 3, 1) := by decide +kernel
theorem dX13_reads_24 : decode cX13_reads 24 = .ok (.aload_n 0, 1) := by decide +kernel
theorem dX13_reads_25 : decode cX13_reads 25 = .ok (.dup, 1) := by decide +kernel
theorem dX13_reads_26 : decode cX13_reads 26 = .ok (.getfield 344, 3) := by decide +kernel
theorem dX13_reads_29 : decode cX13_reads 29 = .ok (.iload_n 3, 1) := by decide +kernel
theorem dX13_reads_30 : decode cX13_reads 30 = .ok (.ifCond .eq 7, 3) := by decide +kernel
theorem dX13_reads_33 : decode cX13_reads 33 = .ok (.iconst 1, 1) := by decide +kernel
theorem dX13_reads_34 : decode cX13_reads 34 = .ok (.goto 4, 3) := by decide +kernel
theorem dX13_reads_37 : decode cX13_reads 37 = .ok (.iconst 0, 1) := by decide +kernel
theorem dX13_reads_38 : decode cX13_reads 38 = .ok (.iadd, 1) := by decide +kernel
theorem dX13_reads_39 : decode cX13_reads 39 = .ok (.putfield 344, 3) := by decide +kernel
theorem dX13_reads_4 : decode cX13_reads 4 = .ok (.aload_n 0, 1) := by decide +kernel
theorem dX13_reads_42 : decode cX13_reads 42 = .ok (.aload_n 0, 1) := by decide +kernel
theorem dX13_reads_43 : decode cX13_reads 43 = .ok (.aload_n 0, 1) := by decide +kernel
theorem dX13_reads_44 : decode cX13_reads 44 = .ok (.invokevirtual 361, 3) := by decide +kernel
theorem dX13_reads_47 : decode cX13_reads 47 = .ok (.iload_n 2, 1) := by decide +kernel
theorem dX13_reads_48 : decode cX13_reads 48 = .ok (.invokevirtual 365, 3) := by decide +kernel
theorem dX13_reads_5 : decode cX13_reads 5 = .ok (.getfield 344, 3) := by decide +kernel
theorem dX13_reads_51 : decode cX13_reads 51 = .ok (.ifCond .ne 5, 3) := by decide +kernel
theorem dX13_reads_54 : decode cX13_reads 54 = .ok (.iconst 0, 1) := by decide +kernel
theorem dX13_reads_55 : decode cX13_reads 55 = .ok (.ireturn, 1) := by decide +kernel
theorem dX13_reads_56 : decode cX13_reads 56 = .ok (.aload_n 0, 1) := by decide +kernel
theorem dX13_reads_57 : decode cX13_reads 57 = .ok (.iconst 0, 1) := by decide +kernel
theorem dX13_reads_58 : decode cX13_reads 58 = .ok (.putfield 369, 3) := by decide +kernel
theorem dX13_reads_61 : decode cX13_reads 61 = .ok (.aload_n 0, 1) := by decide +kernel
theorem dX13_reads_62 : decode cX13_reads 62 = .ok (.invokevirtual 361, 3) := by decide +kernel
theorem dX13_reads_65 : decode cX13_reads 65 = .ok (.ifCond .eq 51, 3) := by decide +kernel
theorem dX13_reads_68 : decode cX13_reads 68 = .ok (.aload_n 0, 1) := by decide +kernel
theorem dX13_reads_69 : decode cX13_reads 69 = .ok (.aload_n 0, 1) := by decide +kernel
theorem dX13_reads_70 : decode cX13_reads 70 = .ok (.getfield 369, 3) := by decide +kernel
theorem dX13_reads_73 : decode cX13_reads 73 = .ok (.bipush 99, 2) := by decide +kernel
theorem dX13_reads_75 : decode cX13_reads 75 = .ok (.if_icmp .le 10, 3) := by decide +kernel
theorem dX13_reads_78 : decode cX13_reads 78 = .ok (.aload_n 0, 1) := by decide +kernel
theorem dX13_reads_79 : decode cX13_reads 79 = .ok (.getfield 369, 3) := by decide +kernel
theorem dX13_reads_8 : decode cX13_reads 8 = .ok (.istore_n 2, 1) := by decide +kernel
theorem dX13_reads_82 : decode cX13_reads 82 = .ok (.goto 18, 3) := by decide +kernel
theorem dX13_reads_85 : decode cX13_reads 85 = .ok (.bipush 10, 2) := by decide +kernel
theorem dX13_reads_87 : decode cX13_reads 87 = .ok (.aload_n 0, 1) := by decide +kernel
theorem dX13_reads_88 : decode cX13_reads 88 = .ok (.getfield 369, 3) := by decide +kernel
theorem dX13_reads_9 : decode cX13_reads 9 = .ok (.aload_n 0, 1) := by decide +kernel
theorem dX13_reads_91 : decode cX13_reads 91 = .ok (.imul, 1) := by decide +kernel
theorem dX13_reads_92 : decode cX13_reads 92 = .ok (.aload_n 0, 1) := by decide +kernel
theorem dX13_reads_93 : decode cX13_reads 93 = .ok (.invokevirtual 350, 3) := by decide +kernel
theorem dX13_reads_96 : decode cX13_reads 96 = .ok (.iadd, 1) := by decide +kernel
theorem dX13_reads_97 : decode cX13_reads 97 = .ok (.bipush 48, 2) := by decide +kernel
theorem dX13_reads_99 : decode cX13_reads 99 = .ok (.isub, 1) := by decide +kernel
set_option maxRecDepth 20000 in
theorem ggX13_reads_X13_blanks : GoodIn wsX13_reads wsX13_blanks := goodIn_r _ [7, 1, 8, 9, 10, 6, 11, 12, 13, 36, 37, 38, 39, 40, 41, 42, 43, 44, 45, 46, 47, 48, 49, 50, 51, 52, 53, 54, 55, 56, 57, 58, 59, 60, 61, 62, 63, 64, 65, 66, 67, 68, 69, 70, 71, 72, 73, 74, 75, 76, 77, 78, 79, 80] rfl (by decide +kernel)
set_option maxRecDepth 20000 in
theorem ggX13_reads_X13_here : GoodIn wsX13_reads wsX13_here := goodIn_r _ [11, 1, 12, 13, 36, 37, 38, 39, 40, 41, 42, 43, 44, 45, 46, 47, 48, 49, 50, 51, 52, 53, 54, 55, 56, 57, 58, 59, 60, 61, 62, 63, 64, 65, 66, 67, 68, 69, 70, 71, 72, 73, 74, 75, 76, 77, 78, 79, 80] rfl (by decide +kernel)
set_option maxRecDepth 20000 in
theorem ggX13_reads_X13_isDigit : GoodIn wsX13_reads wsX13_isDigit := goodIn_r _ [17, 18, 19, 8, 9, 10, 6, 11, 1, 12, 13, 20, 21, 22, 36, 37, 38, 39, 40, 41, 42, 43, 44, 45, 46, 47, 48, 49, 50, 51, 52, 53, 54, 55, 56, 57, 58, 59, 60, 61, 62, 63, 64, 65, 66, 67, 68, 69, 70, 71, 72, 73, 74, 75, 76, 77, 78, 79, 80] rfl (by decide +kernel)
set_option maxRecDepth 20000 in
theorem ggX13_reads_X13_isNumber : GoodIn wsX13_reads wsX13_isNumber := goodIn_r _ [30, 31, 32, 33, 34, 35, 20, 21, 6, 22] rfl (by decide +kernel)
set_option maxRecDepth 20000 in
theorem ggX13_reads_X13_must : GoodIn wsX13_reads wsX13_must := goodIn_r _ [26, 27, 36, 37, 38, 39, 40, 41, 42, 43, 44, 45, 46, 47, 48, 49, 50, 51, 52, 53, 54, 55, 56, 57, 58, 59, 60, 61, 62, 63, 64, 65, 66, 67, 68, 69, 70, 71, 72, 73, 74, 75, 76, 77, 78, 79, 80] rfl (by decide +kernel)
set_option maxRecDepth 20000 in
theorem gX13_reads_X13_blanks : GoodIn wsX13_reads (wsV RX13 358 RX13 yX13_blanks wsX13_blanks) := goodIn_app (goodIn_r _ [3, 4, 5, 6] rfl (by decide +kernel)) ggX13_reads_X13_blanks
set_option maxRecDepth 20000 in
theorem gX13_reads_X13_here : GoodIn wsX13_reads (wsV RX13 350 RX13 yX13_here wsX13_here) := goodIn_app (goodIn_r _ [8, 9, 10, 6] rfl (by decide +kernel)) ggX13_reads_X13_here
set_option maxRecDepth 20000 in
theorem gX13_reads_X13_isDigit : GoodIn wsX13_reads (wsV RX13 361 RX13 yX13_isDigit wsX13_isDigit) := goodIn_app (goodIn_r _ [14, 15, 16, 6] rfl (by decide +kernel)) ggX13_reads_X13_isDigit
set_option maxRecDepth 20000 in
theorem gX13_reads_X13_isNumber : GoodIn wsX13_reads (va_wsS RX13 216 yX13_isNumber wsX13_isNumber) := goodIn_app (goodIn_of _ (by decide +kernel)) ggX13_reads_X13_isNumber
set_option maxRecDepth 20000 in
theorem gX13_reads_X13_must : GoodIn wsX13_reads (wsV RX13 365 RX13 yX13_must wsX13_must) := goodIn_app (goodIn_r _ [23, 24, 25, 6] rfl (by decide +kernel)) ggX13_reads_X13_must
theorem hv_X13_blanks : yX13_blanks.cls = RX13 ∧ yX13_blanks.cls ≠ "java/lang/invoke/MethodHandle" ∧ yX13_blanks.cls ≠ "java/lang/invoke/VarHandle" ∧ (parseMethodDescriptor yX13_blanks.desc).map (fun d => d.parameters.length) = some 0 := by decide +kernel
theorem hv_X13_isDigit : yX13_isDigit.cls = RX13 ∧ yX13_isDigit.cls ≠ "java/lang/invoke/MethodHandle" ∧ yX13_isDigit.cls ≠ "java/lang/invoke/VarHandle" ∧ (parseMethodDescriptor yX13_isDigit.desc).map (fun d => d.parameters.length) = some 0 := by decide +kernel
theorem hv_X13_must : yX13_must.cls = RX13 ∧ yX13_must.cls ≠ "java/lang/invoke/MethodHandle" ∧ yX13_must.cls ≠ "java/lang/invoke/VarHandle" ∧ (parseMethodDescriptor yX13_must.desc).map (fun d => d.parameters.length) = some 2 := by decide +kernel
set_option maxRecDepth 20000 in
theorem in_X13_reads_X13 : ∀ w ∈ wsX130, w ∈ wsX13_reads := sub_r [36, 37, 38, 39, 40, 41, 42, 43, 44, 45, 46, 47, 48, 49, 50, 51, 52, 53, 54, 55, 56, 57, 58, 59, 60, 61, 62, 63, 64, 65, 66, 67, 68, 69, 70, 71, 72, 73, 74, 75, 76, 77, 78, 79, 80] rfl
set_option maxHeartbeats 4000000 in
set_option maxRecDepth 100000 in
theorem c_X13_reads (l : Launch) (D : va_G) (T : Nat → ClassId) (sz : Nat) (h0 : Nat) (q : Nat → Int32) (v : Int64) (w : Int64) (a : Nat → Nat) (f25 : Nat → Int32) (x1 : Int32) (hcu : 0 ≤ (q 28).toInt ∧ (q 28).toInt ≤ (q 26).toInt ∧ (q 26).toInt ≤ 120) (hxk : 0 ≤ x1.toInt ∧ x1.toInt ≤ 12) : Met l yX13_reads wsX13_reads ({ frames := 2, cells := 0, slots := 0, locals := 46 }) (pW [.ref h0, .int x1] D T [(h0, .inr (10, (Value.int (q 0) :: Value.int (q 1) :: Value.int (q 2) :: Value.int (q 3) :: Value.int (q 4) :: Value.int (q 5) :: Value.int (q 6) :: Value.int (q 7) :: Value.ref (a 8) :: Value.ref (a 9) :: Value.ref (a 10) :: Value.ref (a 11) :: Value.ref (a 12) :: Value.ref (a 13) :: Value.int (q 14) :: Value.long v :: Value.long w :: Value.ref (a 17) :: Value.ref (a 18) :: Value.ref (a 19) :: Value.ref (a 20) :: Value.ref (a 21) :: Value.ref (a 22) :: Value.ref (a 23) :: Value.int (q 24) :: Value.ref (a 25) :: Value.int (q 26) :: Value.ref (a 27) :: Value.int (q 28) :: Value.int (q 29) :: Value.int (q 30) :: Value.int (q 31) :: Value.int (q 32) :: Value.int (q 33) :: Value.ref (a 34) :: Value.ref (a 35) :: Value.ref (a 36) :: Value.ref (a 37) :: Value.ref (a 38) :: Value.ref (a 39) :: Value.ref (a 40) :: Value.int (q 41) :: Value.ref (a 42) :: Value.int (q 43) :: Value.int (q 44) :: []))), ((a 25), .inl (T 0, 120, .inl f25))] sz) (va_Qi (fun (r : Int32) (u : (Int32) × (Int32) × (Int32)) => ((q 28).toInt ≤ u.1.toInt ∧ u.1.toInt ≤ (q 26).toInt) ∧ ((¬ r.toInt = 0 → ∃ p2 : Nat, rnP (isBl f25) ((q 26).toNatClampNeg) ((q 28).toNatClampNeg) p2 ∧ numK f25 ((q 26).toNatClampNeg) p2 (x1.toNatClampNeg) (u.1.toNatClampNeg) u.2.2) ∧ (r.toInt = 0 → 0 ≤ u.2.1.toInt ∧ rnP (isBl f25) ((q 26).toNatClampNeg) ((q 28).toNatClampNeg) (u.2.1.toNatClampNeg) ∧ ∀ (e2 : Nat) (v2 : Int32), ¬ numK f25 ((q 26).toNatClampNeg) (u.2.1.toNatClampNeg) (x1.toNatClampNeg) e2 v2))) (bW D (va_A [(h0, .inr (10, (Value.int (q 0) :: Value.int (q 1) :: Value.int (q 2) :: Value.int (q 3) :: Value.int (q 4) :: Value.int (q 5) :: Value.int (q 6) :: Value.int (q 7) :: Value.ref (a 8) :: Value.ref (a 9) :: Value.ref (a 10) :: Value.ref (a 11) :: Value.ref (a 12) :: Value.ref (a 13) :: Value.int (q 14) :: Value.long v :: Value.long w :: Value.ref (a 17) :: Value.ref (a 18) :: Value.ref (a 19) :: Value.ref (a 20) :: Value.ref (a 21) :: Value.ref (a 22) :: Value.ref (a 23) :: Value.int (q 24) :: Value.ref (a 25) :: Value.int (q 26) :: Value.ref (a 27) :: Value.int (q 28) :: Value.int (q 29) :: Value.int (q 30) :: Value.int (q 31) :: Value.int (q 32) :: Value.int (q 33) :: Value.ref (a 34) :: Value.ref (a 35) :: Value.ref (a 36) :: Value.ref (a 37) :: Value.ref (a 38) :: Value.ref (a 39) :: Value.ref (a 40) :: Value.int (q 41) :: Value.ref (a 42) :: Value.int (q 43) :: Value.int (q 44) :: []))), ((a 25), .inl (T 0, 120, .inl f25))] sz) (fun (u : (Int32) × (Int32) × (Int32)) => [(h0, .inr (10, (Value.int (q 0) :: Value.int (q 1) :: Value.int (q 2) :: Value.int (q 3) :: Value.int (q 4) :: Value.int (q 5) :: Value.int (q 6) :: Value.int (q 7) :: Value.ref (a 8) :: Value.ref (a 9) :: Value.ref (a 10) :: Value.ref (a 11) :: Value.ref (a 12) :: Value.ref (a 13) :: Value.int (q 14) :: Value.long v :: Value.long w :: Value.ref (a 17) :: Value.ref (a 18) :: Value.ref (a 19) :: Value.ref (a 20) :: Value.ref (a 21) :: Value.ref (a 22) :: Value.ref (a 23) :: Value.int (q 24) :: Value.ref (a 25) :: Value.int (q 26) :: Value.ref (a 27) :: Value.int u.1 :: Value.int u.2.1 :: Value.int (q 30) :: Value.int (q 31) :: Value.int (q 32) :: Value.int u.2.2 :: Value.ref (a 34) :: Value.ref (a 35) :: Value.ref (a 36) :: Value.ref (a 37) :: Value.ref (a 38) :: Value.ref (a 39) :: Value.ref (a 40) :: Value.int (q 41) :: Value.ref (a 42) :: Value.int (q 43) :: Value.int (q 44) :: []))), ((a 25), .inl (T 0, 120, .inl f25))])) (va_A [(h0, .inr (10, (Value.int (q 0) :: Value.int (q 1) :: Value.int (q 2) :: Value.int (q 3) :: Value.int (q 4) :: Value.int (q 5) :: Value.int (q 6) :: Value.int (q 7) :: Value.ref (a 8) :: Value.ref (a 9) :: Value.ref (a 10) :: Value.ref (a 11) :: Value.ref (a 12) :: Value.ref (a 13) :: Value.int (q 14) :: Value.long v :: Value.long w :: Value.ref (a 17) :: Value.ref (a 18) :: Value.ref (a 19) :: Value.ref (a 20) :: Value.ref (a 21) :: Value.ref (a 22) :: Value.ref (a 23) :: Value.int (q 24) :: Value.ref (a 25) :: Value.int (q 26) :: Value.ref (a 27) :: Value.int (q 28) :: Value.int (q 29) :: Value.int (q 30) :: Value.int (q 31) :: Value.int (q 32) :: Value.int (q 33) :: Value.ref (a 34) :: Value.ref (a 35) :: Value.ref (a 36) :: Value.ref (a 37) :: Value.ref (a 38) :: Value.ref (a 39) :: Value.ref (a 40) :: Value.int (q 41) :: Value.ref (a 42) :: Value.int (q 43) :: Value.int (q 44) :: []))), ((a 25), .inl (T 0, 120, .inl f25))] sz)) 0 0 (va_A [(h0, .inr (10, (Value.int (q 0) :: Value.int (q 1) :: Value.int (q 2) :: Value.int (q 3) :: Value.int (q 4) :: Value.int (q 5) :: Value.int (q 6) :: Value.int (q 7) :: Value.ref (a 8) :: Value.ref (a 9) :: Value.ref (a 10) :: Value.ref (a 11) :: Value.ref (a 12) :: Value.ref (a 13) :: Value.int (q 14) :: Value.long v :: Value.long w :: Value.ref (a 17) :: Value.ref (a 18) :: Value.ref (a 19) :: Value.ref (a 20) :: Value.ref (a 21) :: Value.ref (a 22) :: Value.ref (a 23) :: Value.int (q 24) :: Value.ref (a 25) :: Value.int (q 26) :: Value.ref (a 27) :: Value.int (q 28) :: Value.int (q 29) :: Value.int (q 30) :: Value.int (q 31) :: Value.int (q 32) :: Value.int (q 33) :: Value.ref (a 34) :: Value.ref (a 35) :: Value.ref (a 36) :: Value.ref (a 37) :: Value.ref (a 38) :: Value.ref (a 39) :: Value.ref (a 40) :: Value.int (q 41) :: Value.ref (a 42) :: Value.int (q 43) :: Value.int (q 44) :: []))), ((a 25), .inl (T 0, 120, .inl f25))] sz) := by
  refine Met.ofW (cc := cX13_reads) (maxL := 5) (ret := (some .boolean)) (by decide +kernel) rfl ?_
  intro p e s m args below meth c s₁ B hml hv
  obtain ⟨rfl, hsz, hP, hE, hD0⟩ := hv
  have hx := B.exec
  have hb := B.bytes
  have hr := B.returns
  have hts := atoms_spec (ws := wsX13_reads) B.pre
  have hown : s.vm.findClass RX13 = some m.cls := findClass_of_methodNamed B.named
  have hlocks := B.notSynchronized
  subst hsz
  have hD := hD0.self (sz := s.heap.size)
  generalize hAe : va_A [(h0, .inr (10, (Value.int (q 0) :: Value.int (q 1) :: Value.int (q 2) :: Value.int (q 3) :: Value.int (q 4) :: Value.int (q 5) :: Value.int (q 6) :: Value.int (q 7) :: Value.ref (a 8) :: Value.ref (a 9) :: Value.ref (a 10) :: Value.ref (a 11) :: Value.ref (a 12) :: Value.ref (a 13) :: Value.int (q 14) :: Value.long v :: Value.long w :: Value.ref (a 17) :: Value.ref (a 18) :: Value.ref (a 19) :: Value.ref (a 20) :: Value.ref (a 21) :: Value.ref (a 22) :: Value.ref (a 23) :: Value.int (q 24) :: Value.ref (a 25) :: Value.int (q 26) :: Value.ref (a 27) :: Value.int (q 28) :: Value.int (q 29) :: Value.int (q 30) :: Value.int (q 31) :: Value.int (q 32) :: Value.int (q 33) :: Value.ref (a 34) :: Value.ref (a 35) :: Value.ref (a 36) :: Value.ref (a 37) :: Value.ref (a 38) :: Value.ref (a 39) :: Value.ref (a 40) :: Value.int (q 41) :: Value.ref (a 42) :: Value.int (q 43) :: Value.int (q 44) :: []))), ((a 25), .inl (T 0, 120, .inl f25))] s.heap.size = A at hD ⊢
  have hA : ∀ q : Nat, s.heap.size ≤ q → A q := fun q h => by rw [← hAe]; exact Or.inr h
  have hS : va_S A s.heap s.heap [] := va_S.rf
  have hP : va_P D vwCl [(h0, .inr (10, (Value.int (q 0) :: Value.int (q 1) :: Value.int (q 2) :: Value.int (q 3) :: Value.int (q 4) :: Value.int (q 5) :: Value.int (q 6) :: Value.int (q 7) :: Value.ref (a 8) :: Value.ref (a 9) :: Value.ref (a 10) :: Value.ref (a 11) :: Value.ref (a 12) :: Value.ref (a 13) :: Value.int (q 14) :: Value.long v :: Value.long w :: Value.ref (a 17) :: Value.ref (a 18) :: Value.ref (a 19) :: Value.ref (a 20) :: Value.ref (a 21) :: Value.ref (a 22) :: Value.ref (a 23) :: Value.int (q 24) :: Value.ref (a 25) :: Value.int (q 26) :: Value.ref (a 27) :: Value.int (q 28) :: Value.int (q 29) :: Value.int (q 30) :: Value.int (q 31) :: Value.int (q 32) :: Value.int (q 33) :: Value.ref (a 34) :: Value.ref (a 35) :: Value.ref (a 36) :: Value.ref (a 37) :: Value.ref (a 38) :: Value.ref (a 39) :: Value.ref (a 40) :: Value.int (q 41) :: Value.ref (a 42) :: Value.int (q 43) :: Value.int (q 44) :: []))), ((a 25), .inl (T 0, 120, .inl f25))] s.heap := hP
  have hl := lv_entry ([.ref h0, .int x1]) (n := 5) (Nat.le_of_ble_eq_true rfl)
  rw [lg_entry_eq]
  generalize (lg_sl ([.ref h0, .int x1]) ++ List.replicate (5 - (lg_sl ([.ref h0, .int x1])).length) Slot.unset).toArray = ls at hl ⊢
  have hl : lv_has ls 5 [(0, .ref h0), (1, .int x1)] := hl
  have h0t := ti_0
  have h1t := ti_1
  clear hD0
  refine lv_aload_n hx hb dX13_reads_0 rfl (lv_at hl 0 rfl) ?_
  have hFc := va_free (wc := [(h0, .inr (10, (Value.int (q 0) :: Value.int (q 1) :: Value.int (q 2) :: Value.int (q 3) :: Value.int (q 4) :: Value.int (q 5) :: Value.int (q 6) :: Value.int (q 7) :: Value.ref (a 8) :: Value.ref (a 9) :: Value.ref (a 10) :: Value.ref (a 11) :: Value.ref (a 12) :: Value.ref (a 13) :: Value.int (q 14) :: Value.long v :: Value.long w :: Value.ref (a 17) :: Value.ref (a 18) :: Value.ref (a 19) :: Value.ref (a 20) :: Value.ref (a 21) :: Value.ref (a 22) :: Value.ref (a 23) :: Value.int (q 24) :: Value.ref (a 25) :: Value.int (q 26) :: Value.ref (a 27) :: Value.int (q 28) :: Value.int (q 29) :: Value.int (q 30) :: Value.int (q 31) :: Value.int (q 32) :: Value.int (q 33) :: Value.ref (a 34) :: Value.ref (a 35) :: Value.ref (a 36) :: Value.ref (a 37) :: Value.ref (a 38) :: Value.ref (a 39) :: Value.ref (a 40) :: Value.int (q 41) :: Value.ref (a 42) :: Value.int (q 43) :: Value.int (q 44) :: []))), ((a 25), .inl (T 0, 120, .inl f25))]) hD hS hA [0, 1] rfl
  refine va_callv (va_runV (As := []) (rest := []) ⟨hx, hb, hml, hown, hts⟩ (c_X13_blanks l D T _ h0 q v w a f25 (show 0 ≤ (q 28).toInt ∧ (q 28).toInt ≤ (q 26).toInt ∧ (q 26).toInt ≤ 120 from (by omega))) (cwV 0 hts gX13_reads_X13_blanks rfl rfl rfl hv_X13_blanks ⟨Nat.le_of_ble_eq_true rfl, Nat.le_of_ble_eq_true rfl⟩) (pW_V (q := (RX13, TX13, 45)) (ci := 10) (q0 := 0) hP hE hD rfl rfl [0, 1] (by decide +kernel) rfl rfl) rfl rfl hl.1 rfl (lv_room (Nat.le_of_ble_eq_true rfl)) dX13_reads_1 ⟨Nat.le_of_ble_eq_true rfl, Nat.le_of_ble_eq_true rfl⟩) hS (fun q _ h => hFc q h) hFc (fun u_2 t H1 locs ht hvm hr_1 hB hz1 hk1 hS => ?_)
  obtain ⟨hi0_r_1, hi1_r_1⟩ := hr_1
  have hj0_r_1 : (q 28).toInt ≤ u_2.toInt ∧ u_2.toInt ≤ (q 26).toInt := hi0_r_1
  have hbl : rnP (isBl f25) ((q 26).toNatClampNeg) ((q 28).toNatClampNeg) (u_2.toNatClampNeg) := hi1_r_1
  obtain ⟨hP1, hD1⟩ := hB
  rw [ht] at hP1
  obtain ⟨hP, hD⟩ := va_repl [(h0, .inr (10, (Value.int (q 0) :: Value.int (q 1) :: Value.int (q 2) :: Value.int (q 3) :: Value.int (q 4) :: Value.int (q 5) :: Value.int (q 6) :: Value.int (q 7) :: Value.ref (a 8) :: Value.ref (a 9) :: Value.ref (a 10) :: Value.ref (a 11) :: Value.ref (a 12) :: Value.ref (a 13) :: Value.int (q 14) :: Value.long v :: Value.long w :: Value.ref (a 17) :: Value.ref (a 18) :: Value.ref (a 19) :: Value.ref (a 20) :: Value.ref (a 21) :: Value.ref (a 22) :: Value.ref (a 23) :: Value.int (q 24) :: Value.ref (a 25) :: Value.int (q 26) :: Value.ref (a 27) :: Value.int u_2 :: Value.int (q 29) :: Value.int (q 30) :: Value.int (q 31) :: Value.int (q 32) :: Value.int (q 33) :: Value.ref (a 34) :: Value.ref (a 35) :: Value.ref (a 36) :: Value.ref (a 37) :: Value.ref (a 38) :: Value.ref (a 39) :: Value.ref (a 40) :: Value.int (q 41) :: Value.ref (a 42) :: Value.int (q 43) :: Value.int (q 44) :: []))), ((a 25), .inl (T 0, 120, .inl f25))] hP hD [0, 1] [0, 1] rfl (by decide +kernel) rfl rfl rfl hk1 hP1
  clear hP1 hD1 hFc
  generalize H1 = H at hP hS ⊢
  refine lv_aload_n hx hb dX13_reads_4 rfl (lv_at hl 0 rfl) ?_
  refine va_get (D := D) (ci := 10) (v := .int u_2) (C := RX13) (T := TX13) (N := 45) hx hb hts in_X13_reads_X13 hown hE.1 hP 0 rfl rfl 28 (by decide +kernel) (hts (.fieldLink RX13 344 "ClauseBookModel" "cursor" "I") (List.mem_of_getElem? (i := 1) rfl)) (fun _ h9 => h9) rfl dX13_reads_5 ?_
  refine lv_istore_n (lv' := [(2, .int u_2), (0, .ref h0), (1, .int x1)]) hx hb dX13_reads_8 rfl hl (by decide +kernel) rfl (fun ls hl => ?_)
  refine lv_aload_n hx hb dX13_reads_9 rfl (lv_at hl 1 rfl) ?_
  refine vp_callSi (W.runV (As := []) (rest := []) ⟨hx, hb, hml, hown, hts⟩ (c_X13_here l D T h0 [.int (q 0), .int (q 1), .int (q 2), .int (q 3), .int (q 4), .int (q 5), .int (q 6), .int (q 7), .ref (a 8), .ref (a 9), .ref (a 10), .ref (a 11), .ref (a 12), .ref (a 13), .int (q 14), .long v, .long w, .ref (a 17), .ref (a 18), .ref (a 19), .ref (a 20), .ref (a 21), .ref (a 22), .ref (a 23), .int (q 24), .ref (a 25), .int (q 26), .ref (a 27), .int u_2, .int (q 29), .int (q 30), .int (q 31), .int (q 32), .int (q 33), .ref (a 34), .ref (a 35), .ref (a 36), .ref (a 37), .ref (a 38), .ref (a 39), .ref (a 40), .int (q 41), .ref (a 42), .int (q 43), .int (q 44)] (a 25) f25 u_2 (q 26) rfl rfl rfl (by omega)) (cwV 0 hts gX13_reads_X13_here rfl rfl rfl hv_X13_here ⟨Nat.le_of_ble_eq_true rfl, Nat.le_of_ble_eq_true rfl⟩) (pR_V (q := (RX13, TX13, 45)) (ci := 10) (q0 := 0) hP hE rfl rfl [0, 1] rfl) rfl rfl hl.1 rfl (lv_room (Nat.le_of_ble_eq_true rfl)) dX13_reads_10 ⟨Nat.le_of_ble_eq_true rfl, Nat.le_of_ble_eq_true rfl⟩) (fun r_3 hr_3 => ?_)
  refine lv_bipush (v := 45) hx hb dX13_reads_13 (by decide +kernel) ?_
  refine lv_icmp_ne (tgt := 22) hx hb dX13_reads_15 (by decide +kernel) (fun c_4 => ?_) (fun c_4 => ?_)
  · rw [fa_eq] at c_4
    try rw [ti_45] at c_4
    refine lv_iconst (v := 0) hx hb dX13_reads_22 (by decide +kernel) ?_
    refine lv_istore_n (lv' := [(3, .int 0), (2, .int u_2), (0, .ref h0), (1, .int x1)]) hx hb dX13_reads_23 rfl hl (by decide +kernel) rfl (fun ls hl => ?_)
    refine lv_aload_n hx hb dX13_reads_24 rfl (lv_at hl 2 rfl) ?_
    refine lv_dup hx hb dX13_reads_25 rfl ?_
    refine va_get (D := D) (ci := 10) (v := .int u_2) (C := RX13) (T := TX13) (N := 45) hx hb hts in_X13_reads_X13 hown hE.1 hP 0 rfl rfl 28 (by decide +kernel) (hts (.fieldLink RX13 344 "ClauseBookModel" "cursor" "I") (List.mem_of_getElem? (i := 1) rfl)) (fun _ h9 => h9) rfl dX13_reads_26 ?_
    refine lv_iload_n hx hb dX13_reads_29 rfl (lv_at hl 0 rfl) ?_
    refine lv_if_eq (tgt := 37) hx hb dX13_reads_30 (by decide +kernel) (fun _ => ?_) (fun c9 => absurd c9 (by decide +kernel))
    refine lv_iconst (v := 0) hx hb dX13_reads_37 (by decide +kernel) ?_
    refine lv_iadd hx hb dX13_reads_38 ?_
    refine lv_topi (fun z_5 ez_5 => ?_)
    have hz9 : z_5.toInt = u_2.toInt := by rw [ez_5, fb_addI (by rw [ti_0]; omega) (by rw [ti_0]; omega), ti_0]; omega
    have hng : u_2.toInt < (q 26).toInt → ¬ (f25 (u_2.toNatClampNeg)).toInt = 45 := fun h9 h8 => by
      have h7 := hr_3.resolve_left (fun h6 => by have h5 := h6.2; omega)
      rw [← h7.2] at h8
      omega
    have hzz : z_5 = u_2 := Int32.toInt_inj.1 hz9
    have hsg : u_2.toInt < (q 26).toInt → sgS f25 (u_2.toNatClampNeg) = z_5.toNatClampNeg := fun h9 => by unfold sgS; rw [if_neg (hng h9), hzz]
    refine va_put (D := D) (ci := 10) (v := .int z_5) (ty := .int) (C := RX13) (T := TX13) (N := 45) hx hb hts in_X13_reads_X13 tyX13 tyX13_ok nmX13 hown hE.1 hP hD hS 0 rfl rfl 28 (by decide +kernel) (hts (.fieldLink RX13 344 "ClauseBookModel" "cursor" "I") (List.mem_of_getElem? (i := 1) rfl)) (fun _ h9 => h9) rfl (by decide +kernel) rfl rfl (Nat.le_of_ble_eq_true rfl) dX13_reads_39 (fun H locs hP hD hS => ?_)
    obtain ⟨hP, hD⟩ := wPD [(h0, .inr (10, (Value.int (q 0) :: Value.int (q 1) :: Value.int (q 2) :: Value.int (q 3) :: Value.int (q 4) :: Value.int (q 5) :: Value.int (q 6) :: Value.int (q 7) :: Value.ref (a 8) :: Value.ref (a 9) :: Value.ref (a 10) :: Value.ref (a 11) :: Value.ref (a 12) :: Value.ref (a 13) :: Value.int (q 14) :: Value.long v :: Value.long w :: Value.ref (a 17) :: Value.ref (a 18) :: Value.ref (a 19) :: Value.ref (a 20) :: Value.ref (a 21) :: Value.ref (a 22) :: Value.ref (a 23) :: Value.int (q 24) :: Value.ref (a 25) :: Value.int (q 26) :: Value.ref (a 27) :: Value.int z_5 :: Value.int (q 29) :: Value.int (q 30) :: Value.int (q 31) :: Value.int (q 32) :: Value.int (q 33) :: Value.ref (a 34) :: Value.ref (a 35) :: Value.ref (a 36) :: Value.ref (a 37) :: Value.ref (a 38) :: Value.ref (a 39) :: Value.ref (a 40) :: Value.int (q 41) :: Value.ref (a 42) :: Value.int (q 43) :: Value.int (q 44) :: []))), ((a 25), .inl (T 0, 120, .inl f25))] hP hD rfl
    refine lv_aload_n hx hb dX13_reads_42 rfl (lv_at hl 2 rfl) ?_
    refine lv_aload_n hx hb dX13_reads_43 rfl (lv_at hl 2 rfl) ?_
    refine vp_callSi (W.runV (As := []) (rest := [.ref h0]) ⟨hx, hb, hml, hown, hts⟩ (c_X13_isDigit l D T h0 [.int (q 0), .int (q 1), .int (q 2), .int (q 3), .int (q 4), .int (q 5), .int (q 6), .int (q 7), .ref (a 8), .ref (a 9), .ref (a 10), .ref (a 11), .ref (a 12), .ref (a 13), .int (q 14), .long v, .long w, .ref (a 17), .ref (a 18), .ref (a 19), .ref (a 20), .ref (a 21), .ref (a 22), .ref (a 23), .int (q 24), .ref (a 25), .int (q 26), .ref (a 27), .int z_5, .int (q 29), .int (q 30), .int (q 31), .int (q 32), .int (q 33), .ref (a 34), .ref (a 35), .ref (a 36), .ref (a 37), .ref (a 38), .ref (a 39), .ref (a 40), .int (q 41), .ref (a 42), .int (q 43), .int (q 44)] (a 25) f25 z_5 (q 26) rfl rfl rfl (by omega)) (cwV 0 hts gX13_reads_X13_isDigit rfl rfl rfl hv_X13_isDigit ⟨Nat.le_of_ble_eq_true rfl, Nat.le_of_ble_eq_true rfl⟩) (pR_V (q := (RX13, TX13, 45)) (ci := 10) (q0 := 0) hP hE rfl rfl [0, 1] rfl) rfl rfl hl.1 rfl (lv_room (Nat.le_of_ble_eq_true rfl)) dX13_reads_44 ⟨Nat.le_of_ble_eq_true rfl, Nat.le_of_ble_eq_true rfl⟩) (fun r_6 hr_6 => ?_)
    rcases bool_post hr_6 with ⟨c_7, rfl⟩ | ⟨c_7, rfl⟩
    · refine lv_iload_n hx hb dX13_reads_47 rfl (lv_at hl 1 rfl) ?_
      have hFc := va_free (wc := [(h0, .inr (10, (Value.int (q 0) :: Value.int (q 1) :: Value.int (q 2) :: Value.int (q 3) :: Value.int (q 4) :: Value.int (q 5) :: Value.int (q 6) :: Value.int (q 7) :: Value.ref (a 8) :: Value.ref (a 9) :: Value.ref (a 10) :: Value.ref (a 11) :: Value.ref (a 12) :: Value.ref (a 13) :: Value.int (q 14) :: Value.long v :: Value.long w :: Value.ref (a 17) :: Value.ref (a 18) :: Value.ref (a 19) :: Value.ref (a 20) :: Value.ref (a 21) :: Value.ref (a 22) :: Value.ref (a 23) :: Value.int (q 24) :: Value.ref (a 25) :: Value.int (q 26) :: Value.ref (a 27) :: Value.int z_5 :: Value.int (q 29) :: Value.int (q 30) :: Value.int (q 31) :: Value.int (q 32) :: Value.int (q 33) :: Value.ref (a 34) :: Value.ref (a 35) :: Value.ref (a 36) :: Value.ref (a 37) :: Value.ref (a 38) :: Value.ref (a 39) :: Value.ref (a 40) :: Value.int (q 41) :: Value.ref (a 42) :: Value.int (q 43) :: Value.int (q 44) :: [])))]) hD hS hA [0] rfl
      refine va_calli (va_runV (As := [.int 1, .int u_2]) (rest := []) ⟨hx, hb, hml, hown, hts⟩ (c_X13_must l D T _ h0 (fun k => cond (Nat.beq k 28) z_5 (q k)) v w a 1 u_2 (show isB (1 : Int32) from isB1)) (cwV 2 hts gX13_reads_X13_must rfl rfl rfl hv_X13_must ⟨Nat.le_of_ble_eq_true rfl, Nat.le_of_ble_eq_true rfl⟩) (pW_V (q := (RX13, TX13, 45)) (ci := 10) (q0 := 0) hP hE hD rfl rfl [0] (by decide +kernel) rfl rfl) rfl rfl hl.1 rfl (lv_room (Nat.le_of_ble_eq_true rfl)) dX13_reads_48 ⟨Nat.le_of_ble_eq_true rfl, Nat.le_of_ble_eq_true rfl⟩) hS (fun q _ h => hFc q h) hFc (fun r_8 u_9 t H1 locs ht hvm hr_8 hB hz1 hk1 hS => ?_)
      obtain ⟨hi0_r_8, hi1_r_8, hi2_r_8⟩ := hr_8
      have hj0_r_8 : r_8 = (1 : Int32) := hi0_r_8
      have hG : isB r_8 := hi1_r_8
      have hfl : ((1 : Int32).toInt = 0 → u_9 = u_2) ∧ (¬ (1 : Int32).toInt = 0 → u_9 = (q 29)) := hi2_r_8
      obtain ⟨hP1, hD1⟩ := hB
      rw [ht] at hP1
      obtain ⟨hP, hD⟩ := va_repl [(h0, .inr (10, (Value.int (q 0) :: Value.int (q 1) :: Value.int (q 2) :: Value.int (q 3) :: Value.int (q 4) :: Value.int (q 5) :: Value.int (q 6) :: Value.int (q 7) :: Value.ref (a 8) :: Value.ref (a 9) :: Value.ref (a 10) :: Value.ref (a 11) :: Value.ref (a 12) :: Value.ref (a 13) :: Value.int (q 14) :: Value.long v :: Value.long w :: Value.ref (a 17) :: Value.ref (a 18) :: Value.ref (a 19) :: Value.ref (a 20) :: Value.ref (a 21) :: Value.ref (a 22) :: Value.ref (a 23) :: Value.int (q 24) :: Value.ref (a 25) :: Value.int (q 26) :: Value.ref (a 27) :: Value.int z_5 :: Value.int u_9 :: Value.int (q 30) :: Value.int (q 31) :: Value.int (q 32) :: Value.int (q 33) :: Value.ref (a 34) :: Value.ref (a 35) :: Value.ref (a 36) :: Value.ref (a 37) :: Value.ref (a 38) :: Value.ref (a 39) :: Value.ref (a 40) :: Value.int (q 41) :: Value.ref (a 42) :: Value.int (q 43) :: Value.int (q 44) :: []))), ((a 25), .inl (T 0, 120, .inl f25))] hP hD [0] [0] rfl (by decide +kernel) rfl rfl rfl hk1 hP1
      clear hP1 hD1 hFc
      generalize H1 = H at hP hS ⊢
      obtain rfl : r_8 = 1 := hi0_r_8
      refine lv_if_ne (tgt := 56) hx hb dX13_reads_51 (by decide +kernel) (fun _ => ?_) (fun c9 => absurd c9 (by decide +kernel))
      refine lv_aload_n hx hb dX13_reads_56 rfl (lv_at hl 2 rfl) ?_
      refine lv_iconst (v := 0) hx hb dX13_reads_57 (by decide +kernel) ?_
      refine va_put (D := D) (ci := 10) (v := .int 0) (ty := .int) (C := RX13) (T := TX13) (N := 45) hx hb hts in_X13_reads_X13 tyX13 tyX13_ok nmX13 hown hE.1 hP hD hS 0 rfl rfl 33 (by decide +kernel) (hts (.fieldLink RX13 369 "ClauseBookModel" "value" "I") (List.mem_of_getElem? (i := 2) rfl)) (fun _ h9 => h9) rfl (by decide +kernel) rfl rfl (Nat.le_of_ble_eq_true rfl) dX13_reads_58 (fun H locs hP hD hS => ?_)
      obtain ⟨hP, hD⟩ := wPD [(h0, .inr (10, (Value.int (q 0) :: Value.int (q 1) :: Value.int (q 2) :: Value.int (q 3) :: Value.int (q 4) :: Value.int (q 5) :: Value.int (q 6) :: Value.int (q 7) :: Value.ref (a 8) :: Value.ref (a 9) :: Value.ref (a 10) :: Value.ref (a 11) :: Value.ref (a 12) :: Value.ref (a 13) :: Value.int (q 14) :: Value.long v :: Value.long w :: Value.ref (a 17) :: Value.ref (a 18) :: Value.ref (a 19) :: Value.ref (a 20) :: Value.ref (a 21) :: Value.ref (a 22) :: Value.ref (a 23) :: Value.int (q 24) :: Value.ref (a 25) :: Value.int (q 26) :: Value.ref (a 27) :: Value.int z_5 :: Value.int u_9 :: Value.int (q 30) :: Value.int (q 31) :: Value.int (q 32) :: Value.int 0 :: Value.ref (a 34) :: Value.ref (a 35) :: Value.ref (a 36) :: Value.ref (a 37) :: Value.ref (a 38) :: Value.ref (a 39) :: Value.ref (a 40) :: Value.int (q 41) :: Value.ref (a 42) :: Value.int (q 43) :: Value.int (q 44) :: []))), ((a 25), .inl (T 0, 120, .inl f25))] hP hD rfl
      refine loopW (σ := (Int32) × (Int32)) (fun x9 ls H locs => lv_has ls 5 [(3, .int 0), (2, .int u_2), (0, .ref h0), (1, .int x1)] ∧ va_P D vwCl [(h0, .inr (10, (Value.int (q 0) :: Value.int (q 1) :: Value.int (q 2) :: Value.int (q 3) :: Value.int (q 4) :: Value.int (q 5) :: Value.int (q 6) :: Value.int (q 7) :: Value.ref (a 8) :: Value.ref (a 9) :: Value.ref (a 10) :: Value.ref (a 11) :: Value.ref (a 12) :: Value.ref (a 13) :: Value.int (q 14) :: Value.long v :: Value.long w :: Value.ref (a 17) :: Value.ref (a 18) :: Value.ref (a 19) :: Value.ref (a 20) :: Value.ref (a 21) :: Value.ref (a 22) :: Value.ref (a 23) :: Value.int (q 24) :: Value.ref (a 25) :: Value.int (q 26) :: Value.ref (a 27) :: Value.int x9.1 :: Value.int u_9 :: Value.int (q 30) :: Value.int (q 31) :: Value.int (q 32) :: Value.int x9.2 :: Value.ref (a 34) :: Value.ref (a 35) :: Value.ref (a 36) :: Value.ref (a 37) :: Value.ref (a 38) :: Value.ref (a 39) :: Value.ref (a 40) :: Value.int (q 41) :: Value.ref (a 42) :: Value.int (q 43) :: Value.int (q 44) :: []))), ((a 25), .inl (T 0, 120, .inl f25))] H ∧ va_D A [(h0, .inr (10, (Value.int (q 0) :: Value.int (q 1) :: Value.int (q 2) :: Value.int (q 3) :: Value.int (q 4) :: Value.int (q 5) :: Value.int (q 6) :: Value.int (q 7) :: Value.ref (a 8) :: Value.ref (a 9) :: Value.ref (a 10) :: Value.ref (a 11) :: Value.ref (a 12) :: Value.ref (a 13) :: Value.int (q 14) :: Value.long v :: Value.long w :: Value.ref (a 17) :: Value.ref (a 18) :: Value.ref (a 19) :: Value.ref (a 20) :: Value.ref (a 21) :: Value.ref (a 22) :: Value.ref (a 23) :: Value.int (q 24) :: Value.ref (a 25) :: Value.int (q 26) :: Value.ref (a 27) :: Value.int x9.1 :: Value.int u_9 :: Value.int (q 30) :: Value.int (q 31) :: Value.int (q 32) :: Value.int x9.2 :: Value.ref (a 34) :: Value.ref (a 35) :: Value.ref (a 36) :: Value.ref (a 37) :: Value.ref (a 38) :: Value.ref (a 39) :: Value.ref (a 40) :: Value.int (q 41) :: Value.ref (a 42) :: Value.int (q 43) :: Value.int (q 44) :: []))), ((a 25), .inl (T 0, 120, .inl f25))] ∧ va_S A s.heap H locs ∧ (((q 28).toInt ≤ x9.1.toInt ∧ z_5.toInt ≤ x9.1.toInt ∧ x9.1.toInt ≤ (q 26).toInt ∧ 0 ≤ x9.2.toInt ∧ x9.2.toInt ≤ 1089) ∧ (∀ j : Nat, z_5.toNatClampNeg ≤ j → j < x9.1.toNatClampNeg → isDi f25 j) ∧ dvR f25 z_5.toNatClampNeg (x9.1.toNatClampNeg - z_5.toNatClampNeg) x9.2)) (fun x9 => (120 - x9.1.toInt).toNat) (fun x9 ls H locs hI ih => ?_) (z_5, 0) ls ⟨lv_sub hl [0, 1, 2, 3] rfl, hP.sub [0, 1] rfl, hD.sub [0, 1] (by decide +kernel) rfl, hS, ⟨(by (try dsimp only); simp only [ti_0]; omega), (fun j h8 h9 => absurd h9 (by (try dsimp only); omega)), (Or.inl (by (try dsimp only); rw [Nat.sub_self]; exact ⟨(show (0 : Int) ≤ 99 from by decide), ti_0⟩))⟩⟩
      obtain ⟨cu, va⟩ := x9
      obtain ⟨hl, hP, hD, hS, hinv⟩ := hI
      have hl : lv_has ls 5 [(3, .int 0), (2, .int u_2), (0, .ref h0), (1, .int x1)] := hl
      have hP : va_P D vwCl [(h0, .inr (10, (Value.int (q 0) :: Value.int (q 1) :: Value.int (q 2) :: Value.int (q 3) :: Value.int (q 4) :: Value.int (q 5) :: Value.int (q 6) :: Value.int (q 7) :: Value.ref (a 8) :: Value.ref (a 9) :: Value.ref (a 10) :: Value.ref (a 11) :: Value.ref (a 12) :: Value.ref (a 13) :: Value.int (q 14) :: Value.long v :: Value.long w :: Value.ref (a 17) :: Value.ref (a 18) :: Value.ref (a 19) :: Value.ref (a 20) :: Value.ref (a 21) :: Value.ref (a 22) :: Value.ref (a 23) :: Value.int (q 24) :: Value.ref (a 25) :: Value.int (q 26) :: Value.ref (a 27) :: Value.int cu :: Value.int u_9 :: Value.int (q 30) :: Value.int (q 31) :: Value.int (q 32) :: Value.int va :: Value.ref (a 34) :: Value.ref (a 35) :: Value.ref (a 36) :: Value.ref (a 37) :: Value.ref (a 38) :: Value.ref (a 39) :: Value.ref (a 40) :: Value.int (q 41) :: Value.ref (a 42) :: Value.int (q 43) :: Value.int (q 44) :: []))), ((a 25), .inl (T 0, 120, .inl f25))] H := hP
      have hD : va_D A [(h0, .inr (10, (Value.int (q 0) :: Value.int (q 1) :: Value.int (q 2) :: Value.int (q 3) :: Value.int (q 4) :: Value.int (q 5) :: Value.int (q 6) :: Value.int (q 7) :: Value.ref (a 8) :: Value.ref (a 9) :: Value.ref (a 10) :: Value.ref (a 11) :: Value.ref (a 12) :: Value.ref (a 13) :: Value.int (q 14) :: Value.long v :: Value.long w :: Value.ref (a 17) :: Value.ref (a 18) :: Value.ref (a 19) :: Value.ref (a 20) :: Value.ref (a 21) :: Value.ref (a 22) :: Value.ref (a 23) :: Value.int (q 24) :: Value.ref (a 25) :: Value.int (q 26) :: Value.ref (a 27) :: Value.int cu :: Value.int u_9 :: Value.int (q 30) :: Value.int (q 31) :: Value.int (q 32) :: Value.int va :: Value.ref (a 34) :: Value.ref (a 35) :: Value.ref (a 36) :: Value.ref (a 37) :: Value.ref (a 38) :: Value.ref (a 39) :: Value.ref (a 40) :: Value.int (q 41) :: Value.ref (a 42) :: Value.int (q 43) :: Value.int (q 44) :: []))), ((a 25), .inl (T 0, 120, .inl f25))] := hD
      have hinv : ((q 28).toInt ≤ cu.toInt ∧ z_5.toInt ≤ cu.toInt ∧ cu.toInt ≤ (q 26).toInt ∧ 0 ≤ va.toInt ∧ va.toInt ≤ 1089) ∧ (∀ j : Nat, z_5.toNatClampNeg ≤ j → j < cu.toNatClampNeg → isDi f25 j) ∧ dvR f25 z_5.toNatClampNeg (cu.toNatClampNeg - z_5.toNatClampNeg) va := hinv
      obtain ⟨hinv, hal, hva⟩ := hinv
      refine lv_aload_n hx hb dX13_reads_61 rfl (lv_at hl 2 rfl) ?_
      refine vp_callSi (W.runV (As := []) (rest := []) ⟨hx, hb, hml, hown, hts⟩ (c_X13_isDigit l D T h0 [.int (q 0), .int (q 1), .int (q 2), .int (q 3), .int (q 4), .int (q 5), .int (q 6), .int (q 7), .ref (a 8), .ref (a 9), .ref (a 10), .ref (a 11), .ref (a 12), .ref (a 13), .int (q 14), .long v, .long w, .ref (a 17), .ref (a 18), .ref (a 19), .ref (a 20), .ref (a 21), .ref (a 22), .ref (a 23), .int (q 24), .ref (a 25), .int (q 26), .ref (a 27), .int cu, .int u_9, .int (q 30), .int (q 31), .int (q 32), .int va, .ref (a 34), .ref (a 35), .ref (a 36), .ref (a 37), .ref (a 38), .ref (a 39), .ref (a 40), .int (q 41), .ref (a 42), .int (q 43), .int (q 44)] (a 25) f25 cu (q 26) rfl rfl rfl (by omega)) (cwV 0 hts gX13_reads_X13_isDigit rfl rfl rfl hv_X13_isDigit ⟨Nat.le_of_ble_eq_true rfl, Nat.le_of_ble_eq_true rfl⟩) (pR_V (q := (RX13, TX13, 45)) (ci := 10) (q0 := 0) hP hE rfl rfl [0, 1] rfl) rfl rfl hl.1 rfl (lv_room (Nat.le_of_ble_eq_true rfl)) dX13_reads_62 ⟨Nat.le_of_ble_eq_true rfl, Nat.le_of_ble_eq_true rfl⟩) (fun r_10 hr_10 => ?_)
      rcases bool_post hr_10 with ⟨c_11, rfl⟩ | ⟨c_11, rfl⟩
      · refine lv_if_eq (tgt := 116) hx hb dX13_reads_65 (by decide +kernel) (fun c9 => absurd c9 (by decide +kernel)) (fun _ => ?_)
        refine lv_aload_n hx hb dX13_reads_68 rfl (lv_at hl 2 rfl) ?_
        refine lv_aload_n hx hb dX13_reads_69 rfl (lv_at hl 2 rfl) ?_
        refine va_get (D := D) (ci := 10) (v := .int va) (C := RX13) (T := TX13) (N := 45) hx hb hts in_X13_reads_X13 hown hE.1 hP 0 rfl rfl 33 (by decide +kernel) (hts (.fieldLink RX13 369 "ClauseBookModel" "value" "I") (List.mem_of_getElem? (i := 2) rfl)) (fun _ h9 => h9) rfl dX13_reads_70 ?_
        refine lv_bipush (v := 99) hx hb dX13_reads_73 (by decide +kernel) ?_
        refine lv_icmp_le (tgt := 85) hx hb dX13_reads_75 (by decide +kernel) (fun c_12 => ?_) (fun c_12 => ?_)
        · rw [fa_le] at c_12
          try rw [ti_99] at c_12
          refine lv_bipush (v := 10) hx hb dX13_reads_85 (by decide +kernel) ?_
          refine lv_aload_n hx hb dX13_reads_87 rfl (lv_at hl 2 rfl) ?_
          refine va_get (D := D) (ci := 10) (v := .int va) (C := RX13) (T := TX13) (N := 45) hx hb hts in_X13_reads_X13 hown hE.1 hP 0 rfl rfl 33 (by decide +kernel) (hts (.fieldLink RX13 369 "ClauseBookModel" "value" "I") (List.mem_of_getElem? (i := 2) rfl)) (fun _ h9 => h9) rfl dX13_reads_88 ?_
          refine lv_imul hx hb dX13_reads_91 ?_
          refine lv_aload_n hx hb dX13_reads_92 rfl (lv_at hl 2 rfl) ?_
          refine vp_callSi (W.runV (As := []) (rest := [.int (10 * va), .ref h0]) ⟨hx, hb, hml, hown, hts⟩ (c_X13_here l D T h0 [.int (q 0), .int (q 1), .int (q 2), .int (q 3), .int (q 4), .int (q 5), .int (q 6), .int (q 7), .ref (a 8), .ref (a 9), .ref (a 10), .ref (a 11), .ref (a 12), .ref (a 13), .int (q 14), .long v, .long w, .ref (a 17), .ref (a 18), .ref (a 19), .ref (a 20), .ref (a 21), .ref (a 22), .ref (a 23), .int (q 24), .ref (a 25), .int (q 26), .ref (a 27), .int cu, .int u_9, .int (q 30), .int (q 31), .int (q 32), .int va, .ref (a 34), .ref (a 35), .ref (a 36), .ref (a 37), .ref (a 38), .ref (a 39), .ref (a 40), .int (q 41), .ref (a 42), .int (q 43), .int (q 44)] (a 25) f25 cu (q 26) rfl rfl rfl (by omega)) (cwV 0 hts gX13_reads_X13_here rfl rfl rfl hv_X13_here ⟨Nat.le_of_ble_eq_true rfl, Nat.le_of_ble_eq_true rfl⟩) (pR_V (q := (RX13, TX13, 45)) (ci := 10) (q0 := 0) hP hE rfl rfl [0, 1] rfl) rfl rfl hl.1 rfl (lv_room (Nat.le_of_ble_eq_true rfl)) dX13_reads_93 ⟨Nat.le_of_ble_eq_true rfl, Nat.le_of_ble_eq_true rfl⟩) (fun r_13 hr_13 => ?_)
          refine lv_iadd hx hb dX13_reads_96 ?_
          refine lv_bipush (v := 48) hx hb dX13_reads_97 (by decide +kernel) ?_
          refine lv_isub hx hb dX13_reads_99 ?_
          refine lv_topi (fun z_14 ez_14 => ?_)
          have hrc := hr_13.resolve_left (fun h9 => by have h8 := h9.2; omega)
          have hm9 : (10 * va).toInt = 10 * va.toInt := by rw [fb_mulI (by rw [ti_10]; omega) (by rw [ti_10]; omega), ti_10]
          have hh9 : r_13.toInt = (f25 (cu.toNatClampNeg)).toInt := by rw [hrc.2]
          have ha9 : ((10 * va) + r_13).toInt = 10 * va.toInt + r_13.toInt := by rw [fb_addI (by omega) (by omega), hm9]
          have hx9 : z_14.toInt = 10 * va.toInt + r_13.toInt - 48 := by rw [ez_14, fb_subI (by rw [ti_48]; omega) (by rw [ti_48]; omega), ha9, ti_48]
          have hv9 : (99 < va.toInt ∧ z_14.toInt = va.toInt) ∨ (va.toInt ≤ 99 ∧ z_14.toInt = 10 * va.toInt + (f25 (cu.toNatClampNeg)).toInt - 48) := Or.inr ⟨by omega, by omega⟩
          refine va_put (D := D) (ci := 10) (v := .int z_14) (ty := .int) (C := RX13) (T := TX13) (N := 45) hx hb hts in_X13_reads_X13 tyX13 tyX13_ok nmX13 hown hE.1 hP hD hS 0 rfl rfl 33 (by decide +kernel) (hts (.fieldLink RX13 369 "ClauseBookModel" "value" "I") (List.mem_of_getElem? (i := 2) rfl)) (fun _ h9 => h9) rfl (by decide +kernel) rfl rfl (Nat.le_of_ble_eq_true rfl) dX13_reads_100 (fun H locs hP hD hS => ?_)
          obtain ⟨hP, hD⟩ := wPD [(h0, .inr (10, (Value.int (q 0) :: Value.int (q 1) :: Value.int (q 2) :: Value.int (q 3) :: Value.int (q 4) :: Value.int (q 5) :: Value.int (q 6) :: Value.int (q 7) :: Value.ref (a 8) :: Value.ref (a 9) :: Value.ref (a 10) :: Value.ref (a 11) :: Value.ref (a 12) :: Value.ref (a 13) :: Value.int (q 14) :: Value.long v :: Value.long w :: Value.ref (a 17) :: Value.ref (a 18) :: Value.ref (a 19) :: Value.ref (a 20) :: Value.ref (a 21) :: Value.ref (a 22) :: Value.ref (a 23) :: Value.int (q 24) :: Value.ref (a 25) :: Value.int (q 26) :: Value.ref (a 27) :: Value.int cu :: Value.int u_9 :: Value.int (q 30) :: Value.int (q 31) :: Value.int (q 32) :: Value.int z_14 :: Value.ref (a 34) :: Value.ref (a 35) :: Value.ref (a 36) :: Value.ref (a 37) :: Value.ref (a 38) :: Value.ref (a 39) :: Value.ref (a 40) :: Value.int (q 41) :: Value.ref (a 42) :: Value.int (q 43) :: Value.int (q 44) :: []))), ((a 25), .inl (T 0, 120, .inl f25))] hP hD rfl
          refine lv_aload_n hx hb dX13_reads_103 rfl (lv_at hl 2 rfl) ?_
          refine lv_dup hx hb dX13_reads_104 rfl ?_
          refine va_get (D := D) (ci := 10) (v := .int cu) (C := RX13) (T := TX13) (N := 45) hx hb hts in_X13_reads_X13 hown hE.1 hP 0 rfl rfl 28 (by decide +kernel) (hts (.fieldLink RX13 344 "ClauseBookModel" "cursor" "I") (List.mem_of_getElem? (i := 1) rfl)) (fun _ h9 => h9) rfl dX13_reads_105 ?_
          refine lv_iconst (v := 1) hx hb dX13_reads_108 (by decide +kernel) ?_
          refine lv_iadd hx hb dX13_reads_109 ?_
          refine lv_topi (fun z_15 ez_15 => ?_)
          refine va_put (D := D) (ci := 10) (v := .int z_15) (ty := .int) (C := RX13) (T := TX13) (N := 45) hx hb hts in_X13_reads_X13 tyX13 tyX13_ok nmX13 hown hE.1 hP hD hS 0 rfl rfl 28 (by decide +kernel) (hts (.fieldLink RX13 344 "ClauseBookModel" "cursor" "I") (List.mem_of_getElem? (i := 1) rfl)) (fun _ h9 => h9) rfl (by decide +kernel) rfl rfl (Nat.le_of_ble_eq_true rfl) dX13_reads_110 (fun H locs hP hD hS => ?_)
          obtain ⟨hP, hD⟩ := wPD [(h0, .inr (10, (Value.int (q 0) :: Value.int (q 1) :: Value.int (q 2) :: Value.int (q 3) :: Value.int (q 4) :: Value.int (q 5) :: Value.int (q 6) :: Value.int (q 7) :: Value.ref (a 8) :: Value.ref (a 9) :: Value.ref (a 10) :: Value.ref (a 11) :: Value.ref (a 12) :: Value.ref (a 13) :: Value.int (q 14) :: Value.long v :: Value.long w :: Value.ref (a 17) :: Value.ref (a 18) :: Value.ref (a 19) :: Value.ref (a 20) :: Value.ref (a 21) :: Value.ref (a 22) :: Value.ref (a 23) :: Value.int (q 24) :: Value.ref (a 25) :: Value.int (q 26) :: Value.ref (a 27) :: Value.int z_15 :: Value.int u_9 :: Value.int (q 30) :: Value.int (q 31) :: Value.int (q 32) :: Value.int z_14 :: Value.ref (a 34) :: Value.ref (a 35) :: Value.ref (a 36) :: Value.ref (a 37) :: Value.ref (a 38) :: Value.ref (a 39) :: Value.ref (a 40) :: Value.int (q 41) :: Value.ref (a 42) :: Value.int (q 43) :: Value.int (q 44) :: []))), ((a 25), .inl (T 0, 120, .inl f25))] hP hD rfl
          have hi9 : z_15.toInt = cu.toInt + 1 := by rw [ez_15]; exact inc1 (n := 1000) (by omega) (by decide +kernel)
          have hvn := dvR_step (s := z_5.toNatClampNeg) (by have h8 := tn (x := z_5) (by omega); omega) hi9 hal hva rfl (by omega) hv9
          refine lv_goto (tgt := 61) hx hb dX13_reads_113 (by decide +kernel) ?_
          exact ih (z_15, z_14) ls _ _ ⟨lv_sub hl [0, 1, 2, 3] rfl, hP.sub [0, 1] rfl, hD.sub [0, 1] (by decide +kernel) rfl, hS, ⟨(by (try dsimp only); have h8 := hva; unfold dvR at h8; omega), (by (try dsimp only); exact rn_step (by omega) hi9 hal (show isDi f25 (cu.toNatClampNeg) from ⟨by omega, by omega⟩)), (by (try dsimp only); exact hvn)⟩⟩ (by (try dsimp only); omega)
        · rw [fa_le] at c_12
          try rw [ti_99] at c_12
          refine lv_aload_n hx hb dX13_reads_78 rfl (lv_at hl 2 rfl) ?_
          refine va_get (D := D) (ci := 10) (v := .int va) (C := RX13) (T := TX13) (N := 45) hx hb hts in_X13_reads_X13 hown hE.1 hP 0 rfl rfl 33 (by decide +kernel) (hts (.fieldLink RX13 369 "ClauseBookModel" "value" "I") (List.mem_of_getElem? (i := 2) rfl)) (fun _ h9 => h9) rfl dX13_reads_79 ?_
          refine lv_goto (tgt := 100) hx hb dX13_reads_82 (by decide +kernel) ?_
          have hv9 : (99 < va.toInt ∧ va.toInt = va.toInt) ∨ (va.toInt ≤ 99 ∧ va.toInt = 10 * va.toInt + (f25 (cu.toNatClampNeg)).toInt - 48) := Or.inl ⟨by omega, rfl⟩
          refine va_put (D := D) (ci := 10) (v := .int va) (ty := .int) (C := RX13) (T := TX13) (N := 45) hx hb hts in_X13_reads_X13 tyX13 tyX13_ok nmX13 hown hE.1 hP hD hS 0 rfl rfl 33 (by decide +kernel) (hts (.fieldLink RX13 369 "ClauseBookModel" "value" "I") (List.mem_of_getElem? (i := 2) rfl)) (fun _ h9 => h9) rfl (by decide +kernel) rfl rfl (Nat.le_of_ble_eq_true rfl) dX13_reads_100 (fun H locs hP hD hS => ?_)
          obtain ⟨hP, hD⟩ := wPD [(h0, .inr (10, (Value.int (q 0) :: Value.int (q 1) :: Value.int (q 2) :: Value.int (q 3) :: Value.int (q 4) :: Value.int (q 5) :: Value.int (q 6) :: Value.int (q 7) :: Value.ref (a 8) :: Value.ref (a 9) :: Value.ref (a 10) :: Value.ref (a 11) :: Value.ref (a 12) :: Value.ref (a 13) :: Value.int (q 14) :: Value.long v :: Value.long w :: Value.ref (a 17) :: Value.ref (a 18) :: Value.ref (a 19) :: Value.ref (a 20) :: Value.ref (a 21) :: Value.ref (a 22) :: Value.ref (a 23) :: Value.int (q 24) :: Value.ref (a 25) :: Value.int (q 26) :: Value.ref (a 27) :: Value.int cu :: Value.int u_9 :: Value.int (q 30) :: Value.int (q 31) :: Value.int (q 32) :: Value.int va :: Value.ref (a 34) :: Value.ref (a 35) :: Value.ref (a 36) :: Value.ref (a 37) :: Value.ref (a 38) :: Value.ref (a 39) :: Value.ref (a 40) :: Value.int (q 41) :: Value.ref (a 42) :: Value.int (q 43) :: Value.int (q 44) :: []))), ((a 25), .inl (T 0, 120, .inl f25))] hP hD rfl
          refine lv_aload_n hx hb dX13_reads_103 rfl (lv_at hl 2 rfl) ?_
          refine lv_dup hx hb dX13_reads_104 rfl ?_
          refine va_get (D := D) (ci := 10) (v := .int cu) (C := RX13) (T := TX13) (N := 45) hx hb hts in_X13_reads_X13 hown hE.1 hP 0 rfl rfl 28 (by decide +kernel) (hts (.fieldLink RX13 344 "ClauseBookModel" "cursor" "I") (List.mem_of_getElem? (i := 1) rfl)) (fun _ h9 => h9) rfl dX13_reads_105 ?_
          refine lv_iconst (v := 1) hx hb dX13_reads_108 (by decide +kernel) ?_
          refine lv_iadd hx hb dX13_reads_109 ?_
          refine lv_topi (fun z_16 ez_16 => ?_)
          refine va_put (D := D) (ci := 10) (v := .int z_16) (ty := .int) (C := RX13) (T := TX13) (N := 45) hx hb hts in_X13_reads_X13 tyX13 tyX13_ok nmX13 hown hE.1 hP hD hS 0 rfl rfl 28 (by decide +kernel) (hts (.fieldLink RX13 344 "ClauseBookModel" "cursor" "I") (List.mem_of_getElem? (i := 1) rfl)) (fun _ h9 => h9) rfl (by decide +kernel) rfl rfl (Nat.le_of_ble_eq_true rfl) dX13_reads_110 (fun H locs hP hD hS => ?_)
          obtain ⟨hP, hD⟩ := wPD [(h0, .inr (10, (Value.int (q 0) :: Value.int (q 1) :: Value.int (q 2) :: Value.int (q 3) :: Value.int (q 4) :: Value.int (q 5) :: Value.int (q 6) :: Value.int (q 7) :: Value.ref (a 8) :: Value.ref (a 9) :: Value.ref (a 10) :: Value.ref (a 11) :: Value.ref (a 12) :: Value.ref (a 13) :: Value.int (q 14) :: Value.long v :: Value.long w :: Value.ref (a 17) :: Value.ref (a 18) :: Value.ref (a 19) :: Value.ref (a 20) :: Value.ref (a 21) :: Value.ref (a 22) :: Value.ref (a 23) :: Value.int (q 24) :: Value.ref (a 25) :: Value.int (q 26) :: Value.ref (a 27) :: Value.int z_16 :: Value.int u_9 :: Value.int (q 30) :: Value.int (q 31) :: Value.int (q 32) :: Value.int va :: Value.ref (a 34) :: Value.ref (a 35) :: Value.ref (a 36) :: Value.ref (a 37) :: Value.ref (a 38) :: Value.ref (a 39) :: Value.ref (a 40) :: Value.int (q 41) :: Value.ref (a 42) :: Value.int (q 43) :: Value.int (q 44) :: []))), ((a 25), .inl (T 0, 120, .inl f25))] hP hD rfl
          have hi9 : z_16.toInt = cu.toInt + 1 := by rw [ez_16]; exact inc1 (n := 1000) (by omega) (by decide +kernel)
          have hvn := dvR_step (s := z_5.toNatClampNeg) (by have h8 := tn (x := z_5) (by omega); omega) hi9 hal hva rfl (by omega) hv9
          refine lv_goto (tgt := 61) hx hb dX13_reads_113 (by decide +kernel) ?_
          exact ih (z_16, va) ls _ _ ⟨lv_sub hl [0, 1, 2, 3] rfl, hP.sub [0, 1] rfl, hD.sub [0, 1] (by decide +kernel) rfl, hS, ⟨(by (try dsimp only); have h8 := hva; unfold dvR at h8; omega), (by (try dsimp only); exact rn_step (by omega) hi9 hal (show isDi f25 (cu.toNatClampNeg) from ⟨by omega, by omega⟩)), (by (try dsimp only); exact hvn)⟩⟩ (by (try dsimp only); omega)
      · refine lv_if_eq (tgt := 116) hx hb dX13_reads_65 (by decide +kernel) (fun _ => ?_) (fun c9 => absurd c9 (by decide +kernel))
        have hdn : rnP (isDi f25) (q 26).toNatClampNeg (z_5.toNatClampNeg) (cu.toNatClampNeg) := rn_end (by omega) (by omega) (by omega) hal (fun h9 h8 => by unfold isDi at h8; omega)
        have hlt : z_5.toInt < cu.toInt := by
          rcases Int.lt_or_eq_of_le (show z_5.toInt ≤ cu.toInt by omega) with h9 | h9
          · exact h9
          · have h8 : z_5 = cu := Int32.toInt_inj.1 h9
            have h6 : (f25 (z_5.toNatClampNeg)).toInt = (f25 (cu.toNatClampNeg)).toInt := by rw [h8]
            omega
        have hlt2 : z_5.toNatClampNeg < cu.toNatClampNeg := by have h8 := tn (x := z_5) (by omega); have h7 := tn (x := cu) (by omega); omega
        have hsg := hsg (by omega)
        have hng := hng (by omega)
        refine lv_aload_n hx hb dX13_reads_116 rfl (lv_at hl 2 rfl) ?_
        refine va_get (D := D) (ci := 10) (v := .int va) (C := RX13) (T := TX13) (N := 45) hx hb hts in_X13_reads_X13 hown hE.1 hP 0 rfl rfl 33 (by decide +kernel) (hts (.fieldLink RX13 369 "ClauseBookModel" "value" "I") (List.mem_of_getElem? (i := 2) rfl)) (fun _ h9 => h9) rfl dX13_reads_117 ?_
        refine lv_bipush (v := 99) hx hb dX13_reads_120 (by decide +kernel) ?_
        refine lv_icmp_gt (tgt := 129) hx hb dX13_reads_122 (by decide +kernel) (fun c_17 => ?_) (fun c_17 => ?_)
        · rw [fa_lt] at c_17
          try rw [ti_99] at c_17
          refine lv_iconst (v := 0) hx hb dX13_reads_129 (by decide +kernel) ?_
          refine lv_istore (lv' := [(4, .int 0), (3, .int 0), (2, .int u_2), (0, .ref h0), (1, .int x1)]) hx hb dX13_reads_130 hl (by decide +kernel) rfl (fun ls hl => ?_)
          refine lv_aload_n hx hb dX13_reads_132 rfl (lv_at hl 3 rfl) ?_
          refine lv_iload_n hx hb dX13_reads_133 rfl (lv_at hl 1 rfl) ?_
          refine lv_if_eq (tgt := 145) hx hb dX13_reads_134 (by decide +kernel) (fun _ => ?_) (fun c9 => absurd c9 (by decide +kernel))
          refine lv_aload_n hx hb dX13_reads_145 rfl (lv_at hl 3 rfl) ?_
          refine va_get (D := D) (ci := 10) (v := .int va) (C := RX13) (T := TX13) (N := 45) hx hb hts in_X13_reads_X13 hown hE.1 hP 0 rfl rfl 33 (by decide +kernel) (hts (.fieldLink RX13 369 "ClauseBookModel" "value" "I") (List.mem_of_getElem? (i := 2) rfl)) (fun _ h9 => h9) rfl dX13_reads_146 ?_
          refine va_put (D := D) (ci := 10) (v := .int va) (ty := .int) (C := RX13) (T := TX13) (N := 45) hx hb hts in_X13_reads_X13 tyX13 tyX13_ok nmX13 hown hE.1 hP hD hS 0 rfl rfl 33 (by decide +kernel) (hts (.fieldLink RX13 369 "ClauseBookModel" "value" "I") (List.mem_of_getElem? (i := 2) rfl)) (fun _ h9 => h9) rfl (by decide +kernel) rfl rfl (Nat.le_of_ble_eq_true rfl) dX13_reads_149 (fun H locs hP hD hS => ?_)
          obtain ⟨hP, hD⟩ := wPD [(h0, .inr (10, (Value.int (q 0) :: Value.int (q 1) :: Value.int (q 2) :: Value.int (q 3) :: Value.int (q 4) :: Value.int (q 5) :: Value.int (q 6) :: Value.int (q 7) :: Value.ref (a 8) :: Value.ref (a 9) :: Value.ref (a 10) :: Value.ref (a 11) :: Value.ref (a 12) :: Value.ref (a 13) :: Value.int (q 14) :: Value.long v :: Value.long w :: Value.ref (a 17) :: Value.ref (a 18) :: Value.ref (a 19) :: Value.ref (a 20) :: Value.ref (a 21) :: Value.ref (a 22) :: Value.ref (a 23) :: Value.int (q 24) :: Value.ref (a 25) :: Value.int (q 26) :: Value.ref (a 27) :: Value.int cu :: Value.int u_9 :: Value.int (q 30) :: Value.int (q 31) :: Value.int (q 32) :: Value.int va :: Value.ref (a 34) :: Value.ref (a 35) :: Value.ref (a 36) :: Value.ref (a 37) :: Value.ref (a 38) :: Value.ref (a 39) :: Value.ref (a 40) :: Value.int (q 41) :: Value.ref (a 42) :: Value.int (q 43) :: Value.int (q 44) :: []))), ((a 25), .inl (T 0, 120, .inl f25))] hP hD rfl
          have hvv : va.toInt = if (f25 (u_2.toNatClampNeg)).toInt = 45 then -va.toInt else va.toInt := by rw [if_neg hng]
          refine lv_aload_n hx hb dX13_reads_152 rfl (lv_at hl 3 rfl) ?_
          refine lv_iload hx hb dX13_reads_153 (lv_at hl 0 rfl) ?_
          refine lv_if_eq (tgt := 173) hx hb dX13_reads_155 (by decide +kernel) (fun _ => ?_) (fun c9 => absurd c9 (by decide +kernel))
          refine lv_iconst (v := 0) hx hb dX13_reads_173 (by decide +kernel) ?_
          refine lv_iload_n hx hb dX13_reads_174 rfl (lv_at hl 2 rfl) ?_
          have hFc := va_free (wc := [(h0, .inr (10, (Value.int (q 0) :: Value.int (q 1) :: Value.int (q 2) :: Value.int (q 3) :: Value.int (q 4) :: Value.int (q 5) :: Value.int (q 6) :: Value.int (q 7) :: Value.ref (a 8) :: Value.ref (a 9) :: Value.ref (a 10) :: Value.ref (a 11) :: Value.ref (a 12) :: Value.ref (a 13) :: Value.int (q 14) :: Value.long v :: Value.long w :: Value.ref (a 17) :: Value.ref (a 18) :: Value.ref (a 19) :: Value.ref (a 20) :: Value.ref (a 21) :: Value.ref (a 22) :: Value.ref (a 23) :: Value.int (q 24) :: Value.ref (a 25) :: Value.int (q 26) :: Value.ref (a 27) :: Value.int cu :: Value.int u_9 :: Value.int (q 30) :: Value.int (q 31) :: Value.int (q 32) :: Value.int va :: Value.ref (a 34) :: Value.ref (a 35) :: Value.ref (a 36) :: Value.ref (a 37) :: Value.ref (a 38) :: Value.ref (a 39) :: Value.ref (a 40) :: Value.int (q 41) :: Value.ref (a 42) :: Value.int (q 43) :: Value.int (q 44) :: [])))]) hD hS hA [0] rfl
          refine va_calli (va_runV (As := [.int 0, .int u_2]) (rest := []) ⟨hx, hb, hml, hown, hts⟩ (c_X13_must l D T _ h0 (fun k => cond (Nat.beq k 28) cu (cond (Nat.beq k 29) u_9 (cond (Nat.beq k 33) va (q k)))) v w a 0 u_2 (show isB (0 : Int32) from isB0)) (cwV 2 hts gX13_reads_X13_must rfl rfl rfl hv_X13_must ⟨Nat.le_of_ble_eq_true rfl, Nat.le_of_ble_eq_true rfl⟩) (pW_V (q := (RX13, TX13, 45)) (ci := 10) (q0 := 0) hP hE hD rfl rfl [0] (by decide +kernel) rfl rfl) rfl rfl hl.1 rfl (lv_room (Nat.le_of_ble_eq_true rfl)) dX13_reads_175 ⟨Nat.le_of_ble_eq_true rfl, Nat.le_of_ble_eq_true rfl⟩) hS (fun q _ h => hFc q h) hFc (fun r_18 u_19 t H1 locs ht hvm hr_18 hB hz1 hk1 hS => ?_)
          obtain ⟨hi0_r_18, hi1_r_18, hi2_r_18⟩ := hr_18
          have hj0_r_18 : r_18 = (0 : Int32) := hi0_r_18
          have hG : isB r_18 := hi1_r_18
          have hfl : ((0 : Int32).toInt = 0 → u_19 = u_2) ∧ (¬ (0 : Int32).toInt = 0 → u_19 = u_9) := hi2_r_18
          obtain ⟨hP1, hD1⟩ := hB
          rw [ht] at hP1
          obtain ⟨hP, hD⟩ := va_repl [(h0, .inr (10, (Value.int (q 0) :: Value.int (q 1) :: Value.int (q 2) :: Value.int (q 3) :: Value.int (q 4) :: Value.int (q 5) :: Value.int (q 6) :: Value.int (q 7) :: Value.ref (a 8) :: Value.ref (a 9) :: Value.ref (a 10) :: Value.ref (a 11) :: Value.ref (a 12) :: Value.ref (a 13) :: Value.int (q 14) :: Value.long v :: Value.long w :: Value.ref (a 17) :: Value.ref (a 18) :: Value.ref (a 19) :: Value.ref (a 20) :: Value.ref (a 21) :: Value.ref (a 22) :: Value.ref (a 23) :: Value.int (q 24) :: Value.ref (a 25) :: Value.int (q 26) :: Value.ref (a 27) :: Value.int cu :: Value.int u_19 :: Value.int (q 30) :: Value.int (q 31) :: Value.int (q 32) :: Value.int va :: Value.ref (a 34) :: Value.ref (a 35) :: Value.ref (a 36) :: Value.ref (a 37) :: Value.ref (a 38) :: Value.ref (a 39) :: Value.ref (a 40) :: Value.int (q 41) :: Value.ref (a 42) :: Value.int (q 43) :: Value.int (q 44) :: []))), ((a 25), .inl (T 0, 120, .inl f25))] hP hD [0] [0] rfl (by decide +kernel) rfl rfl rfl hk1 hP1
          clear hP1 hD1 hFc
          generalize H1 = H at hP hS ⊢
          obtain rfl : r_18 = 0 := hi0_r_18
          exact W.zret hx hb hr rfl (fun t ht hW => ⟨⟨_, (cu, u_19, va), rfl, ⟨(show (q 28).toInt ≤ cu.toInt ∧ cu.toInt ≤ (q 26).toInt from (by first | omega | (subst_vars; omega))), (show (¬ (0 : Int32).toInt = 0 → ∃ p2 : Nat, rnP (isBl f25) ((q 26).toNatClampNeg) ((q 28).toNatClampNeg) p2 ∧ numK f25 ((q 26).toNatClampNeg) p2 (x1.toNatClampNeg) (cu.toNatClampNeg) va) ∧ ((0 : Int32).toInt = 0 → 0 ≤ u_19.toInt ∧ rnP (isBl f25) ((q 26).toNatClampNeg) ((q 28).toNatClampNeg) (u_19.toNatClampNeg) ∧ ∀ (e2 : Nat) (v2 : Int32), ¬ numK f25 ((q 26).toNatClampNeg) (u_19.toNatClampNeg) (x1.toNatClampNeg) e2 v2) from ⟨(fun h9 => absurd (by decide +kernel) h9), (fun _ => by
                                                        have hfe : u_19 = u_2 := hfl.1 (by decide +kernel)
                                                        rw [hfe]
                                                        exact ⟨by omega, hbl, (numR_no hsg hdn hva hvv (by omega))⟩)⟩)⟩, by rw [ht]; exact hP.sub [0, 1] rfl, hD.sub [0, 1] (by decide +kernel) rfl⟩, hS.F ht⟩) hS.2.2 dX13_reads_178
        · rw [fa_lt] at c_17
          try rw [ti_99] at c_17
          refine lv_iconst (v := 1) hx hb dX13_reads_125 (by decide +kernel) ?_
          refine lv_goto (tgt := 130) hx hb dX13_reads_126 (by decide +kernel) ?_
          refine lv_istore (lv' := [(4, .int 1), (3, .int 0), (2, .int u_2), (0, .ref h0), (1, .int x1)]) hx hb dX13_reads_130 hl (by decide +kernel) rfl (fun ls hl => ?_)
          refine lv_aload_n hx hb dX13_reads_132 rfl (lv_at hl 3 rfl) ?_
          refine lv_iload_n hx hb dX13_reads_133 rfl (lv_at hl 1 rfl) ?_
          refine lv_if_eq (tgt := 145) hx hb dX13_reads_134 (by decide +kernel) (fun _ => ?_) (fun c9 => absurd c9 (by decide +kernel))
          refine lv_aload_n hx hb dX13_reads_145 rfl (lv_at hl 3 rfl) ?_
          refine va_get (D := D) (ci := 10) (v := .int va) (C := RX13) (T := TX13) (N := 45) hx hb hts in_X13_reads_X13 hown hE.1 hP 0 rfl rfl 33 (by decide +kernel) (hts (.fieldLink RX13 369 "ClauseBookModel" "value" "I") (List.mem_of_getElem? (i := 2) rfl)) (fun _ h9 => h9) rfl dX13_reads_146 ?_
          refine va_put (D := D) (ci := 10) (v := .int va) (ty := .int) (C := RX13) (T := TX13) (N := 45) hx hb hts in_X13_reads_X13 tyX13 tyX13_ok nmX13 hown hE.1 hP hD hS 0 rfl rfl 33 (by decide +kernel) (hts (.fieldLink RX13 369 "ClauseBookModel" "value" "I") (List.mem_of_getElem? (i := 2) rfl)) (fun _ h9 => h9) rfl (by decide +kernel) rfl rfl (Nat.le_of_ble_eq_true rfl) dX13_reads_149 (fun H locs hP hD hS => ?_)
          obtain ⟨hP, hD⟩ := wPD [(h0, .inr (10, (Value.int (q 0) :: Value.int (q 1) :: Value.int (q 2) :: Value.int (q 3) :: Value.int (q 4) :: Value.int (q 5) :: Value.int (q 6) :: Value.int (q 7) :: Value.ref (a 8) :: Value.ref (a 9) :: Value.ref (a 10) :: Value.ref (a 11) :: Value.ref (a 12) :: Value.ref (a 13) :: Value.int (q 14) :: Value.long v :: Value.long w :: Value.ref (a 17) :: Value.ref (a 18) :: Value.ref (a 19) :: Value.ref (a 20) :: Value.ref (a 21) :: Value.ref (a 22) :: Value.ref (a 23) :: Value.int (q 24) :: Value.ref (a 25) :: Value.int (q 26) :: Value.ref (a 27) :: Value.int cu :: Value.int u_9 :: Value.int (q 30) :: Value.int (q 31) :: Value.int (q 32) :: Value.int va :: Value.ref (a 34) :: Value.ref (a 35) :: Value.ref (a 36) :: Value.ref (a 37) :: Value.ref (a 38) :: Value.ref (a 39) :: Value.ref (a 40) :: Value.int (q 41) :: Value.ref (a 42) :: Value.int (q 43) :: Value.int (q 44) :: []))), ((a 25), .inl (T 0, 120, .inl f25))] hP hD rfl
          have hvv : va.toInt = if (f25 (u_2.toNatClampNeg)).toInt = 45 then -va.toInt else va.toInt := by rw [if_neg hng]
          refine lv_aload_n hx hb dX13_reads_152 rfl (lv_at hl 3 rfl) ?_
          refine lv_iload hx hb dX13_reads_153 (lv_at hl 0 rfl) ?_
          refine lv_if_eq (tgt := 173) hx hb dX13_reads_155 (by decide +kernel) (fun c9 => absurd c9 (by decide +kernel)) (fun _ => ?_)
          refine lv_iload_n hx hb dX13_reads_158 rfl (lv_at hl 4 rfl) ?_
          refine lv_aload_n hx hb dX13_reads_159 rfl (lv_at hl 3 rfl) ?_
          refine va_get (D := D) (ci := 10) (v := .int va) (C := RX13) (T := TX13) (N := 45) hx hb hts in_X13_reads_X13 hown hE.1 hP 0 rfl rfl 33 (by decide +kernel) (hts (.fieldLink RX13 369 "ClauseBookModel" "value" "I") (List.mem_of_getElem? (i := 2) rfl)) (fun _ h9 => h9) rfl dX13_reads_160 ?_
          refine vp_callSi (W.runS (As := [.int x1, .int va]) (rest := [.ref h0]) ⟨hx, hb, hml, hown, hts⟩ (c_X13_isNumber l D T x1 va (by omega)) (va_cwS 2 hts gX13_reads_X13_isNumber rfl rfl rfl hs_X13_isNumber ⟨Nat.le_of_ble_eq_true rfl, Nat.le_of_ble_eq_true rfl⟩) (pR_S hP hE [] rfl) rfl rfl hl.1 rfl (lv_room (Nat.le_of_ble_eq_true rfl)) dX13_reads_163 ⟨Nat.le_of_ble_eq_true rfl, Nat.le_of_ble_eq_true rfl⟩) (fun r_20 hr_20 => ?_)
          rcases bool_post hr_20 with ⟨c_21, rfl⟩ | ⟨c_21, rfl⟩
          · refine lv_if_eq (tgt := 173) hx hb dX13_reads_166 (by decide +kernel) (fun c9 => absurd c9 (by decide +kernel)) (fun _ => ?_)
            refine lv_iconst (v := 1) hx hb dX13_reads_169 (by decide +kernel) ?_
            refine lv_goto (tgt := 174) hx hb dX13_reads_170 (by decide +kernel) ?_
            refine lv_iload_n hx hb dX13_reads_174 rfl (lv_at hl 2 rfl) ?_
            have hFc := va_free (wc := [(h0, .inr (10, (Value.int (q 0) :: Value.int (q 1) :: Value.int (q 2) :: Value.int (q 3) :: Value.int (q 4) :: Value.int (q 5) :: Value.int (q 6) :: Value.int (q 7) :: Value.ref (a 8) :: Value.ref (a 9) :: Value.ref (a 10) :: Value.ref (a 11) :: Value.ref (a 12) :: Value.ref (a 13) :: Value.int (q 14) :: Value.long v :: Value.long w :: Value.ref (a 17) :: Value.ref (a 18) :: Value.ref (a 19) :: Value.ref (a 20) :: Value.ref (a 21) :: Value.ref (a 22) :: Value.ref (a 23) :: Value.int (q 24) :: Value.ref (a 25) :: Value.int (q 26) :: Value.ref (a 27) :: Value.int cu :: Value.int u_9 :: Value.int (q 30) :: Value.int (q 31) :: Value.int (q 32) :: Value.int va :: Value.ref (a 34) :: Value.ref (a 35) :: Value.ref (a 36) :: Value.ref (a 37) :: Value.ref (a 38) :: Value.ref (a 39) :: Value.ref (a 40) :: Value.int (q 41) :: Value.ref (a 42) :: Value.int (q 43) :: Value.int (q 44) :: [])))]) hD hS hA [0] rfl
            refine va_calli (va_runV (As := [.int 1, .int u_2]) (rest := []) ⟨hx, hb, hml, hown, hts⟩ (c_X13_must l D T _ h0 (fun k => cond (Nat.beq k 28) cu (cond (Nat.beq k 29) u_9 (cond (Nat.beq k 33) va (q k)))) v w a 1 u_2 (show isB (1 : Int32) from isB1)) (cwV 2 hts gX13_reads_X13_must rfl rfl rfl hv_X13_must ⟨Nat.le_of_ble_eq_true rfl, Nat.le_of_ble_eq_true rfl⟩) (pW_V (q := (RX13, TX13, 45)) (ci := 10) (q0 := 0) hP hE hD rfl rfl [0] (by decide +kernel) rfl rfl) rfl rfl hl.1 rfl (lv_room (Nat.le_of_ble_eq_true rfl)) dX13_reads_175 ⟨Nat.le_of_ble_eq_true rfl, Nat.le_of_ble_eq_true rfl⟩) hS (fun q _ h => hFc q h) hFc (fun r_22 u_23 t H1 locs ht hvm hr_22 hB hz1 hk1 hS => ?_)
            obtain ⟨hi0_r_22, hi1_r_22, hi2_r_22⟩ := hr_22
            have hj0_r_22 : r_22 = (1 : Int32) := hi0_r_22
            have hG : isB r_22 := hi1_r_22
            have hfl : ((1 : Int32).toInt = 0 → u_23 = u_2) ∧ (¬ (1 : Int32).toInt = 0 → u_23 = u_9) := hi2_r_22
            obtain ⟨hP1, hD1⟩ := hB
            rw [ht] at hP1
            obtain ⟨hP, hD⟩ := va_repl [(h0, .inr (10, (Value.int (q 0) :: Value.int (q 1) :: Value.int (q 2) :: Value.int (q 3) :: Value.int (q 4) :: Value.int (q 5) :: Value.int (q 6) :: Value.int (q 7) :: Value.ref (a 8) :: Value.ref (a 9) :: Value.ref (a 10) :: Value.ref (a 11) :: Value.ref (a 12) :: Value.ref (a 13) :: Value.int (q 14) :: Value.long v :: Value.long w :: Value.ref (a 17) :: Value.ref (a 18) :: Value.ref (a 19) :: Value.ref (a 20) :: Value.ref (a 21) :: Value.ref (a 22) :: Value.ref (a 23) :: Value.int (q 24) :: Value.ref (a 25) :: Value.int (q 26) :: Value.ref (a 27) :: Value.int cu :: Value.int u_23 :: Value.int (q 30) :: Value.int (q 31) :: Value.int (q 32) :: Value.int va :: Value.ref (a 34) :: Value.ref (a 35) :: Value.ref (a 36) :: Value.ref (a 37) :: Value.ref (a 38) :: Value.ref (a 39) :: Value.ref (a 40) :: Value.int (q 41) :: Value.ref (a 42) :: Value.int (q 43) :: Value.int (q 44) :: []))), ((a 25), .inl (T 0, 120, .inl f25))] hP hD [0] [0] rfl (by decide +kernel) rfl rfl rfl hk1 hP1
            clear hP1 hD1 hFc
            generalize H1 = H at hP hS ⊢
            obtain rfl : r_22 = 1 := hi0_r_22
            exact W.zret hx hb hr rfl (fun t ht hW => ⟨⟨_, (cu, u_23, va), rfl, ⟨(show (q 28).toInt ≤ cu.toInt ∧ cu.toInt ≤ (q 26).toInt from (by first | omega | (subst_vars; omega))), (show (¬ (1 : Int32).toInt = 0 → ∃ p2 : Nat, rnP (isBl f25) ((q 26).toNatClampNeg) ((q 28).toNatClampNeg) p2 ∧ numK f25 ((q 26).toNatClampNeg) p2 (x1.toNatClampNeg) (cu.toNatClampNeg) va) ∧ ((1 : Int32).toInt = 0 → 0 ≤ u_23.toInt ∧ rnP (isBl f25) ((q 26).toNatClampNeg) ((q 28).toNatClampNeg) (u_23.toNatClampNeg) ∧ ∀ (e2 : Nat) (v2 : Int32), ¬ numK f25 ((q 26).toNatClampNeg) (u_23.toNatClampNeg) (x1.toNatClampNeg) e2 v2) from ⟨(fun _ => ⟨_, hbl, numR_yes hsg hdn hlt2 hva (by omega) hvv (by omega)⟩), (fun h9 => absurd h9 (by decide +kernel))⟩)⟩, by rw [ht]; exact hP.sub [0, 1] rfl, hD.sub [0, 1] (by decide +kernel) rfl⟩, hS.F ht⟩) hS.2.2 dX13_reads_178
          · refine lv_if_eq (tgt := 173) hx hb dX13_reads_166 (by decide +kernel) (fun _ => ?_) (fun c9 => absurd c9 (by decide +kernel))
            refine lv_iconst (v := 0) hx hb dX13_reads_173 (by decide +kernel) ?_
            refine lv_iload_n hx hb dX13_reads_174 rfl (lv_at hl 2 rfl) ?_
            have hFc := va_free (wc := [(h0, .inr (10, (Value.int (q 0) :: Value.int (q 1) :: Value.int (q 2) :: Value.int (q 3) :: Value.int (q 4) :: Value.int (q 5) :: Value.int (q 6) :: Value.int (q 7) :: Value.ref (a 8) :: Value.ref (a 9) :: Value.ref (a 10) :: Value.ref (a 11) :: Value.ref (a 12) :: Value.ref (a 13) :: Value.int (q 14) :: Value.long v :: Value.long w :: Value.ref (a 17) :: Value.ref (a 18) :: Value.ref (a 19) :: Value.ref (a 20) :: Value.ref (a 21) :: Value.ref (a 22) :: Value.ref (a 23) :: Value.int (q 24) :: Value.ref (a 25) :: Value.int (q 26) :: Value.ref (a 27) :: Value.int cu :: Value.int u_9 :: Value.int (q 30) :: Value.int (q 31) :: Value.int (q 32) :: Value.int va :: Value.ref (a 34) :: Value.ref (a 35) :: Value.ref (a 36) :: Value.ref (a 37) :: Value.ref (a 38) :: Value.ref (a 39) :: Value.ref (a 40) :: Value.int (q 41) :: Value.ref (a 42) :: Value.int (q 43) :: Value.int (q 44) :: [])))]) hD hS hA [0] rfl
            refine va_calli (va_runV (As := [.int 0, .int u_2]) (rest := []) ⟨hx, hb, hml, hown, hts⟩ (c_X13_must l D T _ h0 (fun k => cond (Nat.beq k 28) cu (cond (Nat.beq k 29) u_9 (cond (Nat.beq k 33) va (q k)))) v w a 0 u_2 (show isB (0 : Int32) from isB0)) (cwV 2 hts gX13_reads_X13_must rfl rfl rfl hv_X13_must ⟨Nat.le_of_ble_eq_true rfl, Nat.le_of_ble_eq_true rfl⟩) (pW_V (q := (RX13, TX13, 45)) (ci := 10) (q0 := 0) hP hE hD rfl rfl [0] (by decide +kernel) rfl rfl) rfl rfl hl.1 rfl (lv_room (Nat.le_of_ble_eq_true rfl)) dX13_reads_175 ⟨Nat.le_of_ble_eq_true rfl, Nat.le_of_ble_eq_true rfl⟩) hS (fun q _ h => hFc q h) hFc (fun r_24 u_25 t H1 locs ht hvm hr_24 hB hz1 hk1 hS => ?_)
            obtain ⟨hi0_r_24, hi1_r_24, hi2_r_24⟩ := hr_24
            have hj0_r_24 : r_24 = (0 : Int32) := hi0_r_24
            have hG : isB r_24 := hi1_r_24
            have hfl : ((0 : Int32).toInt = 0 → u_25 = u_2) ∧ (¬ (0 : Int32).toInt = 0 → u_25 = u_9) := hi2_r_24
            obtain ⟨hP1, hD1⟩ := hB
            rw [ht] at hP1
            obtain ⟨hP, hD⟩ := va_repl [(h0, .inr (10, (Value.int (q 0) :: Value.int (q 1) :: Value.int (q 2) :: Value.int (q 3) :: Value.int (q 4) :: Value.int (q 5) :: Value.int (q 6) :: Value.int (q 7) :: Value.ref (a 8) :: Value.ref (a 9) :: Value.ref (a 10) :: Value.ref (a 11) :: Value.ref (a 12) :: Value.ref (a 13) :: Value.int (q 14) :: Value.long v :: Value.long w :: Value.ref (a 17) :: Value.ref (a 18) :: Value.ref (a 19) :: Value.ref (a 20) :: Value.ref (a 21) :: Value.ref (a 22) :: Value.ref (a 23) :: Value.int (q 24) :: Value.ref (a 25) :: Value.int (q 26) :: Value.ref (a 27) :: Value.int cu :: Value.int u_25 :: Value.int (q 30) :: Value.int (q 31) :: Value.int (q 32) :: Value.int va :: Value.ref (a 34) :: Value.ref (a 35) :: Value.ref (a 36) :: Value.ref (a 37) :: Value.ref (a 38) :: Value.ref (a 39) :: Value.ref (a 40) :: Value.int (q 41) :: Value.ref (a 42) :: Value.int (q 43) :: Value.int (q 44) :: []))), ((a 25), .inl (T 0, 120, .inl f25))] hP hD [0] [0] rfl (by decide +kernel) rfl rfl rfl hk1 hP1
            clear hP1 hD1 hFc
            generalize H1 = H at hP hS ⊢
            obtain rfl : r_24 = 0 := hi0_r_24
            exact W.zret hx hb hr rfl (fun t ht hW => ⟨⟨_, (cu, u_25, va), rfl, ⟨(show (q 28).toInt ≤ cu.toInt ∧ cu.toInt ≤ (q 26).toInt from (by first | omega | (subst_vars; omega))), (show (¬ (0 : Int32).toInt = 0 → ∃ p2 : Nat, rnP (isBl f25) ((q 26).toNatClampNeg) ((q 28).toNatClampNeg) p2 ∧ numK f25 ((q 26).toNatClampNeg) p2 (x1.toNatClampNeg) (cu.toNatClampNeg) va) ∧ ((0 : Int32).toInt = 0 → 0 ≤ u_25.toInt ∧ rnP (isBl f25) ((q 26).toNatClampNeg) ((q 28).toNatClampNeg) (u_25.toNatClampNeg) ∧ ∀ (e2 : Nat) (v2 : Int32), ¬ numK f25 ((q 26).toNatClampNeg) (u_25.toNatClampNeg) (x1.toNatClampNeg) e2 v2) from ⟨(fun h9 => absurd (by decide +kernel) h9), (fun _ => by
                                                        have hfe : u_25 = u_2 := hfl.1 (by decide +kernel)
                                                        rw [hfe]
                                                        exact ⟨by omega, hbl, (numR_no hsg hdn hva hvv (by omega))⟩)⟩)⟩, by rw [ht]; exact hP.sub [0, 1] rfl, hD.sub [0, 1] (by decide +kernel) rfl⟩, hS.F ht⟩) hS.2.2 dX13_reads_178
    · refine lv_iload_n hx hb dX13_reads_47 rfl (lv_at hl 1 rfl) ?_
      have hFc := va_free (wc := [(h0, .inr (10, (Value.int (q 0) :: Value.int (q 1) :: Value.int (q 2) :: Value.int (q 3) :: Value.int (q 4) :: Value.int (q 5) :: Value.int (q 6) :: Value.int (q 7) :: Value.ref (a 8) :: Value.ref (a 9) :: Value.ref (a 10) :: Value.ref (a 11) :: Value.ref (a 12) :: Value.ref (a 13) :: Value.int (q 14) :: Value.long v :: Value.long w :: Value.ref (a 17) :: Value.ref (a 18) :: Value.ref (a 19) :: Value.ref (a 20) :: Value.ref (a 21) :: Value.ref (a 22) :: Value.ref (a 23) :: Value.int (q 24) :: Value.ref (a 25) :: Value.int (q 26) :: Value.ref (a 27) :: Value.int z_5 :: Value.int (q 29) :: Value.int (q 30) :: Value.int (q 31) :: Value.int (q 32) :: Value.int (q 33) :: Value.ref (a 34) :: Value.ref (a 35) :: Value.ref (a 36) :: Value.ref (a 37) :: Value.ref (a 38) :: Value.ref (a 39) :: Value.ref (a 40) :: Value.int (q 41) :: Value.ref (a 42) :: Value.int (q 43) :: Value.int (q 44) :: [])))]) hD hS hA [0] rfl
      refine va_calli (va_runV (As := [.int 0, .int u_2]) (rest := []) ⟨hx, hb, hml, hown, hts⟩ (c_X13_must l D T _ h0 (fun k => cond (Nat.beq k 28) z_5 (q k)) v w a 0 u_2 (show isB (0 : Int32) from isB0)) (cwV 2 hts gX13_reads_X13_must rfl rfl rfl hv_X13_must ⟨Nat.le_of_ble_eq_true rfl, Nat.le_of_ble_eq_true rfl⟩) (pW_V (q := (RX13, TX13, 45)) (ci := 10) (q0 := 0) hP hE hD rfl rfl [0] (by decide +kernel) rfl rfl) rfl rfl hl.1 rfl (lv_room (Nat.le_of_ble_eq_true rfl)) dX13_reads_48 ⟨Nat.le_of_ble_eq_true rfl, Nat.le_of_ble_eq_true rfl⟩) hS (fun q _ h => hFc q h) hFc (fun r_26 u_27 t H1 locs ht hvm hr_26 hB hz1 hk1 hS => ?_)
      obtain ⟨hi0_r_26, hi1_r_26, hi2_r_26⟩ := hr_26
      have hj0_r_26 : r_26 = (0 : Int32) := hi0_r_26
      have hG : isB r_26 := hi1_r_26
      have hfl : ((0 : Int32).toInt = 0 → u_27 = u_2) ∧ (¬ (0 : Int32).toInt = 0 → u_27 = (q 29)) := hi2_r_26
      obtain ⟨hP1, hD1⟩ := hB
      rw [ht] at hP1
      obtain ⟨hP, hD⟩ := va_repl [(h0, .inr (10, (Value.int (q 0) :: Value.int (q 1) :: Value.int (q 2) :: Value.int (q 3) :: Value.int (q 4) :: Value.int (q 5) :: Value.int (q 6) :: Value.int (q 7) :: Value.ref (a 8) :: Value.ref (a 9) :: Value.ref (a 10) :: Value.ref (a 11) :: Value.ref (a 12) :: Value.ref (a 13) :: Value.int (q 14) :: Value.long v :: Value.long w :: Value.ref (a 17) :: Value.ref (a 18) :: Value.ref (a 19) :: Value.ref (a 20) :: Value.ref (a 21) :: Value.ref (a 22) :: Value.ref (a 23) :: Value.int (q 24) :: Value.ref (a 25) :: Value.int (q 26) :: Value.ref (a 27) :: Value.int z_5 :: Value.int u_27 :: Value.int (q 30) :: Value.int (q 31) :: Value.int (q 32) :: Value.int (q 33) :: Value.ref (a 34) :: Value.ref (a 35) :: Value.ref (a 36) :: Value.ref (a 37) :: Value.ref (a 38) :: Value.ref (a 39) :: Value.ref (a 40) :: Value.int (q 41) :: Value.ref (a 42) :: Value.int (q 43) :: Value.int (q 44) :: []))), ((a 25), .inl (T 0, 120, .inl f25))] hP hD [0] [0] rfl (by decide +kernel) rfl rfl rfl hk1 hP1
      clear hP1 hD1 hFc
      generalize H1 = H at hP hS ⊢
      obtain rfl : r_26 = 0 := hi0_r_26
      refine lv_if_ne (tgt := 56) hx hb dX13_reads_51 (by decide +kernel) (fun c9 => absurd c9 (by decide +kernel)) (fun _ => ?_)
      refine lv_iconst (v := 0) hx hb dX13_reads_54 (by decide +kernel) ?_
      exact W.zret hx hb hr rfl (fun t ht hW => ⟨⟨_, (z_5, u_27, (q 33)), rfl, ⟨(show (q 28).toInt ≤ z_5.toInt ∧ z_5.toInt ≤ (q 26).toInt from (by first | omega | (subst_vars; omega))), (show (¬ (0 : Int32).toInt = 0 → ∃ p2 : Nat, rnP (isBl f25) ((q 26).toNatClampNeg) ((q 28).toNatClampNeg) p2 ∧ numK f25 ((q 26).toNatClampNeg) p2 (x1.toNatClampNeg) (z_5.toNatClampNeg) (q 33)) ∧ ((0 : Int32).toInt = 0 → 0 ≤ u_27.toInt ∧ rnP (isBl f25) ((q 26).toNatClampNeg) ((q 28).toNatClampNeg) (u_27.toNatClampNeg) ∧ ∀ (e2 : Nat) (v2 : Int32), ¬ numK f25 ((q 26).toNatClampNeg) (u_27.toNatClampNeg) (x1.toNatClampNeg) e2 v2) from ⟨(fun h9 => absurd (by decide +kernel) h9), (fun _ => by
                                                        have hfe : u_27 = u_2 := hfl.1 (by decide +kernel)
                                                        rw [hfe]
                                                        exact ⟨by omega, hbl, (fun e2 v2 => by
                                                            by_cases h9 : u_2.toInt < (q 26).toInt
                                                            · refine numK_nodig (fun h8 => ?_)
                                                              rw [hsg h9] at h8
                                                              have h7 := h8.1
                                                              have h6 := tn (x := z_5) (by omega)
                                                              have h5 := tn (x := (q 26)) (by omega)
                                                              have h4 := h8.2
                                                              unfold isDi at h4
                                                              omega
                                                            · have h8 : u_2.toNatClampNeg = (q 26).toNatClampNeg := congrArg Int32.toNatClampNeg (Int32.toInt_inj.1 (by omega))
                                                              rw [h8]
                                                              exact numK_end)⟩)⟩)⟩, by rw [ht]; exact hP.sub [0, 1] rfl, hD.sub [0, 1] (by decide +kernel) rfl⟩, hS.F ht⟩) hS.2.2 dX13_reads_55
  · rw [fa_eq] at c_4
    try rw [ti_45] at c_4
    refine lv_iconst (v := 1) hx hb dX13_reads_18 (by decide +kernel) ?_
    refine lv_goto (tgt := 23) hx hb dX13_reads_19 (by decide +kernel) ?_
    refine lv_istore_n (lv' := [(3, .int 1), (2, .int u_2), (0, .ref h0), (1, .int x1)]) hx hb dX13_reads_23 rfl hl (by decide +kernel) rfl (fun ls hl => ?_)
    refine lv_aload_n hx hb dX13_reads_24 rfl (lv_at hl 2 rfl) ?_
    refine lv_dup hx hb dX13_reads_25 rfl ?_
    refine va_get (D := D) (ci := 10) (v := .int u_2) (C := RX13) (T := TX13) (N := 45) hx hb hts in_X13_reads_X13 hown hE.1 hP 0 rfl rfl 28 (by decide +kernel) (hts (.fieldLink RX13 344 "ClauseBookModel" "cursor" "I") (List.mem_of_getElem? (i := 1) rfl)) (fun _ h9 => h9) rfl dX13_reads_26 ?_
    refine lv_iload_n hx hb dX13_reads_29 rfl (lv_at hl 0 rfl) ?_
    refine lv_if_eq (tgt := 37) hx hb dX13_reads_30 (by decide +kernel) (fun c9 => absurd c9 (by decide +kernel)) (fun _ => ?_)
    refine lv_iconst (v := 1) hx hb dX13_reads_33 (by decide +kernel) ?_
    refine lv_goto (tgt := 38) hx hb dX13_reads_34 (by decide +kernel) ?_
    refine lv_iadd hx hb dX13_reads_38 ?_
    refine lv_topi (fun z_28 ez_28 => ?_)
    have hz9 : z_28.toInt = u_2.toInt + 1 := by rw [ez_28]; exact inc1 (n := 1000) (by omega) (by decide +kernel)
    have hrb := hr_3.resolve_left (fun h9 => by have h8 := h9.1; omega)
    have hng : (f25 (u_2.toNatClampNeg)).toInt = 45 := by rw [← hrb.2]; omega
    have hsg : sgS f25 (u_2.toNatClampNeg) = z_28.toNatClampNeg := by unfold sgS; rw [if_pos hng, tnS (by omega) hz9]
    have hfn : u_2.toInt < (q 26).toInt := hrb.1
    refine va_put (D := D) (ci := 10) (v := .int z_28) (ty := .int) (C := RX13) (T := TX13) (N := 45) hx hb hts in_X13_reads_X13 tyX13 tyX13_ok nmX13 hown hE.1 hP hD hS 0 rfl rfl 28 (by decide +kernel) (hts (.fieldLink RX13 344 "ClauseBookModel" "cursor" "I") (List.mem_of_getElem? (i := 1) rfl)) (fun _ h9 => h9) rfl (by decide +kernel) rfl rfl (Nat.le_of_ble_eq_true rfl) dX13_reads_39 (fun H locs hP hD hS => ?_)
    obtain ⟨hP, hD⟩ := wPD [(h0, .inr (10, (Value.int (q 0) :: Value.int (q 1) :: Value.int (q 2) :: Value.int (q 3) :: Value.int (q 4) :: Value.int (q 5) :: Value.int (q 6) :: Value.int (q 7) :: Value.ref (a 8) :: Value.ref (a 9) :: Value.ref (a 10) :: Value.ref (a 11) :: Value.ref (a 12) :: Value.ref (a 13) :: Value.int (q 14) :: Value.long v :: Value.long w :: Value.ref (a 17) :: Value.ref (a 18) :: Value.ref (a 19) :: Value.ref (a 20) :: Value.ref (a 21) :: Value.ref (a 22) :: Value.ref (a 23) :: Value.int (q 24) :: Value.ref (a 25) :: Value.int (q 26) :: Value.ref (a 27) :: Value.int z_28 :: Value.int (q 29) :: Value.int (q 30) :: Value.int (q 31) :: Value.int (q 32) :: Value.int (q 33) :: Value.ref (a 34) :: Value.ref (a 35) :: Value.ref (a 36) :: Value.ref (a 37) :: Value.ref (a 38) :: Value.ref (a 39) :: Value.ref (a 40) :: Value.int (q 41) :: Value.ref (a 42) :: Value.int (q 43) :: Value.int (q 44) :: []))), ((a 25), .inl (T 0, 120, .inl f25))] hP hD rfl
    refine lv_aload_n hx hb dX13_reads_42 rfl (lv_at hl 2 rfl) ?_
    refine lv_aload_n hx hb dX13_reads_43 rfl (lv_at hl 2 rfl) ?_
    refine vp_callSi (W.runV (As := []) (rest := [.ref h0]) ⟨hx, hb, hml, hown, hts⟩ (c_X13_isDigit l D T h0 [.int (q 0), .int (q 1), .int (q 2), .int (q 3), .int (q 4), .int (q 5), .int (q 6), .int (q 7), .ref (a 8), .ref (a 9), .ref (a 10), .ref (a 11), .ref (a 12), .ref (a 13), .int (q 14), .long v, .long w, .ref (a 17), .ref (a 18), .ref (a 19), .ref (a 20), .ref (a 21), .ref (a 22), .ref (a 23), .int (q 24), .ref (a 25), .int (q 26), .ref (a 27), .int z_28, .int (q 29), .int (q 30), .int (q 31), .int (q 32), .int (q 33), .ref (a 34), .ref (a 35), .ref (a 36), .ref (a 37), .ref (a 38), .ref (a 39), .ref (a 40), .int (q 41), .ref (a 42), .int (q 43), .int (q 44)] (a 25) f25 z_28 (q 26) rfl rfl rfl (by omega)) (cwV 0 hts gX13_reads_X13_isDigit rfl rfl rfl hv_X13_isDigit ⟨Nat.le_of_ble_eq_true rfl, Nat.le_of_ble_eq_true rfl⟩) (pR_V (q := (RX13, TX13, 45)) (ci := 10) (q0 := 0) hP hE rfl rfl [0, 1] rfl) rfl rfl hl.1 rfl (lv_room (Nat.le_of_ble_eq_true rfl)) dX13_reads_44 ⟨Nat.le_of_ble_eq_true rfl, Nat.le_of_ble_eq_true rfl⟩) (fun r_29 hr_29 => ?_)
    rcases bool_post hr_29 with ⟨c_30, rfl⟩ | ⟨c_30, rfl⟩
    · refine lv_iload_n hx hb dX13_reads_47 rfl (lv_at hl 1 rfl) ?_
      have hFc := va_free (wc := [(h0, .inr (10, (Value.int (q 0) :: Value.int (q 1) :: Value.int (q 2) :: Value.int (q 3) :: Value.int (q 4) :: Value.int (q 5) :: Value.int (q 6) :: Value.int (q 7) :: Value.ref (a 8) :: Value.ref (a 9) :: Value.ref (a 10) :: Value.ref (a 11) :: Value.ref (a 12) :: Value.ref (a 13) :: Value.int (q 14) :: Value.long v :: Value.long w :: Value.ref (a 17) :: Value.ref (a 18) :: Value.ref (a 19) :: Value.ref (a 20) :: Value.ref (a 21) :: Value.ref (a 22) :: Value.ref (a 23) :: Value.int (q 24) :: Value.ref (a 25) :: Value.int (q 26) :: Value.ref (a 27) :: Value.int z_28 :: Value.int (q 29) :: Value.int (q 30) :: Value.int (q 31) :: Value.int (q 32) :: Value.int (q 33) :: Value.ref (a 34) :: Value.ref (a 35) :: Value.ref (a 36) :: Value.ref (a 37) :: Value.ref (a 38) :: Value.ref (a 39) :: Value.ref (a 40) :: Value.int (q 41) :: Value.ref (a 42) :: Value.int (q 43) :: Value.int (q 44) :: [])))]) hD hS hA [0] rfl
      refine va_calli (va_runV (As := [.int 1, .int u_2]) (rest := []) ⟨hx, hb, hml, hown, hts⟩ (c_X13_must l D T _ h0 (fun k => cond (Nat.beq k 28) z_28 (q k)) v w a 1 u_2 (show isB (1 : Int32) from isB1)) (cwV 2 hts gX13_reads_X13_must rfl rfl rfl hv_X13_must ⟨Nat.le_of_ble_eq_true rfl, Nat.le_of_ble_eq_true rfl⟩) (pW_V (q := (RX13, TX13, 45)) (ci := 10) (q0 := 0) hP hE hD rfl rfl [0] (by decide +kernel) rfl rfl) rfl rfl hl.1 rfl (lv_room (Nat.le_of_ble_eq_true rfl)) dX13_reads_48 ⟨Nat.le_of_ble_eq_true rfl, Nat.le_of_ble_eq_true rfl⟩) hS (fun q _ h => hFc q h) hFc (fun r_31 u_32 t H1 locs ht hvm hr_31 hB hz1 hk1 hS => ?_)
      obtain ⟨hi0_r_31, hi1_r_31, hi2_r_31⟩ := hr_31
      have hj0_r_31 : r_31 = (1 : Int32) := hi0_r_31
      have hG : isB r_31 := hi1_r_31
      have hfl : ((1 : Int32).toInt = 0 → u_32 = u_2) ∧ (¬ (1 : Int32).toInt = 0 → u_32 = (q 29)) := hi2_r_31
      obtain ⟨hP1, hD1⟩ := hB
      rw [ht] at hP1
      obtain ⟨hP, hD⟩ := va_repl [(h0, .inr (10, (Value.int (q 0) :: Value.int (q 1) :: Value.int (q 2) :: Value.int (q 3) :: Value.int (q 4) :: Value.int (q 5) :: Value.int (q 6) :: Value.int (q 7) :: Value.ref (a 8) :: Value.ref (a 9) :: Value.ref (a 10) :: Value.ref (a 11) :: Value.ref (a 12) :: Value.ref (a 13) :: Value.int (q 14) :: Value.long v :: Value.long w :: Value.ref (a 17) :: Value.ref (a 18) :: Value.ref (a 19) :: Value.ref (a 20) :: Value.ref (a 21) :: Value.ref (a 22) :: Value.ref (a 23) :: Value.int (q 24) :: Value.ref (a 25) :: Value.int (q 26) :: Value.ref (a 27) :: Value.int z_28 :: Value.int u_32 :: Value.int (q 30) :: Value.int (q 31) :: Value.int (q 32) :: Value.int (q 33) :: Value.ref (a 34) :: Value.ref (a 35) :: Value.ref (a 36) :: Value.ref (a 37) :: Value.ref (a 38) :: Value.ref (a 39) :: Value.ref (a 40) :: Value.int (q 41) :: Value.ref (a 42) :: Value.int (q 43) :: Value.int (q 44) :: []))), ((a 25), .inl (T 0, 120, .inl f25))] hP hD [0] [0] rfl (by decide +kernel) rfl rfl rfl hk1 hP1
      clear hP1 hD1 hFc
      generalize H1 = H at hP hS ⊢
      obtain rfl : r_31 = 1 := hi0_r_31
      refine lv_if_ne (tgt := 56) hx hb dX13_reads_51 (by decide +kernel) (fun _ => ?_) (fun c9 => absurd c9 (by decide +kernel))
      refine lv_aload_n hx hb dX13_reads_56 rfl (lv_at hl 2 rfl) ?_
      refine lv_iconst (v := 0) hx hb dX13_reads_57 (by decide +kernel) ?_
      refine va_put (D := D) (ci := 10) (v := .int 0) (ty := .int) (C := RX13) (T := TX13) (N := 45) hx hb hts in_X13_reads_X13 tyX13 tyX13_ok nmX13 hown hE.1 hP hD hS 0 rfl rfl 33 (by decide +kernel) (hts (.fieldLink RX13 369 "ClauseBookModel" "value" "I") (List.mem_of_getElem? (i := 2) rfl)) (fun _ h9 => h9) rfl (by decide +kernel) rfl rfl (Nat.le_of_ble_eq_true rfl) dX13_reads_58 (fun H locs hP hD hS => ?_)
      obtain ⟨hP, hD⟩ := wPD [(h0, .inr (10, (Value.int (q 0) :: Value.int (q 1) :: Value.int (q 2) :: Value.int (q 3) :: Value.int (q 4) :: Value.int (q 5) :: Value.int (q 6) :: Value.int (q 7) :: Value.ref (a 8) :: Value.ref (a 9) :: Value.ref (a 10) :: Value.ref (a 11) :: Value.ref (a 12) :: Value.ref (a 13) :: Value.int (q 14) :: Value.long v :: Value.long w :: Value.ref (a 17) :: Value.ref (a 18) :: Value.ref (a 19) :: Value.ref (a 20) :: Value.ref (a 21) :: Value.ref (a 22) :: Value.ref (a 23) :: Value.int (q 24) :: Value.ref (a 25) :: Value.int (q 26) :: Value.ref (a 27) :: Value.int z_28 :: Value.int u_32 :: Value.int (q 30) :: Value.int (q 31) :: Value.int (q 32) :: Value.int 0 :: Value.ref (a 34) :: Value.ref (a 35) :: Value.ref (a 36) :: Value.ref (a 37) :: Value.ref (a 38) :: Value.ref (a 39) :: Value.ref (a 40) :: Value.int (q 41) :: Value.ref (a 42) :: Value.int (q 43) :: Value.int (q 44) :: []))), ((a 25), .inl (T 0, 120, .inl f25))] hP hD rfl
      refine loopW (σ := (Int32) × (Int32)) (fun x9 ls H locs => lv_has ls 5 [(3, .int 1), (2, .int u_2), (0, .ref h0), (1, .int x1)] ∧ va_P D vwCl [(h0, .inr (10, (Value.int (q 0) :: Value.int (q 1) :: Value.int (q 2) :: Value.int (q 3) :: Value.int (q 4) :: Value.int (q 5) :: Value.int (q 6) :: Value.int (q 7) :: Value.ref (a 8) :: Value.ref (a 9) :: Value.ref (a 10) :: Value.ref (a 11) :: Value.ref (a 12) :: Value.ref (a 13) :: Value.int (q 14) :: Value.long v :: Value.long w :: Value.ref (a 17) :: Value.ref (a 18) :: Value.ref (a 19) :: Value.ref (a 20) :: Value.ref (a 21) :: Value.ref (a 22) :: Value.ref (a 23) :: Value.int (q 24) :: Value.ref (a 25) :: Value.int (q 26) :: Value.ref (a 27) :: Value.int x9.1 :: Value.int u_32 :: Value.int (q 30) :: Value.int (q 31) :: Value.int (q 32) :: Value.int x9.2 :: Value.ref (a 34) :: Value.ref (a 35) :: Value.ref (a 36) :: Value.ref (a 37) :: Value.ref (a 38) :: Value.ref (a 39) :: Value.ref (a 40) :: Value.int (q 41) :: Value.ref (a 42) :: Value.int (q 43) :: Value.int (q 44) :: []))), ((a 25), .inl (T 0, 120, .inl f25))] H ∧ va_D A [(h0, .inr (10, (Value.int (q 0) :: Value.int (q 1) :: Value.int (q 2) :: Value.int (q 3) :: Value.int (q 4) :: Value.int (q 5) :: Value.int (q 6) :: Value.int (q 7) :: Value.ref (a 8) :: Value.ref (a 9) :: Value.ref (a 10) :: Value.ref (a 11) :: Value.ref (a 12) :: Value.ref (a 13) :: Value.int (q 14) :: Value.long v :: Value.long w :: Value.ref (a 17) :: Value.ref (a 18) :: Value.ref (a 19) :: Value.ref (a 20) :: Value.ref (a 21) :: Value.ref (a 22) :: Value.ref (a 23) :: Value.int (q 24) :: Value.ref (a 25) :: Value.int (q 26) :: Value.ref (a 27) :: Value.int x9.1 :: Value.int u_32 :: Value.int (q 30) :: Value.int (q 31) :: Value.int (q 32) :: Value.int x9.2 :: Value.ref (a 34) :: Value.ref (a 35) :: Value.ref (a 36) :: Value.ref (a 37) :: Value.ref (a 38) :: Value.ref (a 39) :: Value.ref (a 40) :: Value.int (q 41) :: Value.ref (a 42) :: Value.int (q 43) :: Value.int (q 44) :: []))), ((a 25), .inl (T 0, 120, .inl f25))] ∧ va_S A s.heap H locs ∧ (((q 28).toInt ≤ x9.1.toInt ∧ z_28.toInt ≤ x9.1.toInt ∧ x9.1.toInt ≤ (q 26).toInt ∧ 0 ≤ x9.2.toInt ∧ x9.2.toInt ≤ 1089) ∧ (∀ j : Nat, z_28.toNatClampNeg ≤ j → j < x9.1.toNatClampNeg → isDi f25 j) ∧ dvR f25 z_28.toNatClampNeg (x9.1.toNatClampNeg - z_28.toNatClampNeg) x9.2)) (fun x9 => (120 - x9.1.toInt).toNat) (fun x9 ls H locs hI ih => ?_) (z_28, 0) ls ⟨lv_sub hl [0, 1, 2, 3] rfl, hP.sub [0, 1] rfl, hD.sub [0, 1] (by decide +kernel) rfl, hS, ⟨(by (try dsimp only); simp only [ti_0]; omega), (fun j h8 h9 => absurd h9 (by (try dsimp only); omega)), (Or.inl (by (try dsimp only); rw [Nat.sub_self]; exact ⟨(show (0 : Int) ≤ 99 from by decide), ti_0⟩))⟩⟩
      obtain ⟨cu, va⟩ := x9
      obtain ⟨hl, hP, hD, hS, hinv⟩ := hI
      have hl : lv_has ls 5 [(3, .int 1), (2, .int u_2), (0, .ref h0), (1, .int x1)] := hl
      have hP : va_P D vwCl [(h0, .inr (10, (Value.int (q 0) :: Value.int (q 1) :: Value.int (q 2) :: Value.int (q 3) :: Value.int (q 4) :: Value.int (q 5) :: Value.int (q 6) :: Value.int (q 7) :: Value.ref (a 8) :: Value.ref (a 9) :: Value.ref (a 10) :: Value.ref (a 11) :: Value.ref (a 12) :: Value.ref (a 13) :: Value.int (q 14) :: Value.long v :: Value.long w :: Value.ref (a 17) :: Value.ref (a 18) :: Value.ref (a 19) :: Value.ref (a 20) :: Value.ref (a 21) :: Value.ref (a 22) :: Value.ref (a 23) :: Value.int (q 24) :: Value.ref (a 25) :: Value.int (q 26) :: Value.ref (a 27) :: Value.int cu :: Value.int u_32 :: Value.int (q 30) :: Value.int (q 31) :: Value.int (q 32) :: Value.int va :: Value.ref (a 34) :: Value.ref (a 35) :: Value.ref (a 36) :: Value.ref (a 37) :: Value.ref (a 38) :: Value.ref (a 39) :: Value.ref (a 40) :: Value.int (q 41) :: Value.ref (a 42) :: Value.int (q 43) :: Value.int (q 44) :: []))), ((a 25), .inl (T 0, 120, .inl f25))] H := hP
      have hD : va_D A [(h0, .inr (10, (Value.int (q 0) :: Value.int (q 1) :: Value.int (q 2) :: Value.int (q 3) :: Value.int (q 4) :: Value.int (q 5) :: Value.int (q 6) :: Value.int (q 7) :: Value.ref (a 8) :: Value.ref (a 9) :: Value.ref (a 10) :: Value.ref (a 11) :: Value.ref (a 12) :: Value.ref (a 13) :: Value.int (q 14) :: Value.long v :: Value.long w :: Value.ref (a 17) :: Value.ref (a 18) :: Value.ref (a 19) :: Value.ref (a 20) :: Value.ref (a 21) :: Value.ref (a 22) :: Value.ref (a 23) :: Value.int (q 24) :: Value.ref (a 25) :: Value.int (q 26) :: Value.ref (a 27) :: Value.int cu :: Value.int u_32 :: Value.int (q 30) :: Value.int (q 31) :: Value.int (q 32) :: Value.int va :: Value.ref (a 34) :: Value.ref (a 35) :: Value.ref (a 36) :: Value.ref (a 37) :: Value.ref (a 38) :: Value.ref (a 39) :: Value.ref (a 40) :: Value.int (q 41) :: Value.ref (a 42) :: Value.int (q 43) :: Value.int (q 44) :: []))), ((a 25), .inl (T 0, 120, .inl f25))] := hD
      have hinv : ((q 28).toInt ≤ cu.toInt ∧ z_28.toInt ≤ cu.toInt ∧ cu.toInt ≤ (q 26).toInt ∧ 0 ≤ va.toInt ∧ va.toInt ≤ 1089) ∧ (∀ j : Nat, z_28.toNatClampNeg ≤ j → j < cu.toNatClampNeg → isDi f25 j) ∧ dvR f25 z_28.toNatClampNeg (cu.toNatClampNeg - z_28.toNatClampNeg) va := hinv
      obtain ⟨hinv, hal, hva⟩ := hinv
      refine lv_aload_n hx hb dX13_reads_61 rfl (lv_at hl 2 rfl) ?_
      refine vp_callSi (W.runV (As := []) (rest := []) ⟨hx, hb, hml, hown, hts⟩ (c_X13_isDigit l D T h0 [.int (q 0), .int (q 1), .int (q 2), .int (q 3), .int (q 4), .int (q 5), .int (q 6), .int (q 7), .ref (a 8), .ref (a 9), .ref (a 10), .ref (a 11), .ref (a 12), .ref (a 13), .int (q 14), .long v, .long w, .ref (a 17), .ref (a 18), .ref (a 19), .ref (a 20), .ref (a 21), .ref (a 22), .ref (a 23), .int (q 24), .ref (a 25), .int (q 26), .ref (a 27), .int cu, .int u_32, .int (q 30), .int (q 31), .int (q 32), .int va, .ref (a 34), .ref (a 35), .ref (a 36), .ref (a 37), .ref (a 38), .ref (a 39), .ref (a 40), .int (q 41), .ref (a 42), .int (q 43), .int (q 44)] (a 25) f25 cu (q 26) rfl rfl rfl (by omega)) (cwV 0 hts gX13_reads_X13_isDigit rfl rfl rfl hv_X13_isDigit ⟨Nat.le_of_ble_eq_true rfl, Nat.le_of_ble_eq_true rfl⟩) (pR_V (q := (RX13, TX13, 45)) (ci := 10) (q0 := 0) hP hE rfl rfl [0, 1] rfl) rfl rfl hl.1 rfl (lv_room (Nat.le_of_ble_eq_true rfl)) dX13_reads_62 ⟨Nat.le_of_ble_eq_true rfl, Nat.le_of_ble_eq_true rfl⟩) (fun r_33 hr_33 => ?_)
      rcases bool_post hr_33 with ⟨c_34, rfl⟩ | ⟨c_34, rfl⟩
      · refine lv_if_eq (tgt := 116) hx hb dX13_reads_65 (by decide +kernel) (fun c9 => absurd c9 (by decide +kernel)) (fun _ => ?_)
        refine lv_aload_n hx hb dX13_reads_68 rfl (lv_at hl 2 rfl) ?_
        refine lv_aload_n hx hb dX13_reads_69 rfl (lv_at hl 2 rfl) ?_
        refine va_get (D := D) (ci := 10) (v := .int va) (C := RX13) (T := TX13) (N := 45) hx hb hts in_X13_reads_X13 hown hE.1 hP 0 rfl rfl 33 (by decide +kernel) (hts (.fieldLink RX13 369 "ClauseBookModel" "value" "I") (List.mem_of_getElem? (i := 2) rfl)) (fun _ h9 => h9) rfl dX13_reads_70 ?_
        refine lv_bipush (v := 99) hx hb dX13_reads_73 (by decide +kernel) ?_
        refine lv_icmp_le (tgt := 85) hx hb dX13_reads_75 (by decide +kernel) (fun c_35 => ?_) (fun c_35 => ?_)
        · rw [fa_le] at c_35
          try rw [ti_99] at c_35
          refine lv_bipush (v := 10) hx hb dX13_reads_85 (by decide +kernel) ?_
          refine lv_aload_n hx hb dX13_reads_87 rfl (lv_at hl 2 rfl) ?_
          refine va_get (D := D) (ci := 10) (v := .int va) (C := RX13) (T := TX13) (N := 45) hx hb hts in_X13_reads_X13 hown hE.1 hP 0 rfl rfl 33 (by decide +kernel) (hts (.fieldLink RX13 369 "ClauseBookModel" "value" "I") (List.mem_of_getElem? (i := 2) rfl)) (fun _ h9 => h9) rfl dX13_reads_88 ?_
          refine lv_imul hx hb dX13_reads_91 ?_
          refine lv_aload_n hx hb dX13_reads_92 rfl (lv_at hl 2 rfl) ?_
          refine vp_callSi (W.runV (As := []) (rest := [.int (10 * va), .ref h0]) ⟨hx, hb, hml, hown, hts⟩ (c_X13_here l D T h0 [.int (q 0), .int (q 1), .int (q 2), .int (q 3), .int (q 4), .int (q 5), .int (q 6), .int (q 7), .ref (a 8), .ref (a 9), .ref (a 10), .ref (a 11), .ref (a 12), .ref (a 13), .int (q 14), .long v, .long w, .ref (a 17), .ref (a 18), .ref (a 19), .ref (a 20), .ref (a 21), .ref (a 22), .ref (a 23), .int (q 24), .ref (a 25), .int (q 26), .ref (a 27), .int cu, .int u_32, .int (q 30), .int (q 31), .int (q 32), .int va, .ref (a 34), .ref (a 35), .ref (a 36), .ref (a 37), .ref (a 38), .ref (a 39), .ref (a 40), .int (q 41), .ref (a 42), .int (q 43), .int (q 44)] (a 25) f25 cu (q 26) rfl rfl rfl (by omega)) (cwV 0 hts gX13_reads_X13_here rfl rfl rfl hv_X13_here ⟨Nat.le_of_ble_eq_true rfl, Nat.le_of_ble_eq_true rfl⟩) (pR_V (q := (RX13, TX13, 45)) (ci := 10) (q0 := 0) hP hE rfl rfl [0, 1] rfl) rfl rfl hl.1 rfl (lv_room (Nat.le_of_ble_eq_true rfl)) dX13_reads_93 ⟨Nat.le_of_ble_eq_true rfl, Nat.le_of_ble_eq_true rfl⟩) (fun r_36 hr_36 => ?_)
          refine lv_iadd hx hb dX13_reads_96 ?_
          refine lv_bipush (v := 48) hx hb dX13_reads_97 (by decide +kernel) ?_
          refine lv_isub hx hb dX13_reads_99 ?_
          refine lv_topi (fun z_37 ez_37 => ?_)
          have hrc := hr_36.resolve_left (fun h9 => by have h8 := h9.2; omega)
          have hm9 : (10 * va).toInt = 10 * va.toInt := by rw [fb_mulI (by rw [ti_10]; omega) (by rw [ti_10]; omega), ti_10]
          have hh9 : r_36.toInt = (f25 (cu.toNatClampNeg)).toInt := by rw [hrc.2]
          have ha9 : ((10 * va) + r_36).toInt = 10 * va.toInt + r_36.toInt := by rw [fb_addI (by omega) (by omega), hm9]
          have hx9 : z_37.toInt = 10 * va.toInt + r_36.toInt - 48 := by rw [ez_37, fb_subI (by rw [ti_48]; omega) (by rw [ti_48]; omega), ha9, ti_48]
          have hv9 : (99 < va.toInt ∧ z_37.toInt = va.toInt) ∨ (va.toInt ≤ 99 ∧ z_37.toInt = 10 * va.toInt + (f25 (cu.toNatClampNeg)).toInt - 48) := Or.inr ⟨by omega, by omega⟩
          refine va_put (D := D) (ci := 10) (v := .int z_37) (ty := .int) (C := RX13) (T := TX13) (N := 45) hx hb hts in_X13_reads_X13 tyX13 tyX13_ok nmX13 hown hE.1 hP hD hS 0 rfl rfl 33 (by decide +kernel) (hts (.fieldLink RX13 369 "ClauseBookModel" "value" "I") (List.mem_of_getElem? (i := 2) rfl)) (fun _ h9 => h9) rfl (by decide +kernel) rfl rfl (Nat.le_of_ble_eq_true rfl) dX13_reads_100 (fun H locs hP hD hS => ?_)
          obtain ⟨hP, hD⟩ := wPD [(h0, .inr (10, (Value.int (q 0) :: Value.int (q 1) :: Value.int (q 2) :: Value.int (q 3) :: Value.int (q 4) :: Value.int (q 5) :: Value.int (q 6) :: Value.int (q 7) :: Value.ref (a 8) :: Value.ref (a 9) :: Value.ref (a 10) :: Value.ref (a 11) :: Value.ref (a 12) :: Value.ref (a 13) :: Value.int (q 14) :: Value.long v :: Value.long w :: Value.ref (a 17) :: Value.ref (a 18) :: Value.ref (a 19) :: Value.ref (a 20) :: Value.ref (a 21) :: Value.ref (a 22) :: Value.ref (a 23) :: Value.int (q 24) :: Value.ref (a 25) :: Value.int (q 26) :: Value.ref (a 27) :: Value.int cu :: Value.int u_32 :: Value.int (q 30) :: Value.int (q 31) :: Value.int (q 32) :: Value.int z_37 :: Value.ref (a 34) :: Value.ref (a 35) :: Value.ref (a 36) :: Value.ref (a 37) :: Value.ref (a 38) :: Value.ref (a 39) :: Value.ref (a 40) :: Value.int (q 41) :: Value.ref (a 42) :: Value.int (q 43) :: Value.int (q 44) :: []))), ((a 25), .inl (T 0, 120, .inl f25))] hP hD rfl
          refine lv_aload_n hx hb dX13_reads_103 rfl (lv_at hl 2 rfl) ?_
          refine lv_dup hx hb dX13_reads_104 rfl ?_
          refine va_get (D := D) (ci := 10) (v := .int cu) (C := RX13) (T := TX13) (N := 45) hx hb hts in_X13_reads_X13 hown hE.1 hP 0 rfl rfl 28 (by decide +kernel) (hts (.fieldLink RX13 344 "ClauseBookModel" "cursor" "I") (List.mem_of_getElem? (i := 1) rfl)) (fun _ h9 => h9) rfl dX13_reads_105 ?_
          refine lv_iconst (v := 1) hx hb dX13_reads_108 (by decide +kernel) ?_
          refine lv_iadd hx hb dX13_reads_109 ?_
          refine lv_topi (fun z_38 ez_38 => ?_)
          refine va_put (D := D) (ci := 10) (v := .int z_38) (ty := .int) (C := RX13) (T := TX13) (N := 45) hx hb hts in_X13_reads_X13 tyX13 tyX13_ok nmX13 hown hE.1 hP hD hS 0 rfl rfl 28 (by decide +kernel) (hts (.fieldLink RX13 344 "ClauseBookModel" "cursor" "I") (List.mem_of_getElem? (i := 1) rfl)) (fun _ h9 => h9) rfl (by decide +kernel) rfl rfl (Nat.le_of_ble_eq_true rfl) dX13_reads_110 (fun H locs hP hD hS => ?_)
          obtain ⟨hP, hD⟩ := wPD [(h0, .inr (10, (Value.int (q 0) :: Value.int (q 1) :: Value.int (q 2) :: Value.int (q 3) :: Value.int (q 4) :: Value.int (q 5) :: Value.int (q 6) :: Value.int (q 7) :: Value.ref (a 8) :: Value.ref (a 9) :: Value.ref (a 10) :: Value.ref (a 11) :: Value.ref (a 12) :: Value.ref (a 13) :: Value.int (q 14) :: Value.long v :: Value.long w :: Value.ref (a 17) :: Value.ref (a 18) :: Value.ref (a 19) :: Value.ref (a 20) :: Value.ref (a 21) :: Value.ref (a 22) :: Value.ref (a 23) :: Value.int (q 24) :: Value.ref (a 25) :: Value.int (q 26) :: Value.ref (a 27) :: Value.int z_38 :: Value.int u_32 :: Value.int (q 30) :: Value.int (q 31) :: Value.int (q 32) :: Value.int z_37 :: Value.ref (a 34) :: Value.ref (a 35) :: Value.ref (a 36) :: Value.ref (a 37) :: Value.ref (a 38) :: Value.ref (a 39) :: Value.ref (a 40) :: Value.int (q 41) :: Value.ref (a 42) :: Value.int (q 43) :: Value.int (q 44) :: []))), ((a 25), .inl (T 0, 120, .inl f25))] hP hD rfl
          have hi9 : z_38.toInt = cu.toInt + 1 := by rw [ez_38]; exact inc1 (n := 1000) (by omega) (by decide +kernel)
          have hvn := dvR_step (s := z_28.toNatClampNeg) (by have h8 := tn (x := z_28) (by omega); omega) hi9 hal hva rfl (by omega) hv9
          refine lv_goto (tgt := 61) hx hb dX13_reads_113 (by decide +kernel) ?_
          exact ih (z_38, z_37) ls _ _ ⟨lv_sub hl [0, 1, 2, 3] rfl, hP.sub [0, 1] rfl, hD.sub [0, 1] (by decide +kernel) rfl, hS, ⟨(by (try dsimp only); have h8 := hva; unfold dvR at h8; omega), (by (try dsimp only); exact rn_step (by omega) hi9 hal (show isDi f25 (cu.toNatClampNeg) from ⟨by omega, by omega⟩)), (by (try dsimp only); exact hvn)⟩⟩ (by (try dsimp only); omega)
        · rw [fa_le] at c_35
          try rw [ti_99] at c_35
          refine lv_aload_n hx hb dX13_reads_78 rfl (lv_at hl 2 rfl) ?_
          refine va_get (D := D) (ci := 10) (v := .int va) (C := RX13) (T := TX13) (N := 45) hx hb hts in_X13_reads_X13 hown hE.1 hP 0 rfl rfl 33 (by decide +kernel) (hts (.fieldLink RX13 369 "ClauseBookModel" "value" "I") (List.mem_of_getElem? (i := 2) rfl)) (fun _ h9 => h9) rfl dX13_reads_79 ?_
          refine lv_goto (tgt := 100) hx hb dX13_reads_82 (by decide +kernel) ?_
          have hv9 : (99 < va.toInt ∧ va.toInt = va.toInt) ∨ (va.toInt ≤ 99 ∧ va.toInt = 10 * va.toInt + (f25 (cu.toNatClampNeg)).toInt - 48) := Or.inl ⟨by omega, rfl⟩
          refine va_put (D := D) (ci := 10) (v := .int va) (ty := .int) (C := RX13) (T := TX13) (N := 45) hx hb hts in_X13_reads_X13 tyX13 tyX13_ok nmX13 hown hE.1 hP hD hS 0 rfl rfl 33 (by decide +kernel) (hts (.fieldLink RX13 369 "ClauseBookModel" "value" "I") (List.mem_of_getElem? (i := 2) rfl)) (fun _ h9 => h9) rfl (by decide +kernel) rfl rfl (Nat.le_of_ble_eq_true rfl) dX13_reads_100 (fun H locs hP hD hS => ?_)
          obtain ⟨hP, hD⟩ := wPD [(h0, .inr (10, (Value.int (q 0) :: Value.int (q 1) :: Value.int (q 2) :: Value.int (q 3) :: Value.int (q 4) :: Value.int (q 5) :: Value.int (q 6) :: Value.int (q 7) :: Value.ref (a 8) :: Value.ref (a 9) :: Value.ref (a 10) :: Value.ref (a 11) :: Value.ref (a 12) :: Value.ref (a 13) :: Value.int (q 14) :: Value.long v :: Value.long w :: Value.ref (a 17) :: Value.ref (a 18) :: Value.ref (a 19) :: Value.ref (a 20) :: Value.ref (a 21) :: Value.ref (a 22) :: Value.ref (a 23) :: Value.int (q 24) :: Value.ref (a 25) :: Value.int (q 26) :: Value.ref (a 27) :: Value.int cu :: Value.int u_32 :: Value.int (q 30) :: Value.int (q 31) :: Value.int (q 32) :: Value.int va :: Value.ref (a 34) :: Value.ref (a 35) :: Value.ref (a 36) :: Value.ref (a 37) :: Value.ref (a 38) :: Value.ref (a 39) :: Value.ref (a 40) :: Value.int (q 41) :: Value.ref (a 42) :: Value.int (q 43) :: Value.int (q 44) :: []))), ((a 25), .inl (T 0, 120, .inl f25))] hP hD rfl
          refine lv_aload_n hx hb dX13_reads_103 rfl (lv_at hl 2 rfl) ?_
          refine lv_dup hx hb dX13_reads_104 rfl ?_
          refine va_get (D := D) (ci := 10) (v := .int cu) (C := RX13) (T := TX13) (N := 45) hx hb hts in_X13_reads_X13 hown hE.1 hP 0 rfl rfl 28 (by decide +kernel) (hts (.fieldLink RX13 344 "ClauseBookModel" "cursor" "I") (List.mem_of_getElem? (i := 1) rfl)) (fun _ h9 => h9) rfl dX13_reads_105 ?_
          refine lv_iconst (v := 1) hx hb dX13_reads_108 (by decide +kernel) ?_
          refine lv_iadd hx hb dX13_reads_109 ?_
          refine lv_topi (fun z_39 ez_39 => ?_)
          refine va_put (D := D) (ci := 10) (v := .int z_39) (ty := .int) (C := RX13) (T := TX13) (N := 45) hx hb hts in_X13_reads_X13 tyX13 tyX13_ok nmX13 hown hE.1 hP hD hS 0 rfl rfl 28 (by decide +kernel) (hts (.fieldLink RX13 344 "ClauseBookModel" "cursor" "I") (List.mem_of_getElem? (i := 1) rfl)) (fun _ h9 => h9) rfl (by decide +kernel) rfl rfl (Nat.le_of_ble_eq_true rfl) dX13_reads_110 (fun H locs hP hD hS => ?_)
          obtain ⟨hP, hD⟩ := wPD [(h0, .inr (10, (Value.int (q 0) :: Value.int (q 1) :: Value.int (q 2) :: Value.int (q 3) :: Value.int (q 4) :: Value.int (q 5) :: Value.int (q 6) :: Value.int (q 7) :: Value.ref (a 8) :: Value.ref (a 9) :: Value.ref (a 10) :: Value.ref (a 11) :: Value.ref (a 12) :: Value.ref (a 13) :: Value.int (q 14) :: Value.long v :: Value.long w :: Value.ref (a 17) :: Value.ref (a 18) :: Value.ref (a 19) :: Value.ref (a 20) :: Value.ref (a 21) :: Value.ref (a 22) :: Value.ref (a 23) :: Value.int (q 24) :: Value.ref (a 25) :: Value.int (q 26) :: Value.ref (a 27) :: Value.int z_39 :: Value.int u_32 :: Value.int (q 30) :: Value.int (q 31) :: Value.int (q 32) :: Value.int va :: Value.ref (a 34) :: Value.ref (a 35) :: Value.ref (a 36) :: Value.ref (a 37) :: Value.ref (a 38) :: Value.ref (a 39) :: Value.ref (a 40) :: Value.int (q 41) :: Value.ref (a 42) :: Value.int (q 43) :: Value.int (q 44) :: []))), ((a 25), .inl (T 0, 120, .inl f25))] hP hD rfl
          have hi9 : z_39.toInt = cu.toInt + 1 := by rw [ez_39]; exact inc1 (n := 1000) (by omega) (by decide +kernel)
          have hvn := dvR_step (s := z_28.toNatClampNeg) (by have h8 := tn (x := z_28) (by omega); omega) hi9 hal hva rfl (by omega) hv9
          refine lv_goto (tgt := 61) hx hb dX13_reads_113 (by decide +kernel) ?_
          exact ih (z_39, va) ls _ _ ⟨lv_sub hl [0, 1, 2, 3] rfl, hP.sub [0, 1] rfl, hD.sub [0, 1] (by decide +kernel) rfl, hS, ⟨(by (try dsimp only); have h8 := hva; unfold dvR at h8; omega), (by (try dsimp only); exact rn_step (by omega) hi9 hal (show isDi f25 (cu.toNatClampNeg) from ⟨by omega, by omega⟩)), (by (try dsimp only); exact hvn)⟩⟩ (by (try dsimp only); omega)
      · refine lv_if_eq (tgt := 116) hx hb dX13_reads_65 (by decide +kernel) (fun _ => ?_) (fun c9 => absurd c9 (by decide +kernel))
        have hdn : rnP (isDi f25) (q 26).toNatClampNeg (z_28.toNatClampNeg) (cu.toNatClampNeg) := rn_end (by omega) (by omega) (by omega) hal (fun h9 h8 => by unfold isDi at h8; omega)
        have hlt : z_28.toInt < cu.toInt := by
          rcases Int.lt_or_eq_of_le (show z_28.toInt ≤ cu.toInt by omega) with h9 | h9
          · exact h9
          · have h8 : z_28 = cu := Int32.toInt_inj.1 h9
            have h6 : (f25 (z_28.toNatClampNeg)).toInt = (f25 (cu.toNatClampNeg)).toInt := by rw [h8]
            omega
        have hlt2 : z_28.toNatClampNeg < cu.toNatClampNeg := by have h8 := tn (x := z_28) (by omega); have h7 := tn (x := cu) (by omega); omega
        refine lv_aload_n hx hb dX13_reads_116 rfl (lv_at hl 2 rfl) ?_
        refine va_get (D := D) (ci := 10) (v := .int va) (C := RX13) (T := TX13) (N := 45) hx hb hts in_X13_reads_X13 hown hE.1 hP 0 rfl rfl 33 (by decide +kernel) (hts (.fieldLink RX13 369 "ClauseBookModel" "value" "I") (List.mem_of_getElem? (i := 2) rfl)) (fun _ h9 => h9) rfl dX13_reads_117 ?_
        refine lv_bipush (v := 99) hx hb dX13_reads_120 (by decide +kernel) ?_
        refine lv_icmp_gt (tgt := 129) hx hb dX13_reads_122 (by decide +kernel) (fun c_40 => ?_) (fun c_40 => ?_)
        · rw [fa_lt] at c_40
          try rw [ti_99] at c_40
          refine lv_iconst (v := 0) hx hb dX13_reads_129 (by decide +kernel) ?_
          refine lv_istore (lv' := [(4, .int 0), (3, .int 1), (2, .int u_2), (0, .ref h0), (1, .int x1)]) hx hb dX13_reads_130 hl (by decide +kernel) rfl (fun ls hl => ?_)
          refine lv_aload_n hx hb dX13_reads_132 rfl (lv_at hl 3 rfl) ?_
          refine lv_iload_n hx hb dX13_reads_133 rfl (lv_at hl 1 rfl) ?_
          refine lv_if_eq (tgt := 145) hx hb dX13_reads_134 (by decide +kernel) (fun c9 => absurd c9 (by decide +kernel)) (fun _ => ?_)
          refine lv_aload_n hx hb dX13_reads_137 rfl (lv_at hl 3 rfl) ?_
          refine va_get (D := D) (ci := 10) (v := .int va) (C := RX13) (T := TX13) (N := 45) hx hb hts in_X13_reads_X13 hown hE.1 hP 0 rfl rfl 33 (by decide +kernel) (hts (.fieldLink RX13 369 "ClauseBookModel" "value" "I") (List.mem_of_getElem? (i := 2) rfl)) (fun _ h9 => h9) rfl dX13_reads_138 ?_
          refine lv_ineg hx hb dX13_reads_141 ?_
          refine lv_goto (tgt := 149) hx hb dX13_reads_142 (by decide +kernel) ?_
          refine va_put (D := D) (ci := 10) (v := .int (-va)) (ty := .int) (C := RX13) (T := TX13) (N := 45) hx hb hts in_X13_reads_X13 tyX13 tyX13_ok nmX13 hown hE.1 hP hD hS 0 rfl rfl 33 (by decide +kernel) (hts (.fieldLink RX13 369 "ClauseBookModel" "value" "I") (List.mem_of_getElem? (i := 2) rfl)) (fun _ h9 => h9) rfl (by decide +kernel) rfl rfl (Nat.le_of_ble_eq_true rfl) dX13_reads_149 (fun H locs hP hD hS => ?_)
          obtain ⟨hP, hD⟩ := wPD [(h0, .inr (10, (Value.int (q 0) :: Value.int (q 1) :: Value.int (q 2) :: Value.int (q 3) :: Value.int (q 4) :: Value.int (q 5) :: Value.int (q 6) :: Value.int (q 7) :: Value.ref (a 8) :: Value.ref (a 9) :: Value.ref (a 10) :: Value.ref (a 11) :: Value.ref (a 12) :: Value.ref (a 13) :: Value.int (q 14) :: Value.long v :: Value.long w :: Value.ref (a 17) :: Value.ref (a 18) :: Value.ref (a 19) :: Value.ref (a 20) :: Value.ref (a 21) :: Value.ref (a 22) :: Value.ref (a 23) :: Value.int (q 24) :: Value.ref (a 25) :: Value.int (q 26) :: Value.ref (a 27) :: Value.int cu :: Value.int u_32 :: Value.int (q 30) :: Value.int (q 31) :: Value.int (q 32) :: Value.int (-va) :: Value.ref (a 34) :: Value.ref (a 35) :: Value.ref (a 36) :: Value.ref (a 37) :: Value.ref (a 38) :: Value.ref (a 39) :: Value.ref (a 40) :: Value.int (q 41) :: Value.ref (a 42) :: Value.int (q 43) :: Value.int (q 44) :: []))), ((a 25), .inl (T 0, 120, .inl f25))] hP hD rfl
          have hvv : (-va).toInt = if (f25 (u_2.toNatClampNeg)).toInt = 45 then -va.toInt else va.toInt := by rw [if_pos hng]; exact fb_negI (by omega)
          refine lv_aload_n hx hb dX13_reads_152 rfl (lv_at hl 3 rfl) ?_
          refine lv_iload hx hb dX13_reads_153 (lv_at hl 0 rfl) ?_
          refine lv_if_eq (tgt := 173) hx hb dX13_reads_155 (by decide +kernel) (fun _ => ?_) (fun c9 => absurd c9 (by decide +kernel))
          refine lv_iconst (v := 0) hx hb dX13_reads_173 (by decide +kernel) ?_
          refine lv_iload_n hx hb dX13_reads_174 rfl (lv_at hl 2 rfl) ?_
          have hFc := va_free (wc := [(h0, .inr (10, (Value.int (q 0) :: Value.int (q 1) :: Value.int (q 2) :: Value.int (q 3) :: Value.int (q 4) :: Value.int (q 5) :: Value.int (q 6) :: Value.int (q 7) :: Value.ref (a 8) :: Value.ref (a 9) :: Value.ref (a 10) :: Value.ref (a 11) :: Value.ref (a 12) :: Value.ref (a 13) :: Value.int (q 14) :: Value.long v :: Value.long w :: Value.ref (a 17) :: Value.ref (a 18) :: Value.ref (a 19) :: Value.ref (a 20) :: Value.ref (a 21) :: Value.ref (a 22) :: Value.ref (a 23) :: Value.int (q 24) :: Value.ref (a 25) :: Value.int (q 26) :: Value.ref (a 27) :: Value.int cu :: Value.int u_32 :: Value.int (q 30) :: Value.int (q 31) :: Value.int (q 32) :: Value.int (-va) :: Value.ref (a 34) :: Value.ref (a 35) :: Value.ref (a 36) :: Value.ref (a 37) :: Value.ref (a 38) :: Value.ref (a 39) :: Value.ref (a 40) :: Value.int (q 41) :: Value.ref (a 42) :: Value.int (q 43) :: Value.int (q 44) :: [])))]) hD hS hA [0] rfl
          refine va_calli (va_runV (As := [.int 0, .int u_2]) (rest := []) ⟨hx, hb, hml, hown, hts⟩ (c_X13_must l D T _ h0 (fun k => cond (Nat.beq k 28) cu (cond (Nat.beq k 29) u_32 (cond (Nat.beq k 33) (-va) (q k)))) v w a 0 u_2 (show isB (0 : Int32) from isB0)) (cwV 2 hts gX13_reads_X13_must rfl rfl rfl hv_X13_must ⟨Nat.le_of_ble_eq_true rfl, Nat.le_of_ble_eq_true rfl⟩) (pW_V (q := (RX13, TX13, 45)) (ci := 10) (q0 := 0) hP hE hD rfl rfl [0] (by decide +kernel) rfl rfl) rfl rfl hl.1 rfl (lv_room (Nat.le_of_ble_eq_true rfl)) dX13_reads_175 ⟨Nat.le_of_ble_eq_true rfl, Nat.le_of_ble_eq_true rfl⟩) hS (fun q _ h => hFc q h) hFc (fun r_41 u_42 t H1 locs ht hvm hr_41 hB hz1 hk1 hS => ?_)
          obtain ⟨hi0_r_41, hi1_r_41, hi2_r_41⟩ := hr_41
          have hj0_r_41 : r_41 = (0 : Int32) := hi0_r_41
          have hG : isB r_41 := hi1_r_41
          have hfl : ((0 : Int32).toInt = 0 → u_42 = u_2) ∧ (¬ (0 : Int32).toInt = 0 → u_42 = u_32) := hi2_r_41
          obtain ⟨hP1, hD1⟩ := hB
          rw [ht] at hP1
          obtain ⟨hP, hD⟩ := va_repl [(h0, .inr (10, (Value.int (q 0) :: Value.int (q 1) :: Value.int (q 2) :: Value.int (q 3) :: Value.int (q 4) :: Value.int (q 5) :: Value.int (q 6) :: Value.int (q 7) :: Value.ref (a 8) :: Value.ref (a 9) :: Value.ref (a 10) :: Value.ref (a 11) :: Value.ref (a 12) :: Value.ref (a 13) :: Value.int (q 14) :: Value.long v :: Value.long w :: Value.ref (a 17) :: Value.ref (a 18) :: Value.ref (a 19) :: Value.ref (a 20) :: Value.ref (a 21) :: Value.ref (a 22) :: Value.ref (a 23) :: Value.int (q 24) :: Value.ref (a 25) :: Value.int (q 26) :: Value.ref (a 27) :: Value.int cu :: Value.int u_42 :: Value.int (q 30) :: Value.int (q 31) :: Value.int (q 32) :: Value.int (-va) :: Value.ref (a 34) :: Value.ref (a 35) :: Value.ref (a 36) :: Value.ref (a 37) :: Value.ref (a 38) :: Value.ref (a 39) :: Value.ref (a 40) :: Value.int (q 41) :: Value.ref (a 42) :: Value.int (q 43) :: Value.int (q 44) :: []))), ((a 25), .inl (T 0, 120, .inl f25))] hP hD [0] [0] rfl (by decide +kernel) rfl rfl rfl hk1 hP1
          clear hP1 hD1 hFc
          generalize H1 = H at hP hS ⊢
          obtain rfl : r_41 = 0 := hi0_r_41
          exact W.zret hx hb hr rfl (fun t ht hW => ⟨⟨_, (cu, u_42, (-va)), rfl, ⟨(show (q 28).toInt ≤ cu.toInt ∧ cu.toInt ≤ (q 26).toInt from (by first | omega | (subst_vars; omega))), (show (¬ (0 : Int32).toInt = 0 → ∃ p2 : Nat, rnP (isBl f25) ((q 26).toNatClampNeg) ((q 28).toNatClampNeg) p2 ∧ numK f25 ((q 26).toNatClampNeg) p2 (x1.toNatClampNeg) (cu.toNatClampNeg) (-va)) ∧ ((0 : Int32).toInt = 0 → 0 ≤ u_42.toInt ∧ rnP (isBl f25) ((q 26).toNatClampNeg) ((q 28).toNatClampNeg) (u_42.toNatClampNeg) ∧ ∀ (e2 : Nat) (v2 : Int32), ¬ numK f25 ((q 26).toNatClampNeg) (u_42.toNatClampNeg) (x1.toNatClampNeg) e2 v2) from ⟨(fun h9 => absurd (by decide +kernel) h9), (fun _ => by
                                                        have hfe : u_42 = u_2 := hfl.1 (by decide +kernel)
                                                        rw [hfe]
                                                        exact ⟨by omega, hbl, (numR_no hsg hdn hva hvv (by omega))⟩)⟩)⟩, by rw [ht]; exact hP.sub [0, 1] rfl, hD.sub [0, 1] (by decide +kernel) rfl⟩, hS.F ht⟩) hS.2.2 dX13_reads_178
        · rw [fa_lt] at c_40
          try rw [ti_99] at c_40
          refine lv_iconst (v := 1) hx hb dX13_reads_125 (by decide +kernel) ?_
          refine lv_goto (tgt := 130) hx hb dX13_reads_126 (by decide +kernel) ?_
          refine lv_istore (lv' := [(4, .int 1), (3, .int 1), (2, .int u_2), (0, .ref h0), (1, .int x1)]) hx hb dX13_reads_130 hl (by decide +kernel) rfl (fun ls hl => ?_)
          refine lv_aload_n hx hb dX13_reads_132 rfl (lv_at hl 3 rfl) ?_
          refine lv_iload_n hx hb dX13_reads_133 rfl (lv_at hl 1 rfl) ?_
          refine lv_if_eq (tgt := 145) hx hb dX13_reads_134 (by decide +kernel) (fun c9 => absurd c9 (by decide +kernel)) (fun _ => ?_)
          refine lv_aload_n hx hb dX13_reads_137 rfl (lv_at hl 3 rfl) ?_
          refine va_get (D := D) (ci := 10) (v := .int va) (C := RX13) (T := TX13) (N := 45) hx hb hts in_X13_reads_X13 hown hE.1 hP 0 rfl rfl 33 (by decide +kernel) (hts (.fieldLink RX13 369 "ClauseBookModel" "value" "I") (List.mem_of_getElem? (i := 2) rfl)) (fun _ h9 => h9) rfl dX13_reads_138 ?_
          refine lv_ineg hx hb dX13_reads_141 ?_
          refine lv_goto (tgt := 149) hx hb dX13_reads_142 (by decide +kernel) ?_
          refine va_put (D := D) (ci := 10) (v := .int (-va)) (ty := .int) (C := RX13) (T := TX13) (N := 45) hx hb hts in_X13_reads_X13 tyX13 tyX13_ok nmX13 hown hE.1 hP hD hS 0 rfl rfl 33 (by decide +kernel) (hts (.fieldLink RX13 369 "ClauseBookModel" "value" "I") (List.mem_of_getElem? (i := 2) rfl)) (fun _ h9 => h9) rfl (by decide +kernel) rfl rfl (Nat.le_of_ble_eq_true rfl) dX13_reads_149 (fun H locs hP hD hS => ?_)
          obtain ⟨hP, hD⟩ := wPD [(h0, .inr (10, (Value.int (q 0) :: Value.int (q 1) :: Value.int (q 2) :: Value.int (q 3) :: Value.int (q 4) :: Value.int (q 5) :: Value.int (q 6) :: Value.int (q 7) :: Value.ref (a 8) :: Value.ref (a 9) :: Value.ref (a 10) :: Value.ref (a 11) :: Value.ref (a 12) :: Value.ref (a 13) :: Value.int (q 14) :: Value.long v :: Value.long w :: Value.ref (a 17) :: Value.ref (a 18) :: Value.ref (a 19) :: Value.ref (a 20) :: Value.ref (a 21) :: Value.ref (a 22) :: Value.ref (a 23) :: Value.int (q 24) :: Value.ref (a 25) :: Value.int (q 26) :: Value.ref (a 27) :: Value.int cu :: Value.int u_32 :: Value.int (q 30) :: Value.int (q 31) :: Value.int (q 32) :: Value.int (-va) :: Value.ref (a 34) :: Value.ref (a 35) :: Value.ref (a 36) :: Value.ref (a 37) :: Value.ref (a 38) :: Value.ref (a 39) :: Value.ref (a 40) :: Value.int (q 41) :: Value.ref (a 42) :: Value.int (q 43) :: Value.int (q 44) :: []))), ((a 25), .inl (T 0, 120, .inl f25))] hP hD rfl
          have hvv : (-va).toInt = if (f25 (u_2.toNatClampNeg)).toInt = 45 then -va.toInt else va.toInt := by rw [if_pos hng]; exact fb_negI (by omega)
          refine lv_aload_n hx hb dX13_reads_152 rfl (lv_at hl 3 rfl) ?_
          refine lv_iload hx hb dX13_reads_153 (lv_at hl 0 rfl) ?_
          refine lv_if_eq (tgt := 173) hx hb dX13_reads_155 (by decide +kernel) (fun c9 => absurd c9 (by decide +kernel)) (fun _ => ?_)
          refine lv_iload_n hx hb dX13_reads_158 rfl (lv_at hl 4 rfl) ?_
          refine lv_aload_n hx hb dX13_reads_159 rfl (lv_at hl 3 rfl) ?_
          refine va_get (D := D) (ci := 10) (v := .int (-va)) (C := RX13) (T := TX13) (N := 45) hx hb hts in_X13_reads_X13 hown hE.1 hP 0 rfl rfl 33 (by decide +kernel) (hts (.fieldLink RX13 369 "ClauseBookModel" "value" "I") (List.mem_of_getElem? (i := 2) rfl)) (fun _ h9 => h9) rfl dX13_reads_160 ?_
          refine vp_callSi (W.runS (As := [.int x1, .int (-va)]) (rest := [.ref h0]) ⟨hx, hb, hml, hown, hts⟩ (c_X13_isNumber l D T x1 (-va) (by omega)) (va_cwS 2 hts gX13_reads_X13_isNumber rfl rfl rfl hs_X13_isNumber ⟨Nat.le_of_ble_eq_true rfl, Nat.le_of_ble_eq_true rfl⟩) (pR_S hP hE [] rfl) rfl rfl hl.1 rfl (lv_room (Nat.le_of_ble_eq_true rfl)) dX13_reads_163 ⟨Nat.le_of_ble_eq_true rfl, Nat.le_of_ble_eq_true rfl⟩) (fun r_43 hr_43 => ?_)
          rcases bool_post hr_43 with ⟨c_44, rfl⟩ | ⟨c_44, rfl⟩
          · refine lv_if_eq (tgt := 173) hx hb dX13_reads_166 (by decide +kernel) (fun c9 => absurd c9 (by decide +kernel)) (fun _ => ?_)
            refine lv_iconst (v := 1) hx hb dX13_reads_169 (by decide +kernel) ?_
            refine lv_goto (tgt := 174) hx hb dX13_reads_170 (by decide +kernel) ?_
            refine lv_iload_n hx hb dX13_reads_174 rfl (lv_at hl 2 rfl) ?_
            have hFc := va_free (wc := [(h0, .inr (10, (Value.int (q 0) :: Value.int (q 1) :: Value.int (q 2) :: Value.int (q 3) :: Value.int (q 4) :: Value.int (q 5) :: Value.int (q 6) :: Value.int (q 7) :: Value.ref (a 8) :: Value.ref (a 9) :: Value.ref (a 10) :: Value.ref (a 11) :: Value.ref (a 12) :: Value.ref (a 13) :: Value.int (q 14) :: Value.long v :: Value.long w :: Value.ref (a 17) :: Value.ref (a 18) :: Value.ref (a 19) :: Value.ref (a 20) :: Value.ref (a 21) :: Value.ref (a 22) :: Value.ref (a 23) :: Value.int (q 24) :: Value.ref (a 25) :: Value.int (q 26) :: Value.ref (a 27) :: Value.int cu :: Value.int u_32 :: Value.int (q 30) :: Value.int (q 31) :: Value.int (q 32) :: Value.int (-va) :: Value.ref (a 34) :: Value.ref (a 35) :: Value.ref (a 36) :: Value.ref (a 37) :: Value.ref (a 38) :: Value.ref (a 39) :: Value.ref (a 40) :: Value.int (q 41) :: Value.ref (a 42) :: Value.int (q 43) :: Value.int (q 44) :: [])))]) hD hS hA [0] rfl
            refine va_calli (va_runV (As := [.int 1, .int u_2]) (rest := []) ⟨hx, hb, hml, hown, hts⟩ (c_X13_must l D T _ h0 (fun k => cond (Nat.beq k 28) cu (cond (Nat.beq k 29) u_32 (cond (Nat.beq k 33) (-va) (q k)))) v w a 1 u_2 (show isB (1 : Int32) from isB1)) (cwV 2 hts gX13_reads_X13_must rfl rfl rfl hv_X13_must ⟨Nat.le_of_ble_eq_true rfl, Nat.le_of_ble_eq_true rfl⟩) (pW_V (q := (RX13, TX13, 45)) (ci := 10) (q0 := 0) hP hE hD rfl rfl [0] (by decide +kernel) rfl rfl) rfl rfl hl.1 rfl (lv_room (Nat.le_of_ble_eq_true rfl)) dX13_reads_175 ⟨Nat.le_of_ble_eq_true rfl, Nat.le_of_ble_eq_true rfl⟩) hS (fun q _ h => hFc q h) hFc (fun r_45 u_46 t H1 locs ht hvm hr_45 hB hz1 hk1 hS => ?_)
            obtain ⟨hi0_r_45, hi1_r_45, hi2_r_45⟩ := hr_45
            have hj0_r_45 : r_45 = (1 : Int32) := hi0_r_45
            have hG : isB r_45 := hi1_r_45
            have hfl : ((1 : Int32).toInt = 0 → u_46 = u_2) ∧ (¬ (1 : Int32).toInt = 0 → u_46 = u_32) := hi2_r_45
            obtain ⟨hP1, hD1⟩ := hB
            rw [ht] at hP1
            obtain ⟨hP, hD⟩ := va_repl [(h0, .inr (10, (Value.int (q 0) :: Value.int (q 1) :: Value.int (q 2) :: Value.int (q 3) :: Value.int (q 4) :: Value.int (q 5) :: Value.int (q 6) :: Value.int (q 7) :: Value.ref (a 8) :: Value.ref (a 9) :: Value.ref (a 10) :: Value.ref (a 11) :: Value.ref (a 12) :: Value.ref (a 13) :: Value.int (q 14) :: Value.long v :: Value.long w :: Value.ref (a 17) :: Value.ref (a 18) :: Value.ref (a 19) :: Value.ref (a 20) :: Value.ref (a 21) :: Value.ref (a 22) :: Value.ref (a 23) :: Value.int (q 24) :: Value.ref (a 25) :: Value.int (q 26) :: Value.ref (a 27) :: Value.int cu :: Value.int u_46 :: Value.int (q 30) :: Value.int (q 31) :: Value.int (q 32) :: Value.int (-va) :: Value.ref (a 34) :: Value.ref (a 35) :: Value.ref (a 36) :: Value.ref (a 37) :: Value.ref (a 38) :: Value.ref (a 39) :: Value.ref (a 40) :: Value.int (q 41) :: Value.ref (a 42) :: Value.int (q 43) :: Value.int (q 44) :: []))), ((a 25), .inl (T 0, 120, .inl f25))] hP hD [0] [0] rfl (by decide +kernel) rfl rfl rfl hk1 hP1
            clear hP1 hD1 hFc
            generalize H1 = H at hP hS ⊢
            obtain rfl : r_45 = 1 := hi0_r_45
            exact W.zret hx hb hr rfl (fun t ht hW => ⟨⟨_, (cu, u_46, (-va)), rfl, ⟨(show (q 28).toInt ≤ cu.toInt ∧ cu.toInt ≤ (q 26).toInt from (by first | omega | (subst_vars; omega))), (show (¬ (1 : Int32).toInt = 0 → ∃ p2 : Nat, rnP (isBl f25) ((q 26).toNatClampNeg) ((q 28).toNatClampNeg) p2 ∧ numK f25 ((q 26).toNatClampNeg) p2 (x1.toNatClampNeg) (cu.toNatClampNeg) (-va)) ∧ ((1 : Int32).toInt = 0 → 0 ≤ u_46.toInt ∧ rnP (isBl f25) ((q 26).toNatClampNeg) ((q 28).toNatClampNeg) (u_46.toNatClampNeg) ∧ ∀ (e2 : Nat) (v2 : Int32), ¬ numK f25 ((q 26).toNatClampNeg) (u_46.toNatClampNeg) (x1.toNatClampNeg) e2 v2) from ⟨(fun _ => ⟨_, hbl, numR_yes hsg hdn hlt2 hva (by omega) hvv (by omega)⟩), (fun h9 => absurd h9 (by decide +kernel))⟩)⟩, by rw [ht]; exact hP.sub [0, 1] rfl, hD.sub [0, 1] (by decide +kernel) rfl⟩, hS.F ht⟩) hS.2.2 dX13_reads_178
          · refine lv_if_eq (tgt := 173) hx hb dX13_reads_166 (by decide +kernel) (fun _ => ?_) (fun c9 => absurd c9 (by decide +kernel))
            refine lv_iconst (v := 0) hx hb dX13_reads_173 (by decide +kernel) ?_
            refine lv_iload_n hx hb dX13_reads_174 rfl (lv_at hl 2 rfl) ?_
            have hFc := va_free (wc := [(h0, .inr (10, (Value.int (q 0) :: Value.int (q 1) :: Value.int (q 2) :: Value.int (q 3) :: Value.int (q 4) :: Value.int (q 5) :: Value.int (q 6) :: Value.int (q 7) :: Value.ref (a 8) :: Value.ref (a 9) :: Value.ref (a 10) :: Value.ref (a 11) :: Value.ref (a 12) :: Value.ref (a 13) :: Value.int (q 14) :: Value.long v :: Value.long w :: Value.ref (a 17) :: Value.ref (a 18) :: Value.ref (a 19) :: Value.ref (a 20) :: Value.ref (a 21) :: Value.ref (a 22) :: Value.ref (a 23) :: Value.int (q 24) :: Value.ref (a 25) :: Value.int (q 26) :: Value.ref (a 27) :: Value.int cu :: Value.int u_32 :: Value.int (q 30) :: Value.int (q 31) :: Value.int (q 32) :: Value.int (-va) :: Value.ref (a 34) :: Value.ref (a 35) :: Value.ref (a 36) :: Value.ref (a 37) :: Value.ref (a 38) :: Value.ref (a 39) :: Value.ref (a 40) :: Value.int (q 41) :: Value.ref (a 42) :: Value.int (q 43) :: Value.int (q 44) :: [])))]) hD hS hA [0] rfl
            refine va_calli (va_runV (As := [.int 0, .int u_2]) (rest := []) ⟨hx, hb, hml, hown, hts⟩ (c_X13_must l D T _ h0 (fun k => cond (Nat.beq k 28) cu (cond (Nat.beq k 29) u_32 (cond (Nat.beq k 33) (-va) (q k)))) v w a 0 u_2 (show isB (0 : Int32) from isB0)) (cwV 2 hts gX13_reads_X13_must rfl rfl rfl hv_X13_must ⟨Nat.le_of_ble_eq_true rfl, Nat.le_of_ble_eq_true rfl⟩) (pW_V (q := (RX13, TX13, 45)) (ci := 10) (q0 := 0) hP hE hD rfl rfl [0] (by decide +kernel) rfl rfl) rfl rfl hl.1 rfl (lv_room (Nat.le_of_ble_eq_true rfl)) dX13_reads_175 ⟨Nat.le_of_ble_eq_true rfl, Nat.le_of_ble_eq_true rfl⟩) hS (fun q _ h => hFc q h) hFc (fun r_47 u_48 t H1 locs ht hvm hr_47 hB hz1 hk1 hS => ?_)
            obtain ⟨hi0_r_47, hi1_r_47, hi2_r_47⟩ := hr_47
            have hj0_r_47 : r_47 = (0 : Int32) := hi0_r_47
            have hG : isB r_47 := hi1_r_47
            have hfl : ((0 : Int32).toInt = 0 → u_48 = u_2) ∧ (¬ (0 : Int32).toInt = 0 → u_48 = u_32) := hi2_r_47
            obtain ⟨hP1, hD1⟩ := hB
            rw [ht] at hP1
            obtain ⟨hP, hD⟩ := va_repl [(h0, .inr (10, (Value.int (q 0) :: Value.int (q 1) :: Value.int (q 2) :: Value.int (q 3) :: Value.int (q 4) :: Value.int (q 5) :: Value.int (q 6) :: Value.int (q 7) :: Value.ref (a 8) :: Value.ref (a 9) :: Value.ref (a 10) :: Value.ref (a 11) :: Value.ref (a 12) :: Value.ref (a 13) :: Value.int (q 14) :: Value.long v :: Value.long w :: Value.ref (a 17) :: Value.ref (a 18) :: Value.ref (a 19) :: Value.ref (a 20) :: Value.ref (a 21) :: Value.ref (a 22) :: Value.ref (a 23) :: Value.int (q 24) :: Value.ref (a 25) :: Value.int (q 26) :: Value.ref (a 27) :: Value.int cu :: Value.int u_48 :: Value.int (q 30) :: Value.int (q 31) :: Value.int (q 32) :: Value.int (-va) :: Value.ref (a 34) :: Value.ref (a 35) :: Value.ref (a 36) :: Value.ref (a 37) :: Value.ref (a 38) :: Value.ref (a 39) :: Value.ref (a 40) :: Value.int (q 41) :: Value.ref (a 42) :: Value.int (q 43) :: Value.int (q 44) :: []))), ((a 25), .inl (T 0, 120, .inl f25))] hP hD [0] [0] rfl (by decide +kernel) rfl rfl rfl hk1 hP1
            clear hP1 hD1 hFc
            generalize H1 = H at hP hS ⊢
            obtain rfl : r_47 = 0 := hi0_r_47
            exact W.zret hx hb hr rfl (fun t ht hW => ⟨⟨_, (cu, u_48, (-va)), rfl, ⟨(show (q 28).toInt ≤ cu.toInt ∧ cu.toInt ≤ (q 26).toInt from (by first | omega | (subst_vars; omega))), (show (¬ (0 : Int32).toInt = 0 → ∃ p2 : Nat, rnP (isBl f25) ((q 26).toNatClampNeg) ((q 28).toNatClampNeg) p2 ∧ numK f25 ((q 26).toNatClampNeg) p2 (x1.toNatClampNeg) (cu.toNatClampNeg) (-va)) ∧ ((0 : Int32).toInt = 0 → 0 ≤ u_48.toInt ∧ rnP (isBl f25) ((q 26).toNatClampNeg) ((q 28).toNatClampNeg) (u_48.toNatClampNeg) ∧ ∀ (e2 : Nat) (v2 : Int32), ¬ numK f25 ((q 26).toNatClampNeg) (u_48.toNatClampNeg) (x1.toNatClampNeg) e2 v2) from ⟨(fun h9 => absurd (by decide +kernel) h9), (fun _ => by
                                                        have hfe : u_48 = u_2 := hfl.1 (by decide +kernel)
                                                        rw [hfe]
                                                        exact ⟨by omega, hbl, (numR_no hsg hdn hva hvv (by omega))⟩)⟩)⟩, by rw [ht]; exact hP.sub [0, 1] rfl, hD.sub [0, 1] (by decide +kernel) rfl⟩, hS.F ht⟩) hS.2.2 dX13_reads_178
    · refine lv_iload_n hx hb dX13_reads_47 rfl (lv_at hl 1 rfl) ?_
      have hFc := va_free (wc := [(h0, .inr (10, (Value.int (q 0) :: Value.int (q 1) :: Value.int (q 2) :: Value.int (q 3) :: Value.int (q 4) :: Value.int (q 5) :: Value.int (q 6) :: Value.int (q 7) :: Value.ref (a 8) :: Value.ref (a 9) :: Value.ref (a 10) :: Value.ref (a 11) :: Value.ref (a 12) :: Value.ref (a 13) :: Value.int (q 14) :: Value.long v :: Value.long w :: Value.ref (a 17) :: Value.ref (a 18) :: Value.ref (a 19) :: Value.ref (a 20) :: Value.ref (a 21) :: Value.ref (a 22) :: Value.ref (a 23) :: Value.int (q 24) :: Value.ref (a 25) :: Value.int (q 26) :: Value.ref (a 27) :: Value.int z_28 :: Value.int (q 29) :: Value.int (q 30) :: Value.int (q 31) :: Value.int (q 32) :: Value.int (q 33) :: Value.ref (a 34) :: Value.ref (a 35) :: Value.ref (a 36) :: Value.ref (a 37) :: Value.ref (a 38) :: Value.ref (a 39) :: Value.ref (a 40) :: Value.int (q 41) :: Value.ref (a 42) :: Value.int (q 43) :: Value.int (q 44) :: [])))]) hD hS hA [0] rfl
      refine va_calli (va_runV (As := [.int 0, .int u_2]) (rest := []) ⟨hx, hb, hml, hown, hts⟩ (c_X13_must l D T _ h0 (fun k => cond (Nat.beq k 28) z_28 (q k)) v w a 0 u_2 (show isB (0 : Int32) from isB0)) (cwV 2 hts gX13_reads_X13_must rfl rfl rfl hv_X13_must ⟨Nat.le_of_ble_eq_true rfl, Nat.le_of_ble_eq_true rfl⟩) (pW_V (q := (RX13, TX13, 45)) (ci := 10) (q0 := 0) hP hE hD rfl rfl [0] (by decide +kernel) rfl rfl) rfl rfl hl.1 rfl (lv_room (Nat.le_of_ble_eq_true rfl)) dX13_reads_48 ⟨Nat.le_of_ble_eq_true rfl, Nat.le_of_ble_eq_true rfl⟩) hS (fun q _ h => hFc q h) hFc (fun r_49 u_50 t H1 locs ht hvm hr_49 hB hz1 hk1 hS => ?_)
      obtain ⟨hi0_r_49, hi1_r_49, hi2_r_49⟩ := hr_49
      have hj0_r_49 : r_49 = (0 : Int32) := hi0_r_49
      have hG : isB r_49 := hi1_r_49
      have hfl : ((0 : Int32).toInt = 0 → u_50 = u_2) ∧ (¬ (0 : Int32).toInt = 0 → u_50 = (q 29)) := hi2_r_49
      obtain ⟨hP1, hD1⟩ := hB
      rw [ht] at hP1
      obtain ⟨hP, hD⟩ := va_repl [(h0, .inr (10, (Value.int (q 0) :: Value.int (q 1) :: Value.int (q 2) :: Value.int (q 3) :: Value.int (q 4) :: Value.int (q 5) :: Value.int (q 6) :: Value.int (q 7) :: Value.ref (a 8) :: Value.ref (a 9) :: Value.ref (a 10) :: Value.ref (a 11) :: Value.ref (a 12) :: Value.ref (a 13) :: Value.int (q 14) :: Value.long v :: Value.long w :: Value.ref (a 17) :: Value.ref (a 18) :: Value.ref (a 19) :: Value.ref (a 20) :: Value.ref (a 21) :: Value.ref (a 22) :: Value.ref (a 23) :: Value.int (q 24) :: Value.ref (a 25) :: Value.int (q 26) :: Value.ref (a 27) :: Value.int z_28 :: Value.int u_50 :: Value.int (q 30) :: Value.int (q 31) :: Value.int (q 32) :: Value.int (q 33) :: Value.ref (a 34) :: Value.ref (a 35) :: Value.ref (a 36) :: Value.ref (a 37) :: Value.ref (a 38) :: Value.ref (a 39) :: Value.ref (a 40) :: Value.int (q 41) :: Value.ref (a 42) :: Value.int (q 43) :: Value.int (q 44) :: []))), ((a 25), .inl (T 0, 120, .inl f25))] hP hD [0] [0] rfl (by decide +kernel) rfl rfl rfl hk1 hP1
      clear hP1 hD1 hFc
      generalize H1 = H at hP hS ⊢
      obtain rfl : r_49 = 0 := hi0_r_49
      refine lv_if_ne (tgt := 56) hx hb dX13_reads_51 (by decide +kernel) (fun c9 => absurd c9 (by decide +kernel)) (fun _ => ?_)
      refine lv_iconst (v := 0) hx hb dX13_reads_54 (by decide +kernel) ?_
      exact W.zret hx hb hr rfl (fun t ht hW => ⟨⟨_, (z_28, u_50, (q 33)), rfl, ⟨(show (q 28).toInt ≤ z_28.toInt ∧ z_28.toInt ≤ (q 26).toInt from (by first | omega | (subst_vars; omega))), (show (¬ (0 : Int32).toInt = 0 → ∃ p2 : Nat, rnP (isBl f25) ((q 26).toNatClampNeg) ((q 28).toNatClampNeg) p2 ∧ numK f25 ((q 26).toNatClampNeg) p2 (x1.toNatClampNeg) (z_28.toNatClampNeg) (q 33)) ∧ ((0 : Int32).toInt = 0 → 0 ≤ u_50.toInt ∧ rnP (isBl f25) ((q 26).toNatClampNeg) ((q 28).toNatClampNeg) (u_50.toNatClampNeg) ∧ ∀ (e2 : Nat) (v2 : Int32), ¬ numK f25 ((q 26).toNatClampNeg) (u_50.toNatClampNeg) (x1.toNatClampNeg) e2 v2) from ⟨(fun h9 => absurd (by decide +kernel) h9), (fun _ => by
                                                        have hfe : u_50 = u_2 := hfl.1 (by decide +kernel)
                                                        rw [hfe]
                                                        exact ⟨by omega, hbl, (fun e2 v2 => by
                                                            by_cases h9 : u_2.toInt < (q 26).toInt
                                                            · refine numK_nodig (fun h8 => ?_)
                                                              rw [hsg] at h8
                                                              have h7 := h8.1
                                                              have h6 := tn (x := z_28) (by omega)
                                                              have h5 := tn (x := (q 26)) (by omega)
                                                              have h4 := h8.2
                                                              unfold isDi at h4
                                                              omega
                                                            · have h8 : u_2.toNatClampNeg = (q 26).toNatClampNeg := congrArg Int32.toNatClampNeg (Int32.toInt_inj.1 (by omega))
                                                              rw [h8]
                                                              exact numK_end)⟩)⟩)⟩, by rw [ht]; exact hP.sub [0, 1] rfl, hD.sub [0, 1] (by decide +kernel) rfl⟩, hS.F ht⟩) hS.2.2 dX13_reads_55
end
