theorem sum_stepR {f : Nat → Int32} {k : Nat} {i i' n z : Int32} (h : ∀ j : Nat, (j : Int) < i.toInt → 0 ≤ (f (k + j)).toInt ∧ (f (k + j)).toInt < n.toInt) (hi : i'.toInt = i.toInt + 1) (h0 : 0 ≤ i.toInt) (hz : z = f (k + i.toNatClampNeg)) (hv : 0 ≤ z.toInt ∧ z.toInt < n.toInt) : ∀ j : Nat, (j : Int) < i'.toInt → 0 ≤ (f (k + j)).toInt ∧ (f (k + j)).toInt < n.toInt := by
  intro j hj
  have h2 := tn h0
  by_cases e : j = i.toNatClampNeg
  · subst e
    rw [← hz]
    exact hv
  · exact h j (by omega)
theorem sum_stepM {g : Nat → Int32} {n0 nn n' al r z ii ii' : Int32} {f1 f2 f3 f4 v1 v2 v3 v4 w1 w2 w3 w4 : Nat → Int32} (h1 : 1 ≤ ii.toInt) (hi : ii'.toInt = ii.toInt + 1) (hnn : 0 ≤ nn.toInt) (Ha : al = (sumF g (rfA n0 f1 f2 f3 f4) (ii.toNatClampNeg - 1)).1) (HA : rfA nn v1 v2 v3 v4 = (sumF g (rfA n0 f1 f2 f3 f4) (ii.toNatClampNeg - 1)).2) (hz : z = g ii.toNatClampNeg) (hr : r.toInt = nn.toInt) (hn' : n'.toInt = nn.toInt + 1) (hw : w1 = upd v1 nn.toNatClampNeg 5 ∧ w2 = upd v2 nn.toNatClampNeg 0 ∧ w3 = upd v3 nn.toNatClampNeg al ∧ w4 = upd v4 nn.toNatClampNeg z) : r = (sumF g (rfA n0 f1 f2 f3 f4) (ii'.toNatClampNeg - 1)).1 ∧ rfA n' w1 w2 w3 w4 = (sumF g (rfA n0 f1 f2 f3 f4) (ii'.toNatClampNeg - 1)).2 := by
  have t := tn (x := ii) (by omega)
  have t2 := tnS (by omega) hi
  have e : ii'.toNatClampNeg - 1 = (ii.toNatClampNeg - 1) + 1 := by omega
  rw [e]
  obtain ⟨w5, w6, w7, w8⟩ := hw
  refine ⟨?_, ?_⟩
  · show r = nI (sumF g (rfA n0 f1 f2 f3 f4) (ii.toNatClampNeg - 1)).2.1
    rw [← HA]
    show r = nI nn.toNatClampNeg
    rw [nI_back hnn]
    exact Int32.toInt_inj.1 hr
  · show rfA n' w1 w2 w3 w4 = clsP (sumF g (rfA n0 f1 f2 f3 f4) (ii.toNatClampNeg - 1)).2 5 0 (sumF g (rfA n0 f1 f2 f3 f4) (ii.toNatClampNeg - 1)).1 (g (ii.toNatClampNeg - 1 + 1))
    rw [← HA, ← Ha, show ii.toNatClampNeg - 1 + 1 = ii.toNatClampNeg by omega, ← hz, w5, w6, w7, w8]
    show (n'.toNatClampNeg, _, _, _, _) = (nn.toNatClampNeg + 1, _, _, _, _)
    rw [tnS hnn hn']
theorem dX13_sum_0 : decode cX13_sum 0 = .ok (.iload_n 1, 1) := by decide +kernel
theorem dX13_sum_1 : decode cX13_sum 1 = .ok (.invokestatic 405, 3) := by decide +kernel
theorem dX13_sum_10 : decode cX13_sum 10 = .ok (.aload_n 0, 1) := by decide +kernel
theorem dX13_sum_101 : decode cX13_sum 101 = .ok (.iload 4, 2) := by decide +kernel
theorem dX13_sum_103 : decode cX13_sum 103 = .ok (.aload_n 0, 1) := by decide +kernel
theorem dX13_sum_104 : decode cX13_sum 104 = .ok (.getfield 44, 3) := by decide +kernel
theorem dX13_sum_107 : decode cX13_sum 107 = .ok (.iload_n 1, 1) := by decide +kernel
theorem dX13_sum_108 : decode cX13_sum 108 = .ok (.iaload, 1) := by decide +kernel
theorem dX13_sum_109 : decode cX13_sum 109 = .ok (.if_icmp .ge 29, 3) := by decide +kernel
theorem dX13_sum_11 : decode cX13_sum 11 = .ok (.getfield 44, 3) := by decide +kernel
theorem dX13_sum_112 : decode cX13_sum 112 = .ok (.aload_n 0, 1) := by decide +kernel
theorem dX13_sum_113 : decode cX13_sum 113 = .ok (.iconst 5, 1) := by decide +kernel
theorem dX13_sum_114 : decode cX13_sum 114 = .ok (.iconst 0, 1) := by decide +kernel
theorem dX13_sum_115 : decode cX13_sum 115 = .ok (.iload_n 3, 1) := by decide +kernel
theorem dX13_sum_116 : decode cX13_sum 116 = .ok (.aload_n 0, 1) := by decide +kernel
theorem dX13_sum_117 : decode cX13_sum 117 = .ok (.getfield 41, 3) := by decide +kernel
theorem dX13_sum_120 : decode cX13_sum 120 = .ok (.bipush 12, 2) := by decide +kernel
theorem dX13_sum_122 : decode cX13_sum 122 = .ok (.iload_n 1, 1) := by decide +kernel
theorem dX13_sum_123 : decode cX13_sum 123 = .ok (.imul, 1) := by decide +kernel
theorem dX13_sum_124 : decode cX13_sum 124 = .ok (.iload 4, 2) := by decide +kernel
theorem dX13_sum_126 : decode cX13_sum 126 = .ok (.iadd, 1) := by decide +kernel
theorem dX13_sum_127 : decode cX13_sum 127 = .ok (.iaload, 1) := by decide +kernel
theorem dX13_sum_128 : decode cX13_sum 128 = .ok (.invokevirtual 223, 3) := by decide +kernel
theorem dX13_sum_131 : decode cX13_sum 131 = .ok (.istore_n 3, 1) := by decide +kernel
theorem dX13_sum_132 : decode cX13_sum 132 = .ok (.iinc 4 1, 3) := by decide +kernel
theorem dX13_sum_135 : decode cX13_sum 135 = .ok (.goto (-34), 3) := by decide +kernel
theorem dX13_sum_138 : decode cX13_sum 138 = .ok (.iload_n 3, 1) := by decide +kernel
theorem dX13_sum_139 : decode cX13_sum 139 = .ok (.ireturn, 1) := by decide +kernel
theorem dX13_sum_14 : decode cX13_sum 14 = .ok (.iload_n 1, 1) := by decide +kernel
theorem dX13_sum_15 : decode cX13_sum 15 = .ok (.iaload, 1) := by decide +kernel
theorem dX13_sum_16 : decode cX13_sum 16 = .ok (.ifCond .le 7, 3) := by decide +kernel
theorem dX13_sum_19 : decode cX13_sum 19 = .ok (.iconst 1, 1) := by decide +kernel
theorem dX13_sum_20 : decode cX13_sum 20 = .ok (.goto 4, 3) := by decide +kernel
theorem dX13_sum_23 : decode cX13_sum 23 = .ok (.iconst 0, 1) := by decide +kernel
theorem dX13_sum_24 : decode cX13_sum 24 = .ok (.istore_n 2, 1) := by decide +kernel
theorem dX13_sum_25 : decode cX13_sum 25 = .ok (.iconst 0, 1) := by decide +kernel
theorem dX13_sum_26 : decode cX13_sum 26 = .ok (.istore_n 3, 1) := by decide +kernel
theorem dX13_sum_27 : decode cX13_sum 27 = .ok (.iload_n 3, 1) := by decide +kernel
theorem dX13_sum_28 : decode cX13_sum 28 = .ok (.aload_n 0, 1) := by decide +kernel
theorem dX13_sum_29 : decode cX13_sum 29 = .ok (.getfield 44, 3) := by decide +kernel
theorem dX13_sum_32 : decode cX13_sum 32 = .ok (.iload_n 1, 1) := by decide +kernel
theorem dX13_sum_33 : decode cX13_sum 33 = .ok (.iaload, 1) := by decide +kernel
theorem dX13_sum_34 : decode cX13_sum 34 = .ok (.if_icmp .ge 27, 3) := by decide +kernel
theorem dX13_sum_37 : decode cX13_sum 37 = .ok (.iload_n 2, 1) := by decide +kernel
theorem dX13_sum_38 : decode cX13_sum 38 = .ok (.aload_n 0, 1) := by decide +kernel
theorem dX13_sum_39 : decode cX13_sum 39 = .ok (.aload_n 0, 1) := by decide +kernel
theorem dX13_sum_4 : decode cX13_sum 4 = .ok (.ifCond .ne 6, 3) := by decide +kernel
theorem dX13_sum_40 : decode cX13_sum 40 = .ok (.getfield 41, 3) := by decide +kernel
theorem dX13_sum_43 : decode cX13_sum 43 = .ok (.bipush 12, 2) := by decide +kernel
theorem dX13_sum_45 : decode cX13_sum 45 = .ok (.iload_n 1, 1) := by decide +kernel
theorem dX13_sum_46 : decode cX13_sum 46 = .ok (.imul, 1) := by decide +kernel
theorem dX13_sum_47 : decode cX13_sum 47 = .ok (.iload_n 3, 1) := by decide +kernel
theorem dX13_sum_48 : decode cX13_sum 48 = .ok (.iadd, 1) := by decide +kernel
theorem dX13_sum_49 : decode cX13_sum 49 = .ok (.iaload, 1) := by decide +kernel
theorem dX13_sum_50 : decode cX13_sum 50 = .ok (.invokevirtual 233, 3) := by decide +kernel
theorem dX13_sum_53 : decode cX13_sum 53 = .ok (.iand, 1) := by decide +kernel
theorem dX13_sum_54 : decode cX13_sum 54 = .ok (.istore_n 2, 1) := by decide +kernel
theorem dX13_sum_55 : decode cX13_sum 55 = .ok (.iinc 3 1, 3) := by decide +kernel
theorem dX13_sum_58 : decode cX13_sum 58 = .ok (.goto (-31), 3) := by decide +kernel
theorem dX13_sum_61 : decode cX13_sum 61 = .ok (.iload_n 2, 1) := by decide +kernel
theorem dX13_sum_62 : decode cX13_sum 62 = .ok (.ifCond .ne 5, 3) := by decide +kernel
theorem dX13_sum_65 : decode cX13_sum 65 = .ok (.iconst (-1), 1) := by decide +kernel
theorem dX13_sum_66 : decode cX13_sum 66 = .ok (.ireturn, 1) := by decide +kernel
theorem dX13_sum_67 : decode cX13_sum 67 = .ok (.aload_n 0, 1) := by decide +kernel
theorem dX13_sum_68 : decode cX13_sum 68 = .ok (.getfield 205, 3) := by decide +kernel
theorem dX13_sum_7 : decode cX13_sum 7 = .ok (.bipush (-2), 2) := by decide +kernel
theorem dX13_sum_71 : decode cX13_sum 71 = .ok (.aload_n 0, 1) := by decide +kernel
theorem dX13_sum_72 : decode cX13_sum 72 = .ok (.getfield 44, 3) := by decide +kernel
theorem dX13_sum_75 : decode cX13_sum 75 = .ok (.iload_n 1, 1) := by decide +kernel
theorem dX13_sum_76 : decode cX13_sum 76 = .ok (.iaload, 1) := by decide +kernel
theorem dX13_sum_77 : decode cX13_sum 77 = .ok (.iadd, 1) := by decide +kernel
theorem dX13_sum_78 : decode cX13_sum 78 = .ok (.iconst 1, 1) := by decide +kernel
theorem dX13_sum_79 : decode cX13_sum 79 = .ok (.isub, 1) := by decide +kernel
theorem dX13_sum_80 : decode cX13_sum 80 = .ok (.bipush 24, 2) := by decide +kernel
theorem dX13_sum_82 : decode cX13_sum 82 = .ok (.if_icmp .le 6, 3) := by decide +kernel
theorem dX13_sum_85 : decode cX13_sum 85 = .ok (.bipush (-4), 2) := by decide +kernel
theorem dX13_sum_87 : decode cX13_sum 87 = .ok (.ireturn, 1) := by decide +kernel
theorem dX13_sum_88 : decode cX13_sum 88 = .ok (.aload_n 0, 1) := by decide +kernel
theorem dX13_sum_89 : decode cX13_sum 89 = .ok (.getfield 41, 3) := by decide +kernel
theorem dX13_sum_9 : decode cX13_sum 9 = .ok (.ireturn, 1) := by decide +kernel
theorem dX13_sum_92 : decode cX13_sum 92 = .ok (.bipush 12, 2) := by decide +kernel
theorem dX13_sum_94 : decode cX13_sum 94 = .ok (.iload_n 1, 1) := by decide +kernel
theorem dX13_sum_95 : decode cX13_sum 95 = .ok (.imul, 1) := by decide +kernel
theorem dX13_sum_96 : decode cX13_sum 96 = .ok (.iaload, 1) := by decide +kernel
theorem dX13_sum_97 : decode cX13_sum 97 = .ok (.istore_n 3, 1) := by decide +kernel
theorem dX13_sum_98 : decode cX13_sum 98 = .ok (.iconst 1, 1) := by decide +kernel
theorem dX13_sum_99 : decode cX13_sum 99 = .ok (.istore 4, 2) := by decide +kernel
set_option maxRecDepth 20000 in
theorem ggX13_sum_X13_comes : GoodIn wsX13_sum wsX13_comes := goodIn_r _ [19, 20, 3, 21, 22, 23, 24, 25, 26, 27, 28, 29, 30, 31, 32, 33, 34, 35, 36, 37, 38, 39, 40, 41, 42, 43, 44, 45, 46, 47, 48, 49, 50, 51, 52, 53, 54, 55, 56, 57, 58, 59, 60, 61, 62, 63, 64, 65, 66, 67, 68] rfl (by decide +kernel)
set_option maxRecDepth 20000 in
theorem ggX13_sum_X13_isBag : GoodIn wsX13_sum wsX13_isBag := goodIn_r _ [7, 8, 9, 10, 6, 11] rfl (by decide +kernel)
set_option maxRecDepth 20000 in
theorem ggX13_sum_X13_isClause : GoodIn wsX13_sum wsX13_isClause := goodIn_r _ [15, 3, 9, 10, 6, 11, 24, 25, 26, 27, 28, 29, 30, 31, 32, 33, 34, 35, 36, 37, 38, 39, 40, 41, 42, 43, 44, 45, 46, 47, 48, 49, 50, 51, 52, 53, 54, 55, 56, 57, 58, 59, 60, 61, 62, 63, 64, 65, 66, 67, 68] rfl (by decide +kernel)
set_option maxRecDepth 20000 in
theorem gX13_sum_X13_comes : GoodIn wsX13_sum (wsV RX13 223 RX13 yX13_comes wsX13_comes) := goodIn_app (goodIn_r _ [16, 17, 18, 6] rfl (by decide +kernel)) ggX13_sum_X13_comes
set_option maxRecDepth 20000 in
theorem gX13_sum_X13_isBag : GoodIn wsX13_sum (va_wsS RX13 405 yX13_isBag wsX13_isBag) := goodIn_app (goodIn_of _ (by decide +kernel)) ggX13_sum_X13_isBag
set_option maxRecDepth 20000 in
theorem gX13_sum_X13_isClause : GoodIn wsX13_sum (wsV RX13 233 RX13 yX13_isClause wsX13_isClause) := goodIn_app (goodIn_r _ [12, 13, 14, 6] rfl (by decide +kernel)) ggX13_sum_X13_isClause
set_option maxRecDepth 20000 in
theorem in_X13_sum_X13 : ∀ w ∈ wsX130, w ∈ wsX13_sum := sub_r [24, 25, 26, 27, 28, 29, 30, 31, 32, 33, 34, 35, 36, 37, 38, 39, 40, 41, 42, 43, 44, 45, 46, 47, 48, 49, 50, 51, 52, 53, 54, 55, 56, 57, 58, 59, 60, 61, 62, 63, 64, 65, 66, 67, 68] rfl
set_option maxHeartbeats 4000000 in
set_option maxRecDepth 100000 in
theorem c_X13_sum (l : Launch) (D : va_G) (T : Nat → ClassId) (sz : Nat) (h0 : Nat) (q : Nat → Int32) (v : Int64) (w : Int64) (a : Nat → Nat) (f8 : Nat → Int32) (f9 : Nat → Int32) (f10 : Nat → Int32) (f11 : Nat → Int32) (f12 : Nat → Int32) (f13 : Nat → Int32) (x1 : Int32) (hm : 0 ≤ (q 7).toInt ∧ (q 7).toInt ≤ 24) (hokR : okR f8 f10 f11) (hbg : ∀ k : Nat, k < 3 → 0 ≤ (f13 k).toInt ∧ (f13 k).toInt ≤ 12) : Met l yX13_sum wsX13_sum ({ frames := 2, cells := 0, slots := 0, locals := 46 }) (pW [.ref h0, .int x1] D T [(h0, .inr (10, (Value.int (q 0) :: Value.int (q 1) :: Value.int (q 2) :: Value.int (q 3) :: Value.int (q 4) :: Value.int (q 5) :: Value.int (q 6) :: Value.int (q 7) :: Value.ref (a 8) :: Value.ref (a 9) :: Value.ref (a 10) :: Value.ref (a 11) :: Value.ref (a 12) :: Value.ref (a 13) :: Value.int (q 14) :: Value.long v :: Value.long w :: Value.ref (a 17) :: Value.ref (a 18) :: Value.ref (a 19) :: Value.ref (a 20) :: Value.ref (a 21) :: Value.ref (a 22) :: Value.ref (a 23) :: Value.int (q 24) :: Value.ref (a 25) :: Value.int (q 26) :: Value.ref (a 27) :: Value.int (q 28) :: Value.int (q 29) :: Value.int (q 30) :: Value.int (q 31) :: Value.int (q 32) :: Value.int (q 33) :: Value.ref (a 34) :: Value.ref (a 35) :: Value.ref (a 36) :: Value.ref (a 37) :: Value.ref (a 38) :: Value.ref (a 39) :: Value.ref (a 40) :: Value.int (q 41) :: Value.ref (a 42) :: Value.int (q 43) :: Value.int (q 44) :: []))), ((a 8), .inl (T 0, 24, .inl f8)), ((a 9), .inl (T 0, 24, .inl f9)), ((a 10), .inl (T 0, 24, .inl f10)), ((a 11), .inl (T 0, 24, .inl f11)), ((a 12), .inl (T 0, 36, .inl f12)), ((a 13), .inl (T 0, 3, .inl f13))] sz) (va_Qi (fun (r : Int32) (u : (Int32) × (Nat → Int32) × (Nat → Int32) × (Nat → Int32) × (Nat → Int32)) => (okR u.2.1 u.2.2.2.1 u.2.2.2.2) ∧ (0 ≤ u.1.toInt ∧ u.1.toInt ≤ 24) ∧ (sumR (q 7) r u.1 (f13 x1.toNatClampNeg) (fun i => f12 (12 * x1.toNatClampNeg + i)) f8 f9 f10 f11 u.2.1 u.2.2.1 u.2.2.2.1 u.2.2.2.2 (¬ (0 ≤ x1.toInt ∧ x1.toInt ≤ 2)))) (bW D (va_A [(h0, .inr (10, (Value.int (q 0) :: Value.int (q 1) :: Value.int (q 2) :: Value.int (q 3) :: Value.int (q 4) :: Value.int (q 5) :: Value.int (q 6) :: Value.int (q 7) :: Value.ref (a 8) :: Value.ref (a 9) :: Value.ref (a 10) :: Value.ref (a 11) :: Value.ref (a 12) :: Value.ref (a 13) :: Value.int (q 14) :: Value.long v :: Value.long w :: Value.ref (a 17) :: Value.ref (a 18) :: Value.ref (a 19) :: Value.ref (a 20) :: Value.ref (a 21) :: Value.ref (a 22) :: Value.ref (a 23) :: Value.int (q 24) :: Value.ref (a 25) :: Value.int (q 26) :: Value.ref (a 27) :: Value.int (q 28) :: Value.int (q 29) :: Value.int (q 30) :: Value.int (q 31) :: Value.int (q 32) :: Value.int (q 33) :: Value.ref (a 34) :: Value.ref (a 35) :: Value.ref (a 36) :: Value.ref (a 37) :: Value.ref (a 38) :: Value.ref (a 39) :: Value.ref (a 40) :: Value.int (q 41) :: Value.ref (a 42) :: Value.int (q 43) :: Value.int (q 44) :: []))), ((a 8), .inl (T 0, 24, .inl f8)), ((a 9), .inl (T 0, 24, .inl f9)), ((a 10), .inl (T 0, 24, .inl f10)), ((a 11), .inl (T 0, 24, .inl f11)), ((a 12), .inl (T 0, 36, .inl f12)), ((a 13), .inl (T 0, 3, .inl f13))] sz) (fun (u : (Int32) × (Nat → Int32) × (Nat → Int32) × (Nat → Int32) × (Nat → Int32)) => [(h0, .inr (10, (Value.int (q 0) :: Value.int (q 1) :: Value.int (q 2) :: Value.int (q 3) :: Value.int (q 4) :: Value.int (q 5) :: Value.int (q 6) :: Value.int u.1 :: Value.ref (a 8) :: Value.ref (a 9) :: Value.ref (a 10) :: Value.ref (a 11) :: Value.ref (a 12) :: Value.ref (a 13) :: Value.int (q 14) :: Value.long v :: Value.long w :: Value.ref (a 17) :: Value.ref (a 18) :: Value.ref (a 19) :: Value.ref (a 20) :: Value.ref (a 21) :: Value.ref (a 22) :: Value.ref (a 23) :: Value.int (q 24) :: Value.ref (a 25) :: Value.int (q 26) :: Value.ref (a 27) :: Value.int (q 28) :: Value.int (q 29) :: Value.int (q 30) :: Value.int (q 31) :: Value.int (q 32) :: Value.int (q 33) :: Value.ref (a 34) :: Value.ref (a 35) :: Value.ref (a 36) :: Value.ref (a 37) :: Value.ref (a 38) :: Value.ref (a 39) :: Value.ref (a 40) :: Value.int (q 41) :: Value.ref (a 42) :: Value.int (q 43) :: Value.int (q 44) :: []))), ((a 8), .inl (T 0, 24, .inl u.2.1)), ((a 9), .inl (T 0, 24, .inl u.2.2.1)), ((a 10), .inl (T 0, 24, .inl u.2.2.2.1)), ((a 11), .inl (T 0, 24, .inl u.2.2.2.2)), ((a 12), .inl (T 0, 36, .inl f12)), ((a 13), .inl (T 0, 3, .inl f13))])) (va_A [(h0, .inr (10, (Value.int (q 0) :: Value.int (q 1) :: Value.int (q 2) :: Value.int (q 3) :: Value.int (q 4) :: Value.int (q 5) :: Value.int (q 6) :: Value.int (q 7) :: Value.ref (a 8) :: Value.ref (a 9) :: Value.ref (a 10) :: Value.ref (a 11) :: Value.ref (a 12) :: Value.ref (a 13) :: Value.int (q 14) :: Value.long v :: Value.long w :: Value.ref (a 17) :: Value.ref (a 18) :: Value.ref (a 19) :: Value.ref (a 20) :: Value.ref (a 21) :: Value.ref (a 22) :: Value.ref (a 23) :: Value.int (q 24) :: Value.ref (a 25) :: Value.int (q 26) :: Value.ref (a 27) :: Value.int (q 28) :: Value.int (q 29) :: Value.int (q 30) :: Value.int (q 31) :: Value.int (q 32) :: Value.int (q 33) :: Value.ref (a 34) :: Value.ref (a 35) :: Value.ref (a 36) :: Value.ref (a 37) :: Value.ref (a 38) :: Value.ref (a 39) :: Value.ref (a 40) :: Value.int (q 41) :: Value.ref (a 42) :: Value.int (q 43) :: Value.int (q 44) :: []))), ((a 8), .inl (T 0, 24, .inl f8)), ((a 9), .inl (T 0, 24, .inl f9)), ((a 10), .inl (T 0, 24, .inl f10)), ((a 11), .inl (T 0, 24, .inl f11)), ((a 12), .inl (T 0, 36, .inl f12)), ((a 13), .inl (T 0, 3, .inl f13))] sz)) 0 0 (va_A [(h0, .inr (10, (Value.int (q 0) :: Value.int (q 1) :: Value.int (q 2) :: Value.int (q 3) :: Value.int (q 4) :: Value.int (q 5) :: Value.int (q 6) :: Value.int (q 7) :: Value.ref (a 8) :: Value.ref (a 9) :: Value.ref (a 10) :: Value.ref (a 11) :: Value.ref (a 12) :: Value.ref (a 13) :: Value.int (q 14) :: Value.long v :: Value.long w :: Value.ref (a 17) :: Value.ref (a 18) :: Value.ref (a 19) :: Value.ref (a 20) :: Value.ref (a 21) :: Value.ref (a 22) :: Value.ref (a 23) :: Value.int (q 24) :: Value.ref (a 25) :: Value.int (q 26) :: Value.ref (a 27) :: Value.int (q 28) :: Value.int (q 29) :: Value.int (q 30) :: Value.int (q 31) :: Value.int (q 32) :: Value.int (q 33) :: Value.ref (a 34) :: Value.ref (a 35) :: Value.ref (a 36) :: Value.ref (a 37) :: Value.ref (a 38) :: Value.ref (a 39) :: Value.ref (a 40) :: Value.int (q 41) :: Value.ref (a 42) :: Value.int (q 43) :: Value.int (q 44) :: []))), ((a 8), .inl (T 0, 24, .inl f8)), ((a 9), .inl (T 0, 24, .inl f9)), ((a 10), .inl (T 0, 24, .inl f10)), ((a 11), .inl (T 0, 24, .inl f11)), ((a 12), .inl (T 0, 36, .inl f12)), ((a 13), .inl (T 0, 3, .inl f13))] sz) := by
  refine Met.ofW (cc := cX13_sum) (maxL := 5) (ret := (some .int)) (by decide +kernel) rfl ?_
  intro p e s m args below meth c s₁ B hml hv
  obtain ⟨rfl, hsz, hP, hE, hD0⟩ := hv
  have hx := B.exec
  have hb := B.bytes
  have hr := B.returns
  have hts := atoms_spec (ws := wsX13_sum) B.pre
  have hown : s.vm.findClass RX13 = some m.cls := findClass_of_methodNamed B.named
  have hlocks := B.notSynchronized
  subst hsz
  have hD := hD0.self (sz := s.heap.size)
  generalize hAe : va_A [(h0, .inr (10, (Value.int (q 0) :: Value.int (q 1) :: Value.int (q 2) :: Value.int (q 3) :: Value.int (q 4) :: Value.int (q 5) :: Value.int (q 6) :: Value.int (q 7) :: Value.ref (a 8) :: Value.ref (a 9) :: Value.ref (a 10) :: Value.ref (a 11) :: Value.ref (a 12) :: Value.ref (a 13) :: Value.int (q 14) :: Value.long v :: Value.long w :: Value.ref (a 17) :: Value.ref (a 18) :: Value.ref (a 19) :: Value.ref (a 20) :: Value.ref (a 21) :: Value.ref (a 22) :: Value.ref (a 23) :: Value.int (q 24) :: Value.ref (a 25) :: Value.int (q 26) :: Value.ref (a 27) :: Value.int (q 28) :: Value.int (q 29) :: Value.int (q 30) :: Value.int (q 31) :: Value.int (q 32) :: Value.int (q 33) :: Value.ref (a 34) :: Value.ref (a 35) :: Value.ref (a 36) :: Value.ref (a 37) :: Value.ref (a 38) :: Value.ref (a 39) :: Value.ref (a 40) :: Value.int (q 41) :: Value.ref (a 42) :: Value.int (q 43) :: Value.int (q 44) :: []))), ((a 8), .inl (T 0, 24, .inl f8)), ((a 9), .inl (T 0, 24, .inl f9)), ((a 10), .inl (T 0, 24, .inl f10)), ((a 11), .inl (T 0, 24, .inl f11)), ((a 12), .inl (T 0, 36, .inl f12)), ((a 13), .inl (T 0, 3, .inl f13))] s.heap.size = A at hD ⊢
  have hA : ∀ q : Nat, s.heap.size ≤ q → A q := fun q h => by rw [← hAe]; exact Or.inr h
  have hS : va_S A s.heap s.heap [] := va_S.rf
  have hP : va_P D vwCl [(h0, .inr (10, (Value.int (q 0) :: Value.int (q 1) :: Value.int (q 2) :: Value.int (q 3) :: Value.int (q 4) :: Value.int (q 5) :: Value.int (q 6) :: Value.int (q 7) :: Value.ref (a 8) :: Value.ref (a 9) :: Value.ref (a 10) :: Value.ref (a 11) :: Value.ref (a 12) :: Value.ref (a 13) :: Value.int (q 14) :: Value.long v :: Value.long w :: Value.ref (a 17) :: Value.ref (a 18) :: Value.ref (a 19) :: Value.ref (a 20) :: Value.ref (a 21) :: Value.ref (a 22) :: Value.ref (a 23) :: Value.int (q 24) :: Value.ref (a 25) :: Value.int (q 26) :: Value.ref (a 27) :: Value.int (q 28) :: Value.int (q 29) :: Value.int (q 30) :: Value.int (q 31) :: Value.int (q 32) :: Value.int (q 33) :: Value.ref (a 34) :: Value.ref (a 35) :: Value.ref (a 36) :: Value.ref (a 37) :: Value.ref (a 38) :: Value.ref (a 39) :: Value.ref (a 40) :: Value.int (q 41) :: Value.ref (a 42) :: Value.int (q 43) :: Value.int (q 44) :: []))), ((a 8), .inl (T 0, 24, .inl f8)), ((a 9), .inl (T 0, 24, .inl f9)), ((a 10), .inl (T 0, 24, .inl f10)), ((a 11), .inl (T 0, 24, .inl f11)), ((a 12), .inl (T 0, 36, .inl f12)), ((a 13), .inl (T 0, 3, .inl f13))] s.heap := hP
  have hl := lv_entry ([.ref h0, .int x1]) (n := 5) (Nat.le_of_ble_eq_true rfl)
  rw [lg_entry_eq]
  generalize (lg_sl ([.ref h0, .int x1]) ++ List.replicate (5 - (lg_sl ([.ref h0, .int x1])).length) Slot.unset).toArray = ls at hl ⊢
  have hl : lv_has ls 5 [(0, .ref h0), (1, .int x1)] := hl
  clear hD0
  refine lv_iload_n hx hb dX13_sum_0 rfl (lv_at hl 1 rfl) ?_
  refine vp_callSi (W.runS (As := [.int x1]) (rest := []) ⟨hx, hb, hml, hown, hts⟩ (c_X13_isBag l D T x1) (va_cwS 1 hts gX13_sum_X13_isBag rfl rfl rfl hs_X13_isBag ⟨Nat.le_of_ble_eq_true rfl, Nat.le_of_ble_eq_true rfl⟩) (pR_S hP hE [] rfl) rfl rfl hl.1 rfl (lv_room (Nat.le_of_ble_eq_true rfl)) dX13_sum_1 ⟨Nat.le_of_ble_eq_true rfl, Nat.le_of_ble_eq_true rfl⟩) (fun r_1 hr_1 => ?_)
  rcases bool_post hr_1 with ⟨c_2, rfl⟩ | ⟨c_2, rfl⟩
  · refine lv_if_ne (tgt := 10) hx hb dX13_sum_4 (by decide +kernel) (fun _ => ?_) (fun c9 => absurd c9 (by decide +kernel))
    refine lv_aload_n hx hb dX13_sum_10 rfl (lv_at hl 0 rfl) ?_
    refine va_get (D := D) (ci := 10) (v := .ref (a 13)) (C := RX13) (T := TX13) (N := 45) hx hb hts in_X13_sum_X13 hown hE.1 hP 0 rfl rfl 13 (by decide +kernel) (hts (.fieldLink RX13 44 "ClauseBookModel" "bagged" "[I") (List.mem_of_getElem? (i := 1) rfl)) (fun _ h9 => h9) rfl dX13_sum_11 ?_
    refine lv_iload_n hx hb dX13_sum_14 rfl (lv_at hl 1 rfl) ?_
    refine va_iald hx hb hE.1 hP 6 0 rfl rfl (by rw [vp_in_iff]; first | omega | (rw [fb_addI (by omega) (by omega)]; omega)) dX13_sum_15 ?_
    refine lv_topi (fun z_3 ez_3 => ?_)
    have hbz_3 : 0 ≤ z_3.toInt ∧ z_3.toInt ≤ 12 := by rw [ez_3]; exact hbg _ (tn3 (by omega) (by omega))
    have htz_3 : z_3.toInt = (f13 (x1.toNatClampNeg)).toInt := by rw [ez_3]
    refine lv_if_le (tgt := 23) hx hb dX13_sum_16 (by decide +kernel) (fun c_4 => ?_) (fun c_4 => ?_)
    · rw [fa_le] at c_4
      try rw [ti_0] at c_4
      refine lv_iconst (v := 0) hx hb dX13_sum_23 (by decide +kernel) ?_
      refine lv_istore_n (lv' := [(2, .int 0), (0, .ref h0), (1, .int x1)]) hx hb dX13_sum_24 rfl hl (by decide +kernel) rfl (fun ls hl => ?_)
      refine lv_iconst (v := 0) hx hb dX13_sum_25 (by decide +kernel) ?_
      refine lv_istore_n (lv' := [(3, .int 0), (2, .int 0), (0, .ref h0), (1, .int x1)]) hx hb dX13_sum_26 rfl hl (by decide +kernel) rfl (fun ls hl => ?_)
      refine loopR (σ := (Int32) × (Int32)) (fun x9 ls => lv_has ls 5 [(3, .int x9.1), (2, .int x9.2), (0, .ref h0), (1, .int x1)] ∧ ((0 ≤ x9.1.toInt ∧ x9.1.toInt ≤ 12 ∧ x9.1.toInt ≤ (f13 (x1.toNatClampNeg)).toInt) ∧ isB x9.2 ∧ (x9.2.toInt = 0 → ¬ sumN (q 7) (f13 x1.toNatClampNeg) (fun i => f12 (12 * x1.toNatClampNeg + i))) ∧ (x9.2.toInt ≠ 0 → 1 ≤ (f13 (x1.toNatClampNeg)).toInt ∧ ∀ j : Nat, (j : Int) < x9.1.toInt → 0 ≤ (f12 ((12 * x1).toNatClampNeg + j)).toInt ∧ (f12 ((12 * x1).toNatClampNeg + j)).toInt < (q 7).toInt))) (fun x9 => (12 - x9.1.toInt).toNat) (fun x9 ls hI ih => ?_) (0, 0) ls ⟨lv_sub hl [0, 1, 2, 3] rfl, ⟨(by (try dsimp only); simp only [ti_0]; omega), isB0, (fun h9 h8 => by first | exact absurd h9 (by (try dsimp only); decide) | (have h7 : 1 ≤ (f13 (x1.toNatClampNeg)).toInt := h8.1; omega)), (fun h9 => ⟨(by first | omega | exact absurd h9 (by (try dsimp only); decide)), fun j hj => absurd hj (by (try dsimp only); rw [ti_0]; omega)⟩)⟩⟩
      obtain ⟨ii, ar⟩ := x9
      obtain ⟨hl, hinv⟩ := hI
      have hl : lv_has ls 5 [(3, .int ii), (2, .int ar), (0, .ref h0), (1, .int x1)] := hl
      have hinv : (0 ≤ ii.toInt ∧ ii.toInt ≤ 12 ∧ ii.toInt ≤ (f13 (x1.toNatClampNeg)).toInt) ∧ isB ar ∧ (ar.toInt = 0 → ¬ sumN (q 7) (f13 x1.toNatClampNeg) (fun i => f12 (12 * x1.toNatClampNeg + i))) ∧ (ar.toInt ≠ 0 → 1 ≤ (f13 (x1.toNatClampNeg)).toInt ∧ ∀ j : Nat, (j : Int) < ii.toInt → 0 ≤ (f12 ((12 * x1).toNatClampNeg + j)).toInt ∧ (f12 ((12 * x1).toNatClampNeg + j)).toInt < (q 7).toInt) := hinv
      obtain ⟨hii, hBa, hnz, hal⟩ := hinv
      have h12x1 : (12 * x1).toInt = 12 * x1.toInt := by rw [fb_mulI (by rw [ti_12]; omega) (by rw [ti_12]; omega), ti_12]
      refine lv_iload_n hx hb dX13_sum_27 rfl (lv_at hl 0 rfl) ?_
      refine lv_aload_n hx hb dX13_sum_28 rfl (lv_at hl 2 rfl) ?_
      refine va_get (D := D) (ci := 10) (v := .ref (a 13)) (C := RX13) (T := TX13) (N := 45) hx hb hts in_X13_sum_X13 hown hE.1 hP 0 rfl rfl 13 (by decide +kernel) (hts (.fieldLink RX13 44 "ClauseBookModel" "bagged" "[I") (List.mem_of_getElem? (i := 1) rfl)) (fun _ h9 => h9) rfl dX13_sum_29 ?_
      refine lv_iload_n hx hb dX13_sum_32 rfl (lv_at hl 3 rfl) ?_
      refine va_iald hx hb hE.1 hP 6 0 rfl rfl (by rw [vp_in_iff]; first | omega | (rw [fb_addI (by omega) (by omega)]; omega)) dX13_sum_33 ?_
      refine lv_topi (fun z_5 ez_5 => ?_)
      have hbz_5 : 0 ≤ z_5.toInt ∧ z_5.toInt ≤ 12 := by rw [ez_5]; exact hbg _ (tn3 (by omega) (by omega))
      have htz_5 : z_5.toInt = (f13 (x1.toNatClampNeg)).toInt := by rw [ez_5]
      refine lv_icmp_ge (tgt := 61) hx hb dX13_sum_34 (by decide +kernel) (fun c_6 => ?_) (fun c_6 => ?_)
      · rw [fa_le] at c_6
        refine lv_iload_n hx hb dX13_sum_61 rfl (lv_at hl 1 rfl) ?_
        refine lv_if_ne (tgt := 67) hx hb dX13_sum_62 (by decide +kernel) (fun c_7 => ?_) (fun c_7 => ?_)
        · rw [fa_eq] at c_7
          try rw [ti_0] at c_7
          have hal := hal (by omega)
          have hsN : sumN (q 7) (f13 x1.toNatClampNeg) (fun i => f12 (12 * x1.toNatClampNeg + i)) := ⟨hal.1, (fun j hj => by
              have h8 := hal.2 j (by omega)
              have h7 := tn (x := (12 * x1)) (by omega)
              have h6 := tn (x := x1) (by omega)
              rw [show (12 * x1).toNatClampNeg = 12 * x1.toNatClampNeg by omega] at h8
              exact h8)⟩
          refine lv_aload_n hx hb dX13_sum_67 rfl (lv_at hl 2 rfl) ?_
          refine va_get (D := D) (ci := 10) (v := .int (q 7)) (C := RX13) (T := TX13) (N := 45) hx hb hts in_X13_sum_X13 hown hE.1 hP 0 rfl rfl 7 (by decide +kernel) (hts (.fieldLink RX13 205 "ClauseBookModel" "many" "I") (List.mem_of_getElem? (i := 3) rfl)) (fun _ h9 => h9) rfl dX13_sum_68 ?_
          refine lv_aload_n hx hb dX13_sum_71 rfl (lv_at hl 2 rfl) ?_
          refine va_get (D := D) (ci := 10) (v := .ref (a 13)) (C := RX13) (T := TX13) (N := 45) hx hb hts in_X13_sum_X13 hown hE.1 hP 0 rfl rfl 13 (by decide +kernel) (hts (.fieldLink RX13 44 "ClauseBookModel" "bagged" "[I") (List.mem_of_getElem? (i := 1) rfl)) (fun _ h9 => h9) rfl dX13_sum_72 ?_
          refine lv_iload_n hx hb dX13_sum_75 rfl (lv_at hl 3 rfl) ?_
          refine va_iald hx hb hE.1 hP 6 0 rfl rfl (by rw [vp_in_iff]; first | omega | (rw [fb_addI (by omega) (by omega)]; omega)) dX13_sum_76 ?_
          refine lv_topi (fun z_8 ez_8 => ?_)
          have hbz_8 : 0 ≤ z_8.toInt ∧ z_8.toInt ≤ 12 := by rw [ez_8]; exact hbg _ (tn3 (by omega) (by omega))
          have htz_8 : z_8.toInt = (f13 (x1.toNatClampNeg)).toInt := by rw [ez_8]
          refine lv_iadd hx hb dX13_sum_77 ?_
          refine lv_iconst (v := 1) hx hb dX13_sum_78 (by decide +kernel) ?_
          refine lv_isub hx hb dX13_sum_79 ?_
          have hs9 : ((q 7) + z_8).toInt = (q 7).toInt + z_8.toInt := fb_addI (by omega) (by omega)
          have hs8 := dec1 (i := (q 7) + z_8) (by omega)
          refine lv_bipush (v := 24) hx hb dX13_sum_80 (by decide +kernel) ?_
          refine lv_icmp_le (tgt := 88) hx hb dX13_sum_82 (by decide +kernel) (fun c_9 => ?_) (fun c_9 => ?_)
          · rw [fa_le] at c_9
            try rw [ti_24] at c_9
            have h12x1 : (12 * x1).toInt = 12 * x1.toInt := by rw [fb_mulI (by rw [ti_12]; omega) (by rw [ti_12]; omega), ti_12]
            refine lv_aload_n hx hb dX13_sum_88 rfl (lv_at hl 2 rfl) ?_
            refine va_get (D := D) (ci := 10) (v := .ref (a 12)) (C := RX13) (T := TX13) (N := 45) hx hb hts in_X13_sum_X13 hown hE.1 hP 0 rfl rfl 12 (by decide +kernel) (hts (.fieldLink RX13 41 "ClauseBookModel" "bag" "[I") (List.mem_of_getElem? (i := 2) rfl)) (fun _ h9 => h9) rfl dX13_sum_89 ?_
            refine lv_bipush (v := 12) hx hb dX13_sum_92 (by decide +kernel) ?_
            refine lv_iload_n hx hb dX13_sum_94 rfl (lv_at hl 3 rfl) ?_
            refine lv_imul hx hb dX13_sum_95 ?_
            refine va_iald hx hb hE.1 hP 5 0 rfl rfl (by rw [vp_in_iff]; first | omega | (rw [fb_addI (by omega) (by omega)]; omega)) dX13_sum_96 ?_
            refine lv_topi (fun z_10 ez_10 => ?_)
            have hxz_10 : 0 ≤ z_10.toInt ∧ z_10.toInt < (q 7).toInt := by rw [ez_10]; exact hal.2 0 (by omega)
            refine lv_istore_n (lv' := [(3, .int z_10), (2, .int ar), (0, .ref h0), (1, .int x1)]) hx hb dX13_sum_97 rfl hl (by decide +kernel) rfl (fun ls hl => ?_)
            refine lv_iconst (v := 1) hx hb dX13_sum_98 (by decide +kernel) ?_
            refine lv_istore (lv' := [(4, .int 1), (3, .int z_10), (2, .int ar), (0, .ref h0), (1, .int x1)]) hx hb dX13_sum_99 hl (by decide +kernel) rfl (fun ls hl => ?_)
            refine loopW (σ := (Int32) × (Int32) × (Int32) × (Nat → Int32) × (Nat → Int32) × (Nat → Int32) × (Nat → Int32)) (fun x9 ls H locs => lv_has ls 5 [(4, .int x9.1), (3, .int x9.2.1), (0, .ref h0), (1, .int x1)] ∧ va_P D vwCl [(h0, .inr (10, (Value.int (q 0) :: Value.int (q 1) :: Value.int (q 2) :: Value.int (q 3) :: Value.int (q 4) :: Value.int (q 5) :: Value.int (q 6) :: Value.int x9.2.2.1 :: Value.ref (a 8) :: Value.ref (a 9) :: Value.ref (a 10) :: Value.ref (a 11) :: Value.ref (a 12) :: Value.ref (a 13) :: Value.int (q 14) :: Value.long v :: Value.long w :: Value.ref (a 17) :: Value.ref (a 18) :: Value.ref (a 19) :: Value.ref (a 20) :: Value.ref (a 21) :: Value.ref (a 22) :: Value.ref (a 23) :: Value.int (q 24) :: Value.ref (a 25) :: Value.int (q 26) :: Value.ref (a 27) :: Value.int (q 28) :: Value.int (q 29) :: Value.int (q 30) :: Value.int (q 31) :: Value.int (q 32) :: Value.int (q 33) :: Value.ref (a 34) :: Value.ref (a 35) :: Value.ref (a 36) :: Value.ref (a 37) :: Value.ref (a 38) :: Value.ref (a 39) :: Value.ref (a 40) :: Value.int (q 41) :: Value.ref (a 42) :: Value.int (q 43) :: Value.int (q 44) :: []))), ((a 8), .inl (T 0, 24, .inl x9.2.2.2.1)), ((a 9), .inl (T 0, 24, .inl x9.2.2.2.2.1)), ((a 10), .inl (T 0, 24, .inl x9.2.2.2.2.2.1)), ((a 11), .inl (T 0, 24, .inl x9.2.2.2.2.2.2)), ((a 12), .inl (T 0, 36, .inl f12)), ((a 13), .inl (T 0, 3, .inl f13))] H ∧ va_D A [(h0, .inr (10, (Value.int (q 0) :: Value.int (q 1) :: Value.int (q 2) :: Value.int (q 3) :: Value.int (q 4) :: Value.int (q 5) :: Value.int (q 6) :: Value.int x9.2.2.1 :: Value.ref (a 8) :: Value.ref (a 9) :: Value.ref (a 10) :: Value.ref (a 11) :: Value.ref (a 12) :: Value.ref (a 13) :: Value.int (q 14) :: Value.long v :: Value.long w :: Value.ref (a 17) :: Value.ref (a 18) :: Value.ref (a 19) :: Value.ref (a 20) :: Value.ref (a 21) :: Value.ref (a 22) :: Value.ref (a 23) :: Value.int (q 24) :: Value.ref (a 25) :: Value.int (q 26) :: Value.ref (a 27) :: Value.int (q 28) :: Value.int (q 29) :: Value.int (q 30) :: Value.int (q 31) :: Value.int (q 32) :: Value.int (q 33) :: Value.ref (a 34) :: Value.ref (a 35) :: Value.ref (a 36) :: Value.ref (a 37) :: Value.ref (a 38) :: Value.ref (a 39) :: Value.ref (a 40) :: Value.int (q 41) :: Value.ref (a 42) :: Value.int (q 43) :: Value.int (q 44) :: []))), ((a 8), .inl (T 0, 24, .inl x9.2.2.2.1)), ((a 9), .inl (T 0, 24, .inl x9.2.2.2.2.1)), ((a 10), .inl (T 0, 24, .inl x9.2.2.2.2.2.1)), ((a 11), .inl (T 0, 24, .inl x9.2.2.2.2.2.2)), ((a 12), .inl (T 0, 36, .inl f12)), ((a 13), .inl (T 0, 3, .inl f13))] ∧ va_S A s.heap H locs ∧ (((1 ≤ x9.1.toInt ∧ x9.1.toInt ≤ (f13 (x1.toNatClampNeg)).toInt) ∧ x9.2.2.1.toInt = (q 7).toInt + x9.1.toInt - 1 ∧ 0 ≤ x9.2.1.toInt ∧ x9.2.1.toInt < x9.2.2.1.toInt) ∧ okR x9.2.2.2.1 x9.2.2.2.2.2.1 x9.2.2.2.2.2.2 ∧ x9.2.1 = (sumF (fun i => f12 (12 * x1.toNatClampNeg + i)) (rfA (q 7) f8 f9 f10 f11) (x9.1.toNatClampNeg - 1)).1 ∧ rfA x9.2.2.1 x9.2.2.2.1 x9.2.2.2.2.1 x9.2.2.2.2.2.1 x9.2.2.2.2.2.2 = (sumF (fun i => f12 (12 * x1.toNatClampNeg + i)) (rfA (q 7) f8 f9 f10 f11) (x9.1.toNatClampNeg - 1)).2)) (fun x9 => (12 - x9.1.toInt).toNat) (fun x9 ls H locs hI ih => ?_) (1, z_10, (q 7), f8, f9, f10, f11) ls ⟨lv_sub hl [0, 1, 3, 4] rfl, hP.sub [0, 1, 2, 3, 4, 5, 6] rfl, hD.sub [0, 1, 2, 3, 4, 5, 6] (by decide +kernel) rfl, hS, ⟨(by (try dsimp only); rw [ti_1]; omega), hokR, (by (try dsimp only); rw [tn1']; show z_10 = f12 (12 * x1.toNatClampNeg + 0); rw [ez_10]; congr 1; have h8 := tn (x := (12 * x1)) (by omega); have h7 := tn (x := x1) (by omega); omega), (by (try dsimp only); rw [tn1']; rfl)⟩⟩
            obtain ⟨kk, xx, nn, g8, g9, g10, g11⟩ := x9
            obtain ⟨hl, hP, hD, hS, hinv⟩ := hI
            have hl : lv_has ls 5 [(4, .int kk), (3, .int xx), (0, .ref h0), (1, .int x1)] := hl
            have hP : va_P D vwCl [(h0, .inr (10, (Value.int (q 0) :: Value.int (q 1) :: Value.int (q 2) :: Value.int (q 3) :: Value.int (q 4) :: Value.int (q 5) :: Value.int (q 6) :: Value.int nn :: Value.ref (a 8) :: Value.ref (a 9) :: Value.ref (a 10) :: Value.ref (a 11) :: Value.ref (a 12) :: Value.ref (a 13) :: Value.int (q 14) :: Value.long v :: Value.long w :: Value.ref (a 17) :: Value.ref (a 18) :: Value.ref (a 19) :: Value.ref (a 20) :: Value.ref (a 21) :: Value.ref (a 22) :: Value.ref (a 23) :: Value.int (q 24) :: Value.ref (a 25) :: Value.int (q 26) :: Value.ref (a 27) :: Value.int (q 28) :: Value.int (q 29) :: Value.int (q 30) :: Value.int (q 31) :: Value.int (q 32) :: Value.int (q 33) :: Value.ref (a 34) :: Value.ref (a 35) :: Value.ref (a 36) :: Value.ref (a 37) :: Value.ref (a 38) :: Value.ref (a 39) :: Value.ref (a 40) :: Value.int (q 41) :: Value.ref (a 42) :: Value.int (q 43) :: Value.int (q 44) :: []))), ((a 8), .inl (T 0, 24, .inl g8)), ((a 9), .inl (T 0, 24, .inl g9)), ((a 10), .inl (T 0, 24, .inl g10)), ((a 11), .inl (T 0, 24, .inl g11)), ((a 12), .inl (T 0, 36, .inl f12)), ((a 13), .inl (T 0, 3, .inl f13))] H := hP
            have hD : va_D A [(h0, .inr (10, (Value.int (q 0) :: Value.int (q 1) :: Value.int (q 2) :: Value.int (q 3) :: Value.int (q 4) :: Value.int (q 5) :: Value.int (q 6) :: Value.int nn :: Value.ref (a 8) :: Value.ref (a 9) :: Value.ref (a 10) :: Value.ref (a 11) :: Value.ref (a 12) :: Value.ref (a 13) :: Value.int (q 14) :: Value.long v :: Value.long w :: Value.ref (a 17) :: Value.ref (a 18) :: Value.ref (a 19) :: Value.ref (a 20) :: Value.ref (a 21) :: Value.ref (a 22) :: Value.ref (a 23) :: Value.int (q 24) :: Value.ref (a 25) :: Value.int (q 26) :: Value.ref (a 27) :: Value.int (q 28) :: Value.int (q 29) :: Value.int (q 30) :: Value.int (q 31) :: Value.int (q 32) :: Value.int (q 33) :: Value.ref (a 34) :: Value.ref (a 35) :: Value.ref (a 36) :: Value.ref (a 37) :: Value.ref (a 38) :: Value.ref (a 39) :: Value.ref (a 40) :: Value.int (q 41) :: Value.ref (a 42) :: Value.int (q 43) :: Value.int (q 44) :: []))), ((a 8), .inl (T 0, 24, .inl g8)), ((a 9), .inl (T 0, 24, .inl g9)), ((a 10), .inl (T 0, 24, .inl g10)), ((a 11), .inl (T 0, 24, .inl g11)), ((a 12), .inl (T 0, 36, .inl f12)), ((a 13), .inl (T 0, 3, .inl f13))] := hD
            have hinv : ((1 ≤ kk.toInt ∧ kk.toInt ≤ (f13 (x1.toNatClampNeg)).toInt) ∧ nn.toInt = (q 7).toInt + kk.toInt - 1 ∧ 0 ≤ xx.toInt ∧ xx.toInt < nn.toInt) ∧ okR g8 g10 g11 ∧ xx = (sumF (fun i => f12 (12 * x1.toNatClampNeg + i)) (rfA (q 7) f8 f9 f10 f11) (kk.toNatClampNeg - 1)).1 ∧ rfA nn g8 g9 g10 g11 = (sumF (fun i => f12 (12 * x1.toNatClampNeg + i)) (rfA (q 7) f8 f9 f10 f11) (kk.toNatClampNeg - 1)).2 := hinv
            obtain ⟨hkk, hokR, hsx, hsA⟩ := hinv
            refine lv_iload hx hb dX13_sum_101 (lv_at hl 0 rfl) ?_
            refine lv_aload_n hx hb dX13_sum_103 rfl (lv_at hl 2 rfl) ?_
            refine va_get (D := D) (ci := 10) (v := .ref (a 13)) (C := RX13) (T := TX13) (N := 45) hx hb hts in_X13_sum_X13 hown hE.1 hP 0 rfl rfl 13 (by decide +kernel) (hts (.fieldLink RX13 44 "ClauseBookModel" "bagged" "[I") (List.mem_of_getElem? (i := 1) rfl)) (fun _ h9 => h9) rfl dX13_sum_104 ?_
            refine lv_iload_n hx hb dX13_sum_107 rfl (lv_at hl 3 rfl) ?_
            refine va_iald hx hb hE.1 hP 6 0 rfl rfl (by rw [vp_in_iff]; first | omega | (rw [fb_addI (by omega) (by omega)]; omega)) dX13_sum_108 ?_
            refine lv_topi (fun z_11 ez_11 => ?_)
            have hbz_11 : 0 ≤ z_11.toInt ∧ z_11.toInt ≤ 12 := by rw [ez_11]; exact hbg _ (tn3 (by omega) (by omega))
            have htz_11 : z_11.toInt = (f13 (x1.toNatClampNeg)).toInt := by rw [ez_11]
            refine lv_icmp_ge (tgt := 138) hx hb dX13_sum_109 (by decide +kernel) (fun c_12 => ?_) (fun c_12 => ?_)
            · rw [fa_le] at c_12
              have hkb : kk.toNatClampNeg = (f13 x1.toNatClampNeg).toNatClampNeg := congrArg Int32.toNatClampNeg (Int32.toInt_inj.1 (by omega))
              refine lv_iload_n hx hb dX13_sum_138 rfl (lv_at hl 1 rfl) ?_
              exact W.iret hx hb hr (fun t ht hW => ⟨⟨_, (nn, g8, g9, g10, g11), rfl, ⟨(show okR g8 g10 g11 from hokR), (show 0 ≤ nn.toInt ∧ nn.toInt ≤ 24 from (by first | omega | (subst_vars; omega))), (show sumR (q 7) xx nn (f13 x1.toNatClampNeg) (fun i => f12 (12 * x1.toNatClampNeg + i)) f8 f9 f10 f11 g8 g9 g10 g11 (¬ (0 ≤ x1.toInt ∧ x1.toInt ≤ 2)) from (Or.inr (Or.inr (Or.inr ⟨(fun h9 => h9 (by omega)), hsN, (by omega), (by rw [hkb] at hsx; exact hsx), (by rw [hkb] at hsA; exact hsA)⟩))))⟩, by rw [ht]; exact hP.sub [0, 1, 2, 3, 4, 5, 6] rfl, hD.sub [0, 1, 2, 3, 4, 5, 6] (by decide +kernel) rfl⟩, hS.F ht⟩) hS.2.2 dX13_sum_139
            · rw [fa_le] at c_12
              refine lv_aload_n hx hb dX13_sum_112 rfl (lv_at hl 2 rfl) ?_
              refine lv_iconst (v := 5) hx hb dX13_sum_113 (by decide +kernel) ?_
              refine lv_iconst (v := 0) hx hb dX13_sum_114 (by decide +kernel) ?_
              refine lv_iload_n hx hb dX13_sum_115 rfl (lv_at hl 1 rfl) ?_
              refine lv_aload_n hx hb dX13_sum_116 rfl (lv_at hl 2 rfl) ?_
              refine va_get (D := D) (ci := 10) (v := .ref (a 12)) (C := RX13) (T := TX13) (N := 45) hx hb hts in_X13_sum_X13 hown hE.1 hP 0 rfl rfl 12 (by decide +kernel) (hts (.fieldLink RX13 41 "ClauseBookModel" "bag" "[I") (List.mem_of_getElem? (i := 2) rfl)) (fun _ h9 => h9) rfl dX13_sum_117 ?_
              refine lv_bipush (v := 12) hx hb dX13_sum_120 (by decide +kernel) ?_
              refine lv_iload_n hx hb dX13_sum_122 rfl (lv_at hl 3 rfl) ?_
              refine lv_imul hx hb dX13_sum_123 ?_
              refine lv_iload hx hb dX13_sum_124 (lv_at hl 0 rfl) ?_
              refine lv_iadd hx hb dX13_sum_126 ?_
              refine va_iald hx hb hE.1 hP 5 0 rfl rfl (by rw [vp_in_iff]; first | omega | (rw [fb_addI (by omega) (by omega)]; omega)) dX13_sum_127 ?_
              refine lv_topi (fun z_13 ez_13 => ?_)
              have hyz_13 : 0 ≤ z_13.toInt ∧ z_13.toInt < (q 7).toInt := by
                have h8 := tn (x := kk) (by omega)
                rw [ez_13, ix_nat (n := 0) (m := 0) (z := 0) (by omega) (by omega)]
                exact hal.2 _ (by omega)
              have hyg : z_13 = (fun i => f12 (12 * x1.toNatClampNeg + i)) kk.toNatClampNeg := by show z_13 = f12 (12 * x1.toNatClampNeg + kk.toNatClampNeg); rw [ez_13, ix12 (by omega) (by omega)]
              have hFc := va_free (wc := [(h0, .inr (10, (Value.int (q 0) :: Value.int (q 1) :: Value.int (q 2) :: Value.int (q 3) :: Value.int (q 4) :: Value.int (q 5) :: Value.int (q 6) :: Value.int nn :: Value.ref (a 8) :: Value.ref (a 9) :: Value.ref (a 10) :: Value.ref (a 11) :: Value.ref (a 12) :: Value.ref (a 13) :: Value.int (q 14) :: Value.long v :: Value.long w :: Value.ref (a 17) :: Value.ref (a 18) :: Value.ref (a 19) :: Value.ref (a 20) :: Value.ref (a 21) :: Value.ref (a 22) :: Value.ref (a 23) :: Value.int (q 24) :: Value.ref (a 25) :: Value.int (q 26) :: Value.ref (a 27) :: Value.int (q 28) :: Value.int (q 29) :: Value.int (q 30) :: Value.int (q 31) :: Value.int (q 32) :: Value.int (q 33) :: Value.ref (a 34) :: Value.ref (a 35) :: Value.ref (a 36) :: Value.ref (a 37) :: Value.ref (a 38) :: Value.ref (a 39) :: Value.ref (a 40) :: Value.int (q 41) :: Value.ref (a 42) :: Value.int (q 43) :: Value.int (q 44) :: []))), ((a 8), .inl (T 0, 24, .inl g8)), ((a 9), .inl (T 0, 24, .inl g9)), ((a 10), .inl (T 0, 24, .inl g10)), ((a 11), .inl (T 0, 24, .inl g11))]) hD hS hA [0, 1, 2, 3, 4] rfl
              refine va_calli (va_runV (As := [.int 5, .int 0, .int xx, .int z_13]) (rest := []) ⟨hx, hb, hml, hown, hts⟩ (c_X13_comes l D T _ h0 (fun k => cond (Nat.beq k 7) nn (q k)) v w a g8 g9 g10 g11 5 0 xx z_13 (show 0 ≤ nn.toInt ∧ nn.toInt < 24 from (by omega)) (show okR g8 g10 g11 from hokR) (show 0 ≤ (5 : Int32).toInt ∧ (5 : Int32).toInt ≤ 12 from (by decide +kernel)) (show 1 ≤ (nmT ((5 : Int32).toNatClampNeg)).toInt → 0 ≤ xx.toInt ∧ xx.toInt < nn.toInt from (fun _ => by omega)) (show (nmT ((5 : Int32).toNatClampNeg)).toInt = 2 → 0 ≤ z_13.toInt ∧ z_13.toInt < nn.toInt from (fun _ => by omega))) (cwV 4 hts gX13_sum_X13_comes rfl rfl rfl hv_X13_comes ⟨Nat.le_of_ble_eq_true rfl, Nat.le_of_ble_eq_true rfl⟩) (pW_V (q := (RX13, TX13, 45)) (ci := 10) (q0 := 0) hP hE hD rfl rfl [0, 1, 2, 3, 4] (by decide +kernel) rfl rfl) rfl rfl hl.1 rfl (lv_room (Nat.le_of_ble_eq_true rfl)) dX13_sum_128 ⟨Nat.le_of_ble_eq_true rfl, Nat.le_of_ble_eq_true rfl⟩) hS (fun q _ h => hFc q h) hFc (fun r_14 u_15 t H1 locs ht hvm hr_14 hB hz1 hk1 hS => ?_)
              obtain ⟨n_16, f_17, f_18, f_19, f_20⟩ := u_15
              obtain ⟨hi0_r_14, hi1_r_14, hi2_r_14⟩ := hr_14
              have hokR : okR f_17 f_19 f_20 := hi0_r_14
              have hcr : r_14.toInt = nn.toInt ∧ n_16.toInt = nn.toInt + 1 := hi1_r_14
              have hcm : f_17 = upd g8 (nn.toNatClampNeg) (5 : Int32) ∧ f_18 = upd g9 (nn.toNatClampNeg) (0 : Int32) ∧ f_19 = upd g10 (nn.toNatClampNeg) xx ∧ f_20 = upd g11 (nn.toNatClampNeg) z_13 := hi2_r_14
              obtain ⟨hP1, hD1⟩ := hB
              rw [ht] at hP1
              obtain ⟨hP, hD⟩ := va_repl [(h0, .inr (10, (Value.int (q 0) :: Value.int (q 1) :: Value.int (q 2) :: Value.int (q 3) :: Value.int (q 4) :: Value.int (q 5) :: Value.int (q 6) :: Value.int n_16 :: Value.ref (a 8) :: Value.ref (a 9) :: Value.ref (a 10) :: Value.ref (a 11) :: Value.ref (a 12) :: Value.ref (a 13) :: Value.int (q 14) :: Value.long v :: Value.long w :: Value.ref (a 17) :: Value.ref (a 18) :: Value.ref (a 19) :: Value.ref (a 20) :: Value.ref (a 21) :: Value.ref (a 22) :: Value.ref (a 23) :: Value.int (q 24) :: Value.ref (a 25) :: Value.int (q 26) :: Value.ref (a 27) :: Value.int (q 28) :: Value.int (q 29) :: Value.int (q 30) :: Value.int (q 31) :: Value.int (q 32) :: Value.int (q 33) :: Value.ref (a 34) :: Value.ref (a 35) :: Value.ref (a 36) :: Value.ref (a 37) :: Value.ref (a 38) :: Value.ref (a 39) :: Value.ref (a 40) :: Value.int (q 41) :: Value.ref (a 42) :: Value.int (q 43) :: Value.int (q 44) :: []))), ((a 8), .inl (T 0, 24, .inl f_17)), ((a 9), .inl (T 0, 24, .inl f_18)), ((a 10), .inl (T 0, 24, .inl f_19)), ((a 11), .inl (T 0, 24, .inl f_20)), ((a 12), .inl (T 0, 36, .inl f12)), ((a 13), .inl (T 0, 3, .inl f13))] hP hD [0, 1, 2, 3, 4] [0, 1, 2, 3, 4] rfl (by decide +kernel) rfl rfl rfl hk1 hP1
              clear hP1 hD1 hFc
              generalize H1 = H at hP hS ⊢
              refine lv_istore_n (lv' := [(3, .int r_14), (4, .int kk), (0, .ref h0), (1, .int x1)]) hx hb dX13_sum_131 rfl hl (by decide +kernel) rfl (fun ls hl => ?_)
              obtain ⟨z_21, ez_21⟩ : ∃ y : Int32, y = kk + 1 := ⟨_, rfl⟩
              refine lv_iinc (v := z_21) (lv' := [(4, .int z_21), (3, .int r_14), (0, .ref h0), (1, .int x1)]) hx hb dX13_sum_132 hl (k := 1) rfl (by rw [ez_21]; rfl) (by decide +kernel) rfl (fun ls hl => ?_)
              have hi9 : z_21.toInt = kk.toInt + 1 := by rw [ez_21]; exact inc1 (n := 1000) (by omega) (by decide +kernel)
              refine lv_goto (tgt := 101) hx hb dX13_sum_135 (by decide +kernel) ?_
              exact ih (z_21, r_14, n_16, f_17, f_18, f_19, f_20) ls _ _ ⟨lv_sub hl [0, 1, 2, 3] rfl, hP.sub [0, 1, 2, 3, 4, 5, 6] rfl, hD.sub [0, 1, 2, 3, 4, 5, 6] (by decide +kernel) rfl, hS, ⟨(by (try dsimp only); omega), hokR, (by (try dsimp only); exact (sum_stepM (by omega) hi9 (by omega) hsx hsA hyg hcr.1 hcr.2 hcm).1), (by (try dsimp only); exact (sum_stepM (by omega) hi9 (by omega) hsx hsA hyg hcr.1 hcr.2 hcm).2)⟩⟩ (by (try dsimp only); omega)
          · rw [fa_le] at c_9
            try rw [ti_24] at c_9
            refine lv_bipush (v := (-4)) hx hb dX13_sum_85 (by decide +kernel) ?_
            exact W.iret hx hb hr (fun t ht hW => ⟨⟨_, ((q 7), f8, f9, f10, f11), rfl, ⟨(show okR f8 f10 f11 from hokR), (show 0 ≤ (q 7).toInt ∧ (q 7).toInt ≤ 24 from (by first | omega | (subst_vars; omega))), (show sumR (q 7) ((-4) : Int32) (q 7) (f13 x1.toNatClampNeg) (fun i => f12 (12 * x1.toNatClampNeg + i)) f8 f9 f10 f11 f8 f9 f10 f11 (¬ (0 ≤ x1.toInt ∧ x1.toInt ≤ 2)) from (Or.inr (Or.inr (Or.inl ⟨(fun h9 => h9 (by omega)), hsN, (by omega), (by decide +kernel), ⟨rfl, rfl, rfl, rfl, rfl⟩⟩))))⟩, by rw [ht]; exact hP.sub [0, 1, 2, 3, 4, 5, 6] rfl, hD.sub [0, 1, 2, 3, 4, 5, 6] (by decide +kernel) rfl⟩, hS.F ht⟩) hS.2.2 dX13_sum_87
        · rw [fa_eq] at c_7
          try rw [ti_0] at c_7
          refine lv_iconst (v := (-1)) hx hb dX13_sum_65 (by decide +kernel) ?_
          exact W.iret hx hb hr (fun t ht hW => ⟨⟨_, ((q 7), f8, f9, f10, f11), rfl, ⟨(show okR f8 f10 f11 from hokR), (show 0 ≤ (q 7).toInt ∧ (q 7).toInt ≤ 24 from (by first | omega | (subst_vars; omega))), (show sumR (q 7) ((-1) : Int32) (q 7) (f13 x1.toNatClampNeg) (fun i => f12 (12 * x1.toNatClampNeg + i)) f8 f9 f10 f11 f8 f9 f10 f11 (¬ (0 ≤ x1.toInt ∧ x1.toInt ≤ 2)) from (Or.inr (Or.inl ⟨(fun h9 => h9 (by omega)), hnz (by omega), (by decide +kernel), ⟨rfl, rfl, rfl, rfl, rfl⟩⟩)))⟩, by rw [ht]; exact hP.sub [0, 1, 2, 3, 4, 5, 6] rfl, hD.sub [0, 1, 2, 3, 4, 5, 6] (by decide +kernel) rfl⟩, hS.F ht⟩) hS.2.2 dX13_sum_66
      · rw [fa_le] at c_6
        refine lv_iload_n hx hb dX13_sum_37 rfl (lv_at hl 1 rfl) ?_
        refine lv_aload_n hx hb dX13_sum_38 rfl (lv_at hl 2 rfl) ?_
        refine lv_aload_n hx hb dX13_sum_39 rfl (lv_at hl 2 rfl) ?_
        refine va_get (D := D) (ci := 10) (v := .ref (a 12)) (C := RX13) (T := TX13) (N := 45) hx hb hts in_X13_sum_X13 hown hE.1 hP 0 rfl rfl 12 (by decide +kernel) (hts (.fieldLink RX13 41 "ClauseBookModel" "bag" "[I") (List.mem_of_getElem? (i := 2) rfl)) (fun _ h9 => h9) rfl dX13_sum_40 ?_
        refine lv_bipush (v := 12) hx hb dX13_sum_43 (by decide +kernel) ?_
        refine lv_iload_n hx hb dX13_sum_45 rfl (lv_at hl 3 rfl) ?_
        refine lv_imul hx hb dX13_sum_46 ?_
        refine lv_iload_n hx hb dX13_sum_47 rfl (lv_at hl 0 rfl) ?_
        refine lv_iadd hx hb dX13_sum_48 ?_
        refine va_iald hx hb hE.1 hP 5 0 rfl rfl (by rw [vp_in_iff]; first | omega | (rw [fb_addI (by omega) (by omega)]; omega)) dX13_sum_49 ?_
        refine lv_topi (fun z_22 ez_22 => ?_)
        refine vp_callSi (W.runV (As := [.int z_22]) (rest := [.int ar]) ⟨hx, hb, hml, hown, hts⟩ (c_X13_isClause l D T h0 [.int (q 0), .int (q 1), .int (q 2), .int (q 3), .int (q 4), .int (q 5), .int (q 6), .int (q 7), .ref (a 8), .ref (a 9), .ref (a 10), .ref (a 11), .ref (a 12), .ref (a 13), .int (q 14), .long v, .long w, .ref (a 17), .ref (a 18), .ref (a 19), .ref (a 20), .ref (a 21), .ref (a 22), .ref (a 23), .int (q 24), .ref (a 25), .int (q 26), .ref (a 27), .int (q 28), .int (q 29), .int (q 30), .int (q 31), .int (q 32), .int (q 33), .ref (a 34), .ref (a 35), .ref (a 36), .ref (a 37), .ref (a 38), .ref (a 39), .ref (a 40), .int (q 41), .ref (a 42), .int (q 43), .int (q 44)] z_22 (q 7) rfl (by omega)) (cwV 1 hts gX13_sum_X13_isClause rfl rfl rfl hv_X13_isClause ⟨Nat.le_of_ble_eq_true rfl, Nat.le_of_ble_eq_true rfl⟩) (pR_V (q := (RX13, TX13, 45)) (ci := 10) (q0 := 0) hP hE rfl rfl [0] rfl) rfl rfl hl.1 rfl (lv_room (Nat.le_of_ble_eq_true rfl)) dX13_sum_50 ⟨Nat.le_of_ble_eq_true rfl, Nat.le_of_ble_eq_true rfl⟩) (fun r_23 hr_23 => ?_)
        rcases bool_post hr_23 with ⟨c_24, rfl⟩ | ⟨c_24, rfl⟩
        · refine lv_iand hx hb dX13_sum_53 ?_
          refine lv_topi (fun z_25 ez_25 => ?_)
          have hzz_25 : z_25 = ar := by rw [ez_25]; exact isB.and1 hBa
          refine lv_istore_n (lv' := [(2, .int z_25), (3, .int ii), (0, .ref h0), (1, .int x1)]) hx hb dX13_sum_54 rfl hl (by decide +kernel) rfl (fun ls hl => ?_)
          obtain ⟨z_26, ez_26⟩ : ∃ y : Int32, y = ii + 1 := ⟨_, rfl⟩
          refine lv_iinc (v := z_26) (lv' := [(3, .int z_26), (2, .int z_25), (0, .ref h0), (1, .int x1)]) hx hb dX13_sum_55 hl (k := 1) rfl (by rw [ez_26]; rfl) (by decide +kernel) rfl (fun ls hl => ?_)
          have hi9 : z_26.toInt = ii.toInt + 1 := by rw [ez_26]; exact inc1 (n := 1000) (by omega) (by decide +kernel)
          refine lv_goto (tgt := 27) hx hb dX13_sum_58 (by decide +kernel) ?_
          exact ih (z_26, z_25) ls ⟨lv_sub hl [0, 1, 2, 3] rfl, ⟨(by subst_vars; (try dsimp only); rw [inc1 (i := ii) (n := 1000) (by omega) (by decide +kernel)]; omega), (by (try dsimp only); rw [hzz_25]; exact hBa), (by (try dsimp only); rw [hzz_25]; exact hnz), (by (try dsimp only); rw [hzz_25]; exact fun h9 => ⟨(hal h9).1, sum_stepR (z := z_22) (hal h9).2 hi9 (by omega) (by rw [ez_22]; exact congrArg f12 (ix_nat (n := 0) (m := 0) (z := 0) (by omega) (by omega))) (by omega)⟩)⟩⟩ (by subst_vars; (try dsimp only); rw [inc1 (i := ii) (n := 1000) (by omega) (by decide +kernel)]; omega)
        · refine lv_iand hx hb dX13_sum_53 ?_
          refine lv_topi (fun z_27 ez_27 => ?_)
          have hzz_27 : z_27 = 0 := by rw [ez_27]; exact and_0 hBa
          refine lv_istore_n (lv' := [(2, .int z_27), (3, .int ii), (0, .ref h0), (1, .int x1)]) hx hb dX13_sum_54 rfl hl (by decide +kernel) rfl (fun ls hl => ?_)
          obtain ⟨z_28, ez_28⟩ : ∃ y : Int32, y = ii + 1 := ⟨_, rfl⟩
          refine lv_iinc (v := z_28) (lv' := [(3, .int z_28), (2, .int z_27), (0, .ref h0), (1, .int x1)]) hx hb dX13_sum_55 hl (k := 1) rfl (by rw [ez_28]; rfl) (by decide +kernel) rfl (fun ls hl => ?_)
          have hi9 : z_28.toInt = ii.toInt + 1 := by rw [ez_28]; exact inc1 (n := 1000) (by omega) (by decide +kernel)
          refine lv_goto (tgt := 27) hx hb dX13_sum_58 (by decide +kernel) ?_
          exact ih (z_28, z_27) ls ⟨lv_sub hl [0, 1, 2, 3] rfl, ⟨(by subst_vars; (try dsimp only); rw [inc1 (i := ii) (n := 1000) (by omega) (by decide +kernel)]; omega), (by (try dsimp only); rw [hzz_27]; exact isB0), (fun _ h8 => by
                                                            have h7 := h8.2 ii.toNatClampNeg (by have h6 := tn (x := ii) (by omega); omega)
                                                            have h7 : 0 ≤ (f12 (12 * x1.toNatClampNeg + ii.toNatClampNeg)).toInt ∧ (f12 (12 * x1.toNatClampNeg + ii.toNatClampNeg)).toInt < (q 7).toInt := h7
                                                            rw [← ix12 (b := x1) (z := ii) (by omega) (by omega), ← ez_22] at h7
                                                            omega), (by (try dsimp only); rw [hzz_27]; exact fun h9 => absurd (by decide +kernel) h9)⟩⟩ (by subst_vars; (try dsimp only); rw [inc1 (i := ii) (n := 1000) (by omega) (by decide +kernel)]; omega)
    · rw [fa_le] at c_4
      try rw [ti_0] at c_4
      refine lv_iconst (v := 1) hx hb dX13_sum_19 (by decide +kernel) ?_
      refine lv_goto (tgt := 24) hx hb dX13_sum_20 (by decide +kernel) ?_
      refine lv_istore_n (lv' := [(2, .int 1), (0, .ref h0), (1, .int x1)]) hx hb dX13_sum_24 rfl hl (by decide +kernel) rfl (fun ls hl => ?_)
      refine lv_iconst (v := 0) hx hb dX13_sum_25 (by decide +kernel) ?_
      refine lv_istore_n (lv' := [(3, .int 0), (2, .int 1), (0, .ref h0), (1, .int x1)]) hx hb dX13_sum_26 rfl hl (by decide +kernel) rfl (fun ls hl => ?_)
      refine loopR (σ := (Int32) × (Int32)) (fun x9 ls => lv_has ls 5 [(3, .int x9.1), (2, .int x9.2), (0, .ref h0), (1, .int x1)] ∧ ((0 ≤ x9.1.toInt ∧ x9.1.toInt ≤ 12 ∧ x9.1.toInt ≤ (f13 (x1.toNatClampNeg)).toInt) ∧ isB x9.2 ∧ (x9.2.toInt = 0 → ¬ sumN (q 7) (f13 x1.toNatClampNeg) (fun i => f12 (12 * x1.toNatClampNeg + i))) ∧ (x9.2.toInt ≠ 0 → 1 ≤ (f13 (x1.toNatClampNeg)).toInt ∧ ∀ j : Nat, (j : Int) < x9.1.toInt → 0 ≤ (f12 ((12 * x1).toNatClampNeg + j)).toInt ∧ (f12 ((12 * x1).toNatClampNeg + j)).toInt < (q 7).toInt))) (fun x9 => (12 - x9.1.toInt).toNat) (fun x9 ls hI ih => ?_) (0, 1) ls ⟨lv_sub hl [0, 1, 2, 3] rfl, ⟨(by (try dsimp only); simp only [ti_0]; omega), isB1, (fun h9 h8 => by first | exact absurd h9 (by (try dsimp only); decide) | (have h7 : 1 ≤ (f13 (x1.toNatClampNeg)).toInt := h8.1; omega)), (fun h9 => ⟨(by first | omega | exact absurd h9 (by (try dsimp only); decide)), fun j hj => absurd hj (by (try dsimp only); rw [ti_0]; omega)⟩)⟩⟩
      obtain ⟨ii, ar⟩ := x9
      obtain ⟨hl, hinv⟩ := hI
      have hl : lv_has ls 5 [(3, .int ii), (2, .int ar), (0, .ref h0), (1, .int x1)] := hl
      have hinv : (0 ≤ ii.toInt ∧ ii.toInt ≤ 12 ∧ ii.toInt ≤ (f13 (x1.toNatClampNeg)).toInt) ∧ isB ar ∧ (ar.toInt = 0 → ¬ sumN (q 7) (f13 x1.toNatClampNeg) (fun i => f12 (12 * x1.toNatClampNeg + i))) ∧ (ar.toInt ≠ 0 → 1 ≤ (f13 (x1.toNatClampNeg)).toInt ∧ ∀ j : Nat, (j : Int) < ii.toInt → 0 ≤ (f12 ((12 * x1).toNatClampNeg + j)).toInt ∧ (f12 ((12 * x1).toNatClampNeg + j)).toInt < (q 7).toInt) := hinv
      obtain ⟨hii, hBa, hnz, hal⟩ := hinv
      have h12x1 : (12 * x1).toInt = 12 * x1.toInt := by rw [fb_mulI (by rw [ti_12]; omega) (by rw [ti_12]; omega), ti_12]
      refine lv_iload_n hx hb dX13_sum_27 rfl (lv_at hl 0 rfl) ?_
      refine lv_aload_n hx hb dX13_sum_28 rfl (lv_at hl 2 rfl) ?_
      refine va_get (D := D) (ci := 10) (v := .ref (a 13)) (C := RX13) (T := TX13) (N := 45) hx hb hts in_X13_sum_X13 hown hE.1 hP 0 rfl rfl 13 (by decide +kernel) (hts (.fieldLink RX13 44 "ClauseBookModel" "bagged" "[I") (List.mem_of_getElem? (i := 1) rfl)) (fun _ h9 => h9) rfl dX13_sum_29 ?_
      refine lv_iload_n hx hb dX13_sum_32 rfl (lv_at hl 3 rfl) ?_
      refine va_iald hx hb hE.1 hP 6 0 rfl rfl (by rw [vp_in_iff]; first | omega | (rw [fb_addI (by omega) (by omega)]; omega)) dX13_sum_33 ?_
      refine lv_topi (fun z_29 ez_29 => ?_)
      have hbz_29 : 0 ≤ z_29.toInt ∧ z_29.toInt ≤ 12 := by rw [ez_29]; exact hbg _ (tn3 (by omega) (by omega))
      have htz_29 : z_29.toInt = (f13 (x1.toNatClampNeg)).toInt := by rw [ez_29]
      refine lv_icmp_ge (tgt := 61) hx hb dX13_sum_34 (by decide +kernel) (fun c_30 => ?_) (fun c_30 => ?_)
      · rw [fa_le] at c_30
        refine lv_iload_n hx hb dX13_sum_61 rfl (lv_at hl 1 rfl) ?_
        refine lv_if_ne (tgt := 67) hx hb dX13_sum_62 (by decide +kernel) (fun c_31 => ?_) (fun c_31 => ?_)
        · rw [fa_eq] at c_31
          try rw [ti_0] at c_31
          have hal := hal (by omega)
          have hsN : sumN (q 7) (f13 x1.toNatClampNeg) (fun i => f12 (12 * x1.toNatClampNeg + i)) := ⟨hal.1, (fun j hj => by
              have h8 := hal.2 j (by omega)
              have h7 := tn (x := (12 * x1)) (by omega)
              have h6 := tn (x := x1) (by omega)
              rw [show (12 * x1).toNatClampNeg = 12 * x1.toNatClampNeg by omega] at h8
              exact h8)⟩
          refine lv_aload_n hx hb dX13_sum_67 rfl (lv_at hl 2 rfl) ?_
          refine va_get (D := D) (ci := 10) (v := .int (q 7)) (C := RX13) (T := TX13) (N := 45) hx hb hts in_X13_sum_X13 hown hE.1 hP 0 rfl rfl 7 (by decide +kernel) (hts (.fieldLink RX13 205 "ClauseBookModel" "many" "I") (List.mem_of_getElem? (i := 3) rfl)) (fun _ h9 => h9) rfl dX13_sum_68 ?_
          refine lv_aload_n hx hb dX13_sum_71 rfl (lv_at hl 2 rfl) ?_
          refine va_get (D := D) (ci := 10) (v := .ref (a 13)) (C := RX13) (T := TX13) (N := 45) hx hb hts in_X13_sum_X13 hown hE.1 hP 0 rfl rfl 13 (by decide +kernel) (hts (.fieldLink RX13 44 "ClauseBookModel" "bagged" "[I") (List.mem_of_getElem? (i := 1) rfl)) (fun _ h9 => h9) rfl dX13_sum_72 ?_
          refine lv_iload_n hx hb dX13_sum_75 rfl (lv_at hl 3 rfl) ?_
          refine va_iald hx hb hE.1 hP 6 0 rfl rfl (by rw [vp_in_iff]; first | omega | (rw [fb_addI (by omega) (by omega)]; omega)) dX13_sum_76 ?_
          refine lv_topi (fun z_32 ez_32 => ?_)
          have hbz_32 : 0 ≤ z_32.toInt ∧ z_32.toInt ≤ 12 := by rw [ez_32]; exact hbg _ (tn3 (by omega) (by omega))
          have htz_32 : z_32.toInt = (f13 (x1.toNatClampNeg)).toInt := by rw [ez_32]
          refine lv_iadd hx hb dX13_sum_77 ?_
          refine lv_iconst (v := 1) hx hb dX13_sum_78 (by decide +kernel) ?_
          refine lv_isub hx hb dX13_sum_79 ?_
          have hs9 : ((q 7) + z_32).toInt = (q 7).toInt + z_32.toInt := fb_addI (by omega) (by omega)
          have hs8 := dec1 (i := (q 7) + z_32) (by omega)
          refine lv_bipush (v := 24) hx hb dX13_sum_80 (by decide +kernel) ?_
          refine lv_icmp_le (tgt := 88) hx hb dX13_sum_82 (by decide +kernel) (fun c_33 => ?_) (fun c_33 => ?_)
          · rw [fa_le] at c_33
            try rw [ti_24] at c_33
            have h12x1 : (12 * x1).toInt = 12 * x1.toInt := by rw [fb_mulI (by rw [ti_12]; omega) (by rw [ti_12]; omega), ti_12]
            refine lv_aload_n hx hb dX13_sum_88 rfl (lv_at hl 2 rfl) ?_
            refine va_get (D := D) (ci := 10) (v := .ref (a 12)) (C := RX13) (T := TX13) (N := 45) hx hb hts in_X13_sum_X13 hown hE.1 hP 0 rfl rfl 12 (by decide +kernel) (hts (.fieldLink RX13 41 "ClauseBookModel" "bag" "[I") (List.mem_of_getElem? (i := 2) rfl)) (fun _ h9 => h9) rfl dX13_sum_89 ?_
            refine lv_bipush (v := 12) hx hb dX13_sum_92 (by decide +kernel) ?_
            refine lv_iload_n hx hb dX13_sum_94 rfl (lv_at hl 3 rfl) ?_
            refine lv_imul hx hb dX13_sum_95 ?_
            refine va_iald hx hb hE.1 hP 5 0 rfl rfl (by rw [vp_in_iff]; first | omega | (rw [fb_addI (by omega) (by omega)]; omega)) dX13_sum_96 ?_
            refine lv_topi (fun z_34 ez_34 => ?_)
            have hxz_34 : 0 ≤ z_34.toInt ∧ z_34.toInt < (q 7).toInt := by rw [ez_34]; exact hal.2 0 (by omega)
            refine lv_istore_n (lv' := [(3, .int z_34), (2, .int ar), (0, .ref h0), (1, .int x1)]) hx hb dX13_sum_97 rfl hl (by decide +kernel) rfl (fun ls hl => ?_)
            refine lv_iconst (v := 1) hx hb dX13_sum_98 (by decide +kernel) ?_
            refine lv_istore (lv' := [(4, .int 1), (3, .int z_34), (2, .int ar), (0, .ref h0), (1, .int x1)]) hx hb dX13_sum_99 hl (by decide +kernel) rfl (fun ls hl => ?_)
            refine loopW (σ := (Int32) × (Int32) × (Int32) × (Nat → Int32) × (Nat → Int32) × (Nat → Int32) × (Nat → Int32)) (fun x9 ls H locs => lv_has ls 5 [(4, .int x9.1), (3, .int x9.2.1), (0, .ref h0), (1, .int x1)] ∧ va_P D vwCl [(h0, .inr (10, (Value.int (q 0) :: Value.int (q 1) :: Value.int (q 2) :: Value.int (q 3) :: Value.int (q 4) :: Value.int (q 5) :: Value.int (q 6) :: Value.int x9.2.2.1 :: Value.ref (a 8) :: Value.ref (a 9) :: Value.ref (a 10) :: Value.ref (a 11) :: Value.ref (a 12) :: Value.ref (a 13) :: Value.int (q 14) :: Value.long v :: Value.long w :: Value.ref (a 17) :: Value.ref (a 18) :: Value.ref (a 19) :: Value.ref (a 20) :: Value.ref (a 21) :: Value.ref (a 22) :: Value.ref (a 23) :: Value.int (q 24) :: Value.ref (a 25) :: Value.int (q 26) :: Value.ref (a 27) :: Value.int (q 28) :: Value.int (q 29) :: Value.int (q 30) :: Value.int (q 31) :: Value.int (q 32) :: Value.int (q 33) :: Value.ref (a 34) :: Value.ref (a 35) :: Value.ref (a 36) :: Value.ref (a 37) :: Value.ref (a 38) :: Value.ref (a 39) :: Value.ref (a 40) :: Value.int (q 41) :: Value.ref (a 42) :: Value.int (q 43) :: Value.int (q 44) :: []))), ((a 8), .inl (T 0, 24, .inl x9.2.2.2.1)), ((a 9), .inl (T 0, 24, .inl x9.2.2.2.2.1)), ((a 10), .inl (T 0, 24, .inl x9.2.2.2.2.2.1)), ((a 11), .inl (T 0, 24, .inl x9.2.2.2.2.2.2)), ((a 12), .inl (T 0, 36, .inl f12)), ((a 13), .inl (T 0, 3, .inl f13))] H ∧ va_D A [(h0, .inr (10, (Value.int (q 0) :: Value.int (q 1) :: Value.int (q 2) :: Value.int (q 3) :: Value.int (q 4) :: Value.int (q 5) :: Value.int (q 6) :: Value.int x9.2.2.1 :: Value.ref (a 8) :: Value.ref (a 9) :: Value.ref (a 10) :: Value.ref (a 11) :: Value.ref (a 12) :: Value.ref (a 13) :: Value.int (q 14) :: Value.long v :: Value.long w :: Value.ref (a 17) :: Value.ref (a 18) :: Value.ref (a 19) :: Value.ref (a 20) :: Value.ref (a 21) :: Value.ref (a 22) :: Value.ref (a 23) :: Value.int (q 24) :: Value.ref (a 25) :: Value.int (q 26) :: Value.ref (a 27) :: Value.int (q 28) :: Value.int (q 29) :: Value.int (q 30) :: Value.int (q 31) :: Value.int (q 32) :: Value.int (q 33) :: Value.ref (a 34) :: Value.ref (a 35) :: Value.ref (a 36) :: Value.ref (a 37) :: Value.ref (a 38) :: Value.ref (a 39) :: Value.ref (a 40) :: Value.int (q 41) :: Value.ref (a 42) :: Value.int (q 43) :: Value.int (q 44) :: []))), ((a 8), .inl (T 0, 24, .inl x9.2.2.2.1)), ((a 9), .inl (T 0, 24, .inl x9.2.2.2.2.1)), ((a 10), .inl (T 0, 24, .inl x9.2.2.2.2.2.1)), ((a 11), .inl (T 0, 24, .inl x9.2.2.2.2.2.2)), ((a 12), .inl (T 0, 36, .inl f12)), ((a 13), .inl (T 0, 3, .inl f13))] ∧ va_S A s.heap H locs ∧ (((1 ≤ x9.1.toInt ∧ x9.1.toInt ≤ (f13 (x1.toNatClampNeg)).toInt) ∧ x9.2.2.1.toInt = (q 7).toInt + x9.1.toInt - 1 ∧ 0 ≤ x9.2.1.toInt ∧ x9.2.1.toInt < x9.2.2.1.toInt) ∧ okR x9.2.2.2.1 x9.2.2.2.2.2.1 x9.2.2.2.2.2.2 ∧ x9.2.1 = (sumF (fun i => f12 (12 * x1.toNatClampNeg + i)) (rfA (q 7) f8 f9 f10 f11) (x9.1.toNatClampNeg - 1)).1 ∧ rfA x9.2.2.1 x9.2.2.2.1 x9.2.2.2.2.1 x9.2.2.2.2.2.1 x9.2.2.2.2.2.2 = (sumF (fun i => f12 (12 * x1.toNatClampNeg + i)) (rfA (q 7) f8 f9 f10 f11) (x9.1.toNatClampNeg - 1)).2)) (fun x9 => (12 - x9.1.toInt).toNat) (fun x9 ls H locs hI ih => ?_) (1, z_34, (q 7), f8, f9, f10, f11) ls ⟨lv_sub hl [0, 1, 3, 4] rfl, hP.sub [0, 1, 2, 3, 4, 5, 6] rfl, hD.sub [0, 1, 2, 3, 4, 5, 6] (by decide +kernel) rfl, hS, ⟨(by (try dsimp only); rw [ti_1]; omega), hokR, (by (try dsimp only); rw [tn1']; show z_34 = f12 (12 * x1.toNatClampNeg + 0); rw [ez_34]; congr 1; have h8 := tn (x := (12 * x1)) (by omega); have h7 := tn (x := x1) (by omega); omega), (by (try dsimp only); rw [tn1']; rfl)⟩⟩
            obtain ⟨kk, xx, nn, g8, g9, g10, g11⟩ := x9
            obtain ⟨hl, hP, hD, hS, hinv⟩ := hI
            have hl : lv_has ls 5 [(4, .int kk), (3, .int xx), (0, .ref h0), (1, .int x1)] := hl
            have hP : va_P D vwCl [(h0, .inr (10, (Value.int (q 0) :: Value.int (q 1) :: Value.int (q 2) :: Value.int (q 3) :: Value.int (q 4) :: Value.int (q 5) :: Value.int (q 6) :: Value.int nn :: Value.ref (a 8) :: Value.ref (a 9) :: Value.ref (a 10) :: Value.ref (a 11) :: Value.ref (a 12) :: Value.ref (a 13) :: Value.int (q 14) :: Value.long v :: Value.long w :: Value.ref (a 17) :: Value.ref (a 18) :: Value.ref (a 19) :: Value.ref (a 20) :: Value.ref (a 21) :: Value.ref (a 22) :: Value.ref (a 23) :: Value.int (q 24) :: Value.ref (a 25) :: Value.int (q 26) :: Value.ref (a 27) :: Value.int (q 28) :: Value.int (q 29) :: Value.int (q 30) :: Value.int (q 31) :: Value.int (q 32) :: Value.int (q 33) :: Value.ref (a 34) :: Value.ref (a 35) :: Value.ref (a 36) :: Value.ref (a 37) :: Value.ref (a 38) :: Value.ref (a 39) :: Value.ref (a 40) :: Value.int (q 41) :: Value.ref (a 42) :: Value.int (q 43) :: Value.int (q 44) :: []))), ((a 8), .inl (T 0, 24, .inl g8)), ((a 9), .inl (T 0, 24, .inl g9)), ((a 10), .inl (T 0, 24, .inl g10)), ((a 11), .inl (T 0, 24, .inl g11)), ((a 12), .inl (T 0, 36, .inl f12)), ((a 13), .inl (T 0, 3, .inl f13))] H := hP
            have hD : va_D A [(h0, .inr (10, (Value.int (q 0) :: Value.int (q 1) :: Value.int (q 2) :: Value.int (q 3) :: Value.int (q 4) :: Value.int (q 5) :: Value.int (q 6) :: Value.int nn :: Value.ref (a 8) :: Value.ref (a 9) :: Value.ref (a 10) :: Value.ref (a 11) :: Value.ref (a 12) :: Value.ref (a 13) :: Value.int (q 14) :: Value.long v :: Value.long w :: Value.ref (a 17) :: Value.ref (a 18) :: Value.ref (a 19) :: Value.ref (a 20) :: Value.ref (a 21) :: Value.ref (a 22) :: Value.ref (a 23) :: Value.int (q 24) :: Value.ref (a 25) :: Value.int (q 26) :: Value.ref (a 27) :: Value.int (q 28) :: Value.int (q 29) :: Value.int (q 30) :: Value.int (q 31) :: Value.int (q 32) :: Value.int (q 33) :: Value.ref (a 34) :: Value.ref (a 35) :: Value.ref (a 36) :: Value.ref (a 37) :: Value.ref (a 38) :: Value.ref (a 39) :: Value.ref (a 40) :: Value.int (q 41) :: Value.ref (a 42) :: Value.int (q 43) :: Value.int (q 44) :: []))), ((a 8), .inl (T 0, 24, .inl g8)), ((a 9), .inl (T 0, 24, .inl g9)), ((a 10), .inl (T 0, 24, .inl g10)), ((a 11), .inl (T 0, 24, .inl g11)), ((a 12), .inl (T 0, 36, .inl f12)), ((a 13), .inl (T 0, 3, .inl f13))] := hD
            have hinv : ((1 ≤ kk.toInt ∧ kk.toInt ≤ (f13 (x1.toNatClampNeg)).toInt) ∧ nn.toInt = (q 7).toInt + kk.toInt - 1 ∧ 0 ≤ xx.toInt ∧ xx.toInt < nn.toInt) ∧ okR g8 g10 g11 ∧ xx = (sumF (fun i => f12 (12 * x1.toNatClampNeg + i)) (rfA (q 7) f8 f9 f10 f11) (kk.toNatClampNeg - 1)).1 ∧ rfA nn g8 g9 g10 g11 = (sumF (fun i => f12 (12 * x1.toNatClampNeg + i)) (rfA (q 7) f8 f9 f10 f11) (kk.toNatClampNeg - 1)).2 := hinv
            obtain ⟨hkk, hokR, hsx, hsA⟩ := hinv
            refine lv_iload hx hb dX13_sum_101 (lv_at hl 0 rfl) ?_
            refine lv_aload_n hx hb dX13_sum_103 rfl (lv_at hl 2 rfl) ?_
            refine va_get (D := D) (ci := 10) (v := .ref (a 13)) (C := RX13) (T := TX13) (N := 45) hx hb hts in_X13_sum_X13 hown hE.1 hP 0 rfl rfl 13 (by decide +kernel) (hts (.fieldLink RX13 44 "ClauseBookModel" "bagged" "[I") (List.mem_of_getElem? (i := 1) rfl)) (fun _ h9 => h9) rfl dX13_sum_104 ?_
            refine lv_iload_n hx hb dX13_sum_107 rfl (lv_at hl 3 rfl) ?_
            refine va_iald hx hb hE.1 hP 6 0 rfl rfl (by rw [vp_in_iff]; first | omega | (rw [fb_addI (by omega) (by omega)]; omega)) dX13_sum_108 ?_
            refine lv_topi (fun z_35 ez_35 => ?_)
            have hbz_35 : 0 ≤ z_35.toInt ∧ z_35.toInt ≤ 12 := by rw [ez_35]; exact hbg _ (tn3 (by omega) (by omega))
            have htz_35 : z_35.toInt = (f13 (x1.toNatClampNeg)).toInt := by rw [ez_35]
            refine lv_icmp_ge (tgt := 138) hx hb dX13_sum_109 (by decide +kernel) (fun c_36 => ?_) (fun c_36 => ?_)
            · rw [fa_le] at c_36
              have hkb : kk.toNatClampNeg = (f13 x1.toNatClampNeg).toNatClampNeg := congrArg Int32.toNatClampNeg (Int32.toInt_inj.1 (by omega))
              refine lv_iload_n hx hb dX13_sum_138 rfl (lv_at hl 1 rfl) ?_
              exact W.iret hx hb hr (fun t ht hW => ⟨⟨_, (nn, g8, g9, g10, g11), rfl, ⟨(show okR g8 g10 g11 from hokR), (show 0 ≤ nn.toInt ∧ nn.toInt ≤ 24 from (by first | omega | (subst_vars; omega))), (show sumR (q 7) xx nn (f13 x1.toNatClampNeg) (fun i => f12 (12 * x1.toNatClampNeg + i)) f8 f9 f10 f11 g8 g9 g10 g11 (¬ (0 ≤ x1.toInt ∧ x1.toInt ≤ 2)) from (Or.inr (Or.inr (Or.inr ⟨(fun h9 => h9 (by omega)), hsN, (by omega), (by rw [hkb] at hsx; exact hsx), (by rw [hkb] at hsA; exact hsA)⟩))))⟩, by rw [ht]; exact hP.sub [0, 1, 2, 3, 4, 5, 6] rfl, hD.sub [0, 1, 2, 3, 4, 5, 6] (by decide +kernel) rfl⟩, hS.F ht⟩) hS.2.2 dX13_sum_139
            · rw [fa_le] at c_36
              refine lv_aload_n hx hb dX13_sum_112 rfl (lv_at hl 2 rfl) ?_
              refine lv_iconst (v := 5) hx hb dX13_sum_113 (by decide +kernel) ?_
              refine lv_iconst (v := 0) hx hb dX13_sum_114 (by decide +kernel) ?_
              refine lv_iload_n hx hb dX13_sum_115 rfl (lv_at hl 1 rfl) ?_
              refine lv_aload_n hx hb dX13_sum_116 rfl (lv_at hl 2 rfl) ?_
              refine va_get (D := D) (ci := 10) (v := .ref (a 12)) (C := RX13) (T := TX13) (N := 45) hx hb hts in_X13_sum_X13 hown hE.1 hP 0 rfl rfl 12 (by decide +kernel) (hts (.fieldLink RX13 41 "ClauseBookModel" "bag" "[I") (List.mem_of_getElem? (i := 2) rfl)) (fun _ h9 => h9) rfl dX13_sum_117 ?_
              refine lv_bipush (v := 12) hx hb dX13_sum_120 (by decide +kernel) ?_
              refine lv_iload_n hx hb dX13_sum_122 rfl (lv_at hl 3 rfl) ?_
              refine lv_imul hx hb dX13_sum_123 ?_
              refine lv_iload hx hb dX13_sum_124 (lv_at hl 0 rfl) ?_
              refine lv_iadd hx hb dX13_sum_126 ?_
              refine va_iald hx hb hE.1 hP 5 0 rfl rfl (by rw [vp_in_iff]; first | omega | (rw [fb_addI (by omega) (by omega)]; omega)) dX13_sum_127 ?_
              refine lv_topi (fun z_37 ez_37 => ?_)
              have hyz_37 : 0 ≤ z_37.toInt ∧ z_37.toInt < (q 7).toInt := by
                have h8 := tn (x := kk) (by omega)
                rw [ez_37, ix_nat (n := 0) (m := 0) (z := 0) (by omega) (by omega)]
                exact hal.2 _ (by omega)
              have hyg : z_37 = (fun i => f12 (12 * x1.toNatClampNeg + i)) kk.toNatClampNeg := by show z_37 = f12 (12 * x1.toNatClampNeg + kk.toNatClampNeg); rw [ez_37, ix12 (by omega) (by omega)]
              have hFc := va_free (wc := [(h0, .inr (10, (Value.int (q 0) :: Value.int (q 1) :: Value.int (q 2) :: Value.int (q 3) :: Value.int (q 4) :: Value.int (q 5) :: Value.int (q 6) :: Value.int nn :: Value.ref (a 8) :: Value.ref (a 9) :: Value.ref (a 10) :: Value.ref (a 11) :: Value.ref (a 12) :: Value.ref (a 13) :: Value.int (q 14) :: Value.long v :: Value.long w :: Value.ref (a 17) :: Value.ref (a 18) :: Value.ref (a 19) :: Value.ref (a 20) :: Value.ref (a 21) :: Value.ref (a 22) :: Value.ref (a 23) :: Value.int (q 24) :: Value.ref (a 25) :: Value.int (q 26) :: Value.ref (a 27) :: Value.int (q 28) :: Value.int (q 29) :: Value.int (q 30) :: Value.int (q 31) :: Value.int (q 32) :: Value.int (q 33) :: Value.ref (a 34) :: Value.ref (a 35) :: Value.ref (a 36) :: Value.ref (a 37) :: Value.ref (a 38) :: Value.ref (a 39) :: Value.ref (a 40) :: Value.int (q 41) :: Value.ref (a 42) :: Value.int (q 43) :: Value.int (q 44) :: []))), ((a 8), .inl (T 0, 24, .inl g8)), ((a 9), .inl (T 0, 24, .inl g9)), ((a 10), .inl (T 0, 24, .inl g10)), ((a 11), .inl (T 0, 24, .inl g11))]) hD hS hA [0, 1, 2, 3, 4] rfl
              refine va_calli (va_runV (As := [.int 5, .int 0, .int xx, .int z_37]) (rest := []) ⟨hx, hb, hml, hown, hts⟩ (c_X13_comes l D T _ h0 (fun k => cond (Nat.beq k 7) nn (q k)) v w a g8 g9 g10 g11 5 0 xx z_37 (show 0 ≤ nn.toInt ∧ nn.toInt < 24 from (by omega)) (show okR g8 g10 g11 from hokR) (show 0 ≤ (5 : Int32).toInt ∧ (5 : Int32).toInt ≤ 12 from (by decide +kernel)) (show 1 ≤ (nmT ((5 : Int32).toNatClampNeg)).toInt → 0 ≤ xx.toInt ∧ xx.toInt < nn.toInt from (fun _ => by omega)) (show (nmT ((5 : Int32).toNatClampNeg)).toInt = 2 → 0 ≤ z_37.toInt ∧ z_37.toInt < nn.toInt from (fun _ => by omega))) (cwV 4 hts gX13_sum_X13_comes rfl rfl rfl hv_X13_comes ⟨Nat.le_of_ble_eq_true rfl, Nat.le_of_ble_eq_true rfl⟩) (pW_V (q := (RX13, TX13, 45)) (ci := 10) (q0 := 0) hP hE hD rfl rfl [0, 1, 2, 3, 4] (by decide +kernel) rfl rfl) rfl rfl hl.1 rfl (lv_room (Nat.le_of_ble_eq_true rfl)) dX13_sum_128 ⟨Nat.le_of_ble_eq_true rfl, Nat.le_of_ble_eq_true rfl⟩) hS (fun q _ h => hFc q h) hFc (fun r_38 u_39 t H1 locs ht hvm hr_38 hB hz1 hk1 hS => ?_)
              obtain ⟨n_40, f_41, f_42, f_43, f_44⟩ := u_39
              obtain ⟨hi0_r_38, hi1_r_38, hi2_r_38⟩ := hr_38
              have hokR : okR f_41 f_43 f_44 := hi0_r_38
              have hcr : r_38.toInt = nn.toInt ∧ n_40.toInt = nn.toInt + 1 := hi1_r_38
              have hcm : f_41 = upd g8 (nn.toNatClampNeg) (5 : Int32) ∧ f_42 = upd g9 (nn.toNatClampNeg) (0 : Int32) ∧ f_43 = upd g10 (nn.toNatClampNeg) xx ∧ f_44 = upd g11 (nn.toNatClampNeg) z_37 := hi2_r_38
              obtain ⟨hP1, hD1⟩ := hB
              rw [ht] at hP1
              obtain ⟨hP, hD⟩ := va_repl [(h0, .inr (10, (Value.int (q 0) :: Value.int (q 1) :: Value.int (q 2) :: Value.int (q 3) :: Value.int (q 4) :: Value.int (q 5) :: Value.int (q 6) :: Value.int n_40 :: Value.ref (a 8) :: Value.ref (a 9) :: Value.ref (a 10) :: Value.ref (a 11) :: Value.ref (a 12) :: Value.ref (a 13) :: Value.int (q 14) :: Value.long v :: Value.long w :: Value.ref (a 17) :: Value.ref (a 18) :: Value.ref (a 19) :: Value.ref (a 20) :: Value.ref (a 21) :: Value.ref (a 22) :: Value.ref (a 23) :: Value.int (q 24) :: Value.ref (a 25) :: Value.int (q 26) :: Value.ref (a 27) :: Value.int (q 28) :: Value.int (q 29) :: Value.int (q 30) :: Value.int (q 31) :: Value.int (q 32) :: Value.int (q 33) :: Value.ref (a 34) :: Value.ref (a 35) :: Value.ref (a 36) :: Value.ref (a 37) :: Value.ref (a 38) :: Value.ref (a 39) :: Value.ref (a 40) :: Value.int (q 41) :: Value.ref (a 42) :: Value.int (q 43) :: Value.int (q 44) :: []))), ((a 8), .inl (T 0, 24, .inl f_41)), ((a 9), .inl (T 0, 24, .inl f_42)), ((a 10), .inl (T 0, 24, .inl f_43)), ((a 11), .inl (T 0, 24, .inl f_44)), ((a 12), .inl (T 0, 36, .inl f12)), ((a 13), .inl (T 0, 3, .inl f13))] hP hD [0, 1, 2, 3, 4] [0, 1, 2, 3, 4] rfl (by decide +kernel) rfl rfl rfl hk1 hP1
              clear hP1 hD1 hFc
              generalize H1 = H at hP hS ⊢
              refine lv_istore_n (lv' := [(3, .int r_38), (4, .int kk), (0, .ref h0), (1, .int x1)]) hx hb dX13_sum_131 rfl hl (by decide +kernel) rfl (fun ls hl => ?_)
              obtain ⟨z_45, ez_45⟩ : ∃ y : Int32, y = kk + 1 := ⟨_, rfl⟩
              refine lv_iinc (v := z_45) (lv' := [(4, .int z_45), (3, .int r_38), (0, .ref h0), (1, .int x1)]) hx hb dX13_sum_132 hl (k := 1) rfl (by rw [ez_45]; rfl) (by decide +kernel) rfl (fun ls hl => ?_)
              have hi9 : z_45.toInt = kk.toInt + 1 := by rw [ez_45]; exact inc1 (n := 1000) (by omega) (by decide +kernel)
              refine lv_goto (tgt := 101) hx hb dX13_sum_135 (by decide +kernel) ?_
              exact ih (z_45, r_38, n_40, f_41, f_42, f_43, f_44) ls _ _ ⟨lv_sub hl [0, 1, 2, 3] rfl, hP.sub [0, 1, 2, 3, 4, 5, 6] rfl, hD.sub [0, 1, 2, 3, 4, 5, 6] (by decide +kernel) rfl, hS, ⟨(by (try dsimp only); omega), hokR, (by (try dsimp only); exact (sum_stepM (by omega) hi9 (by omega) hsx hsA hyg hcr.1 hcr.2 hcm).1), (by (try dsimp only); exact (sum_stepM (by omega) hi9 (by omega) hsx hsA hyg hcr.1 hcr.2 hcm).2)⟩⟩ (by (try dsimp only); omega)
          · rw [fa_le] at c_33
            try rw [ti_24] at c_33
            refine lv_bipush (v := (-4)) hx hb dX13_sum_85 (by decide +kernel) ?_
            exact W.iret hx hb hr (fun t ht hW => ⟨⟨_, ((q 7), f8, f9, f10, f11), rfl, ⟨(show okR f8 f10 f11 from hokR), (show 0 ≤ (q 7).toInt ∧ (q 7).toInt ≤ 24 from (by first | omega | (subst_vars; omega))), (show sumR (q 7) ((-4) : Int32) (q 7) (f13 x1.toNatClampNeg) (fun i => f12 (12 * x1.toNatClampNeg + i)) f8 f9 f10 f11 f8 f9 f10 f11 (¬ (0 ≤ x1.toInt ∧ x1.toInt ≤ 2)) from (Or.inr (Or.inr (Or.inl ⟨(fun h9 => h9 (by omega)), hsN, (by omega), (by decide +kernel), ⟨rfl, rfl, rfl, rfl, rfl⟩⟩))))⟩, by rw [ht]; exact hP.sub [0, 1, 2, 3, 4, 5, 6] rfl, hD.sub [0, 1, 2, 3, 4, 5, 6] (by decide +kernel) rfl⟩, hS.F ht⟩) hS.2.2 dX13_sum_87
        · rw [fa_eq] at c_31
          try rw [ti_0] at c_31
          refine lv_iconst (v := (-1)) hx hb dX13_sum_65 (by decide +kernel) ?_
          exact W.iret hx hb hr (fun t ht hW => ⟨⟨_, ((q 7), f8, f9, f10, f11), rfl, ⟨(show okR f8 f10 f11 from hokR), (show 0 ≤ (q 7).toInt ∧ (q 7).toInt ≤ 24 from (by first | omega | (subst_vars; omega))), (show sumR (q 7) ((-1) : Int32) (q 7) (f13 x1.toNatClampNeg) (fun i => f12 (12 * x1.toNatClampNeg + i)) f8 f9 f10 f11 f8 f9 f10 f11 (¬ (0 ≤ x1.toInt ∧ x1.toInt ≤ 2)) from (Or.inr (Or.inl ⟨(fun h9 => h9 (by omega)), hnz (by omega), (by decide +kernel), ⟨rfl, rfl, rfl, rfl, rfl⟩⟩)))⟩, by rw [ht]; exact hP.sub [0, 1, 2, 3, 4, 5, 6] rfl, hD.sub [0, 1, 2, 3, 4, 5, 6] (by decide +kernel) rfl⟩, hS.F ht⟩) hS.2.2 dX13_sum_66
      · rw [fa_le] at c_30
        refine lv_iload_n hx hb dX13_sum_37 rfl (lv_at hl 1 rfl) ?_
        refine lv_aload_n hx hb dX13_sum_38 rfl (lv_at hl 2 rfl) ?_
        refine lv_aload_n hx hb dX13_sum_39 rfl (lv_at hl 2 rfl) ?_
        refine va_get (D := D) (ci := 10) (v := .ref (a 12)) (C := RX13) (T := TX13) (N := 45) hx hb hts in_X13_sum_X13 hown hE.1 hP 0 rfl rfl 12 (by decide +kernel) (hts (.fieldLink RX13 41 "ClauseBookModel" "bag" "[I") (List.mem_of_getElem? (i := 2) rfl)) (fun _ h9 => h9) rfl dX13_sum_40 ?_
        refine lv_bipush (v := 12) hx hb dX13_sum_43 (by decide +kernel) ?_
        refine lv_iload_n hx hb dX13_sum_45 rfl (lv_at hl 3 rfl) ?_
        refine lv_imul hx hb dX13_sum_46 ?_
        refine lv_iload_n hx hb dX13_sum_47 rfl (lv_at hl 0 rfl) ?_
        refine lv_iadd hx hb dX13_sum_48 ?_
        refine va_iald hx hb hE.1 hP 5 0 rfl rfl (by rw [vp_in_iff]; first | omega | (rw [fb_addI (by omega) (by omega)]; omega)) dX13_sum_49 ?_
        refine lv_topi (fun z_46 ez_46 => ?_)
        refine vp_callSi (W.runV (As := [.int z_46]) (rest := [.int ar]) ⟨hx, hb, hml, hown, hts⟩ (c_X13_isClause l D T h0 [.int (q 0), .int (q 1), .int (q 2), .int (q 3), .int (q 4), .int (q 5), .int (q 6), .int (q 7), .ref (a 8), .ref (a 9), .ref (a 10), .ref (a 11), .ref (a 12), .ref (a 13), .int (q 14), .long v, .long w, .ref (a 17), .ref (a 18), .ref (a 19), .ref (a 20), .ref (a 21), .ref (a 22), .ref (a 23), .int (q 24), .ref (a 25), .int (q 26), .ref (a 27), .int (q 28), .int (q 29), .int (q 30), .int (q 31), .int (q 32), .int (q 33), .ref (a 34), .ref (a 35), .ref (a 36), .ref (a 37), .ref (a 38), .ref (a 39), .ref (a 40), .int (q 41), .ref (a 42), .int (q 43), .int (q 44)] z_46 (q 7) rfl (by omega)) (cwV 1 hts gX13_sum_X13_isClause rfl rfl rfl hv_X13_isClause ⟨Nat.le_of_ble_eq_true rfl, Nat.le_of_ble_eq_true rfl⟩) (pR_V (q := (RX13, TX13, 45)) (ci := 10) (q0 := 0) hP hE rfl rfl [0] rfl) rfl rfl hl.1 rfl (lv_room (Nat.le_of_ble_eq_true rfl)) dX13_sum_50 ⟨Nat.le_of_ble_eq_true rfl, Nat.le_of_ble_eq_true rfl⟩) (fun r_47 hr_47 => ?_)
        rcases bool_post hr_47 with ⟨c_48, rfl⟩ | ⟨c_48, rfl⟩
        · refine lv_iand hx hb dX13_sum_53 ?_
          refine lv_topi (fun z_49 ez_49 => ?_)
          have hzz_49 : z_49 = ar := by rw [ez_49]; exact isB.and1 hBa
          refine lv_istore_n (lv' := [(2, .int z_49), (3, .int ii), (0, .ref h0), (1, .int x1)]) hx hb dX13_sum_54 rfl hl (by decide +kernel) rfl (fun ls hl => ?_)
          obtain ⟨z_50, ez_50⟩ : ∃ y : Int32, y = ii + 1 := ⟨_, rfl⟩
          refine lv_iinc (v := z_50) (lv' := [(3, .int z_50), (2, .int z_49), (0, .ref h0), (1, .int x1)]) hx hb dX13_sum_55 hl (k := 1) rfl (by rw [ez_50]; rfl) (by decide +kernel) rfl (fun ls hl => ?_)
          have hi9 : z_50.toInt = ii.toInt + 1 := by rw [ez_50]; exact inc1 (n := 1000) (by omega) (by decide +kernel)
          refine lv_goto (tgt := 27) hx hb dX13_sum_58 (by decide +kernel) ?_
          exact ih (z_50, z_49) ls ⟨lv_sub hl [0, 1, 2, 3] rfl, ⟨(by subst_vars; (try dsimp only); rw [inc1 (i := ii) (n := 1000) (by omega) (by decide +kernel)]; omega), (by (try dsimp only); rw [hzz_49]; exact hBa), (by (try dsimp only); rw [hzz_49]; exact hnz), (by (try dsimp only); rw [hzz_49]; exact fun h9 => ⟨(hal h9).1, sum_stepR (z := z_46) (hal h9).2 hi9 (by omega) (by rw [ez_46]; exact congrArg f12 (ix_nat (n := 0) (m := 0) (z := 0) (by omega) (by omega))) (by omega)⟩)⟩⟩ (by subst_vars; (try dsimp only); rw [inc1 (i := ii) (n := 1000) (by omega) (by decide +kernel)]; omega)
        · refine lv_iand hx hb dX13_sum_53 ?_
          refine lv_topi (fun z_51 ez_51 => ?_)
          have hzz_51 : z_51 = 0 := by rw [ez_51]; exact and_0 hBa
          refine lv_istore_n (lv' := [(2, .int z_51), (3, .int ii), (0, .ref h0), (1, .int x1)]) hx hb dX13_sum_54 rfl hl (by decide +kernel) rfl (fun ls hl => ?_)
          obtain ⟨z_52, ez_52⟩ : ∃ y : Int32, y = ii + 1 := ⟨_, rfl⟩
          refine lv_iinc (v := z_52) (lv' := [(3, .int z_52), (2, .int z_51), (0, .ref h0), (1, .int x1)]) hx hb dX13_sum_55 hl (k := 1) rfl (by rw [ez_52]; rfl) (by decide +kernel) rfl (fun ls hl => ?_)
          have hi9 : z_52.toInt = ii.toInt + 1 := by rw [ez_52]; exact inc1 (n := 1000) (by omega) (by decide +kernel)
          refine lv_goto (tgt := 27) hx hb dX13_sum_58 (by decide +kernel) ?_
          exact ih (z_52, z_51) ls ⟨lv_sub hl [0, 1, 2, 3] rfl, ⟨(by subst_vars; (try dsimp only); rw [inc1 (i := ii) (n := 1000) (by omega) (by decide +kernel)]; omega), (by (try dsimp only); rw [hzz_51]; exact isB0), (fun _ h8 => by
                                                            have h7 := h8.2 ii.toNatClampNeg (by have h6 := tn (x := ii) (by omega); omega)
                                                            have h7 : 0 ≤ (f12 (12 * x1.toNatClampNeg + ii.toNatClampNeg)).toInt ∧ (f12 (12 * x1.toNatClampNeg + ii.toNatClampNeg)).toInt < (q 7).toInt := h7
                                                            rw [← ix12 (b := x1) (z := ii) (by omega) (by omega), ← ez_46] at h7
                                                            omega), (by (try dsimp only); rw [hzz_51]; exact fun h9 => absurd (by decide +kernel) h9)⟩⟩ (by subst_vars; (try dsimp only); rw [inc1 (i := ii) (n := 1000) (by omega) (by decide +kernel)]; omega)
  · refine lv_if_ne (tgt := 10) hx hb dX13_sum_4 (by decide +kernel) (fun c9 => absurd c9 (by decide +kernel)) (fun _ => ?_)
    refine lv_bipush (v := (-2)) hx hb dX13_sum_7 (by decide +kernel) ?_
    exact W.iret hx hb hr (fun t ht hW => ⟨⟨_, ((q 7), f8, f9, f10, f11), rfl, ⟨(show okR f8 f10 f11 from hokR), (show 0 ≤ (q 7).toInt ∧ (q 7).toInt ≤ 24 from (by first | omega | (subst_vars; omega))), (show sumR (q 7) ((-2) : Int32) (q 7) (f13 x1.toNatClampNeg) (fun i => f12 (12 * x1.toNatClampNeg + i)) f8 f9 f10 f11 f8 f9 f10 f11 (¬ (0 ≤ x1.toInt ∧ x1.toInt ≤ 2)) from (Or.inl ⟨(by omega), (by decide +kernel), ⟨rfl, rfl, rfl, rfl, rfl⟩⟩))⟩, by rw [ht]; exact hP.sub [0, 1, 2, 3, 4, 5, 6] rfl, hD.sub [0, 1, 2, 3, 4, 5, 6] (by decide +kernel) rfl⟩, hS.F ht⟩) hS.2.2 dX13_sum_9
