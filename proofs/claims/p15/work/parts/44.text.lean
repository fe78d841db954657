theorem okT_lt {f : Nat → Int32} {x W : Int32} (hx : 0 ≤ x.toInt ∧ x.toInt ≤ W.toInt) (hW : smT f W.toNatClampNeg = -1) (hs : 0 ≤ smT f x.toNatClampNeg) : x.toInt < W.toInt := by
  rcases Int.lt_or_eq_of_le hx.2 with h | h
  · exact h
  · exfalso
    rw [tneq hx.1 h.symm] at hW
    omega
/-- build, where at most d words are left -/
def cB_build (l : Launch) (D : va_G) (T : Nat → ClassId) (ad sa av : Nat → Nat) (ta : Nat) (d : Nat) : Prop := ∀ (sz : Nat) (h0 : Nat) (yb : Nat) (ki : Nat) (nu : Nat) (n : Int32) (wd : Int32) (nx : Int32) (nb : Int32) (fk : Nat → Int32) (fn : Nat → Int32) (o1 : Nat) (n0 : Int32) (c1 : Nat) (c2 : Nat) (c3 : Nat) (c4 : Nat) (c5 : Nat) (c6 : Nat) (c7 : Nat) (f1 : Nat → Int32) (f2 : Nat → Int32) (f3 : Nat → Int32) (f4 : Nat → Int32) (f5 : Nat → Int32) (f6 : Nat → Int32) (f7 : Nat → Int32) (_ : 0 ≤ n0.toInt ∧ n0.toInt ≤ 24) (_ : okC f1 f3 f4 f5) (_ : 0 ≤ nx.toInt ∧ nx.toInt < wd.toInt ∧ wd.toInt ≤ 24) (_ : okT fk wd.toNatClampNeg) (_ : smT fk wd.toNatClampNeg = -1) (_ : n0.toInt + (wd.toInt - nx.toInt) ≤ 24) (_ : ∀ j : Nat, (j : Int) < n0.toInt → mesP f1 f2 f3 f4 f5 f6 f7 j) (_ : wd.toInt - nx.toInt ≤ d), Met l yX10_build wsX10_build ({ frames := d + 5, cells := 0, slots := 0, locals := 32 * d + 150 }) (pWk [.ref h0, .ref o1] D T [(h0, .inr (7, [.int n, .ref yb, .ref ki, .ref nu, .int wd, .int nx, .int nb])), (ki, .inl (T 0, 24, .inl fk)), (nu, .inl (T 0, 24, .inl fn)), (o1, .inr (1, [.int n0, .ref c1, .ref c2, .ref c3, .ref c4, .ref c5, .ref c6, .ref c7])), (c1, .inl (T 0, 24, .inl f1)), (c2, .inl (T 0, 24, .inl f2)), (c3, .inl (T 0, 24, .inl f3)), (c4, .inl (T 0, 24, .inl f4)), (c5, .inl (T 0, 24, .inl f5)), (c6, .inl (T 0, 24, .inl f6)), (c7, .inl (T 0, 24, .inl f7))] sz ad sa av ta) (va_Qi (fun (r : Int32) (u : Nat → Nat → Int32) => (0 ≤ r.toInt ∧ r.toInt < (u 0 0).toInt) ∧ (nx.toInt < (u 8 0).toInt ∧ (u 8 0).toInt ≤ wd.toInt) ∧ smT fk (u 8 0).toNatClampNeg = smT fk nx.toNatClampNeg - 1 ∧ (u 0 0).toInt = n0.toInt + ((u 8 0).toInt - nx.toInt) ∧ ((0 ≤ (u 0 0).toInt ∧ (u 0 0).toInt ≤ 24) ∧ okC (u 1) (u 3) (u 4) (u 5)) ∧ (∀ A : clsA, rlC n0 f1 f2 f3 f4 A → ∃ (nb rb : Nat) (B : clsA), bldR fk fn nx.toNatClampNeg A nb rb B ∧ (u 8 0).toInt = nb ∧ r = nI rb ∧ rlC (u 0 0) (u 1) (u 2) (u 3) (u 4) B) ∧ (∀ j : Nat, (j : Int) < (u 0 0).toInt → mesP (u 1) (u 2) (u 3) (u 4) (u 5) (u 6) (u 7) j)) (bW D (va_A [(h0, .inr (7, [.int n, .ref yb, .ref ki, .ref nu, .int wd, .int nx, .int nb])), (ki, .inl (T 0, 24, .inl fk)), (nu, .inl (T 0, 24, .inl fn)), (o1, .inr (1, [.int n0, .ref c1, .ref c2, .ref c3, .ref c4, .ref c5, .ref c6, .ref c7])), (c1, .inl (T 0, 24, .inl f1)), (c2, .inl (T 0, 24, .inl f2)), (c3, .inl (T 0, 24, .inl f3)), (c4, .inl (T 0, 24, .inl f4)), (c5, .inl (T 0, 24, .inl f5)), (c6, .inl (T 0, 24, .inl f6)), (c7, .inl (T 0, 24, .inl f7))] sz) (fun (u : Nat → Nat → Int32) => [(h0, .inr (7, [.int n, .ref yb, .ref ki, .ref nu, .int wd, .int (u 8 0), .int nb])), (ki, .inl (T 0, 24, .inl fk)), (nu, .inl (T 0, 24, .inl fn)), (o1, .inr (1, [.int (u 0 0), .ref c1, .ref c2, .ref c3, .ref c4, .ref c5, .ref c6, .ref c7])), (c1, .inl (T 0, 24, .inl (u 1))), (c2, .inl (T 0, 24, .inl (u 2))), (c3, .inl (T 0, 24, .inl (u 3))), (c4, .inl (T 0, 24, .inl (u 4))), (c5, .inl (T 0, 24, .inl (u 5))), (c6, .inl (T 0, 24, .inl (u 6))), (c7, .inl (T 0, 24, .inl (u 7)))])) (va_A [(h0, .inr (7, [.int n, .ref yb, .ref ki, .ref nu, .int wd, .int nx, .int nb])), (ki, .inl (T 0, 24, .inl fk)), (nu, .inl (T 0, 24, .inl fn)), (o1, .inr (1, [.int n0, .ref c1, .ref c2, .ref c3, .ref c4, .ref c5, .ref c6, .ref c7])), (c1, .inl (T 0, 24, .inl f1)), (c2, .inl (T 0, 24, .inl f2)), (c3, .inl (T 0, 24, .inl f3)), (c4, .inl (T 0, 24, .inl f4)), (c5, .inl (T 0, 24, .inl f5)), (c6, .inl (T 0, 24, .inl f6)), (c7, .inl (T 0, 24, .inl f7))] sz)) 0 0 (va_A [(h0, .inr (7, [.int n, .ref yb, .ref ki, .ref nu, .int wd, .int nx, .int nb])), (ki, .inl (T 0, 24, .inl fk)), (nu, .inl (T 0, 24, .inl fn)), (o1, .inr (1, [.int n0, .ref c1, .ref c2, .ref c3, .ref c4, .ref c5, .ref c6, .ref c7])), (c1, .inl (T 0, 24, .inl f1)), (c2, .inl (T 0, 24, .inl f2)), (c3, .inl (T 0, 24, .inl f3)), (c4, .inl (T 0, 24, .inl f4)), (c5, .inl (T 0, 24, .inl f5)), (c6, .inl (T 0, 24, .inl f6)), (c7, .inl (T 0, 24, .inl f7))] sz)
theorem dX10_build_0 : decode cX10_build 0 = .ok (.aload_n 0, 1) := by decide +kernel
theorem dX10_build_1 : decode cX10_build 1 = .ok (.getfield 28, 3) := by decide +kernel
theorem dX10_build_13 : decode cX10_build 13 = .ok (.aload_n 0, 1) := by decide +kernel
theorem dX10_build_14 : decode cX10_build 14 = .ok (.getfield 28, 3) := by decide +kernel
theorem dX10_build_17 : decode cX10_build 17 = .ok (.istore_n 2, 1) := by decide +kernel
theorem dX10_build_18 : decode cX10_build 18 = .ok (.aload_n 0, 1) := by decide +kernel
theorem dX10_build_19 : decode cX10_build 19 = .ok (.dup, 1) := by decide +kernel
theorem dX10_build_20 : decode cX10_build 20 = .ok (.getfield 28, 3) := by decide +kernel
theorem dX10_build_23 : decode cX10_build 23 = .ok (.iconst 1, 1) := by decide +kernel
theorem dX10_build_24 : decode cX10_build 24 = .ok (.iadd, 1) := by decide +kernel
theorem dX10_build_25 : decode cX10_build 25 = .ok (.putfield 28, 3) := by decide +kernel
theorem dX10_build_28 : decode cX10_build 28 = .ok (.getstatic 34, 3) := by decide +kernel
theorem dX10_build_31 : decode cX10_build 31 = .ok (.aload_n 0, 1) := by decide +kernel
theorem dX10_build_32 : decode cX10_build 32 = .ok (.getfield 19, 3) := by decide +kernel
theorem dX10_build_35 : decode cX10_build 35 = .ok (.iload_n 2, 1) := by decide +kernel
theorem dX10_build_36 : decode cX10_build 36 = .ok (.iaload, 1) := by decide +kernel
theorem dX10_build_37 : decode cX10_build 37 = .ok (.aaload, 1) := by decide +kernel
theorem dX10_build_38 : decode cX10_build 38 = .ok (.getfield 61, 3) := by decide +kernel
theorem dX10_build_4 : decode cX10_build 4 = .ok (.aload_n 0, 1) := by decide +kernel
theorem dX10_build_41 : decode cX10_build 41 = .ok (.istore_n 3, 1) := by decide +kernel
theorem dX10_build_42 : decode cX10_build 42 = .ok (.iload_n 3, 1) := by decide +kernel
theorem dX10_build_43 : decode cX10_build 43 = .ok (.iconst 1, 1) := by decide +kernel
theorem dX10_build_44 : decode cX10_build 44 = .ok (.if_icmp .lt 11, 3) := by decide +kernel
theorem dX10_build_47 : decode cX10_build 47 = .ok (.aload_n 0, 1) := by decide +kernel
theorem dX10_build_48 : decode cX10_build 48 = .ok (.aload_n 1, 1) := by decide +kernel
theorem dX10_build_49 : decode cX10_build 49 = .ok (.invokevirtual 91, 3) := by decide +kernel
theorem dX10_build_5 : decode cX10_build 5 = .ok (.getfield 25, 3) := by decide +kernel
theorem dX10_build_52 : decode cX10_build 52 = .ok (.goto 4, 3) := by decide +kernel
theorem dX10_build_55 : decode cX10_build 55 = .ok (.iconst 0, 1) := by decide +kernel
theorem dX10_build_56 : decode cX10_build 56 = .ok (.istore 4, 2) := by decide +kernel
theorem dX10_build_58 : decode cX10_build 58 = .ok (.iload_n 3, 1) := by decide +kernel
theorem dX10_build_59 : decode cX10_build 59 = .ok (.iconst 2, 1) := by decide +kernel
theorem dX10_build_60 : decode cX10_build 60 = .ok (.if_icmp .ne 11, 3) := by decide +kernel
theorem dX10_build_63 : decode cX10_build 63 = .ok (.aload_n 0, 1) := by decide +kernel
theorem dX10_build_64 : decode cX10_build 64 = .ok (.aload_n 1, 1) := by decide +kernel
theorem dX10_build_65 : decode cX10_build 65 = .ok (.invokevirtual 91, 3) := by decide +kernel
theorem dX10_build_68 : decode cX10_build 68 = .ok (.goto 4, 3) := by decide +kernel
theorem dX10_build_71 : decode cX10_build 71 = .ok (.iconst 0, 1) := by decide +kernel
theorem dX10_build_72 : decode cX10_build 72 = .ok (.istore 5, 2) := by decide +kernel
theorem dX10_build_74 : decode cX10_build 74 = .ok (.aload_n 1, 1) := by decide +kernel
theorem dX10_build_75 : decode cX10_build 75 = .ok (.aload_n 0, 1) := by decide +kernel
theorem dX10_build_76 : decode cX10_build 76 = .ok (.getfield 19, 3) := by decide +kernel
theorem dX10_build_79 : decode cX10_build 79 = .ok (.iload_n 2, 1) := by decide +kernel
theorem dX10_build_8 : decode cX10_build 8 = .ok (.if_icmp .lt 5, 3) := by decide +kernel
theorem dX10_build_80 : decode cX10_build 80 = .ok (.iaload, 1) := by decide +kernel
theorem dX10_build_81 : decode cX10_build 81 = .ok (.aload_n 0, 1) := by decide +kernel
theorem dX10_build_82 : decode cX10_build 82 = .ok (.getfield 22, 3) := by decide +kernel
theorem dX10_build_85 : decode cX10_build 85 = .ok (.iload_n 2, 1) := by decide +kernel
theorem dX10_build_86 : decode cX10_build 86 = .ok (.iaload, 1) := by decide +kernel
theorem dX10_build_87 : decode cX10_build 87 = .ok (.iload 4, 2) := by decide +kernel
theorem dX10_build_89 : decode cX10_build 89 = .ok (.iload 5, 2) := by decide +kernel
theorem dX10_build_91 : decode cX10_build 91 = .ok (.invokevirtual 95, 3) := by decide +kernel
theorem dX10_build_94 : decode cX10_build 94 = .ok (.ireturn, 1) := by decide +kernel
set_option maxRecDepth 20000 in
theorem ggX10_build_X10_build : GoodIn wsX10_build wsX10_build := goodIn_r _ [0, 1, 2, 3, 4, 5, 6, 7, 8, 9, 10, 11, 12, 13, 14, 15, 16, 17, 18, 19, 20, 21, 22, 23, 24, 25, 26, 27, 28, 29, 30, 31, 32, 33, 34, 35, 36, 37, 38, 39, 40, 41, 42, 43, 44, 45, 46, 47, 48, 49, 50, 51, 52, 53, 54, 55, 56, 57, 58] rfl (by decide +kernel)
set_option maxRecDepth 20000 in
theorem ggX10_build_X2_append : GoodIn wsX10_build wsX2_append := goodIn_r _ [14, 15, 16, 17, 18, 19, 20, 13, 21, 22, 23, 24, 25, 26, 27, 28, 29, 30, 31, 32, 33, 34, 35, 36, 37, 38, 39, 40, 41, 42, 43, 51, 52, 53, 54, 55, 56, 57, 58] rfl (by decide +kernel)
set_option maxRecDepth 20000 in
theorem gX10_build_X10_build : GoodIn wsX10_build (wsV RX10 91 RX10 yX10_build wsX10_build) := goodIn_app (goodIn_r _ [6, 7, 8, 9] rfl (by decide +kernel)) ggX10_build_X10_build
set_option maxRecDepth 20000 in
theorem gX10_build_X2_append : GoodIn wsX10_build (wsV RX10 95 RX2 yX2_append wsX2_append) := goodIn_app (goodIn_r _ [10, 11, 12, 13] rfl (by decide +kernel)) ggX10_build_X2_append
theorem hv_X10_build : yX10_build.cls = RX10 ∧ yX10_build.cls ≠ "java/lang/invoke/MethodHandle" ∧ yX10_build.cls ≠ "java/lang/invoke/VarHandle" ∧ (parseMethodDescriptor yX10_build.desc).map (fun d => d.parameters.length) = some 1 := by decide +kernel
set_option maxRecDepth 20000 in
theorem in_X10_build_X10 : ∀ w ∈ wsX100, w ∈ wsX10_build := sub_r [44, 45, 46, 47, 48, 49, 50] rfl
set_option maxHeartbeats 4000000 in
set_option maxRecDepth 100000 in
theorem s_X10_build (l : Launch) (D : va_G) (T : Nat → ClassId) (ad sa av : Nat → Nat) (ta : Nat) (sz : Nat) (h0 : Nat) (yb : Nat) (ki : Nat) (nu : Nat) (n : Int32) (wd : Int32) (nx : Int32) (nb : Int32) (fk : Nat → Int32) (fn : Nat → Int32) (o1 : Nat) (n0 : Int32) (c1 : Nat) (c2 : Nat) (c3 : Nat) (c4 : Nat) (c5 : Nat) (c6 : Nat) (c7 : Nat) (f1 : Nat → Int32) (f2 : Nat → Int32) (f3 : Nat → Int32) (f4 : Nat → Int32) (f5 : Nat → Int32) (f6 : Nat → Int32) (f7 : Nat → Int32) (d : Nat) (hn0 : 0 ≤ n0.toInt ∧ n0.toInt ≤ 24) (hok : okC f1 f3 f4 f5) (hnx : 0 ≤ nx.toInt ∧ nx.toInt < wd.toInt ∧ wd.toInt ≤ 24) (hkT : okT fk wd.toNatClampNeg) (hsm : smT fk wd.toNatClampNeg = -1) (hro : n0.toInt + (wd.toInt - nx.toInt) ≤ 24) (hme : ∀ j : Nat, (j : Int) < n0.toInt → mesP f1 f2 f3 f4 f5 f6 f7 j) (hdep : wd.toInt - nx.toInt ≤ d + 1) (hrec : cB_build l D T ad sa av ta d) : Met l yX10_build wsX10_build ({ frames := (d + 1) + 5, cells := 0, slots := 0, locals := 32 * (d + 1) + 150 }) (pWk [.ref h0, .ref o1] D T [(h0, .inr (7, [.int n, .ref yb, .ref ki, .ref nu, .int wd, .int nx, .int nb])), (ki, .inl (T 0, 24, .inl fk)), (nu, .inl (T 0, 24, .inl fn)), (o1, .inr (1, [.int n0, .ref c1, .ref c2, .ref c3, .ref c4, .ref c5, .ref c6, .ref c7])), (c1, .inl (T 0, 24, .inl f1)), (c2, .inl (T 0, 24, .inl f2)), (c3, .inl (T 0, 24, .inl f3)), (c4, .inl (T 0, 24, .inl f4)), (c5, .inl (T 0, 24, .inl f5)), (c6, .inl (T 0, 24, .inl f6)), (c7, .inl (T 0, 24, .inl f7))] sz ad sa av ta) (va_Qi (fun (r : Int32) (u : Nat → Nat → Int32) => (0 ≤ r.toInt ∧ r.toInt < (u 0 0).toInt) ∧ (nx.toInt < (u 8 0).toInt ∧ (u 8 0).toInt ≤ wd.toInt) ∧ smT fk (u 8 0).toNatClampNeg = smT fk nx.toNatClampNeg - 1 ∧ (u 0 0).toInt = n0.toInt + ((u 8 0).toInt - nx.toInt) ∧ ((0 ≤ (u 0 0).toInt ∧ (u 0 0).toInt ≤ 24) ∧ okC (u 1) (u 3) (u 4) (u 5)) ∧ (∀ A : clsA, rlC n0 f1 f2 f3 f4 A → ∃ (nb rb : Nat) (B : clsA), bldR fk fn nx.toNatClampNeg A nb rb B ∧ (u 8 0).toInt = nb ∧ r = nI rb ∧ rlC (u 0 0) (u 1) (u 2) (u 3) (u 4) B) ∧ (∀ j : Nat, (j : Int) < (u 0 0).toInt → mesP (u 1) (u 2) (u 3) (u 4) (u 5) (u 6) (u 7) j)) (bW D (va_A [(h0, .inr (7, [.int n, .ref yb, .ref ki, .ref nu, .int wd, .int nx, .int nb])), (ki, .inl (T 0, 24, .inl fk)), (nu, .inl (T 0, 24, .inl fn)), (o1, .inr (1, [.int n0, .ref c1, .ref c2, .ref c3, .ref c4, .ref c5, .ref c6, .ref c7])), (c1, .inl (T 0, 24, .inl f1)), (c2, .inl (T 0, 24, .inl f2)), (c3, .inl (T 0, 24, .inl f3)), (c4, .inl (T 0, 24, .inl f4)), (c5, .inl (T 0, 24, .inl f5)), (c6, .inl (T 0, 24, .inl f6)), (c7, .inl (T 0, 24, .inl f7))] sz) (fun (u : Nat → Nat → Int32) => [(h0, .inr (7, [.int n, .ref yb, .ref ki, .ref nu, .int wd, .int (u 8 0), .int nb])), (ki, .inl (T 0, 24, .inl fk)), (nu, .inl (T 0, 24, .inl fn)), (o1, .inr (1, [.int (u 0 0), .ref c1, .ref c2, .ref c3, .ref c4, .ref c5, .ref c6, .ref c7])), (c1, .inl (T 0, 24, .inl (u 1))), (c2, .inl (T 0, 24, .inl (u 2))), (c3, .inl (T 0, 24, .inl (u 3))), (c4, .inl (T 0, 24, .inl (u 4))), (c5, .inl (T 0, 24, .inl (u 5))), (c6, .inl (T 0, 24, .inl (u 6))), (c7, .inl (T 0, 24, .inl (u 7)))])) (va_A [(h0, .inr (7, [.int n, .ref yb, .ref ki, .ref nu, .int wd, .int nx, .int nb])), (ki, .inl (T 0, 24, .inl fk)), (nu, .inl (T 0, 24, .inl fn)), (o1, .inr (1, [.int n0, .ref c1, .ref c2, .ref c3, .ref c4, .ref c5, .ref c6, .ref c7])), (c1, .inl (T 0, 24, .inl f1)), (c2, .inl (T 0, 24, .inl f2)), (c3, .inl (T 0, 24, .inl f3)), (c4, .inl (T 0, 24, .inl f4)), (c5, .inl (T 0, 24, .inl f5)), (c6, .inl (T 0, 24, .inl f6)), (c7, .inl (T 0, 24, .inl f7))] sz)) 0 0 (va_A [(h0, .inr (7, [.int n, .ref yb, .ref ki, .ref nu, .int wd, .int nx, .int nb])), (ki, .inl (T 0, 24, .inl fk)), (nu, .inl (T 0, 24, .inl fn)), (o1, .inr (1, [.int n0, .ref c1, .ref c2, .ref c3, .ref c4, .ref c5, .ref c6, .ref c7])), (c1, .inl (T 0, 24, .inl f1)), (c2, .inl (T 0, 24, .inl f2)), (c3, .inl (T 0, 24, .inl f3)), (c4, .inl (T 0, 24, .inl f4)), (c5, .inl (T 0, 24, .inl f5)), (c6, .inl (T 0, 24, .inl f6)), (c7, .inl (T 0, 24, .inl f7))] sz) := by
  refine Met.ofW (cc := cX10_build) (maxL := 6) (ret := (some .int)) (by decide +kernel) rfl ?_
  intro p e s m args below meth c s₁ B hml hv
  obtain ⟨rfl, hsz, hP, hE, hD0, hV⟩ := hv
  have hx := B.exec
  have hb := B.bytes
  have hr := B.returns
  have hts := atoms_spec (ws := wsX10_build) B.pre
  have hown : s.vm.findClass RX10 = some m.cls := findClass_of_methodNamed B.named
  have hlocks := B.notSynchronized
  subst hsz
  have hD := hD0.self (sz := s.heap.size)
  generalize hAe : va_A [(h0, .inr (7, [.int n, .ref yb, .ref ki, .ref nu, .int wd, .int nx, .int nb])), (ki, .inl (T 0, 24, .inl fk)), (nu, .inl (T 0, 24, .inl fn)), (o1, .inr (1, [.int n0, .ref c1, .ref c2, .ref c3, .ref c4, .ref c5, .ref c6, .ref c7])), (c1, .inl (T 0, 24, .inl f1)), (c2, .inl (T 0, 24, .inl f2)), (c3, .inl (T 0, 24, .inl f3)), (c4, .inl (T 0, 24, .inl f4)), (c5, .inl (T 0, 24, .inl f5)), (c6, .inl (T 0, 24, .inl f6)), (c7, .inl (T 0, 24, .inl f7))] s.heap.size = A at hD hV ⊢
  have hA : ∀ q : Nat, s.heap.size ≤ q → A q := fun q h => by rw [← hAe]; exact Or.inr h
  have hS : va_S A s.heap s.heap [] := va_S.rf
  have hP : va_P D vwCl [(h0, .inr (7, [.int n, .ref yb, .ref ki, .ref nu, .int wd, .int nx, .int nb])), (ki, .inl (T 0, 24, .inl fk)), (nu, .inl (T 0, 24, .inl fn)), (o1, .inr (1, [.int n0, .ref c1, .ref c2, .ref c3, .ref c4, .ref c5, .ref c6, .ref c7])), (c1, .inl (T 0, 24, .inl f1)), (c2, .inl (T 0, 24, .inl f2)), (c3, .inl (T 0, 24, .inl f3)), (c4, .inl (T 0, 24, .inl f4)), (c5, .inl (T 0, 24, .inl f5)), (c6, .inl (T 0, 24, .inl f6)), (c7, .inl (T 0, 24, .inl f7))] s.heap := hP
  have hl := lv_entry ([.ref h0, .ref o1]) (n := 6) (Nat.le_of_ble_eq_true rfl)
  rw [lg_entry_eq]
  generalize (lg_sl ([.ref h0, .ref o1]) ++ List.replicate (6 - (lg_sl ([.ref h0, .ref o1])).length) Slot.unset).toArray = ls at hl ⊢
  have hl : lv_has ls 6 [(0, .ref h0), (1, .ref o1)] := hl
  clear hD0
  refine lv_aload_n hx hb dX10_build_0 rfl (lv_at hl 0 rfl) ?_
  refine va_get (D := D) (ci := 7) (v := .int nx) (C := RX10) (T := TX10) (N := 7) hx hb hts in_X10_build_X10 hown hE.1 hP 0 rfl rfl 5 (by decide +kernel) (hts (.fieldLink RX10 28 "ClauseBook$Tape" "next" "I") (List.mem_of_getElem? (i := 1) rfl)) (fun _ h9 => h9) rfl dX10_build_1 ?_
  refine lv_aload_n hx hb dX10_build_4 rfl (lv_at hl 0 rfl) ?_
  refine va_get (D := D) (ci := 7) (v := .int wd) (C := RX10) (T := TX10) (N := 7) hx hb hts in_X10_build_X10 hown hE.1 hP 0 rfl rfl 4 (by decide +kernel) (hts (.fieldLink RX10 25 "ClauseBook$Tape" "words" "I") (List.mem_of_getElem? (i := 2) rfl)) (fun _ h9 => h9) rfl dX10_build_5 ?_
  refine lv_icmp_lt (tgt := 13) hx hb dX10_build_8 (by decide +kernel) (fun c9 => ?_) (fun c9 => absurd c9 (not_not_intro (by rw [fa_lt]; omega)))
  refine lv_aload_n hx hb dX10_build_13 rfl (lv_at hl 0 rfl) ?_
  refine va_get (D := D) (ci := 7) (v := .int nx) (C := RX10) (T := TX10) (N := 7) hx hb hts in_X10_build_X10 hown hE.1 hP 0 rfl rfl 5 (by decide +kernel) (hts (.fieldLink RX10 28 "ClauseBook$Tape" "next" "I") (List.mem_of_getElem? (i := 1) rfl)) (fun _ h9 => h9) rfl dX10_build_14 ?_
  refine lv_istore_n (lv' := [(2, .int nx), (0, .ref h0), (1, .ref o1)]) hx hb dX10_build_17 rfl hl (by decide +kernel) rfl (fun ls hl => ?_)
  refine lv_aload_n hx hb dX10_build_18 rfl (lv_at hl 1 rfl) ?_
  refine lv_dup hx hb dX10_build_19 rfl ?_
  refine va_get (D := D) (ci := 7) (v := .int nx) (C := RX10) (T := TX10) (N := 7) hx hb hts in_X10_build_X10 hown hE.1 hP 0 rfl rfl 5 (by decide +kernel) (hts (.fieldLink RX10 28 "ClauseBook$Tape" "next" "I") (List.mem_of_getElem? (i := 1) rfl)) (fun _ h9 => h9) rfl dX10_build_20 ?_
  refine lv_iconst (v := 1) hx hb dX10_build_23 (by decide +kernel) ?_
  refine lv_iadd hx hb dX10_build_24 ?_
  refine lv_topi (fun z_1 ez_1 => ?_)
  refine va_put (D := D) (ci := 7) (v := .int z_1) (ty := .int) (C := RX10) (T := TX10) (N := 7) hx hb hts in_X10_build_X10 tyX10 tyX10_ok nmX10 hown hE.1 hP hD hS 0 rfl rfl 5 (by decide +kernel) (hts (.fieldLink RX10 28 "ClauseBook$Tape" "next" "I") (List.mem_of_getElem? (i := 1) rfl)) (fun _ h9 => h9) rfl (by decide +kernel) rfl rfl (Nat.le_of_ble_eq_true rfl) dX10_build_25 (fun H locs hP hD hS => ?_)
  obtain ⟨hP, hD⟩ := wPD [(h0, .inr (7, [.int n, .ref yb, .ref ki, .ref nu, .int wd, .int z_1, .int nb])), (ki, .inl (T 0, 24, .inl fk)), (nu, .inl (T 0, 24, .inl fn)), (o1, .inr (1, [.int n0, .ref c1, .ref c2, .ref c3, .ref c4, .ref c5, .ref c6, .ref c7])), (c1, .inl (T 0, 24, .inl f1)), (c2, .inl (T 0, 24, .inl f2)), (c3, .inl (T 0, 24, .inl f3)), (c4, .inl (T 0, 24, .inl f4)), (c5, .inl (T 0, 24, .inl f5)), (c6, .inl (T 0, 24, .inl f6)), (c7, .inl (T 0, 24, .inl f7))] hP hD rfl
  have hz9 : z_1.toInt = nx.toInt + 1 := by rw [ez_1]; exact inc1 (n := 1000) (by omega) (by decide +kernel)
  have tz : z_1.toNatClampNeg = nx.toNatClampNeg + 1 := tn1 hnx.1 hz9
  have tq := tn hnx.1
  have tw := tn (x := wd) (by omega)
  have hT9 := hkT nx.toNatClampNeg (by omega)
  refine va_getsN (v := .ref ta) hx hb hV.1.2.1 hS hown (va_Nw.use rfl (hE.2.2.1 (RX10, 34) (List.mem_of_getElem? (i := 2) rfl))) (fun _ h9 => h9) dX10_build_28 ?_
  refine lv_aload_n hx hb dX10_build_31 rfl (lv_at hl 1 rfl) ?_
  refine va_get (D := D) (ci := 7) (v := .ref ki) (C := RX10) (T := TX10) (N := 7) hx hb hts in_X10_build_X10 hown hE.1 hP 0 rfl rfl 2 (by decide +kernel) (hts (.fieldLink RX10 19 "ClauseBook$Tape" "kinds" "[I") (List.mem_of_getElem? (i := 3) rfl)) (fun _ h9 => h9) rfl dX10_build_32 ?_
  refine lv_iload_n hx hb dX10_build_35 rfl (lv_at hl 0 rfl) ?_
  refine va_iald hx hb hE.1 hP 1 0 rfl rfl (by rw [vp_in_iff]; first | omega | (subst_vars; omega)) dX10_build_36 ?_
  refine lv_topi (fun z_2 ez_2 => ?_)
  have hkk : 0 ≤ z_2.toInt ∧ z_2.toInt ≤ 12 := by rw [ez_2]; exact hT9.1
  refine vb_tq (v := .ref (ad (z_2.toNatClampNeg))) hx hb hV.1.2.2 hS (by rw [vp_in_iff]; omega) rfl dX10_build_37 ?_
  refine va_getE (i := (z_2.toNatClampNeg)) hx hb hV.1.1 (in13c hkk) hS hown (q := kdQ "names" [0, 0, 1, 1, 1, 2, 2, 2, 1, 2, 1, 1, 2]) (List.mem_of_getElem? (i := 0) rfl) (hts (.fieldLink RX10 61 "ClauseBook$Kind" "names" "I") (List.mem_of_getElem? (i := 4) rfl)) (fun _ h9 => h9) dX10_build_38 ?_
  refine W.eq (g2 := F0 m 41 ls [.int (nmT (z_2.toNatClampNeg))]) rfl ?_
  refine lv_topi (fun z_3 ez_3 => ?_)
  have hnm : 0 ≤ z_3.toInt ∧ z_3.toInt ≤ 2 := by rw [ez_3]; exact nmT_in _
  have hs9 : smT fk z_1.toNatClampNeg = smT fk nx.toNatClampNeg + z_3.toInt - 1 := by rw [tz, ez_3, ez_2]; rfl
  refine lv_istore_n (lv' := [(3, .int z_3), (2, .int nx), (0, .ref h0), (1, .ref o1)]) hx hb dX10_build_41 rfl hl (by decide +kernel) rfl (fun ls hl => ?_)
  refine lv_iload_n hx hb dX10_build_42 rfl (lv_at hl 0 rfl) ?_
  refine lv_iconst (v := 1) hx hb dX10_build_43 (by decide +kernel) ?_
  refine lv_icmp_lt (tgt := 55) hx hb dX10_build_44 (by decide +kernel) (fun c_4 => ?_) (fun c_4 => ?_)
  · rw [fa_lt] at c_4
    try rw [ti_1] at c_4
    refine lv_iconst (v := 0) hx hb dX10_build_55 (by decide +kernel) ?_
    refine lv_istore (lv' := [(4, .int 0), (3, .int z_3), (2, .int nx), (0, .ref h0), (1, .ref o1)]) hx hb dX10_build_56 hl (by decide +kernel) rfl (fun ls hl => ?_)
    refine lv_iload_n hx hb dX10_build_58 rfl (lv_at hl 1 rfl) ?_
    refine lv_iconst (v := 2) hx hb dX10_build_59 (by decide +kernel) ?_
    refine lv_icmp_ne (tgt := 71) hx hb dX10_build_60 (by decide +kernel) (fun c_5 => ?_) (fun c_5 => ?_)
    · rw [fa_eq] at c_5
      try rw [ti_2] at c_5
      refine lv_iconst (v := 0) hx hb dX10_build_71 (by decide +kernel) ?_
      refine lv_istore (lv' := [(5, .int 0), (4, .int 0), (3, .int z_3), (2, .int nx), (0, .ref h0), (1, .ref o1)]) hx hb dX10_build_72 hl (by decide +kernel) rfl (fun ls hl => ?_)
      refine lv_aload_n hx hb dX10_build_74 rfl (lv_at hl 5 rfl) ?_
      refine lv_aload_n hx hb dX10_build_75 rfl (lv_at hl 4 rfl) ?_
      refine va_get (D := D) (ci := 7) (v := .ref ki) (C := RX10) (T := TX10) (N := 7) hx hb hts in_X10_build_X10 hown hE.1 hP 0 rfl rfl 2 (by decide +kernel) (hts (.fieldLink RX10 19 "ClauseBook$Tape" "kinds" "[I") (List.mem_of_getElem? (i := 3) rfl)) (fun _ h9 => h9) rfl dX10_build_76 ?_
      refine lv_iload_n hx hb dX10_build_79 rfl (lv_at hl 3 rfl) ?_
      refine va_iald hx hb hE.1 hP 1 0 rfl rfl (by rw [vp_in_iff]; first | omega | (subst_vars; omega)) dX10_build_80 ?_
      refine lv_topi (fun z_6 ez_6 => ?_)
      refine lv_aload_n hx hb dX10_build_81 rfl (lv_at hl 4 rfl) ?_
      refine va_get (D := D) (ci := 7) (v := .ref nu) (C := RX10) (T := TX10) (N := 7) hx hb hts in_X10_build_X10 hown hE.1 hP 0 rfl rfl 3 (by decide +kernel) (hts (.fieldLink RX10 22 "ClauseBook$Tape" "numbers" "[I") (List.mem_of_getElem? (i := 5) rfl)) (fun _ h9 => h9) rfl dX10_build_82 ?_
      refine lv_iload_n hx hb dX10_build_85 rfl (lv_at hl 3 rfl) ?_
      refine va_iald hx hb hE.1 hP 2 0 rfl rfl (by rw [vp_in_iff]; first | omega | (subst_vars; omega)) dX10_build_86 ?_
      refine lv_topi (fun z_7 ez_7 => ?_)
      refine lv_iload hx hb dX10_build_87 (lv_at hl 1 rfl) ?_
      refine lv_iload hx hb dX10_build_89 (lv_at hl 0 rfl) ?_
      have hzz : z_6 = z_2 := by rw [ez_6, ez_2]
      have hFc := va_free (wc := [(o1, .inr (1, [.int n0, .ref c1, .ref c2, .ref c3, .ref c4, .ref c5, .ref c6, .ref c7])), (c1, .inl (T 0, 24, .inl f1)), (c2, .inl (T 0, 24, .inl f2)), (c3, .inl (T 0, 24, .inl f3)), (c4, .inl (T 0, 24, .inl f4)), (c5, .inl (T 0, 24, .inl f5)), (c6, .inl (T 0, 24, .inl f6)), (c7, .inl (T 0, 24, .inl f7))]) hD hS hA [3, 4, 5, 6, 7, 8, 9, 10] rfl
      refine va_calli (va_runV (As := [.int z_6, .int z_7, .int 0, .int 0]) (rest := []) ⟨hx, hb, hml, hown, hts⟩ (c_X2_append l D T ad sa av ta _ o1 n0 c1 c2 c3 c4 c5 c6 c7 f1 f2 f3 f4 f5 f6 f7 z_6 z_7 0 0 (by omega) hok (by rw [hzz]; exact hkk) (fun a => by rw [hzz, ← ez_3] at a; first | (exfalso; omega) | omega) (fun a => by rw [hzz, ← ez_3] at a; first | (exfalso; omega) | omega) hme) (cwV 4 hts gX10_build_X2_append rfl rfl rfl hv_X2_append ⟨(show _ ≤ ((d + 1) + 5 : Nat) from by (try dsimp only); omega), (show _ ≤ (32 * (d + 1) + 150 : Nat) from by (try dsimp only); omega)⟩) (pWk_V (q := (RX2, TX2, 8)) (ci := 1) (q0 := 3) hP hE hD hV hS hFc rfl rfl [3, 4, 5, 6, 7, 8, 9, 10] (by decide +kernel) rfl rfl) rfl rfl hl.1 rfl (lv_room (Nat.le_of_ble_eq_true rfl)) dX10_build_91 ⟨Nat.le_of_ble_eq_true rfl, Nat.le_of_ble_eq_true rfl⟩) hS (fun q _ h => hFc q h) hFc (fun r_8 u_9 t H1 locs ht hvm hr_8 hB hz1 hk1 hS => ?_)
      obtain ⟨haru_9, ⟨hszu_9, hok⟩, hapu_9, hme⟩ := hr_8
      have hapu_9 : ((n0.toInt < 24 → (u_9 1) = upd f1 (n0.toNatClampNeg) z_6 ∧ (u_9 2) = upd f2 (n0.toNatClampNeg) z_7 ∧ (u_9 3) = upd f3 (n0.toNatClampNeg) (if 1 ≤ (nmT (z_6.toNatClampNeg)).toInt then (0 : Int32) else -1) ∧ (u_9 4) = upd f4 (n0.toNatClampNeg) (if (nmT (z_6.toNatClampNeg)).toInt = 2 then (0 : Int32) else -1)) ∧ (¬ n0.toInt < 24 → (u_9 1) = f1 ∧ (u_9 2) = f2 ∧ (u_9 3) = f3 ∧ (u_9 4) = f4)) := hapu_9
      have hme : (∀ j : Nat, (j : Int) < (u_9 0 0).toInt → mesP (u_9 1) (u_9 2) (u_9 3) (u_9 4) (u_9 5) (u_9 6) (u_9 7) j) := hme
      obtain ⟨hP1, hD1⟩ := hB
      rw [ht] at hP1
      obtain ⟨hP, hD⟩ := va_repl [(h0, .inr (7, [.int n, .ref yb, .ref ki, .ref nu, .int wd, .int z_1, .int nb])), (ki, .inl (T 0, 24, .inl fk)), (nu, .inl (T 0, 24, .inl fn)), (o1, .inr (1, [.int (u_9 0 0), .ref c1, .ref c2, .ref c3, .ref c4, .ref c5, .ref c6, .ref c7])), (c1, .inl (T 0, 24, .inl (u_9 1))), (c2, .inl (T 0, 24, .inl (u_9 2))), (c3, .inl (T 0, 24, .inl (u_9 3))), (c4, .inl (T 0, 24, .inl (u_9 4))), (c5, .inl (T 0, 24, .inl (u_9 5))), (c6, .inl (T 0, 24, .inl (u_9 6))), (c7, .inl (T 0, 24, .inl (u_9 7)))] hP hD [3, 4, 5, 6, 7, 8, 9, 10] [3, 4, 5, 6, 7, 8, 9, 10] rfl (by decide +kernel) rfl rfl rfl hk1 hP1
      clear hP1 hD1 hFc
      generalize H1 = H at hP hS ⊢
      obtain ⟨hr9, hr8, hr7⟩ := haru_9.resolve_left (by intro h9; omega)
      have hr6 : r_8.toInt = (n0).toInt := by rw [hr8]
      exact W.iret hx hb hr (fun t ht hW => ⟨⟨_, (fun k => [fun _ => (u_9 0 0), (u_9 1), (u_9 2), (u_9 3), (u_9 4), (u_9 5), (u_9 6), (u_9 7), fun _ => z_1].getD k f1), rfl, ⟨(show 0 ≤ r_8.toInt ∧ r_8.toInt < ((u_9 0 0)).toInt from by omega), (show nx.toInt < (z_1).toInt ∧ (z_1).toInt ≤ wd.toInt from by omega), (show smT fk (z_1).toNatClampNeg = smT fk nx.toNatClampNeg - 1 from by omega), (show ((u_9 0 0)).toInt = n0.toInt + ((z_1).toInt - nx.toInt) from by omega), ⟨(show 0 ≤ ((u_9 0 0)).toInt ∧ ((u_9 0 0)).toInt ≤ 24 from by omega), (show okC (u_9 1) (u_9 3) (u_9 4) (u_9 5) from by first | exact hok | assumption)⟩, (fun A hA => by
                                                            have hnz : (nmT (fk nx.toNatClampNeg).toNatClampNeg).toInt = z_3.toInt := by rw [ez_3, ez_2]
                                                            have hq := bld_push (K := fk) (V := fn) (nx := nx.toNatClampNeg) (cn := 0) (dn := 0) hA ez_6 ez_7 rfl rfl hr8 hr7 (hapu_9.1 (by omega))
                                                            exact ⟨_, _, _, bldR_0 (by omega), (show (z_1).toInt = ((nx.toNatClampNeg + 1 : Nat) : Int) from by omega), hq.1, hq.2⟩), hme⟩, by rw [ht]; exact hP.sub [0, 1, 2, 3, 4, 5, 6, 7, 8, 9, 10] rfl, hD.sub [0, 1, 2, 3, 4, 5, 6, 7, 8, 9, 10] (by decide +kernel) rfl⟩, hS.F ht⟩) hS.2.2 dX10_build_94
    · rw [fa_eq] at c_5
      try rw [ti_2] at c_5
      have hl8 := okT_lt (f := fk) (x := z_1) (W := wd) (by omega) hsm (by omega)
      refine lv_aload_n hx hb dX10_build_63 rfl (lv_at hl 3 rfl) ?_
      refine lv_aload_n hx hb dX10_build_64 rfl (lv_at hl 4 rfl) ?_
      have hFc := va_free (wc := [(h0, .inr (7, [.int n, .ref yb, .ref ki, .ref nu, .int wd, .int z_1, .int nb])), (ki, .inl (T 0, 24, .inl fk)), (nu, .inl (T 0, 24, .inl fn)), (o1, .inr (1, [.int n0, .ref c1, .ref c2, .ref c3, .ref c4, .ref c5, .ref c6, .ref c7])), (c1, .inl (T 0, 24, .inl f1)), (c2, .inl (T 0, 24, .inl f2)), (c3, .inl (T 0, 24, .inl f3)), (c4, .inl (T 0, 24, .inl f4)), (c5, .inl (T 0, 24, .inl f5)), (c6, .inl (T 0, 24, .inl f6)), (c7, .inl (T 0, 24, .inl f7))]) hD hS hA [0, 1, 2, 3, 4, 5, 6, 7, 8, 9, 10] rfl
      refine va_calli (va_runV (As := [.ref o1]) (rest := []) ⟨hx, hb, hml, hown, hts⟩ (hrec _ h0 yb ki nu n wd z_1 nb fk fn o1 n0 c1 c2 c3 c4 c5 c6 c7 f1 f2 f3 f4 f5 f6 f7 (by omega) hok (by (try simp only [ti_0]); omega) hkT hsm (by (try simp only [ti_0]); omega) hme (by (try simp only [ti_0]); omega)) (cwV 1 hts gX10_build_X10_build rfl rfl rfl hv_X10_build ⟨(show _ ≤ ((d + 1) + 5 : Nat) from by (try dsimp only); omega), (show _ ≤ (32 * (d + 1) + 150 : Nat) from by (try dsimp only); omega)⟩) (pWk_V (q := (RX10, TX10, 7)) (ci := 7) (q0 := 0) hP hE hD hV hS hFc rfl rfl [0, 1, 2, 3, 4, 5, 6, 7, 8, 9, 10] (by decide +kernel) rfl rfl) rfl rfl hl.1 rfl (lv_room (Nat.le_of_ble_eq_true rfl)) dX10_build_65 ⟨Nat.le_of_ble_eq_true rfl, Nat.le_of_ble_eq_true rfl⟩) hS (fun q _ h => hFc q h) hFc (fun r_10 u_11 t H1 locs ht hvm hr_10 hB hz1 hk1 hS => ?_)
      obtain ⟨hrau_11, hrbu_11, hrcu_11, hrdu_11, ⟨hszu_11, hok⟩, hbAu_11, hme⟩ := hr_10
      have hbAu_11 : ∀ A : clsA, rlC n0 f1 f2 f3 f4 A → ∃ (nb rb : Nat) (B : clsA), bldR fk fn z_1.toNatClampNeg A nb rb B ∧ (u_11 8 0).toInt = nb ∧ r_10 = nI rb ∧ rlC (u_11 0 0) (u_11 1) (u_11 2) (u_11 3) (u_11 4) B := hbAu_11
      have hme : (∀ j : Nat, (j : Int) < (u_11 0 0).toInt → mesP (u_11 1) (u_11 2) (u_11 3) (u_11 4) (u_11 5) (u_11 6) (u_11 7) j) := hme
      obtain ⟨hP1, hD1⟩ := hB
      rw [ht] at hP1
      obtain ⟨hP, hD⟩ := va_repl [(h0, .inr (7, [.int n, .ref yb, .ref ki, .ref nu, .int wd, .int (u_11 8 0), .int nb])), (ki, .inl (T 0, 24, .inl fk)), (nu, .inl (T 0, 24, .inl fn)), (o1, .inr (1, [.int (u_11 0 0), .ref c1, .ref c2, .ref c3, .ref c4, .ref c5, .ref c6, .ref c7])), (c1, .inl (T 0, 24, .inl (u_11 1))), (c2, .inl (T 0, 24, .inl (u_11 2))), (c3, .inl (T 0, 24, .inl (u_11 3))), (c4, .inl (T 0, 24, .inl (u_11 4))), (c5, .inl (T 0, 24, .inl (u_11 5))), (c6, .inl (T 0, 24, .inl (u_11 6))), (c7, .inl (T 0, 24, .inl (u_11 7)))] hP hD [0, 1, 2, 3, 4, 5, 6, 7, 8, 9, 10] [0, 1, 2, 3, 4, 5, 6, 7, 8, 9, 10] rfl (by decide +kernel) rfl rfl rfl hk1 hP1
      clear hP1 hD1 hFc
      generalize H1 = H at hP hS ⊢
      refine lv_goto (tgt := 72) hx hb dX10_build_68 (by decide +kernel) ?_
      refine lv_istore (lv' := [(5, .int r_10), (4, .int 0), (3, .int z_3), (2, .int nx), (0, .ref h0), (1, .ref o1)]) hx hb dX10_build_72 hl (by decide +kernel) rfl (fun ls hl => ?_)
      refine lv_aload_n hx hb dX10_build_74 rfl (lv_at hl 5 rfl) ?_
      refine lv_aload_n hx hb dX10_build_75 rfl (lv_at hl 4 rfl) ?_
      refine va_get (D := D) (ci := 7) (v := .ref ki) (C := RX10) (T := TX10) (N := 7) hx hb hts in_X10_build_X10 hown hE.1 hP 0 rfl rfl 2 (by decide +kernel) (hts (.fieldLink RX10 19 "ClauseBook$Tape" "kinds" "[I") (List.mem_of_getElem? (i := 3) rfl)) (fun _ h9 => h9) rfl dX10_build_76 ?_
      refine lv_iload_n hx hb dX10_build_79 rfl (lv_at hl 3 rfl) ?_
      refine va_iald hx hb hE.1 hP 1 0 rfl rfl (by rw [vp_in_iff]; first | omega | (subst_vars; omega)) dX10_build_80 ?_
      refine lv_topi (fun z_12 ez_12 => ?_)
      refine lv_aload_n hx hb dX10_build_81 rfl (lv_at hl 4 rfl) ?_
      refine va_get (D := D) (ci := 7) (v := .ref nu) (C := RX10) (T := TX10) (N := 7) hx hb hts in_X10_build_X10 hown hE.1 hP 0 rfl rfl 3 (by decide +kernel) (hts (.fieldLink RX10 22 "ClauseBook$Tape" "numbers" "[I") (List.mem_of_getElem? (i := 5) rfl)) (fun _ h9 => h9) rfl dX10_build_82 ?_
      refine lv_iload_n hx hb dX10_build_85 rfl (lv_at hl 3 rfl) ?_
      refine va_iald hx hb hE.1 hP 2 0 rfl rfl (by rw [vp_in_iff]; first | omega | (subst_vars; omega)) dX10_build_86 ?_
      refine lv_topi (fun z_13 ez_13 => ?_)
      refine lv_iload hx hb dX10_build_87 (lv_at hl 1 rfl) ?_
      refine lv_iload hx hb dX10_build_89 (lv_at hl 0 rfl) ?_
      have hzz : z_12 = z_2 := by rw [ez_12, ez_2]
      have hFc := va_free (wc := [(o1, .inr (1, [.int (u_11 0 0), .ref c1, .ref c2, .ref c3, .ref c4, .ref c5, .ref c6, .ref c7])), (c1, .inl (T 0, 24, .inl (u_11 1))), (c2, .inl (T 0, 24, .inl (u_11 2))), (c3, .inl (T 0, 24, .inl (u_11 3))), (c4, .inl (T 0, 24, .inl (u_11 4))), (c5, .inl (T 0, 24, .inl (u_11 5))), (c6, .inl (T 0, 24, .inl (u_11 6))), (c7, .inl (T 0, 24, .inl (u_11 7)))]) hD hS hA [3, 4, 5, 6, 7, 8, 9, 10] rfl
      refine va_calli (va_runV (As := [.int z_12, .int z_13, .int 0, .int r_10]) (rest := []) ⟨hx, hb, hml, hown, hts⟩ (c_X2_append l D T ad sa av ta _ o1 (u_11 0 0) c1 c2 c3 c4 c5 c6 c7 (u_11 1) (u_11 2) (u_11 3) (u_11 4) (u_11 5) (u_11 6) (u_11 7) z_12 z_13 0 r_10 (by omega) hok (by rw [hzz]; exact hkk) (fun a => by rw [hzz, ← ez_3] at a; first | (exfalso; omega) | omega) (fun a => by rw [hzz, ← ez_3] at a; first | (exfalso; omega) | omega) hme) (cwV 4 hts gX10_build_X2_append rfl rfl rfl hv_X2_append ⟨(show _ ≤ ((d + 1) + 5 : Nat) from by (try dsimp only); omega), (show _ ≤ (32 * (d + 1) + 150 : Nat) from by (try dsimp only); omega)⟩) (pWk_V (q := (RX2, TX2, 8)) (ci := 1) (q0 := 3) hP hE hD hV hS hFc rfl rfl [3, 4, 5, 6, 7, 8, 9, 10] (by decide +kernel) rfl rfl) rfl rfl hl.1 rfl (lv_room (Nat.le_of_ble_eq_true rfl)) dX10_build_91 ⟨Nat.le_of_ble_eq_true rfl, Nat.le_of_ble_eq_true rfl⟩) hS (fun q _ h => hFc q h) hFc (fun r_14 u_15 t H1 locs ht hvm hr_14 hB hz1 hk1 hS => ?_)
      obtain ⟨haru_15, ⟨hszu_15, hok⟩, hapu_15, hme⟩ := hr_14
      have hapu_15 : (((u_11 0 0).toInt < 24 → (u_15 1) = upd (u_11 1) ((u_11 0 0).toNatClampNeg) z_12 ∧ (u_15 2) = upd (u_11 2) ((u_11 0 0).toNatClampNeg) z_13 ∧ (u_15 3) = upd (u_11 3) ((u_11 0 0).toNatClampNeg) (if 1 ≤ (nmT (z_12.toNatClampNeg)).toInt then (0 : Int32) else -1) ∧ (u_15 4) = upd (u_11 4) ((u_11 0 0).toNatClampNeg) (if (nmT (z_12.toNatClampNeg)).toInt = 2 then r_10 else -1)) ∧ (¬ (u_11 0 0).toInt < 24 → (u_15 1) = (u_11 1) ∧ (u_15 2) = (u_11 2) ∧ (u_15 3) = (u_11 3) ∧ (u_15 4) = (u_11 4))) := hapu_15
      have hme : (∀ j : Nat, (j : Int) < (u_15 0 0).toInt → mesP (u_15 1) (u_15 2) (u_15 3) (u_15 4) (u_15 5) (u_15 6) (u_15 7) j) := hme
      obtain ⟨hP1, hD1⟩ := hB
      rw [ht] at hP1
      obtain ⟨hP, hD⟩ := va_repl [(h0, .inr (7, [.int n, .ref yb, .ref ki, .ref nu, .int wd, .int (u_11 8 0), .int nb])), (ki, .inl (T 0, 24, .inl fk)), (nu, .inl (T 0, 24, .inl fn)), (o1, .inr (1, [.int (u_15 0 0), .ref c1, .ref c2, .ref c3, .ref c4, .ref c5, .ref c6, .ref c7])), (c1, .inl (T 0, 24, .inl (u_15 1))), (c2, .inl (T 0, 24, .inl (u_15 2))), (c3, .inl (T 0, 24, .inl (u_15 3))), (c4, .inl (T 0, 24, .inl (u_15 4))), (c5, .inl (T 0, 24, .inl (u_15 5))), (c6, .inl (T 0, 24, .inl (u_15 6))), (c7, .inl (T 0, 24, .inl (u_15 7)))] hP hD [3, 4, 5, 6, 7, 8, 9, 10] [3, 4, 5, 6, 7, 8, 9, 10] rfl (by decide +kernel) rfl rfl rfl hk1 hP1
      clear hP1 hD1 hFc
      generalize H1 = H at hP hS ⊢
      obtain ⟨hr9, hr8, hr7⟩ := haru_15.resolve_left (by intro h9; omega)
      have hr6 : r_14.toInt = ((u_11 0 0)).toInt := by rw [hr8]
      exact W.iret hx hb hr (fun t ht hW => ⟨⟨_, (fun k => [fun _ => (u_15 0 0), (u_15 1), (u_15 2), (u_15 3), (u_15 4), (u_15 5), (u_15 6), (u_15 7), fun _ => (u_11 8 0)].getD k f1), rfl, (by exfalso; omega), by rw [ht]; exact hP.sub [0, 1, 2, 3, 4, 5, 6, 7, 8, 9, 10] rfl, hD.sub [0, 1, 2, 3, 4, 5, 6, 7, 8, 9, 10] (by decide +kernel) rfl⟩, hS.F ht⟩) hS.2.2 dX10_build_94
  · rw [fa_lt] at c_4
    try rw [ti_1] at c_4
    have hl9 := okT_lt (f := fk) (x := z_1) (W := wd) (by omega) hsm (by omega)
    refine lv_aload_n hx hb dX10_build_47 rfl (lv_at hl 2 rfl) ?_
    refine lv_aload_n hx hb dX10_build_48 rfl (lv_at hl 3 rfl) ?_
    have hFc := va_free (wc := [(h0, .inr (7, [.int n, .ref yb, .ref ki, .ref nu, .int wd, .int z_1, .int nb])), (ki, .inl (T 0, 24, .inl fk)), (nu, .inl (T 0, 24, .inl fn)), (o1, .inr (1, [.int n0, .ref c1, .ref c2, .ref c3, .ref c4, .ref c5, .ref c6, .ref c7])), (c1, .inl (T 0, 24, .inl f1)), (c2, .inl (T 0, 24, .inl f2)), (c3, .inl (T 0, 24, .inl f3)), (c4, .inl (T 0, 24, .inl f4)), (c5, .inl (T 0, 24, .inl f5)), (c6, .inl (T 0, 24, .inl f6)), (c7, .inl (T 0, 24, .inl f7))]) hD hS hA [0, 1, 2, 3, 4, 5, 6, 7, 8, 9, 10] rfl
    refine va_calli (va_runV (As := [.ref o1]) (rest := []) ⟨hx, hb, hml, hown, hts⟩ (hrec _ h0 yb ki nu n wd z_1 nb fk fn o1 n0 c1 c2 c3 c4 c5 c6 c7 f1 f2 f3 f4 f5 f6 f7 (by omega) hok (by (try simp only [ti_0]); omega) hkT hsm (by (try simp only [ti_0]); omega) hme (by (try simp only [ti_0]); omega)) (cwV 1 hts gX10_build_X10_build rfl rfl rfl hv_X10_build ⟨(show _ ≤ ((d + 1) + 5 : Nat) from by (try dsimp only); omega), (show _ ≤ (32 * (d + 1) + 150 : Nat) from by (try dsimp only); omega)⟩) (pWk_V (q := (RX10, TX10, 7)) (ci := 7) (q0 := 0) hP hE hD hV hS hFc rfl rfl [0, 1, 2, 3, 4, 5, 6, 7, 8, 9, 10] (by decide +kernel) rfl rfl) rfl rfl hl.1 rfl (lv_room (Nat.le_of_ble_eq_true rfl)) dX10_build_49 ⟨Nat.le_of_ble_eq_true rfl, Nat.le_of_ble_eq_true rfl⟩) hS (fun q _ h => hFc q h) hFc (fun r_16 u_17 t H1 locs ht hvm hr_16 hB hz1 hk1 hS => ?_)
    obtain ⟨hrau_17, hrbu_17, hrcu_17, hrdu_17, ⟨hszu_17, hok⟩, hbAu_17, hme⟩ := hr_16
    have hbAu_17 : ∀ A : clsA, rlC n0 f1 f2 f3 f4 A → ∃ (nb rb : Nat) (B : clsA), bldR fk fn z_1.toNatClampNeg A nb rb B ∧ (u_17 8 0).toInt = nb ∧ r_16 = nI rb ∧ rlC (u_17 0 0) (u_17 1) (u_17 2) (u_17 3) (u_17 4) B := hbAu_17
    have hme : (∀ j : Nat, (j : Int) < (u_17 0 0).toInt → mesP (u_17 1) (u_17 2) (u_17 3) (u_17 4) (u_17 5) (u_17 6) (u_17 7) j) := hme
    obtain ⟨hP1, hD1⟩ := hB
    rw [ht] at hP1
    obtain ⟨hP, hD⟩ := va_repl [(h0, .inr (7, [.int n, .ref yb, .ref ki, .ref nu, .int wd, .int (u_17 8 0), .int nb])), (ki, .inl (T 0, 24, .inl fk)), (nu, .inl (T 0, 24, .inl fn)), (o1, .inr (1, [.int (u_17 0 0), .ref c1, .ref c2, .ref c3, .ref c4, .ref c5, .ref c6, .ref c7])), (c1, .inl (T 0, 24, .inl (u_17 1))), (c2, .inl (T 0, 24, .inl (u_17 2))), (c3, .inl (T 0, 24, .inl (u_17 3))), (c4, .inl (T 0, 24, .inl (u_17 4))), (c5, .inl (T 0, 24, .inl (u_17 5))), (c6, .inl (T 0, 24, .inl (u_17 6))), (c7, .inl (T 0, 24, .inl (u_17 7)))] hP hD [0, 1, 2, 3, 4, 5, 6, 7, 8, 9, 10] [0, 1, 2, 3, 4, 5, 6, 7, 8, 9, 10] rfl (by decide +kernel) rfl rfl rfl hk1 hP1
    clear hP1 hD1 hFc
    generalize H1 = H at hP hS ⊢
    refine lv_goto (tgt := 56) hx hb dX10_build_52 (by decide +kernel) ?_
    refine lv_istore (lv' := [(4, .int r_16), (3, .int z_3), (2, .int nx), (0, .ref h0), (1, .ref o1)]) hx hb dX10_build_56 hl (by decide +kernel) rfl (fun ls hl => ?_)
    refine lv_iload_n hx hb dX10_build_58 rfl (lv_at hl 1 rfl) ?_
    refine lv_iconst (v := 2) hx hb dX10_build_59 (by decide +kernel) ?_
    refine lv_icmp_ne (tgt := 71) hx hb dX10_build_60 (by decide +kernel) (fun c_18 => ?_) (fun c_18 => ?_)
    · rw [fa_eq] at c_18
      try rw [ti_2] at c_18
      refine lv_iconst (v := 0) hx hb dX10_build_71 (by decide +kernel) ?_
      refine lv_istore (lv' := [(5, .int 0), (4, .int r_16), (3, .int z_3), (2, .int nx), (0, .ref h0), (1, .ref o1)]) hx hb dX10_build_72 hl (by decide +kernel) rfl (fun ls hl => ?_)
      refine lv_aload_n hx hb dX10_build_74 rfl (lv_at hl 5 rfl) ?_
      refine lv_aload_n hx hb dX10_build_75 rfl (lv_at hl 4 rfl) ?_
      refine va_get (D := D) (ci := 7) (v := .ref ki) (C := RX10) (T := TX10) (N := 7) hx hb hts in_X10_build_X10 hown hE.1 hP 0 rfl rfl 2 (by decide +kernel) (hts (.fieldLink RX10 19 "ClauseBook$Tape" "kinds" "[I") (List.mem_of_getElem? (i := 3) rfl)) (fun _ h9 => h9) rfl dX10_build_76 ?_
      refine lv_iload_n hx hb dX10_build_79 rfl (lv_at hl 3 rfl) ?_
      refine va_iald hx hb hE.1 hP 1 0 rfl rfl (by rw [vp_in_iff]; first | omega | (subst_vars; omega)) dX10_build_80 ?_
      refine lv_topi (fun z_19 ez_19 => ?_)
      refine lv_aload_n hx hb dX10_build_81 rfl (lv_at hl 4 rfl) ?_
      refine va_get (D := D) (ci := 7) (v := .ref nu) (C := RX10) (T := TX10) (N := 7) hx hb hts in_X10_build_X10 hown hE.1 hP 0 rfl rfl 3 (by decide +kernel) (hts (.fieldLink RX10 22 "ClauseBook$Tape" "numbers" "[I") (List.mem_of_getElem? (i := 5) rfl)) (fun _ h9 => h9) rfl dX10_build_82 ?_
      refine lv_iload_n hx hb dX10_build_85 rfl (lv_at hl 3 rfl) ?_
      refine va_iald hx hb hE.1 hP 2 0 rfl rfl (by rw [vp_in_iff]; first | omega | (subst_vars; omega)) dX10_build_86 ?_
      refine lv_topi (fun z_20 ez_20 => ?_)
      refine lv_iload hx hb dX10_build_87 (lv_at hl 1 rfl) ?_
      refine lv_iload hx hb dX10_build_89 (lv_at hl 0 rfl) ?_
      have hzz : z_19 = z_2 := by rw [ez_19, ez_2]
      have hFc := va_free (wc := [(o1, .inr (1, [.int (u_17 0 0), .ref c1, .ref c2, .ref c3, .ref c4, .ref c5, .ref c6, .ref c7])), (c1, .inl (T 0, 24, .inl (u_17 1))), (c2, .inl (T 0, 24, .inl (u_17 2))), (c3, .inl (T 0, 24, .inl (u_17 3))), (c4, .inl (T 0, 24, .inl (u_17 4))), (c5, .inl (T 0, 24, .inl (u_17 5))), (c6, .inl (T 0, 24, .inl (u_17 6))), (c7, .inl (T 0, 24, .inl (u_17 7)))]) hD hS hA [3, 4, 5, 6, 7, 8, 9, 10] rfl
      refine va_calli (va_runV (As := [.int z_19, .int z_20, .int r_16, .int 0]) (rest := []) ⟨hx, hb, hml, hown, hts⟩ (c_X2_append l D T ad sa av ta _ o1 (u_17 0 0) c1 c2 c3 c4 c5 c6 c7 (u_17 1) (u_17 2) (u_17 3) (u_17 4) (u_17 5) (u_17 6) (u_17 7) z_19 z_20 r_16 0 (by omega) hok (by rw [hzz]; exact hkk) (fun a => by rw [hzz, ← ez_3] at a; first | (exfalso; omega) | omega) (fun a => by rw [hzz, ← ez_3] at a; first | (exfalso; omega) | omega) hme) (cwV 4 hts gX10_build_X2_append rfl rfl rfl hv_X2_append ⟨(show _ ≤ ((d + 1) + 5 : Nat) from by (try dsimp only); omega), (show _ ≤ (32 * (d + 1) + 150 : Nat) from by (try dsimp only); omega)⟩) (pWk_V (q := (RX2, TX2, 8)) (ci := 1) (q0 := 3) hP hE hD hV hS hFc rfl rfl [3, 4, 5, 6, 7, 8, 9, 10] (by decide +kernel) rfl rfl) rfl rfl hl.1 rfl (lv_room (Nat.le_of_ble_eq_true rfl)) dX10_build_91 ⟨Nat.le_of_ble_eq_true rfl, Nat.le_of_ble_eq_true rfl⟩) hS (fun q _ h => hFc q h) hFc (fun r_21 u_22 t H1 locs ht hvm hr_21 hB hz1 hk1 hS => ?_)
      obtain ⟨haru_22, ⟨hszu_22, hok⟩, hapu_22, hme⟩ := hr_21
      have hapu_22 : (((u_17 0 0).toInt < 24 → (u_22 1) = upd (u_17 1) ((u_17 0 0).toNatClampNeg) z_19 ∧ (u_22 2) = upd (u_17 2) ((u_17 0 0).toNatClampNeg) z_20 ∧ (u_22 3) = upd (u_17 3) ((u_17 0 0).toNatClampNeg) (if 1 ≤ (nmT (z_19.toNatClampNeg)).toInt then r_16 else -1) ∧ (u_22 4) = upd (u_17 4) ((u_17 0 0).toNatClampNeg) (if (nmT (z_19.toNatClampNeg)).toInt = 2 then (0 : Int32) else -1)) ∧ (¬ (u_17 0 0).toInt < 24 → (u_22 1) = (u_17 1) ∧ (u_22 2) = (u_17 2) ∧ (u_22 3) = (u_17 3) ∧ (u_22 4) = (u_17 4))) := hapu_22
      have hme : (∀ j : Nat, (j : Int) < (u_22 0 0).toInt → mesP (u_22 1) (u_22 2) (u_22 3) (u_22 4) (u_22 5) (u_22 6) (u_22 7) j) := hme
      obtain ⟨hP1, hD1⟩ := hB
      rw [ht] at hP1
      obtain ⟨hP, hD⟩ := va_repl [(h0, .inr (7, [.int n, .ref yb, .ref ki, .ref nu, .int wd, .int (u_17 8 0), .int nb])), (ki, .inl (T 0, 24, .inl fk)), (nu, .inl (T 0, 24, .inl fn)), (o1, .inr (1, [.int (u_22 0 0), .ref c1, .ref c2, .ref c3, .ref c4, .ref c5, .ref c6, .ref c7])), (c1, .inl (T 0, 24, .inl (u_22 1))), (c2, .inl (T 0, 24, .inl (u_22 2))), (c3, .inl (T 0, 24, .inl (u_22 3))), (c4, .inl (T 0, 24, .inl (u_22 4))), (c5, .inl (T 0, 24, .inl (u_22 5))), (c6, .inl (T 0, 24, .inl (u_22 6))), (c7, .inl (T 0, 24, .inl (u_22 7)))] hP hD [3, 4, 5, 6, 7, 8, 9, 10] [3, 4, 5, 6, 7, 8, 9, 10] rfl (by decide +kernel) rfl rfl rfl hk1 hP1
      clear hP1 hD1 hFc
      generalize H1 = H at hP hS ⊢
      obtain ⟨hr9, hr8, hr7⟩ := haru_22.resolve_left (by intro h9; omega)
      have hr6 : r_21.toInt = ((u_17 0 0)).toInt := by rw [hr8]
      exact W.iret hx hb hr (fun t ht hW => ⟨⟨_, (fun k => [fun _ => (u_22 0 0), (u_22 1), (u_22 2), (u_22 3), (u_22 4), (u_22 5), (u_22 6), (u_22 7), fun _ => (u_17 8 0)].getD k f1), rfl, ⟨(show 0 ≤ r_21.toInt ∧ r_21.toInt < ((u_22 0 0)).toInt from by omega), (show nx.toInt < ((u_17 8 0)).toInt ∧ ((u_17 8 0)).toInt ≤ wd.toInt from by omega), (show smT fk ((u_17 8 0)).toNatClampNeg = smT fk nx.toNatClampNeg - 1 from by omega), (show ((u_22 0 0)).toInt = n0.toInt + (((u_17 8 0)).toInt - nx.toInt) from by omega), ⟨(show 0 ≤ ((u_22 0 0)).toInt ∧ ((u_22 0 0)).toInt ≤ 24 from by omega), (show okC (u_22 1) (u_22 3) (u_22 4) (u_22 5) from by first | exact hok | assumption)⟩, (fun A hA => by
                                                            have hnz : (nmT (fk nx.toNatClampNeg).toNatClampNeg).toInt = z_3.toInt := by rw [ez_3, ez_2]
                                                            obtain ⟨n1, c1, B1, hb1, hu1, hc1, hR1⟩ := hbAu_17 A hA
                                                            rw [tz] at hb1
                                                            have hq := bld_push (K := fk) (V := fn) (nx := nx.toNatClampNeg) (cn := c1) (dn := 0) hR1 ez_19 ez_20 hc1 rfl hr8 hr7 (hapu_22.1 (by omega))
                                                            exact ⟨_, _, _, bldR_1 (by omega) (by omega) hb1, hu1, hq.1, hq.2⟩), hme⟩, by rw [ht]; exact hP.sub [0, 1, 2, 3, 4, 5, 6, 7, 8, 9, 10] rfl, hD.sub [0, 1, 2, 3, 4, 5, 6, 7, 8, 9, 10] (by decide +kernel) rfl⟩, hS.F ht⟩) hS.2.2 dX10_build_94
    · rw [fa_eq] at c_18
      try rw [ti_2] at c_18
      have hl8 := okT_lt (f := fk) (x := (u_17 8 0)) (W := wd) (by omega) hsm (by omega)
      refine lv_aload_n hx hb dX10_build_63 rfl (lv_at hl 3 rfl) ?_
      refine lv_aload_n hx hb dX10_build_64 rfl (lv_at hl 4 rfl) ?_
      have hFc := va_free (wc := [(h0, .inr (7, [.int n, .ref yb, .ref ki, .ref nu, .int wd, .int (u_17 8 0), .int nb])), (ki, .inl (T 0, 24, .inl fk)), (nu, .inl (T 0, 24, .inl fn)), (o1, .inr (1, [.int (u_17 0 0), .ref c1, .ref c2, .ref c3, .ref c4, .ref c5, .ref c6, .ref c7])), (c1, .inl (T 0, 24, .inl (u_17 1))), (c2, .inl (T 0, 24, .inl (u_17 2))), (c3, .inl (T 0, 24, .inl (u_17 3))), (c4, .inl (T 0, 24, .inl (u_17 4))), (c5, .inl (T 0, 24, .inl (u_17 5))), (c6, .inl (T 0, 24, .inl (u_17 6))), (c7, .inl (T 0, 24, .inl (u_17 7)))]) hD hS hA [0, 1, 2, 3, 4, 5, 6, 7, 8, 9, 10] rfl
      refine va_calli (va_runV (As := [.ref o1]) (rest := []) ⟨hx, hb, hml, hown, hts⟩ (hrec _ h0 yb ki nu n wd (u_17 8 0) nb fk fn o1 (u_17 0 0) c1 c2 c3 c4 c5 c6 c7 (u_17 1) (u_17 2) (u_17 3) (u_17 4) (u_17 5) (u_17 6) (u_17 7) (by omega) hok (by (try simp only [ti_0]); omega) hkT hsm (by (try simp only [ti_0]); omega) hme (by (try simp only [ti_0]); omega)) (cwV 1 hts gX10_build_X10_build rfl rfl rfl hv_X10_build ⟨(show _ ≤ ((d + 1) + 5 : Nat) from by (try dsimp only); omega), (show _ ≤ (32 * (d + 1) + 150 : Nat) from by (try dsimp only); omega)⟩) (pWk_V (q := (RX10, TX10, 7)) (ci := 7) (q0 := 0) hP hE hD hV hS hFc rfl rfl [0, 1, 2, 3, 4, 5, 6, 7, 8, 9, 10] (by decide +kernel) rfl rfl) rfl rfl hl.1 rfl (lv_room (Nat.le_of_ble_eq_true rfl)) dX10_build_65 ⟨Nat.le_of_ble_eq_true rfl, Nat.le_of_ble_eq_true rfl⟩) hS (fun q _ h => hFc q h) hFc (fun r_23 u_24 t H1 locs ht hvm hr_23 hB hz1 hk1 hS => ?_)
      obtain ⟨hrau_24, hrbu_24, hrcu_24, hrdu_24, ⟨hszu_24, hok⟩, hbAu_24, hme⟩ := hr_23
      have hbAu_24 : ∀ A : clsA, rlC (u_17 0 0) (u_17 1) (u_17 2) (u_17 3) (u_17 4) A → ∃ (nb rb : Nat) (B : clsA), bldR fk fn (u_17 8 0).toNatClampNeg A nb rb B ∧ (u_24 8 0).toInt = nb ∧ r_23 = nI rb ∧ rlC (u_24 0 0) (u_24 1) (u_24 2) (u_24 3) (u_24 4) B := hbAu_24
      have hme : (∀ j : Nat, (j : Int) < (u_24 0 0).toInt → mesP (u_24 1) (u_24 2) (u_24 3) (u_24 4) (u_24 5) (u_24 6) (u_24 7) j) := hme
      obtain ⟨hP1, hD1⟩ := hB
      rw [ht] at hP1
      obtain ⟨hP, hD⟩ := va_repl [(h0, .inr (7, [.int n, .ref yb, .ref ki, .ref nu, .int wd, .int (u_24 8 0), .int nb])), (ki, .inl (T 0, 24, .inl fk)), (nu, .inl (T 0, 24, .inl fn)), (o1, .inr (1, [.int (u_24 0 0), .ref c1, .ref c2, .ref c3, .ref c4, .ref c5, .ref c6, .ref c7])), (c1, .inl (T 0, 24, .inl (u_24 1))), (c2, .inl (T 0, 24, .inl (u_24 2))), (c3, .inl (T 0, 24, .inl (u_24 3))), (c4, .inl (T 0, 24, .inl (u_24 4))), (c5, .inl (T 0, 24, .inl (u_24 5))), (c6, .inl (T 0, 24, .inl (u_24 6))), (c7, .inl (T 0, 24, .inl (u_24 7)))] hP hD [0, 1, 2, 3, 4, 5, 6, 7, 8, 9, 10] [0, 1, 2, 3, 4, 5, 6, 7, 8, 9, 10] rfl (by decide +kernel) rfl rfl rfl hk1 hP1
      clear hP1 hD1 hFc
      generalize H1 = H at hP hS ⊢
      refine lv_goto (tgt := 72) hx hb dX10_build_68 (by decide +kernel) ?_
      refine lv_istore (lv' := [(5, .int r_23), (4, .int r_16), (3, .int z_3), (2, .int nx), (0, .ref h0), (1, .ref o1)]) hx hb dX10_build_72 hl (by decide +kernel) rfl (fun ls hl => ?_)
      refine lv_aload_n hx hb dX10_build_74 rfl (lv_at hl 5 rfl) ?_
      refine lv_aload_n hx hb dX10_build_75 rfl (lv_at hl 4 rfl) ?_
      refine va_get (D := D) (ci := 7) (v := .ref ki) (C := RX10) (T := TX10) (N := 7) hx hb hts in_X10_build_X10 hown hE.1 hP 0 rfl rfl 2 (by decide +kernel) (hts (.fieldLink RX10 19 "ClauseBook$Tape" "kinds" "[I") (List.mem_of_getElem? (i := 3) rfl)) (fun _ h9 => h9) rfl dX10_build_76 ?_
      refine lv_iload_n hx hb dX10_build_79 rfl (lv_at hl 3 rfl) ?_
      refine va_iald hx hb hE.1 hP 1 0 rfl rfl (by rw [vp_in_iff]; first | omega | (subst_vars; omega)) dX10_build_80 ?_
      refine lv_topi (fun z_25 ez_25 => ?_)
      refine lv_aload_n hx hb dX10_build_81 rfl (lv_at hl 4 rfl) ?_
      refine va_get (D := D) (ci := 7) (v := .ref nu) (C := RX10) (T := TX10) (N := 7) hx hb hts in_X10_build_X10 hown hE.1 hP 0 rfl rfl 3 (by decide +kernel) (hts (.fieldLink RX10 22 "ClauseBook$Tape" "numbers" "[I") (List.mem_of_getElem? (i := 5) rfl)) (fun _ h9 => h9) rfl dX10_build_82 ?_
      refine lv_iload_n hx hb dX10_build_85 rfl (lv_at hl 3 rfl) ?_
      refine va_iald hx hb hE.1 hP 2 0 rfl rfl (by rw [vp_in_iff]; first | omega | (subst_vars; omega)) dX10_build_86 ?_
      refine lv_topi (fun z_26 ez_26 => ?_)
      refine lv_iload hx hb dX10_build_87 (lv_at hl 1 rfl) ?_
      refine lv_iload hx hb dX10_build_89 (lv_at hl 0 rfl) ?_
      have hzz : z_25 = z_2 := by rw [ez_25, ez_2]
      have hFc := va_free (wc := [(o1, .inr (1, [.int (u_24 0 0), .ref c1, .ref c2, .ref c3, .ref c4, .ref c5, .ref c6, .ref c7])), (c1, .inl (T 0, 24, .inl (u_24 1))), (c2, .inl (T 0, 24, .inl (u_24 2))), (c3, .inl (T 0, 24, .inl (u_24 3))), (c4, .inl (T 0, 24, .inl (u_24 4))), (c5, .inl (T 0, 24, .inl (u_24 5))), (c6, .inl (T 0, 24, .inl (u_24 6))), (c7, .inl (T 0, 24, .inl (u_24 7)))]) hD hS hA [3, 4, 5, 6, 7, 8, 9, 10] rfl
      refine va_calli (va_runV (As := [.int z_25, .int z_26, .int r_16, .int r_23]) (rest := []) ⟨hx, hb, hml, hown, hts⟩ (c_X2_append l D T ad sa av ta _ o1 (u_24 0 0) c1 c2 c3 c4 c5 c6 c7 (u_24 1) (u_24 2) (u_24 3) (u_24 4) (u_24 5) (u_24 6) (u_24 7) z_25 z_26 r_16 r_23 (by omega) hok (by rw [hzz]; exact hkk) (fun a => by rw [hzz, ← ez_3] at a; first | (exfalso; omega) | omega) (fun a => by rw [hzz, ← ez_3] at a; first | (exfalso; omega) | omega) hme) (cwV 4 hts gX10_build_X2_append rfl rfl rfl hv_X2_append ⟨(show _ ≤ ((d + 1) + 5 : Nat) from by (try dsimp only); omega), (show _ ≤ (32 * (d + 1) + 150 : Nat) from by (try dsimp only); omega)⟩) (pWk_V (q := (RX2, TX2, 8)) (ci := 1) (q0 := 3) hP hE hD hV hS hFc rfl rfl [3, 4, 5, 6, 7, 8, 9, 10] (by decide +kernel) rfl rfl) rfl rfl hl.1 rfl (lv_room (Nat.le_of_ble_eq_true rfl)) dX10_build_91 ⟨Nat.le_of_ble_eq_true rfl, Nat.le_of_ble_eq_true rfl⟩) hS (fun q _ h => hFc q h) hFc (fun r_27 u_28 t H1 locs ht hvm hr_27 hB hz1 hk1 hS => ?_)
      obtain ⟨haru_28, ⟨hszu_28, hok⟩, hapu_28, hme⟩ := hr_27
      have hapu_28 : (((u_24 0 0).toInt < 24 → (u_28 1) = upd (u_24 1) ((u_24 0 0).toNatClampNeg) z_25 ∧ (u_28 2) = upd (u_24 2) ((u_24 0 0).toNatClampNeg) z_26 ∧ (u_28 3) = upd (u_24 3) ((u_24 0 0).toNatClampNeg) (if 1 ≤ (nmT (z_25.toNatClampNeg)).toInt then r_16 else -1) ∧ (u_28 4) = upd (u_24 4) ((u_24 0 0).toNatClampNeg) (if (nmT (z_25.toNatClampNeg)).toInt = 2 then r_23 else -1)) ∧ (¬ (u_24 0 0).toInt < 24 → (u_28 1) = (u_24 1) ∧ (u_28 2) = (u_24 2) ∧ (u_28 3) = (u_24 3) ∧ (u_28 4) = (u_24 4))) := hapu_28
      have hme : (∀ j : Nat, (j : Int) < (u_28 0 0).toInt → mesP (u_28 1) (u_28 2) (u_28 3) (u_28 4) (u_28 5) (u_28 6) (u_28 7) j) := hme
      obtain ⟨hP1, hD1⟩ := hB
      rw [ht] at hP1
      obtain ⟨hP, hD⟩ := va_repl [(h0, .inr (7, [.int n, .ref yb, .ref ki, .ref nu, .int wd, .int (u_24 8 0), .int nb])), (ki, .inl (T 0, 24, .inl fk)), (nu, .inl (T 0, 24, .inl fn)), (o1, .inr (1, [.int (u_28 0 0), .ref c1, .ref c2, .ref c3, .ref c4, .ref c5, .ref c6, .ref c7])), (c1, .inl (T 0, 24, .inl (u_28 1))), (c2, .inl (T 0, 24, .inl (u_28 2))), (c3, .inl (T 0, 24, .inl (u_28 3))), (c4, .inl (T 0, 24, .inl (u_28 4))), (c5, .inl (T 0, 24, .inl (u_28 5))), (c6, .inl (T 0, 24, .inl (u_28 6))), (c7, .inl (T 0, 24, .inl (u_28 7)))] hP hD [3, 4, 5, 6, 7, 8, 9, 10] [3, 4, 5, 6, 7, 8, 9, 10] rfl (by decide +kernel) rfl rfl rfl hk1 hP1
      clear hP1 hD1 hFc
      generalize H1 = H at hP hS ⊢
      obtain ⟨hr9, hr8, hr7⟩ := haru_28.resolve_left (by intro h9; omega)
      have hr6 : r_27.toInt = ((u_24 0 0)).toInt := by rw [hr8]
      exact W.iret hx hb hr (fun t ht hW => ⟨⟨_, (fun k => [fun _ => (u_28 0 0), (u_28 1), (u_28 2), (u_28 3), (u_28 4), (u_28 5), (u_28 6), (u_28 7), fun _ => (u_24 8 0)].getD k f1), rfl, ⟨(show 0 ≤ r_27.toInt ∧ r_27.toInt < ((u_28 0 0)).toInt from by omega), (show nx.toInt < ((u_24 8 0)).toInt ∧ ((u_24 8 0)).toInt ≤ wd.toInt from by omega), (show smT fk ((u_24 8 0)).toNatClampNeg = smT fk nx.toNatClampNeg - 1 from by omega), (show ((u_28 0 0)).toInt = n0.toInt + (((u_24 8 0)).toInt - nx.toInt) from by omega), ⟨(show 0 ≤ ((u_28 0 0)).toInt ∧ ((u_28 0 0)).toInt ≤ 24 from by omega), (show okC (u_28 1) (u_28 3) (u_28 4) (u_28 5) from by first | exact hok | assumption)⟩, (fun A hA => by
                                                            have hnz : (nmT (fk nx.toNatClampNeg).toNatClampNeg).toInt = z_3.toInt := by rw [ez_3, ez_2]
                                                            obtain ⟨n1, c1, B1, hb1, hu1, hc1, hR1⟩ := hbAu_17 A hA
                                                            obtain ⟨n2, c2, B2, hb2, hu2, hc2, hR2⟩ := hbAu_24 B1 hR1
                                                            rw [tz] at hb1
                                                            have hn1 : (u_17 8 0).toNatClampNeg = n1 := by have t1 := tn (x := (u_17 8 0)) (by omega); omega
                                                            rw [hn1] at hb2
                                                            have hq := bld_push (K := fk) (V := fn) (nx := nx.toNatClampNeg) (cn := c1) (dn := c2) hR2 ez_25 ez_26 hc1 hc2 hr8 hr7 (hapu_28.1 (by omega))
                                                            exact ⟨_, _, _, bldR_2 (by omega) hb1 hb2, hu2, hq.1, hq.2⟩), hme⟩, by rw [ht]; exact hP.sub [0, 1, 2, 3, 4, 5, 6, 7, 8, 9, 10] rfl, hD.sub [0, 1, 2, 3, 4, 5, 6, 7, 8, 9, 10] (by decide +kernel) rfl⟩, hS.F ht⟩) hS.2.2 dX10_build_94
theorem cB_all (l : Launch) (D : va_G) (T : Nat → ClassId) (ad sa av : Nat → Nat) (ta : Nat) : ∀ d : Nat, cB_build l D T ad sa av ta d
  | 0 => by
    intro sz h0 yb ki nu n wd nx nb fk fn o1 n0 c1 c2 c3 c4 c5 c6 c7 f1 f2 f3 f4 f5 f6 f7 hn0 hok hnx hkT hsm hro hme hdep
    exfalso
    omega
  | d + 1 => by
    intro sz h0 yb ki nu n wd nx nb fk fn o1 n0 c1 c2 c3 c4 c5 c6 c7 f1 f2 f3 f4 f5 f6 f7 hn0 hok hnx hkT hsm hro hme hdep
    exact s_X10_build l D T ad sa av ta sz h0 yb ki nu n wd nx nb fk fn o1 n0 c1 c2 c3 c4 c5 c6 c7 f1 f2 f3 f4 f5 f6 f7 d hn0 hok hnx hkT hsm hro hme (by omega) (cB_all l D T ad sa av ta d)
theorem dX12_text_0 : decode cX12_text 0 = .ok (.aload_n 0, 1) := by decide +kernel
theorem dX12_text_1 : decode cX12_text 1 = .ok (.getfield 59, 3) := by decide +kernel
theorem dX12_text_10 : decode cX12_text 10 = .ok (.getfield 138, 3) := by decide +kernel
theorem dX12_text_13 : decode cX12_text 13 = .ok (.isub, 1) := by decide +kernel
theorem dX12_text_14 : decode cX12_text 14 = .ok (.invokevirtual 289, 3) := by decide +kernel
theorem dX12_text_17 : decode cX12_text 17 = .ok (.istore_n 1, 1) := by decide +kernel
theorem dX12_text_18 : decode cX12_text 18 = .ok (.aload_n 0, 1) := by decide +kernel
theorem dX12_text_19 : decode cX12_text 19 = .ok (.getfield 59, 3) := by decide +kernel
theorem dX12_text_22 : decode cX12_text 22 = .ok (.iconst 0, 1) := by decide +kernel
theorem dX12_text_23 : decode cX12_text 23 = .ok (.putfield 285, 3) := by decide +kernel
theorem dX12_text_26 : decode cX12_text 26 = .ok (.iload_n 1, 1) := by decide +kernel
theorem dX12_text_27 : decode cX12_text 27 = .ok (.iconst (-1), 1) := by decide +kernel
theorem dX12_text_28 : decode cX12_text 28 = .ok (.if_icmp .eq 8, 3) := by decide +kernel
theorem dX12_text_31 : decode cX12_text 31 = .ok (.bipush (-100), 2) := by decide +kernel
theorem dX12_text_33 : decode cX12_text 33 = .ok (.iload_n 1, 1) := by decide +kernel
theorem dX12_text_34 : decode cX12_text 34 = .ok (.isub, 1) := by decide +kernel
theorem dX12_text_35 : decode cX12_text 35 = .ok (.ireturn, 1) := by decide +kernel
theorem dX12_text_36 : decode cX12_text 36 = .ok (.aload_n 0, 1) := by decide +kernel
theorem dX12_text_37 : decode cX12_text 37 = .ok (.getfield 59, 3) := by decide +kernel
theorem dX12_text_4 : decode cX12_text 4 = .ok (.bipush 24, 2) := by decide +kernel
theorem dX12_text_40 : decode cX12_text 40 = .ok (.iconst 0, 1) := by decide +kernel
theorem dX12_text_41 : decode cX12_text 41 = .ok (.putfield 293, 3) := by decide +kernel
theorem dX12_text_44 : decode cX12_text 44 = .ok (.aload_n 0, 1) := by decide +kernel
theorem dX12_text_45 : decode cX12_text 45 = .ok (.getfield 59, 3) := by decide +kernel
theorem dX12_text_48 : decode cX12_text 48 = .ok (.aload_n 0, 1) := by decide +kernel
theorem dX12_text_49 : decode cX12_text 49 = .ok (.getfield 32, 3) := by decide +kernel
theorem dX12_text_52 : decode cX12_text 52 = .ok (.invokevirtual 296, 3) := by decide +kernel
theorem dX12_text_55 : decode cX12_text 55 = .ok (.ireturn, 1) := by decide +kernel
theorem dX12_text_6 : decode cX12_text 6 = .ok (.aload_n 0, 1) := by decide +kernel
theorem dX12_text_7 : decode cX12_text 7 = .ok (.getfield 32, 3) := by decide +kernel
set_option maxRecDepth 20000 in
theorem ggX12_text_X10_build : GoodIn wsX12_text wsX10_build := goodIn_r _ [103, 104, 11, 14, 19, 18, 105, 101, 102, 9, 106, 107, 108, 109, 110, 111, 112, 113, 114, 115, 116, 117, 118, 119, 120, 121, 122, 123, 124, 125, 126, 127, 128, 129, 130, 131, 132, 133, 26, 134, 135, 136, 25, 27, 156, 157, 158, 159, 160, 161, 162, 148, 149, 150, 151, 152, 153, 154, 155] rfl (by decide +kernel)
set_option maxRecDepth 40000 in
theorem ggX12_text_X10_scan_0 : GoodIn wsX12_text [.code yX10_scan cX10_scan 9 (some .int)] := goodIn_r _ [10] rfl (by decide +kernel)
set_option maxRecDepth 40000 in
theorem ggX12_text_X10_scan_1 : GoodIn wsX12_text wsX10_scan_r1 := goodIn_r _ [11, 12, 13, 14, 15, 16, 17, 18, 19, 20, 21, 22, 9, 23, 24, 25, 26, 27, 28, 29, 30, 31, 32, 33] rfl (by decide +kernel)
set_option maxRecDepth 40000 in
theorem ggX12_text_X10_scan_2 : GoodIn wsX12_text wsX10_scan_r2 := goodIn_r _ [34, 35, 36, 37, 38, 39, 40, 41, 42, 43, 44, 45, 46, 47, 48, 49, 50, 51, 52, 53, 54, 55, 56, 57] rfl (by decide +kernel)
set_option maxRecDepth 40000 in
theorem ggX12_text_X10_scan_3 : GoodIn wsX12_text wsX10_scan_r3 := goodIn_r _ [58, 59, 60, 61, 62, 63, 64, 65, 66, 67, 68, 69, 70, 71, 72, 73, 74, 75, 76, 77, 78, 79, 80, 81] rfl (by decide +kernel)
set_option maxRecDepth 40000 in
theorem ggX12_text_X10_scan_4 : GoodIn wsX12_text wsX10_scan_r4 := goodIn_r _ [82, 83, 84, 85, 86, 87, 88, 89, 90, 91, 92, 93, 94, 95, 96, 97, 98, 99] rfl (by decide +kernel)
set_option maxRecDepth 40000 in
theorem ggX12_text_X10_scan_5 : GoodIn wsX12_text wsX100 := goodIn_r _ [156, 157, 158, 159, 160, 161, 162] rfl (by decide +kernel)
set_option maxRecDepth 40000 in
theorem ggX12_text_X10_scan : GoodIn wsX12_text wsX10_scan := (goodIn_app ggX12_text_X10_scan_0 (goodIn_app (goodIn_app ggX12_text_X10_scan_1 (goodIn_app ggX12_text_X10_scan_2 (goodIn_app ggX12_text_X10_scan_3 ggX12_text_X10_scan_4))) ggX12_text_X10_scan_5))
set_option maxRecDepth 20000 in
theorem gX12_text_X10_build : GoodIn wsX12_text (wsV RX12 296 RX10 yX10_build wsX10_build) := goodIn_app (goodIn_r _ [100, 101, 102, 9] rfl (by decide +kernel)) ggX12_text_X10_build
set_option maxRecDepth 20000 in
theorem gX12_text_X10_scan : GoodIn wsX12_text (wsV RX12 289 RX10 yX10_scan wsX10_scan) := goodIn_app (goodIn_r _ [6, 7, 8, 9] rfl (by decide +kernel)) ggX12_text_X10_scan
theorem hv_X10_scan : yX10_scan.cls = RX10 ∧ yX10_scan.cls ≠ "java/lang/invoke/MethodHandle" ∧ yX10_scan.cls ≠ "java/lang/invoke/VarHandle" ∧ (parseMethodDescriptor yX10_scan.desc).map (fun d => d.parameters.length) = some 1 := by decide +kernel
set_option maxRecDepth 20000 in
theorem in_X12_text_X10 : ∀ w ∈ wsX100, w ∈ wsX12_text := sub_r [156, 157, 158, 159, 160, 161, 162] rfl
set_option maxRecDepth 20000 in
theorem in_X12_text_X12 : ∀ w ∈ wsX120, w ∈ wsX12_text := sub_r [137, 138, 139, 140, 141, 142, 143, 144, 145, 146, 147] rfl
set_option maxRecDepth 20000 in
theorem in_X12_text_X2 : ∀ w ∈ wsX20, w ∈ wsX12_text := sub_r [148, 149, 150, 151, 152, 153, 154, 155] rfl
set_option maxHeartbeats 4000000 in
set_option maxRecDepth 100000 in
theorem c_X12_text (l : Launch) (D : va_G) (T : Nat → ClassId) (ad sa av : Nat → Nat) (ta : Nat) (sz : Nat) (h0 : Nat) (tp : Nat) (fs0 : List Value) (yb : Nat) (ki : Nat) (nu : Nat) (n : Int32) (wd : Int32) (nx : Int32) (nb : Int32) (fb : Nat → Int32) (fk : Nat → Int32) (fn : Nat → Int32) (cl : Nat) (n0 : Int32) (c1 : Nat) (c2 : Nat) (c3 : Nat) (c4 : Nat) (c5 : Nat) (c6 : Nat) (c7 : Nat) (f1 : Nat → Int32) (f2 : Nat → Int32) (f3 : Nat → Int32) (f4 : Nat → Int32) (f5 : Nat → Int32) (f6 : Nat → Int32) (f7 : Nat → Int32) (e0_4 : fs0[4]? = some (.ref cl)) (e0_8 : fs0[8]? = some (.ref tp)) (hn : 0 ≤ n.toInt ∧ n.toInt ≤ 120) (hn0 : 0 ≤ n0.toInt ∧ n0.toInt ≤ 24) (hok : okC f1 f3 f4 f5) (hme : ∀ j : Nat, (j : Int) < n0.toInt → mesP f1 f2 f3 f4 f5 f6 f7 j) : Met l yX12_text wsX12_text ({ frames := 30, cells := 0, slots := 0, locals := 943 }) (pWk [.ref h0] D T [(h0, .inr (9, fs0)), (tp, .inr (7, [.int n, .ref yb, .ref ki, .ref nu, .int wd, .int nx, .int nb])), (yb, .inl (T 0, 120, .inl fb)), (ki, .inl (T 0, 24, .inl fk)), (nu, .inl (T 0, 24, .inl fn)), (cl, .inr (1, [.int n0, .ref c1, .ref c2, .ref c3, .ref c4, .ref c5, .ref c6, .ref c7])), (c1, .inl (T 0, 24, .inl f1)), (c2, .inl (T 0, 24, .inl f2)), (c3, .inl (T 0, 24, .inl f3)), (c4, .inl (T 0, 24, .inl f4)), (c5, .inl (T 0, 24, .inl f5)), (c6, .inl (T 0, 24, .inl f6)), (c7, .inl (T 0, 24, .inl f7))] sz ad sa av ta) (va_Qi (fun (r : Int32) (u : Nat → Nat → Int32) => ((0 ≤ (u 0 0).toInt ∧ (u 0 0).toInt ≤ 24) ∧ okC (u 1) (u 3) (u 4) (u 5)) ∧ textC fb n n0 r (u 0 0) f1 f2 f3 f4 (u 1) (u 2) (u 3) (u 4) ∧ (∀ j : Nat, (j : Int) < (u 0 0).toInt → mesP (u 1) (u 2) (u 3) (u 4) (u 5) (u 6) (u 7) j)) (bW D (va_A [(h0, .inr (9, fs0)), (tp, .inr (7, [.int n, .ref yb, .ref ki, .ref nu, .int wd, .int nx, .int nb])), (yb, .inl (T 0, 120, .inl fb)), (ki, .inl (T 0, 24, .inl fk)), (nu, .inl (T 0, 24, .inl fn)), (cl, .inr (1, [.int n0, .ref c1, .ref c2, .ref c3, .ref c4, .ref c5, .ref c6, .ref c7])), (c1, .inl (T 0, 24, .inl f1)), (c2, .inl (T 0, 24, .inl f2)), (c3, .inl (T 0, 24, .inl f3)), (c4, .inl (T 0, 24, .inl f4)), (c5, .inl (T 0, 24, .inl f5)), (c6, .inl (T 0, 24, .inl f6)), (c7, .inl (T 0, 24, .inl f7))] sz) (fun (u : Nat → Nat → Int32) => [(h0, .inr (9, fs0)), (tp, .inr (7, [.int 0, .ref yb, .ref ki, .ref nu, .int (u 9 0), .int (u 8 0), .int (u 10 0)])), (yb, .inl (T 0, 120, .inl fb)), (ki, .inl (T 0, 24, .inl (u 11))), (nu, .inl (T 0, 24, .inl (u 12))), (cl, .inr (1, [.int (u 0 0), .ref c1, .ref c2, .ref c3, .ref c4, .ref c5, .ref c6, .ref c7])), (c1, .inl (T 0, 24, .inl (u 1))), (c2, .inl (T 0, 24, .inl (u 2))), (c3, .inl (T 0, 24, .inl (u 3))), (c4, .inl (T 0, 24, .inl (u 4))), (c5, .inl (T 0, 24, .inl (u 5))), (c6, .inl (T 0, 24, .inl (u 6))), (c7, .inl (T 0, 24, .inl (u 7)))])) (va_A [(h0, .inr (9, fs0)), (tp, .inr (7, [.int n, .ref yb, .ref ki, .ref nu, .int wd, .int nx, .int nb])), (yb, .inl (T 0, 120, .inl fb)), (ki, .inl (T 0, 24, .inl fk)), (nu, .inl (T 0, 24, .inl fn)), (cl, .inr (1, [.int n0, .ref c1, .ref c2, .ref c3, .ref c4, .ref c5, .ref c6, .ref c7])), (c1, .inl (T 0, 24, .inl f1)), (c2, .inl (T 0, 24, .inl f2)), (c3, .inl (T 0, 24, .inl f3)), (c4, .inl (T 0, 24, .inl f4)), (c5, .inl (T 0, 24, .inl f5)), (c6, .inl (T 0, 24, .inl f6)), (c7, .inl (T 0, 24, .inl f7))] sz)) 0 0 (va_A [(h0, .inr (9, fs0)), (tp, .inr (7, [.int n, .ref yb, .ref ki, .ref nu, .int wd, .int nx, .int nb])), (yb, .inl (T 0, 120, .inl fb)), (ki, .inl (T 0, 24, .inl fk)), (nu, .inl (T 0, 24, .inl fn)), (cl, .inr (1, [.int n0, .ref c1, .ref c2, .ref c3, .ref c4, .ref c5, .ref c6, .ref c7])), (c1, .inl (T 0, 24, .inl f1)), (c2, .inl (T 0, 24, .inl f2)), (c3, .inl (T 0, 24, .inl f3)), (c4, .inl (T 0, 24, .inl f4)), (c5, .inl (T 0, 24, .inl f5)), (c6, .inl (T 0, 24, .inl f6)), (c7, .inl (T 0, 24, .inl f7))] sz) := by
  refine Met.ofW (cc := cX12_text) (maxL := 2) (ret := (some .int)) (by decide +kernel) rfl ?_
  intro p e s m args below meth c s₁ B hml hv
  obtain ⟨rfl, hsz, hP, hE, hD0, hV⟩ := hv
  have hx := B.exec
  have hb := B.bytes
  have hr := B.returns
  have hts := atoms_spec (ws := wsX12_text) B.pre
  have hown : s.vm.findClass RX12 = some m.cls := findClass_of_methodNamed B.named
  have hlocks := B.notSynchronized
  subst hsz
  have hD := hD0.self (sz := s.heap.size)
  generalize hAe : va_A [(h0, .inr (9, fs0)), (tp, .inr (7, [.int n, .ref yb, .ref ki, .ref nu, .int wd, .int nx, .int nb])), (yb, .inl (T 0, 120, .inl fb)), (ki, .inl (T 0, 24, .inl fk)), (nu, .inl (T 0, 24, .inl fn)), (cl, .inr (1, [.int n0, .ref c1, .ref c2, .ref c3, .ref c4, .ref c5, .ref c6, .ref c7])), (c1, .inl (T 0, 24, .inl f1)), (c2, .inl (T 0, 24, .inl f2)), (c3, .inl (T 0, 24, .inl f3)), (c4, .inl (T 0, 24, .inl f4)), (c5, .inl (T 0, 24, .inl f5)), (c6, .inl (T 0, 24, .inl f6)), (c7, .inl (T 0, 24, .inl f7))] s.heap.size = A at hD hV ⊢
  have hA : ∀ q : Nat, s.heap.size ≤ q → A q := fun q h => by rw [← hAe]; exact Or.inr h
  have hS : va_S A s.heap s.heap [] := va_S.rf
  have hP : va_P D vwCl [(h0, .inr (9, fs0)), (tp, .inr (7, [.int n, .ref yb, .ref ki, .ref nu, .int wd, .int nx, .int nb])), (yb, .inl (T 0, 120, .inl fb)), (ki, .inl (T 0, 24, .inl fk)), (nu, .inl (T 0, 24, .inl fn)), (cl, .inr (1, [.int n0, .ref c1, .ref c2, .ref c3, .ref c4, .ref c5, .ref c6, .ref c7])), (c1, .inl (T 0, 24, .inl f1)), (c2, .inl (T 0, 24, .inl f2)), (c3, .inl (T 0, 24, .inl f3)), (c4, .inl (T 0, 24, .inl f4)), (c5, .inl (T 0, 24, .inl f5)), (c6, .inl (T 0, 24, .inl f6)), (c7, .inl (T 0, 24, .inl f7))] s.heap := hP
  have hl := lv_entry ([.ref h0]) (n := 2) (Nat.le_of_ble_eq_true rfl)
  rw [lg_entry_eq]
  generalize (lg_sl ([.ref h0]) ++ List.replicate (2 - (lg_sl ([.ref h0])).length) Slot.unset).toArray = ls at hl ⊢
  have hl : lv_has ls 2 [(0, .ref h0)] := hl
  clear hD0
  refine lv_aload_n hx hb dX12_text_0 rfl (lv_at hl 0 rfl) ?_
  refine va_get (D := D) (ci := 9) (v := .ref tp) (C := RX12) (T := TX12) (N := 11) hx hb hts in_X12_text_X12 hown hE.1 hP 0 rfl rfl 8 (by decide +kernel) (hts (.fieldLink RX12 59 "ClauseBook" "tape" "LClauseBook$Tape;") (List.mem_of_getElem? (i := 1) rfl)) (fun _ h9 => h9) e0_8 dX12_text_1 ?_
  refine lv_bipush (v := 24) hx hb dX12_text_4 (by decide +kernel) ?_
  refine lv_aload_n hx hb dX12_text_6 rfl (lv_at hl 0 rfl) ?_
  refine va_get (D := D) (ci := 9) (v := .ref cl) (C := RX12) (T := TX12) (N := 11) hx hb hts in_X12_text_X12 hown hE.1 hP 0 rfl rfl 4 (by decide +kernel) (hts (.fieldLink RX12 32 "ClauseBook" "clauses" "LClauseBook$Clauses;") (List.mem_of_getElem? (i := 2) rfl)) (fun _ h9 => h9) e0_4 dX12_text_7 ?_
  refine va_get (D := D) (ci := 1) (v := .int n0) (C := RX2) (T := TX2) (N := 8) hx hb hts in_X12_text_X2 hown hE.1 hP 5 rfl rfl 0 (by decide +kernel) (hts (.fieldLink RX12 138 "ClauseBook$Clauses" "size" "I") (List.mem_of_getElem? (i := 3) rfl)) (fun _ h9 => h9) rfl dX12_text_10 ?_
  refine lv_isub hx hb dX12_text_13 ?_
  have hs9 : ((24 : Int32) - n0).toInt = 24 - n0.toInt := by rw [fb_subI (by rw [ti_24]; omega) (by rw [ti_24]; omega), ti_24]
  have hFc := va_free (wc := [(tp, .inr (7, [.int n, .ref yb, .ref ki, .ref nu, .int wd, .int nx, .int nb])), (yb, .inl (T 0, 120, .inl fb)), (ki, .inl (T 0, 24, .inl fk)), (nu, .inl (T 0, 24, .inl fn))]) hD hS hA [1, 2, 3, 4] rfl
  refine va_calli (va_runV (As := [.int (24 - n0)]) (rest := []) ⟨hx, hb, hml, hown, hts⟩ (c_X10_scan l D T ad sa av ta _ tp yb ki nu n wd nx nb fb fk fn (24 - n0) (by omega) (by omega)) (cwV 1 hts gX12_text_X10_scan rfl rfl rfl hv_X10_scan ⟨Nat.le_of_ble_eq_true rfl, Nat.le_of_ble_eq_true rfl⟩) (pWk_V (q := (RX10, TX10, 7)) (ci := 7) (q0 := 1) hP hE hD hV hS hFc rfl rfl [1, 2, 3, 4] (by decide +kernel) rfl rfl) rfl rfl hl.1 rfl (lv_room (Nat.le_of_ble_eq_true rfl)) dX12_text_14 ⟨Nat.le_of_ble_eq_true rfl, Nat.le_of_ble_eq_true rfl⟩) hS (fun q _ h => hFc q h) hFc (fun r_1 u_2 t H1 locs ht hvm hr_1 hB hz1 hk1 hS => ?_)
  obtain ⟨n_3, n_4, f_5, f_6⟩ := u_2
  have hqr_1 : (r_1.toInt = -1 ∧ txtK fb (n).toNatClampNeg ((24 - n0)).toInt f_5 f_6 n_3.toNatClampNeg ∧ (1 ≤ n_3.toInt ∧ n_3.toInt ≤ ((24 - n0)).toInt) ∧ okT f_5 n_3.toNatClampNeg ∧ smT f_5 n_3.toNatClampNeg = -1) ∨ (0 ≤ r_1.toInt ∧ txtF fb (n).toNatClampNeg ((24 - n0)).toInt r_1.toNatClampNeg) := hr_1
  obtain ⟨hP1, hD1⟩ := hB
  rw [ht] at hP1
  obtain ⟨hP, hD⟩ := va_repl [(h0, .inr (9, fs0)), (tp, .inr (7, [.int n, .ref yb, .ref ki, .ref nu, .int n_3, .int nx, .int n_4])), (yb, .inl (T 0, 120, .inl fb)), (ki, .inl (T 0, 24, .inl f_5)), (nu, .inl (T 0, 24, .inl f_6)), (cl, .inr (1, [.int n0, .ref c1, .ref c2, .ref c3, .ref c4, .ref c5, .ref c6, .ref c7])), (c1, .inl (T 0, 24, .inl f1)), (c2, .inl (T 0, 24, .inl f2)), (c3, .inl (T 0, 24, .inl f3)), (c4, .inl (T 0, 24, .inl f4)), (c5, .inl (T 0, 24, .inl f5)), (c6, .inl (T 0, 24, .inl f6)), (c7, .inl (T 0, 24, .inl f7))] hP hD [1, 2, 3, 4] [1, 2, 3, 4] rfl (by decide +kernel) rfl rfl rfl hk1 hP1
  clear hP1 hD1 hFc
  generalize H1 = H at hP hS ⊢
  refine lv_istore_n (lv' := [(1, .int r_1), (0, .ref h0)]) hx hb dX12_text_17 rfl hl (by decide +kernel) rfl (fun ls hl => ?_)
  refine lv_aload_n hx hb dX12_text_18 rfl (lv_at hl 1 rfl) ?_
  refine va_get (D := D) (ci := 9) (v := .ref tp) (C := RX12) (T := TX12) (N := 11) hx hb hts in_X12_text_X12 hown hE.1 hP 0 rfl rfl 8 (by decide +kernel) (hts (.fieldLink RX12 59 "ClauseBook" "tape" "LClauseBook$Tape;") (List.mem_of_getElem? (i := 1) rfl)) (fun _ h9 => h9) e0_8 dX12_text_19 ?_
  refine lv_iconst (v := 0) hx hb dX12_text_22 (by decide +kernel) ?_
  refine va_put (D := D) (ci := 7) (v := .int 0) (ty := .int) (C := RX10) (T := TX10) (N := 7) hx hb hts in_X12_text_X10 tyX10 tyX10_ok nmX10 hown hE.1 hP hD hS 1 rfl rfl 0 (by decide +kernel) (hts (.fieldLink RX12 285 "ClauseBook$Tape" "size" "I") (List.mem_of_getElem? (i := 4) rfl)) (fun _ h9 => h9) rfl (by decide +kernel) rfl rfl (Nat.le_of_ble_eq_true rfl) dX12_text_23 (fun H locs hP hD hS => ?_)
  obtain ⟨hP, hD⟩ := wPD [(h0, .inr (9, fs0)), (tp, .inr (7, [.int 0, .ref yb, .ref ki, .ref nu, .int n_3, .int nx, .int n_4])), (yb, .inl (T 0, 120, .inl fb)), (ki, .inl (T 0, 24, .inl f_5)), (nu, .inl (T 0, 24, .inl f_6)), (cl, .inr (1, [.int n0, .ref c1, .ref c2, .ref c3, .ref c4, .ref c5, .ref c6, .ref c7])), (c1, .inl (T 0, 24, .inl f1)), (c2, .inl (T 0, 24, .inl f2)), (c3, .inl (T 0, 24, .inl f3)), (c4, .inl (T 0, 24, .inl f4)), (c5, .inl (T 0, 24, .inl f5)), (c6, .inl (T 0, 24, .inl f6)), (c7, .inl (T 0, 24, .inl f7))] hP hD rfl
  refine lv_iload_n hx hb dX12_text_26 rfl (lv_at hl 0 rfl) ?_
  refine lv_iconst (v := (-1)) hx hb dX12_text_27 (by decide +kernel) ?_
  refine lv_icmp_eq (tgt := 36) hx hb dX12_text_28 (by decide +kernel) (fun c_7 => ?_) (fun c_7 => ?_)
  · rw [fa_eq] at c_7
    try rw [ti_n1] at c_7
    obtain ⟨_, htk, hw9, hkT, hsm⟩ := hqr_1.resolve_right (fun h9 => by have h8 := h9.1; omega)
    rw [hs9] at htk
    refine lv_aload_n hx hb dX12_text_36 rfl (lv_at hl 1 rfl) ?_
    refine va_get (D := D) (ci := 9) (v := .ref tp) (C := RX12) (T := TX12) (N := 11) hx hb hts in_X12_text_X12 hown hE.1 hP 0 rfl rfl 8 (by decide +kernel) (hts (.fieldLink RX12 59 "ClauseBook" "tape" "LClauseBook$Tape;") (List.mem_of_getElem? (i := 1) rfl)) (fun _ h9 => h9) e0_8 dX12_text_37 ?_
    refine lv_iconst (v := 0) hx hb dX12_text_40 (by decide +kernel) ?_
    refine va_put (D := D) (ci := 7) (v := .int 0) (ty := .int) (C := RX10) (T := TX10) (N := 7) hx hb hts in_X12_text_X10 tyX10 tyX10_ok nmX10 hown hE.1 hP hD hS 1 rfl rfl 5 (by decide +kernel) (hts (.fieldLink RX12 293 "ClauseBook$Tape" "next" "I") (List.mem_of_getElem? (i := 5) rfl)) (fun _ h9 => h9) rfl (by decide +kernel) rfl rfl (Nat.le_of_ble_eq_true rfl) dX12_text_41 (fun H locs hP hD hS => ?_)
    obtain ⟨hP, hD⟩ := wPD [(h0, .inr (9, fs0)), (tp, .inr (7, [.int 0, .ref yb, .ref ki, .ref nu, .int n_3, .int 0, .int n_4])), (yb, .inl (T 0, 120, .inl fb)), (ki, .inl (T 0, 24, .inl f_5)), (nu, .inl (T 0, 24, .inl f_6)), (cl, .inr (1, [.int n0, .ref c1, .ref c2, .ref c3, .ref c4, .ref c5, .ref c6, .ref c7])), (c1, .inl (T 0, 24, .inl f1)), (c2, .inl (T 0, 24, .inl f2)), (c3, .inl (T 0, 24, .inl f3)), (c4, .inl (T 0, 24, .inl f4)), (c5, .inl (T 0, 24, .inl f5)), (c6, .inl (T 0, 24, .inl f6)), (c7, .inl (T 0, 24, .inl f7))] hP hD rfl
    refine lv_aload_n hx hb dX12_text_44 rfl (lv_at hl 1 rfl) ?_
    refine va_get (D := D) (ci := 9) (v := .ref tp) (C := RX12) (T := TX12) (N := 11) hx hb hts in_X12_text_X12 hown hE.1 hP 0 rfl rfl 8 (by decide +kernel) (hts (.fieldLink RX12 59 "ClauseBook" "tape" "LClauseBook$Tape;") (List.mem_of_getElem? (i := 1) rfl)) (fun _ h9 => h9) e0_8 dX12_text_45 ?_
    refine lv_aload_n hx hb dX12_text_48 rfl (lv_at hl 1 rfl) ?_
    refine va_get (D := D) (ci := 9) (v := .ref cl) (C := RX12) (T := TX12) (N := 11) hx hb hts in_X12_text_X12 hown hE.1 hP 0 rfl rfl 4 (by decide +kernel) (hts (.fieldLink RX12 32 "ClauseBook" "clauses" "LClauseBook$Clauses;") (List.mem_of_getElem? (i := 2) rfl)) (fun _ h9 => h9) e0_4 dX12_text_49 ?_
    have hFc := va_free (wc := [(tp, .inr (7, [.int 0, .ref yb, .ref ki, .ref nu, .int n_3, .int 0, .int n_4])), (ki, .inl (T 0, 24, .inl f_5)), (nu, .inl (T 0, 24, .inl f_6)), (cl, .inr (1, [.int n0, .ref c1, .ref c2, .ref c3, .ref c4, .ref c5, .ref c6, .ref c7])), (c1, .inl (T 0, 24, .inl f1)), (c2, .inl (T 0, 24, .inl f2)), (c3, .inl (T 0, 24, .inl f3)), (c4, .inl (T 0, 24, .inl f4)), (c5, .inl (T 0, 24, .inl f5)), (c6, .inl (T 0, 24, .inl f6)), (c7, .inl (T 0, 24, .inl f7))]) hD hS hA [1, 3, 4, 5, 6, 7, 8, 9, 10, 11, 12] rfl
    refine va_calli (va_runV (As := [.ref cl]) (rest := []) ⟨hx, hb, hml, hown, hts⟩ (cB_all l D T ad sa av ta 24 _ tp yb ki nu 0 n_3 0 n_4 f_5 f_6 cl n0 c1 c2 c3 c4 c5 c6 c7 f1 f2 f3 f4 f5 f6 f7 (by omega) hok (by (try simp only [ti_0]); omega) hkT hsm (by (try simp only [ti_0]); omega) hme (by (try simp only [ti_0]); omega)) (cwV 1 hts gX12_text_X10_build rfl rfl rfl hv_X10_build ⟨Nat.le_of_ble_eq_true rfl, Nat.le_of_ble_eq_true rfl⟩) (pWk_V (q := (RX10, TX10, 7)) (ci := 7) (q0 := 1) hP hE hD hV hS hFc rfl rfl [1, 3, 4, 5, 6, 7, 8, 9, 10, 11, 12] (by decide +kernel) rfl rfl) rfl rfl hl.1 rfl (lv_room (Nat.le_of_ble_eq_true rfl)) dX12_text_52 ⟨Nat.le_of_ble_eq_true rfl, Nat.le_of_ble_eq_true rfl⟩) hS (fun q _ h => hFc q h) hFc (fun r_8 u_9 t H1 locs ht hvm hr_8 hB hz1 hk1 hS => ?_)
    obtain ⟨hrau_9, hrbu_9, hrcu_9, hrdu_9, ⟨hszu_9, hok⟩, hbAu_9, hme⟩ := hr_8
    have hbAu_9 : ∀ A : clsA, rlC n0 f1 f2 f3 f4 A → ∃ (nb rb : Nat) (B : clsA), bldR f_5 f_6 (0 : Int32).toNatClampNeg A nb rb B ∧ (u_9 8 0).toInt = nb ∧ r_8 = nI rb ∧ rlC (u_9 0 0) (u_9 1) (u_9 2) (u_9 3) (u_9 4) B := hbAu_9
    have hme : (∀ j : Nat, (j : Int) < (u_9 0 0).toInt → mesP (u_9 1) (u_9 2) (u_9 3) (u_9 4) (u_9 5) (u_9 6) (u_9 7) j) := hme
    obtain ⟨hP1, hD1⟩ := hB
    rw [ht] at hP1
    obtain ⟨hP, hD⟩ := va_repl [(h0, .inr (9, fs0)), (tp, .inr (7, [.int 0, .ref yb, .ref ki, .ref nu, .int n_3, .int (u_9 8 0), .int n_4])), (yb, .inl (T 0, 120, .inl fb)), (ki, .inl (T 0, 24, .inl f_5)), (nu, .inl (T 0, 24, .inl f_6)), (cl, .inr (1, [.int (u_9 0 0), .ref c1, .ref c2, .ref c3, .ref c4, .ref c5, .ref c6, .ref c7])), (c1, .inl (T 0, 24, .inl (u_9 1))), (c2, .inl (T 0, 24, .inl (u_9 2))), (c3, .inl (T 0, 24, .inl (u_9 3))), (c4, .inl (T 0, 24, .inl (u_9 4))), (c5, .inl (T 0, 24, .inl (u_9 5))), (c6, .inl (T 0, 24, .inl (u_9 6))), (c7, .inl (T 0, 24, .inl (u_9 7)))] hP hD [1, 3, 4, 5, 6, 7, 8, 9, 10, 11, 12] [1, 3, 4, 5, 6, 7, 8, 9, 10, 11, 12] rfl (by decide +kernel) rfl rfl rfl hk1 hP1
    clear hP1 hD1 hFc
    generalize H1 = H at hP hS ⊢
    exact W.iret hx hb hr (fun t ht hW => ⟨⟨_, (fun k => [fun _ => (u_9 0 0), (u_9 1), (u_9 2), (u_9 3), (u_9 4), (u_9 5), (u_9 6), (u_9 7), fun _ => (u_9 8 0), fun _ => n_3, fun _ => n_4, f_5, f_6].getD k f1), rfl, ⟨⟨(show 0 ≤ ((u_9 0 0)).toInt ∧ ((u_9 0 0)).toInt ≤ 24 from by omega), (show okC (u_9 1) (u_9 3) (u_9 4) (u_9 5) from by first | exact hok | assumption)⟩, (Or.inr ⟨_, _, _, htk, (fun A hA => by
                                                            obtain ⟨nb, rb, B, hb1, hu1, hr1, hR1⟩ := hbAu_9 A hA
                                                            exact ⟨nb, rb, B, hb1, (by have t1 := tn (x := n_3) (by omega); omega), hr1, hR1⟩)⟩), hme⟩, by rw [ht]; exact hP.sub [0, 1, 2, 3, 4, 5, 6, 7, 8, 9, 10, 11, 12] rfl, hD.sub [0, 1, 2, 3, 4, 5, 6, 7, 8, 9, 10, 11, 12] (by decide +kernel) rfl⟩, hS.F ht⟩) hS.2.2 dX12_text_55
  · rw [fa_eq] at c_7
    try rw [ti_n1] at c_7
    have htf := (hqr_1.resolve_left (fun h9 => by have h8 := h9.1; omega))
    rw [hs9] at htf
    refine lv_bipush (v := (-100)) hx hb dX12_text_31 (by decide +kernel) ?_
    refine lv_iload_n hx hb dX12_text_33 rfl (lv_at hl 0 rfl) ?_
    refine lv_isub hx hb dX12_text_34 ?_
    exact W.iret hx hb hr (fun t ht hW => ⟨⟨_, (fun k => [fun _ => n0, f1, f2, f3, f4, f5, f6, f7, fun _ => nx, fun _ => n_3, fun _ => n_4, f_5, f_6].getD k f1), rfl, ⟨⟨(show 0 ≤ (n0).toInt ∧ (n0).toInt ≤ 24 from by omega), (show okC f1 f3 f4 f5 from by first | exact hok | assumption)⟩, (Or.inl ⟨_, htf.2, (by have t1 := tn (x := r_1) htf.1; have t2 := txtF_le htf.2; have t3 := tn (x := n) (by omega); rw [fb_subI (by rw [ti_n100]; omega) (by rw [ti_n100]; omega), ti_n100]; omega), ⟨rfl, rfl, rfl, rfl, rfl⟩⟩), hme⟩, by rw [ht]; exact hP.sub [0, 1, 2, 3, 4, 5, 6, 7, 8, 9, 10, 11, 12] rfl, hD.sub [0, 1, 2, 3, 4, 5, 6, 7, 8, 9, 10, 11, 12] (by decide +kernel) rfl⟩, hS.F ht⟩) hS.2.2 dX12_text_35
