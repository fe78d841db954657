theorem okE_step {fk fc fe : Nat → Int32} {x i' v : Int32} {n : Int} (h : okE fk fc fe x.toInt) (hx : 0 ≤ x.toInt ∧ x.toInt < 24) (e : i'.toInt = x.toInt + 1) (h6 : v.toInt ≤ 6) (hc : (fk x.toNatClampNeg).toInt = 10 ∨ (fk x.toNatClampNeg).toInt = 11 → (0 ≤ (fc x.toNatClampNeg).toInt ∧ (fc x.toNatClampNeg).toInt < x.toInt) ∧ v.toInt = (fe (fc x.toNatClampNeg).toNatClampNeg).toInt) (hr : ∀ j : Nat, j < 24 → (fk j).toInt = 10 ∨ (fk j).toInt = 11 → 0 ≤ (fc j).toInt ∧ (fc j).toInt < j) : okE fk fc (upd fe x.toNatClampNeg v) i'.toInt := by
  intro j hj
  have hxx := in24 hx
  by_cases ej : j = x.toNatClampNeg
  · subst ej
    refine ⟨by simp only [upd, if_pos]; exact h6, fun hk => ?_⟩
    have h9 := hc hk
    have h8 := tn h9.1.1
    have h7 : ¬ (fc x.toNatClampNeg).toNatClampNeg = x.toNatClampNeg := by omega
    simp only [upd, if_pos, if_neg h7]
    exact h9.2
  · have h9 := h j (by omega)
    refine ⟨by simp only [upd, if_neg ej]; exact h9.1, fun hk => ?_⟩
    have h8 := hr j (by omega) hk
    have h6' := tn h8.1
    have h7 : ¬ (fc j).toNatClampNeg = x.toNatClampNeg := by omega
    simp only [upd, if_neg ej, if_neg h7]
    exact h9.2 hk
theorem upd_upd {f : Nat → Int32} {k : Nat} {v z : Int32} : upd (upd f k v) k z = upd f k z := by
  funext j
  simp only [upd]
  by_cases h : j = k
  · simp only [if_pos h]
  · simp only [if_neg h]
theorem okR.late {fk fc fd : Nat → Int32} (h : okR fk fc fd) : ∀ j : Nat, j < 24 → (fk j).toInt = 10 ∨ (fk j).toInt = 11 → 0 ≤ (fc j).toInt ∧ (fc j).toInt < j := by
  intro j hj hk
  refine (h j hj).2.1 ?_
  rcases hk with hk | hk
  · have e : fk j = 10 := by rw [fa_eq, hk]; decide
    rw [e]; decide
  · have e : fk j = 11 := by rw [fa_eq, hk]; decide
    rw [e]; decide
theorem nm_late {z : Int32} (h : z.toInt = 10 ∨ z.toInt = 11) : (nmT (z.toNatClampNeg)).toInt = 1 := by
  rcases h with h | h
  · have e : z = 10 := by rw [fa_eq, h]; decide
    rw [e]; decide
  · have e : z = 11 := by rw [fa_eq, h]; decide
    rw [e]; decide
theorem dX13_laysParts_0 : decode cX13_laysParts 0 = .ok (.iconst 0, 1) := by decide +kernel
theorem dX13_laysParts_1 : decode cX13_laysParts 1 = .ok (.istore_n 1, 1) := by decide +kernel
theorem dX13_laysParts_10 : decode cX13_laysParts 10 = .ok (.aload_n 0, 1) := by decide +kernel
theorem dX13_laysParts_100 : decode cX13_laysParts 100 = .ok (.iload_n 1, 1) := by decide +kernel
theorem dX13_laysParts_101 : decode cX13_laysParts 101 = .ok (.iaload, 1) := by decide +kernel
theorem dX13_laysParts_102 : decode cX13_laysParts 102 = .ok (.aload_n 0, 1) := by decide +kernel
theorem dX13_laysParts_103 : decode cX13_laysParts 103 = .ok (.getfield 47, 3) := by decide +kernel
theorem dX13_laysParts_106 : decode cX13_laysParts 106 = .ok (.iload_n 1, 1) := by decide +kernel
theorem dX13_laysParts_107 : decode cX13_laysParts 107 = .ok (.iaload, 1) := by decide +kernel
theorem dX13_laysParts_108 : decode cX13_laysParts 108 = .ok (.invokestatic 230, 3) := by decide +kernel
theorem dX13_laysParts_11 : decode cX13_laysParts 11 = .ok (.getfield 28, 3) := by decide +kernel
theorem dX13_laysParts_111 : decode cX13_laysParts 111 = .ok (.goto 9, 3) := by decide +kernel
theorem dX13_laysParts_114 : decode cX13_laysParts 114 = .ok (.aload_n 0, 1) := by decide +kernel
theorem dX13_laysParts_115 : decode cX13_laysParts 115 = .ok (.getfield 47, 3) := by decide +kernel
theorem dX13_laysParts_118 : decode cX13_laysParts 118 = .ok (.iload_n 1, 1) := by decide +kernel
theorem dX13_laysParts_119 : decode cX13_laysParts 119 = .ok (.iaload, 1) := by decide +kernel
theorem dX13_laysParts_120 : decode cX13_laysParts 120 = .ok (.iastore, 1) := by decide +kernel
theorem dX13_laysParts_121 : decode cX13_laysParts 121 = .ok (.aload_n 0, 1) := by decide +kernel
theorem dX13_laysParts_122 : decode cX13_laysParts 122 = .ok (.getfield 50, 3) := by decide +kernel
theorem dX13_laysParts_125 : decode cX13_laysParts 125 = .ok (.iload_n 1, 1) := by decide +kernel
theorem dX13_laysParts_126 : decode cX13_laysParts 126 = .ok (.iconst 1, 1) := by decide +kernel
theorem dX13_laysParts_127 : decode cX13_laysParts 127 = .ok (.iload_n 2, 1) := by decide +kernel
theorem dX13_laysParts_128 : decode cX13_laysParts 128 = .ok (.ifCond .le 12, 3) := by decide +kernel
theorem dX13_laysParts_131 : decode cX13_laysParts 131 = .ok (.aload_n 0, 1) := by decide +kernel
theorem dX13_laysParts_132 : decode cX13_laysParts 132 = .ok (.getfield 50, 3) := by decide +kernel
theorem dX13_laysParts_135 : decode cX13_laysParts 135 = .ok (.iload_n 3, 1) := by decide +kernel
theorem dX13_laysParts_136 : decode cX13_laysParts 136 = .ok (.iaload, 1) := by decide +kernel
theorem dX13_laysParts_137 : decode cX13_laysParts 137 = .ok (.goto 4, 3) := by decide +kernel
theorem dX13_laysParts_14 : decode cX13_laysParts 14 = .ok (.iload_n 1, 1) := by decide +kernel
theorem dX13_laysParts_140 : decode cX13_laysParts 140 = .ok (.iconst 0, 1) := by decide +kernel
theorem dX13_laysParts_141 : decode cX13_laysParts 141 = .ok (.iadd, 1) := by decide +kernel
theorem dX13_laysParts_142 : decode cX13_laysParts 142 = .ok (.iload_n 2, 1) := by decide +kernel
theorem dX13_laysParts_143 : decode cX13_laysParts 143 = .ok (.iconst 1, 1) := by decide +kernel
theorem dX13_laysParts_144 : decode cX13_laysParts 144 = .ok (.if_icmp .le 13, 3) := by decide +kernel
theorem dX13_laysParts_147 : decode cX13_laysParts 147 = .ok (.aload_n 0, 1) := by decide +kernel
theorem dX13_laysParts_148 : decode cX13_laysParts 148 = .ok (.getfield 50, 3) := by decide +kernel
theorem dX13_laysParts_15 : decode cX13_laysParts 15 = .ok (.iaload, 1) := by decide +kernel
theorem dX13_laysParts_151 : decode cX13_laysParts 151 = .ok (.iload 4, 2) := by decide +kernel
theorem dX13_laysParts_153 : decode cX13_laysParts 153 = .ok (.iaload, 1) := by decide +kernel
theorem dX13_laysParts_154 : decode cX13_laysParts 154 = .ok (.goto 4, 3) := by decide +kernel
theorem dX13_laysParts_157 : decode cX13_laysParts 157 = .ok (.iconst 0, 1) := by decide +kernel
theorem dX13_laysParts_158 : decode cX13_laysParts 158 = .ok (.iadd, 1) := by decide +kernel
theorem dX13_laysParts_159 : decode cX13_laysParts 159 = .ok (.iastore, 1) := by decide +kernel
theorem dX13_laysParts_16 : decode cX13_laysParts 16 = .ok (.invokestatic 210, 3) := by decide +kernel
theorem dX13_laysParts_160 : decode cX13_laysParts 160 = .ok (.aload_n 0, 1) := by decide +kernel
theorem dX13_laysParts_161 : decode cX13_laysParts 161 = .ok (.getfield 53, 3) := by decide +kernel
theorem dX13_laysParts_164 : decode cX13_laysParts 164 = .ok (.iload_n 1, 1) := by decide +kernel
theorem dX13_laysParts_165 : decode cX13_laysParts 165 = .ok (.iconst 1, 1) := by decide +kernel
theorem dX13_laysParts_166 : decode cX13_laysParts 166 = .ok (.iload_n 2, 1) := by decide +kernel
theorem dX13_laysParts_167 : decode cX13_laysParts 167 = .ok (.ifCond .ne 7, 3) := by decide +kernel
theorem dX13_laysParts_170 : decode cX13_laysParts 170 = .ok (.iconst 0, 1) := by decide +kernel
theorem dX13_laysParts_171 : decode cX13_laysParts 171 = .ok (.goto 33, 3) := by decide +kernel
theorem dX13_laysParts_174 : decode cX13_laysParts 174 = .ok (.iload_n 2, 1) := by decide +kernel
theorem dX13_laysParts_175 : decode cX13_laysParts 175 = .ok (.iconst 1, 1) := by decide +kernel
theorem dX13_laysParts_176 : decode cX13_laysParts 176 = .ok (.if_icmp .ne 12, 3) := by decide +kernel
theorem dX13_laysParts_179 : decode cX13_laysParts 179 = .ok (.aload_n 0, 1) := by decide +kernel
theorem dX13_laysParts_180 : decode cX13_laysParts 180 = .ok (.getfield 53, 3) := by decide +kernel
theorem dX13_laysParts_183 : decode cX13_laysParts 183 = .ok (.iload_n 3, 1) := by decide +kernel
theorem dX13_laysParts_184 : decode cX13_laysParts 184 = .ok (.iaload, 1) := by decide +kernel
theorem dX13_laysParts_185 : decode cX13_laysParts 185 = .ok (.goto 19, 3) := by decide +kernel
theorem dX13_laysParts_188 : decode cX13_laysParts 188 = .ok (.aload_n 0, 1) := by decide +kernel
theorem dX13_laysParts_189 : decode cX13_laysParts 189 = .ok (.getfield 53, 3) := by decide +kernel
theorem dX13_laysParts_19 : decode cX13_laysParts 19 = .ok (.istore_n 2, 1) := by decide +kernel
theorem dX13_laysParts_192 : decode cX13_laysParts 192 = .ok (.iload_n 3, 1) := by decide +kernel
theorem dX13_laysParts_193 : decode cX13_laysParts 193 = .ok (.iaload, 1) := by decide +kernel
theorem dX13_laysParts_194 : decode cX13_laysParts 194 = .ok (.aload_n 0, 1) := by decide +kernel
theorem dX13_laysParts_195 : decode cX13_laysParts 195 = .ok (.getfield 53, 3) := by decide +kernel
theorem dX13_laysParts_198 : decode cX13_laysParts 198 = .ok (.iload 4, 2) := by decide +kernel
theorem dX13_laysParts_2 : decode cX13_laysParts 2 = .ok (.iload_n 1, 1) := by decide +kernel
theorem dX13_laysParts_20 : decode cX13_laysParts 20 = .ok (.aload_n 0, 1) := by decide +kernel
theorem dX13_laysParts_200 : decode cX13_laysParts 200 = .ok (.iaload, 1) := by decide +kernel
theorem dX13_laysParts_201 : decode cX13_laysParts 201 = .ok (.invokestatic 227, 3) := by decide +kernel
theorem dX13_laysParts_204 : decode cX13_laysParts 204 = .ok (.iadd, 1) := by decide +kernel
theorem dX13_laysParts_205 : decode cX13_laysParts 205 = .ok (.iastore, 1) := by decide +kernel
theorem dX13_laysParts_206 : decode cX13_laysParts 206 = .ok (.iinc 1 1, 3) := by decide +kernel
theorem dX13_laysParts_209 : decode cX13_laysParts 209 = .ok (.goto (-207), 3) := by decide +kernel
theorem dX13_laysParts_21 : decode cX13_laysParts 21 = .ok (.getfield 35, 3) := by decide +kernel
theorem dX13_laysParts_212 : decode cX13_laysParts 212 = .ok (.return_, 1) := by decide +kernel
theorem dX13_laysParts_24 : decode cX13_laysParts 24 = .ok (.iload_n 1, 1) := by decide +kernel
theorem dX13_laysParts_25 : decode cX13_laysParts 25 = .ok (.iaload, 1) := by decide +kernel
theorem dX13_laysParts_26 : decode cX13_laysParts 26 = .ok (.istore_n 3, 1) := by decide +kernel
theorem dX13_laysParts_27 : decode cX13_laysParts 27 = .ok (.aload_n 0, 1) := by decide +kernel
theorem dX13_laysParts_28 : decode cX13_laysParts 28 = .ok (.getfield 38, 3) := by decide +kernel
theorem dX13_laysParts_3 : decode cX13_laysParts 3 = .ok (.aload_n 0, 1) := by decide +kernel
theorem dX13_laysParts_31 : decode cX13_laysParts 31 = .ok (.iload_n 1, 1) := by decide +kernel
theorem dX13_laysParts_32 : decode cX13_laysParts 32 = .ok (.iaload, 1) := by decide +kernel
theorem dX13_laysParts_33 : decode cX13_laysParts 33 = .ok (.istore 4, 2) := by decide +kernel
theorem dX13_laysParts_35 : decode cX13_laysParts 35 = .ok (.aload_n 0, 1) := by decide +kernel
theorem dX13_laysParts_36 : decode cX13_laysParts 36 = .ok (.getfield 47, 3) := by decide +kernel
theorem dX13_laysParts_39 : decode cX13_laysParts 39 = .ok (.iload_n 1, 1) := by decide +kernel
theorem dX13_laysParts_4 : decode cX13_laysParts 4 = .ok (.getfield 205, 3) := by decide +kernel
theorem dX13_laysParts_40 : decode cX13_laysParts 40 = .ok (.iload_n 2, 1) := by decide +kernel
theorem dX13_laysParts_41 : decode cX13_laysParts 41 = .ok (.ifCond .ne 8, 3) := by decide +kernel
theorem dX13_laysParts_44 : decode cX13_laysParts 44 = .ok (.bipush 6, 2) := by decide +kernel
theorem dX13_laysParts_46 : decode cX13_laysParts 46 = .ok (.goto 33, 3) := by decide +kernel
theorem dX13_laysParts_49 : decode cX13_laysParts 49 = .ok (.iload_n 2, 1) := by decide +kernel
theorem dX13_laysParts_50 : decode cX13_laysParts 50 = .ok (.iconst 1, 1) := by decide +kernel
theorem dX13_laysParts_51 : decode cX13_laysParts 51 = .ok (.if_icmp .ne 12, 3) := by decide +kernel
theorem dX13_laysParts_54 : decode cX13_laysParts 54 = .ok (.aload_n 0, 1) := by decide +kernel
theorem dX13_laysParts_55 : decode cX13_laysParts 55 = .ok (.getfield 47, 3) := by decide +kernel
theorem dX13_laysParts_58 : decode cX13_laysParts 58 = .ok (.iload_n 3, 1) := by decide +kernel
theorem dX13_laysParts_59 : decode cX13_laysParts 59 = .ok (.iaload, 1) := by decide +kernel
theorem dX13_laysParts_60 : decode cX13_laysParts 60 = .ok (.goto 19, 3) := by decide +kernel
theorem dX13_laysParts_63 : decode cX13_laysParts 63 = .ok (.aload_n 0, 1) := by decide +kernel
theorem dX13_laysParts_64 : decode cX13_laysParts 64 = .ok (.getfield 47, 3) := by decide +kernel
theorem dX13_laysParts_67 : decode cX13_laysParts 67 = .ok (.iload_n 3, 1) := by decide +kernel
theorem dX13_laysParts_68 : decode cX13_laysParts 68 = .ok (.iaload, 1) := by decide +kernel
theorem dX13_laysParts_69 : decode cX13_laysParts 69 = .ok (.aload_n 0, 1) := by decide +kernel
theorem dX13_laysParts_7 : decode cX13_laysParts 7 = .ok (.if_icmp .ge 205, 3) := by decide +kernel
theorem dX13_laysParts_70 : decode cX13_laysParts 70 = .ok (.getfield 47, 3) := by decide +kernel
theorem dX13_laysParts_73 : decode cX13_laysParts 73 = .ok (.iload 4, 2) := by decide +kernel
theorem dX13_laysParts_75 : decode cX13_laysParts 75 = .ok (.iaload, 1) := by decide +kernel
theorem dX13_laysParts_76 : decode cX13_laysParts 76 = .ok (.invokestatic 227, 3) := by decide +kernel
theorem dX13_laysParts_79 : decode cX13_laysParts 79 = .ok (.iastore, 1) := by decide +kernel
theorem dX13_laysParts_80 : decode cX13_laysParts 80 = .ok (.aload_n 0, 1) := by decide +kernel
theorem dX13_laysParts_81 : decode cX13_laysParts 81 = .ok (.getfield 47, 3) := by decide +kernel
theorem dX13_laysParts_84 : decode cX13_laysParts 84 = .ok (.iload_n 1, 1) := by decide +kernel
theorem dX13_laysParts_85 : decode cX13_laysParts 85 = .ok (.aload_n 0, 1) := by decide +kernel
theorem dX13_laysParts_86 : decode cX13_laysParts 86 = .ok (.getfield 28, 3) := by decide +kernel
theorem dX13_laysParts_89 : decode cX13_laysParts 89 = .ok (.iload_n 1, 1) := by decide +kernel
theorem dX13_laysParts_90 : decode cX13_laysParts 90 = .ok (.iaload, 1) := by decide +kernel
theorem dX13_laysParts_91 : decode cX13_laysParts 91 = .ok (.bipush 8, 2) := by decide +kernel
theorem dX13_laysParts_93 : decode cX13_laysParts 93 = .ok (.if_icmp .ne 21, 3) := by decide +kernel
theorem dX13_laysParts_96 : decode cX13_laysParts 96 = .ok (.aload_n 0, 1) := by decide +kernel
theorem dX13_laysParts_97 : decode cX13_laysParts 97 = .ok (.getfield 32, 3) := by decide +kernel
set_option maxRecDepth 20000 in
theorem ggX13_laysParts_X13_names : GoodIn wsX13_laysParts wsX13_names := goodIn_r _ [19] (by decide +kernel) (by decide +kernel)
set_option maxRecDepth 20000 in
theorem gX13_laysParts_X13_names : GoodIn wsX13_laysParts (va_wsS RX13 210 yX13_names wsX13_names) := goodIn_app (goodIn_of _ (by decide +kernel)) ggX13_laysParts_X13_names
set_option maxRecDepth 20000 in
theorem in_X13_laysParts_X13 : ∀ w ∈ wsX130, w ∈ wsX13_laysParts := by decide +kernel
set_option maxHeartbeats 4000000 in
set_option maxRecDepth 100000 in
theorem c_X13_laysParts (l : Launch) (D : va_G) (T : Nat → ClassId) (sz : Nat) (h0 : Nat) (q : Nat → Int32) (v : Int64) (w : Int64) (a : Nat → Nat) (f8 : Nat → Int32) (f9 : Nat → Int32) (f10 : Nat → Int32) (f11 : Nat → Int32) (f17 : Nat → Int32) (f18 : Nat → Int32) (f19 : Nat → Int32) (hm : 0 ≤ (q 7).toInt ∧ (q 7).toInt ≤ 24) (hokR : okR f8 f10 f11) : Met l yX13_laysParts wsX13_laysParts ({ frames := 1, cells := 0, slots := 0, locals := 40 }) (pW [.ref h0] D T [(h0, .inr (10, [.int (q 0), .int (q 1), .int (q 2), .int (q 3), .int (q 4), .int (q 5), .int (q 6), .int (q 7), .ref (a 8), .ref (a 9), .ref (a 10), .ref (a 11), .ref (a 12), .ref (a 13), .int (q 14), .long v, .long w, .ref (a 17), .ref (a 18), .ref (a 19), .ref (a 20), .ref (a 21), .ref (a 22), .ref (a 23), .int (q 24), .ref (a 25), .int (q 26), .ref (a 27), .int (q 28), .int (q 29), .int (q 30), .int (q 31), .int (q 32), .int (q 33), .ref (a 34), .ref (a 35), .ref (a 36), .ref (a 37), .ref (a 38), .ref (a 39), .ref (a 40), .int (q 41), .ref (a 42), .int (q 43), .int (q 44)])), ((a 8), .inl (T 0, 24, .inl f8)), ((a 9), .inl (T 0, 24, .inl f9)), ((a 10), .inl (T 0, 24, .inl f10)), ((a 11), .inl (T 0, 24, .inl f11)), ((a 17), .inl (T 0, 24, .inl f17)), ((a 18), .inl (T 0, 24, .inl f18)), ((a 19), .inl (T 0, 24, .inl f19))] sz) (va_Qv (fun (u : (Nat → Int32) × (Nat → Int32) × (Nat → Int32)) => (okE f8 f10 u.1 (q 7).toInt)) (bW D (va_A [(h0, .inr (10, [.int (q 0), .int (q 1), .int (q 2), .int (q 3), .int (q 4), .int (q 5), .int (q 6), .int (q 7), .ref (a 8), .ref (a 9), .ref (a 10), .ref (a 11), .ref (a 12), .ref (a 13), .int (q 14), .long v, .long w, .ref (a 17), .ref (a 18), .ref (a 19), .ref (a 20), .ref (a 21), .ref (a 22), .ref (a 23), .int (q 24), .ref (a 25), .int (q 26), .ref (a 27), .int (q 28), .int (q 29), .int (q 30), .int (q 31), .int (q 32), .int (q 33), .ref (a 34), .ref (a 35), .ref (a 36), .ref (a 37), .ref (a 38), .ref (a 39), .ref (a 40), .int (q 41), .ref (a 42), .int (q 43), .int (q 44)])), ((a 8), .inl (T 0, 24, .inl f8)), ((a 9), .inl (T 0, 24, .inl f9)), ((a 10), .inl (T 0, 24, .inl f10)), ((a 11), .inl (T 0, 24, .inl f11)), ((a 17), .inl (T 0, 24, .inl f17)), ((a 18), .inl (T 0, 24, .inl f18)), ((a 19), .inl (T 0, 24, .inl f19))] sz) (fun (u : (Nat → Int32) × (Nat → Int32) × (Nat → Int32)) => [(h0, .inr (10, [.int (q 0), .int (q 1), .int (q 2), .int (q 3), .int (q 4), .int (q 5), .int (q 6), .int (q 7), .ref (a 8), .ref (a 9), .ref (a 10), .ref (a 11), .ref (a 12), .ref (a 13), .int (q 14), .long v, .long w, .ref (a 17), .ref (a 18), .ref (a 19), .ref (a 20), .ref (a 21), .ref (a 22), .ref (a 23), .int (q 24), .ref (a 25), .int (q 26), .ref (a 27), .int (q 28), .int (q 29), .int (q 30), .int (q 31), .int (q 32), .int (q 33), .ref (a 34), .ref (a 35), .ref (a 36), .ref (a 37), .ref (a 38), .ref (a 39), .ref (a 40), .int (q 41), .ref (a 42), .int (q 43), .int (q 44)])), ((a 8), .inl (T 0, 24, .inl f8)), ((a 9), .inl (T 0, 24, .inl f9)), ((a 10), .inl (T 0, 24, .inl f10)), ((a 11), .inl (T 0, 24, .inl f11)), ((a 17), .inl (T 0, 24, .inl u.1)), ((a 18), .inl (T 0, 24, .inl u.2.1)), ((a 19), .inl (T 0, 24, .inl u.2.2))])) (va_A [(h0, .inr (10, [.int (q 0), .int (q 1), .int (q 2), .int (q 3), .int (q 4), .int (q 5), .int (q 6), .int (q 7), .ref (a 8), .ref (a 9), .ref (a 10), .ref (a 11), .ref (a 12), .ref (a 13), .int (q 14), .long v, .long w, .ref (a 17), .ref (a 18), .ref (a 19), .ref (a 20), .ref (a 21), .ref (a 22), .ref (a 23), .int (q 24), .ref (a 25), .int (q 26), .ref (a 27), .int (q 28), .int (q 29), .int (q 30), .int (q 31), .int (q 32), .int (q 33), .ref (a 34), .ref (a 35), .ref (a 36), .ref (a 37), .ref (a 38), .ref (a 39), .ref (a 40), .int (q 41), .ref (a 42), .int (q 43), .int (q 44)])), ((a 8), .inl (T 0, 24, .inl f8)), ((a 9), .inl (T 0, 24, .inl f9)), ((a 10), .inl (T 0, 24, .inl f10)), ((a 11), .inl (T 0, 24, .inl f11)), ((a 17), .inl (T 0, 24, .inl f17)), ((a 18), .inl (T 0, 24, .inl f18)), ((a 19), .inl (T 0, 24, .inl f19))] sz)) 0 0 (va_A [(h0, .inr (10, [.int (q 0), .int (q 1), .int (q 2), .int (q 3), .int (q 4), .int (q 5), .int (q 6), .int (q 7), .ref (a 8), .ref (a 9), .ref (a 10), .ref (a 11), .ref (a 12), .ref (a 13), .int (q 14), .long v, .long w, .ref (a 17), .ref (a 18), .ref (a 19), .ref (a 20), .ref (a 21), .ref (a 22), .ref (a 23), .int (q 24), .ref (a 25), .int (q 26), .ref (a 27), .int (q 28), .int (q 29), .int (q 30), .int (q 31), .int (q 32), .int (q 33), .ref (a 34), .ref (a 35), .ref (a 36), .ref (a 37), .ref (a 38), .ref (a 39), .ref (a 40), .int (q 41), .ref (a 42), .int (q 43), .int (q 44)])), ((a 8), .inl (T 0, 24, .inl f8)), ((a 9), .inl (T 0, 24, .inl f9)), ((a 10), .inl (T 0, 24, .inl f10)), ((a 11), .inl (T 0, 24, .inl f11)), ((a 17), .inl (T 0, 24, .inl f17)), ((a 18), .inl (T 0, 24, .inl f18)), ((a 19), .inl (T 0, 24, .inl f19))] sz) := by
  refine Met.ofW (cc := cX13_laysParts) (maxL := 5) (ret := none) (by decide) rfl ?_
  intro p e s m args below meth c s₁ B hml hv
  obtain ⟨rfl, hsz, hP, hE, hD0⟩ := hv
  have hx := B.exec
  have hb := B.bytes
  have hr := B.returns
  have hts := atoms_spec (ws := wsX13_laysParts) B.pre
  have hown : s.vm.findClass RX13 = some m.cls := findClass_of_methodNamed B.named
  have hlocks := B.notSynchronized
  subst hsz
  have hD := hD0.self (sz := s.heap.size)
  generalize hAe : va_A [(h0, .inr (10, [.int (q 0), .int (q 1), .int (q 2), .int (q 3), .int (q 4), .int (q 5), .int (q 6), .int (q 7), .ref (a 8), .ref (a 9), .ref (a 10), .ref (a 11), .ref (a 12), .ref (a 13), .int (q 14), .long v, .long w, .ref (a 17), .ref (a 18), .ref (a 19), .ref (a 20), .ref (a 21), .ref (a 22), .ref (a 23), .int (q 24), .ref (a 25), .int (q 26), .ref (a 27), .int (q 28), .int (q 29), .int (q 30), .int (q 31), .int (q 32), .int (q 33), .ref (a 34), .ref (a 35), .ref (a 36), .ref (a 37), .ref (a 38), .ref (a 39), .ref (a 40), .int (q 41), .ref (a 42), .int (q 43), .int (q 44)])), ((a 8), .inl (T 0, 24, .inl f8)), ((a 9), .inl (T 0, 24, .inl f9)), ((a 10), .inl (T 0, 24, .inl f10)), ((a 11), .inl (T 0, 24, .inl f11)), ((a 17), .inl (T 0, 24, .inl f17)), ((a 18), .inl (T 0, 24, .inl f18)), ((a 19), .inl (T 0, 24, .inl f19))] s.heap.size = A at hD ⊢
  have hA : ∀ q : Nat, s.heap.size ≤ q → A q := fun q h => by rw [← hAe]; exact Or.inr h
  have hS : va_S A s.heap s.heap [] := va_S.rf
  have hP : va_P D vwCl [(h0, .inr (10, [.int (q 0), .int (q 1), .int (q 2), .int (q 3), .int (q 4), .int (q 5), .int (q 6), .int (q 7), .ref (a 8), .ref (a 9), .ref (a 10), .ref (a 11), .ref (a 12), .ref (a 13), .int (q 14), .long v, .long w, .ref (a 17), .ref (a 18), .ref (a 19), .ref (a 20), .ref (a 21), .ref (a 22), .ref (a 23), .int (q 24), .ref (a 25), .int (q 26), .ref (a 27), .int (q 28), .int (q 29), .int (q 30), .int (q 31), .int (q 32), .int (q 33), .ref (a 34), .ref (a 35), .ref (a 36), .ref (a 37), .ref (a 38), .ref (a 39), .ref (a 40), .int (q 41), .ref (a 42), .int (q 43), .int (q 44)])), ((a 8), .inl (T 0, 24, .inl f8)), ((a 9), .inl (T 0, 24, .inl f9)), ((a 10), .inl (T 0, 24, .inl f10)), ((a 11), .inl (T 0, 24, .inl f11)), ((a 17), .inl (T 0, 24, .inl f17)), ((a 18), .inl (T 0, 24, .inl f18)), ((a 19), .inl (T 0, 24, .inl f19))] s.heap := hP
  have hl := lv_entry ([.ref h0]) (n := 5) (Nat.le_of_ble_eq_true rfl)
  rw [lg_entry_eq]
  generalize (lg_sl ([.ref h0]) ++ List.replicate (5 - (lg_sl ([.ref h0])).length) Slot.unset).toArray = ls at hl ⊢
  have hl : lv_has ls 5 [(0, .ref h0)] := hl
  clear hD0
  refine lv_iconst (v := 0) hx hb dX13_laysParts_0 (by decide) ?_
  refine lv_istore_n (lv' := [(1, .int 0), (0, .ref h0)]) hx hb dX13_laysParts_1 rfl hl (by decide) rfl (fun ls hl => ?_)
  refine loopW (σ := (Int32) × (Nat → Int32) × (Nat → Int32) × (Nat → Int32)) (fun x9 ls H locs => lv_has ls 5 [(1, .int x9.1), (0, .ref h0)] ∧ va_P D vwCl [(h0, .inr (10, [.int (q 0), .int (q 1), .int (q 2), .int (q 3), .int (q 4), .int (q 5), .int (q 6), .int (q 7), .ref (a 8), .ref (a 9), .ref (a 10), .ref (a 11), .ref (a 12), .ref (a 13), .int (q 14), .long v, .long w, .ref (a 17), .ref (a 18), .ref (a 19), .ref (a 20), .ref (a 21), .ref (a 22), .ref (a 23), .int (q 24), .ref (a 25), .int (q 26), .ref (a 27), .int (q 28), .int (q 29), .int (q 30), .int (q 31), .int (q 32), .int (q 33), .ref (a 34), .ref (a 35), .ref (a 36), .ref (a 37), .ref (a 38), .ref (a 39), .ref (a 40), .int (q 41), .ref (a 42), .int (q 43), .int (q 44)])), ((a 8), .inl (T 0, 24, .inl f8)), ((a 9), .inl (T 0, 24, .inl f9)), ((a 10), .inl (T 0, 24, .inl f10)), ((a 11), .inl (T 0, 24, .inl f11)), ((a 17), .inl (T 0, 24, .inl x9.2.1)), ((a 18), .inl (T 0, 24, .inl x9.2.2.1)), ((a 19), .inl (T 0, 24, .inl x9.2.2.2))] H ∧ va_D A [(h0, .inr (10, [.int (q 0), .int (q 1), .int (q 2), .int (q 3), .int (q 4), .int (q 5), .int (q 6), .int (q 7), .ref (a 8), .ref (a 9), .ref (a 10), .ref (a 11), .ref (a 12), .ref (a 13), .int (q 14), .long v, .long w, .ref (a 17), .ref (a 18), .ref (a 19), .ref (a 20), .ref (a 21), .ref (a 22), .ref (a 23), .int (q 24), .ref (a 25), .int (q 26), .ref (a 27), .int (q 28), .int (q 29), .int (q 30), .int (q 31), .int (q 32), .int (q 33), .ref (a 34), .ref (a 35), .ref (a 36), .ref (a 37), .ref (a 38), .ref (a 39), .ref (a 40), .int (q 41), .ref (a 42), .int (q 43), .int (q 44)])), ((a 8), .inl (T 0, 24, .inl f8)), ((a 9), .inl (T 0, 24, .inl f9)), ((a 10), .inl (T 0, 24, .inl f10)), ((a 11), .inl (T 0, 24, .inl f11)), ((a 17), .inl (T 0, 24, .inl x9.2.1)), ((a 18), .inl (T 0, 24, .inl x9.2.2.1)), ((a 19), .inl (T 0, 24, .inl x9.2.2.2))] ∧ va_S A s.heap H locs ∧ ((0 ≤ x9.1.toInt ∧ x9.1.toInt ≤ 24) ∧ okE f8 f10 x9.2.1 x9.1.toInt)) (fun x9 => (24 - x9.1.toInt).toNat) (fun x9 ls H locs hI ih => ?_) (0, f17, f18, f19) ls ⟨lv_sub hl [0, 1] rfl, hP.sub [0, 1, 2, 3, 4, 5, 6, 7] rfl, hD.sub [0, 1, 2, 3, 4, 5, 6, 7] (by decide) rfl, hS, ⟨(by decide), (fun j hj => absurd hj (by (try dsimp only); rw [ti_0]; omega))⟩⟩
  obtain ⟨xx, e9, p9, d9⟩ := x9
  obtain ⟨hl, hP, hD, hS, hinv⟩ := hI
  have hl : lv_has ls 5 [(1, .int xx), (0, .ref h0)] := hl
  have hP : va_P D vwCl [(h0, .inr (10, [.int (q 0), .int (q 1), .int (q 2), .int (q 3), .int (q 4), .int (q 5), .int (q 6), .int (q 7), .ref (a 8), .ref (a 9), .ref (a 10), .ref (a 11), .ref (a 12), .ref (a 13), .int (q 14), .long v, .long w, .ref (a 17), .ref (a 18), .ref (a 19), .ref (a 20), .ref (a 21), .ref (a 22), .ref (a 23), .int (q 24), .ref (a 25), .int (q 26), .ref (a 27), .int (q 28), .int (q 29), .int (q 30), .int (q 31), .int (q 32), .int (q 33), .ref (a 34), .ref (a 35), .ref (a 36), .ref (a 37), .ref (a 38), .ref (a 39), .ref (a 40), .int (q 41), .ref (a 42), .int (q 43), .int (q 44)])), ((a 8), .inl (T 0, 24, .inl f8)), ((a 9), .inl (T 0, 24, .inl f9)), ((a 10), .inl (T 0, 24, .inl f10)), ((a 11), .inl (T 0, 24, .inl f11)), ((a 17), .inl (T 0, 24, .inl e9)), ((a 18), .inl (T 0, 24, .inl p9)), ((a 19), .inl (T 0, 24, .inl d9))] H := hP
  have hD : va_D A [(h0, .inr (10, [.int (q 0), .int (q 1), .int (q 2), .int (q 3), .int (q 4), .int (q 5), .int (q 6), .int (q 7), .ref (a 8), .ref (a 9), .ref (a 10), .ref (a 11), .ref (a 12), .ref (a 13), .int (q 14), .long v, .long w, .ref (a 17), .ref (a 18), .ref (a 19), .ref (a 20), .ref (a 21), .ref (a 22), .ref (a 23), .int (q 24), .ref (a 25), .int (q 26), .ref (a 27), .int (q 28), .int (q 29), .int (q 30), .int (q 31), .int (q 32), .int (q 33), .ref (a 34), .ref (a 35), .ref (a 36), .ref (a 37), .ref (a 38), .ref (a 39), .ref (a 40), .int (q 41), .ref (a 42), .int (q 43), .int (q 44)])), ((a 8), .inl (T 0, 24, .inl f8)), ((a 9), .inl (T 0, 24, .inl f9)), ((a 10), .inl (T 0, 24, .inl f10)), ((a 11), .inl (T 0, 24, .inl f11)), ((a 17), .inl (T 0, 24, .inl e9)), ((a 18), .inl (T 0, 24, .inl p9)), ((a 19), .inl (T 0, 24, .inl d9))] := hD
  have hinv : (0 ≤ xx.toInt ∧ xx.toInt ≤ 24) ∧ okE f8 f10 e9 xx.toInt := hinv
  obtain ⟨hxx, hEE⟩ := hinv
  refine lv_iload_n hx hb dX13_laysParts_2 rfl (lv_at hl 0 rfl) ?_
  refine lv_aload_n hx hb dX13_laysParts_3 rfl (lv_at hl 1 rfl) ?_
  refine va_get (D := D) (ci := 10) (v := .int (q 7)) (C := RX13) (T := TX13) (N := 45) hx hb hts in_X13_laysParts_X13 hown hE.1 hP 0 rfl rfl 7 (by decide) (hts (.fieldLink RX13 205 "ClauseBookModel" "many" "I") (List.mem_of_getElem? (i := 1) rfl)) (fun _ h9 => h9) rfl dX13_laysParts_4 ?_
  refine lv_icmp_ge (tgt := 212) hx hb dX13_laysParts_7 (by decide) (fun c_1 => ?_) (fun c_1 => ?_)
  · rw [fa_le] at c_1
    exact W.vret hx hb hr (fun t ht hW => ⟨⟨(e9, p9, d9), rfl, (show okE f8 f10 e9 (q 7).toInt from (fun j hj => hEE j (by omega))), by rw [ht]; exact hP.sub [0, 1, 2, 3, 4, 5, 6, 7] rfl, hD.sub [0, 1, 2, 3, 4, 5, 6, 7] (by decide) rfl⟩, hS.F ht⟩) hS.2.2 dX13_laysParts_212
  · rw [fa_le] at c_1
    refine lv_aload_n hx hb dX13_laysParts_10 rfl (lv_at hl 1 rfl) ?_
    refine va_get (D := D) (ci := 10) (v := .ref (a 8)) (C := RX13) (T := TX13) (N := 45) hx hb hts in_X13_laysParts_X13 hown hE.1 hP 0 rfl rfl 8 (by decide) (hts (.fieldLink RX13 28 "ClauseBookModel" "kind" "[I") (List.mem_of_getElem? (i := 2) rfl)) (fun _ h9 => h9) rfl dX13_laysParts_11 ?_
    refine lv_iload_n hx hb dX13_laysParts_14 rfl (lv_at hl 0 rfl) ?_
    refine va_iald hx hb hE.1 hP 1 0 rfl rfl (by rw [vp_in_iff]; first | omega | (subst_vars; omega)) dX13_laysParts_15 ?_
    refine lv_topi (fun z_2 ez_2 => ?_)
    have hkz_2 : 0 ≤ z_2.toInt ∧ z_2.toInt ≤ 12 := by rw [ez_2]; exact (hokR _ (in24 (x := xx) (by omega)).1).1
    have hcz_2 : 1 ≤ (nmT (z_2.toNatClampNeg)).toInt → 0 ≤ (f10 (xx.toNatClampNeg)).toInt ∧ (f10 (xx.toNatClampNeg)).toInt < xx.toInt := by
      rw [ez_2]
      intro h1
      have h := (hokR _ (in24 (x := xx) (by omega)).1).2.1 h1
      have h2 := (in24 (x := xx) (by omega)).2
      omega
    have hdz_2 : (nmT (z_2.toNatClampNeg)).toInt = 2 → 0 ≤ (f11 (xx.toNatClampNeg)).toInt ∧ (f11 (xx.toNatClampNeg)).toInt < xx.toInt := by
      rw [ez_2]
      intro h1
      have h := (hokR _ (in24 (x := xx) (by omega)).1).2.2 h1
      have h2 := (in24 (x := xx) (by omega)).2
      omega
    have hlz_2 := nm_late (z := z_2)
    have htz_2 : z_2.toInt = (f8 (xx.toNatClampNeg)).toInt := by rw [ez_2]
    refine vp_callSi (W.runS (As := [.int z_2]) (rest := []) ⟨hx, hb, hml, hown, hts⟩ (c_X13_names l D T z_2 (by omega)) (va_cwS 1 hts gX13_laysParts_X13_names rfl rfl rfl (by decide +kernel) ⟨Nat.le_of_ble_eq_true rfl, Nat.le_of_ble_eq_true rfl⟩) (pR_S hP hE [] rfl) rfl rfl hl.1 rfl (lv_room (Nat.le_of_ble_eq_true rfl)) dX13_laysParts_16 ⟨Nat.le_of_ble_eq_true rfl, Nat.le_of_ble_eq_true rfl⟩) (fun r_3 hr_3 => ?_)
    refine lv_istore_n (lv' := [(2, .int r_3), (1, .int xx), (0, .ref h0)]) hx hb dX13_laysParts_19 rfl hl (by decide) rfl (fun ls hl => ?_)
    refine lv_aload_n hx hb dX13_laysParts_20 rfl (lv_at hl 2 rfl) ?_
    refine va_get (D := D) (ci := 10) (v := .ref (a 10)) (C := RX13) (T := TX13) (N := 45) hx hb hts in_X13_laysParts_X13 hown hE.1 hP 0 rfl rfl 10 (by decide) (hts (.fieldLink RX13 35 "ClauseBookModel" "one" "[I") (List.mem_of_getElem? (i := 3) rfl)) (fun _ h9 => h9) rfl dX13_laysParts_21 ?_
    refine lv_iload_n hx hb dX13_laysParts_24 rfl (lv_at hl 1 rfl) ?_
    refine va_iald hx hb hE.1 hP 3 0 rfl rfl (by rw [vp_in_iff]; first | omega | (subst_vars; omega)) dX13_laysParts_25 ?_
    refine lv_topi (fun z_4 ez_4 => ?_)
    have htz_4 : z_4.toInt = (f10 (xx.toNatClampNeg)).toInt := by rw [ez_4]
    refine lv_istore_n (lv' := [(3, .int z_4), (2, .int r_3), (1, .int xx), (0, .ref h0)]) hx hb dX13_laysParts_26 rfl hl (by decide) rfl (fun ls hl => ?_)
    refine lv_aload_n hx hb dX13_laysParts_27 rfl (lv_at hl 3 rfl) ?_
    refine va_get (D := D) (ci := 10) (v := .ref (a 11)) (C := RX13) (T := TX13) (N := 45) hx hb hts in_X13_laysParts_X13 hown hE.1 hP 0 rfl rfl 11 (by decide) (hts (.fieldLink RX13 38 "ClauseBookModel" "two" "[I") (List.mem_of_getElem? (i := 4) rfl)) (fun _ h9 => h9) rfl dX13_laysParts_28 ?_
    refine lv_iload_n hx hb dX13_laysParts_31 rfl (lv_at hl 2 rfl) ?_
    refine va_iald hx hb hE.1 hP 4 0 rfl rfl (by rw [vp_in_iff]; first | omega | (subst_vars; omega)) dX13_laysParts_32 ?_
    refine lv_topi (fun z_5 ez_5 => ?_)
    have htz_5 : z_5.toInt = (f11 (xx.toNatClampNeg)).toInt := by rw [ez_5]
    refine lv_istore (lv' := [(4, .int z_5), (3, .int z_4), (2, .int r_3), (1, .int xx), (0, .ref h0)]) hx hb dX13_laysParts_33 hl (by decide) rfl (fun ls hl => ?_)
    refine lv_aload_n hx hb dX13_laysParts_35 rfl (lv_at hl 4 rfl) ?_
    refine va_get (D := D) (ci := 10) (v := .ref (a 17)) (C := RX13) (T := TX13) (N := 45) hx hb hts in_X13_laysParts_X13 hown hE.1 hP 0 rfl rfl 17 (by decide) (hts (.fieldLink RX13 47 "ClauseBookModel" "end" "[I") (List.mem_of_getElem? (i := 5) rfl)) (fun _ h9 => h9) rfl dX13_laysParts_36 ?_
    refine lv_iload_n hx hb dX13_laysParts_39 rfl (lv_at hl 3 rfl) ?_
    refine lv_iload_n hx hb dX13_laysParts_40 rfl (lv_at hl 2 rfl) ?_
    refine lv_if_ne (tgt := 49) hx hb dX13_laysParts_41 (by decide) (fun c_6 => ?_) (fun c_6 => ?_)
    · rw [fa_eq] at c_6
      try rw [ti_0] at c_6
      refine lv_iload_n hx hb dX13_laysParts_49 rfl (lv_at hl 2 rfl) ?_
      refine lv_iconst (v := 1) hx hb dX13_laysParts_50 (by decide) ?_
      refine lv_icmp_ne (tgt := 63) hx hb dX13_laysParts_51 (by decide) (fun c_7 => ?_) (fun c_7 => ?_)
      · rw [fa_eq] at c_7
        try rw [ti_1] at c_7
        refine lv_aload_n hx hb dX13_laysParts_63 rfl (lv_at hl 4 rfl) ?_
        refine va_get (D := D) (ci := 10) (v := .ref (a 17)) (C := RX13) (T := TX13) (N := 45) hx hb hts in_X13_laysParts_X13 hown hE.1 hP 0 rfl rfl 17 (by decide) (hts (.fieldLink RX13 47 "ClauseBookModel" "end" "[I") (List.mem_of_getElem? (i := 5) rfl)) (fun _ h9 => h9) rfl dX13_laysParts_64 ?_
        refine lv_iload_n hx hb dX13_laysParts_67 rfl (lv_at hl 1 rfl) ?_
        refine va_iald hx hb hE.1 hP 5 0 rfl rfl (by rw [vp_in_iff]; first | omega | (subst_vars; omega)) dX13_laysParts_68 ?_
        refine lv_topi (fun z_8 ez_8 => ?_)
        have h6z_8 : z_8.toInt ≤ 6 := by
          rw [ez_8]
          have h9 := tn (x := z_4) (by omega)
          exact (hEE _ (by omega)).1
        have hvz_8 : z_8.toInt = (e9 (z_4.toNatClampNeg)).toInt := by rw [ez_8]
        refine lv_aload_n hx hb dX13_laysParts_69 rfl (lv_at hl 4 rfl) ?_
        refine va_get (D := D) (ci := 10) (v := .ref (a 17)) (C := RX13) (T := TX13) (N := 45) hx hb hts in_X13_laysParts_X13 hown hE.1 hP 0 rfl rfl 17 (by decide) (hts (.fieldLink RX13 47 "ClauseBookModel" "end" "[I") (List.mem_of_getElem? (i := 5) rfl)) (fun _ h9 => h9) rfl dX13_laysParts_70 ?_
        refine lv_iload hx hb dX13_laysParts_73 (lv_at hl 0 rfl) ?_
        refine va_iald hx hb hE.1 hP 5 0 rfl rfl (by rw [vp_in_iff]; first | omega | (subst_vars; omega)) dX13_laysParts_75 ?_
        refine lv_topi (fun z_9 ez_9 => ?_)
        have h6z_9 : z_9.toInt ≤ 6 := by
          rw [ez_9]
          have h9 := tn (x := z_5) (by omega)
          exact (hEE _ (by omega)).1
        refine va_mmax hx hb (hml.trans hl.1.symm) hown (hts (.methodLink RX13 227 Lib.Math.max.name) (List.mem_of_getElem? (i := 6) rfl)) (hts (.static Lib.Math.max.name) (List.mem_of_getElem? (i := 7) rfl)) (hts (.initialized "java/lang/Math") (List.mem_of_getElem? (i := 8) rfl)) (hts (.code Lib.Math.max.name Lib.Math.max.code 2 (some .int)) (List.mem_of_getElem? (i := 9) rfl)) (Nat.le_of_ble_eq_true rfl) (Nat.le_of_ble_eq_true rfl) (Nat.le_of_ble_eq_true rfl) (Nat.le_of_ble_eq_true rfl) dX13_laysParts_76 ?_
        refine lv_topi (fun z_10 ez_10 => ?_)
        have h6z_10 : z_10.toInt ≤ 6 := by
          rw [ez_10]
          split
          · omega
          · omega
        refine va_iast hx hb hE.1 hP hD hS 5 0 rfl rfl (by rw [vp_in_iff]; first | omega | (subst_vars; omega)) dX13_laysParts_79 (fun H locs hP hD hS => ?_)
        have hP : va_P D vwCl [(h0, .inr (10, [.int (q 0), .int (q 1), .int (q 2), .int (q 3), .int (q 4), .int (q 5), .int (q 6), .int (q 7), .ref (a 8), .ref (a 9), .ref (a 10), .ref (a 11), .ref (a 12), .ref (a 13), .int (q 14), .long v, .long w, .ref (a 17), .ref (a 18), .ref (a 19), .ref (a 20), .ref (a 21), .ref (a 22), .ref (a 23), .int (q 24), .ref (a 25), .int (q 26), .ref (a 27), .int (q 28), .int (q 29), .int (q 30), .int (q 31), .int (q 32), .int (q 33), .ref (a 34), .ref (a 35), .ref (a 36), .ref (a 37), .ref (a 38), .ref (a 39), .ref (a 40), .int (q 41), .ref (a 42), .int (q 43), .int (q 44)])), ((a 8), .inl (T 0, 24, .inl f8)), ((a 9), .inl (T 0, 24, .inl f9)), ((a 10), .inl (T 0, 24, .inl f10)), ((a 11), .inl (T 0, 24, .inl f11)), ((a 17), .inl (T 0, 24, .inl (upd e9 (xx.toNatClampNeg) z_10))), ((a 18), .inl (T 0, 24, .inl p9)), ((a 19), .inl (T 0, 24, .inl d9))] H := hP
        have hD : va_D A [(h0, .inr (10, [.int (q 0), .int (q 1), .int (q 2), .int (q 3), .int (q 4), .int (q 5), .int (q 6), .int (q 7), .ref (a 8), .ref (a 9), .ref (a 10), .ref (a 11), .ref (a 12), .ref (a 13), .int (q 14), .long v, .long w, .ref (a 17), .ref (a 18), .ref (a 19), .ref (a 20), .ref (a 21), .ref (a 22), .ref (a 23), .int (q 24), .ref (a 25), .int (q 26), .ref (a 27), .int (q 28), .int (q 29), .int (q 30), .int (q 31), .int (q 32), .int (q 33), .ref (a 34), .ref (a 35), .ref (a 36), .ref (a 37), .ref (a 38), .ref (a 39), .ref (a 40), .int (q 41), .ref (a 42), .int (q 43), .int (q 44)])), ((a 8), .inl (T 0, 24, .inl f8)), ((a 9), .inl (T 0, 24, .inl f9)), ((a 10), .inl (T 0, 24, .inl f10)), ((a 11), .inl (T 0, 24, .inl f11)), ((a 17), .inl (T 0, 24, .inl (upd e9 (xx.toNatClampNeg) z_10))), ((a 18), .inl (T 0, 24, .inl p9)), ((a 19), .inl (T 0, 24, .inl d9))] := hD
        refine lv_aload_n hx hb dX13_laysParts_80 rfl (lv_at hl 4 rfl) ?_
        refine va_get (D := D) (ci := 10) (v := .ref (a 17)) (C := RX13) (T := TX13) (N := 45) hx hb hts in_X13_laysParts_X13 hown hE.1 hP 0 rfl rfl 17 (by decide) (hts (.fieldLink RX13 47 "ClauseBookModel" "end" "[I") (List.mem_of_getElem? (i := 5) rfl)) (fun _ h9 => h9) rfl dX13_laysParts_81 ?_
        refine lv_iload_n hx hb dX13_laysParts_84 rfl (lv_at hl 3 rfl) ?_
        refine lv_aload_n hx hb dX13_laysParts_85 rfl (lv_at hl 4 rfl) ?_
        refine va_get (D := D) (ci := 10) (v := .ref (a 8)) (C := RX13) (T := TX13) (N := 45) hx hb hts in_X13_laysParts_X13 hown hE.1 hP 0 rfl rfl 8 (by decide) (hts (.fieldLink RX13 28 "ClauseBookModel" "kind" "[I") (List.mem_of_getElem? (i := 2) rfl)) (fun _ h9 => h9) rfl dX13_laysParts_86 ?_
        refine lv_iload_n hx hb dX13_laysParts_89 rfl (lv_at hl 3 rfl) ?_
        refine va_iald hx hb hE.1 hP 1 0 rfl rfl (by rw [vp_in_iff]; first | omega | (subst_vars; omega)) dX13_laysParts_90 ?_
        refine lv_topi (fun z_11 ez_11 => ?_)
        refine lv_bipush (v := 8) hx hb dX13_laysParts_91 (by decide) ?_
        refine lv_icmp_ne (tgt := 114) hx hb dX13_laysParts_93 (by decide) (fun c_12 => ?_) (fun c_12 => ?_)
        · rw [fa_eq] at c_12
          try rw [ti_8] at c_12
          refine lv_aload_n hx hb dX13_laysParts_114 rfl (lv_at hl 4 rfl) ?_
          refine va_get (D := D) (ci := 10) (v := .ref (a 17)) (C := RX13) (T := TX13) (N := 45) hx hb hts in_X13_laysParts_X13 hown hE.1 hP 0 rfl rfl 17 (by decide) (hts (.fieldLink RX13 47 "ClauseBookModel" "end" "[I") (List.mem_of_getElem? (i := 5) rfl)) (fun _ h9 => h9) rfl dX13_laysParts_115 ?_
          refine lv_iload_n hx hb dX13_laysParts_118 rfl (lv_at hl 3 rfl) ?_
          refine va_iald hx hb hE.1 hP 5 0 rfl rfl (by rw [vp_in_iff]; first | omega | (subst_vars; omega)) dX13_laysParts_119 ?_
          refine lv_topi (fun z_13 ez_13 => ?_)
          have hxz_13 : z_13.toInt = (z_10 : Int32).toInt := by rw [ez_13, upd_at]
          refine va_iast hx hb hE.1 hP hD hS 5 0 rfl rfl (by rw [vp_in_iff]; first | omega | (subst_vars; omega)) dX13_laysParts_120 (fun H locs hP hD hS => ?_)
          have hP : va_P D vwCl [(h0, .inr (10, [.int (q 0), .int (q 1), .int (q 2), .int (q 3), .int (q 4), .int (q 5), .int (q 6), .int (q 7), .ref (a 8), .ref (a 9), .ref (a 10), .ref (a 11), .ref (a 12), .ref (a 13), .int (q 14), .long v, .long w, .ref (a 17), .ref (a 18), .ref (a 19), .ref (a 20), .ref (a 21), .ref (a 22), .ref (a 23), .int (q 24), .ref (a 25), .int (q 26), .ref (a 27), .int (q 28), .int (q 29), .int (q 30), .int (q 31), .int (q 32), .int (q 33), .ref (a 34), .ref (a 35), .ref (a 36), .ref (a 37), .ref (a 38), .ref (a 39), .ref (a 40), .int (q 41), .ref (a 42), .int (q 43), .int (q 44)])), ((a 8), .inl (T 0, 24, .inl f8)), ((a 9), .inl (T 0, 24, .inl f9)), ((a 10), .inl (T 0, 24, .inl f10)), ((a 11), .inl (T 0, 24, .inl f11)), ((a 17), .inl (T 0, 24, .inl (upd (upd e9 (xx.toNatClampNeg) z_10) (xx.toNatClampNeg) z_13))), ((a 18), .inl (T 0, 24, .inl p9)), ((a 19), .inl (T 0, 24, .inl d9))] H := hP
          have hD : va_D A [(h0, .inr (10, [.int (q 0), .int (q 1), .int (q 2), .int (q 3), .int (q 4), .int (q 5), .int (q 6), .int (q 7), .ref (a 8), .ref (a 9), .ref (a 10), .ref (a 11), .ref (a 12), .ref (a 13), .int (q 14), .long v, .long w, .ref (a 17), .ref (a 18), .ref (a 19), .ref (a 20), .ref (a 21), .ref (a 22), .ref (a 23), .int (q 24), .ref (a 25), .int (q 26), .ref (a 27), .int (q 28), .int (q 29), .int (q 30), .int (q 31), .int (q 32), .int (q 33), .ref (a 34), .ref (a 35), .ref (a 36), .ref (a 37), .ref (a 38), .ref (a 39), .ref (a 40), .int (q 41), .ref (a 42), .int (q 43), .int (q 44)])), ((a 8), .inl (T 0, 24, .inl f8)), ((a 9), .inl (T 0, 24, .inl f9)), ((a 10), .inl (T 0, 24, .inl f10)), ((a 11), .inl (T 0, 24, .inl f11)), ((a 17), .inl (T 0, 24, .inl (upd (upd e9 (xx.toNatClampNeg) z_10) (xx.toNatClampNeg) z_13))), ((a 18), .inl (T 0, 24, .inl p9)), ((a 19), .inl (T 0, 24, .inl d9))] := hD
          refine lv_aload_n hx hb dX13_laysParts_121 rfl (lv_at hl 4 rfl) ?_
          refine va_get (D := D) (ci := 10) (v := .ref (a 18)) (C := RX13) (T := TX13) (N := 45) hx hb hts in_X13_laysParts_X13 hown hE.1 hP 0 rfl rfl 18 (by decide) (hts (.fieldLink RX13 50 "ClauseBookModel" "parts" "[I") (List.mem_of_getElem? (i := 14) rfl)) (fun _ h9 => h9) rfl dX13_laysParts_122 ?_
          refine lv_iload_n hx hb dX13_laysParts_125 rfl (lv_at hl 3 rfl) ?_
          refine lv_iconst (v := 1) hx hb dX13_laysParts_126 (by decide) ?_
          refine lv_iload_n hx hb dX13_laysParts_127 rfl (lv_at hl 2 rfl) ?_
          refine lv_if_le (tgt := 140) hx hb dX13_laysParts_128 (by decide) (fun c_14 => ?_) (fun c_14 => ?_)
          · rw [fa_le] at c_14
            try rw [ti_0] at c_14
            refine lv_iconst (v := 0) hx hb dX13_laysParts_140 (by decide) ?_
            refine lv_iadd hx hb dX13_laysParts_141 ?_
            refine lv_topi (fun z_15 ez_15 => ?_)
            obtain rfl : z_15 = 1 := ez_15.trans (by decide)
            refine lv_iload_n hx hb dX13_laysParts_142 rfl (lv_at hl 2 rfl) ?_
            refine lv_iconst (v := 1) hx hb dX13_laysParts_143 (by decide) ?_
            refine lv_icmp_le (tgt := 157) hx hb dX13_laysParts_144 (by decide) (fun c_16 => ?_) (fun c_16 => ?_)
            · rw [fa_le] at c_16
              try rw [ti_1] at c_16
              refine lv_iconst (v := 0) hx hb dX13_laysParts_157 (by decide) ?_
              refine lv_iadd hx hb dX13_laysParts_158 ?_
              refine lv_topi (fun z_17 ez_17 => ?_)
              obtain rfl : z_17 = 1 := ez_17.trans (by decide)
              refine va_iast hx hb hE.1 hP hD hS 6 0 rfl rfl (by rw [vp_in_iff]; first | omega | (subst_vars; omega)) dX13_laysParts_159 (fun H locs hP hD hS => ?_)
              have hP : va_P D vwCl [(h0, .inr (10, [.int (q 0), .int (q 1), .int (q 2), .int (q 3), .int (q 4), .int (q 5), .int (q 6), .int (q 7), .ref (a 8), .ref (a 9), .ref (a 10), .ref (a 11), .ref (a 12), .ref (a 13), .int (q 14), .long v, .long w, .ref (a 17), .ref (a 18), .ref (a 19), .ref (a 20), .ref (a 21), .ref (a 22), .ref (a 23), .int (q 24), .ref (a 25), .int (q 26), .ref (a 27), .int (q 28), .int (q 29), .int (q 30), .int (q 31), .int (q 32), .int (q 33), .ref (a 34), .ref (a 35), .ref (a 36), .ref (a 37), .ref (a 38), .ref (a 39), .ref (a 40), .int (q 41), .ref (a 42), .int (q 43), .int (q 44)])), ((a 8), .inl (T 0, 24, .inl f8)), ((a 9), .inl (T 0, 24, .inl f9)), ((a 10), .inl (T 0, 24, .inl f10)), ((a 11), .inl (T 0, 24, .inl f11)), ((a 17), .inl (T 0, 24, .inl (upd (upd e9 (xx.toNatClampNeg) z_10) (xx.toNatClampNeg) z_13))), ((a 18), .inl (T 0, 24, .inl (upd p9 (xx.toNatClampNeg) 1))), ((a 19), .inl (T 0, 24, .inl d9))] H := hP
              have hD : va_D A [(h0, .inr (10, [.int (q 0), .int (q 1), .int (q 2), .int (q 3), .int (q 4), .int (q 5), .int (q 6), .int (q 7), .ref (a 8), .ref (a 9), .ref (a 10), .ref (a 11), .ref (a 12), .ref (a 13), .int (q 14), .long v, .long w, .ref (a 17), .ref (a 18), .ref (a 19), .ref (a 20), .ref (a 21), .ref (a 22), .ref (a 23), .int (q 24), .ref (a 25), .int (q 26), .ref (a 27), .int (q 28), .int (q 29), .int (q 30), .int (q 31), .int (q 32), .int (q 33), .ref (a 34), .ref (a 35), .ref (a 36), .ref (a 37), .ref (a 38), .ref (a 39), .ref (a 40), .int (q 41), .ref (a 42), .int (q 43), .int (q 44)])), ((a 8), .inl (T 0, 24, .inl f8)), ((a 9), .inl (T 0, 24, .inl f9)), ((a 10), .inl (T 0, 24, .inl f10)), ((a 11), .inl (T 0, 24, .inl f11)), ((a 17), .inl (T 0, 24, .inl (upd (upd e9 (xx.toNatClampNeg) z_10) (xx.toNatClampNeg) z_13))), ((a 18), .inl (T 0, 24, .inl (upd p9 (xx.toNatClampNeg) 1))), ((a 19), .inl (T 0, 24, .inl d9))] := hD
              refine lv_aload_n hx hb dX13_laysParts_160 rfl (lv_at hl 4 rfl) ?_
              refine va_get (D := D) (ci := 10) (v := .ref (a 19)) (C := RX13) (T := TX13) (N := 45) hx hb hts in_X13_laysParts_X13 hown hE.1 hP 0 rfl rfl 19 (by decide) (hts (.fieldLink RX13 53 "ClauseBookModel" "deep" "[I") (List.mem_of_getElem? (i := 15) rfl)) (fun _ h9 => h9) rfl dX13_laysParts_161 ?_
              refine lv_iload_n hx hb dX13_laysParts_164 rfl (lv_at hl 3 rfl) ?_
              refine lv_iconst (v := 1) hx hb dX13_laysParts_165 (by decide) ?_
              refine lv_iload_n hx hb dX13_laysParts_166 rfl (lv_at hl 2 rfl) ?_
              refine lv_if_ne (tgt := 174) hx hb dX13_laysParts_167 (by decide) (fun c_18 => ?_) (fun c_18 => ?_)
              · rw [fa_eq] at c_18
                try rw [ti_0] at c_18
                refine lv_iload_n hx hb dX13_laysParts_174 rfl (lv_at hl 2 rfl) ?_
                refine lv_iconst (v := 1) hx hb dX13_laysParts_175 (by decide) ?_
                refine lv_icmp_ne (tgt := 188) hx hb dX13_laysParts_176 (by decide) (fun c_19 => ?_) (fun c_19 => ?_)
                · rw [fa_eq] at c_19
                  try rw [ti_1] at c_19
                  refine lv_aload_n hx hb dX13_laysParts_188 rfl (lv_at hl 4 rfl) ?_
                  refine va_get (D := D) (ci := 10) (v := .ref (a 19)) (C := RX13) (T := TX13) (N := 45) hx hb hts in_X13_laysParts_X13 hown hE.1 hP 0 rfl rfl 19 (by decide) (hts (.fieldLink RX13 53 "ClauseBookModel" "deep" "[I") (List.mem_of_getElem? (i := 15) rfl)) (fun _ h9 => h9) rfl dX13_laysParts_189 ?_
                  refine lv_iload_n hx hb dX13_laysParts_192 rfl (lv_at hl 1 rfl) ?_
                  refine va_iald hx hb hE.1 hP 7 0 rfl rfl (by rw [vp_in_iff]; first | omega | (subst_vars; omega)) dX13_laysParts_193 ?_
                  refine lv_topi (fun z_20 ez_20 => ?_)
                  refine lv_aload_n hx hb dX13_laysParts_194 rfl (lv_at hl 4 rfl) ?_
                  refine va_get (D := D) (ci := 10) (v := .ref (a 19)) (C := RX13) (T := TX13) (N := 45) hx hb hts in_X13_laysParts_X13 hown hE.1 hP 0 rfl rfl 19 (by decide) (hts (.fieldLink RX13 53 "ClauseBookModel" "deep" "[I") (List.mem_of_getElem? (i := 15) rfl)) (fun _ h9 => h9) rfl dX13_laysParts_195 ?_
                  refine lv_iload hx hb dX13_laysParts_198 (lv_at hl 0 rfl) ?_
                  refine va_iald hx hb hE.1 hP 7 0 rfl rfl (by rw [vp_in_iff]; first | omega | (subst_vars; omega)) dX13_laysParts_200 ?_
                  refine lv_topi (fun z_21 ez_21 => ?_)
                  refine va_mmax hx hb (hml.trans hl.1.symm) hown (hts (.methodLink RX13 227 Lib.Math.max.name) (List.mem_of_getElem? (i := 6) rfl)) (hts (.static Lib.Math.max.name) (List.mem_of_getElem? (i := 7) rfl)) (hts (.initialized "java/lang/Math") (List.mem_of_getElem? (i := 8) rfl)) (hts (.code Lib.Math.max.name Lib.Math.max.code 2 (some .int)) (List.mem_of_getElem? (i := 9) rfl)) (Nat.le_of_ble_eq_true rfl) (Nat.le_of_ble_eq_true rfl) (Nat.le_of_ble_eq_true rfl) (Nat.le_of_ble_eq_true rfl) dX13_laysParts_201 ?_
                  refine lv_topi (fun z_22 ez_22 => ?_)
                  refine lv_iadd hx hb dX13_laysParts_204 ?_
                  refine va_iast hx hb hE.1 hP hD hS 7 0 rfl rfl (by rw [vp_in_iff]; first | omega | (subst_vars; omega)) dX13_laysParts_205 (fun H locs hP hD hS => ?_)
                  have hP : va_P D vwCl [(h0, .inr (10, [.int (q 0), .int (q 1), .int (q 2), .int (q 3), .int (q 4), .int (q 5), .int (q 6), .int (q 7), .ref (a 8), .ref (a 9), .ref (a 10), .ref (a 11), .ref (a 12), .ref (a 13), .int (q 14), .long v, .long w, .ref (a 17), .ref (a 18), .ref (a 19), .ref (a 20), .ref (a 21), .ref (a 22), .ref (a 23), .int (q 24), .ref (a 25), .int (q 26), .ref (a 27), .int (q 28), .int (q 29), .int (q 30), .int (q 31), .int (q 32), .int (q 33), .ref (a 34), .ref (a 35), .ref (a 36), .ref (a 37), .ref (a 38), .ref (a 39), .ref (a 40), .int (q 41), .ref (a 42), .int (q 43), .int (q 44)])), ((a 8), .inl (T 0, 24, .inl f8)), ((a 9), .inl (T 0, 24, .inl f9)), ((a 10), .inl (T 0, 24, .inl f10)), ((a 11), .inl (T 0, 24, .inl f11)), ((a 17), .inl (T 0, 24, .inl (upd (upd e9 (xx.toNatClampNeg) z_10) (xx.toNatClampNeg) z_13))), ((a 18), .inl (T 0, 24, .inl (upd p9 (xx.toNatClampNeg) 1))), ((a 19), .inl (T 0, 24, .inl (upd d9 (xx.toNatClampNeg) (1 + z_22))))] H := hP
                  have hD : va_D A [(h0, .inr (10, [.int (q 0), .int (q 1), .int (q 2), .int (q 3), .int (q 4), .int (q 5), .int (q 6), .int (q 7), .ref (a 8), .ref (a 9), .ref (a 10), .ref (a 11), .ref (a 12), .ref (a 13), .int (q 14), .long v, .long w, .ref (a 17), .ref (a 18), .ref (a 19), .ref (a 20), .ref (a 21), .ref (a 22), .ref (a 23), .int (q 24), .ref (a 25), .int (q 26), .ref (a 27), .int (q 28), .int (q 29), .int (q 30), .int (q 31), .int (q 32), .int (q 33), .ref (a 34), .ref (a 35), .ref (a 36), .ref (a 37), .ref (a 38), .ref (a 39), .ref (a 40), .int (q 41), .ref (a 42), .int (q 43), .int (q 44)])), ((a 8), .inl (T 0, 24, .inl f8)), ((a 9), .inl (T 0, 24, .inl f9)), ((a 10), .inl (T 0, 24, .inl f10)), ((a 11), .inl (T 0, 24, .inl f11)), ((a 17), .inl (T 0, 24, .inl (upd (upd e9 (xx.toNatClampNeg) z_10) (xx.toNatClampNeg) z_13))), ((a 18), .inl (T 0, 24, .inl (upd p9 (xx.toNatClampNeg) 1))), ((a 19), .inl (T 0, 24, .inl (upd d9 (xx.toNatClampNeg) (1 + z_22))))] := hD
                  obtain ⟨z_23, ez_23⟩ : ∃ y : Int32, y = xx + 1 := ⟨_, rfl⟩
                  refine lv_iinc (v := z_23) (lv' := [(1, .int z_23), (4, .int z_5), (3, .int z_4), (2, .int r_3), (0, .ref h0)]) hx hb dX13_laysParts_206 hl (k := 3) rfl (by rw [ez_23]; rfl) (by decide) rfl (fun ls hl => ?_)
                  have hz_239 : z_23.toInt = xx.toInt + 1 := by rw [ez_23]; exact inc1 (n := 1000) (by omega) (by decide)
                  refine lv_goto (tgt := 2) hx hb dX13_laysParts_209 (by decide) ?_
                  exact ih (z_23, (upd (upd e9 (xx.toNatClampNeg) z_10) (xx.toNatClampNeg) z_13), (upd p9 (xx.toNatClampNeg) 1), (upd d9 (xx.toNatClampNeg) (1 + z_22))) ls _ _ ⟨lv_sub hl [0, 4] rfl, hP.sub [0, 1, 2, 3, 4, 5, 6, 7] rfl, hD.sub [0, 1, 2, 3, 4, 5, 6, 7] (by decide) rfl, hS, ⟨(by rw [hz_239]; omega), (by rw [upd_upd]; exact okE_step (n := 0) hEE (by omega) hz_239 (by omega) (fun hk9 => by exfalso; have h9 := hlz_2 (by omega); omega) (okR.late hokR))⟩⟩ (by (try dsimp only); rw [hz_239]; omega)
                · rw [fa_eq] at c_19
                  try rw [ti_1] at c_19
                  refine lv_aload_n hx hb dX13_laysParts_179 rfl (lv_at hl 4 rfl) ?_
                  refine va_get (D := D) (ci := 10) (v := .ref (a 19)) (C := RX13) (T := TX13) (N := 45) hx hb hts in_X13_laysParts_X13 hown hE.1 hP 0 rfl rfl 19 (by decide) (hts (.fieldLink RX13 53 "ClauseBookModel" "deep" "[I") (List.mem_of_getElem? (i := 15) rfl)) (fun _ h9 => h9) rfl dX13_laysParts_180 ?_
                  refine lv_iload_n hx hb dX13_laysParts_183 rfl (lv_at hl 1 rfl) ?_
                  refine va_iald hx hb hE.1 hP 7 0 rfl rfl (by rw [vp_in_iff]; first | omega | (subst_vars; omega)) dX13_laysParts_184 ?_
                  refine lv_topi (fun z_24 ez_24 => ?_)
                  refine lv_goto (tgt := 204) hx hb dX13_laysParts_185 (by decide) ?_
                  refine lv_iadd hx hb dX13_laysParts_204 ?_
                  refine va_iast hx hb hE.1 hP hD hS 7 0 rfl rfl (by rw [vp_in_iff]; first | omega | (subst_vars; omega)) dX13_laysParts_205 (fun H locs hP hD hS => ?_)
                  have hP : va_P D vwCl [(h0, .inr (10, [.int (q 0), .int (q 1), .int (q 2), .int (q 3), .int (q 4), .int (q 5), .int (q 6), .int (q 7), .ref (a 8), .ref (a 9), .ref (a 10), .ref (a 11), .ref (a 12), .ref (a 13), .int (q 14), .long v, .long w, .ref (a 17), .ref (a 18), .ref (a 19), .ref (a 20), .ref (a 21), .ref (a 22), .ref (a 23), .int (q 24), .ref (a 25), .int (q 26), .ref (a 27), .int (q 28), .int (q 29), .int (q 30), .int (q 31), .int (q 32), .int (q 33), .ref (a 34), .ref (a 35), .ref (a 36), .ref (a 37), .ref (a 38), .ref (a 39), .ref (a 40), .int (q 41), .ref (a 42), .int (q 43), .int (q 44)])), ((a 8), .inl (T 0, 24, .inl f8)), ((a 9), .inl (T 0, 24, .inl f9)), ((a 10), .inl (T 0, 24, .inl f10)), ((a 11), .inl (T 0, 24, .inl f11)), ((a 17), .inl (T 0, 24, .inl (upd (upd e9 (xx.toNatClampNeg) z_10) (xx.toNatClampNeg) z_13))), ((a 18), .inl (T 0, 24, .inl (upd p9 (xx.toNatClampNeg) 1))), ((a 19), .inl (T 0, 24, .inl (upd d9 (xx.toNatClampNeg) (1 + z_24))))] H := hP
                  have hD : va_D A [(h0, .inr (10, [.int (q 0), .int (q 1), .int (q 2), .int (q 3), .int (q 4), .int (q 5), .int (q 6), .int (q 7), .ref (a 8), .ref (a 9), .ref (a 10), .ref (a 11), .ref (a 12), .ref (a 13), .int (q 14), .long v, .long w, .ref (a 17), .ref (a 18), .ref (a 19), .ref (a 20), .ref (a 21), .ref (a 22), .ref (a 23), .int (q 24), .ref (a 25), .int (q 26), .ref (a 27), .int (q 28), .int (q 29), .int (q 30), .int (q 31), .int (q 32), .int (q 33), .ref (a 34), .ref (a 35), .ref (a 36), .ref (a 37), .ref (a 38), .ref (a 39), .ref (a 40), .int (q 41), .ref (a 42), .int (q 43), .int (q 44)])), ((a 8), .inl (T 0, 24, .inl f8)), ((a 9), .inl (T 0, 24, .inl f9)), ((a 10), .inl (T 0, 24, .inl f10)), ((a 11), .inl (T 0, 24, .inl f11)), ((a 17), .inl (T 0, 24, .inl (upd (upd e9 (xx.toNatClampNeg) z_10) (xx.toNatClampNeg) z_13))), ((a 18), .inl (T 0, 24, .inl (upd p9 (xx.toNatClampNeg) 1))), ((a 19), .inl (T 0, 24, .inl (upd d9 (xx.toNatClampNeg) (1 + z_24))))] := hD
                  obtain ⟨z_25, ez_25⟩ : ∃ y : Int32, y = xx + 1 := ⟨_, rfl⟩
                  refine lv_iinc (v := z_25) (lv' := [(1, .int z_25), (4, .int z_5), (3, .int z_4), (2, .int r_3), (0, .ref h0)]) hx hb dX13_laysParts_206 hl (k := 3) rfl (by rw [ez_25]; rfl) (by decide) rfl (fun ls hl => ?_)
                  have hz_259 : z_25.toInt = xx.toInt + 1 := by rw [ez_25]; exact inc1 (n := 1000) (by omega) (by decide)
                  refine lv_goto (tgt := 2) hx hb dX13_laysParts_209 (by decide) ?_
                  exact ih (z_25, (upd (upd e9 (xx.toNatClampNeg) z_10) (xx.toNatClampNeg) z_13), (upd p9 (xx.toNatClampNeg) 1), (upd d9 (xx.toNatClampNeg) (1 + z_24))) ls _ _ ⟨lv_sub hl [0, 4] rfl, hP.sub [0, 1, 2, 3, 4, 5, 6, 7] rfl, hD.sub [0, 1, 2, 3, 4, 5, 6, 7] (by decide) rfl, hS, ⟨(by rw [hz_259]; omega), (by rw [upd_upd]; exact okE_step (n := 0) hEE (by omega) hz_259 (by omega) (fun hk9 => by exfalso; have h9 := hlz_2 (by omega); omega) (okR.late hokR))⟩⟩ (by (try dsimp only); rw [hz_259]; omega)
              · rw [fa_eq] at c_18
                try rw [ti_0] at c_18
                refine lv_iconst (v := 0) hx hb dX13_laysParts_170 (by decide) ?_
                refine lv_goto (tgt := 204) hx hb dX13_laysParts_171 (by decide) ?_
                refine lv_iadd hx hb dX13_laysParts_204 ?_
                refine lv_topi (fun z_26 ez_26 => ?_)
                obtain rfl : z_26 = 1 := ez_26.trans (by decide)
                refine va_iast hx hb hE.1 hP hD hS 7 0 rfl rfl (by rw [vp_in_iff]; first | omega | (subst_vars; omega)) dX13_laysParts_205 (fun H locs hP hD hS => ?_)
                have hP : va_P D vwCl [(h0, .inr (10, [.int (q 0), .int (q 1), .int (q 2), .int (q 3), .int (q 4), .int (q 5), .int (q 6), .int (q 7), .ref (a 8), .ref (a 9), .ref (a 10), .ref (a 11), .ref (a 12), .ref (a 13), .int (q 14), .long v, .long w, .ref (a 17), .ref (a 18), .ref (a 19), .ref (a 20), .ref (a 21), .ref (a 22), .ref (a 23), .int (q 24), .ref (a 25), .int (q 26), .ref (a 27), .int (q 28), .int (q 29), .int (q 30), .int (q 31), .int (q 32), .int (q 33), .ref (a 34), .ref (a 35), .ref (a 36), .ref (a 37), .ref (a 38), .ref (a 39), .ref (a 40), .int (q 41), .ref (a 42), .int (q 43), .int (q 44)])), ((a 8), .inl (T 0, 24, .inl f8)), ((a 9), .inl (T 0, 24, .inl f9)), ((a 10), .inl (T 0, 24, .inl f10)), ((a 11), .inl (T 0, 24, .inl f11)), ((a 17), .inl (T 0, 24, .inl (upd (upd e9 (xx.toNatClampNeg) z_10) (xx.toNatClampNeg) z_13))), ((a 18), .inl (T 0, 24, .inl (upd p9 (xx.toNatClampNeg) 1))), ((a 19), .inl (T 0, 24, .inl (upd d9 (xx.toNatClampNeg) 1)))] H := hP
                have hD : va_D A [(h0, .inr (10, [.int (q 0), .int (q 1), .int (q 2), .int (q 3), .int (q 4), .int (q 5), .int (q 6), .int (q 7), .ref (a 8), .ref (a 9), .ref (a 10), .ref (a 11), .ref (a 12), .ref (a 13), .int (q 14), .long v, .long w, .ref (a 17), .ref (a 18), .ref (a 19), .ref (a 20), .ref (a 21), .ref (a 22), .ref (a 23), .int (q 24), .ref (a 25), .int (q 26), .ref (a 27), .int (q 28), .int (q 29), .int (q 30), .int (q 31), .int (q 32), .int (q 33), .ref (a 34), .ref (a 35), .ref (a 36), .ref (a 37), .ref (a 38), .ref (a 39), .ref (a 40), .int (q 41), .ref (a 42), .int (q 43), .int (q 44)])), ((a 8), .inl (T 0, 24, .inl f8)), ((a 9), .inl (T 0, 24, .inl f9)), ((a 10), .inl (T 0, 24, .inl f10)), ((a 11), .inl (T 0, 24, .inl f11)), ((a 17), .inl (T 0, 24, .inl (upd (upd e9 (xx.toNatClampNeg) z_10) (xx.toNatClampNeg) z_13))), ((a 18), .inl (T 0, 24, .inl (upd p9 (xx.toNatClampNeg) 1))), ((a 19), .inl (T 0, 24, .inl (upd d9 (xx.toNatClampNeg) 1)))] := hD
                obtain ⟨z_27, ez_27⟩ : ∃ y : Int32, y = xx + 1 := ⟨_, rfl⟩
                refine lv_iinc (v := z_27) (lv' := [(1, .int z_27), (4, .int z_5), (3, .int z_4), (2, .int r_3), (0, .ref h0)]) hx hb dX13_laysParts_206 hl (k := 3) rfl (by rw [ez_27]; rfl) (by decide) rfl (fun ls hl => ?_)
                have hz_279 : z_27.toInt = xx.toInt + 1 := by rw [ez_27]; exact inc1 (n := 1000) (by omega) (by decide)
                refine lv_goto (tgt := 2) hx hb dX13_laysParts_209 (by decide) ?_
                exact ih (z_27, (upd (upd e9 (xx.toNatClampNeg) z_10) (xx.toNatClampNeg) z_13), (upd p9 (xx.toNatClampNeg) 1), (upd d9 (xx.toNatClampNeg) 1)) ls _ _ ⟨lv_sub hl [0, 4] rfl, hP.sub [0, 1, 2, 3, 4, 5, 6, 7] rfl, hD.sub [0, 1, 2, 3, 4, 5, 6, 7] (by decide) rfl, hS, ⟨(by rw [hz_279]; omega), (by rw [upd_upd]; exact okE_step (n := 0) hEE (by omega) hz_279 (by omega) (fun hk9 => by exfalso; have h9 := hlz_2 (by omega); omega) (okR.late hokR))⟩⟩ (by (try dsimp only); rw [hz_279]; omega)
            · rw [fa_le] at c_16
              try rw [ti_1] at c_16
              refine lv_aload_n hx hb dX13_laysParts_147 rfl (lv_at hl 4 rfl) ?_
              refine va_get (D := D) (ci := 10) (v := .ref (a 18)) (C := RX13) (T := TX13) (N := 45) hx hb hts in_X13_laysParts_X13 hown hE.1 hP 0 rfl rfl 18 (by decide) (hts (.fieldLink RX13 50 "ClauseBookModel" "parts" "[I") (List.mem_of_getElem? (i := 14) rfl)) (fun _ h9 => h9) rfl dX13_laysParts_148 ?_
              refine lv_iload hx hb dX13_laysParts_151 (lv_at hl 0 rfl) ?_
              refine va_iald hx hb hE.1 hP 6 0 rfl rfl (by rw [vp_in_iff]; first | omega | (subst_vars; omega)) dX13_laysParts_153 ?_
              refine lv_topi (fun z_28 ez_28 => ?_)
              refine lv_goto (tgt := 158) hx hb dX13_laysParts_154 (by decide) ?_
              refine lv_iadd hx hb dX13_laysParts_158 ?_
              refine va_iast hx hb hE.1 hP hD hS 6 0 rfl rfl (by rw [vp_in_iff]; first | omega | (subst_vars; omega)) dX13_laysParts_159 (fun H locs hP hD hS => ?_)
              have hP : va_P D vwCl [(h0, .inr (10, [.int (q 0), .int (q 1), .int (q 2), .int (q 3), .int (q 4), .int (q 5), .int (q 6), .int (q 7), .ref (a 8), .ref (a 9), .ref (a 10), .ref (a 11), .ref (a 12), .ref (a 13), .int (q 14), .long v, .long w, .ref (a 17), .ref (a 18), .ref (a 19), .ref (a 20), .ref (a 21), .ref (a 22), .ref (a 23), .int (q 24), .ref (a 25), .int (q 26), .ref (a 27), .int (q 28), .int (q 29), .int (q 30), .int (q 31), .int (q 32), .int (q 33), .ref (a 34), .ref (a 35), .ref (a 36), .ref (a 37), .ref (a 38), .ref (a 39), .ref (a 40), .int (q 41), .ref (a 42), .int (q 43), .int (q 44)])), ((a 8), .inl (T 0, 24, .inl f8)), ((a 9), .inl (T 0, 24, .inl f9)), ((a 10), .inl (T 0, 24, .inl f10)), ((a 11), .inl (T 0, 24, .inl f11)), ((a 17), .inl (T 0, 24, .inl (upd (upd e9 (xx.toNatClampNeg) z_10) (xx.toNatClampNeg) z_13))), ((a 18), .inl (T 0, 24, .inl (upd p9 (xx.toNatClampNeg) (1 + z_28)))), ((a 19), .inl (T 0, 24, .inl d9))] H := hP
              have hD : va_D A [(h0, .inr (10, [.int (q 0), .int (q 1), .int (q 2), .int (q 3), .int (q 4), .int (q 5), .int (q 6), .int (q 7), .ref (a 8), .ref (a 9), .ref (a 10), .ref (a 11), .ref (a 12), .ref (a 13), .int (q 14), .long v, .long w, .ref (a 17), .ref (a 18), .ref (a 19), .ref (a 20), .ref (a 21), .ref (a 22), .ref (a 23), .int (q 24), .ref (a 25), .int (q 26), .ref (a 27), .int (q 28), .int (q 29), .int (q 30), .int (q 31), .int (q 32), .int (q 33), .ref (a 34), .ref (a 35), .ref (a 36), .ref (a 37), .ref (a 38), .ref (a 39), .ref (a 40), .int (q 41), .ref (a 42), .int (q 43), .int (q 44)])), ((a 8), .inl (T 0, 24, .inl f8)), ((a 9), .inl (T 0, 24, .inl f9)), ((a 10), .inl (T 0, 24, .inl f10)), ((a 11), .inl (T 0, 24, .inl f11)), ((a 17), .inl (T 0, 24, .inl (upd (upd e9 (xx.toNatClampNeg) z_10) (xx.toNatClampNeg) z_13))), ((a 18), .inl (T 0, 24, .inl (upd p9 (xx.toNatClampNeg) (1 + z_28)))), ((a 19), .inl (T 0, 24, .inl d9))] := hD
              refine lv_aload_n hx hb dX13_laysParts_160 rfl (lv_at hl 4 rfl) ?_
              refine va_get (D := D) (ci := 10) (v := .ref (a 19)) (C := RX13) (T := TX13) (N := 45) hx hb hts in_X13_laysParts_X13 hown hE.1 hP 0 rfl rfl 19 (by decide) (hts (.fieldLink RX13 53 "ClauseBookModel" "deep" "[I") (List.mem_of_getElem? (i := 15) rfl)) (fun _ h9 => h9) rfl dX13_laysParts_161 ?_
              refine lv_iload_n hx hb dX13_laysParts_164 rfl (lv_at hl 3 rfl) ?_
              refine lv_iconst (v := 1) hx hb dX13_laysParts_165 (by decide) ?_
              refine lv_iload_n hx hb dX13_laysParts_166 rfl (lv_at hl 2 rfl) ?_
              refine lv_if_ne (tgt := 174) hx hb dX13_laysParts_167 (by decide) (fun c_29 => ?_) (fun c_29 => ?_)
              · rw [fa_eq] at c_29
                try rw [ti_0] at c_29
                refine lv_iload_n hx hb dX13_laysParts_174 rfl (lv_at hl 2 rfl) ?_
                refine lv_iconst (v := 1) hx hb dX13_laysParts_175 (by decide) ?_
                refine lv_icmp_ne (tgt := 188) hx hb dX13_laysParts_176 (by decide) (fun c_30 => ?_) (fun c_30 => ?_)
                · rw [fa_eq] at c_30
                  try rw [ti_1] at c_30
                  refine lv_aload_n hx hb dX13_laysParts_188 rfl (lv_at hl 4 rfl) ?_
                  refine va_get (D := D) (ci := 10) (v := .ref (a 19)) (C := RX13) (T := TX13) (N := 45) hx hb hts in_X13_laysParts_X13 hown hE.1 hP 0 rfl rfl 19 (by decide) (hts (.fieldLink RX13 53 "ClauseBookModel" "deep" "[I") (List.mem_of_getElem? (i := 15) rfl)) (fun _ h9 => h9) rfl dX13_laysParts_189 ?_
                  refine lv_iload_n hx hb dX13_laysParts_192 rfl (lv_at hl 1 rfl) ?_
                  refine va_iald hx hb hE.1 hP 7 0 rfl rfl (by rw [vp_in_iff]; first | omega | (subst_vars; omega)) dX13_laysParts_193 ?_
                  refine lv_topi (fun z_31 ez_31 => ?_)
                  refine lv_aload_n hx hb dX13_laysParts_194 rfl (lv_at hl 4 rfl) ?_
                  refine va_get (D := D) (ci := 10) (v := .ref (a 19)) (C := RX13) (T := TX13) (N := 45) hx hb hts in_X13_laysParts_X13 hown hE.1 hP 0 rfl rfl 19 (by decide) (hts (.fieldLink RX13 53 "ClauseBookModel" "deep" "[I") (List.mem_of_getElem? (i := 15) rfl)) (fun _ h9 => h9) rfl dX13_laysParts_195 ?_
                  refine lv_iload hx hb dX13_laysParts_198 (lv_at hl 0 rfl) ?_
                  refine va_iald hx hb hE.1 hP 7 0 rfl rfl (by rw [vp_in_iff]; first | omega | (subst_vars; omega)) dX13_laysParts_200 ?_
                  refine lv_topi (fun z_32 ez_32 => ?_)
                  refine va_mmax hx hb (hml.trans hl.1.symm) hown (hts (.methodLink RX13 227 Lib.Math.max.name) (List.mem_of_getElem? (i := 6) rfl)) (hts (.static Lib.Math.max.name) (List.mem_of_getElem? (i := 7) rfl)) (hts (.initialized "java/lang/Math") (List.mem_of_getElem? (i := 8) rfl)) (hts (.code Lib.Math.max.name Lib.Math.max.code 2 (some .int)) (List.mem_of_getElem? (i := 9) rfl)) (Nat.le_of_ble_eq_true rfl) (Nat.le_of_ble_eq_true rfl) (Nat.le_of_ble_eq_true rfl) (Nat.le_of_ble_eq_true rfl) dX13_laysParts_201 ?_
                  refine lv_topi (fun z_33 ez_33 => ?_)
                  refine lv_iadd hx hb dX13_laysParts_204 ?_
                  refine va_iast hx hb hE.1 hP hD hS 7 0 rfl rfl (by rw [vp_in_iff]; first | omega | (subst_vars; omega)) dX13_laysParts_205 (fun H locs hP hD hS => ?_)
                  have hP : va_P D vwCl [(h0, .inr (10, [.int (q 0), .int (q 1), .int (q 2), .int (q 3), .int (q 4), .int (q 5), .int (q 6), .int (q 7), .ref (a 8), .ref (a 9), .ref (a 10), .ref (a 11), .ref (a 12), .ref (a 13), .int (q 14), .long v, .long w, .ref (a 17), .ref (a 18), .ref (a 19), .ref (a 20), .ref (a 21), .ref (a 22), .ref (a 23), .int (q 24), .ref (a 25), .int (q 26), .ref (a 27), .int (q 28), .int (q 29), .int (q 30), .int (q 31), .int (q 32), .int (q 33), .ref (a 34), .ref (a 35), .ref (a 36), .ref (a 37), .ref (a 38), .ref (a 39), .ref (a 40), .int (q 41), .ref (a 42), .int (q 43), .int (q 44)])), ((a 8), .inl (T 0, 24, .inl f8)), ((a 9), .inl (T 0, 24, .inl f9)), ((a 10), .inl (T 0, 24, .inl f10)), ((a 11), .inl (T 0, 24, .inl f11)), ((a 17), .inl (T 0, 24, .inl (upd (upd e9 (xx.toNatClampNeg) z_10) (xx.toNatClampNeg) z_13))), ((a 18), .inl (T 0, 24, .inl (upd p9 (xx.toNatClampNeg) (1 + z_28)))), ((a 19), .inl (T 0, 24, .inl (upd d9 (xx.toNatClampNeg) (1 + z_33))))] H := hP
                  have hD : va_D A [(h0, .inr (10, [.int (q 0), .int (q 1), .int (q 2), .int (q 3), .int (q 4), .int (q 5), .int (q 6), .int (q 7), .ref (a 8), .ref (a 9), .ref (a 10), .ref (a 11), .ref (a 12), .ref (a 13), .int (q 14), .long v, .long w, .ref (a 17), .ref (a 18), .ref (a 19), .ref (a 20), .ref (a 21), .ref (a 22), .ref (a 23), .int (q 24), .ref (a 25), .int (q 26), .ref (a 27), .int (q 28), .int (q 29), .int (q 30), .int (q 31), .int (q 32), .int (q 33), .ref (a 34), .ref (a 35), .ref (a 36), .ref (a 37), .ref (a 38), .ref (a 39), .ref (a 40), .int (q 41), .ref (a 42), .int (q 43), .int (q 44)])), ((a 8), .inl (T 0, 24, .inl f8)), ((a 9), .inl (T 0, 24, .inl f9)), ((a 10), .inl (T 0, 24, .inl f10)), ((a 11), .inl (T 0, 24, .inl f11)), ((a 17), .inl (T 0, 24, .inl (upd (upd e9 (xx.toNatClampNeg) z_10) (xx.toNatClampNeg) z_13))), ((a 18), .inl (T 0, 24, .inl (upd p9 (xx.toNatClampNeg) (1 + z_28)))), ((a 19), .inl (T 0, 24, .inl (upd d9 (xx.toNatClampNeg) (1 + z_33))))] := hD
                  obtain ⟨z_34, ez_34⟩ : ∃ y : Int32, y = xx + 1 := ⟨_, rfl⟩
                  refine lv_iinc (v := z_34) (lv' := [(1, .int z_34), (4, .int z_5), (3, .int z_4), (2, .int r_3), (0, .ref h0)]) hx hb dX13_laysParts_206 hl (k := 3) rfl (by rw [ez_34]; rfl) (by decide) rfl (fun ls hl => ?_)
                  have hz_349 : z_34.toInt = xx.toInt + 1 := by rw [ez_34]; exact inc1 (n := 1000) (by omega) (by decide)
                  refine lv_goto (tgt := 2) hx hb dX13_laysParts_209 (by decide) ?_
                  exact ih (z_34, (upd (upd e9 (xx.toNatClampNeg) z_10) (xx.toNatClampNeg) z_13), (upd p9 (xx.toNatClampNeg) (1 + z_28)), (upd d9 (xx.toNatClampNeg) (1 + z_33))) ls _ _ ⟨lv_sub hl [0, 4] rfl, hP.sub [0, 1, 2, 3, 4, 5, 6, 7] rfl, hD.sub [0, 1, 2, 3, 4, 5, 6, 7] (by decide) rfl, hS, ⟨(by rw [hz_349]; omega), (by rw [upd_upd]; exact okE_step (n := 0) hEE (by omega) hz_349 (by omega) (fun hk9 => by exfalso; have h9 := hlz_2 (by omega); omega) (okR.late hokR))⟩⟩ (by (try dsimp only); rw [hz_349]; omega)
                · rw [fa_eq] at c_30
                  try rw [ti_1] at c_30
                  refine lv_aload_n hx hb dX13_laysParts_179 rfl (lv_at hl 4 rfl) ?_
                  refine va_get (D := D) (ci := 10) (v := .ref (a 19)) (C := RX13) (T := TX13) (N := 45) hx hb hts in_X13_laysParts_X13 hown hE.1 hP 0 rfl rfl 19 (by decide) (hts (.fieldLink RX13 53 "ClauseBookModel" "deep" "[I") (List.mem_of_getElem? (i := 15) rfl)) (fun _ h9 => h9) rfl dX13_laysParts_180 ?_
                  refine lv_iload_n hx hb dX13_laysParts_183 rfl (lv_at hl 1 rfl) ?_
                  refine va_iald hx hb hE.1 hP 7 0 rfl rfl (by rw [vp_in_iff]; first | omega | (subst_vars; omega)) dX13_laysParts_184 ?_
                  refine lv_topi (fun z_35 ez_35 => ?_)
                  refine lv_goto (tgt := 204) hx hb dX13_laysParts_185 (by decide) ?_
                  refine lv_iadd hx hb dX13_laysParts_204 ?_
                  refine va_iast hx hb hE.1 hP hD hS 7 0 rfl rfl (by rw [vp_in_iff]; first | omega | (subst_vars; omega)) dX13_laysParts_205 (fun H locs hP hD hS => ?_)
                  have hP : va_P D vwCl [(h0, .inr (10, [.int (q 0), .int (q 1), .int (q 2), .int (q 3), .int (q 4), .int (q 5), .int (q 6), .int (q 7), .ref (a 8), .ref (a 9), .ref (a 10), .ref (a 11), .ref (a 12), .ref (a 13), .int (q 14), .long v, .long w, .ref (a 17), .ref (a 18), .ref (a 19), .ref (a 20), .ref (a 21), .ref (a 22), .ref (a 23), .int (q 24), .ref (a 25), .int (q 26), .ref (a 27), .int (q 28), .int (q 29), .int (q 30), .int (q 31), .int (q 32), .int (q 33), .ref (a 34), .ref (a 35), .ref (a 36), .ref (a 37), .ref (a 38), .ref (a 39), .ref (a 40), .int (q 41), .ref (a 42), .int (q 43), .int (q 44)])), ((a 8), .inl (T 0, 24, .inl f8)), ((a 9), .inl (T 0, 24, .inl f9)), ((a 10), .inl (T 0, 24, .inl f10)), ((a 11), .inl (T 0, 24, .inl f11)), ((a 17), .inl (T 0, 24, .inl (upd (upd e9 (xx.toNatClampNeg) z_10) (xx.toNatClampNeg) z_13))), ((a 18), .inl (T 0, 24, .inl (upd p9 (xx.toNatClampNeg) (1 + z_28)))), ((a 19), .inl (T 0, 24, .inl (upd d9 (xx.toNatClampNeg) (1 + z_35))))] H := hP
                  have hD : va_D A [(h0, .inr (10, [.int (q 0), .int (q 1), .int (q 2), .int (q 3), .int (q 4), .int (q 5), .int (q 6), .int (q 7), .ref (a 8), .ref (a 9), .ref (a 10), .ref (a 11), .ref (a 12), .ref (a 13), .int (q 14), .long v, .long w, .ref (a 17), .ref (a 18), .ref (a 19), .ref (a 20), .ref (a 21), .ref (a 22), .ref (a 23), .int (q 24), .ref (a 25), .int (q 26), .ref (a 27), .int (q 28), .int (q 29), .int (q 30), .int (q 31), .int (q 32), .int (q 33), .ref (a 34), .ref (a 35), .ref (a 36), .ref (a 37), .ref (a 38), .ref (a 39), .ref (a 40), .int (q 41), .ref (a 42), .int (q 43), .int (q 44)])), ((a 8), .inl (T 0, 24, .inl f8)), ((a 9), .inl (T 0, 24, .inl f9)), ((a 10), .inl (T 0, 24, .inl f10)), ((a 11), .inl (T 0, 24, .inl f11)), ((a 17), .inl (T 0, 24, .inl (upd (upd e9 (xx.toNatClampNeg) z_10) (xx.toNatClampNeg) z_13))), ((a 18), .inl (T 0, 24, .inl (upd p9 (xx.toNatClampNeg) (1 + z_28)))), ((a 19), .inl (T 0, 24, .inl (upd d9 (xx.toNatClampNeg) (1 + z_35))))] := hD
                  obtain ⟨z_36, ez_36⟩ : ∃ y : Int32, y = xx + 1 := ⟨_, rfl⟩
                  refine lv_iinc (v := z_36) (lv' := [(1, .int z_36), (4, .int z_5), (3, .int z_4), (2, .int r_3), (0, .ref h0)]) hx hb dX13_laysParts_206 hl (k := 3) rfl (by rw [ez_36]; rfl) (by decide) rfl (fun ls hl => ?_)
                  have hz_369 : z_36.toInt = xx.toInt + 1 := by rw [ez_36]; exact inc1 (n := 1000) (by omega) (by decide)
                  refine lv_goto (tgt := 2) hx hb dX13_laysParts_209 (by decide) ?_
                  exact ih (z_36, (upd (upd e9 (xx.toNatClampNeg) z_10) (xx.toNatClampNeg) z_13), (upd p9 (xx.toNatClampNeg) (1 + z_28)), (upd d9 (xx.toNatClampNeg) (1 + z_35))) ls _ _ ⟨lv_sub hl [0, 4] rfl, hP.sub [0, 1, 2, 3, 4, 5, 6, 7] rfl, hD.sub [0, 1, 2, 3, 4, 5, 6, 7] (by decide) rfl, hS, ⟨(by rw [hz_369]; omega), (by rw [upd_upd]; exact okE_step (n := 0) hEE (by omega) hz_369 (by omega) (fun hk9 => by exfalso; have h9 := hlz_2 (by omega); omega) (okR.late hokR))⟩⟩ (by (try dsimp only); rw [hz_369]; omega)
              · rw [fa_eq] at c_29
                try rw [ti_0] at c_29
                refine lv_iconst (v := 0) hx hb dX13_laysParts_170 (by decide) ?_
                refine lv_goto (tgt := 204) hx hb dX13_laysParts_171 (by decide) ?_
                refine lv_iadd hx hb dX13_laysParts_204 ?_
                refine lv_topi (fun z_37 ez_37 => ?_)
                obtain rfl : z_37 = 1 := ez_37.trans (by decide)
                refine va_iast hx hb hE.1 hP hD hS 7 0 rfl rfl (by rw [vp_in_iff]; first | omega | (subst_vars; omega)) dX13_laysParts_205 (fun H locs hP hD hS => ?_)
                have hP : va_P D vwCl [(h0, .inr (10, [.int (q 0), .int (q 1), .int (q 2), .int (q 3), .int (q 4), .int (q 5), .int (q 6), .int (q 7), .ref (a 8), .ref (a 9), .ref (a 10), .ref (a 11), .ref (a 12), .ref (a 13), .int (q 14), .long v, .long w, .ref (a 17), .ref (a 18), .ref (a 19), .ref (a 20), .ref (a 21), .ref (a 22), .ref (a 23), .int (q 24), .ref (a 25), .int (q 26), .ref (a 27), .int (q 28), .int (q 29), .int (q 30), .int (q 31), .int (q 32), .int (q 33), .ref (a 34), .ref (a 35), .ref (a 36), .ref (a 37), .ref (a 38), .ref (a 39), .ref (a 40), .int (q 41), .ref (a 42), .int (q 43), .int (q 44)])), ((a 8), .inl (T 0, 24, .inl f8)), ((a 9), .inl (T 0, 24, .inl f9)), ((a 10), .inl (T 0, 24, .inl f10)), ((a 11), .inl (T 0, 24, .inl f11)), ((a 17), .inl (T 0, 24, .inl (upd (upd e9 (xx.toNatClampNeg) z_10) (xx.toNatClampNeg) z_13))), ((a 18), .inl (T 0, 24, .inl (upd p9 (xx.toNatClampNeg) (1 + z_28)))), ((a 19), .inl (T 0, 24, .inl (upd d9 (xx.toNatClampNeg) 1)))] H := hP
                have hD : va_D A [(h0, .inr (10, [.int (q 0), .int (q 1), .int (q 2), .int (q 3), .int (q 4), .int (q 5), .int (q 6), .int (q 7), .ref (a 8), .ref (a 9), .ref (a 10), .ref (a 11), .ref (a 12), .ref (a 13), .int (q 14), .long v, .long w, .ref (a 17), .ref (a 18), .ref (a 19), .ref (a 20), .ref (a 21), .ref (a 22), .ref (a 23), .int (q 24), .ref (a 25), .int (q 26), .ref (a 27), .int (q 28), .int (q 29), .int (q 30), .int (q 31), .int (q 32), .int (q 33), .ref (a 34), .ref (a 35), .ref (a 36), .ref (a 37), .ref (a 38), .ref (a 39), .ref (a 40), .int (q 41), .ref (a 42), .int (q 43), .int (q 44)])), ((a 8), .inl (T 0, 24, .inl f8)), ((a 9), .inl (T 0, 24, .inl f9)), ((a 10), .inl (T 0, 24, .inl f10)), ((a 11), .inl (T 0, 24, .inl f11)), ((a 17), .inl (T 0, 24, .inl (upd (upd e9 (xx.toNatClampNeg) z_10) (xx.toNatClampNeg) z_13))), ((a 18), .inl (T 0, 24, .inl (upd p9 (xx.toNatClampNeg) (1 + z_28)))), ((a 19), .inl (T 0, 24, .inl (upd d9 (xx.toNatClampNeg) 1)))] := hD
                obtain ⟨z_38, ez_38⟩ : ∃ y : Int32, y = xx + 1 := ⟨_, rfl⟩
                refine lv_iinc (v := z_38) (lv' := [(1, .int z_38), (4, .int z_5), (3, .int z_4), (2, .int r_3), (0, .ref h0)]) hx hb dX13_laysParts_206 hl (k := 3) rfl (by rw [ez_38]; rfl) (by decide) rfl (fun ls hl => ?_)
                have hz_389 : z_38.toInt = xx.toInt + 1 := by rw [ez_38]; exact inc1 (n := 1000) (by omega) (by decide)
                refine lv_goto (tgt := 2) hx hb dX13_laysParts_209 (by decide) ?_
                exact ih (z_38, (upd (upd e9 (xx.toNatClampNeg) z_10) (xx.toNatClampNeg) z_13), (upd p9 (xx.toNatClampNeg) (1 + z_28)), (upd d9 (xx.toNatClampNeg) 1)) ls _ _ ⟨lv_sub hl [0, 4] rfl, hP.sub [0, 1, 2, 3, 4, 5, 6, 7] rfl, hD.sub [0, 1, 2, 3, 4, 5, 6, 7] (by decide) rfl, hS, ⟨(by rw [hz_389]; omega), (by rw [upd_upd]; exact okE_step (n := 0) hEE (by omega) hz_389 (by omega) (fun hk9 => by exfalso; have h9 := hlz_2 (by omega); omega) (okR.late hokR))⟩⟩ (by (try dsimp only); rw [hz_389]; omega)
          · rw [fa_le] at c_14
            try rw [ti_0] at c_14
            refine lv_aload_n hx hb dX13_laysParts_131 rfl (lv_at hl 4 rfl) ?_
            refine va_get (D := D) (ci := 10) (v := .ref (a 18)) (C := RX13) (T := TX13) (N := 45) hx hb hts in_X13_laysParts_X13 hown hE.1 hP 0 rfl rfl 18 (by decide) (hts (.fieldLink RX13 50 "ClauseBookModel" "parts" "[I") (List.mem_of_getElem? (i := 14) rfl)) (fun _ h9 => h9) rfl dX13_laysParts_132 ?_
            refine lv_iload_n hx hb dX13_laysParts_135 rfl (lv_at hl 1 rfl) ?_
            refine va_iald hx hb hE.1 hP 6 0 rfl rfl (by rw [vp_in_iff]; first | omega | (subst_vars; omega)) dX13_laysParts_136 ?_
            refine lv_topi (fun z_39 ez_39 => ?_)
            refine lv_goto (tgt := 141) hx hb dX13_laysParts_137 (by decide) ?_
            refine lv_iadd hx hb dX13_laysParts_141 ?_
            refine lv_iload_n hx hb dX13_laysParts_142 rfl (lv_at hl 2 rfl) ?_
            refine lv_iconst (v := 1) hx hb dX13_laysParts_143 (by decide) ?_
            refine lv_icmp_le (tgt := 157) hx hb dX13_laysParts_144 (by decide) (fun c_40 => ?_) (fun c_40 => ?_)
            · rw [fa_le] at c_40
              try rw [ti_1] at c_40
              refine lv_iconst (v := 0) hx hb dX13_laysParts_157 (by decide) ?_
              refine lv_iadd hx hb dX13_laysParts_158 ?_
              refine va_iast hx hb hE.1 hP hD hS 6 0 rfl rfl (by rw [vp_in_iff]; first | omega | (subst_vars; omega)) dX13_laysParts_159 (fun H locs hP hD hS => ?_)
              have hP : va_P D vwCl [(h0, .inr (10, [.int (q 0), .int (q 1), .int (q 2), .int (q 3), .int (q 4), .int (q 5), .int (q 6), .int (q 7), .ref (a 8), .ref (a 9), .ref (a 10), .ref (a 11), .ref (a 12), .ref (a 13), .int (q 14), .long v, .long w, .ref (a 17), .ref (a 18), .ref (a 19), .ref (a 20), .ref (a 21), .ref (a 22), .ref (a 23), .int (q 24), .ref (a 25), .int (q 26), .ref (a 27), .int (q 28), .int (q 29), .int (q 30), .int (q 31), .int (q 32), .int (q 33), .ref (a 34), .ref (a 35), .ref (a 36), .ref (a 37), .ref (a 38), .ref (a 39), .ref (a 40), .int (q 41), .ref (a 42), .int (q 43), .int (q 44)])), ((a 8), .inl (T 0, 24, .inl f8)), ((a 9), .inl (T 0, 24, .inl f9)), ((a 10), .inl (T 0, 24, .inl f10)), ((a 11), .inl (T 0, 24, .inl f11)), ((a 17), .inl (T 0, 24, .inl (upd (upd e9 (xx.toNatClampNeg) z_10) (xx.toNatClampNeg) z_13))), ((a 18), .inl (T 0, 24, .inl (upd p9 (xx.toNatClampNeg) ((1 + z_39) + 0)))), ((a 19), .inl (T 0, 24, .inl d9))] H := hP
              have hD : va_D A [(h0, .inr (10, [.int (q 0), .int (q 1), .int (q 2), .int (q 3), .int (q 4), .int (q 5), .int (q 6), .int (q 7), .ref (a 8), .ref (a 9), .ref (a 10), .ref (a 11), .ref (a 12), .ref (a 13), .int (q 14), .long v, .long w, .ref (a 17), .ref (a 18), .ref (a 19), .ref (a 20), .ref (a 21), .ref (a 22), .ref (a 23), .int (q 24), .ref (a 25), .int (q 26), .ref (a 27), .int (q 28), .int (q 29), .int (q 30), .int (q 31), .int (q 32), .int (q 33), .ref (a 34), .ref (a 35), .ref (a 36), .ref (a 37), .ref (a 38), .ref (a 39), .ref (a 40), .int (q 41), .ref (a 42), .int (q 43), .int (q 44)])), ((a 8), .inl (T 0, 24, .inl f8)), ((a 9), .inl (T 0, 24, .inl f9)), ((a 10), .inl (T 0, 24, .inl f10)), ((a 11), .inl (T 0, 24, .inl f11)), ((a 17), .inl (T 0, 24, .inl (upd (upd e9 (xx.toNatClampNeg) z_10) (xx.toNatClampNeg) z_13))), ((a 18), .inl (T 0, 24, .inl (upd p9 (xx.toNatClampNeg) ((1 + z_39) + 0)))), ((a 19), .inl (T 0, 24, .inl d9))] := hD
              refine lv_aload_n hx hb dX13_laysParts_160 rfl (lv_at hl 4 rfl) ?_
              refine va_get (D := D) (ci := 10) (v := .ref (a 19)) (C := RX13) (T := TX13) (N := 45) hx hb hts in_X13_laysParts_X13 hown hE.1 hP 0 rfl rfl 19 (by decide) (hts (.fieldLink RX13 53 "ClauseBookModel" "deep" "[I") (List.mem_of_getElem? (i := 15) rfl)) (fun _ h9 => h9) rfl dX13_laysParts_161 ?_
              refine lv_iload_n hx hb dX13_laysParts_164 rfl (lv_at hl 3 rfl) ?_
              refine lv_iconst (v := 1) hx hb dX13_laysParts_165 (by decide) ?_
              refine lv_iload_n hx hb dX13_laysParts_166 rfl (lv_at hl 2 rfl) ?_
              refine lv_if_ne (tgt := 174) hx hb dX13_laysParts_167 (by decide) (fun c_41 => ?_) (fun c_41 => ?_)
              · rw [fa_eq] at c_41
                try rw [ti_0] at c_41
                refine lv_iload_n hx hb dX13_laysParts_174 rfl (lv_at hl 2 rfl) ?_
                refine lv_iconst (v := 1) hx hb dX13_laysParts_175 (by decide) ?_
                refine lv_icmp_ne (tgt := 188) hx hb dX13_laysParts_176 (by decide) (fun c_42 => ?_) (fun c_42 => ?_)
                · rw [fa_eq] at c_42
                  try rw [ti_1] at c_42
                  refine lv_aload_n hx hb dX13_laysParts_188 rfl (lv_at hl 4 rfl) ?_
                  refine va_get (D := D) (ci := 10) (v := .ref (a 19)) (C := RX13) (T := TX13) (N := 45) hx hb hts in_X13_laysParts_X13 hown hE.1 hP 0 rfl rfl 19 (by decide) (hts (.fieldLink RX13 53 "ClauseBookModel" "deep" "[I") (List.mem_of_getElem? (i := 15) rfl)) (fun _ h9 => h9) rfl dX13_laysParts_189 ?_
                  refine lv_iload_n hx hb dX13_laysParts_192 rfl (lv_at hl 1 rfl) ?_
                  refine va_iald hx hb hE.1 hP 7 0 rfl rfl (by rw [vp_in_iff]; first | omega | (subst_vars; omega)) dX13_laysParts_193 ?_
                  refine lv_topi (fun z_43 ez_43 => ?_)
                  refine lv_aload_n hx hb dX13_laysParts_194 rfl (lv_at hl 4 rfl) ?_
                  refine va_get (D := D) (ci := 10) (v := .ref (a 19)) (C := RX13) (T := TX13) (N := 45) hx hb hts in_X13_laysParts_X13 hown hE.1 hP 0 rfl rfl 19 (by decide) (hts (.fieldLink RX13 53 "ClauseBookModel" "deep" "[I") (List.mem_of_getElem? (i := 15) rfl)) (fun _ h9 => h9) rfl dX13_laysParts_195 ?_
                  refine lv_iload hx hb dX13_laysParts_198 (lv_at hl 0 rfl) ?_
                  refine va_iald hx hb hE.1 hP 7 0 rfl rfl (by rw [vp_in_iff]; first | omega | (subst_vars; omega)) dX13_laysParts_200 ?_
                  refine lv_topi (fun z_44 ez_44 => ?_)
                  refine va_mmax hx hb (hml.trans hl.1.symm) hown (hts (.methodLink RX13 227 Lib.Math.max.name) (List.mem_of_getElem? (i := 6) rfl)) (hts (.static Lib.Math.max.name) (List.mem_of_getElem? (i := 7) rfl)) (hts (.initialized "java/lang/Math") (List.mem_of_getElem? (i := 8) rfl)) (hts (.code Lib.Math.max.name Lib.Math.max.code 2 (some .int)) (List.mem_of_getElem? (i := 9) rfl)) (Nat.le_of_ble_eq_true rfl) (Nat.le_of_ble_eq_true rfl) (Nat.le_of_ble_eq_true rfl) (Nat.le_of_ble_eq_true rfl) dX13_laysParts_201 ?_
                  refine lv_topi (fun z_45 ez_45 => ?_)
                  refine lv_iadd hx hb dX13_laysParts_204 ?_
                  refine va_iast hx hb hE.1 hP hD hS 7 0 rfl rfl (by rw [vp_in_iff]; first | omega | (subst_vars; omega)) dX13_laysParts_205 (fun H locs hP hD hS => ?_)
                  have hP : va_P D vwCl [(h0, .inr (10, [.int (q 0), .int (q 1), .int (q 2), .int (q 3), .int (q 4), .int (q 5), .int (q 6), .int (q 7), .ref (a 8), .ref (a 9), .ref (a 10), .ref (a 11), .ref (a 12), .ref (a 13), .int (q 14), .long v, .long w, .ref (a 17), .ref (a 18), .ref (a 19), .ref (a 20), .ref (a 21), .ref (a 22), .ref (a 23), .int (q 24), .ref (a 25), .int (q 26), .ref (a 27), .int (q 28), .int (q 29), .int (q 30), .int (q 31), .int (q 32), .int (q 33), .ref (a 34), .ref (a 35), .ref (a 36), .ref (a 37), .ref (a 38), .ref (a 39), .ref (a 40), .int (q 41), .ref (a 42), .int (q 43), .int (q 44)])), ((a 8), .inl (T 0, 24, .inl f8)), ((a 9), .inl (T 0, 24, .inl f9)), ((a 10), .inl (T 0, 24, .inl f10)), ((a 11), .inl (T 0, 24, .inl f11)), ((a 17), .inl (T 0, 24, .inl (upd (upd e9 (xx.toNatClampNeg) z_10) (xx.toNatClampNeg) z_13))), ((a 18), .inl (T 0, 24, .inl (upd p9 (xx.toNatClampNeg) ((1 + z_39) + 0)))), ((a 19), .inl (T 0, 24, .inl (upd d9 (xx.toNatClampNeg) (1 + z_45))))] H := hP
                  have hD : va_D A [(h0, .inr (10, [.int (q 0), .int (q 1), .int (q 2), .int (q 3), .int (q 4), .int (q 5), .int (q 6), .int (q 7), .ref (a 8), .ref (a 9), .ref (a 10), .ref (a 11), .ref (a 12), .ref (a 13), .int (q 14), .long v, .long w, .ref (a 17), .ref (a 18), .ref (a 19), .ref (a 20), .ref (a 21), .ref (a 22), .ref (a 23), .int (q 24), .ref (a 25), .int (q 26), .ref (a 27), .int (q 28), .int (q 29), .int (q 30), .int (q 31), .int (q 32), .int (q 33), .ref (a 34), .ref (a 35), .ref (a 36), .ref (a 37), .ref (a 38), .ref (a 39), .ref (a 40), .int (q 41), .ref (a 42), .int (q 43), .int (q 44)])), ((a 8), .inl (T 0, 24, .inl f8)), ((a 9), .inl (T 0, 24, .inl f9)), ((a 10), .inl (T 0, 24, .inl f10)), ((a 11), .inl (T 0, 24, .inl f11)), ((a 17), .inl (T 0, 24, .inl (upd (upd e9 (xx.toNatClampNeg) z_10) (xx.toNatClampNeg) z_13))), ((a 18), .inl (T 0, 24, .inl (upd p9 (xx.toNatClampNeg) ((1 + z_39) + 0)))), ((a 19), .inl (T 0, 24, .inl (upd d9 (xx.toNatClampNeg) (1 + z_45))))] := hD
                  obtain ⟨z_46, ez_46⟩ : ∃ y : Int32, y = xx + 1 := ⟨_, rfl⟩
                  refine lv_iinc (v := z_46) (lv' := [(1, .int z_46), (4, .int z_5), (3, .int z_4), (2, .int r_3), (0, .ref h0)]) hx hb dX13_laysParts_206 hl (k := 3) rfl (by rw [ez_46]; rfl) (by decide) rfl (fun ls hl => ?_)
                  have hz_469 : z_46.toInt = xx.toInt + 1 := by rw [ez_46]; exact inc1 (n := 1000) (by omega) (by decide)
                  refine lv_goto (tgt := 2) hx hb dX13_laysParts_209 (by decide) ?_
                  exact ih (z_46, (upd (upd e9 (xx.toNatClampNeg) z_10) (xx.toNatClampNeg) z_13), (upd p9 (xx.toNatClampNeg) ((1 + z_39) + 0)), (upd d9 (xx.toNatClampNeg) (1 + z_45))) ls _ _ ⟨lv_sub hl [0, 4] rfl, hP.sub [0, 1, 2, 3, 4, 5, 6, 7] rfl, hD.sub [0, 1, 2, 3, 4, 5, 6, 7] (by decide) rfl, hS, ⟨(by rw [hz_469]; omega), (by rw [upd_upd]; exact okE_step (n := 0) hEE (by omega) hz_469 (by omega) (fun hk9 => by exfalso; have h9 := hlz_2 (by omega); omega) (okR.late hokR))⟩⟩ (by (try dsimp only); rw [hz_469]; omega)
                · rw [fa_eq] at c_42
                  try rw [ti_1] at c_42
                  refine lv_aload_n hx hb dX13_laysParts_179 rfl (lv_at hl 4 rfl) ?_
                  refine va_get (D := D) (ci := 10) (v := .ref (a 19)) (C := RX13) (T := TX13) (N := 45) hx hb hts in_X13_laysParts_X13 hown hE.1 hP 0 rfl rfl 19 (by decide) (hts (.fieldLink RX13 53 "ClauseBookModel" "deep" "[I") (List.mem_of_getElem? (i := 15) rfl)) (fun _ h9 => h9) rfl dX13_laysParts_180 ?_
                  refine lv_iload_n hx hb dX13_laysParts_183 rfl (lv_at hl 1 rfl) ?_
                  refine va_iald hx hb hE.1 hP 7 0 rfl rfl (by rw [vp_in_iff]; first | omega | (subst_vars; omega)) dX13_laysParts_184 ?_
                  refine lv_topi (fun z_47 ez_47 => ?_)
                  refine lv_goto (tgt := 204) hx hb dX13_laysParts_185 (by decide) ?_
                  refine lv_iadd hx hb dX13_laysParts_204 ?_
                  refine va_iast hx hb hE.1 hP hD hS 7 0 rfl rfl (by rw [vp_in_iff]; first | omega | (subst_vars; omega)) dX13_laysParts_205 (fun H locs hP hD hS => ?_)
                  have hP : va_P D vwCl [(h0, .inr (10, [.int (q 0), .int (q 1), .int (q 2), .int (q 3), .int (q 4), .int (q 5), .int (q 6), .int (q 7), .ref (a 8), .ref (a 9), .ref (a 10), .ref (a 11), .ref (a 12), .ref (a 13), .int (q 14), .long v, .long w, .ref (a 17), .ref (a 18), .ref (a 19), .ref (a 20), .ref (a 21), .ref (a 22), .ref (a 23), .int (q 24), .ref (a 25), .int (q 26), .ref (a 27), .int (q 28), .int (q 29), .int (q 30), .int (q 31), .int (q 32), .int (q 33), .ref (a 34), .ref (a 35), .ref (a 36), .ref (a 37), .ref (a 38), .ref (a 39), .ref (a 40), .int (q 41), .ref (a 42), .int (q 43), .int (q 44)])), ((a 8), .inl (T 0, 24, .inl f8)), ((a 9), .inl (T 0, 24, .inl f9)), ((a 10), .inl (T 0, 24, .inl f10)), ((a 11), .inl (T 0, 24, .inl f11)), ((a 17), .inl (T 0, 24, .inl (upd (upd e9 (xx.toNatClampNeg) z_10) (xx.toNatClampNeg) z_13))), ((a 18), .inl (T 0, 24, .inl (upd p9 (xx.toNatClampNeg) ((1 + z_39) + 0)))), ((a 19), .inl (T 0, 24, .inl (upd d9 (xx.toNatClampNeg) (1 + z_47))))] H := hP
                  have hD : va_D A [(h0, .inr (10, [.int (q 0), .int (q 1), .int (q 2), .int (q 3), .int (q 4), .int (q 5), .int (q 6), .int (q 7), .ref (a 8), .ref (a 9), .ref (a 10), .ref (a 11), .ref (a 12), .ref (a 13), .int (q 14), .long v, .long w, .ref (a 17), .ref (a 18), .ref (a 19), .ref (a 20), .ref (a 21), .ref (a 22), .ref (a 23), .int (q 24), .ref (a 25), .int (q 26), .ref (a 27), .int (q 28), .int (q 29), .int (q 30), .int (q 31), .int (q 32), .int (q 33), .ref (a 34), .ref (a 35), .ref (a 36), .ref (a 37), .ref (a 38), .ref (a 39), .ref (a 40), .int (q 41), .ref (a 42), .int (q 43), .int (q 44)])), ((a 8), .inl (T 0, 24, .inl f8)), ((a 9), .inl (T 0, 24, .inl f9)), ((a 10), .inl (T 0, 24, .inl f10)), ((a 11), .inl (T 0, 24, .inl f11)), ((a 17), .inl (T 0, 24, .inl (upd (upd e9 (xx.toNatClampNeg) z_10) (xx.toNatClampNeg) z_13))), ((a 18), .inl (T 0, 24, .inl (upd p9 (xx.toNatClampNeg) ((1 + z_39) + 0)))), ((a 19), .inl (T 0, 24, .inl (upd d9 (xx.toNatClampNeg) (1 + z_47))))] := hD
                  obtain ⟨z_48, ez_48⟩ : ∃ y : Int32, y = xx + 1 := ⟨_, rfl⟩
                  refine lv_iinc (v := z_48) (lv' := [(1, .int z_48), (4, .int z_5), (3, .int z_4), (2, .int r_3), (0, .ref h0)]) hx hb dX13_laysParts_206 hl (k := 3) rfl (by rw [ez_48]; rfl) (by decide) rfl (fun ls hl => ?_)
                  have hz_489 : z_48.toInt = xx.toInt + 1 := by rw [ez_48]; exact inc1 (n := 1000) (by omega) (by decide)
                  refine lv_goto (tgt := 2) hx hb dX13_laysParts_209 (by decide) ?_
                  exact ih (z_48, (upd (upd e9 (xx.toNatClampNeg) z_10) (xx.toNatClampNeg) z_13), (upd p9 (xx.toNatClampNeg) ((1 + z_39) + 0)), (upd d9 (xx.toNatClampNeg) (1 + z_47))) ls _ _ ⟨lv_sub hl [0, 4] rfl, hP.sub [0, 1, 2, 3, 4, 5, 6, 7] rfl, hD.sub [0, 1, 2, 3, 4, 5, 6, 7] (by decide) rfl, hS, ⟨(by rw [hz_489]; omega), (by rw [upd_upd]; exact okE_step (n := 0) hEE (by omega) hz_489 (by omega) (fun hk9 => by exfalso; have h9 := hlz_2 (by omega); omega) (okR.late hokR))⟩⟩ (by (try dsimp only); rw [hz_489]; omega)
              · rw [fa_eq] at c_41
                try rw [ti_0] at c_41
                refine lv_iconst (v := 0) hx hb dX13_laysParts_170 (by decide) ?_
                refine lv_goto (tgt := 204) hx hb dX13_laysParts_171 (by decide) ?_
                refine lv_iadd hx hb dX13_laysParts_204 ?_
                refine lv_topi (fun z_49 ez_49 => ?_)
                obtain rfl : z_49 = 1 := ez_49.trans (by decide)
                refine va_iast hx hb hE.1 hP hD hS 7 0 rfl rfl (by rw [vp_in_iff]; first | omega | (subst_vars; omega)) dX13_laysParts_205 (fun H locs hP hD hS => ?_)
                have hP : va_P D vwCl [(h0, .inr (10, [.int (q 0), .int (q 1), .int (q 2), .int (q 3), .int (q 4), .int (q 5), .int (q 6), .int (q 7), .ref (a 8), .ref (a 9), .ref (a 10), .ref (a 11), .ref (a 12), .ref (a 13), .int (q 14), .long v, .long w, .ref (a 17), .ref (a 18), .ref (a 19), .ref (a 20), .ref (a 21), .ref (a 22), .ref (a 23), .int (q 24), .ref (a 25), .int (q 26), .ref (a 27), .int (q 28), .int (q 29), .int (q 30), .int (q 31), .int (q 32), .int (q 33), .ref (a 34), .ref (a 35), .ref (a 36), .ref (a 37), .ref (a 38), .ref (a 39), .ref (a 40), .int (q 41), .ref (a 42), .int (q 43), .int (q 44)])), ((a 8), .inl (T 0, 24, .inl f8)), ((a 9), .inl (T 0, 24, .inl f9)), ((a 10), .inl (T 0, 24, .inl f10)), ((a 11), .inl (T 0, 24, .inl f11)), ((a 17), .inl (T 0, 24, .inl (upd (upd e9 (xx.toNatClampNeg) z_10) (xx.toNatClampNeg) z_13))), ((a 18), .inl (T 0, 24, .inl (upd p9 (xx.toNatClampNeg) ((1 + z_39) + 0)))), ((a 19), .inl (T 0, 24, .inl (upd d9 (xx.toNatClampNeg) 1)))] H := hP
                have hD : va_D A [(h0, .inr (10, [.int (q 0), .int (q 1), .int (q 2), .int (q 3), .int (q 4), .int (q 5), .int (q 6), .int (q 7), .ref (a 8), .ref (a 9), .ref (a 10), .ref (a 11), .ref (a 12), .ref (a 13), .int (q 14), .long v, .long w, .ref (a 17), .ref (a 18), .ref (a 19), .ref (a 20), .ref (a 21), .ref (a 22), .ref (a 23), .int (q 24), .ref (a 25), .int (q 26), .ref (a 27), .int (q 28), .int (q 29), .int (q 30), .int (q 31), .int (q 32), .int (q 33), .ref (a 34), .ref (a 35), .ref (a 36), .ref (a 37), .ref (a 38), .ref (a 39), .ref (a 40), .int (q 41), .ref (a 42), .int (q 43), .int (q 44)])), ((a 8), .inl (T 0, 24, .inl f8)), ((a 9), .inl (T 0, 24, .inl f9)), ((a 10), .inl (T 0, 24, .inl f10)), ((a 11), .inl (T 0, 24, .inl f11)), ((a 17), .inl (T 0, 24, .inl (upd (upd e9 (xx.toNatClampNeg) z_10) (xx.toNatClampNeg) z_13))), ((a 18), .inl (T 0, 24, .inl (upd p9 (xx.toNatClampNeg) ((1 + z_39) + 0)))), ((a 19), .inl (T 0, 24, .inl (upd d9 (xx.toNatClampNeg) 1)))] := hD
                obtain ⟨z_50, ez_50⟩ : ∃ y : Int32, y = xx + 1 := ⟨_, rfl⟩
                refine lv_iinc (v := z_50) (lv' := [(1, .int z_50), (4, .int z_5), (3, .int z_4), (2, .int r_3), (0, .ref h0)]) hx hb dX13_laysParts_206 hl (k := 3) rfl (by rw [ez_50]; rfl) (by decide) rfl (fun ls hl => ?_)
                have hz_509 : z_50.toInt = xx.toInt + 1 := by rw [ez_50]; exact inc1 (n := 1000) (by omega) (by decide)
                refine lv_goto (tgt := 2) hx hb dX13_laysParts_209 (by decide) ?_
                exact ih (z_50, (upd (upd e9 (xx.toNatClampNeg) z_10) (xx.toNatClampNeg) z_13), (upd p9 (xx.toNatClampNeg) ((1 + z_39) + 0)), (upd d9 (xx.toNatClampNeg) 1)) ls _ _ ⟨lv_sub hl [0, 4] rfl, hP.sub [0, 1, 2, 3, 4, 5, 6, 7] rfl, hD.sub [0, 1, 2, 3, 4, 5, 6, 7] (by decide) rfl, hS, ⟨(by rw [hz_509]; omega), (by rw [upd_upd]; exact okE_step (n := 0) hEE (by omega) hz_509 (by omega) (fun hk9 => by exfalso; have h9 := hlz_2 (by omega); omega) (okR.late hokR))⟩⟩ (by (try dsimp only); rw [hz_509]; omega)
            · rw [fa_le] at c_40
              try rw [ti_1] at c_40
              refine lv_aload_n hx hb dX13_laysParts_147 rfl (lv_at hl 4 rfl) ?_
              refine va_get (D := D) (ci := 10) (v := .ref (a 18)) (C := RX13) (T := TX13) (N := 45) hx hb hts in_X13_laysParts_X13 hown hE.1 hP 0 rfl rfl 18 (by decide) (hts (.fieldLink RX13 50 "ClauseBookModel" "parts" "[I") (List.mem_of_getElem? (i := 14) rfl)) (fun _ h9 => h9) rfl dX13_laysParts_148 ?_
              refine lv_iload hx hb dX13_laysParts_151 (lv_at hl 0 rfl) ?_
              refine va_iald hx hb hE.1 hP 6 0 rfl rfl (by rw [vp_in_iff]; first | omega | (subst_vars; omega)) dX13_laysParts_153 ?_
              refine lv_topi (fun z_51 ez_51 => ?_)
              refine lv_goto (tgt := 158) hx hb dX13_laysParts_154 (by decide) ?_
              refine lv_iadd hx hb dX13_laysParts_158 ?_
              refine va_iast hx hb hE.1 hP hD hS 6 0 rfl rfl (by rw [vp_in_iff]; first | omega | (subst_vars; omega)) dX13_laysParts_159 (fun H locs hP hD hS => ?_)
              have hP : va_P D vwCl [(h0, .inr (10, [.int (q 0), .int (q 1), .int (q 2), .int (q 3), .int (q 4), .int (q 5), .int (q 6), .int (q 7), .ref (a 8), .ref (a 9), .ref (a 10), .ref (a 11), .ref (a 12), .ref (a 13), .int (q 14), .long v, .long w, .ref (a 17), .ref (a 18), .ref (a 19), .ref (a 20), .ref (a 21), .ref (a 22), .ref (a 23), .int (q 24), .ref (a 25), .int (q 26), .ref (a 27), .int (q 28), .int (q 29), .int (q 30), .int (q 31), .int (q 32), .int (q 33), .ref (a 34), .ref (a 35), .ref (a 36), .ref (a 37), .ref (a 38), .ref (a 39), .ref (a 40), .int (q 41), .ref (a 42), .int (q 43), .int (q 44)])), ((a 8), .inl (T 0, 24, .inl f8)), ((a 9), .inl (T 0, 24, .inl f9)), ((a 10), .inl (T 0, 24, .inl f10)), ((a 11), .inl (T 0, 24, .inl f11)), ((a 17), .inl (T 0, 24, .inl (upd (upd e9 (xx.toNatClampNeg) z_10) (xx.toNatClampNeg) z_13))), ((a 18), .inl (T 0, 24, .inl (upd p9 (xx.toNatClampNeg) ((1 + z_39) + z_51)))), ((a 19), .inl (T 0, 24, .inl d9))] H := hP
              have hD : va_D A [(h0, .inr (10, [.int (q 0), .int (q 1), .int (q 2), .int (q 3), .int (q 4), .int (q 5), .int (q 6), .int (q 7), .ref (a 8), .ref (a 9), .ref (a 10), .ref (a 11), .ref (a 12), .ref (a 13), .int (q 14), .long v, .long w, .ref (a 17), .ref (a 18), .ref (a 19), .ref (a 20), .ref (a 21), .ref (a 22), .ref (a 23), .int (q 24), .ref (a 25), .int (q 26), .ref (a 27), .int (q 28), .int (q 29), .int (q 30), .int (q 31), .int (q 32), .int (q 33), .ref (a 34), .ref (a 35), .ref (a 36), .ref (a 37), .ref (a 38), .ref (a 39), .ref (a 40), .int (q 41), .ref (a 42), .int (q 43), .int (q 44)])), ((a 8), .inl (T 0, 24, .inl f8)), ((a 9), .inl (T 0, 24, .inl f9)), ((a 10), .inl (T 0, 24, .inl f10)), ((a 11), .inl (T 0, 24, .inl f11)), ((a 17), .inl (T 0, 24, .inl (upd (upd e9 (xx.toNatClampNeg) z_10) (xx.toNatClampNeg) z_13))), ((a 18), .inl (T 0, 24, .inl (upd p9 (xx.toNatClampNeg) ((1 + z_39) + z_51)))), ((a 19), .inl (T 0, 24, .inl d9))] := hD
              refine lv_aload_n hx hb dX13_laysParts_160 rfl (lv_at hl 4 rfl) ?_
              refine va_get (D := D) (ci := 10) (v := .ref (a 19)) (C := RX13) (T := TX13) (N := 45) hx hb hts in_X13_laysParts_X13 hown hE.1 hP 0 rfl rfl 19 (by decide) (hts (.fieldLink RX13 53 "ClauseBookModel" "deep" "[I") (List.mem_of_getElem? (i := 15) rfl)) (fun _ h9 => h9) rfl dX13_laysParts_161 ?_
              refine lv_iload_n hx hb dX13_laysParts_164 rfl (lv_at hl 3 rfl) ?_
              refine lv_iconst (v := 1) hx hb dX13_laysParts_165 (by decide) ?_
              refine lv_iload_n hx hb dX13_laysParts_166 rfl (lv_at hl 2 rfl) ?_
              refine lv_if_ne (tgt := 174) hx hb dX13_laysParts_167 (by decide) (fun c_52 => ?_) (fun c_52 => ?_)
              · rw [fa_eq] at c_52
                try rw [ti_0] at c_52
                refine lv_iload_n hx hb dX13_laysParts_174 rfl (lv_at hl 2 rfl) ?_
                refine lv_iconst (v := 1) hx hb dX13_laysParts_175 (by decide) ?_
                refine lv_icmp_ne (tgt := 188) hx hb dX13_laysParts_176 (by decide) (fun c_53 => ?_) (fun c_53 => ?_)
                · rw [fa_eq] at c_53
                  try rw [ti_1] at c_53
                  refine lv_aload_n hx hb dX13_laysParts_188 rfl (lv_at hl 4 rfl) ?_
                  refine va_get (D := D) (ci := 10) (v := .ref (a 19)) (C := RX13) (T := TX13) (N := 45) hx hb hts in_X13_laysParts_X13 hown hE.1 hP 0 rfl rfl 19 (by decide) (hts (.fieldLink RX13 53 "ClauseBookModel" "deep" "[I") (List.mem_of_getElem? (i := 15) rfl)) (fun _ h9 => h9) rfl dX13_laysParts_189 ?_
                  refine lv_iload_n hx hb dX13_laysParts_192 rfl (lv_at hl 1 rfl) ?_
                  refine va_iald hx hb hE.1 hP 7 0 rfl rfl (by rw [vp_in_iff]; first | omega | (subst_vars; omega)) dX13_laysParts_193 ?_
                  refine lv_topi (fun z_54 ez_54 => ?_)
                  refine lv_aload_n hx hb dX13_laysParts_194 rfl (lv_at hl 4 rfl) ?_
                  refine va_get (D := D) (ci := 10) (v := .ref (a 19)) (C := RX13) (T := TX13) (N := 45) hx hb hts in_X13_laysParts_X13 hown hE.1 hP 0 rfl rfl 19 (by decide) (hts (.fieldLink RX13 53 "ClauseBookModel" "deep" "[I") (List.mem_of_getElem? (i := 15) rfl)) (fun _ h9 => h9) rfl dX13_laysParts_195 ?_
                  refine lv_iload hx hb dX13_laysParts_198 (lv_at hl 0 rfl) ?_
                  refine va_iald hx hb hE.1 hP 7 0 rfl rfl (by rw [vp_in_iff]; first | omega | (subst_vars; omega)) dX13_laysParts_200 ?_
                  refine lv_topi (fun z_55 ez_55 => ?_)
                  refine va_mmax hx hb (hml.trans hl.1.symm) hown (hts (.methodLink RX13 227 Lib.Math.max.name) (List.mem_of_getElem? (i := 6) rfl)) (hts (.static Lib.Math.max.name) (List.mem_of_getElem? (i := 7) rfl)) (hts (.initialized "java/lang/Math") (List.mem_of_getElem? (i := 8) rfl)) (hts (.code Lib.Math.max.name Lib.Math.max.code 2 (some .int)) (List.mem_of_getElem? (i := 9) rfl)) (Nat.le_of_ble_eq_true rfl) (Nat.le_of_ble_eq_true rfl) (Nat.le_of_ble_eq_true rfl) (Nat.le_of_ble_eq_true rfl) dX13_laysParts_201 ?_
                  refine lv_topi (fun z_56 ez_56 => ?_)
                  refine lv_iadd hx hb dX13_laysParts_204 ?_
                  refine va_iast hx hb hE.1 hP hD hS 7 0 rfl rfl (by rw [vp_in_iff]; first | omega | (subst_vars; omega)) dX13_laysParts_205 (fun H locs hP hD hS => ?_)
                  have hP : va_P D vwCl [(h0, .inr (10, [.int (q 0), .int (q 1), .int (q 2), .int (q 3), .int (q 4), .int (q 5), .int (q 6), .int (q 7), .ref (a 8), .ref (a 9), .ref (a 10), .ref (a 11), .ref (a 12), .ref (a 13), .int (q 14), .long v, .long w, .ref (a 17), .ref (a 18), .ref (a 19), .ref (a 20), .ref (a 21), .ref (a 22), .ref (a 23), .int (q 24), .ref (a 25), .int (q 26), .ref (a 27), .int (q 28), .int (q 29), .int (q 30), .int (q 31), .int (q 32), .int (q 33), .ref (a 34), .ref (a 35), .ref (a 36), .ref (a 37), .ref (a 38), .ref (a 39), .ref (a 40), .int (q 41), .ref (a 42), .int (q 43), .int (q 44)])), ((a 8), .inl (T 0, 24, .inl f8)), ((a 9), .inl (T 0, 24, .inl f9)), ((a 10), .inl (T 0, 24, .inl f10)), ((a 11), .inl (T 0, 24, .inl f11)), ((a 17), .inl (T 0, 24, .inl (upd (upd e9 (xx.toNatClampNeg) z_10) (xx.toNatClampNeg) z_13))), ((a 18), .inl (T 0, 24, .inl (upd p9 (xx.toNatClampNeg) ((1 + z_39) + z_51)))), ((a 19), .inl (T 0, 24, .inl (upd d9 (xx.toNatClampNeg) (1 + z_56))))] H := hP
                  have hD : va_D A [(h0, .inr (10, [.int (q 0), .int (q 1), .int (q 2), .int (q 3), .int (q 4), .int (q 5), .int (q 6), .int (q 7), .ref (a 8), .ref (a 9), .ref (a 10), .ref (a 11), .ref (a 12), .ref (a 13), .int (q 14), .long v, .long w, .ref (a 17), .ref (a 18), .ref (a 19), .ref (a 20), .ref (a 21), .ref (a 22), .ref (a 23), .int (q 24), .ref (a 25), .int (q 26), .ref (a 27), .int (q 28), .int (q 29), .int (q 30), .int (q 31), .int (q 32), .int (q 33), .ref (a 34), .ref (a 35), .ref (a 36), .ref (a 37), .ref (a 38), .ref (a 39), .ref (a 40), .int (q 41), .ref (a 42), .int (q 43), .int (q 44)])), ((a 8), .inl (T 0, 24, .inl f8)), ((a 9), .inl (T 0, 24, .inl f9)), ((a 10), .inl (T 0, 24, .inl f10)), ((a 11), .inl (T 0, 24, .inl f11)), ((a 17), .inl (T 0, 24, .inl (upd (upd e9 (xx.toNatClampNeg) z_10) (xx.toNatClampNeg) z_13))), ((a 18), .inl (T 0, 24, .inl (upd p9 (xx.toNatClampNeg) ((1 + z_39) + z_51)))), ((a 19), .inl (T 0, 24, .inl (upd d9 (xx.toNatClampNeg) (1 + z_56))))] := hD
                  obtain ⟨z_57, ez_57⟩ : ∃ y : Int32, y = xx + 1 := ⟨_, rfl⟩
                  refine lv_iinc (v := z_57) (lv' := [(1, .int z_57), (4, .int z_5), (3, .int z_4), (2, .int r_3), (0, .ref h0)]) hx hb dX13_laysParts_206 hl (k := 3) rfl (by rw [ez_57]; rfl) (by decide) rfl (fun ls hl => ?_)
                  have hz_579 : z_57.toInt = xx.toInt + 1 := by rw [ez_57]; exact inc1 (n := 1000) (by omega) (by decide)
                  refine lv_goto (tgt := 2) hx hb dX13_laysParts_209 (by decide) ?_
                  exact ih (z_57, (upd (upd e9 (xx.toNatClampNeg) z_10) (xx.toNatClampNeg) z_13), (upd p9 (xx.toNatClampNeg) ((1 + z_39) + z_51)), (upd d9 (xx.toNatClampNeg) (1 + z_56))) ls _ _ ⟨lv_sub hl [0, 4] rfl, hP.sub [0, 1, 2, 3, 4, 5, 6, 7] rfl, hD.sub [0, 1, 2, 3, 4, 5, 6, 7] (by decide) rfl, hS, ⟨(by rw [hz_579]; omega), (by rw [upd_upd]; exact okE_step (n := 0) hEE (by omega) hz_579 (by omega) (fun hk9 => by exfalso; have h9 := hlz_2 (by omega); omega) (okR.late hokR))⟩⟩ (by (try dsimp only); rw [hz_579]; omega)
                · rw [fa_eq] at c_53
                  try rw [ti_1] at c_53
                  refine lv_aload_n hx hb dX13_laysParts_179 rfl (lv_at hl 4 rfl) ?_
                  refine va_get (D := D) (ci := 10) (v := .ref (a 19)) (C := RX13) (T := TX13) (N := 45) hx hb hts in_X13_laysParts_X13 hown hE.1 hP 0 rfl rfl 19 (by decide) (hts (.fieldLink RX13 53 "ClauseBookModel" "deep" "[I") (List.mem_of_getElem? (i := 15) rfl)) (fun _ h9 => h9) rfl dX13_laysParts_180 ?_
                  refine lv_iload_n hx hb dX13_laysParts_183 rfl (lv_at hl 1 rfl) ?_
                  refine va_iald hx hb hE.1 hP 7 0 rfl rfl (by rw [vp_in_iff]; first | omega | (subst_vars; omega)) dX13_laysParts_184 ?_
                  refine lv_topi (fun z_58 ez_58 => ?_)
                  refine lv_goto (tgt := 204) hx hb dX13_laysParts_185 (by decide) ?_
                  refine lv_iadd hx hb dX13_laysParts_204 ?_
                  refine va_iast hx hb hE.1 hP hD hS 7 0 rfl rfl (by rw [vp_in_iff]; first | omega | (subst_vars; omega)) dX13_laysParts_205 (fun H locs hP hD hS => ?_)
                  have hP : va_P D vwCl [(h0, .inr (10, [.int (q 0), .int (q 1), .int (q 2), .int (q 3), .int (q 4), .int (q 5), .int (q 6), .int (q 7), .ref (a 8), .ref (a 9), .ref (a 10), .ref (a 11), .ref (a 12), .ref (a 13), .int (q 14), .long v, .long w, .ref (a 17), .ref (a 18), .ref (a 19), .ref (a 20), .ref (a 21), .ref (a 22), .ref (a 23), .int (q 24), .ref (a 25), .int (q 26), .ref (a 27), .int (q 28), .int (q 29), .int (q 30), .int (q 31), .int (q 32), .int (q 33), .ref (a 34), .ref (a 35), .ref (a 36), .ref (a 37), .ref (a 38), .ref (a 39), .ref (a 40), .int (q 41), .ref (a 42), .int (q 43), .int (q 44)])), ((a 8), .inl (T 0, 24, .inl f8)), ((a 9), .inl (T 0, 24, .inl f9)), ((a 10), .inl (T 0, 24, .inl f10)), ((a 11), .inl (T 0, 24, .inl f11)), ((a 17), .inl (T 0, 24, .inl (upd (upd e9 (xx.toNatClampNeg) z_10) (xx.toNatClampNeg) z_13))), ((a 18), .inl (T 0, 24, .inl (upd p9 (xx.toNatClampNeg) ((1 + z_39) + z_51)))), ((a 19), .inl (T 0, 24, .inl (upd d9 (xx.toNatClampNeg) (1 + z_58))))] H := hP
                  have hD : va_D A [(h0, .inr (10, [.int (q 0), .int (q 1), .int (q 2), .int (q 3), .int (q 4), .int (q 5), .int (q 6), .int (q 7), .ref (a 8), .ref (a 9), .ref (a 10), .ref (a 11), .ref (a 12), .ref (a 13), .int (q 14), .long v, .long w, .ref (a 17), .ref (a 18), .ref (a 19), .ref (a 20), .ref (a 21), .ref (a 22), .ref (a 23), .int (q 24), .ref (a 25), .int (q 26), .ref (a 27), .int (q 28), .int (q 29), .int (q 30), .int (q 31), .int (q 32), .int (q 33), .ref (a 34), .ref (a 35), .ref (a 36), .ref (a 37), .ref (a 38), .ref (a 39), .ref (a 40), .int (q 41), .ref (a 42), .int (q 43), .int (q 44)])), ((a 8), .inl (T 0, 24, .inl f8)), ((a 9), .inl (T 0, 24, .inl f9)), ((a 10), .inl (T 0, 24, .inl f10)), ((a 11), .inl (T 0, 24, .inl f11)), ((a 17), .inl (T 0, 24, .inl (upd (upd e9 (xx.toNatClampNeg) z_10) (xx.toNatClampNeg) z_13))), ((a 18), .inl (T 0, 24, .inl (upd p9 (xx.toNatClampNeg) ((1 + z_39) + z_51)))), ((a 19), .inl (T 0, 24, .inl (upd d9 (xx.toNatClampNeg) (1 + z_58))))] := hD
                  obtain ⟨z_59, ez_59⟩ : ∃ y : Int32, y = xx + 1 := ⟨_, rfl⟩
                  refine lv_iinc (v := z_59) (lv' := [(1, .int z_59), (4, .int z_5), (3, .int z_4), (2, .int r_3), (0, .ref h0)]) hx hb dX13_laysParts_206 hl (k := 3) rfl (by rw [ez_59]; rfl) (by decide) rfl (fun ls hl => ?_)
                  have hz_599 : z_59.toInt = xx.toInt + 1 := by rw [ez_59]; exact inc1 (n := 1000) (by omega) (by decide)
                  refine lv_goto (tgt := 2) hx hb dX13_laysParts_209 (by decide) ?_
                  exact ih (z_59, (upd (upd e9 (xx.toNatClampNeg) z_10) (xx.toNatClampNeg) z_13), (upd p9 (xx.toNatClampNeg) ((1 + z_39) + z_51)), (upd d9 (xx.toNatClampNeg) (1 + z_58))) ls _ _ ⟨lv_sub hl [0, 4] rfl, hP.sub [0, 1, 2, 3, 4, 5, 6, 7] rfl, hD.sub [0, 1, 2, 3, 4, 5, 6, 7] (by decide) rfl, hS, ⟨(by rw [hz_599]; omega), (by rw [upd_upd]; exact okE_step (n := 0) hEE (by omega) hz_599 (by omega) (fun hk9 => by exfalso; have h9 := hlz_2 (by omega); omega) (okR.late hokR))⟩⟩ (by (try dsimp only); rw [hz_599]; omega)
              · rw [fa_eq] at c_52
                try rw [ti_0] at c_52
                refine lv_iconst (v := 0) hx hb dX13_laysParts_170 (by decide) ?_
                refine lv_goto (tgt := 204) hx hb dX13_laysParts_171 (by decide) ?_
                refine lv_iadd hx hb dX13_laysParts_204 ?_
                refine lv_topi (fun z_60 ez_60 => ?_)
                obtain rfl : z_60 = 1 := ez_60.trans (by decide)
                refine va_iast hx hb hE.1 hP hD hS 7 0 rfl rfl (by rw [vp_in_iff]; first | omega | (subst_vars; omega)) dX13_laysParts_205 (fun H locs hP hD hS => ?_)
                have hP : va_P D vwCl [(h0, .inr (10, [.int (q 0), .int (q 1), .int (q 2), .int (q 3), .int (q 4), .int (q 5), .int (q 6), .int (q 7), .ref (a 8), .ref (a 9), .ref (a 10), .ref (a 11), .ref (a 12), .ref (a 13), .int (q 14), .long v, .long w, .ref (a 17), .ref (a 18), .ref (a 19), .ref (a 20), .ref (a 21), .ref (a 22), .ref (a 23), .int (q 24), .ref (a 25), .int (q 26), .ref (a 27), .int (q 28), .int (q 29), .int (q 30), .int (q 31), .int (q 32), .int (q 33), .ref (a 34), .ref (a 35), .ref (a 36), .ref (a 37), .ref (a 38), .ref (a 39), .ref (a 40), .int (q 41), .ref (a 42), .int (q 43), .int (q 44)])), ((a 8), .inl (T 0, 24, .inl f8)), ((a 9), .inl (T 0, 24, .inl f9)), ((a 10), .inl (T 0, 24, .inl f10)), ((a 11), .inl (T 0, 24, .inl f11)), ((a 17), .inl (T 0, 24, .inl (upd (upd e9 (xx.toNatClampNeg) z_10) (xx.toNatClampNeg) z_13))), ((a 18), .inl (T 0, 24, .inl (upd p9 (xx.toNatClampNeg) ((1 + z_39) + z_51)))), ((a 19), .inl (T 0, 24, .inl (upd d9 (xx.toNatClampNeg) 1)))] H := hP
                have hD : va_D A [(h0, .inr (10, [.int (q 0), .int (q 1), .int (q 2), .int (q 3), .int (q 4), .int (q 5), .int (q 6), .int (q 7), .ref (a 8), .ref (a 9), .ref (a 10), .ref (a 11), .ref (a 12), .ref (a 13), .int (q 14), .long v, .long w, .ref (a 17), .ref (a 18), .ref (a 19), .ref (a 20), .ref (a 21), .ref (a 22), .ref (a 23), .int (q 24), .ref (a 25), .int (q 26), .ref (a 27), .int (q 28), .int (q 29), .int (q 30), .int (q 31), .int (q 32), .int (q 33), .ref (a 34), .ref (a 35), .ref (a 36), .ref (a 37), .ref (a 38), .ref (a 39), .ref (a 40), .int (q 41), .ref (a 42), .int (q 43), .int (q 44)])), ((a 8), .inl (T 0, 24, .inl f8)), ((a 9), .inl (T 0, 24, .inl f9)), ((a 10), .inl (T 0, 24, .inl f10)), ((a 11), .inl (T 0, 24, .inl f11)), ((a 17), .inl (T 0, 24, .inl (upd (upd e9 (xx.toNatClampNeg) z_10) (xx.toNatClampNeg) z_13))), ((a 18), .inl (T 0, 24, .inl (upd p9 (xx.toNatClampNeg) ((1 + z_39) + z_51)))), ((a 19), .inl (T 0, 24, .inl (upd d9 (xx.toNatClampNeg) 1)))] := hD
                obtain ⟨z_61, ez_61⟩ : ∃ y : Int32, y = xx + 1 := ⟨_, rfl⟩
                refine lv_iinc (v := z_61) (lv' := [(1, .int z_61), (4, .int z_5), (3, .int z_4), (2, .int r_3), (0, .ref h0)]) hx hb dX13_laysParts_206 hl (k := 3) rfl (by rw [ez_61]; rfl) (by decide) rfl (fun ls hl => ?_)
                have hz_619 : z_61.toInt = xx.toInt + 1 := by rw [ez_61]; exact inc1 (n := 1000) (by omega) (by decide)
                refine lv_goto (tgt := 2) hx hb dX13_laysParts_209 (by decide) ?_
                exact ih (z_61, (upd (upd e9 (xx.toNatClampNeg) z_10) (xx.toNatClampNeg) z_13), (upd p9 (xx.toNatClampNeg) ((1 + z_39) + z_51)), (upd d9 (xx.toNatClampNeg) 1)) ls _ _ ⟨lv_sub hl [0, 4] rfl, hP.sub [0, 1, 2, 3, 4, 5, 6, 7] rfl, hD.sub [0, 1, 2, 3, 4, 5, 6, 7] (by decide) rfl, hS, ⟨(by rw [hz_619]; omega), (by rw [upd_upd]; exact okE_step (n := 0) hEE (by omega) hz_619 (by omega) (fun hk9 => by exfalso; have h9 := hlz_2 (by omega); omega) (okR.late hokR))⟩⟩ (by (try dsimp only); rw [hz_619]; omega)
        · rw [fa_eq] at c_12
          try rw [ti_8] at c_12
          refine lv_aload_n hx hb dX13_laysParts_96 rfl (lv_at hl 4 rfl) ?_
          refine va_get (D := D) (ci := 10) (v := .ref (a 9)) (C := RX13) (T := TX13) (N := 45) hx hb hts in_X13_laysParts_X13 hown hE.1 hP 0 rfl rfl 9 (by decide) (hts (.fieldLink RX13 32 "ClauseBookModel" "number" "[I") (List.mem_of_getElem? (i := 10) rfl)) (fun _ h9 => h9) rfl dX13_laysParts_97 ?_
          refine lv_iload_n hx hb dX13_laysParts_100 rfl (lv_at hl 3 rfl) ?_
          refine va_iald hx hb hE.1 hP 2 0 rfl rfl (by rw [vp_in_iff]; first | omega | (subst_vars; omega)) dX13_laysParts_101 ?_
          refine lv_topi (fun z_62 ez_62 => ?_)
          refine lv_aload_n hx hb dX13_laysParts_102 rfl (lv_at hl 4 rfl) ?_
          refine va_get (D := D) (ci := 10) (v := .ref (a 17)) (C := RX13) (T := TX13) (N := 45) hx hb hts in_X13_laysParts_X13 hown hE.1 hP 0 rfl rfl 17 (by decide) (hts (.fieldLink RX13 47 "ClauseBookModel" "end" "[I") (List.mem_of_getElem? (i := 5) rfl)) (fun _ h9 => h9) rfl dX13_laysParts_103 ?_
          refine lv_iload_n hx hb dX13_laysParts_106 rfl (lv_at hl 3 rfl) ?_
          refine va_iald hx hb hE.1 hP 5 0 rfl rfl (by rw [vp_in_iff]; first | omega | (subst_vars; omega)) dX13_laysParts_107 ?_
          refine lv_topi (fun z_63 ez_63 => ?_)
          have hxz_63 : z_63.toInt = (z_10 : Int32).toInt := by rw [ez_63, upd_at]
          refine va_mmin hx hb (hml.trans hl.1.symm) hown (hts (.methodLink RX13 230 Lib.Math.min.name) (List.mem_of_getElem? (i := 11) rfl)) (hts (.static Lib.Math.min.name) (List.mem_of_getElem? (i := 12) rfl)) (hts (.initialized "java/lang/Math") (List.mem_of_getElem? (i := 8) rfl)) (hts (.code Lib.Math.min.name Lib.Math.min.code 2 (some .int)) (List.mem_of_getElem? (i := 13) rfl)) (Nat.le_of_ble_eq_true rfl) (Nat.le_of_ble_eq_true rfl) (Nat.le_of_ble_eq_true rfl) (Nat.le_of_ble_eq_true rfl) dX13_laysParts_108 ?_
          refine lv_topi (fun z_64 ez_64 => ?_)
          have hxz_64 : z_64.toInt ≤ 6 := by
            rw [ez_64]
            split
            · rename_i h
              omega
            · rename_i h
              rw [fa_lt] at h
              omega
          refine lv_goto (tgt := 120) hx hb dX13_laysParts_111 (by decide) ?_
          refine va_iast hx hb hE.1 hP hD hS 5 0 rfl rfl (by rw [vp_in_iff]; first | omega | (subst_vars; omega)) dX13_laysParts_120 (fun H locs hP hD hS => ?_)
          have hP : va_P D vwCl [(h0, .inr (10, [.int (q 0), .int (q 1), .int (q 2), .int (q 3), .int (q 4), .int (q 5), .int (q 6), .int (q 7), .ref (a 8), .ref (a 9), .ref (a 10), .ref (a 11), .ref (a 12), .ref (a 13), .int (q 14), .long v, .long w, .ref (a 17), .ref (a 18), .ref (a 19), .ref (a 20), .ref (a 21), .ref (a 22), .ref (a 23), .int (q 24), .ref (a 25), .int (q 26), .ref (a 27), .int (q 28), .int (q 29), .int (q 30), .int (q 31), .int (q 32), .int (q 33), .ref (a 34), .ref (a 35), .ref (a 36), .ref (a 37), .ref (a 38), .ref (a 39), .ref (a 40), .int (q 41), .ref (a 42), .int (q 43), .int (q 44)])), ((a 8), .inl (T 0, 24, .inl f8)), ((a 9), .inl (T 0, 24, .inl f9)), ((a 10), .inl (T 0, 24, .inl f10)), ((a 11), .inl (T 0, 24, .inl f11)), ((a 17), .inl (T 0, 24, .inl (upd (upd e9 (xx.toNatClampNeg) z_10) (xx.toNatClampNeg) z_64))), ((a 18), .inl (T 0, 24, .inl p9)), ((a 19), .inl (T 0, 24, .inl d9))] H := hP
          have hD : va_D A [(h0, .inr (10, [.int (q 0), .int (q 1), .int (q 2), .int (q 3), .int (q 4), .int (q 5), .int (q 6), .int (q 7), .ref (a 8), .ref (a 9), .ref (a 10), .ref (a 11), .ref (a 12), .ref (a 13), .int (q 14), .long v, .long w, .ref (a 17), .ref (a 18), .ref (a 19), .ref (a 20), .ref (a 21), .ref (a 22), .ref (a 23), .int (q 24), .ref (a 25), .int (q 26), .ref (a 27), .int (q 28), .int (q 29), .int (q 30), .int (q 31), .int (q 32), .int (q 33), .ref (a 34), .ref (a 35), .ref (a 36), .ref (a 37), .ref (a 38), .ref (a 39), .ref (a 40), .int (q 41), .ref (a 42), .int (q 43), .int (q 44)])), ((a 8), .inl (T 0, 24, .inl f8)), ((a 9), .inl (T 0, 24, .inl f9)), ((a 10), .inl (T 0, 24, .inl f10)), ((a 11), .inl (T 0, 24, .inl f11)), ((a 17), .inl (T 0, 24, .inl (upd (upd e9 (xx.toNatClampNeg) z_10) (xx.toNatClampNeg) z_64))), ((a 18), .inl (T 0, 24, .inl p9)), ((a 19), .inl (T 0, 24, .inl d9))] := hD
          refine lv_aload_n hx hb dX13_laysParts_121 rfl (lv_at hl 4 rfl) ?_
          refine va_get (D := D) (ci := 10) (v := .ref (a 18)) (C := RX13) (T := TX13) (N := 45) hx hb hts in_X13_laysParts_X13 hown hE.1 hP 0 rfl rfl 18 (by decide) (hts (.fieldLink RX13 50 "ClauseBookModel" "parts" "[I") (List.mem_of_getElem? (i := 14) rfl)) (fun _ h9 => h9) rfl dX13_laysParts_122 ?_
          refine lv_iload_n hx hb dX13_laysParts_125 rfl (lv_at hl 3 rfl) ?_
          refine lv_iconst (v := 1) hx hb dX13_laysParts_126 (by decide) ?_
          refine lv_iload_n hx hb dX13_laysParts_127 rfl (lv_at hl 2 rfl) ?_
          refine lv_if_le (tgt := 140) hx hb dX13_laysParts_128 (by decide) (fun c_65 => ?_) (fun c_65 => ?_)
          · rw [fa_le] at c_65
            try rw [ti_0] at c_65
            refine lv_iconst (v := 0) hx hb dX13_laysParts_140 (by decide) ?_
            refine lv_iadd hx hb dX13_laysParts_141 ?_
            refine lv_topi (fun z_66 ez_66 => ?_)
            obtain rfl : z_66 = 1 := ez_66.trans (by decide)
            refine lv_iload_n hx hb dX13_laysParts_142 rfl (lv_at hl 2 rfl) ?_
            refine lv_iconst (v := 1) hx hb dX13_laysParts_143 (by decide) ?_
            refine lv_icmp_le (tgt := 157) hx hb dX13_laysParts_144 (by decide) (fun c_67 => ?_) (fun c_67 => ?_)
            · rw [fa_le] at c_67
              try rw [ti_1] at c_67
              refine lv_iconst (v := 0) hx hb dX13_laysParts_157 (by decide) ?_
              refine lv_iadd hx hb dX13_laysParts_158 ?_
              refine lv_topi (fun z_68 ez_68 => ?_)
              obtain rfl : z_68 = 1 := ez_68.trans (by decide)
              refine va_iast hx hb hE.1 hP hD hS 6 0 rfl rfl (by rw [vp_in_iff]; first | omega | (subst_vars; omega)) dX13_laysParts_159 (fun H locs hP hD hS => ?_)
              have hP : va_P D vwCl [(h0, .inr (10, [.int (q 0), .int (q 1), .int (q 2), .int (q 3), .int (q 4), .int (q 5), .int (q 6), .int (q 7), .ref (a 8), .ref (a 9), .ref (a 10), .ref (a 11), .ref (a 12), .ref (a 13), .int (q 14), .long v, .long w, .ref (a 17), .ref (a 18), .ref (a 19), .ref (a 20), .ref (a 21), .ref (a 22), .ref (a 23), .int (q 24), .ref (a 25), .int (q 26), .ref (a 27), .int (q 28), .int (q 29), .int (q 30), .int (q 31), .int (q 32), .int (q 33), .ref (a 34), .ref (a 35), .ref (a 36), .ref (a 37), .ref (a 38), .ref (a 39), .ref (a 40), .int (q 41), .ref (a 42), .int (q 43), .int (q 44)])), ((a 8), .inl (T 0, 24, .inl f8)), ((a 9), .inl (T 0, 24, .inl f9)), ((a 10), .inl (T 0, 24, .inl f10)), ((a 11), .inl (T 0, 24, .inl f11)), ((a 17), .inl (T 0, 24, .inl (upd (upd e9 (xx.toNatClampNeg) z_10) (xx.toNatClampNeg) z_64))), ((a 18), .inl (T 0, 24, .inl (upd p9 (xx.toNatClampNeg) 1))), ((a 19), .inl (T 0, 24, .inl d9))] H := hP
              have hD : va_D A [(h0, .inr (10, [.int (q 0), .int (q 1), .int (q 2), .int (q 3), .int (q 4), .int (q 5), .int (q 6), .int (q 7), .ref (a 8), .ref (a 9), .ref (a 10), .ref (a 11), .ref (a 12), .ref (a 13), .int (q 14), .long v, .long w, .ref (a 17), .ref (a 18), .ref (a 19), .ref (a 20), .ref (a 21), .ref (a 22), .ref (a 23), .int (q 24), .ref (a 25), .int (q 26), .ref (a 27), .int (q 28), .int (q 29), .int (q 30), .int (q 31), .int (q 32), .int (q 33), .ref (a 34), .ref (a 35), .ref (a 36), .ref (a 37), .ref (a 38), .ref (a 39), .ref (a 40), .int (q 41), .ref (a 42), .int (q 43), .int (q 44)])), ((a 8), .inl (T 0, 24, .inl f8)), ((a 9), .inl (T 0, 24, .inl f9)), ((a 10), .inl (T 0, 24, .inl f10)), ((a 11), .inl (T 0, 24, .inl f11)), ((a 17), .inl (T 0, 24, .inl (upd (upd e9 (xx.toNatClampNeg) z_10) (xx.toNatClampNeg) z_64))), ((a 18), .inl (T 0, 24, .inl (upd p9 (xx.toNatClampNeg) 1))), ((a 19), .inl (T 0, 24, .inl d9))] := hD
              refine lv_aload_n hx hb dX13_laysParts_160 rfl (lv_at hl 4 rfl) ?_
              refine va_get (D := D) (ci := 10) (v := .ref (a 19)) (C := RX13) (T := TX13) (N := 45) hx hb hts in_X13_laysParts_X13 hown hE.1 hP 0 rfl rfl 19 (by decide) (hts (.fieldLink RX13 53 "ClauseBookModel" "deep" "[I") (List.mem_of_getElem? (i := 15) rfl)) (fun _ h9 => h9) rfl dX13_laysParts_161 ?_
              refine lv_iload_n hx hb dX13_laysParts_164 rfl (lv_at hl 3 rfl) ?_
              refine lv_iconst (v := 1) hx hb dX13_laysParts_165 (by decide) ?_
              refine lv_iload_n hx hb dX13_laysParts_166 rfl (lv_at hl 2 rfl) ?_
              refine lv_if_ne (tgt := 174) hx hb dX13_laysParts_167 (by decide) (fun c_69 => ?_) (fun c_69 => ?_)
              · rw [fa_eq] at c_69
                try rw [ti_0] at c_69
                refine lv_iload_n hx hb dX13_laysParts_174 rfl (lv_at hl 2 rfl) ?_
                refine lv_iconst (v := 1) hx hb dX13_laysParts_175 (by decide) ?_
                refine lv_icmp_ne (tgt := 188) hx hb dX13_laysParts_176 (by decide) (fun c_70 => ?_) (fun c_70 => ?_)
                · rw [fa_eq] at c_70
                  try rw [ti_1] at c_70
                  refine lv_aload_n hx hb dX13_laysParts_188 rfl (lv_at hl 4 rfl) ?_
                  refine va_get (D := D) (ci := 10) (v := .ref (a 19)) (C := RX13) (T := TX13) (N := 45) hx hb hts in_X13_laysParts_X13 hown hE.1 hP 0 rfl rfl 19 (by decide) (hts (.fieldLink RX13 53 "ClauseBookModel" "deep" "[I") (List.mem_of_getElem? (i := 15) rfl)) (fun _ h9 => h9) rfl dX13_laysParts_189 ?_
                  refine lv_iload_n hx hb dX13_laysParts_192 rfl (lv_at hl 1 rfl) ?_
                  refine va_iald hx hb hE.1 hP 7 0 rfl rfl (by rw [vp_in_iff]; first | omega | (subst_vars; omega)) dX13_laysParts_193 ?_
                  refine lv_topi (fun z_71 ez_71 => ?_)
                  refine lv_aload_n hx hb dX13_laysParts_194 rfl (lv_at hl 4 rfl) ?_
                  refine va_get (D := D) (ci := 10) (v := .ref (a 19)) (C := RX13) (T := TX13) (N := 45) hx hb hts in_X13_laysParts_X13 hown hE.1 hP 0 rfl rfl 19 (by decide) (hts (.fieldLink RX13 53 "ClauseBookModel" "deep" "[I") (List.mem_of_getElem? (i := 15) rfl)) (fun _ h9 => h9) rfl dX13_laysParts_195 ?_
                  refine lv_iload hx hb dX13_laysParts_198 (lv_at hl 0 rfl) ?_
                  refine va_iald hx hb hE.1 hP 7 0 rfl rfl (by rw [vp_in_iff]; first | omega | (subst_vars; omega)) dX13_laysParts_200 ?_
                  refine lv_topi (fun z_72 ez_72 => ?_)
                  refine va_mmax hx hb (hml.trans hl.1.symm) hown (hts (.methodLink RX13 227 Lib.Math.max.name) (List.mem_of_getElem? (i := 6) rfl)) (hts (.static Lib.Math.max.name) (List.mem_of_getElem? (i := 7) rfl)) (hts (.initialized "java/lang/Math") (List.mem_of_getElem? (i := 8) rfl)) (hts (.code Lib.Math.max.name Lib.Math.max.code 2 (some .int)) (List.mem_of_getElem? (i := 9) rfl)) (Nat.le_of_ble_eq_true rfl) (Nat.le_of_ble_eq_true rfl) (Nat.le_of_ble_eq_true rfl) (Nat.le_of_ble_eq_true rfl) dX13_laysParts_201 ?_
                  refine lv_topi (fun z_73 ez_73 => ?_)
                  refine lv_iadd hx hb dX13_laysParts_204 ?_
                  refine va_iast hx hb hE.1 hP hD hS 7 0 rfl rfl (by rw [vp_in_iff]; first | omega | (subst_vars; omega)) dX13_laysParts_205 (fun H locs hP hD hS => ?_)
                  have hP : va_P D vwCl [(h0, .inr (10, [.int (q 0), .int (q 1), .int (q 2), .int (q 3), .int (q 4), .int (q 5), .int (q 6), .int (q 7), .ref (a 8), .ref (a 9), .ref (a 10), .ref (a 11), .ref (a 12), .ref (a 13), .int (q 14), .long v, .long w, .ref (a 17), .ref (a 18), .ref (a 19), .ref (a 20), .ref (a 21), .ref (a 22), .ref (a 23), .int (q 24), .ref (a 25), .int (q 26), .ref (a 27), .int (q 28), .int (q 29), .int (q 30), .int (q 31), .int (q 32), .int (q 33), .ref (a 34), .ref (a 35), .ref (a 36), .ref (a 37), .ref (a 38), .ref (a 39), .ref (a 40), .int (q 41), .ref (a 42), .int (q 43), .int (q 44)])), ((a 8), .inl (T 0, 24, .inl f8)), ((a 9), .inl (T 0, 24, .inl f9)), ((a 10), .inl (T 0, 24, .inl f10)), ((a 11), .inl (T 0, 24, .inl f11)), ((a 17), .inl (T 0, 24, .inl (upd (upd e9 (xx.toNatClampNeg) z_10) (xx.toNatClampNeg) z_64))), ((a 18), .inl (T 0, 24, .inl (upd p9 (xx.toNatClampNeg) 1))), ((a 19), .inl (T 0, 24, .inl (upd d9 (xx.toNatClampNeg) (1 + z_73))))] H := hP
                  have hD : va_D A [(h0, .inr (10, [.int (q 0), .int (q 1), .int (q 2), .int (q 3), .int (q 4), .int (q 5), .int (q 6), .int (q 7), .ref (a 8), .ref (a 9), .ref (a 10), .ref (a 11), .ref (a 12), .ref (a 13), .int (q 14), .long v, .long w, .ref (a 17), .ref (a 18), .ref (a 19), .ref (a 20), .ref (a 21), .ref (a 22), .ref (a 23), .int (q 24), .ref (a 25), .int (q 26), .ref (a 27), .int (q 28), .int (q 29), .int (q 30), .int (q 31), .int (q 32), .int (q 33), .ref (a 34), .ref (a 35), .ref (a 36), .ref (a 37), .ref (a 38), .ref (a 39), .ref (a 40), .int (q 41), .ref (a 42), .int (q 43), .int (q 44)])), ((a 8), .inl (T 0, 24, .inl f8)), ((a 9), .inl (T 0, 24, .inl f9)), ((a 10), .inl (T 0, 24, .inl f10)), ((a 11), .inl (T 0, 24, .inl f11)), ((a 17), .inl (T 0, 24, .inl (upd (upd e9 (xx.toNatClampNeg) z_10) (xx.toNatClampNeg) z_64))), ((a 18), .inl (T 0, 24, .inl (upd p9 (xx.toNatClampNeg) 1))), ((a 19), .inl (T 0, 24, .inl (upd d9 (xx.toNatClampNeg) (1 + z_73))))] := hD
                  obtain ⟨z_74, ez_74⟩ : ∃ y : Int32, y = xx + 1 := ⟨_, rfl⟩
                  refine lv_iinc (v := z_74) (lv' := [(1, .int z_74), (4, .int z_5), (3, .int z_4), (2, .int r_3), (0, .ref h0)]) hx hb dX13_laysParts_206 hl (k := 3) rfl (by rw [ez_74]; rfl) (by decide) rfl (fun ls hl => ?_)
                  have hz_749 : z_74.toInt = xx.toInt + 1 := by rw [ez_74]; exact inc1 (n := 1000) (by omega) (by decide)
                  refine lv_goto (tgt := 2) hx hb dX13_laysParts_209 (by decide) ?_
                  exact ih (z_74, (upd (upd e9 (xx.toNatClampNeg) z_10) (xx.toNatClampNeg) z_64), (upd p9 (xx.toNatClampNeg) 1), (upd d9 (xx.toNatClampNeg) (1 + z_73))) ls _ _ ⟨lv_sub hl [0, 4] rfl, hP.sub [0, 1, 2, 3, 4, 5, 6, 7] rfl, hD.sub [0, 1, 2, 3, 4, 5, 6, 7] (by decide) rfl, hS, ⟨(by rw [hz_749]; omega), (by rw [upd_upd]; exact okE_step (n := 0) hEE (by omega) hz_749 (by omega) (fun hk9 => by exfalso; omega) (okR.late hokR))⟩⟩ (by (try dsimp only); rw [hz_749]; omega)
                · rw [fa_eq] at c_70
                  try rw [ti_1] at c_70
                  refine lv_aload_n hx hb dX13_laysParts_179 rfl (lv_at hl 4 rfl) ?_
                  refine va_get (D := D) (ci := 10) (v := .ref (a 19)) (C := RX13) (T := TX13) (N := 45) hx hb hts in_X13_laysParts_X13 hown hE.1 hP 0 rfl rfl 19 (by decide) (hts (.fieldLink RX13 53 "ClauseBookModel" "deep" "[I") (List.mem_of_getElem? (i := 15) rfl)) (fun _ h9 => h9) rfl dX13_laysParts_180 ?_
                  refine lv_iload_n hx hb dX13_laysParts_183 rfl (lv_at hl 1 rfl) ?_
                  refine va_iald hx hb hE.1 hP 7 0 rfl rfl (by rw [vp_in_iff]; first | omega | (subst_vars; omega)) dX13_laysParts_184 ?_
                  refine lv_topi (fun z_75 ez_75 => ?_)
                  refine lv_goto (tgt := 204) hx hb dX13_laysParts_185 (by decide) ?_
                  refine lv_iadd hx hb dX13_laysParts_204 ?_
                  refine va_iast hx hb hE.1 hP hD hS 7 0 rfl rfl (by rw [vp_in_iff]; first | omega | (subst_vars; omega)) dX13_laysParts_205 (fun H locs hP hD hS => ?_)
                  have hP : va_P D vwCl [(h0, .inr (10, [.int (q 0), .int (q 1), .int (q 2), .int (q 3), .int (q 4), .int (q 5), .int (q 6), .int (q 7), .ref (a 8), .ref (a 9), .ref (a 10), .ref (a 11), .ref (a 12), .ref (a 13), .int (q 14), .long v, .long w, .ref (a 17), .ref (a 18), .ref (a 19), .ref (a 20), .ref (a 21), .ref (a 22), .ref (a 23), .int (q 24), .ref (a 25), .int (q 26), .ref (a 27), .int (q 28), .int (q 29), .int (q 30), .int (q 31), .int (q 32), .int (q 33), .ref (a 34), .ref (a 35), .ref (a 36), .ref (a 37), .ref (a 38), .ref (a 39), .ref (a 40), .int (q 41), .ref (a 42), .int (q 43), .int (q 44)])), ((a 8), .inl (T 0, 24, .inl f8)), ((a 9), .inl (T 0, 24, .inl f9)), ((a 10), .inl (T 0, 24, .inl f10)), ((a 11), .inl (T 0, 24, .inl f11)), ((a 17), .inl (T 0, 24, .inl (upd (upd e9 (xx.toNatClampNeg) z_10) (xx.toNatClampNeg) z_64))), ((a 18), .inl (T 0, 24, .inl (upd p9 (xx.toNatClampNeg) 1))), ((a 19), .inl (T 0, 24, .inl (upd d9 (xx.toNatClampNeg) (1 + z_75))))] H := hP
                  have hD : va_D A [(h0, .inr (10, [.int (q 0), .int (q 1), .int (q 2), .int (q 3), .int (q 4), .int (q 5), .int (q 6), .int (q 7), .ref (a 8), .ref (a 9), .ref (a 10), .ref (a 11), .ref (a 12), .ref (a 13), .int (q 14), .long v, .long w, .ref (a 17), .ref (a 18), .ref (a 19), .ref (a 20), .ref (a 21), .ref (a 22), .ref (a 23), .int (q 24), .ref (a 25), .int (q 26), .ref (a 27), .int (q 28), .int (q 29), .int (q 30), .int (q 31), .int (q 32), .int (q 33), .ref (a 34), .ref (a 35), .ref (a 36), .ref (a 37), .ref (a 38), .ref (a 39), .ref (a 40), .int (q 41), .ref (a 42), .int (q 43), .int (q 44)])), ((a 8), .inl (T 0, 24, .inl f8)), ((a 9), .inl (T 0, 24, .inl f9)), ((a 10), .inl (T 0, 24, .inl f10)), ((a 11), .inl (T 0, 24, .inl f11)), ((a 17), .inl (T 0, 24, .inl (upd (upd e9 (xx.toNatClampNeg) z_10) (xx.toNatClampNeg) z_64))), ((a 18), .inl (T 0, 24, .inl (upd p9 (xx.toNatClampNeg) 1))), ((a 19), .inl (T 0, 24, .inl (upd d9 (xx.toNatClampNeg) (1 + z_75))))] := hD
                  obtain ⟨z_76, ez_76⟩ : ∃ y : Int32, y = xx + 1 := ⟨_, rfl⟩
                  refine lv_iinc (v := z_76) (lv' := [(1, .int z_76), (4, .int z_5), (3, .int z_4), (2, .int r_3), (0, .ref h0)]) hx hb dX13_laysParts_206 hl (k := 3) rfl (by rw [ez_76]; rfl) (by decide) rfl (fun ls hl => ?_)
                  have hz_769 : z_76.toInt = xx.toInt + 1 := by rw [ez_76]; exact inc1 (n := 1000) (by omega) (by decide)
                  refine lv_goto (tgt := 2) hx hb dX13_laysParts_209 (by decide) ?_
                  exact ih (z_76, (upd (upd e9 (xx.toNatClampNeg) z_10) (xx.toNatClampNeg) z_64), (upd p9 (xx.toNatClampNeg) 1), (upd d9 (xx.toNatClampNeg) (1 + z_75))) ls _ _ ⟨lv_sub hl [0, 4] rfl, hP.sub [0, 1, 2, 3, 4, 5, 6, 7] rfl, hD.sub [0, 1, 2, 3, 4, 5, 6, 7] (by decide) rfl, hS, ⟨(by rw [hz_769]; omega), (by rw [upd_upd]; exact okE_step (n := 0) hEE (by omega) hz_769 (by omega) (fun hk9 => by exfalso; omega) (okR.late hokR))⟩⟩ (by (try dsimp only); rw [hz_769]; omega)
              · rw [fa_eq] at c_69
                try rw [ti_0] at c_69
                refine lv_iconst (v := 0) hx hb dX13_laysParts_170 (by decide) ?_
                refine lv_goto (tgt := 204) hx hb dX13_laysParts_171 (by decide) ?_
                refine lv_iadd hx hb dX13_laysParts_204 ?_
                refine lv_topi (fun z_77 ez_77 => ?_)
                obtain rfl : z_77 = 1 := ez_77.trans (by decide)
                refine va_iast hx hb hE.1 hP hD hS 7 0 rfl rfl (by rw [vp_in_iff]; first | omega | (subst_vars; omega)) dX13_laysParts_205 (fun H locs hP hD hS => ?_)
                have hP : va_P D vwCl [(h0, .inr (10, [.int (q 0), .int (q 1), .int (q 2), .int (q 3), .int (q 4), .int (q 5), .int (q 6), .int (q 7), .ref (a 8), .ref (a 9), .ref (a 10), .ref (a 11), .ref (a 12), .ref (a 13), .int (q 14), .long v, .long w, .ref (a 17), .ref (a 18), .ref (a 19), .ref (a 20), .ref (a 21), .ref (a 22), .ref (a 23), .int (q 24), .ref (a 25), .int (q 26), .ref (a 27), .int (q 28), .int (q 29), .int (q 30), .int (q 31), .int (q 32), .int (q 33), .ref (a 34), .ref (a 35), .ref (a 36), .ref (a 37), .ref (a 38), .ref (a 39), .ref (a 40), .int (q 41), .ref (a 42), .int (q 43), .int (q 44)])), ((a 8), .inl (T 0, 24, .inl f8)), ((a 9), .inl (T 0, 24, .inl f9)), ((a 10), .inl (T 0, 24, .inl f10)), ((a 11), .inl (T 0, 24, .inl f11)), ((a 17), .inl (T 0, 24, .inl (upd (upd e9 (xx.toNatClampNeg) z_10) (xx.toNatClampNeg) z_64))), ((a 18), .inl (T 0, 24, .inl (upd p9 (xx.toNatClampNeg) 1))), ((a 19), .inl (T 0, 24, .inl (upd d9 (xx.toNatClampNeg) 1)))] H := hP
                have hD : va_D A [(h0, .inr (10, [.int (q 0), .int (q 1), .int (q 2), .int (q 3), .int (q 4), .int (q 5), .int (q 6), .int (q 7), .ref (a 8), .ref (a 9), .ref (a 10), .ref (a 11), .ref (a 12), .ref (a 13), .int (q 14), .long v, .long w, .ref (a 17), .ref (a 18), .ref (a 19), .ref (a 20), .ref (a 21), .ref (a 22), .ref (a 23), .int (q 24), .ref (a 25), .int (q 26), .ref (a 27), .int (q 28), .int (q 29), .int (q 30), .int (q 31), .int (q 32), .int (q 33), .ref (a 34), .ref (a 35), .ref (a 36), .ref (a 37), .ref (a 38), .ref (a 39), .ref (a 40), .int (q 41), .ref (a 42), .int (q 43), .int (q 44)])), ((a 8), .inl (T 0, 24, .inl f8)), ((a 9), .inl (T 0, 24, .inl f9)), ((a 10), .inl (T 0, 24, .inl f10)), ((a 11), .inl (T 0, 24, .inl f11)), ((a 17), .inl (T 0, 24, .inl (upd (upd e9 (xx.toNatClampNeg) z_10) (xx.toNatClampNeg) z_64))), ((a 18), .inl (T 0, 24, .inl (upd p9 (xx.toNatClampNeg) 1))), ((a 19), .inl (T 0, 24, .inl (upd d9 (xx.toNatClampNeg) 1)))] := hD
                obtain ⟨z_78, ez_78⟩ : ∃ y : Int32, y = xx + 1 := ⟨_, rfl⟩
                refine lv_iinc (v := z_78) (lv' := [(1, .int z_78), (4, .int z_5), (3, .int z_4), (2, .int r_3), (0, .ref h0)]) hx hb dX13_laysParts_206 hl (k := 3) rfl (by rw [ez_78]; rfl) (by decide) rfl (fun ls hl => ?_)
                have hz_789 : z_78.toInt = xx.toInt + 1 := by rw [ez_78]; exact inc1 (n := 1000) (by omega) (by decide)
                refine lv_goto (tgt := 2) hx hb dX13_laysParts_209 (by decide) ?_
                exact ih (z_78, (upd (upd e9 (xx.toNatClampNeg) z_10) (xx.toNatClampNeg) z_64), (upd p9 (xx.toNatClampNeg) 1), (upd d9 (xx.toNatClampNeg) 1)) ls _ _ ⟨lv_sub hl [0, 4] rfl, hP.sub [0, 1, 2, 3, 4, 5, 6, 7] rfl, hD.sub [0, 1, 2, 3, 4, 5, 6, 7] (by decide) rfl, hS, ⟨(by rw [hz_789]; omega), (by rw [upd_upd]; exact okE_step (n := 0) hEE (by omega) hz_789 (by omega) (fun hk9 => by exfalso; omega) (okR.late hokR))⟩⟩ (by (try dsimp only); rw [hz_789]; omega)
            · rw [fa_le] at c_67
              try rw [ti_1] at c_67
              refine lv_aload_n hx hb dX13_laysParts_147 rfl (lv_at hl 4 rfl) ?_
              refine va_get (D := D) (ci := 10) (v := .ref (a 18)) (C := RX13) (T := TX13) (N := 45) hx hb hts in_X13_laysParts_X13 hown hE.1 hP 0 rfl rfl 18 (by decide) (hts (.fieldLink RX13 50 "ClauseBookModel" "parts" "[I") (List.mem_of_getElem? (i := 14) rfl)) (fun _ h9 => h9) rfl dX13_laysParts_148 ?_
              refine lv_iload hx hb dX13_laysParts_151 (lv_at hl 0 rfl) ?_
              refine va_iald hx hb hE.1 hP 6 0 rfl rfl (by rw [vp_in_iff]; first | omega | (subst_vars; omega)) dX13_laysParts_153 ?_
              refine lv_topi (fun z_79 ez_79 => ?_)
              refine lv_goto (tgt := 158) hx hb dX13_laysParts_154 (by decide) ?_
              refine lv_iadd hx hb dX13_laysParts_158 ?_
              refine va_iast hx hb hE.1 hP hD hS 6 0 rfl rfl (by rw [vp_in_iff]; first | omega | (subst_vars; omega)) dX13_laysParts_159 (fun H locs hP hD hS => ?_)
              have hP : va_P D vwCl [(h0, .inr (10, [.int (q 0), .int (q 1), .int (q 2), .int (q 3), .int (q 4), .int (q 5), .int (q 6), .int (q 7), .ref (a 8), .ref (a 9), .ref (a 10), .ref (a 11), .ref (a 12), .ref (a 13), .int (q 14), .long v, .long w, .ref (a 17), .ref (a 18), .ref (a 19), .ref (a 20), .ref (a 21), .ref (a 22), .ref (a 23), .int (q 24), .ref (a 25), .int (q 26), .ref (a 27), .int (q 28), .int (q 29), .int (q 30), .int (q 31), .int (q 32), .int (q 33), .ref (a 34), .ref (a 35), .ref (a 36), .ref (a 37), .ref (a 38), .ref (a 39), .ref (a 40), .int (q 41), .ref (a 42), .int (q 43), .int (q 44)])), ((a 8), .inl (T 0, 24, .inl f8)), ((a 9), .inl (T 0, 24, .inl f9)), ((a 10), .inl (T 0, 24, .inl f10)), ((a 11), .inl (T 0, 24, .inl f11)), ((a 17), .inl (T 0, 24, .inl (upd (upd e9 (xx.toNatClampNeg) z_10) (xx.toNatClampNeg) z_64))), ((a 18), .inl (T 0, 24, .inl (upd p9 (xx.toNatClampNeg) (1 + z_79)))), ((a 19), .inl (T 0, 24, .inl d9))] H := hP
              have hD : va_D A [(h0, .inr (10, [.int (q 0), .int (q 1), .int (q 2), .int (q 3), .int (q 4), .int (q 5), .int (q 6), .int (q 7), .ref (a 8), .ref (a 9), .ref (a 10), .ref (a 11), .ref (a 12), .ref (a 13), .int (q 14), .long v, .long w, .ref (a 17), .ref (a 18), .ref (a 19), .ref (a 20), .ref (a 21), .ref (a 22), .ref (a 23), .int (q 24), .ref (a 25), .int (q 26), .ref (a 27), .int (q 28), .int (q 29), .int (q 30), .int (q 31), .int (q 32), .int (q 33), .ref (a 34), .ref (a 35), .ref (a 36), .ref (a 37), .ref (a 38), .ref (a 39), .ref (a 40), .int (q 41), .ref (a 42), .int (q 43), .int (q 44)])), ((a 8), .inl (T 0, 24, .inl f8)), ((a 9), .inl (T 0, 24, .inl f9)), ((a 10), .inl (T 0, 24, .inl f10)), ((a 11), .inl (T 0, 24, .inl f11)), ((a 17), .inl (T 0, 24, .inl (upd (upd e9 (xx.toNatClampNeg) z_10) (xx.toNatClampNeg) z_64))), ((a 18), .inl (T 0, 24, .inl (upd p9 (xx.toNatClampNeg) (1 + z_79)))), ((a 19), .inl (T 0, 24, .inl d9))] := hD
              refine lv_aload_n hx hb dX13_laysParts_160 rfl (lv_at hl 4 rfl) ?_
              refine va_get (D := D) (ci := 10) (v := .ref (a 19)) (C := RX13) (T := TX13) (N := 45) hx hb hts in_X13_laysParts_X13 hown hE.1 hP 0 rfl rfl 19 (by decide) (hts (.fieldLink RX13 53 "ClauseBookModel" "deep" "[I") (List.mem_of_getElem? (i := 15) rfl)) (fun _ h9 => h9) rfl dX13_laysParts_161 ?_
              refine lv_iload_n hx hb dX13_laysParts_164 rfl (lv_at hl 3 rfl) ?_
              refine lv_iconst (v := 1) hx hb dX13_laysParts_165 (by decide) ?_
              refine lv_iload_n hx hb dX13_laysParts_166 rfl (lv_at hl 2 rfl) ?_
              refine lv_if_ne (tgt := 174) hx hb dX13_laysParts_167 (by decide) (fun c_80 => ?_) (fun c_80 => ?_)
              · rw [fa_eq] at c_80
                try rw [ti_0] at c_80
                refine lv_iload_n hx hb dX13_laysParts_174 rfl (lv_at hl 2 rfl) ?_
                refine lv_iconst (v := 1) hx hb dX13_laysParts_175 (by decide) ?_
                refine lv_icmp_ne (tgt := 188) hx hb dX13_laysParts_176 (by decide) (fun c_81 => ?_) (fun c_81 => ?_)
                · rw [fa_eq] at c_81
                  try rw [ti_1] at c_81
                  refine lv_aload_n hx hb dX13_laysParts_188 rfl (lv_at hl 4 rfl) ?_
                  refine va_get (D := D) (ci := 10) (v := .ref (a 19)) (C := RX13) (T := TX13) (N := 45) hx hb hts in_X13_laysParts_X13 hown hE.1 hP 0 rfl rfl 19 (by decide) (hts (.fieldLink RX13 53 "ClauseBookModel" "deep" "[I") (List.mem_of_getElem? (i := 15) rfl)) (fun _ h9 => h9) rfl dX13_laysParts_189 ?_
                  refine lv_iload_n hx hb dX13_laysParts_192 rfl (lv_at hl 1 rfl) ?_
                  refine va_iald hx hb hE.1 hP 7 0 rfl rfl (by rw [vp_in_iff]; first | omega | (subst_vars; omega)) dX13_laysParts_193 ?_
                  refine lv_topi (fun z_82 ez_82 => ?_)
                  refine lv_aload_n hx hb dX13_laysParts_194 rfl (lv_at hl 4 rfl) ?_
                  refine va_get (D := D) (ci := 10) (v := .ref (a 19)) (C := RX13) (T := TX13) (N := 45) hx hb hts in_X13_laysParts_X13 hown hE.1 hP 0 rfl rfl 19 (by decide) (hts (.fieldLink RX13 53 "ClauseBookModel" "deep" "[I") (List.mem_of_getElem? (i := 15) rfl)) (fun _ h9 => h9) rfl dX13_laysParts_195 ?_
                  refine lv_iload hx hb dX13_laysParts_198 (lv_at hl 0 rfl) ?_
                  refine va_iald hx hb hE.1 hP 7 0 rfl rfl (by rw [vp_in_iff]; first | omega | (subst_vars; omega)) dX13_laysParts_200 ?_
                  refine lv_topi (fun z_83 ez_83 => ?_)
                  refine va_mmax hx hb (hml.trans hl.1.symm) hown (hts (.methodLink RX13 227 Lib.Math.max.name) (List.mem_of_getElem? (i := 6) rfl)) (hts (.static Lib.Math.max.name) (List.mem_of_getElem? (i := 7) rfl)) (hts (.initialized "java/lang/Math") (List.mem_of_getElem? (i := 8) rfl)) (hts (.code Lib.Math.max.name Lib.Math.max.code 2 (some .int)) (List.mem_of_getElem? (i := 9) rfl)) (Nat.le_of_ble_eq_true rfl) (Nat.le_of_ble_eq_true rfl) (Nat.le_of_ble_eq_true rfl) (Nat.le_of_ble_eq_true rfl) dX13_laysParts_201 ?_
                  refine lv_topi (fun z_84 ez_84 => ?_)
                  refine lv_iadd hx hb dX13_laysParts_204 ?_
                  refine va_iast hx hb hE.1 hP hD hS 7 0 rfl rfl (by rw [vp_in_iff]; first | omega | (subst_vars; omega)) dX13_laysParts_205 (fun H locs hP hD hS => ?_)
                  have hP : va_P D vwCl [(h0, .inr (10, [.int (q 0), .int (q 1), .int (q 2), .int (q 3), .int (q 4), .int (q 5), .int (q 6), .int (q 7), .ref (a 8), .ref (a 9), .ref (a 10), .ref (a 11), .ref (a 12), .ref (a 13), .int (q 14), .long v, .long w, .ref (a 17), .ref (a 18), .ref (a 19), .ref (a 20), .ref (a 21), .ref (a 22), .ref (a 23), .int (q 24), .ref (a 25), .int (q 26), .ref (a 27), .int (q 28), .int (q 29), .int (q 30), .int (q 31), .int (q 32), .int (q 33), .ref (a 34), .ref (a 35), .ref (a 36), .ref (a 37), .ref (a 38), .ref (a 39), .ref (a 40), .int (q 41), .ref (a 42), .int (q 43), .int (q 44)])), ((a 8), .inl (T 0, 24, .inl f8)), ((a 9), .inl (T 0, 24, .inl f9)), ((a 10), .inl (T 0, 24, .inl f10)), ((a 11), .inl (T 0, 24, .inl f11)), ((a 17), .inl (T 0, 24, .inl (upd (upd e9 (xx.toNatClampNeg) z_10) (xx.toNatClampNeg) z_64))), ((a 18), .inl (T 0, 24, .inl (upd p9 (xx.toNatClampNeg) (1 + z_79)))), ((a 19), .inl (T 0, 24, .inl (upd d9 (xx.toNatClampNeg) (1 + z_84))))] H := hP
                  have hD : va_D A [(h0, .inr (10, [.int (q 0), .int (q 1), .int (q 2), .int (q 3), .int (q 4), .int (q 5), .int (q 6), .int (q 7), .ref (a 8), .ref (a 9), .ref (a 10), .ref (a 11), .ref (a 12), .ref (a 13), .int (q 14), .long v, .long w, .ref (a 17), .ref (a 18), .ref (a 19), .ref (a 20), .ref (a 21), .ref (a 22), .ref (a 23), .int (q 24), .ref (a 25), .int (q 26), .ref (a 27), .int (q 28), .int (q 29), .int (q 30), .int (q 31), .int (q 32), .int (q 33), .ref (a 34), .ref (a 35), .ref (a 36), .ref (a 37), .ref (a 38), .ref (a 39), .ref (a 40), .int (q 41), .ref (a 42), .int (q 43), .int (q 44)])), ((a 8), .inl (T 0, 24, .inl f8)), ((a 9), .inl (T 0, 24, .inl f9)), ((a 10), .inl (T 0, 24, .inl f10)), ((a 11), .inl (T 0, 24, .inl f11)), ((a 17), .inl (T 0, 24, .inl (upd (upd e9 (xx.toNatClampNeg) z_10) (xx.toNatClampNeg) z_64))), ((a 18), .inl (T 0, 24, .inl (upd p9 (xx.toNatClampNeg) (1 + z_79)))), ((a 19), .inl (T 0, 24, .inl (upd d9 (xx.toNatClampNeg) (1 + z_84))))] := hD
                  obtain ⟨z_85, ez_85⟩ : ∃ y : Int32, y = xx + 1 := ⟨_, rfl⟩
                  refine lv_iinc (v := z_85) (lv' := [(1, .int z_85), (4, .int z_5), (3, .int z_4), (2, .int r_3), (0, .ref h0)]) hx hb dX13_laysParts_206 hl (k := 3) rfl (by rw [ez_85]; rfl) (by decide) rfl (fun ls hl => ?_)
                  have hz_859 : z_85.toInt = xx.toInt + 1 := by rw [ez_85]; exact inc1 (n := 1000) (by omega) (by decide)
                  refine lv_goto (tgt := 2) hx hb dX13_laysParts_209 (by decide) ?_
                  exact ih (z_85, (upd (upd e9 (xx.toNatClampNeg) z_10) (xx.toNatClampNeg) z_64), (upd p9 (xx.toNatClampNeg) (1 + z_79)), (upd d9 (xx.toNatClampNeg) (1 + z_84))) ls _ _ ⟨lv_sub hl [0, 4] rfl, hP.sub [0, 1, 2, 3, 4, 5, 6, 7] rfl, hD.sub [0, 1, 2, 3, 4, 5, 6, 7] (by decide) rfl, hS, ⟨(by rw [hz_859]; omega), (by rw [upd_upd]; exact okE_step (n := 0) hEE (by omega) hz_859 (by omega) (fun hk9 => by exfalso; omega) (okR.late hokR))⟩⟩ (by (try dsimp only); rw [hz_859]; omega)
                · rw [fa_eq] at c_81
                  try rw [ti_1] at c_81
                  refine lv_aload_n hx hb dX13_laysParts_179 rfl (lv_at hl 4 rfl) ?_
                  refine va_get (D := D) (ci := 10) (v := .ref (a 19)) (C := RX13) (T := TX13) (N := 45) hx hb hts in_X13_laysParts_X13 hown hE.1 hP 0 rfl rfl 19 (by decide) (hts (.fieldLink RX13 53 "ClauseBookModel" "deep" "[I") (List.mem_of_getElem? (i := 15) rfl)) (fun _ h9 => h9) rfl dX13_laysParts_180 ?_
                  refine lv_iload_n hx hb dX13_laysParts_183 rfl (lv_at hl 1 rfl) ?_
                  refine va_iald hx hb hE.1 hP 7 0 rfl rfl (by rw [vp_in_iff]; first | omega | (subst_vars; omega)) dX13_laysParts_184 ?_
                  refine lv_topi (fun z_86 ez_86 => ?_)
                  refine lv_goto (tgt := 204) hx hb dX13_laysParts_185 (by decide) ?_
                  refine lv_iadd hx hb dX13_laysParts_204 ?_
                  refine va_iast hx hb hE.1 hP hD hS 7 0 rfl rfl (by rw [vp_in_iff]; first | omega | (subst_vars; omega)) dX13_laysParts_205 (fun H locs hP hD hS => ?_)
                  have hP : va_P D vwCl [(h0, .inr (10, [.int (q 0), .int (q 1), .int (q 2), .int (q 3), .int (q 4), .int (q 5), .int (q 6), .int (q 7), .ref (a 8), .ref (a 9), .ref (a 10), .ref (a 11), .ref (a 12), .ref (a 13), .int (q 14), .long v, .long w, .ref (a 17), .ref (a 18), .ref (a 19), .ref (a 20), .ref (a 21), .ref (a 22), .ref (a 23), .int (q 24), .ref (a 25), .int (q 26), .ref (a 27), .int (q 28), .int (q 29), .int (q 30), .int (q 31), .int (q 32), .int (q 33), .ref (a 34), .ref (a 35), .ref (a 36), .ref (a 37), .ref (a 38), .ref (a 39), .ref (a 40), .int (q 41), .ref (a 42), .int (q 43), .int (q 44)])), ((a 8), .inl (T 0, 24, .inl f8)), ((a 9), .inl (T 0, 24, .inl f9)), ((a 10), .inl (T 0, 24, .inl f10)), ((a 11), .inl (T 0, 24, .inl f11)), ((a 17), .inl (T 0, 24, .inl (upd (upd e9 (xx.toNatClampNeg) z_10) (xx.toNatClampNeg) z_64))), ((a 18), .inl (T 0, 24, .inl (upd p9 (xx.toNatClampNeg) (1 + z_79)))), ((a 19), .inl (T 0, 24, .inl (upd d9 (xx.toNatClampNeg) (1 + z_86))))] H := hP
                  have hD : va_D A [(h0, .inr (10, [.int (q 0), .int (q 1), .int (q 2), .int (q 3), .int (q 4), .int (q 5), .int (q 6), .int (q 7), .ref (a 8), .ref (a 9), .ref (a 10), .ref (a 11), .ref (a 12), .ref (a 13), .int (q 14), .long v, .long w, .ref (a 17), .ref (a 18), .ref (a 19), .ref (a 20), .ref (a 21), .ref (a 22), .ref (a 23), .int (q 24), .ref (a 25), .int (q 26), .ref (a 27), .int (q 28), .int (q 29), .int (q 30), .int (q 31), .int (q 32), .int (q 33), .ref (a 34), .ref (a 35), .ref (a 36), .ref (a 37), .ref (a 38), .ref (a 39), .ref (a 40), .int (q 41), .ref (a 42), .int (q 43), .int (q 44)])), ((a 8), .inl (T 0, 24, .inl f8)), ((a 9), .inl (T 0, 24, .inl f9)), ((a 10), .inl (T 0, 24, .inl f10)), ((a 11), .inl (T 0, 24, .inl f11)), ((a 17), .inl (T 0, 24, .inl (upd (upd e9 (xx.toNatClampNeg) z_10) (xx.toNatClampNeg) z_64))), ((a 18), .inl (T 0, 24, .inl (upd p9 (xx.toNatClampNeg) (1 + z_79)))), ((a 19), .inl (T 0, 24, .inl (upd d9 (xx.toNatClampNeg) (1 + z_86))))] := hD
                  obtain ⟨z_87, ez_87⟩ : ∃ y : Int32, y = xx + 1 := ⟨_, rfl⟩
                  refine lv_iinc (v := z_87) (lv' := [(1, .int z_87), (4, .int z_5), (3, .int z_4), (2, .int r_3), (0, .ref h0)]) hx hb dX13_laysParts_206 hl (k := 3) rfl (by rw [ez_87]; rfl) (by decide) rfl (fun ls hl => ?_)
                  have hz_879 : z_87.toInt = xx.toInt + 1 := by rw [ez_87]; exact inc1 (n := 1000) (by omega) (by decide)
                  refine lv_goto (tgt := 2) hx hb dX13_laysParts_209 (by decide) ?_
                  exact ih (z_87, (upd (upd e9 (xx.toNatClampNeg) z_10) (xx.toNatClampNeg) z_64), (upd p9 (xx.toNatClampNeg) (1 + z_79)), (upd d9 (xx.toNatClampNeg) (1 + z_86))) ls _ _ ⟨lv_sub hl [0, 4] rfl, hP.sub [0, 1, 2, 3, 4, 5, 6, 7] rfl, hD.sub [0, 1, 2, 3, 4, 5, 6, 7] (by decide) rfl, hS, ⟨(by rw [hz_879]; omega), (by rw [upd_upd]; exact okE_step (n := 0) hEE (by omega) hz_879 (by omega) (fun hk9 => by exfalso; omega) (okR.late hokR))⟩⟩ (by (try dsimp only); rw [hz_879]; omega)
              · rw [fa_eq] at c_80
                try rw [ti_0] at c_80
                refine lv_iconst (v := 0) hx hb dX13_laysParts_170 (by decide) ?_
                refine lv_goto (tgt := 204) hx hb dX13_laysParts_171 (by decide) ?_
                refine lv_iadd hx hb dX13_laysParts_204 ?_
                refine lv_topi (fun z_88 ez_88 => ?_)
                obtain rfl : z_88 = 1 := ez_88.trans (by decide)
                refine va_iast hx hb hE.1 hP hD hS 7 0 rfl rfl (by rw [vp_in_iff]; first | omega | (subst_vars; omega)) dX13_laysParts_205 (fun H locs hP hD hS => ?_)
                have hP : va_P D vwCl [(h0, .inr (10, [.int (q 0), .int (q 1), .int (q 2), .int (q 3), .int (q 4), .int (q 5), .int (q 6), .int (q 7), .ref (a 8), .ref (a 9), .ref (a 10), .ref (a 11), .ref (a 12), .ref (a 13), .int (q 14), .long v, .long w, .ref (a 17), .ref (a 18), .ref (a 19), .ref (a 20), .ref (a 21), .ref (a 22), .ref (a 23), .int (q 24), .ref (a 25), .int (q 26), .ref (a 27), .int (q 28), .int (q 29), .int (q 30), .int (q 31), .int (q 32), .int (q 33), .ref (a 34), .ref (a 35), .ref (a 36), .ref (a 37), .ref (a 38), .ref (a 39), .ref (a 40), .int (q 41), .ref (a 42), .int (q 43), .int (q 44)])), ((a 8), .inl (T 0, 24, .inl f8)), ((a 9), .inl (T 0, 24, .inl f9)), ((a 10), .inl (T 0, 24, .inl f10)), ((a 11), .inl (T 0, 24, .inl f11)), ((a 17), .inl (T 0, 24, .inl (upd (upd e9 (xx.toNatClampNeg) z_10) (xx.toNatClampNeg) z_64))), ((a 18), .inl (T 0, 24, .inl (upd p9 (xx.toNatClampNeg) (1 + z_79)))), ((a 19), .inl (T 0, 24, .inl (upd d9 (xx.toNatClampNeg) 1)))] H := hP
                have hD : va_D A [(h0, .inr (10, [.int (q 0), .int (q 1), .int (q 2), .int (q 3), .int (q 4), .int (q 5), .int (q 6), .int (q 7), .ref (a 8), .ref (a 9), .ref (a 10), .ref (a 11), .ref (a 12), .ref (a 13), .int (q 14), .long v, .long w, .ref (a 17), .ref (a 18), .ref (a 19), .ref (a 20), .ref (a 21), .ref (a 22), .ref (a 23), .int (q 24), .ref (a 25), .int (q 26), .ref (a 27), .int (q 28), .int (q 29), .int (q 30), .int (q 31), .int (q 32), .int (q 33), .ref (a 34), .ref (a 35), .ref (a 36), .ref (a 37), .ref (a 38), .ref (a 39), .ref (a 40), .int (q 41), .ref (a 42), .int (q 43), .int (q 44)])), ((a 8), .inl (T 0, 24, .inl f8)), ((a 9), .inl (T 0, 24, .inl f9)), ((a 10), .inl (T 0, 24, .inl f10)), ((a 11), .inl (T 0, 24, .inl f11)), ((a 17), .inl (T 0, 24, .inl (upd (upd e9 (xx.toNatClampNeg) z_10) (xx.toNatClampNeg) z_64))), ((a 18), .inl (T 0, 24, .inl (upd p9 (xx.toNatClampNeg) (1 + z_79)))), ((a 19), .inl (T 0, 24, .inl (upd d9 (xx.toNatClampNeg) 1)))] := hD
                obtain ⟨z_89, ez_89⟩ : ∃ y : Int32, y = xx + 1 := ⟨_, rfl⟩
                refine lv_iinc (v := z_89) (lv' := [(1, .int z_89), (4, .int z_5), (3, .int z_4), (2, .int r_3), (0, .ref h0)]) hx hb dX13_laysParts_206 hl (k := 3) rfl (by rw [ez_89]; rfl) (by decide) rfl (fun ls hl => ?_)
                have hz_899 : z_89.toInt = xx.toInt + 1 := by rw [ez_89]; exact inc1 (n := 1000) (by omega) (by decide)
                refine lv_goto (tgt := 2) hx hb dX13_laysParts_209 (by decide) ?_
                exact ih (z_89, (upd (upd e9 (xx.toNatClampNeg) z_10) (xx.toNatClampNeg) z_64), (upd p9 (xx.toNatClampNeg) (1 + z_79)), (upd d9 (xx.toNatClampNeg) 1)) ls _ _ ⟨lv_sub hl [0, 4] rfl, hP.sub [0, 1, 2, 3, 4, 5, 6, 7] rfl, hD.sub [0, 1, 2, 3, 4, 5, 6, 7] (by decide) rfl, hS, ⟨(by rw [hz_899]; omega), (by rw [upd_upd]; exact okE_step (n := 0) hEE (by omega) hz_899 (by omega) (fun hk9 => by exfalso; omega) (okR.late hokR))⟩⟩ (by (try dsimp only); rw [hz_899]; omega)
          · rw [fa_le] at c_65
            try rw [ti_0] at c_65
            refine lv_aload_n hx hb dX13_laysParts_131 rfl (lv_at hl 4 rfl) ?_
            refine va_get (D := D) (ci := 10) (v := .ref (a 18)) (C := RX13) (T := TX13) (N := 45) hx hb hts in_X13_laysParts_X13 hown hE.1 hP 0 rfl rfl 18 (by decide) (hts (.fieldLink RX13 50 "ClauseBookModel" "parts" "[I") (List.mem_of_getElem? (i := 14) rfl)) (fun _ h9 => h9) rfl dX13_laysParts_132 ?_
            refine lv_iload_n hx hb dX13_laysParts_135 rfl (lv_at hl 1 rfl) ?_
            refine va_iald hx hb hE.1 hP 6 0 rfl rfl (by rw [vp_in_iff]; first | omega | (subst_vars; omega)) dX13_laysParts_136 ?_
            refine lv_topi (fun z_90 ez_90 => ?_)
            refine lv_goto (tgt := 141) hx hb dX13_laysParts_137 (by decide) ?_
            refine lv_iadd hx hb dX13_laysParts_141 ?_
            refine lv_iload_n hx hb dX13_laysParts_142 rfl (lv_at hl 2 rfl) ?_
            refine lv_iconst (v := 1) hx hb dX13_laysParts_143 (by decide) ?_
            refine lv_icmp_le (tgt := 157) hx hb dX13_laysParts_144 (by decide) (fun c_91 => ?_) (fun c_91 => ?_)
            · rw [fa_le] at c_91
              try rw [ti_1] at c_91
              refine lv_iconst (v := 0) hx hb dX13_laysParts_157 (by decide) ?_
              refine lv_iadd hx hb dX13_laysParts_158 ?_
              refine va_iast hx hb hE.1 hP hD hS 6 0 rfl rfl (by rw [vp_in_iff]; first | omega | (subst_vars; omega)) dX13_laysParts_159 (fun H locs hP hD hS => ?_)
              have hP : va_P D vwCl [(h0, .inr (10, [.int (q 0), .int (q 1), .int (q 2), .int (q 3), .int (q 4), .int (q 5), .int (q 6), .int (q 7), .ref (a 8), .ref (a 9), .ref (a 10), .ref (a 11), .ref (a 12), .ref (a 13), .int (q 14), .long v, .long w, .ref (a 17), .ref (a 18), .ref (a 19), .ref (a 20), .ref (a 21), .ref (a 22), .ref (a 23), .int (q 24), .ref (a 25), .int (q 26), .ref (a 27), .int (q 28), .int (q 29), .int (q 30), .int (q 31), .int (q 32), .int (q 33), .ref (a 34), .ref (a 35), .ref (a 36), .ref (a 37), .ref (a 38), .ref (a 39), .ref (a 40), .int (q 41), .ref (a 42), .int (q 43), .int (q 44)])), ((a 8), .inl (T 0, 24, .inl f8)), ((a 9), .inl (T 0, 24, .inl f9)), ((a 10), .inl (T 0, 24, .inl f10)), ((a 11), .inl (T 0, 24, .inl f11)), ((a 17), .inl (T 0, 24, .inl (upd (upd e9 (xx.toNatClampNeg) z_10) (xx.toNatClampNeg) z_64))), ((a 18), .inl (T 0, 24, .inl (upd p9 (xx.toNatClampNeg) ((1 + z_90) + 0)))), ((a 19), .inl (T 0, 24, .inl d9))] H := hP
              have hD : va_D A [(h0, .inr (10, [.int (q 0), .int (q 1), .int (q 2), .int (q 3), .int (q 4), .int (q 5), .int (q 6), .int (q 7), .ref (a 8), .ref (a 9), .ref (a 10), .ref (a 11), .ref (a 12), .ref (a 13), .int (q 14), .long v, .long w, .ref (a 17), .ref (a 18), .ref (a 19), .ref (a 20), .ref (a 21), .ref (a 22), .ref (a 23), .int (q 24), .ref (a 25), .int (q 26), .ref (a 27), .int (q 28), .int (q 29), .int (q 30), .int (q 31), .int (q 32), .int (q 33), .ref (a 34), .ref (a 35), .ref (a 36), .ref (a 37), .ref (a 38), .ref (a 39), .ref (a 40), .int (q 41), .ref (a 42), .int (q 43), .int (q 44)])), ((a 8), .inl (T 0, 24, .inl f8)), ((a 9), .inl (T 0, 24, .inl f9)), ((a 10), .inl (T 0, 24, .inl f10)), ((a 11), .inl (T 0, 24, .inl f11)), ((a 17), .inl (T 0, 24, .inl (upd (upd e9 (xx.toNatClampNeg) z_10) (xx.toNatClampNeg) z_64))), ((a 18), .inl (T 0, 24, .inl (upd p9 (xx.toNatClampNeg) ((1 + z_90) + 0)))), ((a 19), .inl (T 0, 24, .inl d9))] := hD
              refine lv_aload_n hx hb dX13_laysParts_160 rfl (lv_at hl 4 rfl) ?_
              refine va_get (D := D) (ci := 10) (v := .ref (a 19)) (C := RX13) (T := TX13) (N := 45) hx hb hts in_X13_laysParts_X13 hown hE.1 hP 0 rfl rfl 19 (by decide) (hts (.fieldLink RX13 53 "ClauseBookModel" "deep" "[I") (List.mem_of_getElem? (i := 15) rfl)) (fun _ h9 => h9) rfl dX13_laysParts_161 ?_
              refine lv_iload_n hx hb dX13_laysParts_164 rfl (lv_at hl 3 rfl) ?_
              refine lv_iconst (v := 1) hx hb dX13_laysParts_165 (by decide) ?_
              refine lv_iload_n hx hb dX13_laysParts_166 rfl (lv_at hl 2 rfl) ?_
              refine lv_if_ne (tgt := 174) hx hb dX13_laysParts_167 (by decide) (fun c_92 => ?_) (fun c_92 => ?_)
              · rw [fa_eq] at c_92
                try rw [ti_0] at c_92
                refine lv_iload_n hx hb dX13_laysParts_174 rfl (lv_at hl 2 rfl) ?_
                refine lv_iconst (v := 1) hx hb dX13_laysParts_175 (by decide) ?_
                refine lv_icmp_ne (tgt := 188) hx hb dX13_laysParts_176 (by decide) (fun c_93 => ?_) (fun c_93 => ?_)
                · rw [fa_eq] at c_93
                  try rw [ti_1] at c_93
                  refine lv_aload_n hx hb dX13_laysParts_188 rfl (lv_at hl 4 rfl) ?_
                  refine va_get (D := D) (ci := 10) (v := .ref (a 19)) (C := RX13) (T := TX13) (N := 45) hx hb hts in_X13_laysParts_X13 hown hE.1 hP 0 rfl rfl 19 (by decide) (hts (.fieldLink RX13 53 "ClauseBookModel" "deep" "[I") (List.mem_of_getElem? (i := 15) rfl)) (fun _ h9 => h9) rfl dX13_laysParts_189 ?_
                  refine lv_iload_n hx hb dX13_laysParts_192 rfl (lv_at hl 1 rfl) ?_
                  refine va_iald hx hb hE.1 hP 7 0 rfl rfl (by rw [vp_in_iff]; first | omega | (subst_vars; omega)) dX13_laysParts_193 ?_
                  refine lv_topi (fun z_94 ez_94 => ?_)
                  refine lv_aload_n hx hb dX13_laysParts_194 rfl (lv_at hl 4 rfl) ?_
                  refine va_get (D := D) (ci := 10) (v := .ref (a 19)) (C := RX13) (T := TX13) (N := 45) hx hb hts in_X13_laysParts_X13 hown hE.1 hP 0 rfl rfl 19 (by decide) (hts (.fieldLink RX13 53 "ClauseBookModel" "deep" "[I") (List.mem_of_getElem? (i := 15) rfl)) (fun _ h9 => h9) rfl dX13_laysParts_195 ?_
                  refine lv_iload hx hb dX13_laysParts_198 (lv_at hl 0 rfl) ?_
                  refine va_iald hx hb hE.1 hP 7 0 rfl rfl (by rw [vp_in_iff]; first | omega | (subst_vars; omega)) dX13_laysParts_200 ?_
                  refine lv_topi (fun z_95 ez_95 => ?_)
                  refine va_mmax hx hb (hml.trans hl.1.symm) hown (hts (.methodLink RX13 227 Lib.Math.max.name) (List.mem_of_getElem? (i := 6) rfl)) (hts (.static Lib.Math.max.name) (List.mem_of_getElem? (i := 7) rfl)) (hts (.initialized "java/lang/Math") (List.mem_of_getElem? (i := 8) rfl)) (hts (.code Lib.Math.max.name Lib.Math.max.code 2 (some .int)) (List.mem_of_getElem? (i := 9) rfl)) (Nat.le_of_ble_eq_true rfl) (Nat.le_of_ble_eq_true rfl) (Nat.le_of_ble_eq_true rfl) (Nat.le_of_ble_eq_true rfl) dX13_laysParts_201 ?_
                  refine lv_topi (fun z_96 ez_96 => ?_)
                  refine lv_iadd hx hb dX13_laysParts_204 ?_
                  refine va_iast hx hb hE.1 hP hD hS 7 0 rfl rfl (by rw [vp_in_iff]; first | omega | (subst_vars; omega)) dX13_laysParts_205 (fun H locs hP hD hS => ?_)
                  have hP : va_P D vwCl [(h0, .inr (10, [.int (q 0), .int (q 1), .int (q 2), .int (q 3), .int (q 4), .int (q 5), .int (q 6), .int (q 7), .ref (a 8), .ref (a 9), .ref (a 10), .ref (a 11), .ref (a 12), .ref (a 13), .int (q 14), .long v, .long w, .ref (a 17), .ref (a 18), .ref (a 19), .ref (a 20), .ref (a 21), .ref (a 22), .ref (a 23), .int (q 24), .ref (a 25), .int (q 26), .ref (a 27), .int (q 28), .int (q 29), .int (q 30), .int (q 31), .int (q 32), .int (q 33), .ref (a 34), .ref (a 35), .ref (a 36), .ref (a 37), .ref (a 38), .ref (a 39), .ref (a 40), .int (q 41), .ref (a 42), .int (q 43), .int (q 44)])), ((a 8), .inl (T 0, 24, .inl f8)), ((a 9), .inl (T 0, 24, .inl f9)), ((a 10), .inl (T 0, 24, .inl f10)), ((a 11), .inl (T 0, 24, .inl f11)), ((a 17), .inl (T 0, 24, .inl (upd (upd e9 (xx.toNatClampNeg) z_10) (xx.toNatClampNeg) z_64))), ((a 18), .inl (T 0, 24, .inl (upd p9 (xx.toNatClampNeg) ((1 + z_90) + 0)))), ((a 19), .inl (T 0, 24, .inl (upd d9 (xx.toNatClampNeg) (1 + z_96))))] H := hP
                  have hD : va_D A [(h0, .inr (10, [.int (q 0), .int (q 1), .int (q 2), .int (q 3), .int (q 4), .int (q 5), .int (q 6), .int (q 7), .ref (a 8), .ref (a 9), .ref (a 10), .ref (a 11), .ref (a 12), .ref (a 13), .int (q 14), .long v, .long w, .ref (a 17), .ref (a 18), .ref (a 19), .ref (a 20), .ref (a 21), .ref (a 22), .ref (a 23), .int (q 24), .ref (a 25), .int (q 26), .ref (a 27), .int (q 28), .int (q 29), .int (q 30), .int (q 31), .int (q 32), .int (q 33), .ref (a 34), .ref (a 35), .ref (a 36), .ref (a 37), .ref (a 38), .ref (a 39), .ref (a 40), .int (q 41), .ref (a 42), .int (q 43), .int (q 44)])), ((a 8), .inl (T 0, 24, .inl f8)), ((a 9), .inl (T 0, 24, .inl f9)), ((a 10), .inl (T 0, 24, .inl f10)), ((a 11), .inl (T 0, 24, .inl f11)), ((a 17), .inl (T 0, 24, .inl (upd (upd e9 (xx.toNatClampNeg) z_10) (xx.toNatClampNeg) z_64))), ((a 18), .inl (T 0, 24, .inl (upd p9 (xx.toNatClampNeg) ((1 + z_90) + 0)))), ((a 19), .inl (T 0, 24, .inl (upd d9 (xx.toNatClampNeg) (1 + z_96))))] := hD
                  obtain ⟨z_97, ez_97⟩ : ∃ y : Int32, y = xx + 1 := ⟨_, rfl⟩
                  refine lv_iinc (v := z_97) (lv' := [(1, .int z_97), (4, .int z_5), (3, .int z_4), (2, .int r_3), (0, .ref h0)]) hx hb dX13_laysParts_206 hl (k := 3) rfl (by rw [ez_97]; rfl) (by decide) rfl (fun ls hl => ?_)
                  have hz_979 : z_97.toInt = xx.toInt + 1 := by rw [ez_97]; exact inc1 (n := 1000) (by omega) (by decide)
                  refine lv_goto (tgt := 2) hx hb dX13_laysParts_209 (by decide) ?_
                  exact ih (z_97, (upd (upd e9 (xx.toNatClampNeg) z_10) (xx.toNatClampNeg) z_64), (upd p9 (xx.toNatClampNeg) ((1 + z_90) + 0)), (upd d9 (xx.toNatClampNeg) (1 + z_96))) ls _ _ ⟨lv_sub hl [0, 4] rfl, hP.sub [0, 1, 2, 3, 4, 5, 6, 7] rfl, hD.sub [0, 1, 2, 3, 4, 5, 6, 7] (by decide) rfl, hS, ⟨(by rw [hz_979]; omega), (by rw [upd_upd]; exact okE_step (n := 0) hEE (by omega) hz_979 (by omega) (fun hk9 => by exfalso; omega) (okR.late hokR))⟩⟩ (by (try dsimp only); rw [hz_979]; omega)
                · rw [fa_eq] at c_93
                  try rw [ti_1] at c_93
                  refine lv_aload_n hx hb dX13_laysParts_179 rfl (lv_at hl 4 rfl) ?_
                  refine va_get (D := D) (ci := 10) (v := .ref (a 19)) (C := RX13) (T := TX13) (N := 45) hx hb hts in_X13_laysParts_X13 hown hE.1 hP 0 rfl rfl 19 (by decide) (hts (.fieldLink RX13 53 "ClauseBookModel" "deep" "[I") (List.mem_of_getElem? (i := 15) rfl)) (fun _ h9 => h9) rfl dX13_laysParts_180 ?_
                  refine lv_iload_n hx hb dX13_laysParts_183 rfl (lv_at hl 1 rfl) ?_
                  refine va_iald hx hb hE.1 hP 7 0 rfl rfl (by rw [vp_in_iff]; first | omega | (subst_vars; omega)) dX13_laysParts_184 ?_
                  refine lv_topi (fun z_98 ez_98 => ?_)
                  refine lv_goto (tgt := 204) hx hb dX13_laysParts_185 (by decide) ?_
                  refine lv_iadd hx hb dX13_laysParts_204 ?_
                  refine va_iast hx hb hE.1 hP hD hS 7 0 rfl rfl (by rw [vp_in_iff]; first | omega | (subst_vars; omega)) dX13_laysParts_205 (fun H locs hP hD hS => ?_)
                  have hP : va_P D vwCl [(h0, .inr (10, [.int (q 0), .int (q 1), .int (q 2), .int (q 3), .int (q 4), .int (q 5), .int (q 6), .int (q 7), .ref (a 8), .ref (a 9), .ref (a 10), .ref (a 11), .ref (a 12), .ref (a 13), .int (q 14), .long v, .long w, .ref (a 17), .ref (a 18), .ref (a 19), .ref (a 20), .ref (a 21), .ref (a 22), .ref (a 23), .int (q 24), .ref (a 25), .int (q 26), .ref (a 27), .int (q 28), .int (q 29), .int (q 30), .int (q 31), .int (q 32), .int (q 33), .ref (a 34), .ref (a 35), .ref (a 36), .ref (a 37), .ref (a 38), .ref (a 39), .ref (a 40), .int (q 41), .ref (a 42), .int (q 43), .int (q 44)])), ((a 8), .inl (T 0, 24, .inl f8)), ((a 9), .inl (T 0, 24, .inl f9)), ((a 10), .inl (T 0, 24, .inl f10)), ((a 11), .inl (T 0, 24, .inl f11)), ((a 17), .inl (T 0, 24, .inl (upd (upd e9 (xx.toNatClampNeg) z_10) (xx.toNatClampNeg) z_64))), ((a 18), .inl (T 0, 24, .inl (upd p9 (xx.toNatClampNeg) ((1 + z_90) + 0)))), ((a 19), .inl (T 0, 24, .inl (upd d9 (xx.toNatClampNeg) (1 + z_98))))] H := hP
                  have hD : va_D A [(h0, .inr (10, [.int (q 0), .int (q 1), .int (q 2), .int (q 3), .int (q 4), .int (q 5), .int (q 6), .int (q 7), .ref (a 8), .ref (a 9), .ref (a 10), .ref (a 11), .ref (a 12), .ref (a 13), .int (q 14), .long v, .long w, .ref (a 17), .ref (a 18), .ref (a 19), .ref (a 20), .ref (a 21), .ref (a 22), .ref (a 23), .int (q 24), .ref (a 25), .int (q 26), .ref (a 27), .int (q 28), .int (q 29), .int (q 30), .int (q 31), .int (q 32), .int (q 33), .ref (a 34), .ref (a 35), .ref (a 36), .ref (a 37), .ref (a 38), .ref (a 39), .ref (a 40), .int (q 41), .ref (a 42), .int (q 43), .int (q 44)])), ((a 8), .inl (T 0, 24, .inl f8)), ((a 9), .inl (T 0, 24, .inl f9)), ((a 10), .inl (T 0, 24, .inl f10)), ((a 11), .inl (T 0, 24, .inl f11)), ((a 17), .inl (T 0, 24, .inl (upd (upd e9 (xx.toNatClampNeg) z_10) (xx.toNatClampNeg) z_64))), ((a 18), .inl (T 0, 24, .inl (upd p9 (xx.toNatClampNeg) ((1 + z_90) + 0)))), ((a 19), .inl (T 0, 24, .inl (upd d9 (xx.toNatClampNeg) (1 + z_98))))] := hD
                  obtain ⟨z_99, ez_99⟩ : ∃ y : Int32, y = xx + 1 := ⟨_, rfl⟩
                  refine lv_iinc (v := z_99) (lv' := [(1, .int z_99), (4, .int z_5), (3, .int z_4), (2, .int r_3), (0, .ref h0)]) hx hb dX13_laysParts_206 hl (k := 3) rfl (by rw [ez_99]; rfl) (by decide) rfl (fun ls hl => ?_)
                  have hz_999 : z_99.toInt = xx.toInt + 1 := by rw [ez_99]; exact inc1 (n := 1000) (by omega) (by decide)
                  refine lv_goto (tgt := 2) hx hb dX13_laysParts_209 (by decide) ?_
                  exact ih (z_99, (upd (upd e9 (xx.toNatClampNeg) z_10) (xx.toNatClampNeg) z_64), (upd p9 (xx.toNatClampNeg) ((1 + z_90) + 0)), (upd d9 (xx.toNatClampNeg) (1 + z_98))) ls _ _ ⟨lv_sub hl [0, 4] rfl, hP.sub [0, 1, 2, 3, 4, 5, 6, 7] rfl, hD.sub [0, 1, 2, 3, 4, 5, 6, 7] (by decide) rfl, hS, ⟨(by rw [hz_999]; omega), (by rw [upd_upd]; exact okE_step (n := 0) hEE (by omega) hz_999 (by omega) (fun hk9 => by exfalso; omega) (okR.late hokR))⟩⟩ (by (try dsimp only); rw [hz_999]; omega)
              · rw [fa_eq] at c_92
                try rw [ti_0] at c_92
                refine lv_iconst (v := 0) hx hb dX13_laysParts_170 (by decide) ?_
                refine lv_goto (tgt := 204) hx hb dX13_laysParts_171 (by decide) ?_
                refine lv_iadd hx hb dX13_laysParts_204 ?_
                refine lv_topi (fun z_100 ez_100 => ?_)
                obtain rfl : z_100 = 1 := ez_100.trans (by decide)
                refine va_iast hx hb hE.1 hP hD hS 7 0 rfl rfl (by rw [vp_in_iff]; first | omega | (subst_vars; omega)) dX13_laysParts_205 (fun H locs hP hD hS => ?_)
                have hP : va_P D vwCl [(h0, .inr (10, [.int (q 0), .int (q 1), .int (q 2), .int (q 3), .int (q 4), .int (q 5), .int (q 6), .int (q 7), .ref (a 8), .ref (a 9), .ref (a 10), .ref (a 11), .ref (a 12), .ref (a 13), .int (q 14), .long v, .long w, .ref (a 17), .ref (a 18), .ref (a 19), .ref (a 20), .ref (a 21), .ref (a 22), .ref (a 23), .int (q 24), .ref (a 25), .int (q 26), .ref (a 27), .int (q 28), .int (q 29), .int (q 30), .int (q 31), .int (q 32), .int (q 33), .ref (a 34), .ref (a 35), .ref (a 36), .ref (a 37), .ref (a 38), .ref (a 39), .ref (a 40), .int (q 41), .ref (a 42), .int (q 43), .int (q 44)])), ((a 8), .inl (T 0, 24, .inl f8)), ((a 9), .inl (T 0, 24, .inl f9)), ((a 10), .inl (T 0, 24, .inl f10)), ((a 11), .inl (T 0, 24, .inl f11)), ((a 17), .inl (T 0, 24, .inl (upd (upd e9 (xx.toNatClampNeg) z_10) (xx.toNatClampNeg) z_64))), ((a 18), .inl (T 0, 24, .inl (upd p9 (xx.toNatClampNeg) ((1 + z_90) + 0)))), ((a 19), .inl (T 0, 24, .inl (upd d9 (xx.toNatClampNeg) 1)))] H := hP
                have hD : va_D A [(h0, .inr (10, [.int (q 0), .int (q 1), .int (q 2), .int (q 3), .int (q 4), .int (q 5), .int (q 6), .int (q 7), .ref (a 8), .ref (a 9), .ref (a 10), .ref (a 11), .ref (a 12), .ref (a 13), .int (q 14), .long v, .long w, .ref (a 17), .ref (a 18), .ref (a 19), .ref (a 20), .ref (a 21), .ref (a 22), .ref (a 23), .int (q 24), .ref (a 25), .int (q 26), .ref (a 27), .int (q 28), .int (q 29), .int (q 30), .int (q 31), .int (q 32), .int (q 33), .ref (a 34), .ref (a 35), .ref (a 36), .ref (a 37), .ref (a 38), .ref (a 39), .ref (a 40), .int (q 41), .ref (a 42), .int (q 43), .int (q 44)])), ((a 8), .inl (T 0, 24, .inl f8)), ((a 9), .inl (T 0, 24, .inl f9)), ((a 10), .inl (T 0, 24, .inl f10)), ((a 11), .inl (T 0, 24, .inl f11)), ((a 17), .inl (T 0, 24, .inl (upd (upd e9 (xx.toNatClampNeg) z_10) (xx.toNatClampNeg) z_64))), ((a 18), .inl (T 0, 24, .inl (upd p9 (xx.toNatClampNeg) ((1 + z_90) + 0)))), ((a 19), .inl (T 0, 24, .inl (upd d9 (xx.toNatClampNeg) 1)))] := hD
                obtain ⟨z_101, ez_101⟩ : ∃ y : Int32, y = xx + 1 := ⟨_, rfl⟩
                refine lv_iinc (v := z_101) (lv' := [(1, .int z_101), (4, .int z_5), (3, .int z_4), (2, .int r_3), (0, .ref h0)]) hx hb dX13_laysParts_206 hl (k := 3) rfl (by rw [ez_101]; rfl) (by decide) rfl (fun ls hl => ?_)
                have hz_1019 : z_101.toInt = xx.toInt + 1 := by rw [ez_101]; exact inc1 (n := 1000) (by omega) (by decide)
                refine lv_goto (tgt := 2) hx hb dX13_laysParts_209 (by decide) ?_
                exact ih (z_101, (upd (upd e9 (xx.toNatClampNeg) z_10) (xx.toNatClampNeg) z_64), (upd p9 (xx.toNatClampNeg) ((1 + z_90) + 0)), (upd d9 (xx.toNatClampNeg) 1)) ls _ _ ⟨lv_sub hl [0, 4] rfl, hP.sub [0, 1, 2, 3, 4, 5, 6, 7] rfl, hD.sub [0, 1, 2, 3, 4, 5, 6, 7] (by decide) rfl, hS, ⟨(by rw [hz_1019]; omega), (by rw [upd_upd]; exact okE_step (n := 0) hEE (by omega) hz_1019 (by omega) (fun hk9 => by exfalso; omega) (okR.late hokR))⟩⟩ (by (try dsimp only); rw [hz_1019]; omega)
            · rw [fa_le] at c_91
              try rw [ti_1] at c_91
              refine lv_aload_n hx hb dX13_laysParts_147 rfl (lv_at hl 4 rfl) ?_
              refine va_get (D := D) (ci := 10) (v := .ref (a 18)) (C := RX13) (T := TX13) (N := 45) hx hb hts in_X13_laysParts_X13 hown hE.1 hP 0 rfl rfl 18 (by decide) (hts (.fieldLink RX13 50 "ClauseBookModel" "parts" "[I") (List.mem_of_getElem? (i := 14) rfl)) (fun _ h9 => h9) rfl dX13_laysParts_148 ?_
              refine lv_iload hx hb dX13_laysParts_151 (lv_at hl 0 rfl) ?_
              refine va_iald hx hb hE.1 hP 6 0 rfl rfl (by rw [vp_in_iff]; first | omega | (subst_vars; omega)) dX13_laysParts_153 ?_
              refine lv_topi (fun z_102 ez_102 => ?_)
              refine lv_goto (tgt := 158) hx hb dX13_laysParts_154 (by decide) ?_
              refine lv_iadd hx hb dX13_laysParts_158 ?_
              refine va_iast hx hb hE.1 hP hD hS 6 0 rfl rfl (by rw [vp_in_iff]; first | omega | (subst_vars; omega)) dX13_laysParts_159 (fun H locs hP hD hS => ?_)
              have hP : va_P D vwCl [(h0, .inr (10, [.int (q 0), .int (q 1), .int (q 2), .int (q 3), .int (q 4), .int (q 5), .int (q 6), .int (q 7), .ref (a 8), .ref (a 9), .ref (a 10), .ref (a 11), .ref (a 12), .ref (a 13), .int (q 14), .long v, .long w, .ref (a 17), .ref (a 18), .ref (a 19), .ref (a 20), .ref (a 21), .ref (a 22), .ref (a 23), .int (q 24), .ref (a 25), .int (q 26), .ref (a 27), .int (q 28), .int (q 29), .int (q 30), .int (q 31), .int (q 32), .int (q 33), .ref (a 34), .ref (a 35), .ref (a 36), .ref (a 37), .ref (a 38), .ref (a 39), .ref (a 40), .int (q 41), .ref (a 42), .int (q 43), .int (q 44)])), ((a 8), .inl (T 0, 24, .inl f8)), ((a 9), .inl (T 0, 24, .inl f9)), ((a 10), .inl (T 0, 24, .inl f10)), ((a 11), .inl (T 0, 24, .inl f11)), ((a 17), .inl (T 0, 24, .inl (upd (upd e9 (xx.toNatClampNeg) z_10) (xx.toNatClampNeg) z_64))), ((a 18), .inl (T 0, 24, .inl (upd p9 (xx.toNatClampNeg) ((1 + z_90) + z_102)))), ((a 19), .inl (T 0, 24, .inl d9))] H := hP
              have hD : va_D A [(h0, .inr (10, [.int (q 0), .int (q 1), .int (q 2), .int (q 3), .int (q 4), .int (q 5), .int (q 6), .int (q 7), .ref (a 8), .ref (a 9), .ref (a 10), .ref (a 11), .ref (a 12), .ref (a 13), .int (q 14), .long v, .long w, .ref (a 17), .ref (a 18), .ref (a 19), .ref (a 20), .ref (a 21), .ref (a 22), .ref (a 23), .int (q 24), .ref (a 25), .int (q 26), .ref (a 27), .int (q 28), .int (q 29), .int (q 30), .int (q 31), .int (q 32), .int (q 33), .ref (a 34), .ref (a 35), .ref (a 36), .ref (a 37), .ref (a 38), .ref (a 39), .ref (a 40), .int (q 41), .ref (a 42), .int (q 43), .int (q 44)])), ((a 8), .inl (T 0, 24, .inl f8)), ((a 9), .inl (T 0, 24, .inl f9)), ((a 10), .inl (T 0, 24, .inl f10)), ((a 11), .inl (T 0, 24, .inl f11)), ((a 17), .inl (T 0, 24, .inl (upd (upd e9 (xx.toNatClampNeg) z_10) (xx.toNatClampNeg) z_64))), ((a 18), .inl (T 0, 24, .inl (upd p9 (xx.toNatClampNeg) ((1 + z_90) + z_102)))), ((a 19), .inl (T 0, 24, .inl d9))] := hD
              refine lv_aload_n hx hb dX13_laysParts_160 rfl (lv_at hl 4 rfl) ?_
              refine va_get (D := D) (ci := 10) (v := .ref (a 19)) (C := RX13) (T := TX13) (N := 45) hx hb hts in_X13_laysParts_X13 hown hE.1 hP 0 rfl rfl 19 (by decide) (hts (.fieldLink RX13 53 "ClauseBookModel" "deep" "[I") (List.mem_of_getElem? (i := 15) rfl)) (fun _ h9 => h9) rfl dX13_laysParts_161 ?_
              refine lv_iload_n hx hb dX13_laysParts_164 rfl (lv_at hl 3 rfl) ?_
              refine lv_iconst (v := 1) hx hb dX13_laysParts_165 (by decide) ?_
              refine lv_iload_n hx hb dX13_laysParts_166 rfl (lv_at hl 2 rfl) ?_
              refine lv_if_ne (tgt := 174) hx hb dX13_laysParts_167 (by decide) (fun c_103 => ?_) (fun c_103 => ?_)
              · rw [fa_eq] at c_103
                try rw [ti_0] at c_103
                refine lv_iload_n hx hb dX13_laysParts_174 rfl (lv_at hl 2 rfl) ?_
                refine lv_iconst (v := 1) hx hb dX13_laysParts_175 (by decide) ?_
                refine lv_icmp_ne (tgt := 188) hx hb dX13_laysParts_176 (by decide) (fun c_104 => ?_) (fun c_104 => ?_)
                · rw [fa_eq] at c_104
                  try rw [ti_1] at c_104
                  refine lv_aload_n hx hb dX13_laysParts_188 rfl (lv_at hl 4 rfl) ?_
                  refine va_get (D := D) (ci := 10) (v := .ref (a 19)) (C := RX13) (T := TX13) (N := 45) hx hb hts in_X13_laysParts_X13 hown hE.1 hP 0 rfl rfl 19 (by decide) (hts (.fieldLink RX13 53 "ClauseBookModel" "deep" "[I") (List.mem_of_getElem? (i := 15) rfl)) (fun _ h9 => h9) rfl dX13_laysParts_189 ?_
                  refine lv_iload_n hx hb dX13_laysParts_192 rfl (lv_at hl 1 rfl) ?_
                  refine va_iald hx hb hE.1 hP 7 0 rfl rfl (by rw [vp_in_iff]; first | omega | (subst_vars; omega)) dX13_laysParts_193 ?_
                  refine lv_topi (fun z_105 ez_105 => ?_)
                  refine lv_aload_n hx hb dX13_laysParts_194 rfl (lv_at hl 4 rfl) ?_
                  refine va_get (D := D) (ci := 10) (v := .ref (a 19)) (C := RX13) (T := TX13) (N := 45) hx hb hts in_X13_laysParts_X13 hown hE.1 hP 0 rfl rfl 19 (by decide) (hts (.fieldLink RX13 53 "ClauseBookModel" "deep" "[I") (List.mem_of_getElem? (i := 15) rfl)) (fun _ h9 => h9) rfl dX13_laysParts_195 ?_
                  refine lv_iload hx hb dX13_laysParts_198 (lv_at hl 0 rfl) ?_
                  refine va_iald hx hb hE.1 hP 7 0 rfl rfl (by rw [vp_in_iff]; first | omega | (subst_vars; omega)) dX13_laysParts_200 ?_
                  refine lv_topi (fun z_106 ez_106 => ?_)
                  refine va_mmax hx hb (hml.trans hl.1.symm) hown (hts (.methodLink RX13 227 Lib.Math.max.name) (List.mem_of_getElem? (i := 6) rfl)) (hts (.static Lib.Math.max.name) (List.mem_of_getElem? (i := 7) rfl)) (hts (.initialized "java/lang/Math") (List.mem_of_getElem? (i := 8) rfl)) (hts (.code Lib.Math.max.name Lib.Math.max.code 2 (some .int)) (List.mem_of_getElem? (i := 9) rfl)) (Nat.le_of_ble_eq_true rfl) (Nat.le_of_ble_eq_true rfl) (Nat.le_of_ble_eq_true rfl) (Nat.le_of_ble_eq_true rfl) dX13_laysParts_201 ?_
                  refine lv_topi (fun z_107 ez_107 => ?_)
                  refine lv_iadd hx hb dX13_laysParts_204 ?_
                  refine va_iast hx hb hE.1 hP hD hS 7 0 rfl rfl (by rw [vp_in_iff]; first | omega | (subst_vars; omega)) dX13_laysParts_205 (fun H locs hP hD hS => ?_)
                  have hP : va_P D vwCl [(h0, .inr (10, [.int (q 0), .int (q 1), .int (q 2), .int (q 3), .int (q 4), .int (q 5), .int (q 6), .int (q 7), .ref (a 8), .ref (a 9), .ref (a 10), .ref (a 11), .ref (a 12), .ref (a 13), .int (q 14), .long v, .long w, .ref (a 17), .ref (a 18), .ref (a 19), .ref (a 20), .ref (a 21), .ref (a 22), .ref (a 23), .int (q 24), .ref (a 25), .int (q 26), .ref (a 27), .int (q 28), .int (q 29), .int (q 30), .int (q 31), .int (q 32), .int (q 33), .ref (a 34), .ref (a 35), .ref (a 36), .ref (a 37), .ref (a 38), .ref (a 39), .ref (a 40), .int (q 41), .ref (a 42), .int (q 43), .int (q 44)])), ((a 8), .inl (T 0, 24, .inl f8)), ((a 9), .inl (T 0, 24, .inl f9)), ((a 10), .inl (T 0, 24, .inl f10)), ((a 11), .inl (T 0, 24, .inl f11)), ((a 17), .inl (T 0, 24, .inl (upd (upd e9 (xx.toNatClampNeg) z_10) (xx.toNatClampNeg) z_64))), ((a 18), .inl (T 0, 24, .inl (upd p9 (xx.toNatClampNeg) ((1 + z_90) + z_102)))), ((a 19), .inl (T 0, 24, .inl (upd d9 (xx.toNatClampNeg) (1 + z_107))))] H := hP
                  have hD : va_D A [(h0, .inr (10, [.int (q 0), .int (q 1), .int (q 2), .int (q 3), .int (q 4), .int (q 5), .int (q 6), .int (q 7), .ref (a 8), .ref (a 9), .ref (a 10), .ref (a 11), .ref (a 12), .ref (a 13), .int (q 14), .long v, .long w, .ref (a 17), .ref (a 18), .ref (a 19), .ref (a 20), .ref (a 21), .ref (a 22), .ref (a 23), .int (q 24), .ref (a 25), .int (q 26), .ref (a 27), .int (q 28), .int (q 29), .int (q 30), .int (q 31), .int (q 32), .int (q 33), .ref (a 34), .ref (a 35), .ref (a 36), .ref (a 37), .ref (a 38), .ref (a 39), .ref (a 40), .int (q 41), .ref (a 42), .int (q 43), .int (q 44)])), ((a 8), .inl (T 0, 24, .inl f8)), ((a 9), .inl (T 0, 24, .inl f9)), ((a 10), .inl (T 0, 24, .inl f10)), ((a 11), .inl (T 0, 24, .inl f11)), ((a 17), .inl (T 0, 24, .inl (upd (upd e9 (xx.toNatClampNeg) z_10) (xx.toNatClampNeg) z_64))), ((a 18), .inl (T 0, 24, .inl (upd p9 (xx.toNatClampNeg) ((1 + z_90) + z_102)))), ((a 19), .inl (T 0, 24, .inl (upd d9 (xx.toNatClampNeg) (1 + z_107))))] := hD
                  obtain ⟨z_108, ez_108⟩ : ∃ y : Int32, y = xx + 1 := ⟨_, rfl⟩
                  refine lv_iinc (v := z_108) (lv' := [(1, .int z_108), (4, .int z_5), (3, .int z_4), (2, .int r_3), (0, .ref h0)]) hx hb dX13_laysParts_206 hl (k := 3) rfl (by rw [ez_108]; rfl) (by decide) rfl (fun ls hl => ?_)
                  have hz_1089 : z_108.toInt = xx.toInt + 1 := by rw [ez_108]; exact inc1 (n := 1000) (by omega) (by decide)
                  refine lv_goto (tgt := 2) hx hb dX13_laysParts_209 (by decide) ?_
                  exact ih (z_108, (upd (upd e9 (xx.toNatClampNeg) z_10) (xx.toNatClampNeg) z_64), (upd p9 (xx.toNatClampNeg) ((1 + z_90) + z_102)), (upd d9 (xx.toNatClampNeg) (1 + z_107))) ls _ _ ⟨lv_sub hl [0, 4] rfl, hP.sub [0, 1, 2, 3, 4, 5, 6, 7] rfl, hD.sub [0, 1, 2, 3, 4, 5, 6, 7] (by decide) rfl, hS, ⟨(by rw [hz_1089]; omega), (by rw [upd_upd]; exact okE_step (n := 0) hEE (by omega) hz_1089 (by omega) (fun hk9 => by exfalso; omega) (okR.late hokR))⟩⟩ (by (try dsimp only); rw [hz_1089]; omega)
                · rw [fa_eq] at c_104
                  try rw [ti_1] at c_104
                  refine lv_aload_n hx hb dX13_laysParts_179 rfl (lv_at hl 4 rfl) ?_
                  refine va_get (D := D) (ci := 10) (v := .ref (a 19)) (C := RX13) (T := TX13) (N := 45) hx hb hts in_X13_laysParts_X13 hown hE.1 hP 0 rfl rfl 19 (by decide) (hts (.fieldLink RX13 53 "ClauseBookModel" "deep" "[I") (List.mem_of_getElem? (i := 15) rfl)) (fun _ h9 => h9) rfl dX13_laysParts_180 ?_
                  refine lv_iload_n hx hb dX13_laysParts_183 rfl (lv_at hl 1 rfl) ?_
                  refine va_iald hx hb hE.1 hP 7 0 rfl rfl (by rw [vp_in_iff]; first | omega | (subst_vars; omega)) dX13_laysParts_184 ?_
                  refine lv_topi (fun z_109 ez_109 => ?_)
                  refine lv_goto (tgt := 204) hx hb dX13_laysParts_185 (by decide) ?_
                  refine lv_iadd hx hb dX13_laysParts_204 ?_
                  refine va_iast hx hb hE.1 hP hD hS 7 0 rfl rfl (by rw [vp_in_iff]; first | omega | (subst_vars; omega)) dX13_laysParts_205 (fun H locs hP hD hS => ?_)
                  have hP : va_P D vwCl [(h0, .inr (10, [.int (q 0), .int (q 1), .int (q 2), .int (q 3), .int (q 4), .int (q 5), .int (q 6), .int (q 7), .ref (a 8), .ref (a 9), .ref (a 10), .ref (a 11), .ref (a 12), .ref (a 13), .int (q 14), .long v, .long w, .ref (a 17), .ref (a 18), .ref (a 19), .ref (a 20), .ref (a 21), .ref (a 22), .ref (a 23), .int (q 24), .ref (a 25), .int (q 26), .ref (a 27), .int (q 28), .int (q 29), .int (q 30), .int (q 31), .int (q 32), .int (q 33), .ref (a 34), .ref (a 35), .ref (a 36), .ref (a 37), .ref (a 38), .ref (a 39), .ref (a 40), .int (q 41), .ref (a 42), .int (q 43), .int (q 44)])), ((a 8), .inl (T 0, 24, .inl f8)), ((a 9), .inl (T 0, 24, .inl f9)), ((a 10), .inl (T 0, 24, .inl f10)), ((a 11), .inl (T 0, 24, .inl f11)), ((a 17), .inl (T 0, 24, .inl (upd (upd e9 (xx.toNatClampNeg) z_10) (xx.toNatClampNeg) z_64))), ((a 18), .inl (T 0, 24, .inl (upd p9 (xx.toNatClampNeg) ((1 + z_90) + z_102)))), ((a 19), .inl (T 0, 24, .inl (upd d9 (xx.toNatClampNeg) (1 + z_109))))] H := hP
                  have hD : va_D A [(h0, .inr (10, [.int (q 0), .int (q 1), .int (q 2), .int (q 3), .int (q 4), .int (q 5), .int (q 6), .int (q 7), .ref (a 8), .ref (a 9), .ref (a 10), .ref (a 11), .ref (a 12), .ref (a 13), .int (q 14), .long v, .long w, .ref (a 17), .ref (a 18), .ref (a 19), .ref (a 20), .ref (a 21), .ref (a 22), .ref (a 23), .int (q 24), .ref (a 25), .int (q 26), .ref (a 27), .int (q 28), .int (q 29), .int (q 30), .int (q 31), .int (q 32), .int (q 33), .ref (a 34), .ref (a 35), .ref (a 36), .ref (a 37), .ref (a 38), .ref (a 39), .ref (a 40), .int (q 41), .ref (a 42), .int (q 43), .int (q 44)])), ((a 8), .inl (T 0, 24, .inl f8)), ((a 9), .inl (T 0, 24, .inl f9)), ((a 10), .inl (T 0, 24, .inl f10)), ((a 11), .inl (T 0, 24, .inl f11)), ((a 17), .inl (T 0, 24, .inl (upd (upd e9 (xx.toNatClampNeg) z_10) (xx.toNatClampNeg) z_64))), ((a 18), .inl (T 0, 24, .inl (upd p9 (xx.toNatClampNeg) ((1 + z_90) + z_102)))), ((a 19), .inl (T 0, 24, .inl (upd d9 (xx.toNatClampNeg) (1 + z_109))))] := hD
                  obtain ⟨z_110, ez_110⟩ : ∃ y : Int32, y = xx + 1 := ⟨_, rfl⟩
                  refine lv_iinc (v := z_110) (lv' := [(1, .int z_110), (4, .int z_5), (3, .int z_4), (2, .int r_3), (0, .ref h0)]) hx hb dX13_laysParts_206 hl (k := 3) rfl (by rw [ez_110]; rfl) (by decide) rfl (fun ls hl => ?_)
                  have hz_1109 : z_110.toInt = xx.toInt + 1 := by rw [ez_110]; exact inc1 (n := 1000) (by omega) (by decide)
                  refine lv_goto (tgt := 2) hx hb dX13_laysParts_209 (by decide) ?_
                  exact ih (z_110, (upd (upd e9 (xx.toNatClampNeg) z_10) (xx.toNatClampNeg) z_64), (upd p9 (xx.toNatClampNeg) ((1 + z_90) + z_102)), (upd d9 (xx.toNatClampNeg) (1 + z_109))) ls _ _ ⟨lv_sub hl [0, 4] rfl, hP.sub [0, 1, 2, 3, 4, 5, 6, 7] rfl, hD.sub [0, 1, 2, 3, 4, 5, 6, 7] (by decide) rfl, hS, ⟨(by rw [hz_1109]; omega), (by rw [upd_upd]; exact okE_step (n := 0) hEE (by omega) hz_1109 (by omega) (fun hk9 => by exfalso; omega) (okR.late hokR))⟩⟩ (by (try dsimp only); rw [hz_1109]; omega)
              · rw [fa_eq] at c_103
                try rw [ti_0] at c_103
                refine lv_iconst (v := 0) hx hb dX13_laysParts_170 (by decide) ?_
                refine lv_goto (tgt := 204) hx hb dX13_laysParts_171 (by decide) ?_
                refine lv_iadd hx hb dX13_laysParts_204 ?_
                refine lv_topi (fun z_111 ez_111 => ?_)
                obtain rfl : z_111 = 1 := ez_111.trans (by decide)
                refine va_iast hx hb hE.1 hP hD hS 7 0 rfl rfl (by rw [vp_in_iff]; first | omega | (subst_vars; omega)) dX13_laysParts_205 (fun H locs hP hD hS => ?_)
                have hP : va_P D vwCl [(h0, .inr (10, [.int (q 0), .int (q 1), .int (q 2), .int (q 3), .int (q 4), .int (q 5), .int (q 6), .int (q 7), .ref (a 8), .ref (a 9), .ref (a 10), .ref (a 11), .ref (a 12), .ref (a 13), .int (q 14), .long v, .long w, .ref (a 17), .ref (a 18), .ref (a 19), .ref (a 20), .ref (a 21), .ref (a 22), .ref (a 23), .int (q 24), .ref (a 25), .int (q 26), .ref (a 27), .int (q 28), .int (q 29), .int (q 30), .int (q 31), .int (q 32), .int (q 33), .ref (a 34), .ref (a 35), .ref (a 36), .ref (a 37), .ref (a 38), .ref (a 39), .ref (a 40), .int (q 41), .ref (a 42), .int (q 43), .int (q 44)])), ((a 8), .inl (T 0, 24, .inl f8)), ((a 9), .inl (T 0, 24, .inl f9)), ((a 10), .inl (T 0, 24, .inl f10)), ((a 11), .inl (T 0, 24, .inl f11)), ((a 17), .inl (T 0, 24, .inl (upd (upd e9 (xx.toNatClampNeg) z_10) (xx.toNatClampNeg) z_64))), ((a 18), .inl (T 0, 24, .inl (upd p9 (xx.toNatClampNeg) ((1 + z_90) + z_102)))), ((a 19), .inl (T 0, 24, .inl (upd d9 (xx.toNatClampNeg) 1)))] H := hP
                have hD : va_D A [(h0, .inr (10, [.int (q 0), .int (q 1), .int (q 2), .int (q 3), .int (q 4), .int (q 5), .int (q 6), .int (q 7), .ref (a 8), .ref (a 9), .ref (a 10), .ref (a 11), .ref (a 12), .ref (a 13), .int (q 14), .long v, .long w, .ref (a 17), .ref (a 18), .ref (a 19), .ref (a 20), .ref (a 21), .ref (a 22), .ref (a 23), .int (q 24), .ref (a 25), .int (q 26), .ref (a 27), .int (q 28), .int (q 29), .int (q 30), .int (q 31), .int (q 32), .int (q 33), .ref (a 34), .ref (a 35), .ref (a 36), .ref (a 37), .ref (a 38), .ref (a 39), .ref (a 40), .int (q 41), .ref (a 42), .int (q 43), .int (q 44)])), ((a 8), .inl (T 0, 24, .inl f8)), ((a 9), .inl (T 0, 24, .inl f9)), ((a 10), .inl (T 0, 24, .inl f10)), ((a 11), .inl (T 0, 24, .inl f11)), ((a 17), .inl (T 0, 24, .inl (upd (upd e9 (xx.toNatClampNeg) z_10) (xx.toNatClampNeg) z_64))), ((a 18), .inl (T 0, 24, .inl (upd p9 (xx.toNatClampNeg) ((1 + z_90) + z_102)))), ((a 19), .inl (T 0, 24, .inl (upd d9 (xx.toNatClampNeg) 1)))] := hD
                obtain ⟨z_112, ez_112⟩ : ∃ y : Int32, y = xx + 1 := ⟨_, rfl⟩
                refine lv_iinc (v := z_112) (lv' := [(1, .int z_112), (4, .int z_5), (3, .int z_4), (2, .int r_3), (0, .ref h0)]) hx hb dX13_laysParts_206 hl (k := 3) rfl (by rw [ez_112]; rfl) (by decide) rfl (fun ls hl => ?_)
                have hz_1129 : z_112.toInt = xx.toInt + 1 := by rw [ez_112]; exact inc1 (n := 1000) (by omega) (by decide)
                refine lv_goto (tgt := 2) hx hb dX13_laysParts_209 (by decide) ?_
                exact ih (z_112, (upd (upd e9 (xx.toNatClampNeg) z_10) (xx.toNatClampNeg) z_64), (upd p9 (xx.toNatClampNeg) ((1 + z_90) + z_102)), (upd d9 (xx.toNatClampNeg) 1)) ls _ _ ⟨lv_sub hl [0, 4] rfl, hP.sub [0, 1, 2, 3, 4, 5, 6, 7] rfl, hD.sub [0, 1, 2, 3, 4, 5, 6, 7] (by decide) rfl, hS, ⟨(by rw [hz_1129]; omega), (by rw [upd_upd]; exact okE_step (n := 0) hEE (by omega) hz_1129 (by omega) (fun hk9 => by exfalso; omega) (okR.late hokR))⟩⟩ (by (try dsimp only); rw [hz_1129]; omega)
      · rw [fa_eq] at c_7
        try rw [ti_1] at c_7
        refine lv_aload_n hx hb dX13_laysParts_54 rfl (lv_at hl 4 rfl) ?_
        refine va_get (D := D) (ci := 10) (v := .ref (a 17)) (C := RX13) (T := TX13) (N := 45) hx hb hts in_X13_laysParts_X13 hown hE.1 hP 0 rfl rfl 17 (by decide) (hts (.fieldLink RX13 47 "ClauseBookModel" "end" "[I") (List.mem_of_getElem? (i := 5) rfl)) (fun _ h9 => h9) rfl dX13_laysParts_55 ?_
        refine lv_iload_n hx hb dX13_laysParts_58 rfl (lv_at hl 1 rfl) ?_
        refine va_iald hx hb hE.1 hP 5 0 rfl rfl (by rw [vp_in_iff]; first | omega | (subst_vars; omega)) dX13_laysParts_59 ?_
        refine lv_topi (fun z_113 ez_113 => ?_)
        have h6z_113 : z_113.toInt ≤ 6 := by
          rw [ez_113]
          have h9 := tn (x := z_4) (by omega)
          exact (hEE _ (by omega)).1
        have hvz_113 : z_113.toInt = (e9 (z_4.toNatClampNeg)).toInt := by rw [ez_113]
        refine lv_goto (tgt := 79) hx hb dX13_laysParts_60 (by decide) ?_
        refine va_iast hx hb hE.1 hP hD hS 5 0 rfl rfl (by rw [vp_in_iff]; first | omega | (subst_vars; omega)) dX13_laysParts_79 (fun H locs hP hD hS => ?_)
        have hP : va_P D vwCl [(h0, .inr (10, [.int (q 0), .int (q 1), .int (q 2), .int (q 3), .int (q 4), .int (q 5), .int (q 6), .int (q 7), .ref (a 8), .ref (a 9), .ref (a 10), .ref (a 11), .ref (a 12), .ref (a 13), .int (q 14), .long v, .long w, .ref (a 17), .ref (a 18), .ref (a 19), .ref (a 20), .ref (a 21), .ref (a 22), .ref (a 23), .int (q 24), .ref (a 25), .int (q 26), .ref (a 27), .int (q 28), .int (q 29), .int (q 30), .int (q 31), .int (q 32), .int (q 33), .ref (a 34), .ref (a 35), .ref (a 36), .ref (a 37), .ref (a 38), .ref (a 39), .ref (a 40), .int (q 41), .ref (a 42), .int (q 43), .int (q 44)])), ((a 8), .inl (T 0, 24, .inl f8)), ((a 9), .inl (T 0, 24, .inl f9)), ((a 10), .inl (T 0, 24, .inl f10)), ((a 11), .inl (T 0, 24, .inl f11)), ((a 17), .inl (T 0, 24, .inl (upd e9 (xx.toNatClampNeg) z_113))), ((a 18), .inl (T 0, 24, .inl p9)), ((a 19), .inl (T 0, 24, .inl d9))] H := hP
        have hD : va_D A [(h0, .inr (10, [.int (q 0), .int (q 1), .int (q 2), .int (q 3), .int (q 4), .int (q 5), .int (q 6), .int (q 7), .ref (a 8), .ref (a 9), .ref (a 10), .ref (a 11), .ref (a 12), .ref (a 13), .int (q 14), .long v, .long w, .ref (a 17), .ref (a 18), .ref (a 19), .ref (a 20), .ref (a 21), .ref (a 22), .ref (a 23), .int (q 24), .ref (a 25), .int (q 26), .ref (a 27), .int (q 28), .int (q 29), .int (q 30), .int (q 31), .int (q 32), .int (q 33), .ref (a 34), .ref (a 35), .ref (a 36), .ref (a 37), .ref (a 38), .ref (a 39), .ref (a 40), .int (q 41), .ref (a 42), .int (q 43), .int (q 44)])), ((a 8), .inl (T 0, 24, .inl f8)), ((a 9), .inl (T 0, 24, .inl f9)), ((a 10), .inl (T 0, 24, .inl f10)), ((a 11), .inl (T 0, 24, .inl f11)), ((a 17), .inl (T 0, 24, .inl (upd e9 (xx.toNatClampNeg) z_113))), ((a 18), .inl (T 0, 24, .inl p9)), ((a 19), .inl (T 0, 24, .inl d9))] := hD
        refine lv_aload_n hx hb dX13_laysParts_80 rfl (lv_at hl 4 rfl) ?_
        refine va_get (D := D) (ci := 10) (v := .ref (a 17)) (C := RX13) (T := TX13) (N := 45) hx hb hts in_X13_laysParts_X13 hown hE.1 hP 0 rfl rfl 17 (by decide) (hts (.fieldLink RX13 47 "ClauseBookModel" "end" "[I") (List.mem_of_getElem? (i := 5) rfl)) (fun _ h9 => h9) rfl dX13_laysParts_81 ?_
        refine lv_iload_n hx hb dX13_laysParts_84 rfl (lv_at hl 3 rfl) ?_
        refine lv_aload_n hx hb dX13_laysParts_85 rfl (lv_at hl 4 rfl) ?_
        refine va_get (D := D) (ci := 10) (v := .ref (a 8)) (C := RX13) (T := TX13) (N := 45) hx hb hts in_X13_laysParts_X13 hown hE.1 hP 0 rfl rfl 8 (by decide) (hts (.fieldLink RX13 28 "ClauseBookModel" "kind" "[I") (List.mem_of_getElem? (i := 2) rfl)) (fun _ h9 => h9) rfl dX13_laysParts_86 ?_
        refine lv_iload_n hx hb dX13_laysParts_89 rfl (lv_at hl 3 rfl) ?_
        refine va_iald hx hb hE.1 hP 1 0 rfl rfl (by rw [vp_in_iff]; first | omega | (subst_vars; omega)) dX13_laysParts_90 ?_
        refine lv_topi (fun z_114 ez_114 => ?_)
        refine lv_bipush (v := 8) hx hb dX13_laysParts_91 (by decide) ?_
        refine lv_icmp_ne (tgt := 114) hx hb dX13_laysParts_93 (by decide) (fun c_115 => ?_) (fun c_115 => ?_)
        · rw [fa_eq] at c_115
          try rw [ti_8] at c_115
          refine lv_aload_n hx hb dX13_laysParts_114 rfl (lv_at hl 4 rfl) ?_
          refine va_get (D := D) (ci := 10) (v := .ref (a 17)) (C := RX13) (T := TX13) (N := 45) hx hb hts in_X13_laysParts_X13 hown hE.1 hP 0 rfl rfl 17 (by decide) (hts (.fieldLink RX13 47 "ClauseBookModel" "end" "[I") (List.mem_of_getElem? (i := 5) rfl)) (fun _ h9 => h9) rfl dX13_laysParts_115 ?_
          refine lv_iload_n hx hb dX13_laysParts_118 rfl (lv_at hl 3 rfl) ?_
          refine va_iald hx hb hE.1 hP 5 0 rfl rfl (by rw [vp_in_iff]; first | omega | (subst_vars; omega)) dX13_laysParts_119 ?_
          refine lv_topi (fun z_116 ez_116 => ?_)
          refine va_iast hx hb hE.1 hP hD hS 5 0 rfl rfl (by rw [vp_in_iff]; first | omega | (subst_vars; omega)) dX13_laysParts_120 (fun H locs hP hD hS => ?_)
          have hP : va_P D vwCl [(h0, .inr (10, [.int (q 0), .int (q 1), .int (q 2), .int (q 3), .int (q 4), .int (q 5), .int (q 6), .int (q 7), .ref (a 8), .ref (a 9), .ref (a 10), .ref (a 11), .ref (a 12), .ref (a 13), .int (q 14), .long v, .long w, .ref (a 17), .ref (a 18), .ref (a 19), .ref (a 20), .ref (a 21), .ref (a 22), .ref (a 23), .int (q 24), .ref (a 25), .int (q 26), .ref (a 27), .int (q 28), .int (q 29), .int (q 30), .int (q 31), .int (q 32), .int (q 33), .ref (a 34), .ref (a 35), .ref (a 36), .ref (a 37), .ref (a 38), .ref (a 39), .ref (a 40), .int (q 41), .ref (a 42), .int (q 43), .int (q 44)])), ((a 8), .inl (T 0, 24, .inl f8)), ((a 9), .inl (T 0, 24, .inl f9)), ((a 10), .inl (T 0, 24, .inl f10)), ((a 11), .inl (T 0, 24, .inl f11)), ((a 17), .inl (T 0, 24, .inl (upd (upd e9 (xx.toNatClampNeg) z_113) (xx.toNatClampNeg) z_116))), ((a 18), .inl (T 0, 24, .inl p9)), ((a 19), .inl (T 0, 24, .inl d9))] H := hP
          have hD : va_D A [(h0, .inr (10, [.int (q 0), .int (q 1), .int (q 2), .int (q 3), .int (q 4), .int (q 5), .int (q 6), .int (q 7), .ref (a 8), .ref (a 9), .ref (a 10), .ref (a 11), .ref (a 12), .ref (a 13), .int (q 14), .long v, .long w, .ref (a 17), .ref (a 18), .ref (a 19), .ref (a 20), .ref (a 21), .ref (a 22), .ref (a 23), .int (q 24), .ref (a 25), .int (q 26), .ref (a 27), .int (q 28), .int (q 29), .int (q 30), .int (q 31), .int (q 32), .int (q 33), .ref (a 34), .ref (a 35), .ref (a 36), .ref (a 37), .ref (a 38), .ref (a 39), .ref (a 40), .int (q 41), .ref (a 42), .int (q 43), .int (q 44)])), ((a 8), .inl (T 0, 24, .inl f8)), ((a 9), .inl (T 0, 24, .inl f9)), ((a 10), .inl (T 0, 24, .inl f10)), ((a 11), .inl (T 0, 24, .inl f11)), ((a 17), .inl (T 0, 24, .inl (upd (upd e9 (xx.toNatClampNeg) z_113) (xx.toNatClampNeg) z_116))), ((a 18), .inl (T 0, 24, .inl p9)), ((a 19), .inl (T 0, 24, .inl d9))] := hD
          refine lv_aload_n hx hb dX13_laysParts_121 rfl (lv_at hl 4 rfl) ?_
          refine va_get (D := D) (ci := 10) (v := .ref (a 18)) (C := RX13) (T := TX13) (N := 45) hx hb hts in_X13_laysParts_X13 hown hE.1 hP 0 rfl rfl 18 (by decide) (hts (.fieldLink RX13 50 "ClauseBookModel" "parts" "[I") (List.mem_of_getElem? (i := 14) rfl)) (fun _ h9 => h9) rfl dX13_laysParts_122 ?_
          refine lv_iload_n hx hb dX13_laysParts_125 rfl (lv_at hl 3 rfl) ?_
          refine lv_iconst (v := 1) hx hb dX13_laysParts_126 (by decide) ?_
          refine lv_iload_n hx hb dX13_laysParts_127 rfl (lv_at hl 2 rfl) ?_
          refine lv_if_le (tgt := 140) hx hb dX13_laysParts_128 (by decide) (fun c_117 => ?_) (fun c_117 => ?_)
          · rw [fa_le] at c_117
            try rw [ti_0] at c_117
            refine lv_iconst (v := 0) hx hb dX13_laysParts_140 (by decide) ?_
            refine lv_iadd hx hb dX13_laysParts_141 ?_
            refine lv_topi (fun z_118 ez_118 => ?_)
            obtain rfl : z_118 = 1 := ez_118.trans (by decide)
            refine lv_iload_n hx hb dX13_laysParts_142 rfl (lv_at hl 2 rfl) ?_
            refine lv_iconst (v := 1) hx hb dX13_laysParts_143 (by decide) ?_
            refine lv_icmp_le (tgt := 157) hx hb dX13_laysParts_144 (by decide) (fun c_119 => ?_) (fun c_119 => ?_)
            · rw [fa_le] at c_119
              try rw [ti_1] at c_119
              refine lv_iconst (v := 0) hx hb dX13_laysParts_157 (by decide) ?_
              refine lv_iadd hx hb dX13_laysParts_158 ?_
              refine lv_topi (fun z_120 ez_120 => ?_)
              obtain rfl : z_120 = 1 := ez_120.trans (by decide)
              refine va_iast hx hb hE.1 hP hD hS 6 0 rfl rfl (by rw [vp_in_iff]; first | omega | (subst_vars; omega)) dX13_laysParts_159 (fun H locs hP hD hS => ?_)
              have hP : va_P D vwCl [(h0, .inr (10, [.int (q 0), .int (q 1), .int (q 2), .int (q 3), .int (q 4), .int (q 5), .int (q 6), .int (q 7), .ref (a 8), .ref (a 9), .ref (a 10), .ref (a 11), .ref (a 12), .ref (a 13), .int (q 14), .long v, .long w, .ref (a 17), .ref (a 18), .ref (a 19), .ref (a 20), .ref (a 21), .ref (a 22), .ref (a 23), .int (q 24), .ref (a 25), .int (q 26), .ref (a 27), .int (q 28), .int (q 29), .int (q 30), .int (q 31), .int (q 32), .int (q 33), .ref (a 34), .ref (a 35), .ref (a 36), .ref (a 37), .ref (a 38), .ref (a 39), .ref (a 40), .int (q 41), .ref (a 42), .int (q 43), .int (q 44)])), ((a 8), .inl (T 0, 24, .inl f8)), ((a 9), .inl (T 0, 24, .inl f9)), ((a 10), .inl (T 0, 24, .inl f10)), ((a 11), .inl (T 0, 24, .inl f11)), ((a 17), .inl (T 0, 24, .inl (upd (upd e9 (xx.toNatClampNeg) z_113) (xx.toNatClampNeg) z_116))), ((a 18), .inl (T 0, 24, .inl (upd p9 (xx.toNatClampNeg) 1))), ((a 19), .inl (T 0, 24, .inl d9))] H := hP
              have hD : va_D A [(h0, .inr (10, [.int (q 0), .int (q 1), .int (q 2), .int (q 3), .int (q 4), .int (q 5), .int (q 6), .int (q 7), .ref (a 8), .ref (a 9), .ref (a 10), .ref (a 11), .ref (a 12), .ref (a 13), .int (q 14), .long v, .long w, .ref (a 17), .ref (a 18), .ref (a 19), .ref (a 20), .ref (a 21), .ref (a 22), .ref (a 23), .int (q 24), .ref (a 25), .int (q 26), .ref (a 27), .int (q 28), .int (q 29), .int (q 30), .int (q 31), .int (q 32), .int (q 33), .ref (a 34), .ref (a 35), .ref (a 36), .ref (a 37), .ref (a 38), .ref (a 39), .ref (a 40), .int (q 41), .ref (a 42), .int (q 43), .int (q 44)])), ((a 8), .inl (T 0, 24, .inl f8)), ((a 9), .inl (T 0, 24, .inl f9)), ((a 10), .inl (T 0, 24, .inl f10)), ((a 11), .inl (T 0, 24, .inl f11)), ((a 17), .inl (T 0, 24, .inl (upd (upd e9 (xx.toNatClampNeg) z_113) (xx.toNatClampNeg) z_116))), ((a 18), .inl (T 0, 24, .inl (upd p9 (xx.toNatClampNeg) 1))), ((a 19), .inl (T 0, 24, .inl d9))] := hD
              refine lv_aload_n hx hb dX13_laysParts_160 rfl (lv_at hl 4 rfl) ?_
              refine va_get (D := D) (ci := 10) (v := .ref (a 19)) (C := RX13) (T := TX13) (N := 45) hx hb hts in_X13_laysParts_X13 hown hE.1 hP 0 rfl rfl 19 (by decide) (hts (.fieldLink RX13 53 "ClauseBookModel" "deep" "[I") (List.mem_of_getElem? (i := 15) rfl)) (fun _ h9 => h9) rfl dX13_laysParts_161 ?_
              refine lv_iload_n hx hb dX13_laysParts_164 rfl (lv_at hl 3 rfl) ?_
              refine lv_iconst (v := 1) hx hb dX13_laysParts_165 (by decide) ?_
              refine lv_iload_n hx hb dX13_laysParts_166 rfl (lv_at hl 2 rfl) ?_
              refine lv_if_ne (tgt := 174) hx hb dX13_laysParts_167 (by decide) (fun c_121 => ?_) (fun c_121 => ?_)
              · rw [fa_eq] at c_121
                try rw [ti_0] at c_121
                refine lv_iload_n hx hb dX13_laysParts_174 rfl (lv_at hl 2 rfl) ?_
                refine lv_iconst (v := 1) hx hb dX13_laysParts_175 (by decide) ?_
                refine lv_icmp_ne (tgt := 188) hx hb dX13_laysParts_176 (by decide) (fun c_122 => ?_) (fun c_122 => ?_)
                · rw [fa_eq] at c_122
                  try rw [ti_1] at c_122
                  refine lv_aload_n hx hb dX13_laysParts_188 rfl (lv_at hl 4 rfl) ?_
                  refine va_get (D := D) (ci := 10) (v := .ref (a 19)) (C := RX13) (T := TX13) (N := 45) hx hb hts in_X13_laysParts_X13 hown hE.1 hP 0 rfl rfl 19 (by decide) (hts (.fieldLink RX13 53 "ClauseBookModel" "deep" "[I") (List.mem_of_getElem? (i := 15) rfl)) (fun _ h9 => h9) rfl dX13_laysParts_189 ?_
                  refine lv_iload_n hx hb dX13_laysParts_192 rfl (lv_at hl 1 rfl) ?_
                  refine va_iald hx hb hE.1 hP 7 0 rfl rfl (by rw [vp_in_iff]; first | omega | (subst_vars; omega)) dX13_laysParts_193 ?_
                  refine lv_topi (fun z_123 ez_123 => ?_)
                  refine lv_aload_n hx hb dX13_laysParts_194 rfl (lv_at hl 4 rfl) ?_
                  refine va_get (D := D) (ci := 10) (v := .ref (a 19)) (C := RX13) (T := TX13) (N := 45) hx hb hts in_X13_laysParts_X13 hown hE.1 hP 0 rfl rfl 19 (by decide) (hts (.fieldLink RX13 53 "ClauseBookModel" "deep" "[I") (List.mem_of_getElem? (i := 15) rfl)) (fun _ h9 => h9) rfl dX13_laysParts_195 ?_
                  refine lv_iload hx hb dX13_laysParts_198 (lv_at hl 0 rfl) ?_
                  refine va_iald hx hb hE.1 hP 7 0 rfl rfl (by rw [vp_in_iff]; first | omega | (subst_vars; omega)) dX13_laysParts_200 ?_
                  refine lv_topi (fun z_124 ez_124 => ?_)
                  refine va_mmax hx hb (hml.trans hl.1.symm) hown (hts (.methodLink RX13 227 Lib.Math.max.name) (List.mem_of_getElem? (i := 6) rfl)) (hts (.static Lib.Math.max.name) (List.mem_of_getElem? (i := 7) rfl)) (hts (.initialized "java/lang/Math") (List.mem_of_getElem? (i := 8) rfl)) (hts (.code Lib.Math.max.name Lib.Math.max.code 2 (some .int)) (List.mem_of_getElem? (i := 9) rfl)) (Nat.le_of_ble_eq_true rfl) (Nat.le_of_ble_eq_true rfl) (Nat.le_of_ble_eq_true rfl) (Nat.le_of_ble_eq_true rfl) dX13_laysParts_201 ?_
                  refine lv_topi (fun z_125 ez_125 => ?_)
                  refine lv_iadd hx hb dX13_laysParts_204 ?_
                  refine va_iast hx hb hE.1 hP hD hS 7 0 rfl rfl (by rw [vp_in_iff]; first | omega | (subst_vars; omega)) dX13_laysParts_205 (fun H locs hP hD hS => ?_)
                  have hP : va_P D vwCl [(h0, .inr (10, [.int (q 0), .int (q 1), .int (q 2), .int (q 3), .int (q 4), .int (q 5), .int (q 6), .int (q 7), .ref (a 8), .ref (a 9), .ref (a 10), .ref (a 11), .ref (a 12), .ref (a 13), .int (q 14), .long v, .long w, .ref (a 17), .ref (a 18), .ref (a 19), .ref (a 20), .ref (a 21), .ref (a 22), .ref (a 23), .int (q 24), .ref (a 25), .int (q 26), .ref (a 27), .int (q 28), .int (q 29), .int (q 30), .int (q 31), .int (q 32), .int (q 33), .ref (a 34), .ref (a 35), .ref (a 36), .ref (a 37), .ref (a 38), .ref (a 39), .ref (a 40), .int (q 41), .ref (a 42), .int (q 43), .int (q 44)])), ((a 8), .inl (T 0, 24, .inl f8)), ((a 9), .inl (T 0, 24, .inl f9)), ((a 10), .inl (T 0, 24, .inl f10)), ((a 11), .inl (T 0, 24, .inl f11)), ((a 17), .inl (T 0, 24, .inl (upd (upd e9 (xx.toNatClampNeg) z_113) (xx.toNatClampNeg) z_116))), ((a 18), .inl (T 0, 24, .inl (upd p9 (xx.toNatClampNeg) 1))), ((a 19), .inl (T 0, 24, .inl (upd d9 (xx.toNatClampNeg) (1 + z_125))))] H := hP
                  have hD : va_D A [(h0, .inr (10, [.int (q 0), .int (q 1), .int (q 2), .int (q 3), .int (q 4), .int (q 5), .int (q 6), .int (q 7), .ref (a 8), .ref (a 9), .ref (a 10), .ref (a 11), .ref (a 12), .ref (a 13), .int (q 14), .long v, .long w, .ref (a 17), .ref (a 18), .ref (a 19), .ref (a 20), .ref (a 21), .ref (a 22), .ref (a 23), .int (q 24), .ref (a 25), .int (q 26), .ref (a 27), .int (q 28), .int (q 29), .int (q 30), .int (q 31), .int (q 32), .int (q 33), .ref (a 34), .ref (a 35), .ref (a 36), .ref (a 37), .ref (a 38), .ref (a 39), .ref (a 40), .int (q 41), .ref (a 42), .int (q 43), .int (q 44)])), ((a 8), .inl (T 0, 24, .inl f8)), ((a 9), .inl (T 0, 24, .inl f9)), ((a 10), .inl (T 0, 24, .inl f10)), ((a 11), .inl (T 0, 24, .inl f11)), ((a 17), .inl (T 0, 24, .inl (upd (upd e9 (xx.toNatClampNeg) z_113) (xx.toNatClampNeg) z_116))), ((a 18), .inl (T 0, 24, .inl (upd p9 (xx.toNatClampNeg) 1))), ((a 19), .inl (T 0, 24, .inl (upd d9 (xx.toNatClampNeg) (1 + z_125))))] := hD
                  obtain ⟨z_126, ez_126⟩ : ∃ y : Int32, y = xx + 1 := ⟨_, rfl⟩
                  refine lv_iinc (v := z_126) (lv' := [(1, .int z_126), (4, .int z_5), (3, .int z_4), (2, .int r_3), (0, .ref h0)]) hx hb dX13_laysParts_206 hl (k := 3) rfl (by rw [ez_126]; rfl) (by decide) rfl (fun ls hl => ?_)
                  have hz_1269 : z_126.toInt = xx.toInt + 1 := by rw [ez_126]; exact inc1 (n := 1000) (by omega) (by decide)
                  refine lv_goto (tgt := 2) hx hb dX13_laysParts_209 (by decide) ?_
                  exact ih (z_126, (upd (upd e9 (xx.toNatClampNeg) z_113) (xx.toNatClampNeg) z_116), (upd p9 (xx.toNatClampNeg) 1), (upd d9 (xx.toNatClampNeg) (1 + z_125))) ls _ _ ⟨lv_sub hl [0, 4] rfl, hP.sub [0, 1, 2, 3, 4, 5, 6, 7] rfl, hD.sub [0, 1, 2, 3, 4, 5, 6, 7] (by decide) rfl, hS, ⟨(by rw [hz_1269]; omega), (by rw [upd_upd]; exact okE_step (n := 0) hEE (by omega) hz_1269 (by omega) (fun hk9 => by exfalso; omega) (okR.late hokR))⟩⟩ (by (try dsimp only); rw [hz_1269]; omega)
                · rw [fa_eq] at c_122
                  try rw [ti_1] at c_122
                  refine lv_aload_n hx hb dX13_laysParts_179 rfl (lv_at hl 4 rfl) ?_
                  refine va_get (D := D) (ci := 10) (v := .ref (a 19)) (C := RX13) (T := TX13) (N := 45) hx hb hts in_X13_laysParts_X13 hown hE.1 hP 0 rfl rfl 19 (by decide) (hts (.fieldLink RX13 53 "ClauseBookModel" "deep" "[I") (List.mem_of_getElem? (i := 15) rfl)) (fun _ h9 => h9) rfl dX13_laysParts_180 ?_
                  refine lv_iload_n hx hb dX13_laysParts_183 rfl (lv_at hl 1 rfl) ?_
                  refine va_iald hx hb hE.1 hP 7 0 rfl rfl (by rw [vp_in_iff]; first | omega | (subst_vars; omega)) dX13_laysParts_184 ?_
                  refine lv_topi (fun z_127 ez_127 => ?_)
                  refine lv_goto (tgt := 204) hx hb dX13_laysParts_185 (by decide) ?_
                  refine lv_iadd hx hb dX13_laysParts_204 ?_
                  refine va_iast hx hb hE.1 hP hD hS 7 0 rfl rfl (by rw [vp_in_iff]; first | omega | (subst_vars; omega)) dX13_laysParts_205 (fun H locs hP hD hS => ?_)
                  have hP : va_P D vwCl [(h0, .inr (10, [.int (q 0), .int (q 1), .int (q 2), .int (q 3), .int (q 4), .int (q 5), .int (q 6), .int (q 7), .ref (a 8), .ref (a 9), .ref (a 10), .ref (a 11), .ref (a 12), .ref (a 13), .int (q 14), .long v, .long w, .ref (a 17), .ref (a 18), .ref (a 19), .ref (a 20), .ref (a 21), .ref (a 22), .ref (a 23), .int (q 24), .ref (a 25), .int (q 26), .ref (a 27), .int (q 28), .int (q 29), .int (q 30), .int (q 31), .int (q 32), .int (q 33), .ref (a 34), .ref (a 35), .ref (a 36), .ref (a 37), .ref (a 38), .ref (a 39), .ref (a 40), .int (q 41), .ref (a 42), .int (q 43), .int (q 44)])), ((a 8), .inl (T 0, 24, .inl f8)), ((a 9), .inl (T 0, 24, .inl f9)), ((a 10), .inl (T 0, 24, .inl f10)), ((a 11), .inl (T 0, 24, .inl f11)), ((a 17), .inl (T 0, 24, .inl (upd (upd e9 (xx.toNatClampNeg) z_113) (xx.toNatClampNeg) z_116))), ((a 18), .inl (T 0, 24, .inl (upd p9 (xx.toNatClampNeg) 1))), ((a 19), .inl (T 0, 24, .inl (upd d9 (xx.toNatClampNeg) (1 + z_127))))] H := hP
                  have hD : va_D A [(h0, .inr (10, [.int (q 0), .int (q 1), .int (q 2), .int (q 3), .int (q 4), .int (q 5), .int (q 6), .int (q 7), .ref (a 8), .ref (a 9), .ref (a 10), .ref (a 11), .ref (a 12), .ref (a 13), .int (q 14), .long v, .long w, .ref (a 17), .ref (a 18), .ref (a 19), .ref (a 20), .ref (a 21), .ref (a 22), .ref (a 23), .int (q 24), .ref (a 25), .int (q 26), .ref (a 27), .int (q 28), .int (q 29), .int (q 30), .int (q 31), .int (q 32), .int (q 33), .ref (a 34), .ref (a 35), .ref (a 36), .ref (a 37), .ref (a 38), .ref (a 39), .ref (a 40), .int (q 41), .ref (a 42), .int (q 43), .int (q 44)])), ((a 8), .inl (T 0, 24, .inl f8)), ((a 9), .inl (T 0, 24, .inl f9)), ((a 10), .inl (T 0, 24, .inl f10)), ((a 11), .inl (T 0, 24, .inl f11)), ((a 17), .inl (T 0, 24, .inl (upd (upd e9 (xx.toNatClampNeg) z_113) (xx.toNatClampNeg) z_116))), ((a 18), .inl (T 0, 24, .inl (upd p9 (xx.toNatClampNeg) 1))), ((a 19), .inl (T 0, 24, .inl (upd d9 (xx.toNatClampNeg) (1 + z_127))))] := hD
                  obtain ⟨z_128, ez_128⟩ : ∃ y : Int32, y = xx + 1 := ⟨_, rfl⟩
                  refine lv_iinc (v := z_128) (lv' := [(1, .int z_128), (4, .int z_5), (3, .int z_4), (2, .int r_3), (0, .ref h0)]) hx hb dX13_laysParts_206 hl (k := 3) rfl (by rw [ez_128]; rfl) (by decide) rfl (fun ls hl => ?_)
                  have hz_1289 : z_128.toInt = xx.toInt + 1 := by rw [ez_128]; exact inc1 (n := 1000) (by omega) (by decide)
                  refine lv_goto (tgt := 2) hx hb dX13_laysParts_209 (by decide) ?_
                  exact ih (z_128, (upd (upd e9 (xx.toNatClampNeg) z_113) (xx.toNatClampNeg) z_116), (upd p9 (xx.toNatClampNeg) 1), (upd d9 (xx.toNatClampNeg) (1 + z_127))) ls _ _ ⟨lv_sub hl [0, 4] rfl, hP.sub [0, 1, 2, 3, 4, 5, 6, 7] rfl, hD.sub [0, 1, 2, 3, 4, 5, 6, 7] (by decide) rfl, hS, ⟨(by rw [hz_1289]; omega), (by rw [upd_upd]; exact okE_step (n := 0) hEE (by omega) hz_1289 (by omega) (fun hk9 => by exfalso; omega) (okR.late hokR))⟩⟩ (by (try dsimp only); rw [hz_1289]; omega)
              · rw [fa_eq] at c_121
                try rw [ti_0] at c_121
                refine lv_iconst (v := 0) hx hb dX13_laysParts_170 (by decide) ?_
                refine lv_goto (tgt := 204) hx hb dX13_laysParts_171 (by decide) ?_
                refine lv_iadd hx hb dX13_laysParts_204 ?_
                refine lv_topi (fun z_129 ez_129 => ?_)
                obtain rfl : z_129 = 1 := ez_129.trans (by decide)
                refine va_iast hx hb hE.1 hP hD hS 7 0 rfl rfl (by rw [vp_in_iff]; first | omega | (subst_vars; omega)) dX13_laysParts_205 (fun H locs hP hD hS => ?_)
                have hP : va_P D vwCl [(h0, .inr (10, [.int (q 0), .int (q 1), .int (q 2), .int (q 3), .int (q 4), .int (q 5), .int (q 6), .int (q 7), .ref (a 8), .ref (a 9), .ref (a 10), .ref (a 11), .ref (a 12), .ref (a 13), .int (q 14), .long v, .long w, .ref (a 17), .ref (a 18), .ref (a 19), .ref (a 20), .ref (a 21), .ref (a 22), .ref (a 23), .int (q 24), .ref (a 25), .int (q 26), .ref (a 27), .int (q 28), .int (q 29), .int (q 30), .int (q 31), .int (q 32), .int (q 33), .ref (a 34), .ref (a 35), .ref (a 36), .ref (a 37), .ref (a 38), .ref (a 39), .ref (a 40), .int (q 41), .ref (a 42), .int (q 43), .int (q 44)])), ((a 8), .inl (T 0, 24, .inl f8)), ((a 9), .inl (T 0, 24, .inl f9)), ((a 10), .inl (T 0, 24, .inl f10)), ((a 11), .inl (T 0, 24, .inl f11)), ((a 17), .inl (T 0, 24, .inl (upd (upd e9 (xx.toNatClampNeg) z_113) (xx.toNatClampNeg) z_116))), ((a 18), .inl (T 0, 24, .inl (upd p9 (xx.toNatClampNeg) 1))), ((a 19), .inl (T 0, 24, .inl (upd d9 (xx.toNatClampNeg) 1)))] H := hP
                have hD : va_D A [(h0, .inr (10, [.int (q 0), .int (q 1), .int (q 2), .int (q 3), .int (q 4), .int (q 5), .int (q 6), .int (q 7), .ref (a 8), .ref (a 9), .ref (a 10), .ref (a 11), .ref (a 12), .ref (a 13), .int (q 14), .long v, .long w, .ref (a 17), .ref (a 18), .ref (a 19), .ref (a 20), .ref (a 21), .ref (a 22), .ref (a 23), .int (q 24), .ref (a 25), .int (q 26), .ref (a 27), .int (q 28), .int (q 29), .int (q 30), .int (q 31), .int (q 32), .int (q 33), .ref (a 34), .ref (a 35), .ref (a 36), .ref (a 37), .ref (a 38), .ref (a 39), .ref (a 40), .int (q 41), .ref (a 42), .int (q 43), .int (q 44)])), ((a 8), .inl (T 0, 24, .inl f8)), ((a 9), .inl (T 0, 24, .inl f9)), ((a 10), .inl (T 0, 24, .inl f10)), ((a 11), .inl (T 0, 24, .inl f11)), ((a 17), .inl (T 0, 24, .inl (upd (upd e9 (xx.toNatClampNeg) z_113) (xx.toNatClampNeg) z_116))), ((a 18), .inl (T 0, 24, .inl (upd p9 (xx.toNatClampNeg) 1))), ((a 19), .inl (T 0, 24, .inl (upd d9 (xx.toNatClampNeg) 1)))] := hD
                obtain ⟨z_130, ez_130⟩ : ∃ y : Int32, y = xx + 1 := ⟨_, rfl⟩
                refine lv_iinc (v := z_130) (lv' := [(1, .int z_130), (4, .int z_5), (3, .int z_4), (2, .int r_3), (0, .ref h0)]) hx hb dX13_laysParts_206 hl (k := 3) rfl (by rw [ez_130]; rfl) (by decide) rfl (fun ls hl => ?_)
                have hz_1309 : z_130.toInt = xx.toInt + 1 := by rw [ez_130]; exact inc1 (n := 1000) (by omega) (by decide)
                refine lv_goto (tgt := 2) hx hb dX13_laysParts_209 (by decide) ?_
                exact ih (z_130, (upd (upd e9 (xx.toNatClampNeg) z_113) (xx.toNatClampNeg) z_116), (upd p9 (xx.toNatClampNeg) 1), (upd d9 (xx.toNatClampNeg) 1)) ls _ _ ⟨lv_sub hl [0, 4] rfl, hP.sub [0, 1, 2, 3, 4, 5, 6, 7] rfl, hD.sub [0, 1, 2, 3, 4, 5, 6, 7] (by decide) rfl, hS, ⟨(by rw [hz_1309]; omega), (by rw [upd_upd]; exact okE_step (n := 0) hEE (by omega) hz_1309 (by omega) (fun hk9 => by exfalso; omega) (okR.late hokR))⟩⟩ (by (try dsimp only); rw [hz_1309]; omega)
            · rw [fa_le] at c_119
              try rw [ti_1] at c_119
              refine lv_aload_n hx hb dX13_laysParts_147 rfl (lv_at hl 4 rfl) ?_
              refine va_get (D := D) (ci := 10) (v := .ref (a 18)) (C := RX13) (T := TX13) (N := 45) hx hb hts in_X13_laysParts_X13 hown hE.1 hP 0 rfl rfl 18 (by decide) (hts (.fieldLink RX13 50 "ClauseBookModel" "parts" "[I") (List.mem_of_getElem? (i := 14) rfl)) (fun _ h9 => h9) rfl dX13_laysParts_148 ?_
              refine lv_iload hx hb dX13_laysParts_151 (lv_at hl 0 rfl) ?_
              refine va_iald hx hb hE.1 hP 6 0 rfl rfl (by rw [vp_in_iff]; first | omega | (subst_vars; omega)) dX13_laysParts_153 ?_
              refine lv_topi (fun z_131 ez_131 => ?_)
              refine lv_goto (tgt := 158) hx hb dX13_laysParts_154 (by decide) ?_
              refine lv_iadd hx hb dX13_laysParts_158 ?_
              refine va_iast hx hb hE.1 hP hD hS 6 0 rfl rfl (by rw [vp_in_iff]; first | omega | (subst_vars; omega)) dX13_laysParts_159 (fun H locs hP hD hS => ?_)
              have hP : va_P D vwCl [(h0, .inr (10, [.int (q 0), .int (q 1), .int (q 2), .int (q 3), .int (q 4), .int (q 5), .int (q 6), .int (q 7), .ref (a 8), .ref (a 9), .ref (a 10), .ref (a 11), .ref (a 12), .ref (a 13), .int (q 14), .long v, .long w, .ref (a 17), .ref (a 18), .ref (a 19), .ref (a 20), .ref (a 21), .ref (a 22), .ref (a 23), .int (q 24), .ref (a 25), .int (q 26), .ref (a 27), .int (q 28), .int (q 29), .int (q 30), .int (q 31), .int (q 32), .int (q 33), .ref (a 34), .ref (a 35), .ref (a 36), .ref (a 37), .ref (a 38), .ref (a 39), .ref (a 40), .int (q 41), .ref (a 42), .int (q 43), .int (q 44)])), ((a 8), .inl (T 0, 24, .inl f8)), ((a 9), .inl (T 0, 24, .inl f9)), ((a 10), .inl (T 0, 24, .inl f10)), ((a 11), .inl (T 0, 24, .inl f11)), ((a 17), .inl (T 0, 24, .inl (upd (upd e9 (xx.toNatClampNeg) z_113) (xx.toNatClampNeg) z_116))), ((a 18), .inl (T 0, 24, .inl (upd p9 (xx.toNatClampNeg) (1 + z_131)))), ((a 19), .inl (T 0, 24, .inl d9))] H := hP
              have hD : va_D A [(h0, .inr (10, [.int (q 0), .int (q 1), .int (q 2), .int (q 3), .int (q 4), .int (q 5), .int (q 6), .int (q 7), .ref (a 8), .ref (a 9), .ref (a 10), .ref (a 11), .ref (a 12), .ref (a 13), .int (q 14), .long v, .long w, .ref (a 17), .ref (a 18), .ref (a 19), .ref (a 20), .ref (a 21), .ref (a 22), .ref (a 23), .int (q 24), .ref (a 25), .int (q 26), .ref (a 27), .int (q 28), .int (q 29), .int (q 30), .int (q 31), .int (q 32), .int (q 33), .ref (a 34), .ref (a 35), .ref (a 36), .ref (a 37), .ref (a 38), .ref (a 39), .ref (a 40), .int (q 41), .ref (a 42), .int (q 43), .int (q 44)])), ((a 8), .inl (T 0, 24, .inl f8)), ((a 9), .inl (T 0, 24, .inl f9)), ((a 10), .inl (T 0, 24, .inl f10)), ((a 11), .inl (T 0, 24, .inl f11)), ((a 17), .inl (T 0, 24, .inl (upd (upd e9 (xx.toNatClampNeg) z_113) (xx.toNatClampNeg) z_116))), ((a 18), .inl (T 0, 24, .inl (upd p9 (xx.toNatClampNeg) (1 + z_131)))), ((a 19), .inl (T 0, 24, .inl d9))] := hD
              refine lv_aload_n hx hb dX13_laysParts_160 rfl (lv_at hl 4 rfl) ?_
              refine va_get (D := D) (ci := 10) (v := .ref (a 19)) (C := RX13) (T := TX13) (N := 45) hx hb hts in_X13_laysParts_X13 hown hE.1 hP 0 rfl rfl 19 (by decide) (hts (.fieldLink RX13 53 "ClauseBookModel" "deep" "[I") (List.mem_of_getElem? (i := 15) rfl)) (fun _ h9 => h9) rfl dX13_laysParts_161 ?_
              refine lv_iload_n hx hb dX13_laysParts_164 rfl (lv_at hl 3 rfl) ?_
              refine lv_iconst (v := 1) hx hb dX13_laysParts_165 (by decide) ?_
              refine lv_iload_n hx hb dX13_laysParts_166 rfl (lv_at hl 2 rfl) ?_
              refine lv_if_ne (tgt := 174) hx hb dX13_laysParts_167 (by decide) (fun c_132 => ?_) (fun c_132 => ?_)
              · rw [fa_eq] at c_132
                try rw [ti_0] at c_132
                refine lv_iload_n hx hb dX13_laysParts_174 rfl (lv_at hl 2 rfl) ?_
                refine lv_iconst (v := 1) hx hb dX13_laysParts_175 (by decide) ?_
                refine lv_icmp_ne (tgt := 188) hx hb dX13_laysParts_176 (by decide) (fun c_133 => ?_) (fun c_133 => ?_)
                · rw [fa_eq] at c_133
                  try rw [ti_1] at c_133
                  refine lv_aload_n hx hb dX13_laysParts_188 rfl (lv_at hl 4 rfl) ?_
                  refine va_get (D := D) (ci := 10) (v := .ref (a 19)) (C := RX13) (T := TX13) (N := 45) hx hb hts in_X13_laysParts_X13 hown hE.1 hP 0 rfl rfl 19 (by decide) (hts (.fieldLink RX13 53 "ClauseBookModel" "deep" "[I") (List.mem_of_getElem? (i := 15) rfl)) (fun _ h9 => h9) rfl dX13_laysParts_189 ?_
                  refine lv_iload_n hx hb dX13_laysParts_192 rfl (lv_at hl 1 rfl) ?_
                  refine va_iald hx hb hE.1 hP 7 0 rfl rfl (by rw [vp_in_iff]; first | omega | (subst_vars; omega)) dX13_laysParts_193 ?_
                  refine lv_topi (fun z_134 ez_134 => ?_)
                  refine lv_aload_n hx hb dX13_laysParts_194 rfl (lv_at hl 4 rfl) ?_
                  refine va_get (D := D) (ci := 10) (v := .ref (a 19)) (C := RX13) (T := TX13) (N := 45) hx hb hts in_X13_laysParts_X13 hown hE.1 hP 0 rfl rfl 19 (by decide) (hts (.fieldLink RX13 53 "ClauseBookModel" "deep" "[I") (List.mem_of_getElem? (i := 15) rfl)) (fun _ h9 => h9) rfl dX13_laysParts_195 ?_
                  refine lv_iload hx hb dX13_laysParts_198 (lv_at hl 0 rfl) ?_
                  refine va_iald hx hb hE.1 hP 7 0 rfl rfl (by rw [vp_in_iff]; first | omega | (subst_vars; omega)) dX13_laysParts_200 ?_
                  refine lv_topi (fun z_135 ez_135 => ?_)
                  refine va_mmax hx hb (hml.trans hl.1.symm) hown (hts (.methodLink RX13 227 Lib.Math.max.name) (List.mem_of_getElem? (i := 6) rfl)) (hts (.static Lib.Math.max.name) (List.mem_of_getElem? (i := 7) rfl)) (hts (.initialized "java/lang/Math") (List.mem_of_getElem? (i := 8) rfl)) (hts (.code Lib.Math.max.name Lib.Math.max.code 2 (some .int)) (List.mem_of_getElem? (i := 9) rfl)) (Nat.le_of_ble_eq_true rfl) (Nat.le_of_ble_eq_true rfl) (Nat.le_of_ble_eq_true rfl) (Nat.le_of_ble_eq_true rfl) dX13_laysParts_201 ?_
                  refine lv_topi (fun z_136 ez_136 => ?_)
                  refine lv_iadd hx hb dX13_laysParts_204 ?_
                  refine va_iast hx hb hE.1 hP hD hS 7 0 rfl rfl (by rw [vp_in_iff]; first | omega | (subst_vars; omega)) dX13_laysParts_205 (fun H locs hP hD hS => ?_)
                  have hP : va_P D vwCl [(h0, .inr (10, [.int (q 0), .int (q 1), .int (q 2), .int (q 3), .int (q 4), .int (q 5), .int (q 6), .int (q 7), .ref (a 8), .ref (a 9), .ref (a 10), .ref (a 11), .ref (a 12), .ref (a 13), .int (q 14), .long v, .long w, .ref (a 17), .ref (a 18), .ref (a 19), .ref (a 20), .ref (a 21), .ref (a 22), .ref (a 23), .int (q 24), .ref (a 25), .int (q 26), .ref (a 27), .int (q 28), .int (q 29), .int (q 30), .int (q 31), .int (q 32), .int (q 33), .ref (a 34), .ref (a 35), .ref (a 36), .ref (a 37), .ref (a 38), .ref (a 39), .ref (a 40), .int (q 41), .ref (a 42), .int (q 43), .int (q 44)])), ((a 8), .inl (T 0, 24, .inl f8)), ((a 9), .inl (T 0, 24, .inl f9)), ((a 10), .inl (T 0, 24, .inl f10)), ((a 11), .inl (T 0, 24, .inl f11)), ((a 17), .inl (T 0, 24, .inl (upd (upd e9 (xx.toNatClampNeg) z_113) (xx.toNatClampNeg) z_116))), ((a 18), .inl (T 0, 24, .inl (upd p9 (xx.toNatClampNeg) (1 + z_131)))), ((a 19), .inl (T 0, 24, .inl (upd d9 (xx.toNatClampNeg) (1 + z_136))))] H := hP
                  have hD : va_D A [(h0, .inr (10, [.int (q 0), .int (q 1), .int (q 2), .int (q 3), .int (q 4), .int (q 5), .int (q 6), .int (q 7), .ref (a 8), .ref (a 9), .ref (a 10), .ref (a 11), .ref (a 12), .ref (a 13), .int (q 14), .long v, .long w, .ref (a 17), .ref (a 18), .ref (a 19), .ref (a 20), .ref (a 21), .ref (a 22), .ref (a 23), .int (q 24), .ref (a 25), .int (q 26), .ref (a 27), .int (q 28), .int (q 29), .int (q 30), .int (q 31), .int (q 32), .int (q 33), .ref (a 34), .ref (a 35), .ref (a 36), .ref (a 37), .ref (a 38), .ref (a 39), .ref (a 40), .int (q 41), .ref (a 42), .int (q 43), .int (q 44)])), ((a 8), .inl (T 0, 24, .inl f8)), ((a 9), .inl (T 0, 24, .inl f9)), ((a 10), .inl (T 0, 24, .inl f10)), ((a 11), .inl (T 0, 24, .inl f11)), ((a 17), .inl (T 0, 24, .inl (upd (upd e9 (xx.toNatClampNeg) z_113) (xx.toNatClampNeg) z_116))), ((a 18), .inl (T 0, 24, .inl (upd p9 (xx.toNatClampNeg) (1 + z_131)))), ((a 19), .inl (T 0, 24, .inl (upd d9 (xx.toNatClampNeg) (1 + z_136))))] := hD
                  obtain ⟨z_137, ez_137⟩ : ∃ y : Int32, y = xx + 1 := ⟨_, rfl⟩
                  refine lv_iinc (v := z_137) (lv' := [(1, .int z_137), (4, .int z_5), (3, .int z_4), (2, .int r_3), (0, .ref h0)]) hx hb dX13_laysParts_206 hl (k := 3) rfl (by rw [ez_137]; rfl) (by decide) rfl (fun ls hl => ?_)
                  have hz_1379 : z_137.toInt = xx.toInt + 1 := by rw [ez_137]; exact inc1 (n := 1000) (by omega) (by decide)
                  refine lv_goto (tgt := 2) hx hb dX13_laysParts_209 (by decide) ?_
                  exact ih (z_137, (upd (upd e9 (xx.toNatClampNeg) z_113) (xx.toNatClampNeg) z_116), (upd p9 (xx.toNatClampNeg) (1 + z_131)), (upd d9 (xx.toNatClampNeg) (1 + z_136))) ls _ _ ⟨lv_sub hl [0, 4] rfl, hP.sub [0, 1, 2, 3, 4, 5, 6, 7] rfl, hD.sub [0, 1, 2, 3, 4, 5, 6, 7] (by decide) rfl, hS, ⟨(by rw [hz_1379]; omega), (by rw [upd_upd]; exact okE_step (n := 0) hEE (by omega) hz_1379 (by omega) (fun hk9 => by exfalso; omega) (okR.late hokR))⟩⟩ (by (try dsimp only); rw [hz_1379]; omega)
                · rw [fa_eq] at c_133
                  try rw [ti_1] at c_133
                  refine lv_aload_n hx hb dX13_laysParts_179 rfl (lv_at hl 4 rfl) ?_
                  refine va_get (D := D) (ci := 10) (v := .ref (a 19)) (C := RX13) (T := TX13) (N := 45) hx hb hts in_X13_laysParts_X13 hown hE.1 hP 0 rfl rfl 19 (by decide) (hts (.fieldLink RX13 53 "ClauseBookModel" "deep" "[I") (List.mem_of_getElem? (i := 15) rfl)) (fun _ h9 => h9) rfl dX13_laysParts_180 ?_
                  refine lv_iload_n hx hb dX13_laysParts_183 rfl (lv_at hl 1 rfl) ?_
                  refine va_iald hx hb hE.1 hP 7 0 rfl rfl (by rw [vp_in_iff]; first | omega | (subst_vars; omega)) dX13_laysParts_184 ?_
                  refine lv_topi (fun z_138 ez_138 => ?_)
                  refine lv_goto (tgt := 204) hx hb dX13_laysParts_185 (by decide) ?_
                  refine lv_iadd hx hb dX13_laysParts_204 ?_
                  refine va_iast hx hb hE.1 hP hD hS 7 0 rfl rfl (by rw [vp_in_iff]; first | omega | (subst_vars; omega)) dX13_laysParts_205 (fun H locs hP hD hS => ?_)
                  have hP : va_P D vwCl [(h0, .inr (10, [.int (q 0), .int (q 1), .int (q 2), .int (q 3), .int (q 4), .int (q 5), .int (q 6), .int (q 7), .ref (a 8), .ref (a 9), .ref (a 10), .ref (a 11), .ref (a 12), .ref (a 13), .int (q 14), .long v, .long w, .ref (a 17), .ref (a 18), .ref (a 19), .ref (a 20), .ref (a 21), .ref (a 22), .ref (a 23), .int (q 24), .ref (a 25), .int (q 26), .ref (a 27), .int (q 28), .int (q 29), .int (q 30), .int (q 31), .int (q 32), .int (q 33), .ref (a 34), .ref (a 35), .ref (a 36), .ref (a 37), .ref (a 38), .ref (a 39), .ref (a 40), .int (q 41), .ref (a 42), .int (q 43), .int (q 44)])), ((a 8), .inl (T 0, 24, .inl f8)), ((a 9), .inl (T 0, 24, .inl f9)), ((a 10), .inl (T 0, 24, .inl f10)), ((a 11), .inl (T 0, 24, .inl f11)), ((a 17), .inl (T 0, 24, .inl (upd (upd e9 (xx.toNatClampNeg) z_113) (xx.toNatClampNeg) z_116))), ((a 18), .inl (T 0, 24, .inl (upd p9 (xx.toNatClampNeg) (1 + z_131)))), ((a 19), .inl (T 0, 24, .inl (upd d9 (xx.toNatClampNeg) (1 + z_138))))] H := hP
                  have hD : va_D A [(h0, .inr (10, [.int (q 0), .int (q 1), .int (q 2), .int (q 3), .int (q 4), .int (q 5), .int (q 6), .int (q 7), .ref (a 8), .ref (a 9), .ref (a 10), .ref (a 11), .ref (a 12), .ref (a 13), .int (q 14), .long v, .long w, .ref (a 17), .ref (a 18), .ref (a 19), .ref (a 20), .ref (a 21), .ref (a 22), .ref (a 23), .int (q 24), .ref (a 25), .int (q 26), .ref (a 27), .int (q 28), .int (q 29), .int (q 30), .int (q 31), .int (q 32), .int (q 33), .ref (a 34), .ref (a 35), .ref (a 36), .ref (a 37), .ref (a 38), .ref (a 39), .ref (a 40), .int (q 41), .ref (a 42), .int (q 43), .int (q 44)])), ((a 8), .inl (T 0, 24, .inl f8)), ((a 9), .inl (T 0, 24, .inl f9)), ((a 10), .inl (T 0, 24, .inl f10)), ((a 11), .inl (T 0, 24, .inl f11)), ((a 17), .inl (T 0, 24, .inl (upd (upd e9 (xx.toNatClampNeg) z_113) (xx.toNatClampNeg) z_116))), ((a 18), .inl (T 0, 24, .inl (upd p9 (xx.toNatClampNeg) (1 + z_131)))), ((a 19), .inl (T 0, 24, .inl (upd d9 (xx.toNatClampNeg) (1 + z_138))))] := hD
                  obtain ⟨z_139, ez_139⟩ : ∃ y : Int32, y = xx + 1 := ⟨_, rfl⟩
                  refine lv_iinc (v := z_139) (lv' := [(1, .int z_139), (4, .int z_5), (3, .int z_4), (2, .int r_3), (0, .ref h0)]) hx hb dX13_laysParts_206 hl (k := 3) rfl (by rw [ez_139]; rfl) (by decide) rfl (fun ls hl => ?_)
                  have hz_1399 : z_139.toInt = xx.toInt + 1 := by rw [ez_139]; exact inc1 (n := 1000) (by omega) (by decide)
                  refine lv_goto (tgt := 2) hx hb dX13_laysParts_209 (by decide) ?_
                  exact ih (z_139, (upd (upd e9 (xx.toNatClampNeg) z_113) (xx.toNatClampNeg) z_116), (upd p9 (xx.toNatClampNeg) (1 + z_131)), (upd d9 (xx.toNatClampNeg) (1 + z_138))) ls _ _ ⟨lv_sub hl [0, 4] rfl, hP.sub [0, 1, 2, 3, 4, 5, 6, 7] rfl, hD.sub [0, 1, 2, 3, 4, 5, 6, 7] (by decide) rfl, hS, ⟨(by rw [hz_1399]; omega), (by rw [upd_upd]; exact okE_step (n := 0) hEE (by omega) hz_1399 (by omega) (fun hk9 => by exfalso; omega) (okR.late hokR))⟩⟩ (by (try dsimp only); rw [hz_1399]; omega)
              · rw [fa_eq] at c_132
                try rw [ti_0] at c_132
                refine lv_iconst (v := 0) hx hb dX13_laysParts_170 (by decide) ?_
                refine lv_goto (tgt := 204) hx hb dX13_laysParts_171 (by decide) ?_
                refine lv_iadd hx hb dX13_laysParts_204 ?_
                refine lv_topi (fun z_140 ez_140 => ?_)
                obtain rfl : z_140 = 1 := ez_140.trans (by decide)
                refine va_iast hx hb hE.1 hP hD hS 7 0 rfl rfl (by rw [vp_in_iff]; first | omega | (subst_vars; omega)) dX13_laysParts_205 (fun H locs hP hD hS => ?_)
                have hP : va_P D vwCl [(h0, .inr (10, [.int (q 0), .int (q 1), .int (q 2), .int (q 3), .int (q 4), .int (q 5), .int (q 6), .int (q 7), .ref (a 8), .ref (a 9), .ref (a 10), .ref (a 11), .ref (a 12), .ref (a 13), .int (q 14), .long v, .long w, .ref (a 17), .ref (a 18), .ref (a 19), .ref (a 20), .ref (a 21), .ref (a 22), .ref (a 23), .int (q 24), .ref (a 25), .int (q 26), .ref (a 27), .int (q 28), .int (q 29), .int (q 30), .int (q 31), .int (q 32), .int (q 33), .ref (a 34), .ref (a 35), .ref (a 36), .ref (a 37), .ref (a 38), .ref (a 39), .ref (a 40), .int (q 41), .ref (a 42), .int (q 43), .int (q 44)])), ((a 8), .inl (T 0, 24, .inl f8)), ((a 9), .inl (T 0, 24, .inl f9)), ((a 10), .inl (T 0, 24, .inl f10)), ((a 11), .inl (T 0, 24, .inl f11)), ((a 17), .inl (T 0, 24, .inl (upd (upd e9 (xx.toNatClampNeg) z_113) (xx.toNatClampNeg) z_116))), ((a 18), .inl (T 0, 24, .inl (upd p9 (xx.toNatClampNeg) (1 + z_131)))), ((a 19), .inl (T 0, 24, .inl (upd d9 (xx.toNatClampNeg) 1)))] H := hP
                have hD : va_D A [(h0, .inr (10, [.int (q 0), .int (q 1), .int (q 2), .int (q 3), .int (q 4), .int (q 5), .int (q 6), .int (q 7), .ref (a 8), .ref (a 9), .ref (a 10), .ref (a 11), .ref (a 12), .ref (a 13), .int (q 14), .long v, .long w, .ref (a 17), .ref (a 18), .ref (a 19), .ref (a 20), .ref (a 21), .ref (a 22), .ref (a 23), .int (q 24), .ref (a 25), .int (q 26), .ref (a 27), .int (q 28), .int (q 29), .int (q 30), .int (q 31), .int (q 32), .int (q 33), .ref (a 34), .ref (a 35), .ref (a 36), .ref (a 37), .ref (a 38), .ref (a 39), .ref (a 40), .int (q 41), .ref (a 42), .int (q 43), .int (q 44)])), ((a 8), .inl (T 0, 24, .inl f8)), ((a 9), .inl (T 0, 24, .inl f9)), ((a 10), .inl (T 0, 24, .inl f10)), ((a 11), .inl (T 0, 24, .inl f11)), ((a 17), .inl (T 0, 24, .inl (upd (upd e9 (xx.toNatClampNeg) z_113) (xx.toNatClampNeg) z_116))), ((a 18), .inl (T 0, 24, .inl (upd p9 (xx.toNatClampNeg) (1 + z_131)))), ((a 19), .inl (T 0, 24, .inl (upd d9 (xx.toNatClampNeg) 1)))] := hD
                obtain ⟨z_141, ez_141⟩ : ∃ y : Int32, y = xx + 1 := ⟨_, rfl⟩
                refine lv_iinc (v := z_141) (lv' := [(1, .int z_141), (4, .int z_5), (3, .int z_4), (2, .int r_3), (0, .ref h0)]) hx hb dX13_laysParts_206 hl (k := 3) rfl (by rw [ez_141]; rfl) (by decide) rfl (fun ls hl => ?_)
                have hz_1419 : z_141.toInt = xx.toInt + 1 := by rw [ez_141]; exact inc1 (n := 1000) (by omega) (by decide)
                refine lv_goto (tgt := 2) hx hb dX13_laysParts_209 (by decide) ?_
                exact ih (z_141, (upd (upd e9 (xx.toNatClampNeg) z_113) (xx.toNatClampNeg) z_116), (upd p9 (xx.toNatClampNeg) (1 + z_131)), (upd d9 (xx.toNatClampNeg) 1)) ls _ _ ⟨lv_sub hl [0, 4] rfl, hP.sub [0, 1, 2, 3, 4, 5, 6, 7] rfl, hD.sub [0, 1, 2, 3, 4, 5, 6, 7] (by decide) rfl, hS, ⟨(by rw [hz_1419]; omega), (by rw [upd_upd]; exact okE_step (n := 0) hEE (by omega) hz_1419 (by omega) (fun hk9 => by exfalso; omega) (okR.late hokR))⟩⟩ (by (try dsimp only); rw [hz_1419]; omega)
          · rw [fa_le] at c_117
            try rw [ti_0] at c_117
            refine lv_aload_n hx hb dX13_laysParts_131 rfl (lv_at hl 4 rfl) ?_
            refine va_get (D := D) (ci := 10) (v := .ref (a 18)) (C := RX13) (T := TX13) (N := 45) hx hb hts in_X13_laysParts_X13 hown hE.1 hP 0 rfl rfl 18 (by decide) (hts (.fieldLink RX13 50 "ClauseBookModel" "parts" "[I") (List.mem_of_getElem? (i := 14) rfl)) (fun _ h9 => h9) rfl dX13_laysParts_132 ?_
            refine lv_iload_n hx hb dX13_laysParts_135 rfl (lv_at hl 1 rfl) ?_
            refine va_iald hx hb hE.1 hP 6 0 rfl rfl (by rw [vp_in_iff]; first | omega | (subst_vars; omega)) dX13_laysParts_136 ?_
            refine lv_topi (fun z_142 ez_142 => ?_)
            refine lv_goto (tgt := 141) hx hb dX13_laysParts_137 (by decide) ?_
            refine lv_iadd hx hb dX13_laysParts_141 ?_
            refine lv_iload_n hx hb dX13_laysParts_142 rfl (lv_at hl 2 rfl) ?_
            refine lv_iconst (v := 1) hx hb dX13_laysParts_143 (by decide) ?_
            refine lv_icmp_le (tgt := 157) hx hb dX13_laysParts_144 (by decide) (fun c_143 => ?_) (fun c_143 => ?_)
            · rw [fa_le] at c_143
              try rw [ti_1] at c_143
              refine lv_iconst (v := 0) hx hb dX13_laysParts_157 (by decide) ?_
              refine lv_iadd hx hb dX13_laysParts_158 ?_
              refine va_iast hx hb hE.1 hP hD hS 6 0 rfl rfl (by rw [vp_in_iff]; first | omega | (subst_vars; omega)) dX13_laysParts_159 (fun H locs hP hD hS => ?_)
              have hP : va_P D vwCl [(h0, .inr (10, [.int (q 0), .int (q 1), .int (q 2), .int (q 3), .int (q 4), .int (q 5), .int (q 6), .int (q 7), .ref (a 8), .ref (a 9), .ref (a 10), .ref (a 11), .ref (a 12), .ref (a 13), .int (q 14), .long v, .long w, .ref (a 17), .ref (a 18), .ref (a 19), .ref (a 20), .ref (a 21), .ref (a 22), .ref (a 23), .int (q 24), .ref (a 25), .int (q 26), .ref (a 27), .int (q 28), .int (q 29), .int (q 30), .int (q 31), .int (q 32), .int (q 33), .ref (a 34), .ref (a 35), .ref (a 36), .ref (a 37), .ref (a 38), .ref (a 39), .ref (a 40), .int (q 41), .ref (a 42), .int (q 43), .int (q 44)])), ((a 8), .inl (T 0, 24, .inl f8)), ((a 9), .inl (T 0, 24, .inl f9)), ((a 10), .inl (T 0, 24, .inl f10)), ((a 11), .inl (T 0, 24, .inl f11)), ((a 17), .inl (T 0, 24, .inl (upd (upd e9 (xx.toNatClampNeg) z_113) (xx.toNatClampNeg) z_116))), ((a 18), .inl (T 0, 24, .inl (upd p9 (xx.toNatClampNeg) ((1 + z_142) + 0)))), ((a 19), .inl (T 0, 24, .inl d9))] H := hP
              have hD : va_D A [(h0, .inr (10, [.int (q 0), .int (q 1), .int (q 2), .int (q 3), .int (q 4), .int (q 5), .int (q 6), .int (q 7), .ref (a 8), .ref (a 9), .ref (a 10), .ref (a 11), .ref (a 12), .ref (a 13), .int (q 14), .long v, .long w, .ref (a 17), .ref (a 18), .ref (a 19), .ref (a 20), .ref (a 21), .ref (a 22), .ref (a 23), .int (q 24), .ref (a 25), .int (q 26), .ref (a 27), .int (q 28), .int (q 29), .int (q 30), .int (q 31), .int (q 32), .int (q 33), .ref (a 34), .ref (a 35), .ref (a 36), .ref (a 37), .ref (a 38), .ref (a 39), .ref (a 40), .int (q 41), .ref (a 42), .int (q 43), .int (q 44)])), ((a 8), .inl (T 0, 24, .inl f8)), ((a 9), .inl (T 0, 24, .inl f9)), ((a 10), .inl (T 0, 24, .inl f10)), ((a 11), .inl (T 0, 24, .inl f11)), ((a 17), .inl (T 0, 24, .inl (upd (upd e9 (xx.toNatClampNeg) z_113) (xx.toNatClampNeg) z_116))), ((a 18), .inl (T 0, 24, .inl (upd p9 (xx.toNatClampNeg) ((1 + z_142) + 0)))), ((a 19), .inl (T 0, 24, .inl d9))] := hD
              refine lv_aload_n hx hb dX13_laysParts_160 rfl (lv_at hl 4 rfl) ?_
              refine va_get (D := D) (ci := 10) (v := .ref (a 19)) (C := RX13) (T := TX13) (N := 45) hx hb hts in_X13_laysParts_X13 hown hE.1 hP 0 rfl rfl 19 (by decide) (hts (.fieldLink RX13 53 "ClauseBookModel" "deep" "[I") (List.mem_of_getElem? (i := 15) rfl)) (fun _ h9 => h9) rfl dX13_laysParts_161 ?_
              refine lv_iload_n hx hb dX13_laysParts_164 rfl (lv_at hl 3 rfl) ?_
              refine lv_iconst (v := 1) hx hb dX13_laysParts_165 (by decide) ?_
              refine lv_iload_n hx hb dX13_laysParts_166 rfl (lv_at hl 2 rfl) ?_
              refine lv_if_ne (tgt := 174) hx hb dX13_laysParts_167 (by decide) (fun c_144 => ?_) (fun c_144 => ?_)
              · rw [fa_eq] at c_144
                try rw [ti_0] at c_144
                refine lv_iload_n hx hb dX13_laysParts_174 rfl (lv_at hl 2 rfl) ?_
                refine lv_iconst (v := 1) hx hb dX13_laysParts_175 (by decide) ?_
                refine lv_icmp_ne (tgt := 188) hx hb dX13_laysParts_176 (by decide) (fun c_145 => ?_) (fun c_145 => ?_)
                · rw [fa_eq] at c_145
                  try rw [ti_1] at c_145
                  refine lv_aload_n hx hb dX13_laysParts_188 rfl (lv_at hl 4 rfl) ?_
                  refine va_get (D := D) (ci := 10) (v := .ref (a 19)) (C := RX13) (T := TX13) (N := 45) hx hb hts in_X13_laysParts_X13 hown hE.1 hP 0 rfl rfl 19 (by decide) (hts (.fieldLink RX13 53 "ClauseBookModel" "deep" "[I") (List.mem_of_getElem? (i := 15) rfl)) (fun _ h9 => h9) rfl dX13_laysParts_189 ?_
                  refine lv_iload_n hx hb dX13_laysParts_192 rfl (lv_at hl 1 rfl) ?_
                  refine va_iald hx hb hE.1 hP 7 0 rfl rfl (by rw [vp_in_iff]; first | omega | (subst_vars; omega)) dX13_laysParts_193 ?_
                  refine lv_topi (fun z_146 ez_146 => ?_)
                  refine lv_aload_n hx hb dX13_laysParts_194 rfl (lv_at hl 4 rfl) ?_
                  refine va_get (D := D) (ci := 10) (v := .ref (a 19)) (C := RX13) (T := TX13) (N := 45) hx hb hts in_X13_laysParts_X13 hown hE.1 hP 0 rfl rfl 19 (by decide) (hts (.fieldLink RX13 53 "ClauseBookModel" "deep" "[I") (List.mem_of_getElem? (i := 15) rfl)) (fun _ h9 => h9) rfl dX13_laysParts_195 ?_
                  refine lv_iload hx hb dX13_laysParts_198 (lv_at hl 0 rfl) ?_
                  refine va_iald hx hb hE.1 hP 7 0 rfl rfl (by rw [vp_in_iff]; first | omega | (subst_vars; omega)) dX13_laysParts_200 ?_
                  refine lv_topi (fun z_147 ez_147 => ?_)
                  refine va_mmax hx hb (hml.trans hl.1.symm) hown (hts (.methodLink RX13 227 Lib.Math.max.name) (List.mem_of_getElem? (i := 6) rfl)) (hts (.static Lib.Math.max.name) (List.mem_of_getElem? (i := 7) rfl)) (hts (.initialized "java/lang/Math") (List.mem_of_getElem? (i := 8) rfl)) (hts (.code Lib.Math.max.name Lib.Math.max.code 2 (some .int)) (List.mem_of_getElem? (i := 9) rfl)) (Nat.le_of_ble_eq_true rfl) (Nat.le_of_ble_eq_true rfl) (Nat.le_of_ble_eq_true rfl) (Nat.le_of_ble_eq_true rfl) dX13_laysParts_201 ?_
                  refine lv_topi (fun z_148 ez_148 => ?_)
                  refine lv_iadd hx hb dX13_laysParts_204 ?_
                  refine va_iast hx hb hE.1 hP hD hS 7 0 rfl rfl (by rw [vp_in_iff]; first | omega | (subst_vars; omega)) dX13_laysParts_205 (fun H locs hP hD hS => ?_)
                  have hP : va_P D vwCl [(h0, .inr (10, [.int (q 0), .int (q 1), .int (q 2), .int (q 3), .int (q 4), .int (q 5), .int (q 6), .int (q 7), .ref (a 8), .ref (a 9), .ref (a 10), .ref (a 11), .ref (a 12), .ref (a 13), .int (q 14), .long v, .long w, .ref (a 17), .ref (a 18), .ref (a 19), .ref (a 20), .ref (a 21), .ref (a 22), .ref (a 23), .int (q 24), .ref (a 25), .int (q 26), .ref (a 27), .int (q 28), .int (q 29), .int (q 30), .int (q 31), .int (q 32), .int (q 33), .ref (a 34), .ref (a 35), .ref (a 36), .ref (a 37), .ref (a 38), .ref (a 39), .ref (a 40), .int (q 41), .ref (a 42), .int (q 43), .int (q 44)])), ((a 8), .inl (T 0, 24, .inl f8)), ((a 9), .inl (T 0, 24, .inl f9)), ((a 10), .inl (T 0, 24, .inl f10)), ((a 11), .inl (T 0, 24, .inl f11)), ((a 17), .inl (T 0, 24, .inl (upd (upd e9 (xx.toNatClampNeg) z_113) (xx.toNatClampNeg) z_116))), ((a 18), .inl (T 0, 24, .inl (upd p9 (xx.toNatClampNeg) ((1 + z_142) + 0)))), ((a 19), .inl (T 0, 24, .inl (upd d9 (xx.toNatClampNeg) (1 + z_148))))] H := hP
                  have hD : va_D A [(h0, .inr (10, [.int (q 0), .int (q 1), .int (q 2), .int (q 3), .int (q 4), .int (q 5), .int (q 6), .int (q 7), .ref (a 8), .ref (a 9), .ref (a 10), .ref (a 11), .ref (a 12), .ref (a 13), .int (q 14), .long v, .long w, .ref (a 17), .ref (a 18), .ref (a 19), .ref (a 20), .ref (a 21), .ref (a 22), .ref (a 23), .int (q 24), .ref (a 25), .int (q 26), .ref (a 27), .int (q 28), .int (q 29), .int (q 30), .int (q 31), .int (q 32), .int (q 33), .ref (a 34), .ref (a 35), .ref (a 36), .ref (a 37), .ref (a 38), .ref (a 39), .ref (a 40), .int (q 41), .ref (a 42), .int (q 43), .int (q 44)])), ((a 8), .inl (T 0, 24, .inl f8)), ((a 9), .inl (T 0, 24, .inl f9)), ((a 10), .inl (T 0, 24, .inl f10)), ((a 11), .inl (T 0, 24, .inl f11)), ((a 17), .inl (T 0, 24, .inl (upd (upd e9 (xx.toNatClampNeg) z_113) (xx.toNatClampNeg) z_116))), ((a 18), .inl (T 0, 24, .inl (upd p9 (xx.toNatClampNeg) ((1 + z_142) + 0)))), ((a 19), .inl (T 0, 24, .inl (upd d9 (xx.toNatClampNeg) (1 + z_148))))] := hD
                  obtain ⟨z_149, ez_149⟩ : ∃ y : Int32, y = xx + 1 := ⟨_, rfl⟩
                  refine lv_iinc (v := z_149) (lv' := [(1, .int z_149), (4, .int z_5), (3, .int z_4), (2, .int r_3), (0, .ref h0)]) hx hb dX13_laysParts_206 hl (k := 3) rfl (by rw [ez_149]; rfl) (by decide) rfl (fun ls hl => ?_)
                  have hz_1499 : z_149.toInt = xx.toInt + 1 := by rw [ez_149]; exact inc1 (n := 1000) (by omega) (by decide)
                  refine lv_goto (tgt := 2) hx hb dX13_laysParts_209 (by decide) ?_
                  exact ih (z_149, (upd (upd e9 (xx.toNatClampNeg) z_113) (xx.toNatClampNeg) z_116), (upd p9 (xx.toNatClampNeg) ((1 + z_142) + 0)), (upd d9 (xx.toNatClampNeg) (1 + z_148))) ls _ _ ⟨lv_sub hl [0, 4] rfl, hP.sub [0, 1, 2, 3, 4, 5, 6, 7] rfl, hD.sub [0, 1, 2, 3, 4, 5, 6, 7] (by decide) rfl, hS, ⟨(by rw [hz_1499]; omega), (by rw [upd_upd]; exact okE_step (n := 0) hEE (by omega) hz_1499 (by omega) (fun hk9 => by exfalso; omega) (okR.late hokR))⟩⟩ (by (try dsimp only); rw [hz_1499]; omega)
                · rw [fa_eq] at c_145
                  try rw [ti_1] at c_145
                  refine lv_aload_n hx hb dX13_laysParts_179 rfl (lv_at hl 4 rfl) ?_
                  refine va_get (D := D) (ci := 10) (v := .ref (a 19)) (C := RX13) (T := TX13) (N := 45) hx hb hts in_X13_laysParts_X13 hown hE.1 hP 0 rfl rfl 19 (by decide) (hts (.fieldLink RX13 53 "ClauseBookModel" "deep" "[I") (List.mem_of_getElem? (i := 15) rfl)) (fun _ h9 => h9) rfl dX13_laysParts_180 ?_
                  refine lv_iload_n hx hb dX13_laysParts_183 rfl (lv_at hl 1 rfl) ?_
                  refine va_iald hx hb hE.1 hP 7 0 rfl rfl (by rw [vp_in_iff]; first | omega | (subst_vars; omega)) dX13_laysParts_184 ?_
                  refine lv_topi (fun z_150 ez_150 => ?_)
                  refine lv_goto (tgt := 204) hx hb dX13_laysParts_185 (by decide) ?_
                  refine lv_iadd hx hb dX13_laysParts_204 ?_
                  refine va_iast hx hb hE.1 hP hD hS 7 0 rfl rfl (by rw [vp_in_iff]; first | omega | (subst_vars; omega)) dX13_laysParts_205 (fun H locs hP hD hS => ?_)
                  have hP : va_P D vwCl [(h0, .inr (10, [.int (q 0), .int (q 1), .int (q 2), .int (q 3), .int (q 4), .int (q 5), .int (q 6), .int (q 7), .ref (a 8), .ref (a 9), .ref (a 10), .ref (a 11), .ref (a 12), .ref (a 13), .int (q 14), .long v, .long w, .ref (a 17), .ref (a 18), .ref (a 19), .ref (a 20), .ref (a 21), .ref (a 22), .ref (a 23), .int (q 24), .ref (a 25), .int (q 26), .ref (a 27), .int (q 28), .int (q 29), .int (q 30), .int (q 31), .int (q 32), .int (q 33), .ref (a 34), .ref (a 35), .ref (a 36), .ref (a 37), .ref (a 38), .ref (a 39), .ref (a 40), .int (q 41), .ref (a 42), .int (q 43), .int (q 44)])), ((a 8), .inl (T 0, 24, .inl f8)), ((a 9), .inl (T 0, 24, .inl f9)), ((a 10), .inl (T 0, 24, .inl f10)), ((a 11), .inl (T 0, 24, .inl f11)), ((a 17), .inl (T 0, 24, .inl (upd (upd e9 (xx.toNatClampNeg) z_113) (xx.toNatClampNeg) z_116))), ((a 18), .inl (T 0, 24, .inl (upd p9 (xx.toNatClampNeg) ((1 + z_142) + 0)))), ((a 19), .inl (T 0, 24, .inl (upd d9 (xx.toNatClampNeg) (1 + z_150))))] H := hP
                  have hD : va_D A [(h0, .inr (10, [.int (q 0), .int (q 1), .int (q 2), .int (q 3), .int (q 4), .int (q 5), .int (q 6), .int (q 7), .ref (a 8), .ref (a 9), .ref (a 10), .ref (a 11), .ref (a 12), .ref (a 13), .int (q 14), .long v, .long w, .ref (a 17), .ref (a 18), .ref (a 19), .ref (a 20), .ref (a 21), .ref (a 22), .ref (a 23), .int (q 24), .ref (a 25), .int (q 26), .ref (a 27), .int (q 28), .int (q 29), .int (q 30), .int (q 31), .int (q 32), .int (q 33), .ref (a 34), .ref (a 35), .ref (a 36), .ref (a 37), .ref (a 38), .ref (a 39), .ref (a 40), .int (q 41), .ref (a 42), .int (q 43), .int (q 44)])), ((a 8), .inl (T 0, 24, .inl f8)), ((a 9), .inl (T 0, 24, .inl f9)), ((a 10), .inl (T 0, 24, .inl f10)), ((a 11), .inl (T 0, 24, .inl f11)), ((a 17), .inl (T 0, 24, .inl (upd (upd e9 (xx.toNatClampNeg) z_113) (xx.toNatClampNeg) z_116))), ((a 18), .inl (T 0, 24, .inl (upd p9 (xx.toNatClampNeg) ((1 + z_142) + 0)))), ((a 19), .inl (T 0, 24, .inl (upd d9 (xx.toNatClampNeg) (1 + z_150))))] := hD
                  obtain ⟨z_151, ez_151⟩ : ∃ y : Int32, y = xx + 1 := ⟨_, rfl⟩
                  refine lv_iinc (v := z_151) (lv' := [(1, .int z_151), (4, .int z_5), (3, .int z_4), (2, .int r_3), (0, .ref h0)]) hx hb dX13_laysParts_206 hl (k := 3) rfl (by rw [ez_151]; rfl) (by decide) rfl (fun ls hl => ?_)
                  have hz_1519 : z_151.toInt = xx.toInt + 1 := by rw [ez_151]; exact inc1 (n := 1000) (by omega) (by decide)
                  refine lv_goto (tgt := 2) hx hb dX13_laysParts_209 (by decide) ?_
                  exact ih (z_151, (upd (upd e9 (xx.toNatClampNeg) z_113) (xx.toNatClampNeg) z_116), (upd p9 (xx.toNatClampNeg) ((1 + z_142) + 0)), (upd d9 (xx.toNatClampNeg) (1 + z_150))) ls _ _ ⟨lv_sub hl [0, 4] rfl, hP.sub [0, 1, 2, 3, 4, 5, 6, 7] rfl, hD.sub [0, 1, 2, 3, 4, 5, 6, 7] (by decide) rfl, hS, ⟨(by rw [hz_1519]; omega), (by rw [upd_upd]; exact okE_step (n := 0) hEE (by omega) hz_1519 (by omega) (fun hk9 => by exfalso; omega) (okR.late hokR))⟩⟩ (by (try dsimp only); rw [hz_1519]; omega)
              · rw [fa_eq] at c_144
                try rw [ti_0] at c_144
                refine lv_iconst (v := 0) hx hb dX13_laysParts_170 (by decide) ?_
                refine lv_goto (tgt := 204) hx hb dX13_laysParts_171 (by decide) ?_
                refine lv_iadd hx hb dX13_laysParts_204 ?_
                refine lv_topi (fun z_152 ez_152 => ?_)
                obtain rfl : z_152 = 1 := ez_152.trans (by decide)
                refine va_iast hx hb hE.1 hP hD hS 7 0 rfl rfl (by rw [vp_in_iff]; first | omega | (subst_vars; omega)) dX13_laysParts_205 (fun H locs hP hD hS => ?_)
                have hP : va_P D vwCl [(h0, .inr (10, [.int (q 0), .int (q 1), .int (q 2), .int (q 3), .int (q 4), .int (q 5), .int (q 6), .int (q 7), .ref (a 8), .ref (a 9), .ref (a 10), .ref (a 11), .ref (a 12), .ref (a 13), .int (q 14), .long v, .long w, .ref (a 17), .ref (a 18), .ref (a 19), .ref (a 20), .ref (a 21), .ref (a 22), .ref (a 23), .int (q 24), .ref (a 25), .int (q 26), .ref (a 27), .int (q 28), .int (q 29), .int (q 30), .int (q 31), .int (q 32), .int (q 33), .ref (a 34), .ref (a 35), .ref (a 36), .ref (a 37), .ref (a 38), .ref (a 39), .ref (a 40), .int (q 41), .ref (a 42), .int (q 43), .int (q 44)])), ((a 8), .inl (T 0, 24, .inl f8)), ((a 9), .inl (T 0, 24, .inl f9)), ((a 10), .inl (T 0, 24, .inl f10)), ((a 11), .inl (T 0, 24, .inl f11)), ((a 17), .inl (T 0, 24, .inl (upd (upd e9 (xx.toNatClampNeg) z_113) (xx.toNatClampNeg) z_116))), ((a 18), .inl (T 0, 24, .inl (upd p9 (xx.toNatClampNeg) ((1 + z_142) + 0)))), ((a 19), .inl (T 0, 24, .inl (upd d9 (xx.toNatClampNeg) 1)))] H := hP
                have hD : va_D A [(h0, .inr (10, [.int (q 0), .int (q 1), .int (q 2), .int (q 3), .int (q 4), .int (q 5), .int (q 6), .int (q 7), .ref (a 8), .ref (a 9), .ref (a 10), .ref (a 11), .ref (a 12), .ref (a 13), .int (q 14), .long v, .long w, .ref (a 17), .ref (a 18), .ref (a 19), .ref (a 20), .ref (a 21), .ref (a 22), .ref (a 23), .int (q 24), .ref (a 25), .int (q 26), .ref (a 27), .int (q 28), .int (q 29), .int (q 30), .int (q 31), .int (q 32), .int (q 33), .ref (a 34), .ref (a 35), .ref (a 36), .ref (a 37), .ref (a 38), .ref (a 39), .ref (a 40), .int (q 41), .ref (a 42), .int (q 43), .int (q 44)])), ((a 8), .inl (T 0, 24, .inl f8)), ((a 9), .inl (T 0, 24, .inl f9)), ((a 10), .inl (T 0, 24, .inl f10)), ((a 11), .inl (T 0, 24, .inl f11)), ((a 17), .inl (T 0, 24, .inl (upd (upd e9 (xx.toNatClampNeg) z_113) (xx.toNatClampNeg) z_116))), ((a 18), .inl (T 0, 24, .inl (upd p9 (xx.toNatClampNeg) ((1 + z_142) + 0)))), ((a 19), .inl (T 0, 24, .inl (upd d9 (xx.toNatClampNeg) 1)))] := hD
                obtain ⟨z_153, ez_153⟩ : ∃ y : Int32, y = xx + 1 := ⟨_, rfl⟩
                refine lv_iinc (v := z_153) (lv' := [(1, .int z_153), (4, .int z_5), (3, .int z_4), (2, .int r_3), (0, .ref h0)]) hx hb dX13_laysParts_206 hl (k := 3) rfl (by rw [ez_153]; rfl) (by decide) rfl (fun ls hl => ?_)
                have hz_1539 : z_153.toInt = xx.toInt + 1 := by rw [ez_153]; exact inc1 (n := 1000) (by omega) (by decide)
                refine lv_goto (tgt := 2) hx hb dX13_laysParts_209 (by decide) ?_
                exact ih (z_153, (upd (upd e9 (xx.toNatClampNeg) z_113) (xx.toNatClampNeg) z_116), (upd p9 (xx.toNatClampNeg) ((1 + z_142) + 0)), (upd d9 (xx.toNatClampNeg) 1)) ls _ _ ⟨lv_sub hl [0, 4] rfl, hP.sub [0, 1, 2, 3, 4, 5, 6, 7] rfl, hD.sub [0, 1, 2, 3, 4, 5, 6, 7] (by decide) rfl, hS, ⟨(by rw [hz_1539]; omega), (by rw [upd_upd]; exact okE_step (n := 0) hEE (by omega) hz_1539 (by omega) (fun hk9 => by exfalso; omega) (okR.late hokR))⟩⟩ (by (try dsimp only); rw [hz_1539]; omega)
            · rw [fa_le] at c_143
              try rw [ti_1] at c_143
              refine lv_aload_n hx hb dX13_laysParts_147 rfl (lv_at hl 4 rfl) ?_
              refine va_get (D := D) (ci := 10) (v := .ref (a 18)) (C := RX13) (T := TX13) (N := 45) hx hb hts in_X13_laysParts_X13 hown hE.1 hP 0 rfl rfl 18 (by decide) (hts (.fieldLink RX13 50 "ClauseBookModel" "parts" "[I") (List.mem_of_getElem? (i := 14) rfl)) (fun _ h9 => h9) rfl dX13_laysParts_148 ?_
              refine lv_iload hx hb dX13_laysParts_151 (lv_at hl 0 rfl) ?_
              refine va_iald hx hb hE.1 hP 6 0 rfl rfl (by rw [vp_in_iff]; first | omega | (subst_vars; omega)) dX13_laysParts_153 ?_
              refine lv_topi (fun z_154 ez_154 => ?_)
              refine lv_goto (tgt := 158) hx hb dX13_laysParts_154 (by decide) ?_
              refine lv_iadd hx hb dX13_laysParts_158 ?_
              refine va_iast hx hb hE.1 hP hD hS 6 0 rfl rfl (by rw [vp_in_iff]; first | omega | (subst_vars; omega)) dX13_laysParts_159 (fun H locs hP hD hS => ?_)
              have hP : va_P D vwCl [(h0, .inr (10, [.int (q 0), .int (q 1), .int (q 2), .int (q 3), .int (q 4), .int (q 5), .int (q 6), .int (q 7), .ref (a 8), .ref (a 9), .ref (a 10), .ref (a 11), .ref (a 12), .ref (a 13), .int (q 14), .long v, .long w, .ref (a 17), .ref (a 18), .ref (a 19), .ref (a 20), .ref (a 21), .ref (a 22), .ref (a 23), .int (q 24), .ref (a 25), .int (q 26), .ref (a 27), .int (q 28), .int (q 29), .int (q 30), .int (q 31), .int (q 32), .int (q 33), .ref (a 34), .ref (a 35), .ref (a 36), .ref (a 37), .ref (a 38), .ref (a 39), .ref (a 40), .int (q 41), .ref (a 42), .int (q 43), .int (q 44)])), ((a 8), .inl (T 0, 24, .inl f8)), ((a 9), .inl (T 0, 24, .inl f9)), ((a 10), .inl (T 0, 24, .inl f10)), ((a 11), .inl (T 0, 24, .inl f11)), ((a 17), .inl (T 0, 24, .inl (upd (upd e9 (xx.toNatClampNeg) z_113) (xx.toNatClampNeg) z_116))), ((a 18), .inl (T 0, 24, .inl (upd p9 (xx.toNatClampNeg) ((1 + z_142) + z_154)))), ((a 19), .inl (T 0, 24, .inl d9))] H := hP
              have hD : va_D A [(h0, .inr (10, [.int (q 0), .int (q 1), .int (q 2), .int (q 3), .int (q 4), .int (q 5), .int (q 6), .int (q 7), .ref (a 8), .ref (a 9), .ref (a 10), .ref (a 11), .ref (a 12), .ref (a 13), .int (q 14), .long v, .long w, .ref (a 17), .ref (a 18), .ref (a 19), .ref (a 20), .ref (a 21), .ref (a 22), .ref (a 23), .int (q 24), .ref (a 25), .int (q 26), .ref (a 27), .int (q 28), .int (q 29), .int (q 30), .int (q 31), .int (q 32), .int (q 33), .ref (a 34), .ref (a 35), .ref (a 36), .ref (a 37), .ref (a 38), .ref (a 39), .ref (a 40), .int (q 41), .ref (a 42), .int (q 43), .int (q 44)])), ((a 8), .inl (T 0, 24, .inl f8)), ((a 9), .inl (T 0, 24, .inl f9)), ((a 10), .inl (T 0, 24, .inl f10)), ((a 11), .inl (T 0, 24, .inl f11)), ((a 17), .inl (T 0, 24, .inl (upd (upd e9 (xx.toNatClampNeg) z_113) (xx.toNatClampNeg) z_116))), ((a 18), .inl (T 0, 24, .inl (upd p9 (xx.toNatClampNeg) ((1 + z_142) + z_154)))), ((a 19), .inl (T 0, 24, .inl d9))] := hD
              refine lv_aload_n hx hb dX13_laysParts_160 rfl (lv_at hl 4 rfl) ?_
              refine va_get (D := D) (ci := 10) (v := .ref (a 19)) (C := RX13) (T := TX13) (N := 45) hx hb hts in_X13_laysParts_X13 hown hE.1 hP 0 rfl rfl 19 (by decide) (hts (.fieldLink RX13 53 "ClauseBookModel" "deep" "[I") (List.mem_of_getElem? (i := 15) rfl)) (fun _ h9 => h9) rfl dX13_laysParts_161 ?_
              refine lv_iload_n hx hb dX13_laysParts_164 rfl (lv_at hl 3 rfl) ?_
              refine lv_iconst (v := 1) hx hb dX13_laysParts_165 (by decide) ?_
              refine lv_iload_n hx hb dX13_laysParts_166 rfl (lv_at hl 2 rfl) ?_
              refine lv_if_ne (tgt := 174) hx hb dX13_laysParts_167 (by decide) (fun c_155 => ?_) (fun c_155 => ?_)
              · rw [fa_eq] at c_155
                try rw [ti_0] at c_155
                refine lv_iload_n hx hb dX13_laysParts_174 rfl (lv_at hl 2 rfl) ?_
                refine lv_iconst (v := 1) hx hb dX13_laysParts_175 (by decide) ?_
                refine lv_icmp_ne (tgt := 188) hx hb dX13_laysParts_176 (by decide) (fun c_156 => ?_) (fun c_156 => ?_)
                · rw [fa_eq] at c_156
                  try rw [ti_1] at c_156
                  refine lv_aload_n hx hb dX13_laysParts_188 rfl (lv_at hl 4 rfl) ?_
                  refine va_get (D := D) (ci := 10) (v := .ref (a 19)) (C := RX13) (T := TX13) (N := 45) hx hb hts in_X13_laysParts_X13 hown hE.1 hP 0 rfl rfl 19 (by decide) (hts (.fieldLink RX13 53 "ClauseBookModel" "deep" "[I") (List.mem_of_getElem? (i := 15) rfl)) (fun _ h9 => h9) rfl dX13_laysParts_189 ?_
                  refine lv_iload_n hx hb dX13_laysParts_192 rfl (lv_at hl 1 rfl) ?_
                  refine va_iald hx hb hE.1 hP 7 0 rfl rfl (by rw [vp_in_iff]; first | omega | (subst_vars; omega)) dX13_laysParts_193 ?_
                  refine lv_topi (fun z_157 ez_157 => ?_)
                  refine lv_aload_n hx hb dX13_laysParts_194 rfl (lv_at hl 4 rfl) ?_
                  refine va_get (D := D) (ci := 10) (v := .ref (a 19)) (C := RX13) (T := TX13) (N := 45) hx hb hts in_X13_laysParts_X13 hown hE.1 hP 0 rfl rfl 19 (by decide) (hts (.fieldLink RX13 53 "ClauseBookModel" "deep" "[I") (List.mem_of_getElem? (i := 15) rfl)) (fun _ h9 => h9) rfl dX13_laysParts_195 ?_
                  refine lv_iload hx hb dX13_laysParts_198 (lv_at hl 0 rfl) ?_
                  refine va_iald hx hb hE.1 hP 7 0 rfl rfl (by rw [vp_in_iff]; first | omega | (subst_vars; omega)) dX13_laysParts_200 ?_
                  refine lv_topi (fun z_158 ez_158 => ?_)
                  refine va_mmax hx hb (hml.trans hl.1.symm) hown (hts (.methodLink RX13 227 Lib.Math.max.name) (List.mem_of_getElem? (i := 6) rfl)) (hts (.static Lib.Math.max.name) (List.mem_of_getElem? (i := 7) rfl)) (hts (.initialized "java/lang/Math") (List.mem_of_getElem? (i := 8) rfl)) (hts (.code Lib.Math.max.name Lib.Math.max.code 2 (some .int)) (List.mem_of_getElem? (i := 9) rfl)) (Nat.le_of_ble_eq_true rfl) (Nat.le_of_ble_eq_true rfl) (Nat.le_of_ble_eq_true rfl) (Nat.le_of_ble_eq_true rfl) dX13_laysParts_201 ?_
                  refine lv_topi (fun z_159 ez_159 => ?_)
                  refine lv_iadd hx hb dX13_laysParts_204 ?_
                  refine va_iast hx hb hE.1 hP hD hS 7 0 rfl rfl (by rw [vp_in_iff]; first | omega | (subst_vars; omega)) dX13_laysParts_205 (fun H locs hP hD hS => ?_)
                  have hP : va_P D vwCl [(h0, .inr (10, [.int (q 0), .int (q 1), .int (q 2), .int (q 3), .int (q 4), .int (q 5), .int (q 6), .int (q 7), .ref (a 8), .ref (a 9), .ref (a 10), .ref (a 11), .ref (a 12), .ref (a 13), .int (q 14), .long v, .long w, .ref (a 17), .ref (a 18), .ref (a 19), .ref (a 20), .ref (a 21), .ref (a 22), .ref (a 23), .int (q 24), .ref (a 25), .int (q 26), .ref (a 27), .int (q 28), .int (q 29), .int (q 30), .int (q 31), .int (q 32), .int (q 33), .ref (a 34), .ref (a 35), .ref (a 36), .ref (a 37), .ref (a 38), .ref (a 39), .ref (a 40), .int (q 41), .ref (a 42), .int (q 43), .int (q 44)])), ((a 8), .inl (T 0, 24, .inl f8)), ((a 9), .inl (T 0, 24, .inl f9)), ((a 10), .inl (T 0, 24, .inl f10)), ((a 11), .inl (T 0, 24, .inl f11)), ((a 17), .inl (T 0, 24, .inl (upd (upd e9 (xx.toNatClampNeg) z_113) (xx.toNatClampNeg) z_116))), ((a 18), .inl (T 0, 24, .inl (upd p9 (xx.toNatClampNeg) ((1 + z_142) + z_154)))), ((a 19), .inl (T 0, 24, .inl (upd d9 (xx.toNatClampNeg) (1 + z_159))))] H := hP
                  have hD : va_D A [(h0, .inr (10, [.int (q 0), .int (q 1), .int (q 2), .int (q 3), .int (q 4), .int (q 5), .int (q 6), .int (q 7), .ref (a 8), .ref (a 9), .ref (a 10), .ref (a 11), .ref (a 12), .ref (a 13), .int (q 14), .long v, .long w, .ref (a 17), .ref (a 18), .ref (a 19), .ref (a 20), .ref (a 21), .ref (a 22), .ref (a 23), .int (q 24), .ref (a 25), .int (q 26), .ref (a 27), .int (q 28), .int (q 29), .int (q 30), .int (q 31), .int (q 32), .int (q 33), .ref (a 34), .ref (a 35), .ref (a 36), .ref (a 37), .ref (a 38), .ref (a 39), .ref (a 40), .int (q 41), .ref (a 42), .int (q 43), .int (q 44)])), ((a 8), .inl (T 0, 24, .inl f8)), ((a 9), .inl (T 0, 24, .inl f9)), ((a 10), .inl (T 0, 24, .inl f10)), ((a 11), .inl (T 0, 24, .inl f11)), ((a 17), .inl (T 0, 24, .inl (upd (upd e9 (xx.toNatClampNeg) z_113) (xx.toNatClampNeg) z_116))), ((a 18), .inl (T 0, 24, .inl (upd p9 (xx.toNatClampNeg) ((1 + z_142) + z_154)))), ((a 19), .inl (T 0, 24, .inl (upd d9 (xx.toNatClampNeg) (1 + z_159))))] := hD
                  obtain ⟨z_160, ez_160⟩ : ∃ y : Int32, y = xx + 1 := ⟨_, rfl⟩
                  refine lv_iinc (v := z_160) (lv' := [(1, .int z_160), (4, .int z_5), (3, .int z_4), (2, .int r_3), (0, .ref h0)]) hx hb dX13_laysParts_206 hl (k := 3) rfl (by rw [ez_160]; rfl) (by decide) rfl (fun ls hl => ?_)
                  have hz_1609 : z_160.toInt = xx.toInt + 1 := by rw [ez_160]; exact inc1 (n := 1000) (by omega) (by decide)
                  refine lv_goto (tgt := 2) hx hb dX13_laysParts_209 (by decide) ?_
                  exact ih (z_160, (upd (upd e9 (xx.toNatClampNeg) z_113) (xx.toNatClampNeg) z_116), (upd p9 (xx.toNatClampNeg) ((1 + z_142) + z_154)), (upd d9 (xx.toNatClampNeg) (1 + z_159))) ls _ _ ⟨lv_sub hl [0, 4] rfl, hP.sub [0, 1, 2, 3, 4, 5, 6, 7] rfl, hD.sub [0, 1, 2, 3, 4, 5, 6, 7] (by decide) rfl, hS, ⟨(by rw [hz_1609]; omega), (by rw [upd_upd]; exact okE_step (n := 0) hEE (by omega) hz_1609 (by omega) (fun hk9 => by exfalso; omega) (okR.late hokR))⟩⟩ (by (try dsimp only); rw [hz_1609]; omega)
                · rw [fa_eq] at c_156
                  try rw [ti_1] at c_156
                  refine lv_aload_n hx hb dX13_laysParts_179 rfl (lv_at hl 4 rfl) ?_
                  refine va_get (D := D) (ci := 10) (v := .ref (a 19)) (C := RX13) (T := TX13) (N := 45) hx hb hts in_X13_laysParts_X13 hown hE.1 hP 0 rfl rfl 19 (by decide) (hts (.fieldLink RX13 53 "ClauseBookModel" "deep" "[I") (List.mem_of_getElem? (i := 15) rfl)) (fun _ h9 => h9) rfl dX13_laysParts_180 ?_
                  refine lv_iload_n hx hb dX13_laysParts_183 rfl (lv_at hl 1 rfl) ?_
                  refine va_iald hx hb hE.1 hP 7 0 rfl rfl (by rw [vp_in_iff]; first | omega | (subst_vars; omega)) dX13_laysParts_184 ?_
                  refine lv_topi (fun z_161 ez_161 => ?_)
                  refine lv_goto (tgt := 204) hx hb dX13_laysParts_185 (by decide) ?_
                  refine lv_iadd hx hb dX13_laysParts_204 ?_
                  refine va_iast hx hb hE.1 hP hD hS 7 0 rfl rfl (by rw [vp_in_iff]; first | omega | (subst_vars; omega)) dX13_laysParts_205 (fun H locs hP hD hS => ?_)
                  have hP : va_P D vwCl [(h0, .inr (10, [.int (q 0), .int (q 1), .int (q 2), .int (q 3), .int (q 4), .int (q 5), .int (q 6), .int (q 7), .ref (a 8), .ref (a 9), .ref (a 10), .ref (a 11), .ref (a 12), .ref (a 13), .int (q 14), .long v, .long w, .ref (a 17), .ref (a 18), .ref (a 19), .ref (a 20), .ref (a 21), .ref (a 22), .ref (a 23), .int (q 24), .ref (a 25), .int (q 26), .ref (a 27), .int (q 28), .int (q 29), .int (q 30), .int (q 31), .int (q 32), .int (q 33), .ref (a 34), .ref (a 35), .ref (a 36), .ref (a 37), .ref (a 38), .ref (a 39), .ref (a 40), .int (q 41), .ref (a 42), .int (q 43), .int (q 44)])), ((a 8), .inl (T 0, 24, .inl f8)), ((a 9), .inl (T 0, 24, .inl f9)), ((a 10), .inl (T 0, 24, .inl f10)), ((a 11), .inl (T 0, 24, .inl f11)), ((a 17), .inl (T 0, 24, .inl (upd (upd e9 (xx.toNatClampNeg) z_113) (xx.toNatClampNeg) z_116))), ((a 18), .inl (T 0, 24, .inl (upd p9 (xx.toNatClampNeg) ((1 + z_142) + z_154)))), ((a 19), .inl (T 0, 24, .inl (upd d9 (xx.toNatClampNeg) (1 + z_161))))] H := hP
                  have hD : va_D A [(h0, .inr (10, [.int (q 0), .int (q 1), .int (q 2), .int (q 3), .int (q 4), .int (q 5), .int (q 6), .int (q 7), .ref (a 8), .ref (a 9), .ref (a 10), .ref (a 11), .ref (a 12), .ref (a 13), .int (q 14), .long v, .long w, .ref (a 17), .ref (a 18), .ref (a 19), .ref (a 20), .ref (a 21), .ref (a 22), .ref (a 23), .int (q 24), .ref (a 25), .int (q 26), .ref (a 27), .int (q 28), .int (q 29), .int (q 30), .int (q 31), .int (q 32), .int (q 33), .ref (a 34), .ref (a 35), .ref (a 36), .ref (a 37), .ref (a 38), .ref (a 39), .ref (a 40), .int (q 41), .ref (a 42), .int (q 43), .int (q 44)])), ((a 8), .inl (T 0, 24, .inl f8)), ((a 9), .inl (T 0, 24, .inl f9)), ((a 10), .inl (T 0, 24, .inl f10)), ((a 11), .inl (T 0, 24, .inl f11)), ((a 17), .inl (T 0, 24, .inl (upd (upd e9 (xx.toNatClampNeg) z_113) (xx.toNatClampNeg) z_116))), ((a 18), .inl (T 0, 24, .inl (upd p9 (xx.toNatClampNeg) ((1 + z_142) + z_154)))), ((a 19), .inl (T 0, 24, .inl (upd d9 (xx.toNatClampNeg) (1 + z_161))))] := hD
                  obtain ⟨z_162, ez_162⟩ : ∃ y : Int32, y = xx + 1 := ⟨_, rfl⟩
                  refine lv_iinc (v := z_162) (lv' := [(1, .int z_162), (4, .int z_5), (3, .int z_4), (2, .int r_3), (0, .ref h0)]) hx hb dX13_laysParts_206 hl (k := 3) rfl (by rw [ez_162]; rfl) (by decide) rfl (fun ls hl => ?_)
                  have hz_1629 : z_162.toInt = xx.toInt + 1 := by rw [ez_162]; exact inc1 (n := 1000) (by omega) (by decide)
                  refine lv_goto (tgt := 2) hx hb dX13_laysParts_209 (by decide) ?_
                  exact ih (z_162, (upd (upd e9 (xx.toNatClampNeg) z_113) (xx.toNatClampNeg) z_116), (upd p9 (xx.toNatClampNeg) ((1 + z_142) + z_154)), (upd d9 (xx.toNatClampNeg) (1 + z_161))) ls _ _ ⟨lv_sub hl [0, 4] rfl, hP.sub [0, 1, 2, 3, 4, 5, 6, 7] rfl, hD.sub [0, 1, 2, 3, 4, 5, 6, 7] (by decide) rfl, hS, ⟨(by rw [hz_1629]; omega), (by rw [upd_upd]; exact okE_step (n := 0) hEE (by omega) hz_1629 (by omega) (fun hk9 => by exfalso; omega) (okR.late hokR))⟩⟩ (by (try dsimp only); rw [hz_1629]; omega)
              · rw [fa_eq] at c_155
                try rw [ti_0] at c_155
                refine lv_iconst (v := 0) hx hb dX13_laysParts_170 (by decide) ?_
                refine lv_goto (tgt := 204) hx hb dX13_laysParts_171 (by decide) ?_
                refine lv_iadd hx hb dX13_laysParts_204 ?_
                refine lv_topi (fun z_163 ez_163 => ?_)
                obtain rfl : z_163 = 1 := ez_163.trans (by decide)
                refine va_iast hx hb hE.1 hP hD hS 7 0 rfl rfl (by rw [vp_in_iff]; first | omega | (subst_vars; omega)) dX13_laysParts_205 (fun H locs hP hD hS => ?_)
                have hP : va_P D vwCl [(h0, .inr (10, [.int (q 0), .int (q 1), .int (q 2), .int (q 3), .int (q 4), .int (q 5), .int (q 6), .int (q 7), .ref (a 8), .ref (a 9), .ref (a 10), .ref (a 11), .ref (a 12), .ref (a 13), .int (q 14), .long v, .long w, .ref (a 17), .ref (a 18), .ref (a 19), .ref (a 20), .ref (a 21), .ref (a 22), .ref (a 23), .int (q 24), .ref (a 25), .int (q 26), .ref (a 27), .int (q 28), .int (q 29), .int (q 30), .int (q 31), .int (q 32), .int (q 33), .ref (a 34), .ref (a 35), .ref (a 36), .ref (a 37), .ref (a 38), .ref (a 39), .ref (a 40), .int (q 41), .ref (a 42), .int (q 43), .int (q 44)])), ((a 8), .inl (T 0, 24, .inl f8)), ((a 9), .inl (T 0, 24, .inl f9)), ((a 10), .inl (T 0, 24, .inl f10)), ((a 11), .inl (T 0, 24, .inl f11)), ((a 17), .inl (T 0, 24, .inl (upd (upd e9 (xx.toNatClampNeg) z_113) (xx.toNatClampNeg) z_116))), ((a 18), .inl (T 0, 24, .inl (upd p9 (xx.toNatClampNeg) ((1 + z_142) + z_154)))), ((a 19), .inl (T 0, 24, .inl (upd d9 (xx.toNatClampNeg) 1)))] H := hP
                have hD : va_D A [(h0, .inr (10, [.int (q 0), .int (q 1), .int (q 2), .int (q 3), .int (q 4), .int (q 5), .int (q 6), .int (q 7), .ref (a 8), .ref (a 9), .ref (a 10), .ref (a 11), .ref (a 12), .ref (a 13), .int (q 14), .long v, .long w, .ref (a 17), .ref (a 18), .ref (a 19), .ref (a 20), .ref (a 21), .ref (a 22), .ref (a 23), .int (q 24), .ref (a 25), .int (q 26), .ref (a 27), .int (q 28), .int (q 29), .int (q 30), .int (q 31), .int (q 32), .int (q 33), .ref (a 34), .ref (a 35), .ref (a 36), .ref (a 37), .ref (a 38), .ref (a 39), .ref (a 40), .int (q 41), .ref (a 42), .int (q 43), .int (q 44)])), ((a 8), .inl (T 0, 24, .inl f8)), ((a 9), .inl (T 0, 24, .inl f9)), ((a 10), .inl (T 0, 24, .inl f10)), ((a 11), .inl (T 0, 24, .inl f11)), ((a 17), .inl (T 0, 24, .inl (upd (upd e9 (xx.toNatClampNeg) z_113) (xx.toNatClampNeg) z_116))), ((a 18), .inl (T 0, 24, .inl (upd p9 (xx.toNatClampNeg) ((1 + z_142) + z_154)))), ((a 19), .inl (T 0, 24, .inl (upd d9 (xx.toNatClampNeg) 1)))] := hD
                obtain ⟨z_164, ez_164⟩ : ∃ y : Int32, y = xx + 1 := ⟨_, rfl⟩
                refine lv_iinc (v := z_164) (lv' := [(1, .int z_164), (4, .int z_5), (3, .int z_4), (2, .int r_3), (0, .ref h0)]) hx hb dX13_laysParts_206 hl (k := 3) rfl (by rw [ez_164]; rfl) (by decide) rfl (fun ls hl => ?_)
                have hz_1649 : z_164.toInt = xx.toInt + 1 := by rw [ez_164]; exact inc1 (n := 1000) (by omega) (by decide)
                refine lv_goto (tgt := 2) hx hb dX13_laysParts_209 (by decide) ?_
                exact ih (z_164, (upd (upd e9 (xx.toNatClampNeg) z_113) (xx.toNatClampNeg) z_116), (upd p9 (xx.toNatClampNeg) ((1 + z_142) + z_154)), (upd d9 (xx.toNatClampNeg) 1)) ls _ _ ⟨lv_sub hl [0, 4] rfl, hP.sub [0, 1, 2, 3, 4, 5, 6, 7] rfl, hD.sub [0, 1, 2, 3, 4, 5, 6, 7] (by decide) rfl, hS, ⟨(by rw [hz_1649]; omega), (by rw [upd_upd]; exact okE_step (n := 0) hEE (by omega) hz_1649 (by omega) (fun hk9 => by exfalso; omega) (okR.late hokR))⟩⟩ (by (try dsimp only); rw [hz_1649]; omega)
        · rw [fa_eq] at c_115
          try rw [ti_8] at c_115
          refine lv_aload_n hx hb dX13_laysParts_96 rfl (lv_at hl 4 rfl) ?_
          refine va_get (D := D) (ci := 10) (v := .ref (a 9)) (C := RX13) (T := TX13) (N := 45) hx hb hts in_X13_laysParts_X13 hown hE.1 hP 0 rfl rfl 9 (by decide) (hts (.fieldLink RX13 32 "ClauseBookModel" "number" "[I") (List.mem_of_getElem? (i := 10) rfl)) (fun _ h9 => h9) rfl dX13_laysParts_97 ?_
          refine lv_iload_n hx hb dX13_laysParts_100 rfl (lv_at hl 3 rfl) ?_
          refine va_iald hx hb hE.1 hP 2 0 rfl rfl (by rw [vp_in_iff]; first | omega | (subst_vars; omega)) dX13_laysParts_101 ?_
          refine lv_topi (fun z_165 ez_165 => ?_)
          refine lv_aload_n hx hb dX13_laysParts_102 rfl (lv_at hl 4 rfl) ?_
          refine va_get (D := D) (ci := 10) (v := .ref (a 17)) (C := RX13) (T := TX13) (N := 45) hx hb hts in_X13_laysParts_X13 hown hE.1 hP 0 rfl rfl 17 (by decide) (hts (.fieldLink RX13 47 "ClauseBookModel" "end" "[I") (List.mem_of_getElem? (i := 5) rfl)) (fun _ h9 => h9) rfl dX13_laysParts_103 ?_
          refine lv_iload_n hx hb dX13_laysParts_106 rfl (lv_at hl 3 rfl) ?_
          refine va_iald hx hb hE.1 hP 5 0 rfl rfl (by rw [vp_in_iff]; first | omega | (subst_vars; omega)) dX13_laysParts_107 ?_
          refine lv_topi (fun z_166 ez_166 => ?_)
          have hxz_166 : z_166.toInt = (z_113 : Int32).toInt := by rw [ez_166, upd_at]
          refine va_mmin hx hb (hml.trans hl.1.symm) hown (hts (.methodLink RX13 230 Lib.Math.min.name) (List.mem_of_getElem? (i := 11) rfl)) (hts (.static Lib.Math.min.name) (List.mem_of_getElem? (i := 12) rfl)) (hts (.initialized "java/lang/Math") (List.mem_of_getElem? (i := 8) rfl)) (hts (.code Lib.Math.min.name Lib.Math.min.code 2 (some .int)) (List.mem_of_getElem? (i := 13) rfl)) (Nat.le_of_ble_eq_true rfl) (Nat.le_of_ble_eq_true rfl) (Nat.le_of_ble_eq_true rfl) (Nat.le_of_ble_eq_true rfl) dX13_laysParts_108 ?_
          refine lv_topi (fun z_167 ez_167 => ?_)
          have hxz_167 : z_167.toInt ≤ 6 := by
            rw [ez_167]
            split
            · rename_i h
              omega
            · rename_i h
              rw [fa_lt] at h
              omega
          refine lv_goto (tgt := 120) hx hb dX13_laysParts_111 (by decide) ?_
          refine va_iast hx hb hE.1 hP hD hS 5 0 rfl rfl (by rw [vp_in_iff]; first | omega | (subst_vars; omega)) dX13_laysParts_120 (fun H locs hP hD hS => ?_)
          have hP : va_P D vwCl [(h0, .inr (10, [.int (q 0), .int (q 1), .int (q 2), .int (q 3), .int (q 4), .int (q 5), .int (q 6), .int (q 7), .ref (a 8), .ref (a 9), .ref (a 10), .ref (a 11), .ref (a 12), .ref (a 13), .int (q 14), .long v, .long w, .ref (a 17), .ref (a 18), .ref (a 19), .ref (a 20), .ref (a 21), .ref (a 22), .ref (a 23), .int (q 24), .ref (a 25), .int (q 26), .ref (a 27), .int (q 28), .int (q 29), .int (q 30), .int (q 31), .int (q 32), .int (q 33), .ref (a 34), .ref (a 35), .ref (a 36), .ref (a 37), .ref (a 38), .ref (a 39), .ref (a 40), .int (q 41), .ref (a 42), .int (q 43), .int (q 44)])), ((a 8), .inl (T 0, 24, .inl f8)), ((a 9), .inl (T 0, 24, .inl f9)), ((a 10), .inl (T 0, 24, .inl f10)), ((a 11), .inl (T 0, 24, .inl f11)), ((a 17), .inl (T 0, 24, .inl (upd (upd e9 (xx.toNatClampNeg) z_113) (xx.toNatClampNeg) z_167))), ((a 18), .inl (T 0, 24, .inl p9)), ((a 19), .inl (T 0, 24, .inl d9))] H := hP
          have hD : va_D A [(h0, .inr (10, [.int (q 0), .int (q 1), .int (q 2), .int (q 3), .int (q 4), .int (q 5), .int (q 6), .int (q 7), .ref (a 8), .ref (a 9), .ref (a 10), .ref (a 11), .ref (a 12), .ref (a 13), .int (q 14), .long v, .long w, .ref (a 17), .ref (a 18), .ref (a 19), .ref (a 20), .ref (a 21), .ref (a 22), .ref (a 23), .int (q 24), .ref (a 25), .int (q 26), .ref (a 27), .int (q 28), .int (q 29), .int (q 30), .int (q 31), .int (q 32), .int (q 33), .ref (a 34), .ref (a 35), .ref (a 36), .ref (a 37), .ref (a 38), .ref (a 39), .ref (a 40), .int (q 41), .ref (a 42), .int (q 43), .int (q 44)])), ((a 8), .inl (T 0, 24, .inl f8)), ((a 9), .inl (T 0, 24, .inl f9)), ((a 10), .inl (T 0, 24, .inl f10)), ((a 11), .inl (T 0, 24, .inl f11)), ((a 17), .inl (T 0, 24, .inl (upd (upd e9 (xx.toNatClampNeg) z_113) (xx.toNatClampNeg) z_167))), ((a 18), .inl (T 0, 24, .inl p9)), ((a 19), .inl (T 0, 24, .inl d9))] := hD
          refine lv_aload_n hx hb dX13_laysParts_121 rfl (lv_at hl 4 rfl) ?_
          refine va_get (D := D) (ci := 10) (v := .ref (a 18)) (C := RX13) (T := TX13) (N := 45) hx hb hts in_X13_laysParts_X13 hown hE.1 hP 0 rfl rfl 18 (by decide) (hts (.fieldLink RX13 50 "ClauseBookModel" "parts" "[I") (List.mem_of_getElem? (i := 14) rfl)) (fun _ h9 => h9) rfl dX13_laysParts_122 ?_
          refine lv_iload_n hx hb dX13_laysParts_125 rfl (lv_at hl 3 rfl) ?_
          refine lv_iconst (v := 1) hx hb dX13_laysParts_126 (by decide) ?_
          refine lv_iload_n hx hb dX13_laysParts_127 rfl (lv_at hl 2 rfl) ?_
          refine lv_if_le (tgt := 140) hx hb dX13_laysParts_128 (by decide) (fun c_168 => ?_) (fun c_168 => ?_)
          · rw [fa_le] at c_168
            try rw [ti_0] at c_168
            refine lv_iconst (v := 0) hx hb dX13_laysParts_140 (by decide) ?_
            refine lv_iadd hx hb dX13_laysParts_141 ?_
            refine lv_topi (fun z_169 ez_169 => ?_)
            obtain rfl : z_169 = 1 := ez_169.trans (by decide)
            refine lv_iload_n hx hb dX13_laysParts_142 rfl (lv_at hl 2 rfl) ?_
            refine lv_iconst (v := 1) hx hb dX13_laysParts_143 (by decide) ?_
            refine lv_icmp_le (tgt := 157) hx hb dX13_laysParts_144 (by decide) (fun c_170 => ?_) (fun c_170 => ?_)
            · rw [fa_le] at c_170
              try rw [ti_1] at c_170
              refine lv_iconst (v := 0) hx hb dX13_laysParts_157 (by decide) ?_
              refine lv_iadd hx hb dX13_laysParts_158 ?_
              refine lv_topi (fun z_171 ez_171 => ?_)
              obtain rfl : z_171 = 1 := ez_171.trans (by decide)
              refine va_iast hx hb hE.1 hP hD hS 6 0 rfl rfl (by rw [vp_in_iff]; first | omega | (subst_vars; omega)) dX13_laysParts_159 (fun H locs hP hD hS => ?_)
              have hP : va_P D vwCl [(h0, .inr (10, [.int (q 0), .int (q 1), .int (q 2), .int (q 3), .int (q 4), .int (q 5), .int (q 6), .int (q 7), .ref (a 8), .ref (a 9), .ref (a 10), .ref (a 11), .ref (a 12), .ref (a 13), .int (q 14), .long v, .long w, .ref (a 17), .ref (a 18), .ref (a 19), .ref (a 20), .ref (a 21), .ref (a 22), .ref (a 23), .int (q 24), .ref (a 25), .int (q 26), .ref (a 27), .int (q 28), .int (q 29), .int (q 30), .int (q 31), .int (q 32), .int (q 33), .ref (a 34), .ref (a 35), .ref (a 36), .ref (a 37), .ref (a 38), .ref (a 39), .ref (a 40), .int (q 41), .ref (a 42), .int (q 43), .int (q 44)])), ((a 8), .inl (T 0, 24, .inl f8)), ((a 9), .inl (T 0, 24, .inl f9)), ((a 10), .inl (T 0, 24, .inl f10)), ((a 11), .inl (T 0, 24, .inl f11)), ((a 17), .inl (T 0, 24, .inl (upd (upd e9 (xx.toNatClampNeg) z_113) (xx.toNatClampNeg) z_167))), ((a 18), .inl (T 0, 24, .inl (upd p9 (xx.toNatClampNeg) 1))), ((a 19), .inl (T 0, 24, .inl d9))] H := hP
              have hD : va_D A [(h0, .inr (10, [.int (q 0), .int (q 1), .int (q 2), .int (q 3), .int (q 4), .int (q 5), .int (q 6), .int (q 7), .ref (a 8), .ref (a 9), .ref (a 10), .ref (a 11), .ref (a 12), .ref (a 13), .int (q 14), .long v, .long w, .ref (a 17), .ref (a 18), .ref (a 19), .ref (a 20), .ref (a 21), .ref (a 22), .ref (a 23), .int (q 24), .ref (a 25), .int (q 26), .ref (a 27), .int (q 28), .int (q 29), .int (q 30), .int (q 31), .int (q 32), .int (q 33), .ref (a 34), .ref (a 35), .ref (a 36), .ref (a 37), .ref (a 38), .ref (a 39), .ref (a 40), .int (q 41), .ref (a 42), .int (q 43), .int (q 44)])), ((a 8), .inl (T 0, 24, .inl f8)), ((a 9), .inl (T 0, 24, .inl f9)), ((a 10), .inl (T 0, 24, .inl f10)), ((a 11), .inl (T 0, 24, .inl f11)), ((a 17), .inl (T 0, 24, .inl (upd (upd e9 (xx.toNatClampNeg) z_113) (xx.toNatClampNeg) z_167))), ((a 18), .inl (T 0, 24, .inl (upd p9 (xx.toNatClampNeg) 1))), ((a 19), .inl (T 0, 24, .inl d9))] := hD
              refine lv_aload_n hx hb dX13_laysParts_160 rfl (lv_at hl 4 rfl) ?_
              refine va_get (D := D) (ci := 10) (v := .ref (a 19)) (C := RX13) (T := TX13) (N := 45) hx hb hts in_X13_laysParts_X13 hown hE.1 hP 0 rfl rfl 19 (by decide) (hts (.fieldLink RX13 53 "ClauseBookModel" "deep" "[I") (List.mem_of_getElem? (i := 15) rfl)) (fun _ h9 => h9) rfl dX13_laysParts_161 ?_
              refine lv_iload_n hx hb dX13_laysParts_164 rfl (lv_at hl 3 rfl) ?_
              refine lv_iconst (v := 1) hx hb dX13_laysParts_165 (by decide) ?_
              refine lv_iload_n hx hb dX13_laysParts_166 rfl (lv_at hl 2 rfl) ?_
              refine lv_if_ne (tgt := 174) hx hb dX13_laysParts_167 (by decide) (fun c_172 => ?_) (fun c_172 => ?_)
              · rw [fa_eq] at c_172
                try rw [ti_0] at c_172
                refine lv_iload_n hx hb dX13_laysParts_174 rfl (lv_at hl 2 rfl) ?_
                refine lv_iconst (v := 1) hx hb dX13_laysParts_175 (by decide) ?_
                refine lv_icmp_ne (tgt := 188) hx hb dX13_laysParts_176 (by decide) (fun c_173 => ?_) (fun c_173 => ?_)
                · rw [fa_eq] at c_173
                  try rw [ti_1] at c_173
                  refine lv_aload_n hx hb dX13_laysParts_188 rfl (lv_at hl 4 rfl) ?_
                  refine va_get (D := D) (ci := 10) (v := .ref (a 19)) (C := RX13) (T := TX13) (N := 45) hx hb hts in_X13_laysParts_X13 hown hE.1 hP 0 rfl rfl 19 (by decide) (hts (.fieldLink RX13 53 "ClauseBookModel" "deep" "[I") (List.mem_of_getElem? (i := 15) rfl)) (fun _ h9 => h9) rfl dX13_laysParts_189 ?_
                  refine lv_iload_n hx hb dX13_laysParts_192 rfl (lv_at hl 1 rfl) ?_
                  refine va_iald hx hb hE.1 hP 7 0 rfl rfl (by rw [vp_in_iff]; first | omega | (subst_vars; omega)) dX13_laysParts_193 ?_
                  refine lv_topi (fun z_174 ez_174 => ?_)
                  refine lv_aload_n hx hb dX13_laysParts_194 rfl (lv_at hl 4 rfl) ?_
                  refine va_get (D := D) (ci := 10) (v := .ref (a 19)) (C := RX13) (T := TX13) (N := 45) hx hb hts in_X13_laysParts_X13 hown hE.1 hP 0 rfl rfl 19 (by decide) (hts (.fieldLink RX13 53 "ClauseBookModel" "deep" "[I") (List.mem_of_getElem? (i := 15) rfl)) (fun _ h9 => h9) rfl dX13_laysParts_195 ?_
                  refine lv_iload hx hb dX13_laysParts_198 (lv_at hl 0 rfl) ?_
                  refine va_iald hx hb hE.1 hP 7 0 rfl rfl (by rw [vp_in_iff]; first | omega | (subst_vars; omega)) dX13_laysParts_200 ?_
                  refine lv_topi (fun z_175 ez_175 => ?_)
                  refine va_mmax hx hb (hml.trans hl.1.symm) hown (hts (.methodLink RX13 227 Lib.Math.max.name) (List.mem_of_getElem? (i := 6) rfl)) (hts (.static Lib.Math.max.name) (List.mem_of_getElem? (i := 7) rfl)) (hts (.initialized "java/lang/Math") (List.mem_of_getElem? (i := 8) rfl)) (hts (.code Lib.Math.max.name Lib.Math.max.code 2 (some .int)) (List.mem_of_getElem? (i := 9) rfl)) (Nat.le_of_ble_eq_true rfl) (Nat.le_of_ble_eq_true rfl) (Nat.le_of_ble_eq_true rfl) (Nat.le_of_ble_eq_true rfl) dX13_laysParts_201 ?_
                  refine lv_topi (fun z_176 ez_176 => ?_)
                  refine lv_iadd hx hb dX13_laysParts_204 ?_
                  refine va_iast hx hb hE.1 hP hD hS 7 0 rfl rfl (by rw [vp_in_iff]; first | omega | (subst_vars; omega)) dX13_laysParts_205 (fun H locs hP hD hS => ?_)
                  have hP : va_P D vwCl [(h0, .inr (10, [.int (q 0), .int (q 1), .int (q 2), .int (q 3), .int (q 4), .int (q 5), .int (q 6), .int (q 7), .ref (a 8), .ref (a 9), .ref (a 10), .ref (a 11), .ref (a 12), .ref (a 13), .int (q 14), .long v, .long w, .ref (a 17), .ref (a 18), .ref (a 19), .ref (a 20), .ref (a 21), .ref (a 22), .ref (a 23), .int (q 24), .ref (a 25), .int (q 26), .ref (a 27), .int (q 28), .int (q 29), .int (q 30), .int (q 31), .int (q 32), .int (q 33), .ref (a 34), .ref (a 35), .ref (a 36), .ref (a 37), .ref (a 38), .ref (a 39), .ref (a 40), .int (q 41), .ref (a 42), .int (q 43), .int (q 44)])), ((a 8), .inl (T 0, 24, .inl f8)), ((a 9), .inl (T 0, 24, .inl f9)), ((a 10), .inl (T 0, 24, .inl f10)), ((a 11), .inl (T 0, 24, .inl f11)), ((a 17), .inl (T 0, 24, .inl (upd (upd e9 (xx.toNatClampNeg) z_113) (xx.toNatClampNeg) z_167))), ((a 18), .inl (T 0, 24, .inl (upd p9 (xx.toNatClampNeg) 1))), ((a 19), .inl (T 0, 24, .inl (upd d9 (xx.toNatClampNeg) (1 + z_176))))] H := hP
                  have hD : va_D A [(h0, .inr (10, [.int (q 0), .int (q 1), .int (q 2), .int (q 3), .int (q 4), .int (q 5), .int (q 6), .int (q 7), .ref (a 8), .ref (a 9), .ref (a 10), .ref (a 11), .ref (a 12), .ref (a 13), .int (q 14), .long v, .long w, .ref (a 17), .ref (a 18), .ref (a 19), .ref (a 20), .ref (a 21), .ref (a 22), .ref (a 23), .int (q 24), .ref (a 25), .int (q 26), .ref (a 27), .int (q 28), .int (q 29), .int (q 30), .int (q 31), .int (q 32), .int (q 33), .ref (a 34), .ref (a 35), .ref (a 36), .ref (a 37), .ref (a 38), .ref (a 39), .ref (a 40), .int (q 41), .ref (a 42), .int (q 43), .int (q 44)])), ((a 8), .inl (T 0, 24, .inl f8)), ((a 9), .inl (T 0, 24, .inl f9)), ((a 10), .inl (T 0, 24, .inl f10)), ((a 11), .inl (T 0, 24, .inl f11)), ((a 17), .inl (T 0, 24, .inl (upd (upd e9 (xx.toNatClampNeg) z_113) (xx.toNatClampNeg) z_167))), ((a 18), .inl (T 0, 24, .inl (upd p9 (xx.toNatClampNeg) 1))), ((a 19), .inl (T 0, 24, .inl (upd d9 (xx.toNatClampNeg) (1 + z_176))))] := hD
                  obtain ⟨z_177, ez_177⟩ : ∃ y : Int32, y = xx + 1 := ⟨_, rfl⟩
                  refine lv_iinc (v := z_177) (lv' := [(1, .int z_177), (4, .int z_5), (3, .int z_4), (2, .int r_3), (0, .ref h0)]) hx hb dX13_laysParts_206 hl (k := 3) rfl (by rw [ez_177]; rfl) (by decide) rfl (fun ls hl => ?_)
                  have hz_1779 : z_177.toInt = xx.toInt + 1 := by rw [ez_177]; exact inc1 (n := 1000) (by omega) (by decide)
                  refine lv_goto (tgt := 2) hx hb dX13_laysParts_209 (by decide) ?_
                  exact ih (z_177, (upd (upd e9 (xx.toNatClampNeg) z_113) (xx.toNatClampNeg) z_167), (upd p9 (xx.toNatClampNeg) 1), (upd d9 (xx.toNatClampNeg) (1 + z_176))) ls _ _ ⟨lv_sub hl [0, 4] rfl, hP.sub [0, 1, 2, 3, 4, 5, 6, 7] rfl, hD.sub [0, 1, 2, 3, 4, 5, 6, 7] (by decide) rfl, hS, ⟨(by rw [hz_1779]; omega), (by rw [upd_upd]; exact okE_step (n := 0) hEE (by omega) hz_1779 (by omega) (fun hk9 => by exfalso; omega) (okR.late hokR))⟩⟩ (by (try dsimp only); rw [hz_1779]; omega)
                · rw [fa_eq] at c_173
                  try rw [ti_1] at c_173
                  refine lv_aload_n hx hb dX13_laysParts_179 rfl (lv_at hl 4 rfl) ?_
                  refine va_get (D := D) (ci := 10) (v := .ref (a 19)) (C := RX13) (T := TX13) (N := 45) hx hb hts in_X13_laysParts_X13 hown hE.1 hP 0 rfl rfl 19 (by decide) (hts (.fieldLink RX13 53 "ClauseBookModel" "deep" "[I") (List.mem_of_getElem? (i := 15) rfl)) (fun _ h9 => h9) rfl dX13_laysParts_180 ?_
                  refine lv_iload_n hx hb dX13_laysParts_183 rfl (lv_at hl 1 rfl) ?_
                  refine va_iald hx hb hE.1 hP 7 0 rfl rfl (by rw [vp_in_iff]; first | omega | (subst_vars; omega)) dX13_laysParts_184 ?_
                  refine lv_topi (fun z_178 ez_178 => ?_)
                  refine lv_goto (tgt := 204) hx hb dX13_laysParts_185 (by decide) ?_
                  refine lv_iadd hx hb dX13_laysParts_204 ?_
                  refine va_iast hx hb hE.1 hP hD hS 7 0 rfl rfl (by rw [vp_in_iff]; first | omega | (subst_vars; omega)) dX13_laysParts_205 (fun H locs hP hD hS => ?_)
                  have hP : va_P D vwCl [(h0, .inr (10, [.int (q 0), .int (q 1), .int (q 2), .int (q 3), .int (q 4), .int (q 5), .int (q 6), .int (q 7), .ref (a 8), .ref (a 9), .ref (a 10), .ref (a 11), .ref (a 12), .ref (a 13), .int (q 14), .long v, .long w, .ref (a 17), .ref (a 18), .ref (a 19), .ref (a 20), .ref (a 21), .ref (a 22), .ref (a 23), .int (q 24), .ref (a 25), .int (q 26), .ref (a 27), .int (q 28), .int (q 29), .int (q 30), .int (q 31), .int (q 32), .int (q 33), .ref (a 34), .ref (a 35), .ref (a 36), .ref (a 37), .ref (a 38), .ref (a 39), .ref (a 40), .int (q 41), .ref (a 42), .int (q 43), .int (q 44)])), ((a 8), .inl (T 0, 24, .inl f8)), ((a 9), .inl (T 0, 24, .inl f9)), ((a 10), .inl (T 0, 24, .inl f10)), ((a 11), .inl (T 0, 24, .inl f11)), ((a 17), .inl (T 0, 24, .inl (upd (upd e9 (xx.toNatClampNeg) z_113) (xx.toNatClampNeg) z_167))), ((a 18), .inl (T 0, 24, .inl (upd p9 (xx.toNatClampNeg) 1))), ((a 19), .inl (T 0, 24, .inl (upd d9 (xx.toNatClampNeg) (1 + z_178))))] H := hP
                  have hD : va_D A [(h0, .inr (10, [.int (q 0), .int (q 1), .int (q 2), .int (q 3), .int (q 4), .int (q 5), .int (q 6), .int (q 7), .ref (a 8), .ref (a 9), .ref (a 10), .ref (a 11), .ref (a 12), .ref (a 13), .int (q 14), .long v, .long w, .ref (a 17), .ref (a 18), .ref (a 19), .ref (a 20), .ref (a 21), .ref (a 22), .ref (a 23), .int (q 24), .ref (a 25), .int (q 26), .ref (a 27), .int (q 28), .int (q 29), .int (q 30), .int (q 31), .int (q 32), .int (q 33), .ref (a 34), .ref (a 35), .ref (a 36), .ref (a 37), .ref (a 38), .ref (a 39), .ref (a 40), .int (q 41), .ref (a 42), .int (q 43), .int (q 44)])), ((a 8), .inl (T 0, 24, .inl f8)), ((a 9), .inl (T 0, 24, .inl f9)), ((a 10), .inl (T 0, 24, .inl f10)), ((a 11), .inl (T 0, 24, .inl f11)), ((a 17), .inl (T 0, 24, .inl (upd (upd e9 (xx.toNatClampNeg) z_113) (xx.toNatClampNeg) z_167))), ((a 18), .inl (T 0, 24, .inl (upd p9 (xx.toNatClampNeg) 1))), ((a 19), .inl (T 0, 24, .inl (upd d9 (xx.toNatClampNeg) (1 + z_178))))] := hD
                  obtain ⟨z_179, ez_179⟩ : ∃ y : Int32, y = xx + 1 := ⟨_, rfl⟩
                  refine lv_iinc (v := z_179) (lv' := [(1, .int z_179), (4, .int z_5), (3, .int z_4), (2, .int r_3), (0, .ref h0)]) hx hb dX13_laysParts_206 hl (k := 3) rfl (by rw [ez_179]; rfl) (by decide) rfl (fun ls hl => ?_)
                  have hz_1799 : z_179.toInt = xx.toInt + 1 := by rw [ez_179]; exact inc1 (n := 1000) (by omega) (by decide)
                  refine lv_goto (tgt := 2) hx hb dX13_laysParts_209 (by decide) ?_
                  exact ih (z_179, (upd (upd e9 (xx.toNatClampNeg) z_113) (xx.toNatClampNeg) z_167), (upd p9 (xx.toNatClampNeg) 1), (upd d9 (xx.toNatClampNeg) (1 + z_178))) ls _ _ ⟨lv_sub hl [0, 4] rfl, hP.sub [0, 1, 2, 3, 4, 5, 6, 7] rfl, hD.sub [0, 1, 2, 3, 4, 5, 6, 7] (by decide) rfl, hS, ⟨(by rw [hz_1799]; omega), (by rw [upd_upd]; exact okE_step (n := 0) hEE (by omega) hz_1799 (by omega) (fun hk9 => by exfalso; omega) (okR.late hokR))⟩⟩ (by (try dsimp only); rw [hz_1799]; omega)
              · rw [fa_eq] at c_172
                try rw [ti_0] at c_172
                refine lv_iconst (v := 0) hx hb dX13_laysParts_170 (by decide) ?_
                refine lv_goto (tgt := 204) hx hb dX13_laysParts_171 (by decide) ?_
                refine lv_iadd hx hb dX13_laysParts_204 ?_
                refine lv_topi (fun z_180 ez_180 => ?_)
                obtain rfl : z_180 = 1 := ez_180.trans (by decide)
                refine va_iast hx hb hE.1 hP hD hS 7 0 rfl rfl (by rw [vp_in_iff]; first | omega | (subst_vars; omega)) dX13_laysParts_205 (fun H locs hP hD hS => ?_)
                have hP : va_P D vwCl [(h0, .inr (10, [.int (q 0), .int (q 1), .int (q 2), .int (q 3), .int (q 4), .int (q 5), .int (q 6), .int (q 7), .ref (a 8), .ref (a 9), .ref (a 10), .ref (a 11), .ref (a 12), .ref (a 13), .int (q 14), .long v, .long w, .ref (a 17), .ref (a 18), .ref (a 19), .ref (a 20), .ref (a 21), .ref (a 22), .ref (a 23), .int (q 24), .ref (a 25), .int (q 26), .ref (a 27), .int (q 28), .int (q 29), .int (q 30), .int (q 31), .int (q 32), .int (q 33), .ref (a 34), .ref (a 35), .ref (a 36), .ref (a 37), .ref (a 38), .ref (a 39), .ref (a 40), .int (q 41), .ref (a 42), .int (q 43), .int (q 44)])), ((a 8), .inl (T 0, 24, .inl f8)), ((a 9), .inl (T 0, 24, .inl f9)), ((a 10), .inl (T 0, 24, .inl f10)), ((a 11), .inl (T 0, 24, .inl f11)), ((a 17), .inl (T 0, 24, .inl (upd (upd e9 (xx.toNatClampNeg) z_113) (xx.toNatClampNeg) z_167))), ((a 18), .inl (T 0, 24, .inl (upd p9 (xx.toNatClampNeg) 1))), ((a 19), .inl (T 0, 24, .inl (upd d9 (xx.toNatClampNeg) 1)))] H := hP
                have hD : va_D A [(h0, .inr (10, [.int (q 0), .int (q 1), .int (q 2), .int (q 3), .int (q 4), .int (q 5), .int (q 6), .int (q 7), .ref (a 8), .ref (a 9), .ref (a 10), .ref (a 11), .ref (a 12), .ref (a 13), .int (q 14), .long v, .long w, .ref (a 17), .ref (a 18), .ref (a 19), .ref (a 20), .ref (a 21), .ref (a 22), .ref (a 23), .int (q 24), .ref (a 25), .int (q 26), .ref (a 27), .int (q 28), .int (q 29), .int (q 30), .int (q 31), .int (q 32), .int (q 33), .ref (a 34), .ref (a 35), .ref (a 36), .ref (a 37), .ref (a 38), .ref (a 39), .ref (a 40), .int (q 41), .ref (a 42), .int (q 43), .int (q 44)])), ((a 8), .inl (T 0, 24, .inl f8)), ((a 9), .inl (T 0, 24, .inl f9)), ((a 10), .inl (T 0, 24, .inl f10)), ((a 11), .inl (T 0, 24, .inl f11)), ((a 17), .inl (T 0, 24, .inl (upd (upd e9 (xx.toNatClampNeg) z_113) (xx.toNatClampNeg) z_167))), ((a 18), .inl (T 0, 24, .inl (upd p9 (xx.toNatClampNeg) 1))), ((a 19), .inl (T 0, 24, .inl (upd d9 (xx.toNatClampNeg) 1)))] := hD
                obtain ⟨z_181, ez_181⟩ : ∃ y : Int32, y = xx + 1 := ⟨_, rfl⟩
                refine lv_iinc (v := z_181) (lv' := [(1, .int z_181), (4, .int z_5), (3, .int z_4), (2, .int r_3), (0, .ref h0)]) hx hb dX13_laysParts_206 hl (k := 3) rfl (by rw [ez_181]; rfl) (by decide) rfl (fun ls hl => ?_)
                have hz_1819 : z_181.toInt = xx.toInt + 1 := by rw [ez_181]; exact inc1 (n := 1000) (by omega) (by decide)
                refine lv_goto (tgt := 2) hx hb dX13_laysParts_209 (by decide) ?_
                exact ih (z_181, (upd (upd e9 (xx.toNatClampNeg) z_113) (xx.toNatClampNeg) z_167), (upd p9 (xx.toNatClampNeg) 1), (upd d9 (xx.toNatClampNeg) 1)) ls _ _ ⟨lv_sub hl [0, 4] rfl, hP.sub [0, 1, 2, 3, 4, 5, 6, 7] rfl, hD.sub [0, 1, 2, 3, 4, 5, 6, 7] (by decide) rfl, hS, ⟨(by rw [hz_1819]; omega), (by rw [upd_upd]; exact okE_step (n := 0) hEE (by omega) hz_1819 (by omega) (fun hk9 => by exfalso; omega) (okR.late hokR))⟩⟩ (by (try dsimp only); rw [hz_1819]; omega)
            · rw [fa_le] at c_170
              try rw [ti_1] at c_170
              refine lv_aload_n hx hb dX13_laysParts_147 rfl (lv_at hl 4 rfl) ?_
              refine va_get (D := D) (ci := 10) (v := .ref (a 18)) (C := RX13) (T := TX13) (N := 45) hx hb hts in_X13_laysParts_X13 hown hE.1 hP 0 rfl rfl 18 (by decide) (hts (.fieldLink RX13 50 "ClauseBookModel" "parts" "[I") (List.mem_of_getElem? (i := 14) rfl)) (fun _ h9 => h9) rfl dX13_laysParts_148 ?_
              refine lv_iload hx hb dX13_laysParts_151 (lv_at hl 0 rfl) ?_
              refine va_iald hx hb hE.1 hP 6 0 rfl rfl (by rw [vp_in_iff]; first | omega | (subst_vars; omega)) dX13_laysParts_153 ?_
              refine lv_topi (fun z_182 ez_182 => ?_)
              refine lv_goto (tgt := 158) hx hb dX13_laysParts_154 (by decide) ?_
              refine lv_iadd hx hb dX13_laysParts_158 ?_
              refine va_iast hx hb hE.1 hP hD hS 6 0 rfl rfl (by rw [vp_in_iff]; first | omega | (subst_vars; omega)) dX13_laysParts_159 (fun H locs hP hD hS => ?_)
              have hP : va_P D vwCl [(h0, .inr (10, [.int (q 0), .int (q 1), .int (q 2), .int (q 3), .int (q 4), .int (q 5), .int (q 6), .int (q 7), .ref (a 8), .ref (a 9), .ref (a 10), .ref (a 11), .ref (a 12), .ref (a 13), .int (q 14), .long v, .long w, .ref (a 17), .ref (a 18), .ref (a 19), .ref (a 20), .ref (a 21), .ref (a 22), .ref (a 23), .int (q 24), .ref (a 25), .int (q 26), .ref (a 27), .int (q 28), .int (q 29), .int (q 30), .int (q 31), .int (q 32), .int (q 33), .ref (a 34), .ref (a 35), .ref (a 36), .ref (a 37), .ref (a 38), .ref (a 39), .ref (a 40), .int (q 41), .ref (a 42), .int (q 43), .int (q 44)])), ((a 8), .inl (T 0, 24, .inl f8)), ((a 9), .inl (T 0, 24, .inl f9)), ((a 10), .inl (T 0, 24, .inl f10)), ((a 11), .inl (T 0, 24, .inl f11)), ((a 17), .inl (T 0, 24, .inl (upd (upd e9 (xx.toNatClampNeg) z_113) (xx.toNatClampNeg) z_167))), ((a 18), .inl (T 0, 24, .inl (upd p9 (xx.toNatClampNeg) (1 + z_182)))), ((a 19), .inl (T 0, 24, .inl d9))] H := hP
              have hD : va_D A [(h0, .inr (10, [.int (q 0), .int (q 1), .int (q 2), .int (q 3), .int (q 4), .int (q 5), .int (q 6), .int (q 7), .ref (a 8), .ref (a 9), .ref (a 10), .ref (a 11), .ref (a 12), .ref (a 13), .int (q 14), .long v, .long w, .ref (a 17), .ref (a 18), .ref (a 19), .ref (a 20), .ref (a 21), .ref (a 22), .ref (a 23), .int (q 24), .ref (a 25), .int (q 26), .ref (a 27), .int (q 28), .int (q 29), .int (q 30), .int (q 31), .int (q 32), .int (q 33), .ref (a 34), .ref (a 35), .ref (a 36), .ref (a 37), .ref (a 38), .ref (a 39), .ref (a 40), .int (q 41), .ref (a 42), .int (q 43), .int (q 44)])), ((a 8), .inl (T 0, 24, .inl f8)), ((a 9), .inl (T 0, 24, .inl f9)), ((a 10), .inl (T 0, 24, .inl f10)), ((a 11), .inl (T 0, 24, .inl f11)), ((a 17), .inl (T 0, 24, .inl (upd (upd e9 (xx.toNatClampNeg) z_113) (xx.toNatClampNeg) z_167))), ((a 18), .inl (T 0, 24, .inl (upd p9 (xx.toNatClampNeg) (1 + z_182)))), ((a 19), .inl (T 0, 24, .inl d9))] := hD
              refine lv_aload_n hx hb dX13_laysParts_160 rfl (lv_at hl 4 rfl) ?_
              refine va_get (D := D) (ci := 10) (v := .ref (a 19)) (C := RX13) (T := TX13) (N := 45) hx hb hts in_X13_laysParts_X13 hown hE.1 hP 0 rfl rfl 19 (by decide) (hts (.fieldLink RX13 53 "ClauseBookModel" "deep" "[I") (List.mem_of_getElem? (i := 15) rfl)) (fun _ h9 => h9) rfl dX13_laysParts_161 ?_
              refine lv_iload_n hx hb dX13_laysParts_164 rfl (lv_at hl 3 rfl) ?_
              refine lv_iconst (v := 1) hx hb dX13_laysParts_165 (by decide) ?_
              refine lv_iload_n hx hb dX13_laysParts_166 rfl (lv_at hl 2 rfl) ?_
              refine lv_if_ne (tgt := 174) hx hb dX13_laysParts_167 (by decide) (fun c_183 => ?_) (fun c_183 => ?_)
              · rw [fa_eq] at c_183
                try rw [ti_0] at c_183
                refine lv_iload_n hx hb dX13_laysParts_174 rfl (lv_at hl 2 rfl) ?_
                refine lv_iconst (v := 1) hx hb dX13_laysParts_175 (by decide) ?_
                refine lv_icmp_ne (tgt := 188) hx hb dX13_laysParts_176 (by decide) (fun c_184 => ?_) (fun c_184 => ?_)
                · rw [fa_eq] at c_184
                  try rw [ti_1] at c_184
                  refine lv_aload_n hx hb dX13_laysParts_188 rfl (lv_at hl 4 rfl) ?_
                  refine va_get (D := D) (ci := 10) (v := .ref (a 19)) (C := RX13) (T := TX13) (N := 45) hx hb hts in_X13_laysParts_X13 hown hE.1 hP 0 rfl rfl 19 (by decide) (hts (.fieldLink RX13 53 "ClauseBookModel" "deep" "[I") (List.mem_of_getElem? (i := 15) rfl)) (fun _ h9 => h9) rfl dX13_laysParts_189 ?_
                  refine lv_iload_n hx hb dX13_laysParts_192 rfl (lv_at hl 1 rfl) ?_
                  refine va_iald hx hb hE.1 hP 7 0 rfl rfl (by rw [vp_in_iff]; first | omega | (subst_vars; omega)) dX13_laysParts_193 ?_
                  refine lv_topi (fun z_185 ez_185 => ?_)
                  refine lv_aload_n hx hb dX13_laysParts_194 rfl (lv_at hl 4 rfl) ?_
                  refine va_get (D := D) (ci := 10) (v := .ref (a 19)) (C := RX13) (T := TX13) (N := 45) hx hb hts in_X13_laysParts_X13 hown hE.1 hP 0 rfl rfl 19 (by decide) (hts (.fieldLink RX13 53 "ClauseBookModel" "deep" "[I") (List.mem_of_getElem? (i := 15) rfl)) (fun _ h9 => h9) rfl dX13_laysParts_195 ?_
                  refine lv_iload hx hb dX13_laysParts_198 (lv_at hl 0 rfl) ?_
                  refine va_iald hx hb hE.1 hP 7 0 rfl rfl (by rw [vp_in_iff]; first | omega | (subst_vars; omega)) dX13_laysParts_200 ?_
                  refine lv_topi (fun z_186 ez_186 => ?_)
                  refine va_mmax hx hb (hml.trans hl.1.symm) hown (hts (.methodLink RX13 227 Lib.Math.max.name) (List.mem_of_getElem? (i := 6) rfl)) (hts (.static Lib.Math.max.name) (List.mem_of_getElem? (i := 7) rfl)) (hts (.initialized "java/lang/Math") (List.mem_of_getElem? (i := 8) rfl)) (hts (.code Lib.Math.max.name Lib.Math.max.code 2 (some .int)) (List.mem_of_getElem? (i := 9) rfl)) (Nat.le_of_ble_eq_true rfl) (Nat.le_of_ble_eq_true rfl) (Nat.le_of_ble_eq_true rfl) (Nat.le_of_ble_eq_true rfl) dX13_laysParts_201 ?_
                  refine lv_topi (fun z_187 ez_187 => ?_)
                  refine lv_iadd hx hb dX13_laysParts_204 ?_
                  refine va_iast hx hb hE.1 hP hD hS 7 0 rfl rfl (by rw [vp_in_iff]; first | omega | (subst_vars; omega)) dX13_laysParts_205 (fun H locs hP hD hS => ?_)
                  have hP : va_P D vwCl [(h0, .inr (10, [.int (q 0), .int (q 1), .int (q 2), .int (q 3), .int (q 4), .int (q 5), .int (q 6), .int (q 7), .ref (a 8), .ref (a 9), .ref (a 10), .ref (a 11), .ref (a 12), .ref (a 13), .int (q 14), .long v, .long w, .ref (a 17), .ref (a 18), .ref (a 19), .ref (a 20), .ref (a 21), .ref (a 22), .ref (a 23), .int (q 24), .ref (a 25), .int (q 26), .ref (a 27), .int (q 28), .int (q 29), .int (q 30), .int (q 31), .int (q 32), .int (q 33), .ref (a 34), .ref (a 35), .ref (a 36), .ref (a 37), .ref (a 38), .ref (a 39), .ref (a 40), .int (q 41), .ref (a 42), .int (q 43), .int (q 44)])), ((a 8), .inl (T 0, 24, .inl f8)), ((a 9), .inl (T 0, 24, .inl f9)), ((a 10), .inl (T 0, 24, .inl f10)), ((a 11), .inl (T 0, 24, .inl f11)), ((a 17), .inl (T 0, 24, .inl (upd (upd e9 (xx.toNatClampNeg) z_113) (xx.toNatClampNeg) z_167))), ((a 18), .inl (T 0, 24, .inl (upd p9 (xx.toNatClampNeg) (1 + z_182)))), ((a 19), .inl (T 0, 24, .inl (upd d9 (xx.toNatClampNeg) (1 + z_187))))] H := hP
                  have hD : va_D A [(h0, .inr (10, [.int (q 0), .int (q 1), .int (q 2), .int (q 3), .int (q 4), .int (q 5), .int (q 6), .int (q 7), .ref (a 8), .ref (a 9), .ref (a 10), .ref (a 11), .ref (a 12), .ref (a 13), .int (q 14), .long v, .long w, .ref (a 17), .ref (a 18), .ref (a 19), .ref (a 20), .ref (a 21), .ref (a 22), .ref (a 23), .int (q 24), .ref (a 25), .int (q 26), .ref (a 27), .int (q 28), .int (q 29), .int (q 30), .int (q 31), .int (q 32), .int (q 33), .ref (a 34), .ref (a 35), .ref (a 36), .ref (a 37), .ref (a 38), .ref (a 39), .ref (a 40), .int (q 41), .ref (a 42), .int (q 43), .int (q 44)])), ((a 8), .inl (T 0, 24, .inl f8)), ((a 9), .inl (T 0, 24, .inl f9)), ((a 10), .inl (T 0, 24, .inl f10)), ((a 11), .inl (T 0, 24, .inl f11)), ((a 17), .inl (T 0, 24, .inl (upd (upd e9 (xx.toNatClampNeg) z_113) (xx.toNatClampNeg) z_167))), ((a 18), .inl (T 0, 24, .inl (upd p9 (xx.toNatClampNeg) (1 + z_182)))), ((a 19), .inl (T 0, 24, .inl (upd d9 (xx.toNatClampNeg) (1 + z_187))))] := hD
                  obtain ⟨z_188, ez_188⟩ : ∃ y : Int32, y = xx + 1 := ⟨_, rfl⟩
                  refine lv_iinc (v := z_188) (lv' := [(1, .int z_188), (4, .int z_5), (3, .int z_4), (2, .int r_3), (0, .ref h0)]) hx hb dX13_laysParts_206 hl (k := 3) rfl (by rw [ez_188]; rfl) (by decide) rfl (fun ls hl => ?_)
                  have hz_1889 : z_188.toInt = xx.toInt + 1 := by rw [ez_188]; exact inc1 (n := 1000) (by omega) (by decide)
                  refine lv_goto (tgt := 2) hx hb dX13_laysParts_209 (by decide) ?_
                  exact ih (z_188, (upd (upd e9 (xx.toNatClampNeg) z_113) (xx.toNatClampNeg) z_167), (upd p9 (xx.toNatClampNeg) (1 + z_182)), (upd d9 (xx.toNatClampNeg) (1 + z_187))) ls _ _ ⟨lv_sub hl [0, 4] rfl, hP.sub [0, 1, 2, 3, 4, 5, 6, 7] rfl, hD.sub [0, 1, 2, 3, 4, 5, 6, 7] (by decide) rfl, hS, ⟨(by rw [hz_1889]; omega), (by rw [upd_upd]; exact okE_step (n := 0) hEE (by omega) hz_1889 (by omega) (fun hk9 => by exfalso; omega) (okR.late hokR))⟩⟩ (by (try dsimp only); rw [hz_1889]; omega)
                · rw [fa_eq] at c_184
                  try rw [ti_1] at c_184
                  refine lv_aload_n hx hb dX13_laysParts_179 rfl (lv_at hl 4 rfl) ?_
                  refine va_get (D := D) (ci := 10) (v := .ref (a 19)) (C := RX13) (T := TX13) (N := 45) hx hb hts in_X13_laysParts_X13 hown hE.1 hP 0 rfl rfl 19 (by decide) (hts (.fieldLink RX13 53 "ClauseBookModel" "deep" "[I") (List.mem_of_getElem? (i := 15) rfl)) (fun _ h9 => h9) rfl dX13_laysParts_180 ?_
                  refine lv_iload_n hx hb dX13_laysParts_183 rfl (lv_at hl 1 rfl) ?_
                  refine va_iald hx hb hE.1 hP 7 0 rfl rfl (by rw [vp_in_iff]; first | omega | (subst_vars; omega)) dX13_laysParts_184 ?_
                  refine lv_topi (fun z_189 ez_189 => ?_)
                  refine lv_goto (tgt := 204) hx hb dX13_laysParts_185 (by decide) ?_
                  refine lv_iadd hx hb dX13_laysParts_204 ?_
                  refine va_iast hx hb hE.1 hP hD hS 7 0 rfl rfl (by rw [vp_in_iff]; first | omega | (subst_vars; omega)) dX13_laysParts_205 (fun H locs hP hD hS => ?_)
                  have hP : va_P D vwCl [(h0, .inr (10, [.int (q 0), .int (q 1), .int (q 2), .int (q 3), .int (q 4), .int (q 5), .int (q 6), .int (q 7), .ref (a 8), .ref (a 9), .ref (a 10), .ref (a 11), .ref (a 12), .ref (a 13), .int (q 14), .long v, .long w, .ref (a 17), .ref (a 18), .ref (a 19), .ref (a 20), .ref (a 21), .ref (a 22), .ref (a 23), .int (q 24), .ref (a 25), .int (q 26), .ref (a 27), .int (q 28), .int (q 29), .int (q 30), .int (q 31), .int (q 32), .int (q 33), .ref (a 34), .ref (a 35), .ref (a 36), .ref (a 37), .ref (a 38), .ref (a 39), .ref (a 40), .int (q 41), .ref (a 42), .int (q 43), .int (q 44)])), ((a 8), .inl (T 0, 24, .inl f8)), ((a 9), .inl (T 0, 24, .inl f9)), ((a 10), .inl (T 0, 24, .inl f10)), ((a 11), .inl (T 0, 24, .inl f11)), ((a 17), .inl (T 0, 24, .inl (upd (upd e9 (xx.toNatClampNeg) z_113) (xx.toNatClampNeg) z_167))), ((a 18), .inl (T 0, 24, .inl (upd p9 (xx.toNatClampNeg) (1 + z_182)))), ((a 19), .inl (T 0, 24, .inl (upd d9 (xx.toNatClampNeg) (1 + z_189))))] H := hP
                  have hD : va_D A [(h0, .inr (10, [.int (q 0), .int (q 1), .int (q 2), .int (q 3), .int (q 4), .int (q 5), .int (q 6), .int (q 7), .ref (a 8), .ref (a 9), .ref (a 10), .ref (a 11), .ref (a 12), .ref (a 13), .int (q 14), .long v, .long w, .ref (a 17), .ref (a 18), .ref (a 19), .ref (a 20), .ref (a 21), .ref (a 22), .ref (a 23), .int (q 24), .ref (a 25), .int (q 26), .ref (a 27), .int (q 28), .int (q 29), .int (q 30), .int (q 31), .int (q 32), .int (q 33), .ref (a 34), .ref (a 35), .ref (a 36), .ref (a 37), .ref (a 38), .ref (a 39), .ref (a 40), .int (q 41), .ref (a 42), .int (q 43), .int (q 44)])), ((a 8), .inl (T 0, 24, .inl f8)), ((a 9), .inl (T 0, 24, .inl f9)), ((a 10), .inl (T 0, 24, .inl f10)), ((a 11), .inl (T 0, 24, .inl f11)), ((a 17), .inl (T 0, 24, .inl (upd (upd e9 (xx.toNatClampNeg) z_113) (xx.toNatClampNeg) z_167))), ((a 18), .inl (T 0, 24, .inl (upd p9 (xx.toNatClampNeg) (1 + z_182)))), ((a 19), .inl (T 0, 24, .inl (upd d9 (xx.toNatClampNeg) (1 + z_189))))] := hD
                  obtain ⟨z_190, ez_190⟩ : ∃ y : Int32, y = xx + 1 := ⟨_, rfl⟩
                  refine lv_iinc (v := z_190) (lv' := [(1, .int z_190), (4, .int z_5), (3, .int z_4), (2, .int r_3), (0, .ref h0)]) hx hb dX13_laysParts_206 hl (k := 3) rfl (by rw [ez_190]; rfl) (by decide) rfl (fun ls hl => ?_)
                  have hz_1909 : z_190.toInt = xx.toInt + 1 := by rw [ez_190]; exact inc1 (n := 1000) (by omega) (by decide)
                  refine lv_goto (tgt := 2) hx hb dX13_laysParts_209 (by decide) ?_
                  exact ih (z_190, (upd (upd e9 (xx.toNatClampNeg) z_113) (xx.toNatClampNeg) z_167), (upd p9 (xx.toNatClampNeg) (1 + z_182)), (upd d9 (xx.toNatClampNeg) (1 + z_189))) ls _ _ ⟨lv_sub hl [0, 4] rfl, hP.sub [0, 1, 2, 3, 4, 5, 6, 7] rfl, hD.sub [0, 1, 2, 3, 4, 5, 6, 7] (by decide) rfl, hS, ⟨(by rw [hz_1909]; omega), (by rw [upd_upd]; exact okE_step (n := 0) hEE (by omega) hz_1909 (by omega) (fun hk9 => by exfalso; omega) (okR.late hokR))⟩⟩ (by (try dsimp only); rw [hz_1909]; omega)
              · rw [fa_eq] at c_183
                try rw [ti_0] at c_183
                refine lv_iconst (v := 0) hx hb dX13_laysParts_170 (by decide) ?_
                refine lv_goto (tgt := 204) hx hb dX13_laysParts_171 (by decide) ?_
                refine lv_iadd hx hb dX13_laysParts_204 ?_
                refine lv_topi (fun z_191 ez_191 => ?_)
                obtain rfl : z_191 = 1 := ez_191.trans (by decide)
                refine va_iast hx hb hE.1 hP hD hS 7 0 rfl rfl (by rw [vp_in_iff]; first | omega | (subst_vars; omega)) dX13_laysParts_205 (fun H locs hP hD hS => ?_)
                have hP : va_P D vwCl [(h0, .inr (10, [.int (q 0), .int (q 1), .int (q 2), .int (q 3), .int (q 4), .int (q 5), .int (q 6), .int (q 7), .ref (a 8), .ref (a 9), .ref (a 10), .ref (a 11), .ref (a 12), .ref (a 13), .int (q 14), .long v, .long w, .ref (a 17), .ref (a 18), .ref (a 19), .ref (a 20), .ref (a 21), .ref (a 22), .ref (a 23), .int (q 24), .ref (a 25), .int (q 26), .ref (a 27), .int (q 28), .int (q 29), .int (q 30), .int (q 31), .int (q 32), .int (q 33), .ref (a 34), .ref (a 35), .ref (a 36), .ref (a 37), .ref (a 38), .ref (a 39), .ref (a 40), .int (q 41), .ref (a 42), .int (q 43), .int (q 44)])), ((a 8), .inl (T 0, 24, .inl f8)), ((a 9), .inl (T 0, 24, .inl f9)), ((a 10), .inl (T 0, 24, .inl f10)), ((a 11), .inl (T 0, 24, .inl f11)), ((a 17), .inl (T 0, 24, .inl (upd (upd e9 (xx.toNatClampNeg) z_113) (xx.toNatClampNeg) z_167))), ((a 18), .inl (T 0, 24, .inl (upd p9 (xx.toNatClampNeg) (1 + z_182)))), ((a 19), .inl (T 0, 24, .inl (upd d9 (xx.toNatClampNeg) 1)))] H := hP
                have hD : va_D A [(h0, .inr (10, [.int (q 0), .int (q 1), .int (q 2), .int (q 3), .int (q 4), .int (q 5), .int (q 6), .int (q 7), .ref (a 8), .ref (a 9), .ref (a 10), .ref (a 11), .ref (a 12), .ref (a 13), .int (q 14), .long v, .long w, .ref (a 17), .ref (a 18), .ref (a 19), .ref (a 20), .ref (a 21), .ref (a 22), .ref (a 23), .int (q 24), .ref (a 25), .int (q 26), .ref (a 27), .int (q 28), .int (q 29), .int (q 30), .int (q 31), .int (q 32), .int (q 33), .ref (a 34), .ref (a 35), .ref (a 36), .ref (a 37), .ref (a 38), .ref (a 39), .ref (a 40), .int (q 41), .ref (a 42), .int (q 43), .int (q 44)])), ((a 8), .inl (T 0, 24, .inl f8)), ((a 9), .inl (T 0, 24, .inl f9)), ((a 10), .inl (T 0, 24, .inl f10)), ((a 11), .inl (T 0, 24, .inl f11)), ((a 17), .inl (T 0, 24, .inl (upd (upd e9 (xx.toNatClampNeg) z_113) (xx.toNatClampNeg) z_167))), ((a 18), .inl (T 0, 24, .inl (upd p9 (xx.toNatClampNeg) (1 + z_182)))), ((a 19), .inl (T 0, 24, .inl (upd d9 (xx.toNatClampNeg) 1)))] := hD
                obtain ⟨z_192, ez_192⟩ : ∃ y : Int32, y = xx + 1 := ⟨_, rfl⟩
                refine lv_iinc (v := z_192) (lv' := [(1, .int z_192), (4, .int z_5), (3, .int z_4), (2, .int r_3), (0, .ref h0)]) hx hb dX13_laysParts_206 hl (k := 3) rfl (by rw [ez_192]; rfl) (by decide) rfl (fun ls hl => ?_)
                have hz_1929 : z_192.toInt = xx.toInt + 1 := by rw [ez_192]; exact inc1 (n := 1000) (by omega) (by decide)
                refine lv_goto (tgt := 2) hx hb dX13_laysParts_209 (by decide) ?_
                exact ih (z_192, (upd (upd e9 (xx.toNatClampNeg) z_113) (xx.toNatClampNeg) z_167), (upd p9 (xx.toNatClampNeg) (1 + z_182)), (upd d9 (xx.toNatClampNeg) 1)) ls _ _ ⟨lv_sub hl [0, 4] rfl, hP.sub [0, 1, 2, 3, 4, 5, 6, 7] rfl, hD.sub [0, 1, 2, 3, 4, 5, 6, 7] (by decide) rfl, hS, ⟨(by rw [hz_1929]; omega), (by rw [upd_upd]; exact okE_step (n := 0) hEE (by omega) hz_1929 (by omega) (fun hk9 => by exfalso; omega) (okR.late hokR))⟩⟩ (by (try dsimp only); rw [hz_1929]; omega)
          · rw [fa_le] at c_168
            try rw [ti_0] at c_168
            refine lv_aload_n hx hb dX13_laysParts_131 rfl (lv_at hl 4 rfl) ?_
            refine va_get (D := D) (ci := 10) (v := .ref (a 18)) (C := RX13) (T := TX13) (N := 45) hx hb hts in_X13_laysParts_X13 hown hE.1 hP 0 rfl rfl 18 (by decide) (hts (.fieldLink RX13 50 "ClauseBookModel" "parts" "[I") (List.mem_of_getElem? (i := 14) rfl)) (fun _ h9 => h9) rfl dX13_laysParts_132 ?_
            refine lv_iload_n hx hb dX13_laysParts_135 rfl (lv_at hl 1 rfl) ?_
            refine va_iald hx hb hE.1 hP 6 0 rfl rfl (by rw [vp_in_iff]; first | omega | (subst_vars; omega)) dX13_laysParts_136 ?_
            refine lv_topi (fun z_193 ez_193 => ?_)
            refine lv_goto (tgt := 141) hx hb dX13_laysParts_137 (by decide) ?_
            refine lv_iadd hx hb dX13_laysParts_141 ?_
            refine lv_iload_n hx hb dX13_laysParts_142 rfl (lv_at hl 2 rfl) ?_
            refine lv_iconst (v := 1) hx hb dX13_laysParts_143 (by decide) ?_
            refine lv_icmp_le (tgt := 157) hx hb dX13_laysParts_144 (by decide) (fun c_194 => ?_) (fun c_194 => ?_)
            · rw [fa_le] at c_194
              try rw [ti_1] at c_194
              refine lv_iconst (v := 0) hx hb dX13_laysParts_157 (by decide) ?_
              refine lv_iadd hx hb dX13_laysParts_158 ?_
              refine va_iast hx hb hE.1 hP hD hS 6 0 rfl rfl (by rw [vp_in_iff]; first | omega | (subst_vars; omega)) dX13_laysParts_159 (fun H locs hP hD hS => ?_)
              have hP : va_P D vwCl [(h0, .inr (10, [.int (q 0), .int (q 1), .int (q 2), .int (q 3), .int (q 4), .int (q 5), .int (q 6), .int (q 7), .ref (a 8), .ref (a 9), .ref (a 10), .ref (a 11), .ref (a 12), .ref (a 13), .int (q 14), .long v, .long w, .ref (a 17), .ref (a 18), .ref (a 19), .ref (a 20), .ref (a 21), .ref (a 22), .ref (a 23), .int (q 24), .ref (a 25), .int (q 26), .ref (a 27), .int (q 28), .int (q 29), .int (q 30), .int (q 31), .int (q 32), .int (q 33), .ref (a 34), .ref (a 35), .ref (a 36), .ref (a 37), .ref (a 38), .ref (a 39), .ref (a 40), .int (q 41), .ref (a 42), .int (q 43), .int (q 44)])), ((a 8), .inl (T 0, 24, .inl f8)), ((a 9), .inl (T 0, 24, .inl f9)), ((a 10), .inl (T 0, 24, .inl f10)), ((a 11), .inl (T 0, 24, .inl f11)), ((a 17), .inl (T 0, 24, .inl (upd (upd e9 (xx.toNatClampNeg) z_113) (xx.toNatClampNeg) z_167))), ((a 18), .inl (T 0, 24, .inl (upd p9 (xx.toNatClampNeg) ((1 + z_193) + 0)))), ((a 19), .inl (T 0, 24, .inl d9))] H := hP
              have hD : va_D A [(h0, .inr (10, [.int (q 0), .int (q 1), .int (q 2), .int (q 3), .int (q 4), .int (q 5), .int (q 6), .int (q 7), .ref (a 8), .ref (a 9), .ref (a 10), .ref (a 11), .ref (a 12), .ref (a 13), .int (q 14), .long v, .long w, .ref (a 17), .ref (a 18), .ref (a 19), .ref (a 20), .ref (a 21), .ref (a 22), .ref (a 23), .int (q 24), .ref (a 25), .int (q 26), .ref (a 27), .int (q 28), .int (q 29), .int (q 30), .int (q 31), .int (q 32), .int (q 33), .ref (a 34), .ref (a 35), .ref (a 36), .ref (a 37), .ref (a 38), .ref (a 39), .ref (a 40), .int (q 41), .ref (a 42), .int (q 43), .int (q 44)])), ((a 8), .inl (T 0, 24, .inl f8)), ((a 9), .inl (T 0, 24, .inl f9)), ((a 10), .inl (T 0, 24, .inl f10)), ((a 11), .inl (T 0, 24, .inl f11)), ((a 17), .inl (T 0, 24, .inl (upd (upd e9 (xx.toNatClampNeg) z_113) (xx.toNatClampNeg) z_167))), ((a 18), .inl (T 0, 24, .inl (upd p9 (xx.toNatClampNeg) ((1 + z_193) + 0)))), ((a 19), .inl (T 0, 24, .inl d9))] := hD
              refine lv_aload_n hx hb dX13_laysParts_160 rfl (lv_at hl 4 rfl) ?_
              refine va_get (D := D) (ci := 10) (v := .ref (a 19)) (C := RX13) (T := TX13) (N := 45) hx hb hts in_X13_laysParts_X13 hown hE.1 hP 0 rfl rfl 19 (by decide) (hts (.fieldLink RX13 53 "ClauseBookModel" "deep" "[I") (List.mem_of_getElem? (i := 15) rfl)) (fun _ h9 => h9) rfl dX13_laysParts_161 ?_
              refine lv_iload_n hx hb dX13_laysParts_164 rfl (lv_at hl 3 rfl) ?_
              refine lv_iconst (v := 1) hx hb dX13_laysParts_165 (by decide) ?_
              refine lv_iload_n hx hb dX13_laysParts_166 rfl (lv_at hl 2 rfl) ?_
              refine lv_if_ne (tgt := 174) hx hb dX13_laysParts_167 (by decide) (fun c_195 => ?_) (fun c_195 => ?_)
              · rw [fa_eq] at c_195
                try rw [ti_0] at c_195
                refine lv_iload_n hx hb dX13_laysParts_174 rfl (lv_at hl 2 rfl) ?_
                refine lv_iconst (v := 1) hx hb dX13_laysParts_175 (by decide) ?_
                refine lv_icmp_ne (tgt := 188) hx hb dX13_laysParts_176 (by decide) (fun c_196 => ?_) (fun c_196 => ?_)
                · rw [fa_eq] at c_196
                  try rw [ti_1] at c_196
                  refine lv_aload_n hx hb dX13_laysParts_188 rfl (lv_at hl 4 rfl) ?_
                  refine va_get (D := D) (ci := 10) (v := .ref (a 19)) (C := RX13) (T := TX13) (N := 45) hx hb hts in_X13_laysParts_X13 hown hE.1 hP 0 rfl rfl 19 (by decide) (hts (.fieldLink RX13 53 "ClauseBookModel" "deep" "[I") (List.mem_of_getElem? (i := 15) rfl)) (fun _ h9 => h9) rfl dX13_laysParts_189 ?_
                  refine lv_iload_n hx hb dX13_laysParts_192 rfl (lv_at hl 1 rfl) ?_
                  refine va_iald hx hb hE.1 hP 7 0 rfl rfl (by rw [vp_in_iff]; first | omega | (subst_vars; omega)) dX13_laysParts_193 ?_
                  refine lv_topi (fun z_197 ez_197 => ?_)
                  refine lv_aload_n hx hb dX13_laysParts_194 rfl (lv_at hl 4 rfl) ?_
                  refine va_get (D := D) (ci := 10) (v := .ref (a 19)) (C := RX13) (T := TX13) (N := 45) hx hb hts in_X13_laysParts_X13 hown hE.1 hP 0 rfl rfl 19 (by decide) (hts (.fieldLink RX13 53 "ClauseBookModel" "deep" "[I") (List.mem_of_getElem? (i := 15) rfl)) (fun _ h9 => h9) rfl dX13_laysParts_195 ?_
                  refine lv_iload hx hb dX13_laysParts_198 (lv_at hl 0 rfl) ?_
                  refine va_iald hx hb hE.1 hP 7 0 rfl rfl (by rw [vp_in_iff]; first | omega | (subst_vars; omega)) dX13_laysParts_200 ?_
                  refine lv_topi (fun z_198 ez_198 => ?_)
                  refine va_mmax hx hb (hml.trans hl.1.symm) hown (hts (.methodLink RX13 227 Lib.Math.max.name) (List.mem_of_getElem? (i := 6) rfl)) (hts (.static Lib.Math.max.name) (List.mem_of_getElem? (i := 7) rfl)) (hts (.initialized "java/lang/Math") (List.mem_of_getElem? (i := 8) rfl)) (hts (.code Lib.Math.max.name Lib.Math.max.code 2 (some .int)) (List.mem_of_getElem? (i := 9) rfl)) (Nat.le_of_ble_eq_true rfl) (Nat.le_of_ble_eq_true rfl) (Nat.le_of_ble_eq_true rfl) (Nat.le_of_ble_eq_true rfl) dX13_laysParts_201 ?_
                  refine lv_topi (fun z_199 ez_199 => ?_)
                  refine lv_iadd hx hb dX13_laysParts_204 ?_
                  refine va_iast hx hb hE.1 hP hD hS 7 0 rfl rfl (by rw [vp_in_iff]; first | omega | (subst_vars; omega)) dX13_laysParts_205 (fun H locs hP hD hS => ?_)
                  have hP : va_P D vwCl [(h0, .inr (10, [.int (q 0), .int (q 1), .int (q 2), .int (q 3), .int (q 4), .int (q 5), .int (q 6), .int (q 7), .ref (a 8), .ref (a 9), .ref (a 10), .ref (a 11), .ref (a 12), .ref (a 13), .int (q 14), .long v, .long w, .ref (a 17), .ref (a 18), .ref (a 19), .ref (a 20), .ref (a 21), .ref (a 22), .ref (a 23), .int (q 24), .ref (a 25), .int (q 26), .ref (a 27), .int (q 28), .int (q 29), .int (q 30), .int (q 31), .int (q 32), .int (q 33), .ref (a 34), .ref (a 35), .ref (a 36), .ref (a 37), .ref (a 38), .ref (a 39), .ref (a 40), .int (q 41), .ref (a 42), .int (q 43), .int (q 44)])), ((a 8), .inl (T 0, 24, .inl f8)), ((a 9), .inl (T 0, 24, .inl f9)), ((a 10), .inl (T 0, 24, .inl f10)), ((a 11), .inl (T 0, 24, .inl f11)), ((a 17), .inl (T 0, 24, .inl (upd (upd e9 (xx.toNatClampNeg) z_113) (xx.toNatClampNeg) z_167))), ((a 18), .inl (T 0, 24, .inl (upd p9 (xx.toNatClampNeg) ((1 + z_193) + 0)))), ((a 19), .inl (T 0, 24, .inl (upd d9 (xx.toNatClampNeg) (1 + z_199))))] H := hP
                  have hD : va_D A [(h0, .inr (10, [.int (q 0), .int (q 1), .int (q 2), .int (q 3), .int (q 4), .int (q 5), .int (q 6), .int (q 7), .ref (a 8), .ref (a 9), .ref (a 10), .ref (a 11), .ref (a 12), .ref (a 13), .int (q 14), .long v, .long w, .ref (a 17), .ref (a 18), .ref (a 19), .ref (a 20), .ref (a 21), .ref (a 22), .ref (a 23), .int (q 24), .ref (a 25), .int (q 26), .ref (a 27), .int (q 28), .int (q 29), .int (q 30), .int (q 31), .int (q 32), .int (q 33), .ref (a 34), .ref (a 35), .ref (a 36), .ref (a 37), .ref (a 38), .ref (a 39), .ref (a 40), .int (q 41), .ref (a 42), .int (q 43), .int (q 44)])), ((a 8), .inl (T 0, 24, .inl f8)), ((a 9), .inl (T 0, 24, .inl f9)), ((a 10), .inl (T 0, 24, .inl f10)), ((a 11), .inl (T 0, 24, .inl f11)), ((a 17), .inl (T 0, 24, .inl (upd (upd e9 (xx.toNatClampNeg) z_113) (xx.toNatClampNeg) z_167))), ((a 18), .inl (T 0, 24, .inl (upd p9 (xx.toNatClampNeg) ((1 + z_193) + 0)))), ((a 19), .inl (T 0, 24, .inl (upd d9 (xx.toNatClampNeg) (1 + z_199))))] := hD
                  obtain ⟨z_200, ez_200⟩ : ∃ y : Int32, y = xx + 1 := ⟨_, rfl⟩
                  refine lv_iinc (v := z_200) (lv' := [(1, .int z_200), (4, .int z_5), (3, .int z_4), (2, .int r_3), (0, .ref h0)]) hx hb dX13_laysParts_206 hl (k := 3) rfl (by rw [ez_200]; rfl) (by decide) rfl (fun ls hl => ?_)
                  have hz_2009 : z_200.toInt = xx.toInt + 1 := by rw [ez_200]; exact inc1 (n := 1000) (by omega) (by decide)
                  refine lv_goto (tgt := 2) hx hb dX13_laysParts_209 (by decide) ?_
                  exact ih (z_200, (upd (upd e9 (xx.toNatClampNeg) z_113) (xx.toNatClampNeg) z_167), (upd p9 (xx.toNatClampNeg) ((1 + z_193) + 0)), (upd d9 (xx.toNatClampNeg) (1 + z_199))) ls _ _ ⟨lv_sub hl [0, 4] rfl, hP.sub [0, 1, 2, 3, 4, 5, 6, 7] rfl, hD.sub [0, 1, 2, 3, 4, 5, 6, 7] (by decide) rfl, hS, ⟨(by rw [hz_2009]; omega), (by rw [upd_upd]; exact okE_step (n := 0) hEE (by omega) hz_2009 (by omega) (fun hk9 => by exfalso; omega) (okR.late hokR))⟩⟩ (by (try dsimp only); rw [hz_2009]; omega)
                · rw [fa_eq] at c_196
                  try rw [ti_1] at c_196
                  refine lv_aload_n hx hb dX13_laysParts_179 rfl (lv_at hl 4 rfl) ?_
                  refine va_get (D := D) (ci := 10) (v := .ref (a 19)) (C := RX13) (T := TX13) (N := 45) hx hb hts in_X13_laysParts_X13 hown hE.1 hP 0 rfl rfl 19 (by decide) (hts (.fieldLink RX13 53 "ClauseBookModel" "deep" "[I") (List.mem_of_getElem? (i := 15) rfl)) (fun _ h9 => h9) rfl dX13_laysParts_180 ?_
                  refine lv_iload_n hx hb dX13_laysParts_183 rfl (lv_at hl 1 rfl) ?_
                  refine va_iald hx hb hE.1 hP 7 0 rfl rfl (by rw [vp_in_iff]; first | omega | (subst_vars; omega)) dX13_laysParts_184 ?_
                  refine lv_topi (fun z_201 ez_201 => ?_)
                  refine lv_goto (tgt := 204) hx hb dX13_laysParts_185 (by decide) ?_
                  refine lv_iadd hx hb dX13_laysParts_204 ?_
                  refine va_iast hx hb hE.1 hP hD hS 7 0 rfl rfl (by rw [vp_in_iff]; first | omega | (subst_vars; omega)) dX13_laysParts_205 (fun H locs hP hD hS => ?_)
                  have hP : va_P D vwCl [(h0, .inr (10, [.int (q 0), .int (q 1), .int (q 2), .int (q 3), .int (q 4), .int (q 5), .int (q 6), .int (q 7), .ref (a 8), .ref (a 9), .ref (a 10), .ref (a 11), .ref (a 12), .ref (a 13), .int (q 14), .long v, .long w, .ref (a 17), .ref (a 18), .ref (a 19), .ref (a 20), .ref (a 21), .ref (a 22), .ref (a 23), .int (q 24), .ref (a 25), .int (q 26), .ref (a 27), .int (q 28), .int (q 29), .int (q 30), .int (q 31), .int (q 32), .int (q 33), .ref (a 34), .ref (a 35), .ref (a 36), .ref (a 37), .ref (a 38), .ref (a 39), .ref (a 40), .int (q 41), .ref (a 42), .int (q 43), .int (q 44)])), ((a 8), .inl (T 0, 24, .inl f8)), ((a 9), .inl (T 0, 24, .inl f9)), ((a 10), .inl (T 0, 24, .inl f10)), ((a 11), .inl (T 0, 24, .inl f11)), ((a 17), .inl (T 0, 24, .inl (upd (upd e9 (xx.toNatClampNeg) z_113) (xx.toNatClampNeg) z_167))), ((a 18), .inl (T 0, 24, .inl (upd p9 (xx.toNatClampNeg) ((1 + z_193) + 0)))), ((a 19), .inl (T 0, 24, .inl (upd d9 (xx.toNatClampNeg) (1 + z_201))))] H := hP
                  have hD : va_D A [(h0, .inr (10, [.int (q 0), .int (q 1), .int (q 2), .int (q 3), .int (q 4), .int (q 5), .int (q 6), .int (q 7), .ref (a 8), .ref (a 9), .ref (a 10), .ref (a 11), .ref (a 12), .ref (a 13), .int (q 14), .long v, .long w, .ref (a 17), .ref (a 18), .ref (a 19), .ref (a 20), .ref (a 21), .ref (a 22), .ref (a 23), .int (q 24), .ref (a 25), .int (q 26), .ref (a 27), .int (q 28), .int (q 29), .int (q 30), .int (q 31), .int (q 32), .int (q 33), .ref (a 34), .ref (a 35), .ref (a 36), .ref (a 37), .ref (a 38), .ref (a 39), .ref (a 40), .int (q 41), .ref (a 42), .int (q 43), .int (q 44)])), ((a 8), .inl (T 0, 24, .inl f8)), ((a 9), .inl (T 0, 24, .inl f9)), ((a 10), .inl (T 0, 24, .inl f10)), ((a 11), .inl (T 0, 24, .inl f11)), ((a 17), .inl (T 0, 24, .inl (upd (upd e9 (xx.toNatClampNeg) z_113) (xx.toNatClampNeg) z_167))), ((a 18), .inl (T 0, 24, .inl (upd p9 (xx.toNatClampNeg) ((1 + z_193) + 0)))), ((a 19), .inl (T 0, 24, .inl (upd d9 (xx.toNatClampNeg) (1 + z_201))))] := hD
                  obtain ⟨z_202, ez_202⟩ : ∃ y : Int32, y = xx + 1 := ⟨_, rfl⟩
                  refine lv_iinc (v := z_202) (lv' := [(1, .int z_202), (4, .int z_5), (3, .int z_4), (2, .int r_3), (0, .ref h0)]) hx hb dX13_laysParts_206 hl (k := 3) rfl (by rw [ez_202]; rfl) (by decide) rfl (fun ls hl => ?_)
                  have hz_2029 : z_202.toInt = xx.toInt + 1 := by rw [ez_202]; exact inc1 (n := 1000) (by omega) (by decide)
                  refine lv_goto (tgt := 2) hx hb dX13_laysParts_209 (by decide) ?_
                  exact ih (z_202, (upd (upd e9 (xx.toNatClampNeg) z_113) (xx.toNatClampNeg) z_167), (upd p9 (xx.toNatClampNeg) ((1 + z_193) + 0)), (upd d9 (xx.toNatClampNeg) (1 + z_201))) ls _ _ ⟨lv_sub hl [0, 4] rfl, hP.sub [0, 1, 2, 3, 4, 5, 6, 7] rfl, hD.sub [0, 1, 2, 3, 4, 5, 6, 7] (by decide) rfl, hS, ⟨(by rw [hz_2029]; omega), (by rw [upd_upd]; exact okE_step (n := 0) hEE (by omega) hz_2029 (by omega) (fun hk9 => by exfalso; omega) (okR.late hokR))⟩⟩ (by (try dsimp only); rw [hz_2029]; omega)
              · rw [fa_eq] at c_195
                try rw [ti_0] at c_195
                refine lv_iconst (v := 0) hx hb dX13_laysParts_170 (by decide) ?_
                refine lv_goto (tgt := 204) hx hb dX13_laysParts_171 (by decide) ?_
                refine lv_iadd hx hb dX13_laysParts_204 ?_
                refine lv_topi (fun z_203 ez_203 => ?_)
                obtain rfl : z_203 = 1 := ez_203.trans (by decide)
                refine va_iast hx hb hE.1 hP hD hS 7 0 rfl rfl (by rw [vp_in_iff]; first | omega | (subst_vars; omega)) dX13_laysParts_205 (fun H locs hP hD hS => ?_)
                have hP : va_P D vwCl [(h0, .inr (10, [.int (q 0), .int (q 1), .int (q 2), .int (q 3), .int (q 4), .int (q 5), .int (q 6), .int (q 7), .ref (a 8), .ref (a 9), .ref (a 10), .ref (a 11), .ref (a 12), .ref (a 13), .int (q 14), .long v, .long w, .ref (a 17), .ref (a 18), .ref (a 19), .ref (a 20), .ref (a 21), .ref (a 22), .ref (a 23), .int (q 24), .ref (a 25), .int (q 26), .ref (a 27), .int (q 28), .int (q 29), .int (q 30), .int (q 31), .int (q 32), .int (q 33), .ref (a 34), .ref (a 35), .ref (a 36), .ref (a 37), .ref (a 38), .ref (a 39), .ref (a 40), .int (q 41), .ref (a 42), .int (q 43), .int (q 44)])), ((a 8), .inl (T 0, 24, .inl f8)), ((a 9), .inl (T 0, 24, .inl f9)), ((a 10), .inl (T 0, 24, .inl f10)), ((a 11), .inl (T 0, 24, .inl f11)), ((a 17), .inl (T 0, 24, .inl (upd (upd e9 (xx.toNatClampNeg) z_113) (xx.toNatClampNeg) z_167))), ((a 18), .inl (T 0, 24, .inl (upd p9 (xx.toNatClampNeg) ((1 + z_193) + 0)))), ((a 19), .inl (T 0, 24, .inl (upd d9 (xx.toNatClampNeg) 1)))] H := hP
                have hD : va_D A [(h0, .inr (10, [.int (q 0), .int (q 1), .int (q 2), .int (q 3), .int (q 4), .int (q 5), .int (q 6), .int (q 7), .ref (a 8), .ref (a 9), .ref (a 10), .ref (a 11), .ref (a 12), .ref (a 13), .int (q 14), .long v, .long w, .ref (a 17), .ref (a 18), .ref (a 19), .ref (a 20), .ref (a 21), .ref (a 22), .ref (a 23), .int (q 24), .ref (a 25), .int (q 26), .ref (a 27), .int (q 28), .int (q 29), .int (q 30), .int (q 31), .int (q 32), .int (q 33), .ref (a 34), .ref (a 35), .ref (a 36), .ref (a 37), .ref (a 38), .ref (a 39), .ref (a 40), .int (q 41), .ref (a 42), .int (q 43), .int (q 44)])), ((a 8), .inl (T 0, 24, .inl f8)), ((a 9), .inl (T 0, 24, .inl f9)), ((a 10), .inl (T 0, 24, .inl f10)), ((a 11), .inl (T 0, 24, .inl f11)), ((a 17), .inl (T 0, 24, .inl (upd (upd e9 (xx.toNatClampNeg) z_113) (xx.toNatClampNeg) z_167))), ((a 18), .inl (T 0, 24, .inl (upd p9 (xx.toNatClampNeg) ((1 + z_193) + 0)))), ((a 19), .inl (T 0, 24, .inl (upd d9 (xx.toNatClampNeg) 1)))] := hD
                obtain ⟨z_204, ez_204⟩ : ∃ y : Int32, y = xx + 1 := ⟨_, rfl⟩
                refine lv_iinc (v := z_204) (lv' := [(1, .int z_204), (4, .int z_5), (3, .int z_4), (2, .int r_3), (0, .ref h0)]) hx hb dX13_laysParts_206 hl (k := 3) rfl (by rw [ez_204]; rfl) (by decide) rfl (fun ls hl => ?_)
                have hz_2049 : z_204.toInt = xx.toInt + 1 := by rw [ez_204]; exact inc1 (n := 1000) (by omega) (by decide)
                refine lv_goto (tgt := 2) hx hb dX13_laysParts_209 (by decide) ?_
                exact ih (z_204, (upd (upd e9 (xx.toNatClampNeg) z_113) (xx.toNatClampNeg) z_167), (upd p9 (xx.toNatClampNeg) ((1 + z_193) + 0)), (upd d9 (xx.toNatClampNeg) 1)) ls _ _ ⟨lv_sub hl [0, 4] rfl, hP.sub [0, 1, 2, 3, 4, 5, 6, 7] rfl, hD.sub [0, 1, 2, 3, 4, 5, 6, 7] (by decide) rfl, hS, ⟨(by rw [hz_2049]; omega), (by rw [upd_upd]; exact okE_step (n := 0) hEE (by omega) hz_2049 (by omega) (fun hk9 => by exfalso; omega) (okR.late hokR))⟩⟩ (by (try dsimp only); rw [hz_2049]; omega)
            · rw [fa_le] at c_194
              try rw [ti_1] at c_194
              refine lv_aload_n hx hb dX13_laysParts_147 rfl (lv_at hl 4 rfl) ?_
              refine va_get (D := D) (ci := 10) (v := .ref (a 18)) (C := RX13) (T := TX13) (N := 45) hx hb hts in_X13_laysParts_X13 hown hE.1 hP 0 rfl rfl 18 (by decide) (hts (.fieldLink RX13 50 "ClauseBookModel" "parts" "[I") (List.mem_of_getElem? (i := 14) rfl)) (fun _ h9 => h9) rfl dX13_laysParts_148 ?_
              refine lv_iload hx hb dX13_laysParts_151 (lv_at hl 0 rfl) ?_
              refine va_iald hx hb hE.1 hP 6 0 rfl rfl (by rw [vp_in_iff]; first | omega | (subst_vars; omega)) dX13_laysParts_153 ?_
              refine lv_topi (fun z_205 ez_205 => ?_)
              refine lv_goto (tgt := 158) hx hb dX13_laysParts_154 (by decide) ?_
              refine lv_iadd hx hb dX13_laysParts_158 ?_
              refine va_iast hx hb hE.1 hP hD hS 6 0 rfl rfl (by rw [vp_in_iff]; first | omega | (subst_vars; omega)) dX13_laysParts_159 (fun H locs hP hD hS => ?_)
              have hP : va_P D vwCl [(h0, .inr (10, [.int (q 0), .int (q 1), .int (q 2), .int (q 3), .int (q 4), .int (q 5), .int (q 6), .int (q 7), .ref (a 8), .ref (a 9), .ref (a 10), .ref (a 11), .ref (a 12), .ref (a 13), .int (q 14), .long v, .long w, .ref (a 17), .ref (a 18), .ref (a 19), .ref (a 20), .ref (a 21), .ref (a 22), .ref (a 23), .int (q 24), .ref (a 25), .int (q 26), .ref (a 27), .int (q 28), .int (q 29), .int (q 30), .int (q 31), .int (q 32), .int (q 33), .ref (a 34), .ref (a 35), .ref (a 36), .ref (a 37), .ref (a 38), .ref (a 39), .ref (a 40), .int (q 41), .ref (a 42), .int (q 43), .int (q 44)])), ((a 8), .inl (T 0, 24, .inl f8)), ((a 9), .inl (T 0, 24, .inl f9)), ((a 10), .inl (T 0, 24, .inl f10)), ((a 11), .inl (T 0, 24, .inl f11)), ((a 17), .inl (T 0, 24, .inl (upd (upd e9 (xx.toNatClampNeg) z_113) (xx.toNatClampNeg) z_167))), ((a 18), .inl (T 0, 24, .inl (upd p9 (xx.toNatClampNeg) ((1 + z_193) + z_205)))), ((a 19), .inl (T 0, 24, .inl d9))] H := hP
              have hD : va_D A [(h0, .inr (10, [.int (q 0), .int (q 1), .int (q 2), .int (q 3), .int (q 4), .int (q 5), .int (q 6), .int (q 7), .ref (a 8), .ref (a 9), .ref (a 10), .ref (a 11), .ref (a 12), .ref (a 13), .int (q 14), .long v, .long w, .ref (a 17), .ref (a 18), .ref (a 19), .ref (a 20), .ref (a 21), .ref (a 22), .ref (a 23), .int (q 24), .ref (a 25), .int (q 26), .ref (a 27), .int (q 28), .int (q 29), .int (q 30), .int (q 31), .int (q 32), .int (q 33), .ref (a 34), .ref (a 35), .ref (a 36), .ref (a 37), .ref (a 38), .ref (a 39), .ref (a 40), .int (q 41), .ref (a 42), .int (q 43), .int (q 44)])), ((a 8), .inl (T 0, 24, .inl f8)), ((a 9), .inl (T 0, 24, .inl f9)), ((a 10), .inl (T 0, 24, .inl f10)), ((a 11), .inl (T 0, 24, .inl f11)), ((a 17), .inl (T 0, 24, .inl (upd (upd e9 (xx.toNatClampNeg) z_113) (xx.toNatClampNeg) z_167))), ((a 18), .inl (T 0, 24, .inl (upd p9 (xx.toNatClampNeg) ((1 + z_193) + z_205)))), ((a 19), .inl (T 0, 24, .inl d9))] := hD
              refine lv_aload_n hx hb dX13_laysParts_160 rfl (lv_at hl 4 rfl) ?_
              refine va_get (D := D) (ci := 10) (v := .ref (a 19)) (C := RX13) (T := TX13) (N := 45) hx hb hts in_X13_laysParts_X13 hown hE.1 hP 0 rfl rfl 19 (by decide) (hts (.fieldLink RX13 53 "ClauseBookModel" "deep" "[I") (List.mem_of_getElem? (i := 15) rfl)) (fun _ h9 => h9) rfl dX13_laysParts_161 ?_
              refine lv_iload_n hx hb dX13_laysParts_164 rfl (lv_at hl 3 rfl) ?_
              refine lv_iconst (v := 1) hx hb dX13_laysParts_165 (by decide) ?_
              refine lv_iload_n hx hb dX13_laysParts_166 rfl (lv_at hl 2 rfl) ?_
              refine lv_if_ne (tgt := 174) hx hb dX13_laysParts_167 (by decide) (fun c_206 => ?_) (fun c_206 => ?_)
              · rw [fa_eq] at c_206
                try rw [ti_0] at c_206
                refine lv_iload_n hx hb dX13_laysParts_174 rfl (lv_at hl 2 rfl) ?_
                refine lv_iconst (v := 1) hx hb dX13_laysParts_175 (by decide) ?_
                refine lv_icmp_ne (tgt := 188) hx hb dX13_laysParts_176 (by decide) (fun c_207 => ?_) (fun c_207 => ?_)
                · rw [fa_eq] at c_207
                  try rw [ti_1] at c_207
                  refine lv_aload_n hx hb dX13_laysParts_188 rfl (lv_at hl 4 rfl) ?_
                  refine va_get (D := D) (ci := 10) (v := .ref (a 19)) (C := RX13) (T := TX13) (N := 45) hx hb hts in_X13_laysParts_X13 hown hE.1 hP 0 rfl rfl 19 (by decide) (hts (.fieldLink RX13 53 "ClauseBookModel" "deep" "[I") (List.mem_of_getElem? (i := 15) rfl)) (fun _ h9 => h9) rfl dX13_laysParts_189 ?_
                  refine lv_iload_n hx hb dX13_laysParts_192 rfl (lv_at hl 1 rfl) ?_
                  refine va_iald hx hb hE.1 hP 7 0 rfl rfl (by rw [vp_in_iff]; first | omega | (subst_vars; omega)) dX13_laysParts_193 ?_
                  refine lv_topi (fun z_208 ez_208 => ?_)
                  refine lv_aload_n hx hb dX13_laysParts_194 rfl (lv_at hl 4 rfl) ?_
                  refine va_get (D := D) (ci := 10) (v := .ref (a 19)) (C := RX13) (T := TX13) (N := 45) hx hb hts in_X13_laysParts_X13 hown hE.1 hP 0 rfl rfl 19 (by decide) (hts (.fieldLink RX13 53 "ClauseBookModel" "deep" "[I") (List.mem_of_getElem? (i := 15) rfl)) (fun _ h9 => h9) rfl dX13_laysParts_195 ?_
                  refine lv_iload hx hb dX13_laysParts_198 (lv_at hl 0 rfl) ?_
                  refine va_iald hx hb hE.1 hP 7 0 rfl rfl (by rw [vp_in_iff]; first | omega | (subst_vars; omega)) dX13_laysParts_200 ?_
                  refine lv_topi (fun z_209 ez_209 => ?_)
                  refine va_mmax hx hb (hml.trans hl.1.symm) hown (hts (.methodLink RX13 227 Lib.Math.max.name) (List.mem_of_getElem? (i := 6) rfl)) (hts (.static Lib.Math.max.name) (List.mem_of_getElem? (i := 7) rfl)) (hts (.initialized "java/lang/Math") (List.mem_of_getElem? (i := 8) rfl)) (hts (.code Lib.Math.max.name Lib.Math.max.code 2 (some .int)) (List.mem_of_getElem? (i := 9) rfl)) (Nat.le_of_ble_eq_true rfl) (Nat.le_of_ble_eq_true rfl) (Nat.le_of_ble_eq_true rfl) (Nat.le_of_ble_eq_true rfl) dX13_laysParts_201 ?_
                  refine lv_topi (fun z_210 ez_210 => ?_)
                  refine lv_iadd hx hb dX13_laysParts_204 ?_
                  refine va_iast hx hb hE.1 hP hD hS 7 0 rfl rfl (by rw [vp_in_iff]; first | omega | (subst_vars; omega)) dX13_laysParts_205 (fun H locs hP hD hS => ?_)
                  have hP : va_P D vwCl [(h0, .inr (10, [.int (q 0), .int (q 1), .int (q 2), .int (q 3), .int (q 4), .int (q 5), .int (q 6), .int (q 7), .ref (a 8), .ref (a 9), .ref (a 10), .ref (a 11), .ref (a 12), .ref (a 13), .int (q 14), .long v, .long w, .ref (a 17), .ref (a 18), .ref (a 19), .ref (a 20), .ref (a 21), .ref (a 22), .ref (a 23), .int (q 24), .ref (a 25), .int (q 26), .ref (a 27), .int (q 28), .int (q 29), .int (q 30), .int (q 31), .int (q 32), .int (q 33), .ref (a 34), .ref (a 35), .ref (a 36), .ref (a 37), .ref (a 38), .ref (a 39), .ref (a 40), .int (q 41), .ref (a 42), .int (q 43), .int (q 44)])), ((a 8), .inl (T 0, 24, .inl f8)), ((a 9), .inl (T 0, 24, .inl f9)), ((a 10), .inl (T 0, 24, .inl f10)), ((a 11), .inl (T 0, 24, .inl f11)), ((a 17), .inl (T 0, 24, .inl (upd (upd e9 (xx.toNatClampNeg) z_113) (xx.toNatClampNeg) z_167))), ((a 18), .inl (T 0, 24, .inl (upd p9 (xx.toNatClampNeg) ((1 + z_193) + z_205)))), ((a 19), .inl (T 0, 24, .inl (upd d9 (xx.toNatClampNeg) (1 + z_210))))] H := hP
                  have hD : va_D A [(h0, .inr (10, [.int (q 0), .int (q 1), .int (q 2), .int (q 3), .int (q 4), .int (q 5), .int (q 6), .int (q 7), .ref (a 8), .ref (a 9), .ref (a 10), .ref (a 11), .ref (a 12), .ref (a 13), .int (q 14), .long v, .long w, .ref (a 17), .ref (a 18), .ref (a 19), .ref (a 20), .ref (a 21), .ref (a 22), .ref (a 23), .int (q 24), .ref (a 25), .int (q 26), .ref (a 27), .int (q 28), .int (q 29), .int (q 30), .int (q 31), .int (q 32), .int (q 33), .ref (a 34), .ref (a 35), .ref (a 36), .ref (a 37), .ref (a 38), .ref (a 39), .ref (a 40), .int (q 41), .ref (a 42), .int (q 43), .int (q 44)])), ((a 8), .inl (T 0, 24, .inl f8)), ((a 9), .inl (T 0, 24, .inl f9)), ((a 10), .inl (T 0, 24, .inl f10)), ((a 11), .inl (T 0, 24, .inl f11)), ((a 17), .inl (T 0, 24, .inl (upd (upd e9 (xx.toNatClampNeg) z_113) (xx.toNatClampNeg) z_167))), ((a 18), .inl (T 0, 24, .inl (upd p9 (xx.toNatClampNeg) ((1 + z_193) + z_205)))), ((a 19), .inl (T 0, 24, .inl (upd d9 (xx.toNatClampNeg) (1 + z_210))))] := hD
                  obtain ⟨z_211, ez_211⟩ : ∃ y : Int32, y = xx + 1 := ⟨_, rfl⟩
                  refine lv_iinc (v := z_211) (lv' := [(1, .int z_211), (4, .int z_5), (3, .int z_4), (2, .int r_3), (0, .ref h0)]) hx hb dX13_laysParts_206 hl (k := 3) rfl (by rw [ez_211]; rfl) (by decide) rfl (fun ls hl => ?_)
                  have hz_2119 : z_211.toInt = xx.toInt + 1 := by rw [ez_211]; exact inc1 (n := 1000) (by omega) (by decide)
                  refine lv_goto (tgt := 2) hx hb dX13_laysParts_209 (by decide) ?_
                  exact ih (z_211, (upd (upd e9 (xx.toNatClampNeg) z_113) (xx.toNatClampNeg) z_167), (upd p9 (xx.toNatClampNeg) ((1 + z_193) + z_205)), (upd d9 (xx.toNatClampNeg) (1 + z_210))) ls _ _ ⟨lv_sub hl [0, 4] rfl, hP.sub [0, 1, 2, 3, 4, 5, 6, 7] rfl, hD.sub [0, 1, 2, 3, 4, 5, 6, 7] (by decide) rfl, hS, ⟨(by rw [hz_2119]; omega), (by rw [upd_upd]; exact okE_step (n := 0) hEE (by omega) hz_2119 (by omega) (fun hk9 => by exfalso; omega) (okR.late hokR))⟩⟩ (by (try dsimp only); rw [hz_2119]; omega)
                · rw [fa_eq] at c_207
                  try rw [ti_1] at c_207
                  refine lv_aload_n hx hb dX13_laysParts_179 rfl (lv_at hl 4 rfl) ?_
                  refine va_get (D := D) (ci := 10) (v := .ref (a 19)) (C := RX13) (T := TX13) (N := 45) hx hb hts in_X13_laysParts_X13 hown hE.1 hP 0 rfl rfl 19 (by decide) (hts (.fieldLink RX13 53 "ClauseBookModel" "deep" "[I") (List.mem_of_getElem? (i := 15) rfl)) (fun _ h9 => h9) rfl dX13_laysParts_180 ?_
                  refine lv_iload_n hx hb dX13_laysParts_183 rfl (lv_at hl 1 rfl) ?_
                  refine va_iald hx hb hE.1 hP 7 0 rfl rfl (by rw [vp_in_iff]; first | omega | (subst_vars; omega)) dX13_laysParts_184 ?_
                  refine lv_topi (fun z_212 ez_212 => ?_)
                  refine lv_goto (tgt := 204) hx hb dX13_laysParts_185 (by decide) ?_
                  refine lv_iadd hx hb dX13_laysParts_204 ?_
                  refine va_iast hx hb hE.1 hP hD hS 7 0 rfl rfl (by rw [vp_in_iff]; first | omega | (subst_vars; omega)) dX13_laysParts_205 (fun H locs hP hD hS => ?_)
                  have hP : va_P D vwCl [(h0, .inr (10, [.int (q 0), .int (q 1), .int (q 2), .int (q 3), .int (q 4), .int (q 5), .int (q 6), .int (q 7), .ref (a 8), .ref (a 9), .ref (a 10), .ref (a 11), .ref (a 12), .ref (a 13), .int (q 14), .long v, .long w, .ref (a 17), .ref (a 18), .ref (a 19), .ref (a 20), .ref (a 21), .ref (a 22), .ref (a 23), .int (q 24), .ref (a 25), .int (q 26), .ref (a 27), .int (q 28), .int (q 29), .int (q 30), .int (q 31), .int (q 32), .int (q 33), .ref (a 34), .ref (a 35), .ref (a 36), .ref (a 37), .ref (a 38), .ref (a 39), .ref (a 40), .int (q 41), .ref (a 42), .int (q 43), .int (q 44)])), ((a 8), .inl (T 0, 24, .inl f8)), ((a 9), .inl (T 0, 24, .inl f9)), ((a 10), .inl (T 0, 24, .inl f10)), ((a 11), .inl (T 0, 24, .inl f11)), ((a 17), .inl (T 0, 24, .inl (upd (upd e9 (xx.toNatClampNeg) z_113) (xx.toNatClampNeg) z_167))), ((a 18), .inl (T 0, 24, .inl (upd p9 (xx.toNatClampNeg) ((1 + z_193) + z_205)))), ((a 19), .inl (T 0, 24, .inl (upd d9 (xx.toNatClampNeg) (1 + z_212))))] H := hP
                  have hD : va_D A [(h0, .inr (10, [.int (q 0), .int (q 1), .int (q 2), .int (q 3), .int (q 4), .int (q 5), .int (q 6), .int (q 7), .ref (a 8), .ref (a 9), .ref (a 10), .ref (a 11), .ref (a 12), .ref (a 13), .int (q 14), .long v, .long w, .ref (a 17), .ref (a 18), .ref (a 19), .ref (a 20), .ref (a 21), .ref (a 22), .ref (a 23), .int (q 24), .ref (a 25), .int (q 26), .ref (a 27), .int (q 28), .int (q 29), .int (q 30), .int (q 31), .int (q 32), .int (q 33), .ref (a 34), .ref (a 35), .ref (a 36), .ref (a 37), .ref (a 38), .ref (a 39), .ref (a 40), .int (q 41), .ref (a 42), .int (q 43), .int (q 44)])), ((a 8), .inl (T 0, 24, .inl f8)), ((a 9), .inl (T 0, 24, .inl f9)), ((a 10), .inl (T 0, 24, .inl f10)), ((a 11), .inl (T 0, 24, .inl f11)), ((a 17), .inl (T 0, 24, .inl (upd (upd e9 (xx.toNatClampNeg) z_113) (xx.toNatClampNeg) z_167))), ((a 18), .inl (T 0, 24, .inl (upd p9 (xx.toNatClampNeg) ((1 + z_193) + z_205)))), ((a 19), .inl (T 0, 24, .inl (upd d9 (xx.toNatClampNeg) (1 + z_212))))] := hD
                  obtain ⟨z_213, ez_213⟩ : ∃ y : Int32, y = xx + 1 := ⟨_, rfl⟩
                  refine lv_iinc (v := z_213) (lv' := [(1, .int z_213), (4, .int z_5), (3, .int z_4), (2, .int r_3), (0, .ref h0)]) hx hb dX13_laysParts_206 hl (k := 3) rfl (by rw [ez_213]; rfl) (by decide) rfl (fun ls hl => ?_)
                  have hz_2139 : z_213.toInt = xx.toInt + 1 := by rw [ez_213]; exact inc1 (n := 1000) (by omega) (by decide)
                  refine lv_goto (tgt := 2) hx hb dX13_laysParts_209 (by decide) ?_
                  exact ih (z_213, (upd (upd e9 (xx.toNatClampNeg) z_113) (xx.toNatClampNeg) z_167), (upd p9 (xx.toNatClampNeg) ((1 + z_193) + z_205)), (upd d9 (xx.toNatClampNeg) (1 + z_212))) ls _ _ ⟨lv_sub hl [0, 4] rfl, hP.sub [0, 1, 2, 3, 4, 5, 6, 7] rfl, hD.sub [0, 1, 2, 3, 4, 5, 6, 7] (by decide) rfl, hS, ⟨(by rw [hz_2139]; omega), (by rw [upd_upd]; exact okE_step (n := 0) hEE (by omega) hz_2139 (by omega) (fun hk9 => by exfalso; omega) (okR.late hokR))⟩⟩ (by (try dsimp only); rw [hz_2139]; omega)
              · rw [fa_eq] at c_206
                try rw [ti_0] at c_206
                refine lv_iconst (v := 0) hx hb dX13_laysParts_170 (by decide) ?_
                refine lv_goto (tgt := 204) hx hb dX13_laysParts_171 (by decide) ?_
                refine lv_iadd hx hb dX13_laysParts_204 ?_
                refine lv_topi (fun z_214 ez_214 => ?_)
                obtain rfl : z_214 = 1 := ez_214.trans (by decide)
                refine va_iast hx hb hE.1 hP hD hS 7 0 rfl rfl (by rw [vp_in_iff]; first | omega | (subst_vars; omega)) dX13_laysParts_205 (fun H locs hP hD hS => ?_)
                have hP : va_P D vwCl [(h0, .inr (10, [.int (q 0), .int (q 1), .int (q 2), .int (q 3), .int (q 4), .int (q 5), .int (q 6), .int (q 7), .ref (a 8), .ref (a 9), .ref (a 10), .ref (a 11), .ref (a 12), .ref (a 13), .int (q 14), .long v, .long w, .ref (a 17), .ref (a 18), .ref (a 19), .ref (a 20), .ref (a 21), .ref (a 22), .ref (a 23), .int (q 24), .ref (a 25), .int (q 26), .ref (a 27), .int (q 28), .int (q 29), .int (q 30), .int (q 31), .int (q 32), .int (q 33), .ref (a 34), .ref (a 35), .ref (a 36), .ref (a 37), .ref (a 38), .ref (a 39), .ref (a 40), .int (q 41), .ref (a 42), .int (q 43), .int (q 44)])), ((a 8), .inl (T 0, 24, .inl f8)), ((a 9), .inl (T 0, 24, .inl f9)), ((a 10), .inl (T 0, 24, .inl f10)), ((a 11), .inl (T 0, 24, .inl f11)), ((a 17), .inl (T 0, 24, .inl (upd (upd e9 (xx.toNatClampNeg) z_113) (xx.toNatClampNeg) z_167))), ((a 18), .inl (T 0, 24, .inl (upd p9 (xx.toNatClampNeg) ((1 + z_193) + z_205)))), ((a 19), .inl (T 0, 24, .inl (upd d9 (xx.toNatClampNeg) 1)))] H := hP
                have hD : va_D A [(h0, .inr (10, [.int (q 0), .int (q 1), .int (q 2), .int (q 3), .int (q 4), .int (q 5), .int (q 6), .int (q 7), .ref (a 8), .ref (a 9), .ref (a 10), .ref (a 11), .ref (a 12), .ref (a 13), .int (q 14), .long v, .long w, .ref (a 17), .ref (a 18), .ref (a 19), .ref (a 20), .ref (a 21), .ref (a 22), .ref (a 23), .int (q 24), .ref (a 25), .int (q 26), .ref (a 27), .int (q 28), .int (q 29), .int (q 30), .int (q 31), .int (q 32), .int (q 33), .ref (a 34), .ref (a 35), .ref (a 36), .ref (a 37), .ref (a 38), .ref (a 39), .ref (a 40), .int (q 41), .ref (a 42), .int (q 43), .int (q 44)])), ((a 8), .inl (T 0, 24, .inl f8)), ((a 9), .inl (T 0, 24, .inl f9)), ((a 10), .inl (T 0, 24, .inl f10)), ((a 11), .inl (T 0, 24, .inl f11)), ((a 17), .inl (T 0, 24, .inl (upd (upd e9 (xx.toNatClampNeg) z_113) (xx.toNatClampNeg) z_167))), ((a 18), .inl (T 0, 24, .inl (upd p9 (xx.toNatClampNeg) ((1 + z_193) + z_205)))), ((a 19), .inl (T 0, 24, .inl (upd d9 (xx.toNatClampNeg) 1)))] := hD
                obtain ⟨z_215, ez_215⟩ : ∃ y : Int32, y = xx + 1 := ⟨_, rfl⟩
                refine lv_iinc (v := z_215) (lv' := [(1, .int z_215), (4, .int z_5), (3, .int z_4), (2, .int r_3), (0, .ref h0)]) hx hb dX13_laysParts_206 hl (k := 3) rfl (by rw [ez_215]; rfl) (by decide) rfl (fun ls hl => ?_)
                have hz_2159 : z_215.toInt = xx.toInt + 1 := by rw [ez_215]; exact inc1 (n := 1000) (by omega) (by decide)
                refine lv_goto (tgt := 2) hx hb dX13_laysParts_209 (by decide) ?_
                exact ih (z_215, (upd (upd e9 (xx.toNatClampNeg) z_113) (xx.toNatClampNeg) z_167), (upd p9 (xx.toNatClampNeg) ((1 + z_193) + z_205)), (upd d9 (xx.toNatClampNeg) 1)) ls _ _ ⟨lv_sub hl [0, 4] rfl, hP.sub [0, 1, 2, 3, 4, 5, 6, 7] rfl, hD.sub [0, 1, 2, 3, 4, 5, 6, 7] (by decide) rfl, hS, ⟨(by rw [hz_2159]; omega), (by rw [upd_upd]; exact okE_step (n := 0) hEE (by omega) hz_2159 (by omega) (fun hk9 => by exfalso; omega) (okR.late hokR))⟩⟩ (by (try dsimp only); rw [hz_2159]; omega)
    · rw [fa_eq] at c_6
      try rw [ti_0] at c_6
      refine lv_bipush (v := 6) hx hb dX13_laysParts_44 (by decide) ?_
      refine lv_goto (tgt := 79) hx hb dX13_laysParts_46 (by decide) ?_
      have h69 : (6 : Int32).toInt ≤ 6 := by decide
      refine va_iast hx hb hE.1 hP hD hS 5 0 rfl rfl (by rw [vp_in_iff]; first | omega | (subst_vars; omega)) dX13_laysParts_79 (fun H locs hP hD hS => ?_)
      have hP : va_P D vwCl [(h0, .inr (10, [.int (q 0), .int (q 1), .int (q 2), .int (q 3), .int (q 4), .int (q 5), .int (q 6), .int (q 7), .ref (a 8), .ref (a 9), .ref (a 10), .ref (a 11), .ref (a 12), .ref (a 13), .int (q 14), .long v, .long w, .ref (a 17), .ref (a 18), .ref (a 19), .ref (a 20), .ref (a 21), .ref (a 22), .ref (a 23), .int (q 24), .ref (a 25), .int (q 26), .ref (a 27), .int (q 28), .int (q 29), .int (q 30), .int (q 31), .int (q 32), .int (q 33), .ref (a 34), .ref (a 35), .ref (a 36), .ref (a 37), .ref (a 38), .ref (a 39), .ref (a 40), .int (q 41), .ref (a 42), .int (q 43), .int (q 44)])), ((a 8), .inl (T 0, 24, .inl f8)), ((a 9), .inl (T 0, 24, .inl f9)), ((a 10), .inl (T 0, 24, .inl f10)), ((a 11), .inl (T 0, 24, .inl f11)), ((a 17), .inl (T 0, 24, .inl (upd e9 (xx.toNatClampNeg) 6))), ((a 18), .inl (T 0, 24, .inl p9)), ((a 19), .inl (T 0, 24, .inl d9))] H := hP
      have hD : va_D A [(h0, .inr (10, [.int (q 0), .int (q 1), .int (q 2), .int (q 3), .int (q 4), .int (q 5), .int (q 6), .int (q 7), .ref (a 8), .ref (a 9), .ref (a 10), .ref (a 11), .ref (a 12), .ref (a 13), .int (q 14), .long v, .long w, .ref (a 17), .ref (a 18), .ref (a 19), .ref (a 20), .ref (a 21), .ref (a 22), .ref (a 23), .int (q 24), .ref (a 25), .int (q 26), .ref (a 27), .int (q 28), .int (q 29), .int (q 30), .int (q 31), .int (q 32), .int (q 33), .ref (a 34), .ref (a 35), .ref (a 36), .ref (a 37), .ref (a 38), .ref (a 39), .ref (a 40), .int (q 41), .ref (a 42), .int (q 43), .int (q 44)])), ((a 8), .inl (T 0, 24, .inl f8)), ((a 9), .inl (T 0, 24, .inl f9)), ((a 10), .inl (T 0, 24, .inl f10)), ((a 11), .inl (T 0, 24, .inl f11)), ((a 17), .inl (T 0, 24, .inl (upd e9 (xx.toNatClampNeg) 6))), ((a 18), .inl (T 0, 24, .inl p9)), ((a 19), .inl (T 0, 24, .inl d9))] := hD
      refine lv_aload_n hx hb dX13_laysParts_80 rfl (lv_at hl 4 rfl) ?_
      refine va_get (D := D) (ci := 10) (v := .ref (a 17)) (C := RX13) (T := TX13) (N := 45) hx hb hts in_X13_laysParts_X13 hown hE.1 hP 0 rfl rfl 17 (by decide) (hts (.fieldLink RX13 47 "ClauseBookModel" "end" "[I") (List.mem_of_getElem? (i := 5) rfl)) (fun _ h9 => h9) rfl dX13_laysParts_81 ?_
      refine lv_iload_n hx hb dX13_laysParts_84 rfl (lv_at hl 3 rfl) ?_
      refine lv_aload_n hx hb dX13_laysParts_85 rfl (lv_at hl 4 rfl) ?_
      refine va_get (D := D) (ci := 10) (v := .ref (a 8)) (C := RX13) (T := TX13) (N := 45) hx hb hts in_X13_laysParts_X13 hown hE.1 hP 0 rfl rfl 8 (by decide) (hts (.fieldLink RX13 28 "ClauseBookModel" "kind" "[I") (List.mem_of_getElem? (i := 2) rfl)) (fun _ h9 => h9) rfl dX13_laysParts_86 ?_
      refine lv_iload_n hx hb dX13_laysParts_89 rfl (lv_at hl 3 rfl) ?_
      refine va_iald hx hb hE.1 hP 1 0 rfl rfl (by rw [vp_in_iff]; first | omega | (subst_vars; omega)) dX13_laysParts_90 ?_
      refine lv_topi (fun z_216 ez_216 => ?_)
      refine lv_bipush (v := 8) hx hb dX13_laysParts_91 (by decide) ?_
      refine lv_icmp_ne (tgt := 114) hx hb dX13_laysParts_93 (by decide) (fun c_217 => ?_) (fun c_217 => ?_)
      · rw [fa_eq] at c_217
        try rw [ti_8] at c_217
        refine lv_aload_n hx hb dX13_laysParts_114 rfl (lv_at hl 4 rfl) ?_
        refine va_get (D := D) (ci := 10) (v := .ref (a 17)) (C := RX13) (T := TX13) (N := 45) hx hb hts in_X13_laysParts_X13 hown hE.1 hP 0 rfl rfl 17 (by decide) (hts (.fieldLink RX13 47 "ClauseBookModel" "end" "[I") (List.mem_of_getElem? (i := 5) rfl)) (fun _ h9 => h9) rfl dX13_laysParts_115 ?_
        refine lv_iload_n hx hb dX13_laysParts_118 rfl (lv_at hl 3 rfl) ?_
        refine va_iald hx hb hE.1 hP 5 0 rfl rfl (by rw [vp_in_iff]; first | omega | (subst_vars; omega)) dX13_laysParts_119 ?_
        refine lv_topi (fun z_218 ez_218 => ?_)
        refine va_iast hx hb hE.1 hP hD hS 5 0 rfl rfl (by rw [vp_in_iff]; first | omega | (subst_vars; omega)) dX13_laysParts_120 (fun H locs hP hD hS => ?_)
        have hP : va_P D vwCl [(h0, .inr (10, [.int (q 0), .int (q 1), .int (q 2), .int (q 3), .int (q 4), .int (q 5), .int (q 6), .int (q 7), .ref (a 8), .ref (a 9), .ref (a 10), .ref (a 11), .ref (a 12), .ref (a 13), .int (q 14), .long v, .long w, .ref (a 17), .ref (a 18), .ref (a 19), .ref (a 20), .ref (a 21), .ref (a 22), .ref (a 23), .int (q 24), .ref (a 25), .int (q 26), .ref (a 27), .int (q 28), .int (q 29), .int (q 30), .int (q 31), .int (q 32), .int (q 33), .ref (a 34), .ref (a 35), .ref (a 36), .ref (a 37), .ref (a 38), .ref (a 39), .ref (a 40), .int (q 41), .ref (a 42), .int (q 43), .int (q 44)])), ((a 8), .inl (T 0, 24, .inl f8)), ((a 9), .inl (T 0, 24, .inl f9)), ((a 10), .inl (T 0, 24, .inl f10)), ((a 11), .inl (T 0, 24, .inl f11)), ((a 17), .inl (T 0, 24, .inl (upd (upd e9 (xx.toNatClampNeg) 6) (xx.toNatClampNeg) z_218))), ((a 18), .inl (T 0, 24, .inl p9)), ((a 19), .inl (T 0, 24, .inl d9))] H := hP
        have hD : va_D A [(h0, .inr (10, [.int (q 0), .int (q 1), .int (q 2), .int (q 3), .int (q 4), .int (q 5), .int (q 6), .int (q 7), .ref (a 8), .ref (a 9), .ref (a 10), .ref (a 11), .ref (a 12), .ref (a 13), .int (q 14), .long v, .long w, .ref (a 17), .ref (a 18), .ref (a 19), .ref (a 20), .ref (a 21), .ref (a 22), .ref (a 23), .int (q 24), .ref (a 25), .int (q 26), .ref (a 27), .int (q 28), .int (q 29), .int (q 30), .int (q 31), .int (q 32), .int (q 33), .ref (a 34), .ref (a 35), .ref (a 36), .ref (a 37), .ref (a 38), .ref (a 39), .ref (a 40), .int (q 41), .ref (a 42), .int (q 43), .int (q 44)])), ((a 8), .inl (T 0, 24, .inl f8)), ((a 9), .inl (T 0, 24, .inl f9)), ((a 10), .inl (T 0, 24, .inl f10)), ((a 11), .inl (T 0, 24, .inl f11)), ((a 17), .inl (T 0, 24, .inl (upd (upd e9 (xx.toNatClampNeg) 6) (xx.toNatClampNeg) z_218))), ((a 18), .inl (T 0, 24, .inl p9)), ((a 19), .inl (T 0, 24, .inl d9))] := hD
        refine lv_aload_n hx hb dX13_laysParts_121 rfl (lv_at hl 4 rfl) ?_
        refine va_get (D := D) (ci := 10) (v := .ref (a 18)) (C := RX13) (T := TX13) (N := 45) hx hb hts in_X13_laysParts_X13 hown hE.1 hP 0 rfl rfl 18 (by decide) (hts (.fieldLink RX13 50 "ClauseBookModel" "parts" "[I") (List.mem_of_getElem? (i := 14) rfl)) (fun _ h9 => h9) rfl dX13_laysParts_122 ?_
        refine lv_iload_n hx hb dX13_laysParts_125 rfl (lv_at hl 3 rfl) ?_
        refine lv_iconst (v := 1) hx hb dX13_laysParts_126 (by decide) ?_
        refine lv_iload_n hx hb dX13_laysParts_127 rfl (lv_at hl 2 rfl) ?_
        refine lv_if_le (tgt := 140) hx hb dX13_laysParts_128 (by decide) (fun c_219 => ?_) (fun c_219 => ?_)
        · rw [fa_le] at c_219
          try rw [ti_0] at c_219
          refine lv_iconst (v := 0) hx hb dX13_laysParts_140 (by decide) ?_
          refine lv_iadd hx hb dX13_laysParts_141 ?_
          refine lv_topi (fun z_220 ez_220 => ?_)
          obtain rfl : z_220 = 1 := ez_220.trans (by decide)
          refine lv_iload_n hx hb dX13_laysParts_142 rfl (lv_at hl 2 rfl) ?_
          refine lv_iconst (v := 1) hx hb dX13_laysParts_143 (by decide) ?_
          refine lv_icmp_le (tgt := 157) hx hb dX13_laysParts_144 (by decide) (fun c_221 => ?_) (fun c_221 => ?_)
          · rw [fa_le] at c_221
            try rw [ti_1] at c_221
            refine lv_iconst (v := 0) hx hb dX13_laysParts_157 (by decide) ?_
            refine lv_iadd hx hb dX13_laysParts_158 ?_
            refine lv_topi (fun z_222 ez_222 => ?_)
            obtain rfl : z_222 = 1 := ez_222.trans (by decide)
            refine va_iast hx hb hE.1 hP hD hS 6 0 rfl rfl (by rw [vp_in_iff]; first | omega | (subst_vars; omega)) dX13_laysParts_159 (fun H locs hP hD hS => ?_)
            have hP : va_P D vwCl [(h0, .inr (10, [.int (q 0), .int (q 1), .int (q 2), .int (q 3), .int (q 4), .int (q 5), .int (q 6), .int (q 7), .ref (a 8), .ref (a 9), .ref (a 10), .ref (a 11), .ref (a 12), .ref (a 13), .int (q 14), .long v, .long w, .ref (a 17), .ref (a 18), .ref (a 19), .ref (a 20), .ref (a 21), .ref (a 22), .ref (a 23), .int (q 24), .ref (a 25), .int (q 26), .ref (a 27), .int (q 28), .int (q 29), .int (q 30), .int (q 31), .int (q 32), .int (q 33), .ref (a 34), .ref (a 35), .ref (a 36), .ref (a 37), .ref (a 38), .ref (a 39), .ref (a 40), .int (q 41), .ref (a 42), .int (q 43), .int (q 44)])), ((a 8), .inl (T 0, 24, .inl f8)), ((a 9), .inl (T 0, 24, .inl f9)), ((a 10), .inl (T 0, 24, .inl f10)), ((a 11), .inl (T 0, 24, .inl f11)), ((a 17), .inl (T 0, 24, .inl (upd (upd e9 (xx.toNatClampNeg) 6) (xx.toNatClampNeg) z_218))), ((a 18), .inl (T 0, 24, .inl (upd p9 (xx.toNatClampNeg) 1))), ((a 19), .inl (T 0, 24, .inl d9))] H := hP
            have hD : va_D A [(h0, .inr (10, [.int (q 0), .int (q 1), .int (q 2), .int (q 3), .int (q 4), .int (q 5), .int (q 6), .int (q 7), .ref (a 8), .ref (a 9), .ref (a 10), .ref (a 11), .ref (a 12), .ref (a 13), .int (q 14), .long v, .long w, .ref (a 17), .ref (a 18), .ref (a 19), .ref (a 20), .ref (a 21), .ref (a 22), .ref (a 23), .int (q 24), .ref (a 25), .int (q 26), .ref (a 27), .int (q 28), .int (q 29), .int (q 30), .int (q 31), .int (q 32), .int (q 33), .ref (a 34), .ref (a 35), .ref (a 36), .ref (a 37), .ref (a 38), .ref (a 39), .ref (a 40), .int (q 41), .ref (a 42), .int (q 43), .int (q 44)])), ((a 8), .inl (T 0, 24, .inl f8)), ((a 9), .inl (T 0, 24, .inl f9)), ((a 10), .inl (T 0, 24, .inl f10)), ((a 11), .inl (T 0, 24, .inl f11)), ((a 17), .inl (T 0, 24, .inl (upd (upd e9 (xx.toNatClampNeg) 6) (xx.toNatClampNeg) z_218))), ((a 18), .inl (T 0, 24, .inl (upd p9 (xx.toNatClampNeg) 1))), ((a 19), .inl (T 0, 24, .inl d9))] := hD
            refine lv_aload_n hx hb dX13_laysParts_160 rfl (lv_at hl 4 rfl) ?_
            refine va_get (D := D) (ci := 10) (v := .ref (a 19)) (C := RX13) (T := TX13) (N := 45) hx hb hts in_X13_laysParts_X13 hown hE.1 hP 0 rfl rfl 19 (by decide) (hts (.fieldLink RX13 53 "ClauseBookModel" "deep" "[I") (List.mem_of_getElem? (i := 15) rfl)) (fun _ h9 => h9) rfl dX13_laysParts_161 ?_
            refine lv_iload_n hx hb dX13_laysParts_164 rfl (lv_at hl 3 rfl) ?_
            refine lv_iconst (v := 1) hx hb dX13_laysParts_165 (by decide) ?_
            refine lv_iload_n hx hb dX13_laysParts_166 rfl (lv_at hl 2 rfl) ?_
            refine lv_if_ne (tgt := 174) hx hb dX13_laysParts_167 (by decide) (fun c_223 => ?_) (fun c_223 => ?_)
            · rw [fa_eq] at c_223
              try rw [ti_0] at c_223
              refine lv_iload_n hx hb dX13_laysParts_174 rfl (lv_at hl 2 rfl) ?_
              refine lv_iconst (v := 1) hx hb dX13_laysParts_175 (by decide) ?_
              refine lv_icmp_ne (tgt := 188) hx hb dX13_laysParts_176 (by decide) (fun c_224 => ?_) (fun c_224 => ?_)
              · rw [fa_eq] at c_224
                try rw [ti_1] at c_224
                refine lv_aload_n hx hb dX13_laysParts_188 rfl (lv_at hl 4 rfl) ?_
                refine va_get (D := D) (ci := 10) (v := .ref (a 19)) (C := RX13) (T := TX13) (N := 45) hx hb hts in_X13_laysParts_X13 hown hE.1 hP 0 rfl rfl 19 (by decide) (hts (.fieldLink RX13 53 "ClauseBookModel" "deep" "[I") (List.mem_of_getElem? (i := 15) rfl)) (fun _ h9 => h9) rfl dX13_laysParts_189 ?_
                refine lv_iload_n hx hb dX13_laysParts_192 rfl (lv_at hl 1 rfl) ?_
                refine va_iald hx hb hE.1 hP 7 0 rfl rfl (by rw [vp_in_iff]; first | omega | (subst_vars; omega)) dX13_laysParts_193 ?_
                refine lv_topi (fun z_225 ez_225 => ?_)
                refine lv_aload_n hx hb dX13_laysParts_194 rfl (lv_at hl 4 rfl) ?_
                refine va_get (D := D) (ci := 10) (v := .ref (a 19)) (C := RX13) (T := TX13) (N := 45) hx hb hts in_X13_laysParts_X13 hown hE.1 hP 0 rfl rfl 19 (by decide) (hts (.fieldLink RX13 53 "ClauseBookModel" "deep" "[I") (List.mem_of_getElem? (i := 15) rfl)) (fun _ h9 => h9) rfl dX13_laysParts_195 ?_
                refine lv_iload hx hb dX13_laysParts_198 (lv_at hl 0 rfl) ?_
                refine va_iald hx hb hE.1 hP 7 0 rfl rfl (by rw [vp_in_iff]; first | omega | (subst_vars; omega)) dX13_laysParts_200 ?_
                refine lv_topi (fun z_226 ez_226 => ?_)
                refine va_mmax hx hb (hml.trans hl.1.symm) hown (hts (.methodLink RX13 227 Lib.Math.max.name) (List.mem_of_getElem? (i := 6) rfl)) (hts (.static Lib.Math.max.name) (List.mem_of_getElem? (i := 7) rfl)) (hts (.initialized "java/lang/Math") (List.mem_of_getElem? (i := 8) rfl)) (hts (.code Lib.Math.max.name Lib.Math.max.code 2 (some .int)) (List.mem_of_getElem? (i := 9) rfl)) (Nat.le_of_ble_eq_true rfl) (Nat.le_of_ble_eq_true rfl) (Nat.le_of_ble_eq_true rfl) (Nat.le_of_ble_eq_true rfl) dX13_laysParts_201 ?_
                refine lv_topi (fun z_227 ez_227 => ?_)
                refine lv_iadd hx hb dX13_laysParts_204 ?_
                refine va_iast hx hb hE.1 hP hD hS 7 0 rfl rfl (by rw [vp_in_iff]; first | omega | (subst_vars; omega)) dX13_laysParts_205 (fun H locs hP hD hS => ?_)
                have hP : va_P D vwCl [(h0, .inr (10, [.int (q 0), .int (q 1), .int (q 2), .int (q 3), .int (q 4), .int (q 5), .int (q 6), .int (q 7), .ref (a 8), .ref (a 9), .ref (a 10), .ref (a 11), .ref (a 12), .ref (a 13), .int (q 14), .long v, .long w, .ref (a 17), .ref (a 18), .ref (a 19), .ref (a 20), .ref (a 21), .ref (a 22), .ref (a 23), .int (q 24), .ref (a 25), .int (q 26), .ref (a 27), .int (q 28), .int (q 29), .int (q 30), .int (q 31), .int (q 32), .int (q 33), .ref (a 34), .ref (a 35), .ref (a 36), .ref (a 37), .ref (a 38), .ref (a 39), .ref (a 40), .int (q 41), .ref (a 42), .int (q 43), .int (q 44)])), ((a 8), .inl (T 0, 24, .inl f8)), ((a 9), .inl (T 0, 24, .inl f9)), ((a 10), .inl (T 0, 24, .inl f10)), ((a 11), .inl (T 0, 24, .inl f11)), ((a 17), .inl (T 0, 24, .inl (upd (upd e9 (xx.toNatClampNeg) 6) (xx.toNatClampNeg) z_218))), ((a 18), .inl (T 0, 24, .inl (upd p9 (xx.toNatClampNeg) 1))), ((a 19), .inl (T 0, 24, .inl (upd d9 (xx.toNatClampNeg) (1 + z_227))))] H := hP
                have hD : va_D A [(h0, .inr (10, [.int (q 0), .int (q 1), .int (q 2), .int (q 3), .int (q 4), .int (q 5), .int (q 6), .int (q 7), .ref (a 8), .ref (a 9), .ref (a 10), .ref (a 11), .ref (a 12), .ref (a 13), .int (q 14), .long v, .long w, .ref (a 17), .ref (a 18), .ref (a 19), .ref (a 20), .ref (a 21), .ref (a 22), .ref (a 23), .int (q 24), .ref (a 25), .int (q 26), .ref (a 27), .int (q 28), .int (q 29), .int (q 30), .int (q 31), .int (q 32), .int (q 33), .ref (a 34), .ref (a 35), .ref (a 36), .ref (a 37), .ref (a 38), .ref (a 39), .ref (a 40), .int (q 41), .ref (a 42), .int (q 43), .int (q 44)])), ((a 8), .inl (T 0, 24, .inl f8)), ((a 9), .inl (T 0, 24, .inl f9)), ((a 10), .inl (T 0, 24, .inl f10)), ((a 11), .inl (T 0, 24, .inl f11)), ((a 17), .inl (T 0, 24, .inl (upd (upd e9 (xx.toNatClampNeg) 6) (xx.toNatClampNeg) z_218))), ((a 18), .inl (T 0, 24, .inl (upd p9 (xx.toNatClampNeg) 1))), ((a 19), .inl (T 0, 24, .inl (upd d9 (xx.toNatClampNeg) (1 + z_227))))] := hD
                obtain ⟨z_228, ez_228⟩ : ∃ y : Int32, y = xx + 1 := ⟨_, rfl⟩
                refine lv_iinc (v := z_228) (lv' := [(1, .int z_228), (4, .int z_5), (3, .int z_4), (2, .int r_3), (0, .ref h0)]) hx hb dX13_laysParts_206 hl (k := 3) rfl (by rw [ez_228]; rfl) (by decide) rfl (fun ls hl => ?_)
                have hz_2289 : z_228.toInt = xx.toInt + 1 := by rw [ez_228]; exact inc1 (n := 1000) (by omega) (by decide)
                refine lv_goto (tgt := 2) hx hb dX13_laysParts_209 (by decide) ?_
                exact ih (z_228, (upd (upd e9 (xx.toNatClampNeg) 6) (xx.toNatClampNeg) z_218), (upd p9 (xx.toNatClampNeg) 1), (upd d9 (xx.toNatClampNeg) (1 + z_227))) ls _ _ ⟨lv_sub hl [0, 4] rfl, hP.sub [0, 1, 2, 3, 4, 5, 6, 7] rfl, hD.sub [0, 1, 2, 3, 4, 5, 6, 7] (by decide) rfl, hS, ⟨(by rw [hz_2289]; omega), (by rw [upd_upd]; exact okE_step (n := 0) hEE (by omega) hz_2289 (by omega) (fun hk9 => by exfalso; omega) (okR.late hokR))⟩⟩ (by (try dsimp only); rw [hz_2289]; omega)
              · rw [fa_eq] at c_224
                try rw [ti_1] at c_224
                refine lv_aload_n hx hb dX13_laysParts_179 rfl (lv_at hl 4 rfl) ?_
                refine va_get (D := D) (ci := 10) (v := .ref (a 19)) (C := RX13) (T := TX13) (N := 45) hx hb hts in_X13_laysParts_X13 hown hE.1 hP 0 rfl rfl 19 (by decide) (hts (.fieldLink RX13 53 "ClauseBookModel" "deep" "[I") (List.mem_of_getElem? (i := 15) rfl)) (fun _ h9 => h9) rfl dX13_laysParts_180 ?_
                refine lv_iload_n hx hb dX13_laysParts_183 rfl (lv_at hl 1 rfl) ?_
                refine va_iald hx hb hE.1 hP 7 0 rfl rfl (by rw [vp_in_iff]; first | omega | (subst_vars; omega)) dX13_laysParts_184 ?_
                refine lv_topi (fun z_229 ez_229 => ?_)
                refine lv_goto (tgt := 204) hx hb dX13_laysParts_185 (by decide) ?_
                refine lv_iadd hx hb dX13_laysParts_204 ?_
                refine va_iast hx hb hE.1 hP hD hS 7 0 rfl rfl (by rw [vp_in_iff]; first | omega | (subst_vars; omega)) dX13_laysParts_205 (fun H locs hP hD hS => ?_)
                have hP : va_P D vwCl [(h0, .inr (10, [.int (q 0), .int (q 1), .int (q 2), .int (q 3), .int (q 4), .int (q 5), .int (q 6), .int (q 7), .ref (a 8), .ref (a 9), .ref (a 10), .ref (a 11), .ref (a 12), .ref (a 13), .int (q 14), .long v, .long w, .ref (a 17), .ref (a 18), .ref (a 19), .ref (a 20), .ref (a 21), .ref (a 22), .ref (a 23), .int (q 24), .ref (a 25), .int (q 26), .ref (a 27), .int (q 28), .int (q 29), .int (q 30), .int (q 31), .int (q 32), .int (q 33), .ref (a 34), .ref (a 35), .ref (a 36), .ref (a 37), .ref (a 38), .ref (a 39), .ref (a 40), .int (q 41), .ref (a 42), .int (q 43), .int (q 44)])), ((a 8), .inl (T 0, 24, .inl f8)), ((a 9), .inl (T 0, 24, .inl f9)), ((a 10), .inl (T 0, 24, .inl f10)), ((a 11), .inl (T 0, 24, .inl f11)), ((a 17), .inl (T 0, 24, .inl (upd (upd e9 (xx.toNatClampNeg) 6) (xx.toNatClampNeg) z_218))), ((a 18), .inl (T 0, 24, .inl (upd p9 (xx.toNatClampNeg) 1))), ((a 19), .inl (T 0, 24, .inl (upd d9 (xx.toNatClampNeg) (1 + z_229))))] H := hP
                have hD : va_D A [(h0, .inr (10, [.int (q 0), .int (q 1), .int (q 2), .int (q 3), .int (q 4), .int (q 5), .int (q 6), .int (q 7), .ref (a 8), .ref (a 9), .ref (a 10), .ref (a 11), .ref (a 12), .ref (a 13), .int (q 14), .long v, .long w, .ref (a 17), .ref (a 18), .ref (a 19), .ref (a 20), .ref (a 21), .ref (a 22), .ref (a 23), .int (q 24), .ref (a 25), .int (q 26), .ref (a 27), .int (q 28), .int (q 29), .int (q 30), .int (q 31), .int (q 32), .int (q 33), .ref (a 34), .ref (a 35), .ref (a 36), .ref (a 37), .ref (a 38), .ref (a 39), .ref (a 40), .int (q 41), .ref (a 42), .int (q 43), .int (q 44)])), ((a 8), .inl (T 0, 24, .inl f8)), ((a 9), .inl (T 0, 24, .inl f9)), ((a 10), .inl (T 0, 24, .inl f10)), ((a 11), .inl (T 0, 24, .inl f11)), ((a 17), .inl (T 0, 24, .inl (upd (upd e9 (xx.toNatClampNeg) 6) (xx.toNatClampNeg) z_218))), ((a 18), .inl (T 0, 24, .inl (upd p9 (xx.toNatClampNeg) 1))), ((a 19), .inl (T 0, 24, .inl (upd d9 (xx.toNatClampNeg) (1 + z_229))))] := hD
                obtain ⟨z_230, ez_230⟩ : ∃ y : Int32, y = xx + 1 := ⟨_, rfl⟩
                refine lv_iinc (v := z_230) (lv' := [(1, .int z_230), (4, .int z_5), (3, .int z_4), (2, .int r_3), (0, .ref h0)]) hx hb dX13_laysParts_206 hl (k := 3) rfl (by rw [ez_230]; rfl) (by decide) rfl (fun ls hl => ?_)
                have hz_2309 : z_230.toInt = xx.toInt + 1 := by rw [ez_230]; exact inc1 (n := 1000) (by omega) (by decide)
                refine lv_goto (tgt := 2) hx hb dX13_laysParts_209 (by decide) ?_
                exact ih (z_230, (upd (upd e9 (xx.toNatClampNeg) 6) (xx.toNatClampNeg) z_218), (upd p9 (xx.toNatClampNeg) 1), (upd d9 (xx.toNatClampNeg) (1 + z_229))) ls _ _ ⟨lv_sub hl [0, 4] rfl, hP.sub [0, 1, 2, 3, 4, 5, 6, 7] rfl, hD.sub [0, 1, 2, 3, 4, 5, 6, 7] (by decide) rfl, hS, ⟨(by rw [hz_2309]; omega), (by rw [upd_upd]; exact okE_step (n := 0) hEE (by omega) hz_2309 (by omega) (fun hk9 => by exfalso; omega) (okR.late hokR))⟩⟩ (by (try dsimp only); rw [hz_2309]; omega)
            · rw [fa_eq] at c_223
              try rw [ti_0] at c_223
              refine lv_iconst (v := 0) hx hb dX13_laysParts_170 (by decide) ?_
              refine lv_goto (tgt := 204) hx hb dX13_laysParts_171 (by decide) ?_
              refine lv_iadd hx hb dX13_laysParts_204 ?_
              refine lv_topi (fun z_231 ez_231 => ?_)
              obtain rfl : z_231 = 1 := ez_231.trans (by decide)
              refine va_iast hx hb hE.1 hP hD hS 7 0 rfl rfl (by rw [vp_in_iff]; first | omega | (subst_vars; omega)) dX13_laysParts_205 (fun H locs hP hD hS => ?_)
              have hP : va_P D vwCl [(h0, .inr (10, [.int (q 0), .int (q 1), .int (q 2), .int (q 3), .int (q 4), .int (q 5), .int (q 6), .int (q 7), .ref (a 8), .ref (a 9), .ref (a 10), .ref (a 11), .ref (a 12), .ref (a 13), .int (q 14), .long v, .long w, .ref (a 17), .ref (a 18), .ref (a 19), .ref (a 20), .ref (a 21), .ref (a 22), .ref (a 23), .int (q 24), .ref (a 25), .int (q 26), .ref (a 27), .int (q 28), .int (q 29), .int (q 30), .int (q 31), .int (q 32), .int (q 33), .ref (a 34), .ref (a 35), .ref (a 36), .ref (a 37), .ref (a 38), .ref (a 39), .ref (a 40), .int (q 41), .ref (a 42), .int (q 43), .int (q 44)])), ((a 8), .inl (T 0, 24, .inl f8)), ((a 9), .inl (T 0, 24, .inl f9)), ((a 10), .inl (T 0, 24, .inl f10)), ((a 11), .inl (T 0, 24, .inl f11)), ((a 17), .inl (T 0, 24, .inl (upd (upd e9 (xx.toNatClampNeg) 6) (xx.toNatClampNeg) z_218))), ((a 18), .inl (T 0, 24, .inl (upd p9 (xx.toNatClampNeg) 1))), ((a 19), .inl (T 0, 24, .inl (upd d9 (xx.toNatClampNeg) 1)))] H := hP
              have hD : va_D A [(h0, .inr (10, [.int (q 0), .int (q 1), .int (q 2), .int (q 3), .int (q 4), .int (q 5), .int (q 6), .int (q 7), .ref (a 8), .ref (a 9), .ref (a 10), .ref (a 11), .ref (a 12), .ref (a 13), .int (q 14), .long v, .long w, .ref (a 17), .ref (a 18), .ref (a 19), .ref (a 20), .ref (a 21), .ref (a 22), .ref (a 23), .int (q 24), .ref (a 25), .int (q 26), .ref (a 27), .int (q 28), .int (q 29), .int (q 30), .int (q 31), .int (q 32), .int (q 33), .ref (a 34), .ref (a 35), .ref (a 36), .ref (a 37), .ref (a 38), .ref (a 39), .ref (a 40), .int (q 41), .ref (a 42), .int (q 43), .int (q 44)])), ((a 8), .inl (T 0, 24, .inl f8)), ((a 9), .inl (T 0, 24, .inl f9)), ((a 10), .inl (T 0, 24, .inl f10)), ((a 11), .inl (T 0, 24, .inl f11)), ((a 17), .inl (T 0, 24, .inl (upd (upd e9 (xx.toNatClampNeg) 6) (xx.toNatClampNeg) z_218))), ((a 18), .inl (T 0, 24, .inl (upd p9 (xx.toNatClampNeg) 1))), ((a 19), .inl (T 0, 24, .inl (upd d9 (xx.toNatClampNeg) 1)))] := hD
              obtain ⟨z_232, ez_232⟩ : ∃ y : Int32, y = xx + 1 := ⟨_, rfl⟩
              refine lv_iinc (v := z_232) (lv' := [(1, .int z_232), (4, .int z_5), (3, .int z_4), (2, .int r_3), (0, .ref h0)]) hx hb dX13_laysParts_206 hl (k := 3) rfl (by rw [ez_232]; rfl) (by decide) rfl (fun ls hl => ?_)
              have hz_2329 : z_232.toInt = xx.toInt + 1 := by rw [ez_232]; exact inc1 (n := 1000) (by omega) (by decide)
              refine lv_goto (tgt := 2) hx hb dX13_laysParts_209 (by decide) ?_
              exact ih (z_232, (upd (upd e9 (xx.toNatClampNeg) 6) (xx.toNatClampNeg) z_218), (upd p9 (xx.toNatClampNeg) 1), (upd d9 (xx.toNatClampNeg) 1)) ls _ _ ⟨lv_sub hl [0, 4] rfl, hP.sub [0, 1, 2, 3, 4, 5, 6, 7] rfl, hD.sub [0, 1, 2, 3, 4, 5, 6, 7] (by decide) rfl, hS, ⟨(by rw [hz_2329]; omega), (by rw [upd_upd]; exact okE_step (n := 0) hEE (by omega) hz_2329 (by omega) (fun hk9 => by exfalso; omega) (okR.late hokR))⟩⟩ (by (try dsimp only); rw [hz_2329]; omega)
          · rw [fa_le] at c_221
            try rw [ti_1] at c_221
            refine lv_aload_n hx hb dX13_laysParts_147 rfl (lv_at hl 4 rfl) ?_
            refine va_get (D := D) (ci := 10) (v := .ref (a 18)) (C := RX13) (T := TX13) (N := 45) hx hb hts in_X13_laysParts_X13 hown hE.1 hP 0 rfl rfl 18 (by decide) (hts (.fieldLink RX13 50 "ClauseBookModel" "parts" "[I") (List.mem_of_getElem? (i := 14) rfl)) (fun _ h9 => h9) rfl dX13_laysParts_148 ?_
            refine lv_iload hx hb dX13_laysParts_151 (lv_at hl 0 rfl) ?_
            refine va_iald hx hb hE.1 hP 6 0 rfl rfl (by rw [vp_in_iff]; first | omega | (subst_vars; omega)) dX13_laysParts_153 ?_
            refine lv_topi (fun z_233 ez_233 => ?_)
            refine lv_goto (tgt := 158) hx hb dX13_laysParts_154 (by decide) ?_
            refine lv_iadd hx hb dX13_laysParts_158 ?_
            refine va_iast hx hb hE.1 hP hD hS 6 0 rfl rfl (by rw [vp_in_iff]; first | omega | (subst_vars; omega)) dX13_laysParts_159 (fun H locs hP hD hS => ?_)
            have hP : va_P D vwCl [(h0, .inr (10, [.int (q 0), .int (q 1), .int (q 2), .int (q 3), .int (q 4), .int (q 5), .int (q 6), .int (q 7), .ref (a 8), .ref (a 9), .ref (a 10), .ref (a 11), .ref (a 12), .ref (a 13), .int (q 14), .long v, .long w, .ref (a 17), .ref (a 18), .ref (a 19), .ref (a 20), .ref (a 21), .ref (a 22), .ref (a 23), .int (q 24), .ref (a 25), .int (q 26), .ref (a 27), .int (q 28), .int (q 29), .int (q 30), .int (q 31), .int (q 32), .int (q 33), .ref (a 34), .ref (a 35), .ref (a 36), .ref (a 37), .ref (a 38), .ref (a 39), .ref (a 40), .int (q 41), .ref (a 42), .int (q 43), .int (q 44)])), ((a 8), .inl (T 0, 24, .inl f8)), ((a 9), .inl (T 0, 24, .inl f9)), ((a 10), .inl (T 0, 24, .inl f10)), ((a 11), .inl (T 0, 24, .inl f11)), ((a 17), .inl (T 0, 24, .inl (upd (upd e9 (xx.toNatClampNeg) 6) (xx.toNatClampNeg) z_218))), ((a 18), .inl (T 0, 24, .inl (upd p9 (xx.toNatClampNeg) (1 + z_233)))), ((a 19), .inl (T 0, 24, .inl d9))] H := hP
            have hD : va_D A [(h0, .inr (10, [.int (q 0), .int (q 1), .int (q 2), .int (q 3), .int (q 4), .int (q 5), .int (q 6), .int (q 7), .ref (a 8), .ref (a 9), .ref (a 10), .ref (a 11), .ref (a 12), .ref (a 13), .int (q 14), .long v, .long w, .ref (a 17), .ref (a 18), .ref (a 19), .ref (a 20), .ref (a 21), .ref (a 22), .ref (a 23), .int (q 24), .ref (a 25), .int (q 26), .ref (a 27), .int (q 28), .int (q 29), .int (q 30), .int (q 31), .int (q 32), .int (q 33), .ref (a 34), .ref (a 35), .ref (a 36), .ref (a 37), .ref (a 38), .ref (a 39), .ref (a 40), .int (q 41), .ref (a 42), .int (q 43), .int (q 44)])), ((a 8), .inl (T 0, 24, .inl f8)), ((a 9), .inl (T 0, 24, .inl f9)), ((a 10), .inl (T 0, 24, .inl f10)), ((a 11), .inl (T 0, 24, .inl f11)), ((a 17), .inl (T 0, 24, .inl (upd (upd e9 (xx.toNatClampNeg) 6) (xx.toNatClampNeg) z_218))), ((a 18), .inl (T 0, 24, .inl (upd p9 (xx.toNatClampNeg) (1 + z_233)))), ((a 19), .inl (T 0, 24, .inl d9))] := hD
            refine lv_aload_n hx hb dX13_laysParts_160 rfl (lv_at hl 4 rfl) ?_
            refine va_get (D := D) (ci := 10) (v := .ref (a 19)) (C := RX13) (T := TX13) (N := 45) hx hb hts in_X13_laysParts_X13 hown hE.1 hP 0 rfl rfl 19 (by decide) (hts (.fieldLink RX13 53 "ClauseBookModel" "deep" "[I") (List.mem_of_getElem? (i := 15) rfl)) (fun _ h9 => h9) rfl dX13_laysParts_161 ?_
            refine lv_iload_n hx hb dX13_laysParts_164 rfl (lv_at hl 3 rfl) ?_
            refine lv_iconst (v := 1) hx hb dX13_laysParts_165 (by decide) ?_
            refine lv_iload_n hx hb dX13_laysParts_166 rfl (lv_at hl 2 rfl) ?_
            refine lv_if_ne (tgt := 174) hx hb dX13_laysParts_167 (by decide) (fun c_234 => ?_) (fun c_234 => ?_)
            · rw [fa_eq] at c_234
              try rw [ti_0] at c_234
              refine lv_iload_n hx hb dX13_laysParts_174 rfl (lv_at hl 2 rfl) ?_
              refine lv_iconst (v := 1) hx hb dX13_laysParts_175 (by decide) ?_
              refine lv_icmp_ne (tgt := 188) hx hb dX13_laysParts_176 (by decide) (fun c_235 => ?_) (fun c_235 => ?_)
              · rw [fa_eq] at c_235
                try rw [ti_1] at c_235
                refine lv_aload_n hx hb dX13_laysParts_188 rfl (lv_at hl 4 rfl) ?_
                refine va_get (D := D) (ci := 10) (v := .ref (a 19)) (C := RX13) (T := TX13) (N := 45) hx hb hts in_X13_laysParts_X13 hown hE.1 hP 0 rfl rfl 19 (by decide) (hts (.fieldLink RX13 53 "ClauseBookModel" "deep" "[I") (List.mem_of_getElem? (i := 15) rfl)) (fun _ h9 => h9) rfl dX13_laysParts_189 ?_
                refine lv_iload_n hx hb dX13_laysParts_192 rfl (lv_at hl 1 rfl) ?_
                refine va_iald hx hb hE.1 hP 7 0 rfl rfl (by rw [vp_in_iff]; first | omega | (subst_vars; omega)) dX13_laysParts_193 ?_
                refine lv_topi (fun z_236 ez_236 => ?_)
                refine lv_aload_n hx hb dX13_laysParts_194 rfl (lv_at hl 4 rfl) ?_
                refine va_get (D := D) (ci := 10) (v := .ref (a 19)) (C := RX13) (T := TX13) (N := 45) hx hb hts in_X13_laysParts_X13 hown hE.1 hP 0 rfl rfl 19 (by decide) (hts (.fieldLink RX13 53 "ClauseBookModel" "deep" "[I") (List.mem_of_getElem? (i := 15) rfl)) (fun _ h9 => h9) rfl dX13_laysParts_195 ?_
                refine lv_iload hx hb dX13_laysParts_198 (lv_at hl 0 rfl) ?_
                refine va_iald hx hb hE.1 hP 7 0 rfl rfl (by rw [vp_in_iff]; first | omega | (subst_vars; omega)) dX13_laysParts_200 ?_
                refine lv_topi (fun z_237 ez_237 => ?_)
                refine va_mmax hx hb (hml.trans hl.1.symm) hown (hts (.methodLink RX13 227 Lib.Math.max.name) (List.mem_of_getElem? (i := 6) rfl)) (hts (.static Lib.Math.max.name) (List.mem_of_getElem? (i := 7) rfl)) (hts (.initialized "java/lang/Math") (List.mem_of_getElem? (i := 8) rfl)) (hts (.code Lib.Math.max.name Lib.Math.max.code 2 (some .int)) (List.mem_of_getElem? (i := 9) rfl)) (Nat.le_of_ble_eq_true rfl) (Nat.le_of_ble_eq_true rfl) (Nat.le_of_ble_eq_true rfl) (Nat.le_of_ble_eq_true rfl) dX13_laysParts_201 ?_
                refine lv_topi (fun z_238 ez_238 => ?_)
                refine lv_iadd hx hb dX13_laysParts_204 ?_
                refine va_iast hx hb hE.1 hP hD hS 7 0 rfl rfl (by rw [vp_in_iff]; first | omega | (subst_vars; omega)) dX13_laysParts_205 (fun H locs hP hD hS => ?_)
                have hP : va_P D vwCl [(h0, .inr (10, [.int (q 0), .int (q 1), .int (q 2), .int (q 3), .int (q 4), .int (q 5), .int (q 6), .int (q 7), .ref (a 8), .ref (a 9), .ref (a 10), .ref (a 11), .ref (a 12), .ref (a 13), .int (q 14), .long v, .long w, .ref (a 17), .ref (a 18), .ref (a 19), .ref (a 20), .ref (a 21), .ref (a 22), .ref (a 23), .int (q 24), .ref (a 25), .int (q 26), .ref (a 27), .int (q 28), .int (q 29), .int (q 30), .int (q 31), .int (q 32), .int (q 33), .ref (a 34), .ref (a 35), .ref (a 36), .ref (a 37), .ref (a 38), .ref (a 39), .ref (a 40), .int (q 41), .ref (a 42), .int (q 43), .int (q 44)])), ((a 8), .inl (T 0, 24, .inl f8)), ((a 9), .inl (T 0, 24, .inl f9)), ((a 10), .inl (T 0, 24, .inl f10)), ((a 11), .inl (T 0, 24, .inl f11)), ((a 17), .inl (T 0, 24, .inl (upd (upd e9 (xx.toNatClampNeg) 6) (xx.toNatClampNeg) z_218))), ((a 18), .inl (T 0, 24, .inl (upd p9 (xx.toNatClampNeg) (1 + z_233)))), ((a 19), .inl (T 0, 24, .inl (upd d9 (xx.toNatClampNeg) (1 + z_238))))] H := hP
                have hD : va_D A [(h0, .inr (10, [.int (q 0), .int (q 1), .int (q 2), .int (q 3), .int (q 4), .int (q 5), .int (q 6), .int (q 7), .ref (a 8), .ref (a 9), .ref (a 10), .ref (a 11), .ref (a 12), .ref (a 13), .int (q 14), .long v, .long w, .ref (a 17), .ref (a 18), .ref (a 19), .ref (a 20), .ref (a 21), .ref (a 22), .ref (a 23), .int (q 24), .ref (a 25), .int (q 26), .ref (a 27), .int (q 28), .int (q 29), .int (q 30), .int (q 31), .int (q 32), .int (q 33), .ref (a 34), .ref (a 35), .ref (a 36), .ref (a 37), .ref (a 38), .ref (a 39), .ref (a 40), .int (q 41), .ref (a 42), .int (q 43), .int (q 44)])), ((a 8), .inl (T 0, 24, .inl f8)), ((a 9), .inl (T 0, 24, .inl f9)), ((a 10), .inl (T 0, 24, .inl f10)), ((a 11), .inl (T 0, 24, .inl f11)), ((a 17), .inl (T 0, 24, .inl (upd (upd e9 (xx.toNatClampNeg) 6) (xx.toNatClampNeg) z_218))), ((a 18), .inl (T 0, 24, .inl (upd p9 (xx.toNatClampNeg) (1 + z_233)))), ((a 19), .inl (T 0, 24, .inl (upd d9 (xx.toNatClampNeg) (1 + z_238))))] := hD
                obtain ⟨z_239, ez_239⟩ : ∃ y : Int32, y = xx + 1 := ⟨_, rfl⟩
                refine lv_iinc (v := z_239) (lv' := [(1, .int z_239), (4, .int z_5), (3, .int z_4), (2, .int r_3), (0, .ref h0)]) hx hb dX13_laysParts_206 hl (k := 3) rfl (by rw [ez_239]; rfl) (by decide) rfl (fun ls hl => ?_)
                have hz_2399 : z_239.toInt = xx.toInt + 1 := by rw [ez_239]; exact inc1 (n := 1000) (by omega) (by decide)
                refine lv_goto (tgt := 2) hx hb dX13_laysParts_209 (by decide) ?_
                exact ih (z_239, (upd (upd e9 (xx.toNatClampNeg) 6) (xx.toNatClampNeg) z_218), (upd p9 (xx.toNatClampNeg) (1 + z_233)), (upd d9 (xx.toNatClampNeg) (1 + z_238))) ls _ _ ⟨lv_sub hl [0, 4] rfl, hP.sub [0, 1, 2, 3, 4, 5, 6, 7] rfl, hD.sub [0, 1, 2, 3, 4, 5, 6, 7] (by decide) rfl, hS, ⟨(by rw [hz_2399]; omega), (by rw [upd_upd]; exact okE_step (n := 0) hEE (by omega) hz_2399 (by omega) (fun hk9 => by exfalso; omega) (okR.late hokR))⟩⟩ (by (try dsimp only); rw [hz_2399]; omega)
              · rw [fa_eq] at c_235
                try rw [ti_1] at c_235
                refine lv_aload_n hx hb dX13_laysParts_179 rfl (lv_at hl 4 rfl) ?_
                refine va_get (D := D) (ci := 10) (v := .ref (a 19)) (C := RX13) (T := TX13) (N := 45) hx hb hts in_X13_laysParts_X13 hown hE.1 hP 0 rfl rfl 19 (by decide) (hts (.fieldLink RX13 53 "ClauseBookModel" "deep" "[I") (List.mem_of_getElem? (i := 15) rfl)) (fun _ h9 => h9) rfl dX13_laysParts_180 ?_
                refine lv_iload_n hx hb dX13_laysParts_183 rfl (lv_at hl 1 rfl) ?_
                refine va_iald hx hb hE.1 hP 7 0 rfl rfl (by rw [vp_in_iff]; first | omega | (subst_vars; omega)) dX13_laysParts_184 ?_
                refine lv_topi (fun z_240 ez_240 => ?_)
                refine lv_goto (tgt := 204) hx hb dX13_laysParts_185 (by decide) ?_
                refine lv_iadd hx hb dX13_laysParts_204 ?_
                refine va_iast hx hb hE.1 hP hD hS 7 0 rfl rfl (by rw [vp_in_iff]; first | omega | (subst_vars; omega)) dX13_laysParts_205 (fun H locs hP hD hS => ?_)
                have hP : va_P D vwCl [(h0, .inr (10, [.int (q 0), .int (q 1), .int (q 2), .int (q 3), .int (q 4), .int (q 5), .int (q 6), .int (q 7), .ref (a 8), .ref (a 9), .ref (a 10), .ref (a 11), .ref (a 12), .ref (a 13), .int (q 14), .long v, .long w, .ref (a 17), .ref (a 18), .ref (a 19), .ref (a 20), .ref (a 21), .ref (a 22), .ref (a 23), .int (q 24), .ref (a 25), .int (q 26), .ref (a 27), .int (q 28), .int (q 29), .int (q 30), .int (q 31), .int (q 32), .int (q 33), .ref (a 34), .ref (a 35), .ref (a 36), .ref (a 37), .ref (a 38), .ref (a 39), .ref (a 40), .int (q 41), .ref (a 42), .int (q 43), .int (q 44)])), ((a 8), .inl (T 0, 24, .inl f8)), ((a 9), .inl (T 0, 24, .inl f9)), ((a 10), .inl (T 0, 24, .inl f10)), ((a 11), .inl (T 0, 24, .inl f11)), ((a 17), .inl (T 0, 24, .inl (upd (upd e9 (xx.toNatClampNeg) 6) (xx.toNatClampNeg) z_218))), ((a 18), .inl (T 0, 24, .inl (upd p9 (xx.toNatClampNeg) (1 + z_233)))), ((a 19), .inl (T 0, 24, .inl (upd d9 (xx.toNatClampNeg) (1 + z_240))))] H := hP
                have hD : va_D A [(h0, .inr (10, [.int (q 0), .int (q 1), .int (q 2), .int (q 3), .int (q 4), .int (q 5), .int (q 6), .int (q 7), .ref (a 8), .ref (a 9), .ref (a 10), .ref (a 11), .ref (a 12), .ref (a 13), .int (q 14), .long v, .long w, .ref (a 17), .ref (a 18), .ref (a 19), .ref (a 20), .ref (a 21), .ref (a 22), .ref (a 23), .int (q 24), .ref (a 25), .int (q 26), .ref (a 27), .int (q 28), .int (q 29), .int (q 30), .int (q 31), .int (q 32), .int (q 33), .ref (a 34), .ref (a 35), .ref (a 36), .ref (a 37), .ref (a 38), .ref (a 39), .ref (a 40), .int (q 41), .ref (a 42), .int (q 43), .int (q 44)])), ((a 8), .inl (T 0, 24, .inl f8)), ((a 9), .inl (T 0, 24, .inl f9)), ((a 10), .inl (T 0, 24, .inl f10)), ((a 11), .inl (T 0, 24, .inl f11)), ((a 17), .inl (T 0, 24, .inl (upd (upd e9 (xx.toNatClampNeg) 6) (xx.toNatClampNeg) z_218))), ((a 18), .inl (T 0, 24, .inl (upd p9 (xx.toNatClampNeg) (1 + z_233)))), ((a 19), .inl (T 0, 24, .inl (upd d9 (xx.toNatClampNeg) (1 + z_240))))] := hD
                obtain ⟨z_241, ez_241⟩ : ∃ y : Int32, y = xx + 1 := ⟨_, rfl⟩
                refine lv_iinc (v := z_241) (lv' := [(1, .int z_241), (4, .int z_5), (3, .int z_4), (2, .int r_3), (0, .ref h0)]) hx hb dX13_laysParts_206 hl (k := 3) rfl (by rw [ez_241]; rfl) (by decide) rfl (fun ls hl => ?_)
                have hz_2419 : z_241.toInt = xx.toInt + 1 := by rw [ez_241]; exact inc1 (n := 1000) (by omega) (by decide)
                refine lv_goto (tgt := 2) hx hb dX13_laysParts_209 (by decide) ?_
                exact ih (z_241, (upd (upd e9 (xx.toNatClampNeg) 6) (xx.toNatClampNeg) z_218), (upd p9 (xx.toNatClampNeg) (1 + z_233)), (upd d9 (xx.toNatClampNeg) (1 + z_240))) ls _ _ ⟨lv_sub hl [0, 4] rfl, hP.sub [0, 1, 2, 3, 4, 5, 6, 7] rfl, hD.sub [0, 1, 2, 3, 4, 5, 6, 7] (by decide) rfl, hS, ⟨(by rw [hz_2419]; omega), (by rw [upd_upd]; exact okE_step (n := 0) hEE (by omega) hz_2419 (by omega) (fun hk9 => by exfalso; omega) (okR.late hokR))⟩⟩ (by (try dsimp only); rw [hz_2419]; omega)
            · rw [fa_eq] at c_234
              try rw [ti_0] at c_234
              refine lv_iconst (v := 0) hx hb dX13_laysParts_170 (by decide) ?_
              refine lv_goto (tgt := 204) hx hb dX13_laysParts_171 (by decide) ?_
              refine lv_iadd hx hb dX13_laysParts_204 ?_
              refine lv_topi (fun z_242 ez_242 => ?_)
              obtain rfl : z_242 = 1 := ez_242.trans (by decide)
              refine va_iast hx hb hE.1 hP hD hS 7 0 rfl rfl (by rw [vp_in_iff]; first | omega | (subst_vars; omega)) dX13_laysParts_205 (fun H locs hP hD hS => ?_)
              have hP : va_P D vwCl [(h0, .inr (10, [.int (q 0), .int (q 1), .int (q 2), .int (q 3), .int (q 4), .int (q 5), .int (q 6), .int (q 7), .ref (a 8), .ref (a 9), .ref (a 10), .ref (a 11), .ref (a 12), .ref (a 13), .int (q 14), .long v, .long w, .ref (a 17), .ref (a 18), .ref (a 19), .ref (a 20), .ref (a 21), .ref (a 22), .ref (a 23), .int (q 24), .ref (a 25), .int (q 26), .ref (a 27), .int (q 28), .int (q 29), .int (q 30), .int (q 31), .int (q 32), .int (q 33), .ref (a 34), .ref (a 35), .ref (a 36), .ref (a 37), .ref (a 38), .ref (a 39), .ref (a 40), .int (q 41), .ref (a 42), .int (q 43), .int (q 44)])), ((a 8), .inl (T 0, 24, .inl f8)), ((a 9), .inl (T 0, 24, .inl f9)), ((a 10), .inl (T 0, 24, .inl f10)), ((a 11), .inl (T 0, 24, .inl f11)), ((a 17), .inl (T 0, 24, .inl (upd (upd e9 (xx.toNatClampNeg) 6) (xx.toNatClampNeg) z_218))), ((a 18), .inl (T 0, 24, .inl (upd p9 (xx.toNatClampNeg) (1 + z_233)))), ((a 19), .inl (T 0, 24, .inl (upd d9 (xx.toNatClampNeg) 1)))] H := hP
              have hD : va_D A [(h0, .inr (10, [.int (q 0), .int (q 1), .int (q 2), .int (q 3), .int (q 4), .int (q 5), .int (q 6), .int (q 7), .ref (a 8), .ref (a 9), .ref (a 10), .ref (a 11), .ref (a 12), .ref (a 13), .int (q 14), .long v, .long w, .ref (a 17), .ref (a 18), .ref (a 19), .ref (a 20), .ref (a 21), .ref (a 22), .ref (a 23), .int (q 24), .ref (a 25), .int (q 26), .ref (a 27), .int (q 28), .int (q 29), .int (q 30), .int (q 31), .int (q 32), .int (q 33), .ref (a 34), .ref (a 35), .ref (a 36), .ref (a 37), .ref (a 38), .ref (a 39), .ref (a 40), .int (q 41), .ref (a 42), .int (q 43), .int (q 44)])), ((a 8), .inl (T 0, 24, .inl f8)), ((a 9), .inl (T 0, 24, .inl f9)), ((a 10), .inl (T 0, 24, .inl f10)), ((a 11), .inl (T 0, 24, .inl f11)), ((a 17), .inl (T 0, 24, .inl (upd (upd e9 (xx.toNatClampNeg) 6) (xx.toNatClampNeg) z_218))), ((a 18), .inl (T 0, 24, .inl (upd p9 (xx.toNatClampNeg) (1 + z_233)))), ((a 19), .inl (T 0, 24, .inl (upd d9 (xx.toNatClampNeg) 1)))] := hD
              obtain ⟨z_243, ez_243⟩ : ∃ y : Int32, y = xx + 1 := ⟨_, rfl⟩
              refine lv_iinc (v := z_243) (lv' := [(1, .int z_243), (4, .int z_5), (3, .int z_4), (2, .int r_3), (0, .ref h0)]) hx hb dX13_laysParts_206 hl (k := 3) rfl (by rw [ez_243]; rfl) (by decide) rfl (fun ls hl => ?_)
              have hz_2439 : z_243.toInt = xx.toInt + 1 := by rw [ez_243]; exact inc1 (n := 1000) (by omega) (by decide)
              refine lv_goto (tgt := 2) hx hb dX13_laysParts_209 (by decide) ?_
              exact ih (z_243, (upd (upd e9 (xx.toNatClampNeg) 6) (xx.toNatClampNeg) z_218), (upd p9 (xx.toNatClampNeg) (1 + z_233)), (upd d9 (xx.toNatClampNeg) 1)) ls _ _ ⟨lv_sub hl [0, 4] rfl, hP.sub [0, 1, 2, 3, 4, 5, 6, 7] rfl, hD.sub [0, 1, 2, 3, 4, 5, 6, 7] (by decide) rfl, hS, ⟨(by rw [hz_2439]; omega), (by rw [upd_upd]; exact okE_step (n := 0) hEE (by omega) hz_2439 (by omega) (fun hk9 => by exfalso; omega) (okR.late hokR))⟩⟩ (by (try dsimp only); rw [hz_2439]; omega)
        · rw [fa_le] at c_219
          try rw [ti_0] at c_219
          refine lv_aload_n hx hb dX13_laysParts_131 rfl (lv_at hl 4 rfl) ?_
          refine va_get (D := D) (ci := 10) (v := .ref (a 18)) (C := RX13) (T := TX13) (N := 45) hx hb hts in_X13_laysParts_X13 hown hE.1 hP 0 rfl rfl 18 (by decide) (hts (.fieldLink RX13 50 "ClauseBookModel" "parts" "[I") (List.mem_of_getElem? (i := 14) rfl)) (fun _ h9 => h9) rfl dX13_laysParts_132 ?_
          refine lv_iload_n hx hb dX13_laysParts_135 rfl (lv_at hl 1 rfl) ?_
          refine va_iald hx hb hE.1 hP 6 0 rfl rfl (by rw [vp_in_iff]; first | omega | (subst_vars; omega)) dX13_laysParts_136 ?_
          refine lv_topi (fun z_244 ez_244 => ?_)
          refine lv_goto (tgt := 141) hx hb dX13_laysParts_137 (by decide) ?_
          refine lv_iadd hx hb dX13_laysParts_141 ?_
          refine lv_iload_n hx hb dX13_laysParts_142 rfl (lv_at hl 2 rfl) ?_
          refine lv_iconst (v := 1) hx hb dX13_laysParts_143 (by decide) ?_
          refine lv_icmp_le (tgt := 157) hx hb dX13_laysParts_144 (by decide) (fun c_245 => ?_) (fun c_245 => ?_)
          · rw [fa_le] at c_245
            try rw [ti_1] at c_245
            refine lv_iconst (v := 0) hx hb dX13_laysParts_157 (by decide) ?_
            refine lv_iadd hx hb dX13_laysParts_158 ?_
            refine va_iast hx hb hE.1 hP hD hS 6 0 rfl rfl (by rw [vp_in_iff]; first | omega | (subst_vars; omega)) dX13_laysParts_159 (fun H locs hP hD hS => ?_)
            have hP : va_P D vwCl [(h0, .inr (10, [.int (q 0), .int (q 1), .int (q 2), .int (q 3), .int (q 4), .int (q 5), .int (q 6), .int (q 7), .ref (a 8), .ref (a 9), .ref (a 10), .ref (a 11), .ref (a 12), .ref (a 13), .int (q 14), .long v, .long w, .ref (a 17), .ref (a 18), .ref (a 19), .ref (a 20), .ref (a 21), .ref (a 22), .ref (a 23), .int (q 24), .ref (a 25), .int (q 26), .ref (a 27), .int (q 28), .int (q 29), .int (q 30), .int (q 31), .int (q 32), .int (q 33), .ref (a 34), .ref (a 35), .ref (a 36), .ref (a 37), .ref (a 38), .ref (a 39), .ref (a 40), .int (q 41), .ref (a 42), .int (q 43), .int (q 44)])), ((a 8), .inl (T 0, 24, .inl f8)), ((a 9), .inl (T 0, 24, .inl f9)), ((a 10), .inl (T 0, 24, .inl f10)), ((a 11), .inl (T 0, 24, .inl f11)), ((a 17), .inl (T 0, 24, .inl (upd (upd e9 (xx.toNatClampNeg) 6) (xx.toNatClampNeg) z_218))), ((a 18), .inl (T 0, 24, .inl (upd p9 (xx.toNatClampNeg) ((1 + z_244) + 0)))), ((a 19), .inl (T 0, 24, .inl d9))] H := hP
            have hD : va_D A [(h0, .inr (10, [.int (q 0), .int (q 1), .int (q 2), .int (q 3), .int (q 4), .int (q 5), .int (q 6), .int (q 7), .ref (a 8), .ref (a 9), .ref (a 10), .ref (a 11), .ref (a 12), .ref (a 13), .int (q 14), .long v, .long w, .ref (a 17), .ref (a 18), .ref (a 19), .ref (a 20), .ref (a 21), .ref (a 22), .ref (a 23), .int (q 24), .ref (a 25), .int (q 26), .ref (a 27), .int (q 28), .int (q 29), .int (q 30), .int (q 31), .int (q 32), .int (q 33), .ref (a 34), .ref (a 35), .ref (a 36), .ref (a 37), .ref (a 38), .ref (a 39), .ref (a 40), .int (q 41), .ref (a 42), .int (q 43), .int (q 44)])), ((a 8), .inl (T 0, 24, .inl f8)), ((a 9), .inl (T 0, 24, .inl f9)), ((a 10), .inl (T 0, 24, .inl f10)), ((a 11), .inl (T 0, 24, .inl f11)), ((a 17), .inl (T 0, 24, .inl (upd (upd e9 (xx.toNatClampNeg) 6) (xx.toNatClampNeg) z_218))), ((a 18), .inl (T 0, 24, .inl (upd p9 (xx.toNatClampNeg) ((1 + z_244) + 0)))), ((a 19), .inl (T 0, 24, .inl d9))] := hD
            refine lv_aload_n hx hb dX13_laysParts_160 rfl (lv_at hl 4 rfl) ?_
            refine va_get (D := D) (ci := 10) (v := .ref (a 19)) (C := RX13) (T := TX13) (N := 45) hx hb hts in_X13_laysParts_X13 hown hE.1 hP 0 rfl rfl 19 (by decide) (hts (.fieldLink RX13 53 "ClauseBookModel" "deep" "[I") (List.mem_of_getElem? (i := 15) rfl)) (fun _ h9 => h9) rfl dX13_laysParts_161 ?_
            refine lv_iload_n hx hb dX13_laysParts_164 rfl (lv_at hl 3 rfl) ?_
            refine lv_iconst (v := 1) hx hb dX13_laysParts_165 (by decide) ?_
            refine lv_iload_n hx hb dX13_laysParts_166 rfl (lv_at hl 2 rfl) ?_
            refine lv_if_ne (tgt := 174) hx hb dX13_laysParts_167 (by decide) (fun c_246 => ?_) (fun c_246 => ?_)
            · rw [fa_eq] at c_246
              try rw [ti_0] at c_246
              refine lv_iload_n hx hb dX13_laysParts_174 rfl (lv_at hl 2 rfl) ?_
              refine lv_iconst (v := 1) hx hb dX13_laysParts_175 (by decide) ?_
              refine lv_icmp_ne (tgt := 188) hx hb dX13_laysParts_176 (by decide) (fun c_247 => ?_) (fun c_247 => ?_)
              · rw [fa_eq] at c_247
                try rw [ti_1] at c_247
                refine lv_aload_n hx hb dX13_laysParts_188 rfl (lv_at hl 4 rfl) ?_
                refine va_get (D := D) (ci := 10) (v := .ref (a 19)) (C := RX13) (T := TX13) (N := 45) hx hb hts in_X13_laysParts_X13 hown hE.1 hP 0 rfl rfl 19 (by decide) (hts (.fieldLink RX13 53 "ClauseBookModel" "deep" "[I") (List.mem_of_getElem? (i := 15) rfl)) (fun _ h9 => h9) rfl dX13_laysParts_189 ?_
                refine lv_iload_n hx hb dX13_laysParts_192 rfl (lv_at hl 1 rfl) ?_
                refine va_iald hx hb hE.1 hP 7 0 rfl rfl (by rw [vp_in_iff]; first | omega | (subst_vars; omega)) dX13_laysParts_193 ?_
                refine lv_topi (fun z_248 ez_248 => ?_)
                refine lv_aload_n hx hb dX13_laysParts_194 rfl (lv_at hl 4 rfl) ?_
                refine va_get (D := D) (ci := 10) (v := .ref (a 19)) (C := RX13) (T := TX13) (N := 45) hx hb hts in_X13_laysParts_X13 hown hE.1 hP 0 rfl rfl 19 (by decide) (hts (.fieldLink RX13 53 "ClauseBookModel" "deep" "[I") (List.mem_of_getElem? (i := 15) rfl)) (fun _ h9 => h9) rfl dX13_laysParts_195 ?_
                refine lv_iload hx hb dX13_laysParts_198 (lv_at hl 0 rfl) ?_
                refine va_iald hx hb hE.1 hP 7 0 rfl rfl (by rw [vp_in_iff]; first | omega | (subst_vars; omega)) dX13_laysParts_200 ?_
                refine lv_topi (fun z_249 ez_249 => ?_)
                refine va_mmax hx hb (hml.trans hl.1.symm) hown (hts (.methodLink RX13 227 Lib.Math.max.name) (List.mem_of_getElem? (i := 6) rfl)) (hts (.static Lib.Math.max.name) (List.mem_of_getElem? (i := 7) rfl)) (hts (.initialized "java/lang/Math") (List.mem_of_getElem? (i := 8) rfl)) (hts (.code Lib.Math.max.name Lib.Math.max.code 2 (some .int)) (List.mem_of_getElem? (i := 9) rfl)) (Nat.le_of_ble_eq_true rfl) (Nat.le_of_ble_eq_true rfl) (Nat.le_of_ble_eq_true rfl) (Nat.le_of_ble_eq_true rfl) dX13_laysParts_201 ?_
                refine lv_topi (fun z_250 ez_250 => ?_)
                refine lv_iadd hx hb dX13_laysParts_204 ?_
                refine va_iast hx hb hE.1 hP hD hS 7 0 rfl rfl (by rw [vp_in_iff]; first | omega | (subst_vars; omega)) dX13_laysParts_205 (fun H locs hP hD hS => ?_)
                have hP : va_P D vwCl [(h0, .inr (10, [.int (q 0), .int (q 1), .int (q 2), .int (q 3), .int (q 4), .int (q 5), .int (q 6), .int (q 7), .ref (a 8), .ref (a 9), .ref (a 10), .ref (a 11), .ref (a 12), .ref (a 13), .int (q 14), .long v, .long w, .ref (a 17), .ref (a 18), .ref (a 19), .ref (a 20), .ref (a 21), .ref (a 22), .ref (a 23), .int (q 24), .ref (a 25), .int (q 26), .ref (a 27), .int (q 28), .int (q 29), .int (q 30), .int (q 31), .int (q 32), .int (q 33), .ref (a 34), .ref (a 35), .ref (a 36), .ref (a 37), .ref (a 38), .ref (a 39), .ref (a 40), .int (q 41), .ref (a 42), .int (q 43), .int (q 44)])), ((a 8), .inl (T 0, 24, .inl f8)), ((a 9), .inl (T 0, 24, .inl f9)), ((a 10), .inl (T 0, 24, .inl f10)), ((a 11), .inl (T 0, 24, .inl f11)), ((a 17), .inl (T 0, 24, .inl (upd (upd e9 (xx.toNatClampNeg) 6) (xx.toNatClampNeg) z_218))), ((a 18), .inl (T 0, 24, .inl (upd p9 (xx.toNatClampNeg) ((1 + z_244) + 0)))), ((a 19), .inl (T 0, 24, .inl (upd d9 (xx.toNatClampNeg) (1 + z_250))))] H := hP
                have hD : va_D A [(h0, .inr (10, [.int (q 0), .int (q 1), .int (q 2), .int (q 3), .int (q 4), .int (q 5), .int (q 6), .int (q 7), .ref (a 8), .ref (a 9), .ref (a 10), .ref (a 11), .ref (a 12), .ref (a 13), .int (q 14), .long v, .long w, .ref (a 17), .ref (a 18), .ref (a 19), .ref (a 20), .ref (a 21), .ref (a 22), .ref (a 23), .int (q 24), .ref (a 25), .int (q 26), .ref (a 27), .int (q 28), .int (q 29), .int (q 30), .int (q 31), .int (q 32), .int (q 33), .ref (a 34), .ref (a 35), .ref (a 36), .ref (a 37), .ref (a 38), .ref (a 39), .ref (a 40), .int (q 41), .ref (a 42), .int (q 43), .int (q 44)])), ((a 8), .inl (T 0, 24, .inl f8)), ((a 9), .inl (T 0, 24, .inl f9)), ((a 10), .inl (T 0, 24, .inl f10)), ((a 11), .inl (T 0, 24, .inl f11)), ((a 17), .inl (T 0, 24, .inl (upd (upd e9 (xx.toNatClampNeg) 6) (xx.toNatClampNeg) z_218))), ((a 18), .inl (T 0, 24, .inl (upd p9 (xx.toNatClampNeg) ((1 + z_244) + 0)))), ((a 19), .inl (T 0, 24, .inl (upd d9 (xx.toNatClampNeg) (1 + z_250))))] := hD
                obtain ⟨z_251, ez_251⟩ : ∃ y : Int32, y = xx + 1 := ⟨_, rfl⟩
                refine lv_iinc (v := z_251) (lv' := [(1, .int z_251), (4, .int z_5), (3, .int z_4), (2, .int r_3), (0, .ref h0)]) hx hb dX13_laysParts_206 hl (k := 3) rfl (by rw [ez_251]; rfl) (by decide) rfl (fun ls hl => ?_)
                have hz_2519 : z_251.toInt = xx.toInt + 1 := by rw [ez_251]; exact inc1 (n := 1000) (by omega) (by decide)
                refine lv_goto (tgt := 2) hx hb dX13_laysParts_209 (by decide) ?_
                exact ih (z_251, (upd (upd e9 (xx.toNatClampNeg) 6) (xx.toNatClampNeg) z_218), (upd p9 (xx.toNatClampNeg) ((1 + z_244) + 0)), (upd d9 (xx.toNatClampNeg) (1 + z_250))) ls _ _ ⟨lv_sub hl [0, 4] rfl, hP.sub [0, 1, 2, 3, 4, 5, 6, 7] rfl, hD.sub [0, 1, 2, 3, 4, 5, 6, 7] (by decide) rfl, hS, ⟨(by rw [hz_2519]; omega), (by rw [upd_upd]; exact okE_step (n := 0) hEE (by omega) hz_2519 (by omega) (fun hk9 => by exfalso; omega) (okR.late hokR))⟩⟩ (by (try dsimp only); rw [hz_2519]; omega)
              · rw [fa_eq] at c_247
                try rw [ti_1] at c_247
                refine lv_aload_n hx hb dX13_laysParts_179 rfl (lv_at hl 4 rfl) ?_
                refine va_get (D := D) (ci := 10) (v := .ref (a 19)) (C := RX13) (T := TX13) (N := 45) hx hb hts in_X13_laysParts_X13 hown hE.1 hP 0 rfl rfl 19 (by decide) (hts (.fieldLink RX13 53 "ClauseBookModel" "deep" "[I") (List.mem_of_getElem? (i := 15) rfl)) (fun _ h9 => h9) rfl dX13_laysParts_180 ?_
                refine lv_iload_n hx hb dX13_laysParts_183 rfl (lv_at hl 1 rfl) ?_
                refine va_iald hx hb hE.1 hP 7 0 rfl rfl (by rw [vp_in_iff]; first | omega | (subst_vars; omega)) dX13_laysParts_184 ?_
                refine lv_topi (fun z_252 ez_252 => ?_)
                refine lv_goto (tgt := 204) hx hb dX13_laysParts_185 (by decide) ?_
                refine lv_iadd hx hb dX13_laysParts_204 ?_
                refine va_iast hx hb hE.1 hP hD hS 7 0 rfl rfl (by rw [vp_in_iff]; first | omega | (subst_vars; omega)) dX13_laysParts_205 (fun H locs hP hD hS => ?_)
                have hP : va_P D vwCl [(h0, .inr (10, [.int (q 0), .int (q 1), .int (q 2), .int (q 3), .int (q 4), .int (q 5), .int (q 6), .int (q 7), .ref (a 8), .ref (a 9), .ref (a 10), .ref (a 11), .ref (a 12), .ref (a 13), .int (q 14), .long v, .long w, .ref (a 17), .ref (a 18), .ref (a 19), .ref (a 20), .ref (a 21), .ref (a 22), .ref (a 23), .int (q 24), .ref (a 25), .int (q 26), .ref (a 27), .int (q 28), .int (q 29), .int (q 30), .int (q 31), .int (q 32), .int (q 33), .ref (a 34), .ref (a 35), .ref (a 36), .ref (a 37), .ref (a 38), .ref (a 39), .ref (a 40), .int (q 41), .ref (a 42), .int (q 43), .int (q 44)])), ((a 8), .inl (T 0, 24, .inl f8)), ((a 9), .inl (T 0, 24, .inl f9)), ((a 10), .inl (T 0, 24, .inl f10)), ((a 11), .inl (T 0, 24, .inl f11)), ((a 17), .inl (T 0, 24, .inl (upd (upd e9 (xx.toNatClampNeg) 6) (xx.toNatClampNeg) z_218))), ((a 18), .inl (T 0, 24, .inl (upd p9 (xx.toNatClampNeg) ((1 + z_244) + 0)))), ((a 19), .inl (T 0, 24, .inl (upd d9 (xx.toNatClampNeg) (1 + z_252))))] H := hP
                have hD : va_D A [(h0, .inr (10, [.int (q 0), .int (q 1), .int (q 2), .int (q 3), .int (q 4), .int (q 5), .int (q 6), .int (q 7), .ref (a 8), .ref (a 9), .ref (a 10), .ref (a 11), .ref (a 12), .ref (a 13), .int (q 14), .long v, .long w, .ref (a 17), .ref (a 18), .ref (a 19), .ref (a 20), .ref (a 21), .ref (a 22), .ref (a 23), .int (q 24), .ref (a 25), .int (q 26), .ref (a 27), .int (q 28), .int (q 29), .int (q 30), .int (q 31), .int (q 32), .int (q 33), .ref (a 34), .ref (a 35), .ref (a 36), .ref (a 37), .ref (a 38), .ref (a 39), .ref (a 40), .int (q 41), .ref (a 42), .int (q 43), .int (q 44)])), ((a 8), .inl (T 0, 24, .inl f8)), ((a 9), .inl (T 0, 24, .inl f9)), ((a 10), .inl (T 0, 24, .inl f10)), ((a 11), .inl (T 0, 24, .inl f11)), ((a 17), .inl (T 0, 24, .inl (upd (upd e9 (xx.toNatClampNeg) 6) (xx.toNatClampNeg) z_218))), ((a 18), .inl (T 0, 24, .inl (upd p9 (xx.toNatClampNeg) ((1 + z_244) + 0)))), ((a 19), .inl (T 0, 24, .inl (upd d9 (xx.toNatClampNeg) (1 + z_252))))] := hD
                obtain ⟨z_253, ez_253⟩ : ∃ y : Int32, y = xx + 1 := ⟨_, rfl⟩
                refine lv_iinc (v := z_253) (lv' := [(1, .int z_253), (4, .int z_5), (3, .int z_4), (2, .int r_3), (0, .ref h0)]) hx hb dX13_laysParts_206 hl (k := 3) rfl (by rw [ez_253]; rfl) (by decide) rfl (fun ls hl => ?_)
                have hz_2539 : z_253.toInt = xx.toInt + 1 := by rw [ez_253]; exact inc1 (n := 1000) (by omega) (by decide)
                refine lv_goto (tgt := 2) hx hb dX13_laysParts_209 (by decide) ?_
                exact ih (z_253, (upd (upd e9 (xx.toNatClampNeg) 6) (xx.toNatClampNeg) z_218), (upd p9 (xx.toNatClampNeg) ((1 + z_244) + 0)), (upd d9 (xx.toNatClampNeg) (1 + z_252))) ls _ _ ⟨lv_sub hl [0, 4] rfl, hP.sub [0, 1, 2, 3, 4, 5, 6, 7] rfl, hD.sub [0, 1, 2, 3, 4, 5, 6, 7] (by decide) rfl, hS, ⟨(by rw [hz_2539]; omega), (by rw [upd_upd]; exact okE_step (n := 0) hEE (by omega) hz_2539 (by omega) (fun hk9 => by exfalso; omega) (okR.late hokR))⟩⟩ (by (try dsimp only); rw [hz_2539]; omega)
            · rw [fa_eq] at c_246
              try rw [ti_0] at c_246
              refine lv_iconst (v := 0) hx hb dX13_laysParts_170 (by decide) ?_
              refine lv_goto (tgt := 204) hx hb dX13_laysParts_171 (by decide) ?_
              refine lv_iadd hx hb dX13_laysParts_204 ?_
              refine lv_topi (fun z_254 ez_254 => ?_)
              obtain rfl : z_254 = 1 := ez_254.trans (by decide)
              refine va_iast hx hb hE.1 hP hD hS 7 0 rfl rfl (by rw [vp_in_iff]; first | omega | (subst_vars; omega)) dX13_laysParts_205 (fun H locs hP hD hS => ?_)
              have hP : va_P D vwCl [(h0, .inr (10, [.int (q 0), .int (q 1), .int (q 2), .int (q 3), .int (q 4), .int (q 5), .int (q 6), .int (q 7), .ref (a 8), .ref (a 9), .ref (a 10), .ref (a 11), .ref (a 12), .ref (a 13), .int (q 14), .long v, .long w, .ref (a 17), .ref (a 18), .ref (a 19), .ref (a 20), .ref (a 21), .ref (a 22), .ref (a 23), .int (q 24), .ref (a 25), .int (q 26), .ref (a 27), .int (q 28), .int (q 29), .int (q 30), .int (q 31), .int (q 32), .int (q 33), .ref (a 34), .ref (a 35), .ref (a 36), .ref (a 37), .ref (a 38), .ref (a 39), .ref (a 40), .int (q 41), .ref (a 42), .int (q 43), .int (q 44)])), ((a 8), .inl (T 0, 24, .inl f8)), ((a 9), .inl (T 0, 24, .inl f9)), ((a 10), .inl (T 0, 24, .inl f10)), ((a 11), .inl (T 0, 24, .inl f11)), ((a 17), .inl (T 0, 24, .inl (upd (upd e9 (xx.toNatClampNeg) 6) (xx.toNatClampNeg) z_218))), ((a 18), .inl (T 0, 24, .inl (upd p9 (xx.toNatClampNeg) ((1 + z_244) + 0)))), ((a 19), .inl (T 0, 24, .inl (upd d9 (xx.toNatClampNeg) 1)))] H := hP
              have hD : va_D A [(h0, .inr (10, [.int (q 0), .int (q 1), .int (q 2), .int (q 3), .int (q 4), .int (q 5), .int (q 6), .int (q 7), .ref (a 8), .ref (a 9), .ref (a 10), .ref (a 11), .ref (a 12), .ref (a 13), .int (q 14), .long v, .long w, .ref (a 17), .ref (a 18), .ref (a 19), .ref (a 20), .ref (a 21), .ref (a 22), .ref (a 23), .int (q 24), .ref (a 25), .int (q 26), .ref (a 27), .int (q 28), .int (q 29), .int (q 30), .int (q 31), .int (q 32), .int (q 33), .ref (a 34), .ref (a 35), .ref (a 36), .ref (a 37), .ref (a 38), .ref (a 39), .ref (a 40), .int (q 41), .ref (a 42), .int (q 43), .int (q 44)])), ((a 8), .inl (T 0, 24, .inl f8)), ((a 9), .inl (T 0, 24, .inl f9)), ((a 10), .inl (T 0, 24, .inl f10)), ((a 11), .inl (T 0, 24, .inl f11)), ((a 17), .inl (T 0, 24, .inl (upd (upd e9 (xx.toNatClampNeg) 6) (xx.toNatClampNeg) z_218))), ((a 18), .inl (T 0, 24, .inl (upd p9 (xx.toNatClampNeg) ((1 + z_244) + 0)))), ((a 19), .inl (T 0, 24, .inl (upd d9 (xx.toNatClampNeg) 1)))] := hD
              obtain ⟨z_255, ez_255⟩ : ∃ y : Int32, y = xx + 1 := ⟨_, rfl⟩
              refine lv_iinc (v := z_255) (lv' := [(1, .int z_255), (4, .int z_5), (3, .int z_4), (2, .int r_3), (0, .ref h0)]) hx hb dX13_laysParts_206 hl (k := 3) rfl (by rw [ez_255]; rfl) (by decide) rfl (fun ls hl => ?_)
              have hz_2559 : z_255.toInt = xx.toInt + 1 := by rw [ez_255]; exact inc1 (n := 1000) (by omega) (by decide)
              refine lv_goto (tgt := 2) hx hb dX13_laysParts_209 (by decide) ?_
              exact ih (z_255, (upd (upd e9 (xx.toNatClampNeg) 6) (xx.toNatClampNeg) z_218), (upd p9 (xx.toNatClampNeg) ((1 + z_244) + 0)), (upd d9 (xx.toNatClampNeg) 1)) ls _ _ ⟨lv_sub hl [0, 4] rfl, hP.sub [0, 1, 2, 3, 4, 5, 6, 7] rfl, hD.sub [0, 1, 2, 3, 4, 5, 6, 7] (by decide) rfl, hS, ⟨(by rw [hz_2559]; omega), (by rw [upd_upd]; exact okE_step (n := 0) hEE (by omega) hz_2559 (by omega) (fun hk9 => by exfalso; omega) (okR.late hokR))⟩⟩ (by (try dsimp only); rw [hz_2559]; omega)
          · rw [fa_le] at c_245
            try rw [ti_1] at c_245
            refine lv_aload_n hx hb dX13_laysParts_147 rfl (lv_at hl 4 rfl) ?_
            refine va_get (D := D) (ci := 10) (v := .ref (a 18)) (C := RX13) (T := TX13) (N := 45) hx hb hts in_X13_laysParts_X13 hown hE.1 hP 0 rfl rfl 18 (by decide) (hts (.fieldLink RX13 50 "ClauseBookModel" "parts" "[I") (List.mem_of_getElem? (i := 14) rfl)) (fun _ h9 => h9) rfl dX13_laysParts_148 ?_
            refine lv_iload hx hb dX13_laysParts_151 (lv_at hl 0 rfl) ?_
            refine va_iald hx hb hE.1 hP 6 0 rfl rfl (by rw [vp_in_iff]; first | omega | (subst_vars; omega)) dX13_laysParts_153 ?_
            refine lv_topi (fun z_256 ez_256 => ?_)
            refine lv_goto (tgt := 158) hx hb dX13_laysParts_154 (by decide) ?_
            refine lv_iadd hx hb dX13_laysParts_158 ?_
            refine va_iast hx hb hE.1 hP hD hS 6 0 rfl rfl (by rw [vp_in_iff]; first | omega | (subst_vars; omega)) dX13_laysParts_159 (fun H locs hP hD hS => ?_)
            have hP : va_P D vwCl [(h0, .inr (10, [.int (q 0), .int (q 1), .int (q 2), .int (q 3), .int (q 4), .int (q 5), .int (q 6), .int (q 7), .ref (a 8), .ref (a 9), .ref (a 10), .ref (a 11), .ref (a 12), .ref (a 13), .int (q 14), .long v, .long w, .ref (a 17), .ref (a 18), .ref (a 19), .ref (a 20), .ref (a 21), .ref (a 22), .ref (a 23), .int (q 24), .ref (a 25), .int (q 26), .ref (a 27), .int (q 28), .int (q 29), .int (q 30), .int (q 31), .int (q 32), .int (q 33), .ref (a 34), .ref (a 35), .ref (a 36), .ref (a 37), .ref (a 38), .ref (a 39), .ref (a 40), .int (q 41), .ref (a 42), .int (q 43), .int (q 44)])), ((a 8), .inl (T 0, 24, .inl f8)), ((a 9), .inl (T 0, 24, .inl f9)), ((a 10), .inl (T 0, 24, .inl f10)), ((a 11), .inl (T 0, 24, .inl f11)), ((a 17), .inl (T 0, 24, .inl (upd (upd e9 (xx.toNatClampNeg) 6) (xx.toNatClampNeg) z_218))), ((a 18), .inl (T 0, 24, .inl (upd p9 (xx.toNatClampNeg) ((1 + z_244) + z_256)))), ((a 19), .inl (T 0, 24, .inl d9))] H := hP
            have hD : va_D A [(h0, .inr (10, [.int (q 0), .int (q 1), .int (q 2), .int (q 3), .int (q 4), .int (q 5), .int (q 6), .int (q 7), .ref (a 8), .ref (a 9), .ref (a 10), .ref (a 11), .ref (a 12), .ref (a 13), .int (q 14), .long v, .long w, .ref (a 17), .ref (a 18), .ref (a 19), .ref (a 20), .ref (a 21), .ref (a 22), .ref (a 23), .int (q 24), .ref (a 25), .int (q 26), .ref (a 27), .int (q 28), .int (q 29), .int (q 30), .int (q 31), .int (q 32), .int (q 33), .ref (a 34), .ref (a 35), .ref (a 36), .ref (a 37), .ref (a 38), .ref (a 39), .ref (a 40), .int (q 41), .ref (a 42), .int (q 43), .int (q 44)])), ((a 8), .inl (T 0, 24, .inl f8)), ((a 9), .inl (T 0, 24, .inl f9)), ((a 10), .inl (T 0, 24, .inl f10)), ((a 11), .inl (T 0, 24, .inl f11)), ((a 17), .inl (T 0, 24, .inl (upd (upd e9 (xx.toNatClampNeg) 6) (xx.toNatClampNeg) z_218))), ((a 18), .inl (T 0, 24, .inl (upd p9 (xx.toNatClampNeg) ((1 + z_244) + z_256)))), ((a 19), .inl (T 0, 24, .inl d9))] := hD
            refine lv_aload_n hx hb dX13_laysParts_160 rfl (lv_at hl 4 rfl) ?_
            refine va_get (D := D) (ci := 10) (v := .ref (a 19)) (C := RX13) (T := TX13) (N := 45) hx hb hts in_X13_laysParts_X13 hown hE.1 hP 0 rfl rfl 19 (by decide) (hts (.fieldLink RX13 53 "ClauseBookModel" "deep" "[I") (List.mem_of_getElem? (i := 15) rfl)) (fun _ h9 => h9) rfl dX13_laysParts_161 ?_
            refine lv_iload_n hx hb dX13_laysParts_164 rfl (lv_at hl 3 rfl) ?_
            refine lv_iconst (v := 1) hx hb dX13_laysParts_165 (by decide) ?_
            refine lv_iload_n hx hb dX13_laysParts_166 rfl (lv_at hl 2 rfl) ?_
            refine lv_if_ne (tgt := 174) hx hb dX13_laysParts_167 (by decide) (fun c_257 => ?_) (fun c_257 => ?_)
            · rw [fa_eq] at c_257
              try rw [ti_0] at c_257
              refine lv_iload_n hx hb dX13_laysParts_174 rfl (lv_at hl 2 rfl) ?_
              refine lv_iconst (v := 1) hx hb dX13_laysParts_175 (by decide) ?_
              refine lv_icmp_ne (tgt := 188) hx hb dX13_laysParts_176 (by decide) (fun c_258 => ?_) (fun c_258 => ?_)
              · rw [fa_eq] at c_258
                try rw [ti_1] at c_258
                refine lv_aload_n hx hb dX13_laysParts_188 rfl (lv_at hl 4 rfl) ?_
                refine va_get (D := D) (ci := 10) (v := .ref (a 19)) (C := RX13) (T := TX13) (N := 45) hx hb hts in_X13_laysParts_X13 hown hE.1 hP 0 rfl rfl 19 (by decide) (hts (.fieldLink RX13 53 "ClauseBookModel" "deep" "[I") (List.mem_of_getElem? (i := 15) rfl)) (fun _ h9 => h9) rfl dX13_laysParts_189 ?_
                refine lv_iload_n hx hb dX13_laysParts_192 rfl (lv_at hl 1 rfl) ?_
                refine va_iald hx hb hE.1 hP 7 0 rfl rfl (by rw [vp_in_iff]; first | omega | (subst_vars; omega)) dX13_laysParts_193 ?_
                refine lv_topi (fun z_259 ez_259 => ?_)
                refine lv_aload_n hx hb dX13_laysParts_194 rfl (lv_at hl 4 rfl) ?_
                refine va_get (D := D) (ci := 10) (v := .ref (a 19)) (C := RX13) (T := TX13) (N := 45) hx hb hts in_X13_laysParts_X13 hown hE.1 hP 0 rfl rfl 19 (by decide) (hts (.fieldLink RX13 53 "ClauseBookModel" "deep" "[I") (List.mem_of_getElem? (i := 15) rfl)) (fun _ h9 => h9) rfl dX13_laysParts_195 ?_
                refine lv_iload hx hb dX13_laysParts_198 (lv_at hl 0 rfl) ?_
                refine va_iald hx hb hE.1 hP 7 0 rfl rfl (by rw [vp_in_iff]; first | omega | (subst_vars; omega)) dX13_laysParts_200 ?_
                refine lv_topi (fun z_260 ez_260 => ?_)
                refine va_mmax hx hb (hml.trans hl.1.symm) hown (hts (.methodLink RX13 227 Lib.Math.max.name) (List.mem_of_getElem? (i := 6) rfl)) (hts (.static Lib.Math.max.name) (List.mem_of_getElem? (i := 7) rfl)) (hts (.initialized "java/lang/Math") (List.mem_of_getElem? (i := 8) rfl)) (hts (.code Lib.Math.max.name Lib.Math.max.code 2 (some .int)) (List.mem_of_getElem? (i := 9) rfl)) (Nat.le_of_ble_eq_true rfl) (Nat.le_of_ble_eq_true rfl) (Nat.le_of_ble_eq_true rfl) (Nat.le_of_ble_eq_true rfl) dX13_laysParts_201 ?_
                refine lv_topi (fun z_261 ez_261 => ?_)
                refine lv_iadd hx hb dX13_laysParts_204 ?_
                refine va_iast hx hb hE.1 hP hD hS 7 0 rfl rfl (by rw [vp_in_iff]; first | omega | (subst_vars; omega)) dX13_laysParts_205 (fun H locs hP hD hS => ?_)
                have hP : va_P D vwCl [(h0, .inr (10, [.int (q 0), .int (q 1), .int (q 2), .int (q 3), .int (q 4), .int (q 5), .int (q 6), .int (q 7), .ref (a 8), .ref (a 9), .ref (a 10), .ref (a 11), .ref (a 12), .ref (a 13), .int (q 14), .long v, .long w, .ref (a 17), .ref (a 18), .ref (a 19), .ref (a 20), .ref (a 21), .ref (a 22), .ref (a 23), .int (q 24), .ref (a 25), .int (q 26), .ref (a 27), .int (q 28), .int (q 29), .int (q 30), .int (q 31), .int (q 32), .int (q 33), .ref (a 34), .ref (a 35), .ref (a 36), .ref (a 37), .ref (a 38), .ref (a 39), .ref (a 40), .int (q 41), .ref (a 42), .int (q 43), .int (q 44)])), ((a 8), .inl (T 0, 24, .inl f8)), ((a 9), .inl (T 0, 24, .inl f9)), ((a 10), .inl (T 0, 24, .inl f10)), ((a 11), .inl (T 0, 24, .inl f11)), ((a 17), .inl (T 0, 24, .inl (upd (upd e9 (xx.toNatClampNeg) 6) (xx.toNatClampNeg) z_218))), ((a 18), .inl (T 0, 24, .inl (upd p9 (xx.toNatClampNeg) ((1 + z_244) + z_256)))), ((a 19), .inl (T 0, 24, .inl (upd d9 (xx.toNatClampNeg) (1 + z_261))))] H := hP
                have hD : va_D A [(h0, .inr (10, [.int (q 0), .int (q 1), .int (q 2), .int (q 3), .int (q 4), .int (q 5), .int (q 6), .int (q 7), .ref (a 8), .ref (a 9), .ref (a 10), .ref (a 11), .ref (a 12), .ref (a 13), .int (q 14), .long v, .long w, .ref (a 17), .ref (a 18), .ref (a 19), .ref (a 20), .ref (a 21), .ref (a 22), .ref (a 23), .int (q 24), .ref (a 25), .int (q 26), .ref (a 27), .int (q 28), .int (q 29), .int (q 30), .int (q 31), .int (q 32), .int (q 33), .ref (a 34), .ref (a 35), .ref (a 36), .ref (a 37), .ref (a 38), .ref (a 39), .ref (a 40), .int (q 41), .ref (a 42), .int (q 43), .int (q 44)])), ((a 8), .inl (T 0, 24, .inl f8)), ((a 9), .inl (T 0, 24, .inl f9)), ((a 10), .inl (T 0, 24, .inl f10)), ((a 11), .inl (T 0, 24, .inl f11)), ((a 17), .inl (T 0, 24, .inl (upd (upd e9 (xx.toNatClampNeg) 6) (xx.toNatClampNeg) z_218))), ((a 18), .inl (T 0, 24, .inl (upd p9 (xx.toNatClampNeg) ((1 + z_244) + z_256)))), ((a 19), .inl (T 0, 24, .inl (upd d9 (xx.toNatClampNeg) (1 + z_261))))] := hD
                obtain ⟨z_262, ez_262⟩ : ∃ y : Int32, y = xx + 1 := ⟨_, rfl⟩
                refine lv_iinc (v := z_262) (lv' := [(1, .int z_262), (4, .int z_5), (3, .int z_4), (2, .int r_3), (0, .ref h0)]) hx hb dX13_laysParts_206 hl (k := 3) rfl (by rw [ez_262]; rfl) (by decide) rfl (fun ls hl => ?_)
                have hz_2629 : z_262.toInt = xx.toInt + 1 := by rw [ez_262]; exact inc1 (n := 1000) (by omega) (by decide)
                refine lv_goto (tgt := 2) hx hb dX13_laysParts_209 (by decide) ?_
                exact ih (z_262, (upd (upd e9 (xx.toNatClampNeg) 6) (xx.toNatClampNeg) z_218), (upd p9 (xx.toNatClampNeg) ((1 + z_244) + z_256)), (upd d9 (xx.toNatClampNeg) (1 + z_261))) ls _ _ ⟨lv_sub hl [0, 4] rfl, hP.sub [0, 1, 2, 3, 4, 5, 6, 7] rfl, hD.sub [0, 1, 2, 3, 4, 5, 6, 7] (by decide) rfl, hS, ⟨(by rw [hz_2629]; omega), (by rw [upd_upd]; exact okE_step (n := 0) hEE (by omega) hz_2629 (by omega) (fun hk9 => by exfalso; omega) (okR.late hokR))⟩⟩ (by (try dsimp only); rw [hz_2629]; omega)
              · rw [fa_eq] at c_258
                try rw [ti_1] at c_258
                refine lv_aload_n hx hb dX13_laysParts_179 rfl (lv_at hl 4 rfl) ?_
                refine va_get (D := D) (ci := 10) (v := .ref (a 19)) (C := RX13) (T := TX13) (N := 45) hx hb hts in_X13_laysParts_X13 hown hE.1 hP 0 rfl rfl 19 (by decide) (hts (.fieldLink RX13 53 "ClauseBookModel" "deep" "[I") (List.mem_of_getElem? (i := 15) rfl)) (fun _ h9 => h9) rfl dX13_laysParts_180 ?_
                refine lv_iload_n hx hb dX13_laysParts_183 rfl (lv_at hl 1 rfl) ?_
                refine va_iald hx hb hE.1 hP 7 0 rfl rfl (by rw [vp_in_iff]; first | omega | (subst_vars; omega)) dX13_laysParts_184 ?_
                refine lv_topi (fun z_263 ez_263 => ?_)
                refine lv_goto (tgt := 204) hx hb dX13_laysParts_185 (by decide) ?_
                refine lv_iadd hx hb dX13_laysParts_204 ?_
                refine va_iast hx hb hE.1 hP hD hS 7 0 rfl rfl (by rw [vp_in_iff]; first | omega | (subst_vars; omega)) dX13_laysParts_205 (fun H locs hP hD hS => ?_)
                have hP : va_P D vwCl [(h0, .inr (10, [.int (q 0), .int (q 1), .int (q 2), .int (q 3), .int (q 4), .int (q 5), .int (q 6), .int (q 7), .ref (a 8), .ref (a 9), .ref (a 10), .ref (a 11), .ref (a 12), .ref (a 13), .int (q 14), .long v, .long w, .ref (a 17), .ref (a 18), .ref (a 19), .ref (a 20), .ref (a 21), .ref (a 22), .ref (a 23), .int (q 24), .ref (a 25), .int (q 26), .ref (a 27), .int (q 28), .int (q 29), .int (q 30), .int (q 31), .int (q 32), .int (q 33), .ref (a 34), .ref (a 35), .ref (a 36), .ref (a 37), .ref (a 38), .ref (a 39), .ref (a 40), .int (q 41), .ref (a 42), .int (q 43), .int (q 44)])), ((a 8), .inl (T 0, 24, .inl f8)), ((a 9), .inl (T 0, 24, .inl f9)), ((a 10), .inl (T 0, 24, .inl f10)), ((a 11), .inl (T 0, 24, .inl f11)), ((a 17), .inl (T 0, 24, .inl (upd (upd e9 (xx.toNatClampNeg) 6) (xx.toNatClampNeg) z_218))), ((a 18), .inl (T 0, 24, .inl (upd p9 (xx.toNatClampNeg) ((1 + z_244) + z_256)))), ((a 19), .inl (T 0, 24, .inl (upd d9 (xx.toNatClampNeg) (1 + z_263))))] H := hP
                have hD : va_D A [(h0, .inr (10, [.int (q 0), .int (q 1), .int (q 2), .int (q 3), .int (q 4), .int (q 5), .int (q 6), .int (q 7), .ref (a 8), .ref (a 9), .ref (a 10), .ref (a 11), .ref (a 12), .ref (a 13), .int (q 14), .long v, .long w, .ref (a 17), .ref (a 18), .ref (a 19), .ref (a 20), .ref (a 21), .ref (a 22), .ref (a 23), .int (q 24), .ref (a 25), .int (q 26), .ref (a 27), .int (q 28), .int (q 29), .int (q 30), .int (q 31), .int (q 32), .int (q 33), .ref (a 34), .ref (a 35), .ref (a 36), .ref (a 37), .ref (a 38), .ref (a 39), .ref (a 40), .int (q 41), .ref (a 42), .int (q 43), .int (q 44)])), ((a 8), .inl (T 0, 24, .inl f8)), ((a 9), .inl (T 0, 24, .inl f9)), ((a 10), .inl (T 0, 24, .inl f10)), ((a 11), .inl (T 0, 24, .inl f11)), ((a 17), .inl (T 0, 24, .inl (upd (upd e9 (xx.toNatClampNeg) 6) (xx.toNatClampNeg) z_218))), ((a 18), .inl (T 0, 24, .inl (upd p9 (xx.toNatClampNeg) ((1 + z_244) + z_256)))), ((a 19), .inl (T 0, 24, .inl (upd d9 (xx.toNatClampNeg) (1 + z_263))))] := hD
                obtain ⟨z_264, ez_264⟩ : ∃ y : Int32, y = xx + 1 := ⟨_, rfl⟩
                refine lv_iinc (v := z_264) (lv' := [(1, .int z_264), (4, .int z_5), (3, .int z_4), (2, .int r_3), (0, .ref h0)]) hx hb dX13_laysParts_206 hl (k := 3) rfl (by rw [ez_264]; rfl) (by decide) rfl (fun ls hl => ?_)
                have hz_2649 : z_264.toInt = xx.toInt + 1 := by rw [ez_264]; exact inc1 (n := 1000) (by omega) (by decide)
                refine lv_goto (tgt := 2) hx hb dX13_laysParts_209 (by decide) ?_
                exact ih (z_264, (upd (upd e9 (xx.toNatClampNeg) 6) (xx.toNatClampNeg) z_218), (upd p9 (xx.toNatClampNeg) ((1 + z_244) + z_256)), (upd d9 (xx.toNatClampNeg) (1 + z_263))) ls _ _ ⟨lv_sub hl [0, 4] rfl, hP.sub [0, 1, 2, 3, 4, 5, 6, 7] rfl, hD.sub [0, 1, 2, 3, 4, 5, 6, 7] (by decide) rfl, hS, ⟨(by rw [hz_2649]; omega), (by rw [upd_upd]; exact okE_step (n := 0) hEE (by omega) hz_2649 (by omega) (fun hk9 => by exfalso; omega) (okR.late hokR))⟩⟩ (by (try dsimp only); rw [hz_2649]; omega)
            · rw [fa_eq] at c_257
              try rw [ti_0] at c_257
              refine lv_iconst (v := 0) hx hb dX13_laysParts_170 (by decide) ?_
              refine lv_goto (tgt := 204) hx hb dX13_laysParts_171 (by decide) ?_
              refine lv_iadd hx hb dX13_laysParts_204 ?_
              refine lv_topi (fun z_265 ez_265 => ?_)
              obtain rfl : z_265 = 1 := ez_265.trans (by decide)
              refine va_iast hx hb hE.1 hP hD hS 7 0 rfl rfl (by rw [vp_in_iff]; first | omega | (subst_vars; omega)) dX13_laysParts_205 (fun H locs hP hD hS => ?_)
              have hP : va_P D vwCl [(h0, .inr (10, [.int (q 0), .int (q 1), .int (q 2), .int (q 3), .int (q 4), .int (q 5), .int (q 6), .int (q 7), .ref (a 8), .ref (a 9), .ref (a 10), .ref (a 11), .ref (a 12), .ref (a 13), .int (q 14), .long v, .long w, .ref (a 17), .ref (a 18), .ref (a 19), .ref (a 20), .ref (a 21), .ref (a 22), .ref (a 23), .int (q 24), .ref (a 25), .int (q 26), .ref (a 27), .int (q 28), .int (q 29), .int (q 30), .int (q 31), .int (q 32), .int (q 33), .ref (a 34), .ref (a 35), .ref (a 36), .ref (a 37), .ref (a 38), .ref (a 39), .ref (a 40), .int (q 41), .ref (a 42), .int (q 43), .int (q 44)])), ((a 8), .inl (T 0, 24, .inl f8)), ((a 9), .inl (T 0, 24, .inl f9)), ((a 10), .inl (T 0, 24, .inl f10)), ((a 11), .inl (T 0, 24, .inl f11)), ((a 17), .inl (T 0, 24, .inl (upd (upd e9 (xx.toNatClampNeg) 6) (xx.toNatClampNeg) z_218))), ((a 18), .inl (T 0, 24, .inl (upd p9 (xx.toNatClampNeg) ((1 + z_244) + z_256)))), ((a 19), .inl (T 0, 24, .inl (upd d9 (xx.toNatClampNeg) 1)))] H := hP
              have hD : va_D A [(h0, .inr (10, [.int (q 0), .int (q 1), .int (q 2), .int (q 3), .int (q 4), .int (q 5), .int (q 6), .int (q 7), .ref (a 8), .ref (a 9), .ref (a 10), .ref (a 11), .ref (a 12), .ref (a 13), .int (q 14), .long v, .long w, .ref (a 17), .ref (a 18), .ref (a 19), .ref (a 20), .ref (a 21), .ref (a 22), .ref (a 23), .int (q 24), .ref (a 25), .int (q 26), .ref (a 27), .int (q 28), .int (q 29), .int (q 30), .int (q 31), .int (q 32), .int (q 33), .ref (a 34), .ref (a 35), .ref (a 36), .ref (a 37), .ref (a 38), .ref (a 39), .ref (a 40), .int (q 41), .ref (a 42), .int (q 43), .int (q 44)])), ((a 8), .inl (T 0, 24, .inl f8)), ((a 9), .inl (T 0, 24, .inl f9)), ((a 10), .inl (T 0, 24, .inl f10)), ((a 11), .inl (T 0, 24, .inl f11)), ((a 17), .inl (T 0, 24, .inl (upd (upd e9 (xx.toNatClampNeg) 6) (xx.toNatClampNeg) z_218))), ((a 18), .inl (T 0, 24, .inl (upd p9 (xx.toNatClampNeg) ((1 + z_244) + z_256)))), ((a 19), .inl (T 0, 24, .inl (upd d9 (xx.toNatClampNeg) 1)))] := hD
              obtain ⟨z_266, ez_266⟩ : ∃ y : Int32, y = xx + 1 := ⟨_, rfl⟩
              refine lv_iinc (v := z_266) (lv' := [(1, .int z_266), (4, .int z_5), (3, .int z_4), (2, .int r_3), (0, .ref h0)]) hx hb dX13_laysParts_206 hl (k := 3) rfl (by rw [ez_266]; rfl) (by decide) rfl (fun ls hl => ?_)
              have hz_2669 : z_266.toInt = xx.toInt + 1 := by rw [ez_266]; exact inc1 (n := 1000) (by omega) (by decide)
              refine lv_goto (tgt := 2) hx hb dX13_laysParts_209 (by decide) ?_
              exact ih (z_266, (upd (upd e9 (xx.toNatClampNeg) 6) (xx.toNatClampNeg) z_218), (upd p9 (xx.toNatClampNeg) ((1 + z_244) + z_256)), (upd d9 (xx.toNatClampNeg) 1)) ls _ _ ⟨lv_sub hl [0, 4] rfl, hP.sub [0, 1, 2, 3, 4, 5, 6, 7] rfl, hD.sub [0, 1, 2, 3, 4, 5, 6, 7] (by decide) rfl, hS, ⟨(by rw [hz_2669]; omega), (by rw [upd_upd]; exact okE_step (n := 0) hEE (by omega) hz_2669 (by omega) (fun hk9 => by exfalso; omega) (okR.late hokR))⟩⟩ (by (try dsimp only); rw [hz_2669]; omega)
      · rw [fa_eq] at c_217
        try rw [ti_8] at c_217
        refine lv_aload_n hx hb dX13_laysParts_96 rfl (lv_at hl 4 rfl) ?_
        refine va_get (D := D) (ci := 10) (v := .ref (a 9)) (C := RX13) (T := TX13) (N := 45) hx hb hts in_X13_laysParts_X13 hown hE.1 hP 0 rfl rfl 9 (by decide) (hts (.fieldLink RX13 32 "ClauseBookModel" "number" "[I") (List.mem_of_getElem? (i := 10) rfl)) (fun _ h9 => h9) rfl dX13_laysParts_97 ?_
        refine lv_iload_n hx hb dX13_laysParts_100 rfl (lv_at hl 3 rfl) ?_
        refine va_iald hx hb hE.1 hP 2 0 rfl rfl (by rw [vp_in_iff]; first | omega | (subst_vars; omega)) dX13_laysParts_101 ?_
        refine lv_topi (fun z_267 ez_267 => ?_)
        refine lv_aload_n hx hb dX13_laysParts_102 rfl (lv_at hl 4 rfl) ?_
        refine va_get (D := D) (ci := 10) (v := .ref (a 17)) (C := RX13) (T := TX13) (N := 45) hx hb hts in_X13_laysParts_X13 hown hE.1 hP 0 rfl rfl 17 (by decide) (hts (.fieldLink RX13 47 "ClauseBookModel" "end" "[I") (List.mem_of_getElem? (i := 5) rfl)) (fun _ h9 => h9) rfl dX13_laysParts_103 ?_
        refine lv_iload_n hx hb dX13_laysParts_106 rfl (lv_at hl 3 rfl) ?_
        refine va_iald hx hb hE.1 hP 5 0 rfl rfl (by rw [vp_in_iff]; first | omega | (subst_vars; omega)) dX13_laysParts_107 ?_
        refine lv_topi (fun z_268 ez_268 => ?_)
        have hxz_268 : z_268.toInt = (6 : Int32).toInt := by rw [ez_268, upd_at]
        refine va_mmin hx hb (hml.trans hl.1.symm) hown (hts (.methodLink RX13 230 Lib.Math.min.name) (List.mem_of_getElem? (i := 11) rfl)) (hts (.static Lib.Math.min.name) (List.mem_of_getElem? (i := 12) rfl)) (hts (.initialized "java/lang/Math") (List.mem_of_getElem? (i := 8) rfl)) (hts (.code Lib.Math.min.name Lib.Math.min.code 2 (some .int)) (List.mem_of_getElem? (i := 13) rfl)) (Nat.le_of_ble_eq_true rfl) (Nat.le_of_ble_eq_true rfl) (Nat.le_of_ble_eq_true rfl) (Nat.le_of_ble_eq_true rfl) dX13_laysParts_108 ?_
        refine lv_topi (fun z_269 ez_269 => ?_)
        have hxz_269 : z_269.toInt ≤ 6 := by
          rw [ez_269]
          split
          · rename_i h
            omega
          · rename_i h
            rw [fa_lt] at h
            omega
        refine lv_goto (tgt := 120) hx hb dX13_laysParts_111 (by decide) ?_
        refine va_iast hx hb hE.1 hP hD hS 5 0 rfl rfl (by rw [vp_in_iff]; first | omega | (subst_vars; omega)) dX13_laysParts_120 (fun H locs hP hD hS => ?_)
        have hP : va_P D vwCl [(h0, .inr (10, [.int (q 0), .int (q 1), .int (q 2), .int (q 3), .int (q 4), .int (q 5), .int (q 6), .int (q 7), .ref (a 8), .ref (a 9), .ref (a 10), .ref (a 11), .ref (a 12), .ref (a 13), .int (q 14), .long v, .long w, .ref (a 17), .ref (a 18), .ref (a 19), .ref (a 20), .ref (a 21), .ref (a 22), .ref (a 23), .int (q 24), .ref (a 25), .int (q 26), .ref (a 27), .int (q 28), .int (q 29), .int (q 30), .int (q 31), .int (q 32), .int (q 33), .ref (a 34), .ref (a 35), .ref (a 36), .ref (a 37), .ref (a 38), .ref (a 39), .ref (a 40), .int (q 41), .ref (a 42), .int (q 43), .int (q 44)])), ((a 8), .inl (T 0, 24, .inl f8)), ((a 9), .inl (T 0, 24, .inl f9)), ((a 10), .inl (T 0, 24, .inl f10)), ((a 11), .inl (T 0, 24, .inl f11)), ((a 17), .inl (T 0, 24, .inl (upd (upd e9 (xx.toNatClampNeg) 6) (xx.toNatClampNeg) z_269))), ((a 18), .inl (T 0, 24, .inl p9)), ((a 19), .inl (T 0, 24, .inl d9))] H := hP
        have hD : va_D A [(h0, .inr (10, [.int (q 0), .int (q 1), .int (q 2), .int (q 3), .int (q 4), .int (q 5), .int (q 6), .int (q 7), .ref (a 8), .ref (a 9), .ref (a 10), .ref (a 11), .ref (a 12), .ref (a 13), .int (q 14), .long v, .long w, .ref (a 17), .ref (a 18), .ref (a 19), .ref (a 20), .ref (a 21), .ref (a 22), .ref (a 23), .int (q 24), .ref (a 25), .int (q 26), .ref (a 27), .int (q 28), .int (q 29), .int (q 30), .int (q 31), .int (q 32), .int (q 33), .ref (a 34), .ref (a 35), .ref (a 36), .ref (a 37), .ref (a 38), .ref (a 39), .ref (a 40), .int (q 41), .ref (a 42), .int (q 43), .int (q 44)])), ((a 8), .inl (T 0, 24, .inl f8)), ((a 9), .inl (T 0, 24, .inl f9)), ((a 10), .inl (T 0, 24, .inl f10)), ((a 11), .inl (T 0, 24, .inl f11)), ((a 17), .inl (T 0, 24, .inl (upd (upd e9 (xx.toNatClampNeg) 6) (xx.toNatClampNeg) z_269))), ((a 18), .inl (T 0, 24, .inl p9)), ((a 19), .inl (T 0, 24, .inl d9))] := hD
        refine lv_aload_n hx hb dX13_laysParts_121 rfl (lv_at hl 4 rfl) ?_
        refine va_get (D := D) (ci := 10) (v := .ref (a 18)) (C := RX13) (T := TX13) (N := 45) hx hb hts in_X13_laysParts_X13 hown hE.1 hP 0 rfl rfl 18 (by decide) (hts (.fieldLink RX13 50 "ClauseBookModel" "parts" "[I") (List.mem_of_getElem? (i := 14) rfl)) (fun _ h9 => h9) rfl dX13_laysParts_122 ?_
        refine lv_iload_n hx hb dX13_laysParts_125 rfl (lv_at hl 3 rfl) ?_
        refine lv_iconst (v := 1) hx hb dX13_laysParts_126 (by decide) ?_
        refine lv_iload_n hx hb dX13_laysParts_127 rfl (lv_at hl 2 rfl) ?_
        refine lv_if_le (tgt := 140) hx hb dX13_laysParts_128 (by decide) (fun c_270 => ?_) (fun c_270 => ?_)
        · rw [fa_le] at c_270
          try rw [ti_0] at c_270
          refine lv_iconst (v := 0) hx hb dX13_laysParts_140 (by decide) ?_
          refine lv_iadd hx hb dX13_laysParts_141 ?_
          refine lv_topi (fun z_271 ez_271 => ?_)
          obtain rfl : z_271 = 1 := ez_271.trans (by decide)
          refine lv_iload_n hx hb dX13_laysParts_142 rfl (lv_at hl 2 rfl) ?_
          refine lv_iconst (v := 1) hx hb dX13_laysParts_143 (by decide) ?_
          refine lv_icmp_le (tgt := 157) hx hb dX13_laysParts_144 (by decide) (fun c_272 => ?_) (fun c_272 => ?_)
          · rw [fa_le] at c_272
            try rw [ti_1] at c_272
            refine lv_iconst (v := 0) hx hb dX13_laysParts_157 (by decide) ?_
            refine lv_iadd hx hb dX13_laysParts_158 ?_
            refine lv_topi (fun z_273 ez_273 => ?_)
            obtain rfl : z_273 = 1 := ez_273.trans (by decide)
            refine va_iast hx hb hE.1 hP hD hS 6 0 rfl rfl (by rw [vp_in_iff]; first | omega | (subst_vars; omega)) dX13_laysParts_159 (fun H locs hP hD hS => ?_)
            have hP : va_P D vwCl [(h0, .inr (10, [.int (q 0), .int (q 1), .int (q 2), .int (q 3), .int (q 4), .int (q 5), .int (q 6), .int (q 7), .ref (a 8), .ref (a 9), .ref (a 10), .ref (a 11), .ref (a 12), .ref (a 13), .int (q 14), .long v, .long w, .ref (a 17), .ref (a 18), .ref (a 19), .ref (a 20), .ref (a 21), .ref (a 22), .ref (a 23), .int (q 24), .ref (a 25), .int (q 26), .ref (a 27), .int (q 28), .int (q 29), .int (q 30), .int (q 31), .int (q 32), .int (q 33), .ref (a 34), .ref (a 35), .ref (a 36), .ref (a 37), .ref (a 38), .ref (a 39), .ref (a 40), .int (q 41), .ref (a 42), .int (q 43), .int (q 44)])), ((a 8), .inl (T 0, 24, .inl f8)), ((a 9), .inl (T 0, 24, .inl f9)), ((a 10), .inl (T 0, 24, .inl f10)), ((a 11), .inl (T 0, 24, .inl f11)), ((a 17), .inl (T 0, 24, .inl (upd (upd e9 (xx.toNatClampNeg) 6) (xx.toNatClampNeg) z_269))), ((a 18), .inl (T 0, 24, .inl (upd p9 (xx.toNatClampNeg) 1))), ((a 19), .inl (T 0, 24, .inl d9))] H := hP
            have hD : va_D A [(h0, .inr (10, [.int (q 0), .int (q 1), .int (q 2), .int (q 3), .int (q 4), .int (q 5), .int (q 6), .int (q 7), .ref (a 8), .ref (a 9), .ref (a 10), .ref (a 11), .ref (a 12), .ref (a 13), .int (q 14), .long v, .long w, .ref (a 17), .ref (a 18), .ref (a 19), .ref (a 20), .ref (a 21), .ref (a 22), .ref (a 23), .int (q 24), .ref (a 25), .int (q 26), .ref (a 27), .int (q 28), .int (q 29), .int (q 30), .int (q 31), .int (q 32), .int (q 33), .ref (a 34), .ref (a 35), .ref (a 36), .ref (a 37), .ref (a 38), .ref (a 39), .ref (a 40), .int (q 41), .ref (a 42), .int (q 43), .int (q 44)])), ((a 8), .inl (T 0, 24, .inl f8)), ((a 9), .inl (T 0, 24, .inl f9)), ((a 10), .inl (T 0, 24, .inl f10)), ((a 11), .inl (T 0, 24, .inl f11)), ((a 17), .inl (T 0, 24, .inl (upd (upd e9 (xx.toNatClampNeg) 6) (xx.toNatClampNeg) z_269))), ((a 18), .inl (T 0, 24, .inl (upd p9 (xx.toNatClampNeg) 1))), ((a 19), .inl (T 0, 24, .inl d9))] := hD
            refine lv_aload_n hx hb dX13_laysParts_160 rfl (lv_at hl 4 rfl) ?_
            refine va_get (D := D) (ci := 10) (v := .ref (a 19)) (C := RX13) (T := TX13) (N := 45) hx hb hts in_X13_laysParts_X13 hown hE.1 hP 0 rfl rfl 19 (by decide) (hts (.fieldLink RX13 53 "ClauseBookModel" "deep" "[I") (List.mem_of_getElem? (i := 15) rfl)) (fun _ h9 => h9) rfl dX13_laysParts_161 ?_
            refine lv_iload_n hx hb dX13_laysParts_164 rfl (lv_at hl 3 rfl) ?_
            refine lv_iconst (v := 1) hx hb dX13_laysParts_165 (by decide) ?_
            refine lv_iload_n hx hb dX13_laysParts_166 rfl (lv_at hl 2 rfl) ?_
            refine lv_if_ne (tgt := 174) hx hb dX13_laysParts_167 (by decide) (fun c_274 => ?_) (fun c_274 => ?_)
            · rw [fa_eq] at c_274
              try rw [ti_0] at c_274
              refine lv_iload_n hx hb dX13_laysParts_174 rfl (lv_at hl 2 rfl) ?_
              refine lv_iconst (v := 1) hx hb dX13_laysParts_175 (by decide) ?_
              refine lv_icmp_ne (tgt := 188) hx hb dX13_laysParts_176 (by decide) (fun c_275 => ?_) (fun c_275 => ?_)
              · rw [fa_eq] at c_275
                try rw [ti_1] at c_275
                refine lv_aload_n hx hb dX13_laysParts_188 rfl (lv_at hl 4 rfl) ?_
                refine va_get (D := D) (ci := 10) (v := .ref (a 19)) (C := RX13) (T := TX13) (N := 45) hx hb hts in_X13_laysParts_X13 hown hE.1 hP 0 rfl rfl 19 (by decide) (hts (.fieldLink RX13 53 "ClauseBookModel" "deep" "[I") (List.mem_of_getElem? (i := 15) rfl)) (fun _ h9 => h9) rfl dX13_laysParts_189 ?_
                refine lv_iload_n hx hb dX13_laysParts_192 rfl (lv_at hl 1 rfl) ?_
                refine va_iald hx hb hE.1 hP 7 0 rfl rfl (by rw [vp_in_iff]; first | omega | (subst_vars; omega)) dX13_laysParts_193 ?_
                refine lv_topi (fun z_276 ez_276 => ?_)
                refine lv_aload_n hx hb dX13_laysParts_194 rfl (lv_at hl 4 rfl) ?_
                refine va_get (D := D) (ci := 10) (v := .ref (a 19)) (C := RX13) (T := TX13) (N := 45) hx hb hts in_X13_laysParts_X13 hown hE.1 hP 0 rfl rfl 19 (by decide) (hts (.fieldLink RX13 53 "ClauseBookModel" "deep" "[I") (List.mem_of_getElem? (i := 15) rfl)) (fun _ h9 => h9) rfl dX13_laysParts_195 ?_
                refine lv_iload hx hb dX13_laysParts_198 (lv_at hl 0 rfl) ?_
                refine va_iald hx hb hE.1 hP 7 0 rfl rfl (by rw [vp_in_iff]; first | omega | (subst_vars; omega)) dX13_laysParts_200 ?_
                refine lv_topi (fun z_277 ez_277 => ?_)
                refine va_mmax hx hb (hml.trans hl.1.symm) hown (hts (.methodLink RX13 227 Lib.Math.max.name) (List.mem_of_getElem? (i := 6) rfl)) (hts (.static Lib.Math.max.name) (List.mem_of_getElem? (i := 7) rfl)) (hts (.initialized "java/lang/Math") (List.mem_of_getElem? (i := 8) rfl)) (hts (.code Lib.Math.max.name Lib.Math.max.code 2 (some .int)) (List.mem_of_getElem? (i := 9) rfl)) (Nat.le_of_ble_eq_true rfl) (Nat.le_of_ble_eq_true rfl) (Nat.le_of_ble_eq_true rfl) (Nat.le_of_ble_eq_true rfl) dX13_laysParts_201 ?_
                refine lv_topi (fun z_278 ez_278 => ?_)
                refine lv_iadd hx hb dX13_laysParts_204 ?_
                refine va_iast hx hb hE.1 hP hD hS 7 0 rfl rfl (by rw [vp_in_iff]; first | omega | (subst_vars; omega)) dX13_laysParts_205 (fun H locs hP hD hS => ?_)
                have hP : va_P D vwCl [(h0, .inr (10, [.int (q 0), .int (q 1), .int (q 2), .int (q 3), .int (q 4), .int (q 5), .int (q 6), .int (q 7), .ref (a 8), .ref (a 9), .ref (a 10), .ref (a 11), .ref (a 12), .ref (a 13), .int (q 14), .long v, .long w, .ref (a 17), .ref (a 18), .ref (a 19), .ref (a 20), .ref (a 21), .ref (a 22), .ref (a 23), .int (q 24), .ref (a 25), .int (q 26), .ref (a 27), .int (q 28), .int (q 29), .int (q 30), .int (q 31), .int (q 32), .int (q 33), .ref (a 34), .ref (a 35), .ref (a 36), .ref (a 37), .ref (a 38), .ref (a 39), .ref (a 40), .int (q 41), .ref (a 42), .int (q 43), .int (q 44)])), ((a 8), .inl (T 0, 24, .inl f8)), ((a 9), .inl (T 0, 24, .inl f9)), ((a 10), .inl (T 0, 24, .inl f10)), ((a 11), .inl (T 0, 24, .inl f11)), ((a 17), .inl (T 0, 24, .inl (upd (upd e9 (xx.toNatClampNeg) 6) (xx.toNatClampNeg) z_269))), ((a 18), .inl (T 0, 24, .inl (upd p9 (xx.toNatClampNeg) 1))), ((a 19), .inl (T 0, 24, .inl (upd d9 (xx.toNatClampNeg) (1 + z_278))))] H := hP
                have hD : va_D A [(h0, .inr (10, [.int (q 0), .int (q 1), .int (q 2), .int (q 3), .int (q 4), .int (q 5), .int (q 6), .int (q 7), .ref (a 8), .ref (a 9), .ref (a 10), .ref (a 11), .ref (a 12), .ref (a 13), .int (q 14), .long v, .long w, .ref (a 17), .ref (a 18), .ref (a 19), .ref (a 20), .ref (a 21), .ref (a 22), .ref (a 23), .int (q 24), .ref (a 25), .int (q 26), .ref (a 27), .int (q 28), .int (q 29), .int (q 30), .int (q 31), .int (q 32), .int (q 33), .ref (a 34), .ref (a 35), .ref (a 36), .ref (a 37), .ref (a 38), .ref (a 39), .ref (a 40), .int (q 41), .ref (a 42), .int (q 43), .int (q 44)])), ((a 8), .inl (T 0, 24, .inl f8)), ((a 9), .inl (T 0, 24, .inl f9)), ((a 10), .inl (T 0, 24, .inl f10)), ((a 11), .inl (T 0, 24, .inl f11)), ((a 17), .inl (T 0, 24, .inl (upd (upd e9 (xx.toNatClampNeg) 6) (xx.toNatClampNeg) z_269))), ((a 18), .inl (T 0, 24, .inl (upd p9 (xx.toNatClampNeg) 1))), ((a 19), .inl (T 0, 24, .inl (upd d9 (xx.toNatClampNeg) (1 + z_278))))] := hD
                obtain ⟨z_279, ez_279⟩ : ∃ y : Int32, y = xx + 1 := ⟨_, rfl⟩
                refine lv_iinc (v := z_279) (lv' := [(1, .int z_279), (4, .int z_5), (3, .int z_4), (2, .int r_3), (0, .ref h0)]) hx hb dX13_laysParts_206 hl (k := 3) rfl (by rw [ez_279]; rfl) (by decide) rfl (fun ls hl => ?_)
                have hz_2799 : z_279.toInt = xx.toInt + 1 := by rw [ez_279]; exact inc1 (n := 1000) (by omega) (by decide)
                refine lv_goto (tgt := 2) hx hb dX13_laysParts_209 (by decide) ?_
                exact ih (z_279, (upd (upd e9 (xx.toNatClampNeg) 6) (xx.toNatClampNeg) z_269), (upd p9 (xx.toNatClampNeg) 1), (upd d9 (xx.toNatClampNeg) (1 + z_278))) ls _ _ ⟨lv_sub hl [0, 4] rfl, hP.sub [0, 1, 2, 3, 4, 5, 6, 7] rfl, hD.sub [0, 1, 2, 3, 4, 5, 6, 7] (by decide) rfl, hS, ⟨(by rw [hz_2799]; omega), (by rw [upd_upd]; exact okE_step (n := 0) hEE (by omega) hz_2799 (by omega) (fun hk9 => by exfalso; omega) (okR.late hokR))⟩⟩ (by (try dsimp only); rw [hz_2799]; omega)
              · rw [fa_eq] at c_275
                try rw [ti_1] at c_275
                refine lv_aload_n hx hb dX13_laysParts_179 rfl (lv_at hl 4 rfl) ?_
                refine va_get (D := D) (ci := 10) (v := .ref (a 19)) (C := RX13) (T := TX13) (N := 45) hx hb hts in_X13_laysParts_X13 hown hE.1 hP 0 rfl rfl 19 (by decide) (hts (.fieldLink RX13 53 "ClauseBookModel" "deep" "[I") (List.mem_of_getElem? (i := 15) rfl)) (fun _ h9 => h9) rfl dX13_laysParts_180 ?_
                refine lv_iload_n hx hb dX13_laysParts_183 rfl (lv_at hl 1 rfl) ?_
                refine va_iald hx hb hE.1 hP 7 0 rfl rfl (by rw [vp_in_iff]; first | omega | (subst_vars; omega)) dX13_laysParts_184 ?_
                refine lv_topi (fun z_280 ez_280 => ?_)
                refine lv_goto (tgt := 204) hx hb dX13_laysParts_185 (by decide) ?_
                refine lv_iadd hx hb dX13_laysParts_204 ?_
                refine va_iast hx hb hE.1 hP hD hS 7 0 rfl rfl (by rw [vp_in_iff]; first | omega | (subst_vars; omega)) dX13_laysParts_205 (fun H locs hP hD hS => ?_)
                have hP : va_P D vwCl [(h0, .inr (10, [.int (q 0), .int (q 1), .int (q 2), .int (q 3), .int (q 4), .int (q 5), .int (q 6), .int (q 7), .ref (a 8), .ref (a 9), .ref (a 10), .ref (a 11), .ref (a 12), .ref (a 13), .int (q 14), .long v, .long w, .ref (a 17), .ref (a 18), .ref (a 19), .ref (a 20), .ref (a 21), .ref (a 22), .ref (a 23), .int (q 24), .ref (a 25), .int (q 26), .ref (a 27), .int (q 28), .int (q 29), .int (q 30), .int (q 31), .int (q 32), .int (q 33), .ref (a 34), .ref (a 35), .ref (a 36), .ref (a 37), .ref (a 38), .ref (a 39), .ref (a 40), .int (q 41), .ref (a 42), .int (q 43), .int (q 44)])), ((a 8), .inl (T 0, 24, .inl f8)), ((a 9), .inl (T 0, 24, .inl f9)), ((a 10), .inl (T 0, 24, .inl f10)), ((a 11), .inl (T 0, 24, .inl f11)), ((a 17), .inl (T 0, 24, .inl (upd (upd e9 (xx.toNatClampNeg) 6) (xx.toNatClampNeg) z_269))), ((a 18), .inl (T 0, 24, .inl (upd p9 (xx.toNatClampNeg) 1))), ((a 19), .inl (T 0, 24, .inl (upd d9 (xx.toNatClampNeg) (1 + z_280))))] H := hP
                have hD : va_D A [(h0, .inr (10, [.int (q 0), .int (q 1), .int (q 2), .int (q 3), .int (q 4), .int (q 5), .int (q 6), .int (q 7), .ref (a 8), .ref (a 9), .ref (a 10), .ref (a 11), .ref (a 12), .ref (a 13), .int (q 14), .long v, .long w, .ref (a 17), .ref (a 18), .ref (a 19), .ref (a 20), .ref (a 21), .ref (a 22), .ref (a 23), .int (q 24), .ref (a 25), .int (q 26), .ref (a 27), .int (q 28), .int (q 29), .int (q 30), .int (q 31), .int (q 32), .int (q 33), .ref (a 34), .ref (a 35), .ref (a 36), .ref (a 37), .ref (a 38), .ref (a 39), .ref (a 40), .int (q 41), .ref (a 42), .int (q 43), .int (q 44)])), ((a 8), .inl (T 0, 24, .inl f8)), ((a 9), .inl (T 0, 24, .inl f9)), ((a 10), .inl (T 0, 24, .inl f10)), ((a 11), .inl (T 0, 24, .inl f11)), ((a 17), .inl (T 0, 24, .inl (upd (upd e9 (xx.toNatClampNeg) 6) (xx.toNatClampNeg) z_269))), ((a 18), .inl (T 0, 24, .inl (upd p9 (xx.toNatClampNeg) 1))), ((a 19), .inl (T 0, 24, .inl (upd d9 (xx.toNatClampNeg) (1 + z_280))))] := hD
                obtain ⟨z_281, ez_281⟩ : ∃ y : Int32, y = xx + 1 := ⟨_, rfl⟩
                refine lv_iinc (v := z_281) (lv' := [(1, .int z_281), (4, .int z_5), (3, .int z_4), (2, .int r_3), (0, .ref h0)]) hx hb dX13_laysParts_206 hl (k := 3) rfl (by rw [ez_281]; rfl) (by decide) rfl (fun ls hl => ?_)
                have hz_2819 : z_281.toInt = xx.toInt + 1 := by rw [ez_281]; exact inc1 (n := 1000) (by omega) (by decide)
                refine lv_goto (tgt := 2) hx hb dX13_laysParts_209 (by decide) ?_
                exact ih (z_281, (upd (upd e9 (xx.toNatClampNeg) 6) (xx.toNatClampNeg) z_269), (upd p9 (xx.toNatClampNeg) 1), (upd d9 (xx.toNatClampNeg) (1 + z_280))) ls _ _ ⟨lv_sub hl [0, 4] rfl, hP.sub [0, 1, 2, 3, 4, 5, 6, 7] rfl, hD.sub [0, 1, 2, 3, 4, 5, 6, 7] (by decide) rfl, hS, ⟨(by rw [hz_2819]; omega), (by rw [upd_upd]; exact okE_step (n := 0) hEE (by omega) hz_2819 (by omega) (fun hk9 => by exfalso; omega) (okR.late hokR))⟩⟩ (by (try dsimp only); rw [hz_2819]; omega)
            · rw [fa_eq] at c_274
              try rw [ti_0] at c_274
              refine lv_iconst (v := 0) hx hb dX13_laysParts_170 (by decide) ?_
              refine lv_goto (tgt := 204) hx hb dX13_laysParts_171 (by decide) ?_
              refine lv_iadd hx hb dX13_laysParts_204 ?_
              refine lv_topi (fun z_282 ez_282 => ?_)
              obtain rfl : z_282 = 1 := ez_282.trans (by decide)
              refine va_iast hx hb hE.1 hP hD hS 7 0 rfl rfl (by rw [vp_in_iff]; first | omega | (subst_vars; omega)) dX13_laysParts_205 (fun H locs hP hD hS => ?_)
              have hP : va_P D vwCl [(h0, .inr (10, [.int (q 0), .int (q 1), .int (q 2), .int (q 3), .int (q 4), .int (q 5), .int (q 6), .int (q 7), .ref (a 8), .ref (a 9), .ref (a 10), .ref (a 11), .ref (a 12), .ref (a 13), .int (q 14), .long v, .long w, .ref (a 17), .ref (a 18), .ref (a 19), .ref (a 20), .ref (a 21), .ref (a 22), .ref (a 23), .int (q 24), .ref (a 25), .int (q 26), .ref (a 27), .int (q 28), .int (q 29), .int (q 30), .int (q 31), .int (q 32), .int (q 33), .ref (a 34), .ref (a 35), .ref (a 36), .ref (a 37), .ref (a 38), .ref (a 39), .ref (a 40), .int (q 41), .ref (a 42), .int (q 43), .int (q 44)])), ((a 8), .inl (T 0, 24, .inl f8)), ((a 9), .inl (T 0, 24, .inl f9)), ((a 10), .inl (T 0, 24, .inl f10)), ((a 11), .inl (T 0, 24, .inl f11)), ((a 17), .inl (T 0, 24, .inl (upd (upd e9 (xx.toNatClampNeg) 6) (xx.toNatClampNeg) z_269))), ((a 18), .inl (T 0, 24, .inl (upd p9 (xx.toNatClampNeg) 1))), ((a 19), .inl (T 0, 24, .inl (upd d9 (xx.toNatClampNeg) 1)))] H := hP
              have hD : va_D A [(h0, .inr (10, [.int (q 0), .int (q 1), .int (q 2), .int (q 3), .int (q 4), .int (q 5), .int (q 6), .int (q 7), .ref (a 8), .ref (a 9), .ref (a 10), .ref (a 11), .ref (a 12), .ref (a 13), .int (q 14), .long v, .long w, .ref (a 17), .ref (a 18), .ref (a 19), .ref (a 20), .ref (a 21), .ref (a 22), .ref (a 23), .int (q 24), .ref (a 25), .int (q 26), .ref (a 27), .int (q 28), .int (q 29), .int (q 30), .int (q 31), .int (q 32), .int (q 33), .ref (a 34), .ref (a 35), .ref (a 36), .ref (a 37), .ref (a 38), .ref (a 39), .ref (a 40), .int (q 41), .ref (a 42), .int (q 43), .int (q 44)])), ((a 8), .inl (T 0, 24, .inl f8)), ((a 9), .inl (T 0, 24, .inl f9)), ((a 10), .inl (T 0, 24, .inl f10)), ((a 11), .inl (T 0, 24, .inl f11)), ((a 17), .inl (T 0, 24, .inl (upd (upd e9 (xx.toNatClampNeg) 6) (xx.toNatClampNeg) z_269))), ((a 18), .inl (T 0, 24, .inl (upd p9 (xx.toNatClampNeg) 1))), ((a 19), .inl (T 0, 24, .inl (upd d9 (xx.toNatClampNeg) 1)))] := hD
              obtain ⟨z_283, ez_283⟩ : ∃ y : Int32, y = xx + 1 := ⟨_, rfl⟩
              refine lv_iinc (v := z_283) (lv' := [(1, .int z_283), (4, .int z_5), (3, .int z_4), (2, .int r_3), (0, .ref h0)]) hx hb dX13_laysParts_206 hl (k := 3) rfl (by rw [ez_283]; rfl) (by decide) rfl (fun ls hl => ?_)
              have hz_2839 : z_283.toInt = xx.toInt + 1 := by rw [ez_283]; exact inc1 (n := 1000) (by omega) (by decide)
              refine lv_goto (tgt := 2) hx hb dX13_laysParts_209 (by decide) ?_
              exact ih (z_283, (upd (upd e9 (xx.toNatClampNeg) 6) (xx.toNatClampNeg) z_269), (upd p9 (xx.toNatClampNeg) 1), (upd d9 (xx.toNatClampNeg) 1)) ls _ _ ⟨lv_sub hl [0, 4] rfl, hP.sub [0, 1, 2, 3, 4, 5, 6, 7] rfl, hD.sub [0, 1, 2, 3, 4, 5, 6, 7] (by decide) rfl, hS, ⟨(by rw [hz_2839]; omega), (by rw [upd_upd]; exact okE_step (n := 0) hEE (by omega) hz_2839 (by omega) (fun hk9 => by exfalso; omega) (okR.late hokR))⟩⟩ (by (try dsimp only); rw [hz_2839]; omega)
          · rw [fa_le] at c_272
            try rw [ti_1] at c_272
            refine lv_aload_n hx hb dX13_laysParts_147 rfl (lv_at hl 4 rfl) ?_
            refine va_get (D := D) (ci := 10) (v := .ref (a 18)) (C := RX13) (T := TX13) (N := 45) hx hb hts in_X13_laysParts_X13 hown hE.1 hP 0 rfl rfl 18 (by decide) (hts (.fieldLink RX13 50 "ClauseBookModel" "parts" "[I") (List.mem_of_getElem? (i := 14) rfl)) (fun _ h9 => h9) rfl dX13_laysParts_148 ?_
            refine lv_iload hx hb dX13_laysParts_151 (lv_at hl 0 rfl) ?_
            refine va_iald hx hb hE.1 hP 6 0 rfl rfl (by rw [vp_in_iff]; first | omega | (subst_vars; omega)) dX13_laysParts_153 ?_
            refine lv_topi (fun z_284 ez_284 => ?_)
            refine lv_goto (tgt := 158) hx hb dX13_laysParts_154 (by decide) ?_
            refine lv_iadd hx hb dX13_laysParts_158 ?_
            refine va_iast hx hb hE.1 hP hD hS 6 0 rfl rfl (by rw [vp_in_iff]; first | omega | (subst_vars; omega)) dX13_laysParts_159 (fun H locs hP hD hS => ?_)
            have hP : va_P D vwCl [(h0, .inr (10, [.int (q 0), .int (q 1), .int (q 2), .int (q 3), .int (q 4), .int (q 5), .int (q 6), .int (q 7), .ref (a 8), .ref (a 9), .ref (a 10), .ref (a 11), .ref (a 12), .ref (a 13), .int (q 14), .long v, .long w, .ref (a 17), .ref (a 18), .ref (a 19), .ref (a 20), .ref (a 21), .ref (a 22), .ref (a 23), .int (q 24), .ref (a 25), .int (q 26), .ref (a 27), .int (q 28), .int (q 29), .int (q 30), .int (q 31), .int (q 32), .int (q 33), .ref (a 34), .ref (a 35), .ref (a 36), .ref (a 37), .ref (a 38), .ref (a 39), .ref (a 40), .int (q 41), .ref (a 42), .int (q 43), .int (q 44)])), ((a 8), .inl (T 0, 24, .inl f8)), ((a 9), .inl (T 0, 24, .inl f9)), ((a 10), .inl (T 0, 24, .inl f10)), ((a 11), .inl (T 0, 24, .inl f11)), ((a 17), .inl (T 0, 24, .inl (upd (upd e9 (xx.toNatClampNeg) 6) (xx.toNatClampNeg) z_269))), ((a 18), .inl (T 0, 24, .inl (upd p9 (xx.toNatClampNeg) (1 + z_284)))), ((a 19), .inl (T 0, 24, .inl d9))] H := hP
            have hD : va_D A [(h0, .inr (10, [.int (q 0), .int (q 1), .int (q 2), .int (q 3), .int (q 4), .int (q 5), .int (q 6), .int (q 7), .ref (a 8), .ref (a 9), .ref (a 10), .ref (a 11), .ref (a 12), .ref (a 13), .int (q 14), .long v, .long w, .ref (a 17), .ref (a 18), .ref (a 19), .ref (a 20), .ref (a 21), .ref (a 22), .ref (a 23), .int (q 24), .ref (a 25), .int (q 26), .ref (a 27), .int (q 28), .int (q 29), .int (q 30), .int (q 31), .int (q 32), .int (q 33), .ref (a 34), .ref (a 35), .ref (a 36), .ref (a 37), .ref (a 38), .ref (a 39), .ref (a 40), .int (q 41), .ref (a 42), .int (q 43), .int (q 44)])), ((a 8), .inl (T 0, 24, .inl f8)), ((a 9), .inl (T 0, 24, .inl f9)), ((a 10), .inl (T 0, 24, .inl f10)), ((a 11), .inl (T 0, 24, .inl f11)), ((a 17), .inl (T 0, 24, .inl (upd (upd e9 (xx.toNatClampNeg) 6) (xx.toNatClampNeg) z_269))), ((a 18), .inl (T 0, 24, .inl (upd p9 (xx.toNatClampNeg) (1 + z_284)))), ((a 19), .inl (T 0, 24, .inl d9))] := hD
            refine lv_aload_n hx hb dX13_laysParts_160 rfl (lv_at hl 4 rfl) ?_
            refine va_get (D := D) (ci := 10) (v := .ref (a 19)) (C := RX13) (T := TX13) (N := 45) hx hb hts in_X13_laysParts_X13 hown hE.1 hP 0 rfl rfl 19 (by decide) (hts (.fieldLink RX13 53 "ClauseBookModel" "deep" "[I") (List.mem_of_getElem? (i := 15) rfl)) (fun _ h9 => h9) rfl dX13_laysParts_161 ?_
            refine lv_iload_n hx hb dX13_laysParts_164 rfl (lv_at hl 3 rfl) ?_
            refine lv_iconst (v := 1) hx hb dX13_laysParts_165 (by decide) ?_
            refine lv_iload_n hx hb dX13_laysParts_166 rfl (lv_at hl 2 rfl) ?_
            refine lv_if_ne (tgt := 174) hx hb dX13_laysParts_167 (by decide) (fun c_285 => ?_) (fun c_285 => ?_)
            · rw [fa_eq] at c_285
              try rw [ti_0] at c_285
              refine lv_iload_n hx hb dX13_laysParts_174 rfl (lv_at hl 2 rfl) ?_
              refine lv_iconst (v := 1) hx hb dX13_laysParts_175 (by decide) ?_
              refine lv_icmp_ne (tgt := 188) hx hb dX13_laysParts_176 (by decide) (fun c_286 => ?_) (fun c_286 => ?_)
              · rw [fa_eq] at c_286
                try rw [ti_1] at c_286
                refine lv_aload_n hx hb dX13_laysParts_188 rfl (lv_at hl 4 rfl) ?_
                refine va_get (D := D) (ci := 10) (v := .ref (a 19)) (C := RX13) (T := TX13) (N := 45) hx hb hts in_X13_laysParts_X13 hown hE.1 hP 0 rfl rfl 19 (by decide) (hts (.fieldLink RX13 53 "ClauseBookModel" "deep" "[I") (List.mem_of_getElem? (i := 15) rfl)) (fun _ h9 => h9) rfl dX13_laysParts_189 ?_
                refine lv_iload_n hx hb dX13_laysParts_192 rfl (lv_at hl 1 rfl) ?_
                refine va_iald hx hb hE.1 hP 7 0 rfl rfl (by rw [vp_in_iff]; first | omega | (subst_vars; omega)) dX13_laysParts_193 ?_
                refine lv_topi (fun z_287 ez_287 => ?_)
                refine lv_aload_n hx hb dX13_laysParts_194 rfl (lv_at hl 4 rfl) ?_
                refine va_get (D := D) (ci := 10) (v := .ref (a 19)) (C := RX13) (T := TX13) (N := 45) hx hb hts in_X13_laysParts_X13 hown hE.1 hP 0 rfl rfl 19 (by decide) (hts (.fieldLink RX13 53 "ClauseBookModel" "deep" "[I") (List.mem_of_getElem? (i := 15) rfl)) (fun _ h9 => h9) rfl dX13_laysParts_195 ?_
                refine lv_iload hx hb dX13_laysParts_198 (lv_at hl 0 rfl) ?_
                refine va_iald hx hb hE.1 hP 7 0 rfl rfl (by rw [vp_in_iff]; first | omega | (subst_vars; omega)) dX13_laysParts_200 ?_
                refine lv_topi (fun z_288 ez_288 => ?_)
                refine va_mmax hx hb (hml.trans hl.1.symm) hown (hts (.methodLink RX13 227 Lib.Math.max.name) (List.mem_of_getElem? (i := 6) rfl)) (hts (.static Lib.Math.max.name) (List.mem_of_getElem? (i := 7) rfl)) (hts (.initialized "java/lang/Math") (List.mem_of_getElem? (i := 8) rfl)) (hts (.code Lib.Math.max.name Lib.Math.max.code 2 (some .int)) (List.mem_of_getElem? (i := 9) rfl)) (Nat.le_of_ble_eq_true rfl) (Nat.le_of_ble_eq_true rfl) (Nat.le_of_ble_eq_true rfl) (Nat.le_of_ble_eq_true rfl) dX13_laysParts_201 ?_
                refine lv_topi (fun z_289 ez_289 => ?_)
                refine lv_iadd hx hb dX13_laysParts_204 ?_
                refine va_iast hx hb hE.1 hP hD hS 7 0 rfl rfl (by rw [vp_in_iff]; first | omega | (subst_vars; omega)) dX13_laysParts_205 (fun H locs hP hD hS => ?_)
                have hP : va_P D vwCl [(h0, .inr (10, [.int (q 0), .int (q 1), .int (q 2), .int (q 3), .int (q 4), .int (q 5), .int (q 6), .int (q 7), .ref (a 8), .ref (a 9), .ref (a 10), .ref (a 11), .ref (a 12), .ref (a 13), .int (q 14), .long v, .long w, .ref (a 17), .ref (a 18), .ref (a 19), .ref (a 20), .ref (a 21), .ref (a 22), .ref (a 23), .int (q 24), .ref (a 25), .int (q 26), .ref (a 27), .int (q 28), .int (q 29), .int (q 30), .int (q 31), .int (q 32), .int (q 33), .ref (a 34), .ref (a 35), .ref (a 36), .ref (a 37), .ref (a 38), .ref (a 39), .ref (a 40), .int (q 41), .ref (a 42), .int (q 43), .int (q 44)])), ((a 8), .inl (T 0, 24, .inl f8)), ((a 9), .inl (T 0, 24, .inl f9)), ((a 10), .inl (T 0, 24, .inl f10)), ((a 11), .inl (T 0, 24, .inl f11)), ((a 17), .inl (T 0, 24, .inl (upd (upd e9 (xx.toNatClampNeg) 6) (xx.toNatClampNeg) z_269))), ((a 18), .inl (T 0, 24, .inl (upd p9 (xx.toNatClampNeg) (1 + z_284)))), ((a 19), .inl (T 0, 24, .inl (upd d9 (xx.toNatClampNeg) (1 + z_289))))] H := hP
                have hD : va_D A [(h0, .inr (10, [.int (q 0), .int (q 1), .int (q 2), .int (q 3), .int (q 4), .int (q 5), .int (q 6), .int (q 7), .ref (a 8), .ref (a 9), .ref (a 10), .ref (a 11), .ref (a 12), .ref (a 13), .int (q 14), .long v, .long w, .ref (a 17), .ref (a 18), .ref (a 19), .ref (a 20), .ref (a 21), .ref (a 22), .ref (a 23), .int (q 24), .ref (a 25), .int (q 26), .ref (a 27), .int (q 28), .int (q 29), .int (q 30), .int (q 31), .int (q 32), .int (q 33), .ref (a 34), .ref (a 35), .ref (a 36), .ref (a 37), .ref (a 38), .ref (a 39), .ref (a 40), .int (q 41), .ref (a 42), .int (q 43), .int (q 44)])), ((a 8), .inl (T 0, 24, .inl f8)), ((a 9), .inl (T 0, 24, .inl f9)), ((a 10), .inl (T 0, 24, .inl f10)), ((a 11), .inl (T 0, 24, .inl f11)), ((a 17), .inl (T 0, 24, .inl (upd (upd e9 (xx.toNatClampNeg) 6) (xx.toNatClampNeg) z_269))), ((a 18), .inl (T 0, 24, .inl (upd p9 (xx.toNatClampNeg) (1 + z_284)))), ((a 19), .inl (T 0, 24, .inl (upd d9 (xx.toNatClampNeg) (1 + z_289))))] := hD
                obtain ⟨z_290, ez_290⟩ : ∃ y : Int32, y = xx + 1 := ⟨_, rfl⟩
                refine lv_iinc (v := z_290) (lv' := [(1, .int z_290), (4, .int z_5), (3, .int z_4), (2, .int r_3), (0, .ref h0)]) hx hb dX13_laysParts_206 hl (k := 3) rfl (by rw [ez_290]; rfl) (by decide) rfl (fun ls hl => ?_)
                have hz_2909 : z_290.toInt = xx.toInt + 1 := by rw [ez_290]; exact inc1 (n := 1000) (by omega) (by decide)
                refine lv_goto (tgt := 2) hx hb dX13_laysParts_209 (by decide) ?_
                exact ih (z_290, (upd (upd e9 (xx.toNatClampNeg) 6) (xx.toNatClampNeg) z_269), (upd p9 (xx.toNatClampNeg) (1 + z_284)), (upd d9 (xx.toNatClampNeg) (1 + z_289))) ls _ _ ⟨lv_sub hl [0, 4] rfl, hP.sub [0, 1, 2, 3, 4, 5, 6, 7] rfl, hD.sub [0, 1, 2, 3, 4, 5, 6, 7] (by decide) rfl, hS, ⟨(by rw [hz_2909]; omega), (by rw [upd_upd]; exact okE_step (n := 0) hEE (by omega) hz_2909 (by omega) (fun hk9 => by exfalso; omega) (okR.late hokR))⟩⟩ (by (try dsimp only); rw [hz_2909]; omega)
              · rw [fa_eq] at c_286
                try rw [ti_1] at c_286
                refine lv_aload_n hx hb dX13_laysParts_179 rfl (lv_at hl 4 rfl) ?_
                refine va_get (D := D) (ci := 10) (v := .ref (a 19)) (C := RX13) (T := TX13) (N := 45) hx hb hts in_X13_laysParts_X13 hown hE.1 hP 0 rfl rfl 19 (by decide) (hts (.fieldLink RX13 53 "ClauseBookModel" "deep" "[I") (List.mem_of_getElem? (i := 15) rfl)) (fun _ h9 => h9) rfl dX13_laysParts_180 ?_
                refine lv_iload_n hx hb dX13_laysParts_183 rfl (lv_at hl 1 rfl) ?_
                refine va_iald hx hb hE.1 hP 7 0 rfl rfl (by rw [vp_in_iff]; first | omega | (subst_vars; omega)) dX13_laysParts_184 ?_
                refine lv_topi (fun z_291 ez_291 => ?_)
                refine lv_goto (tgt := 204) hx hb dX13_laysParts_185 (by decide) ?_
                refine lv_iadd hx hb dX13_laysParts_204 ?_
                refine va_iast hx hb hE.1 hP hD hS 7 0 rfl rfl (by rw [vp_in_iff]; first | omega | (subst_vars; omega)) dX13_laysParts_205 (fun H locs hP hD hS => ?_)
                have hP : va_P D vwCl [(h0, .inr (10, [.int (q 0), .int (q 1), .int (q 2), .int (q 3), .int (q 4), .int (q 5), .int (q 6), .int (q 7), .ref (a 8), .ref (a 9), .ref (a 10), .ref (a 11), .ref (a 12), .ref (a 13), .int (q 14), .long v, .long w, .ref (a 17), .ref (a 18), .ref (a 19), .ref (a 20), .ref (a 21), .ref (a 22), .ref (a 23), .int (q 24), .ref (a 25), .int (q 26), .ref (a 27), .int (q 28), .int (q 29), .int (q 30), .int (q 31), .int (q 32), .int (q 33), .ref (a 34), .ref (a 35), .ref (a 36), .ref (a 37), .ref (a 38), .ref (a 39), .ref (a 40), .int (q 41), .ref (a 42), .int (q 43), .int (q 44)])), ((a 8), .inl (T 0, 24, .inl f8)), ((a 9), .inl (T 0, 24, .inl f9)), ((a 10), .inl (T 0, 24, .inl f10)), ((a 11), .inl (T 0, 24, .inl f11)), ((a 17), .inl (T 0, 24, .inl (upd (upd e9 (xx.toNatClampNeg) 6) (xx.toNatClampNeg) z_269))), ((a 18), .inl (T 0, 24, .inl (upd p9 (xx.toNatClampNeg) (1 + z_284)))), ((a 19), .inl (T 0, 24, .inl (upd d9 (xx.toNatClampNeg) (1 + z_291))))] H := hP
                have hD : va_D A [(h0, .inr (10, [.int (q 0), .int (q 1), .int (q 2), .int (q 3), .int (q 4), .int (q 5), .int (q 6), .int (q 7), .ref (a 8), .ref (a 9), .ref (a 10), .ref (a 11), .ref (a 12), .ref (a 13), .int (q 14), .long v, .long w, .ref (a 17), .ref (a 18), .ref (a 19), .ref (a 20), .ref (a 21), .ref (a 22), .ref (a 23), .int (q 24), .ref (a 25), .int (q 26), .ref (a 27), .int (q 28), .int (q 29), .int (q 30), .int (q 31), .int (q 32), .int (q 33), .ref (a 34), .ref (a 35), .ref (a 36), .ref (a 37), .ref (a 38), .ref (a 39), .ref (a 40), .int (q 41), .ref (a 42), .int (q 43), .int (q 44)])), ((a 8), .inl (T 0, 24, .inl f8)), ((a 9), .inl (T 0, 24, .inl f9)), ((a 10), .inl (T 0, 24, .inl f10)), ((a 11), .inl (T 0, 24, .inl f11)), ((a 17), .inl (T 0, 24, .inl (upd (upd e9 (xx.toNatClampNeg) 6) (xx.toNatClampNeg) z_269))), ((a 18), .inl (T 0, 24, .inl (upd p9 (xx.toNatClampNeg) (1 + z_284)))), ((a 19), .inl (T 0, 24, .inl (upd d9 (xx.toNatClampNeg) (1 + z_291))))] := hD
                obtain ⟨z_292, ez_292⟩ : ∃ y : Int32, y = xx + 1 := ⟨_, rfl⟩
                refine lv_iinc (v := z_292) (lv' := [(1, .int z_292), (4, .int z_5), (3, .int z_4), (2, .int r_3), (0, .ref h0)]) hx hb dX13_laysParts_206 hl (k := 3) rfl (by rw [ez_292]; rfl) (by decide) rfl (fun ls hl => ?_)
                have hz_2929 : z_292.toInt = xx.toInt + 1 := by rw [ez_292]; exact inc1 (n := 1000) (by omega) (by decide)
                refine lv_goto (tgt := 2) hx hb dX13_laysParts_209 (by decide) ?_
                exact ih (z_292, (upd (upd e9 (xx.toNatClampNeg) 6) (xx.toNatClampNeg) z_269), (upd p9 (xx.toNatClampNeg) (1 + z_284)), (upd d9 (xx.toNatClampNeg) (1 + z_291))) ls _ _ ⟨lv_sub hl [0, 4] rfl, hP.sub [0, 1, 2, 3, 4, 5, 6, 7] rfl, hD.sub [0, 1, 2, 3, 4, 5, 6, 7] (by decide) rfl, hS, ⟨(by rw [hz_2929]; omega), (by rw [upd_upd]; exact okE_step (n := 0) hEE (by omega) hz_2929 (by omega) (fun hk9 => by exfalso; omega) (okR.late hokR))⟩⟩ (by (try dsimp only); rw [hz_2929]; omega)
            · rw [fa_eq] at c_285
              try rw [ti_0] at c_285
              refine lv_iconst (v := 0) hx hb dX13_laysParts_170 (by decide) ?_
              refine lv_goto (tgt := 204) hx hb dX13_laysParts_171 (by decide) ?_
              refine lv_iadd hx hb dX13_laysParts_204 ?_
              refine lv_topi (fun z_293 ez_293 => ?_)
              obtain rfl : z_293 = 1 := ez_293.trans (by decide)
              refine va_iast hx hb hE.1 hP hD hS 7 0 rfl rfl (by rw [vp_in_iff]; first | omega | (subst_vars; omega)) dX13_laysParts_205 (fun H locs hP hD hS => ?_)
              have hP : va_P D vwCl [(h0, .inr (10, [.int (q 0), .int (q 1), .int (q 2), .int (q 3), .int (q 4), .int (q 5), .int (q 6), .int (q 7), .ref (a 8), .ref (a 9), .ref (a 10), .ref (a 11), .ref (a 12), .ref (a 13), .int (q 14), .long v, .long w, .ref (a 17), .ref (a 18), .ref (a 19), .ref (a 20), .ref (a 21), .ref (a 22), .ref (a 23), .int (q 24), .ref (a 25), .int (q 26), .ref (a 27), .int (q 28), .int (q 29), .int (q 30), .int (q 31), .int (q 32), .int (q 33), .ref (a 34), .ref (a 35), .ref (a 36), .ref (a 37), .ref (a 38), .ref (a 39), .ref (a 40), .int (q 41), .ref (a 42), .int (q 43), .int (q 44)])), ((a 8), .inl (T 0, 24, .inl f8)), ((a 9), .inl (T 0, 24, .inl f9)), ((a 10), .inl (T 0, 24, .inl f10)), ((a 11), .inl (T 0, 24, .inl f11)), ((a 17), .inl (T 0, 24, .inl (upd (upd e9 (xx.toNatClampNeg) 6) (xx.toNatClampNeg) z_269))), ((a 18), .inl (T 0, 24, .inl (upd p9 (xx.toNatClampNeg) (1 + z_284)))), ((a 19), .inl (T 0, 24, .inl (upd d9 (xx.toNatClampNeg) 1)))] H := hP
              have hD : va_D A [(h0, .inr (10, [.int (q 0), .int (q 1), .int (q 2), .int (q 3), .int (q 4), .int (q 5), .int (q 6), .int (q 7), .ref (a 8), .ref (a 9), .ref (a 10), .ref (a 11), .ref (a 12), .ref (a 13), .int (q 14), .long v, .long w, .ref (a 17), .ref (a 18), .ref (a 19), .ref (a 20), .ref (a 21), .ref (a 22), .ref (a 23), .int (q 24), .ref (a 25), .int (q 26), .ref (a 27), .int (q 28), .int (q 29), .int (q 30), .int (q 31), .int (q 32), .int (q 33), .ref (a 34), .ref (a 35), .ref (a 36), .ref (a 37), .ref (a 38), .ref (a 39), .ref (a 40), .int (q 41), .ref (a 42), .int (q 43), .int (q 44)])), ((a 8), .inl (T 0, 24, .inl f8)), ((a 9), .inl (T 0, 24, .inl f9)), ((a 10), .inl (T 0, 24, .inl f10)), ((a 11), .inl (T 0, 24, .inl f11)), ((a 17), .inl (T 0, 24, .inl (upd (upd e9 (xx.toNatClampNeg) 6) (xx.toNatClampNeg) z_269))), ((a 18), .inl (T 0, 24, .inl (upd p9 (xx.toNatClampNeg) (1 + z_284)))), ((a 19), .inl (T 0, 24, .inl (upd d9 (xx.toNatClampNeg) 1)))] := hD
              obtain ⟨z_294, ez_294⟩ : ∃ y : Int32, y = xx + 1 := ⟨_, rfl⟩
              refine lv_iinc (v := z_294) (lv' := [(1, .int z_294), (4, .int z_5), (3, .int z_4), (2, .int r_3), (0, .ref h0)]) hx hb dX13_laysParts_206 hl (k := 3) rfl (by rw [ez_294]; rfl) (by decide) rfl (fun ls hl => ?_)
              have hz_2949 : z_294.toInt = xx.toInt + 1 := by rw [ez_294]; exact inc1 (n := 1000) (by omega) (by decide)
              refine lv_goto (tgt := 2) hx hb dX13_laysParts_209 (by decide) ?_
              exact ih (z_294, (upd (upd e9 (xx.toNatClampNeg) 6) (xx.toNatClampNeg) z_269), (upd p9 (xx.toNatClampNeg) (1 + z_284)), (upd d9 (xx.toNatClampNeg) 1)) ls _ _ ⟨lv_sub hl [0, 4] rfl, hP.sub [0, 1, 2, 3, 4, 5, 6, 7] rfl, hD.sub [0, 1, 2, 3, 4, 5, 6, 7] (by decide) rfl, hS, ⟨(by rw [hz_2949]; omega), (by rw [upd_upd]; exact okE_step (n := 0) hEE (by omega) hz_2949 (by omega) (fun hk9 => by exfalso; omega) (okR.late hokR))⟩⟩ (by (try dsimp only); rw [hz_2949]; omega)
        · rw [fa_le] at c_270
          try rw [ti_0] at c_270
          refine lv_aload_n hx hb dX13_laysParts_131 rfl (lv_at hl 4 rfl) ?_
          refine va_get (D := D) (ci := 10) (v := .ref (a 18)) (C := RX13) (T := TX13) (N := 45) hx hb hts in_X13_laysParts_X13 hown hE.1 hP 0 rfl rfl 18 (by decide) (hts (.fieldLink RX13 50 "ClauseBookModel" "parts" "[I") (List.mem_of_getElem? (i := 14) rfl)) (fun _ h9 => h9) rfl dX13_laysParts_132 ?_
          refine lv_iload_n hx hb dX13_laysParts_135 rfl (lv_at hl 1 rfl) ?_
          refine va_iald hx hb hE.1 hP 6 0 rfl rfl (by rw [vp_in_iff]; first | omega | (subst_vars; omega)) dX13_laysParts_136 ?_
          refine lv_topi (fun z_295 ez_295 => ?_)
          refine lv_goto (tgt := 141) hx hb dX13_laysParts_137 (by decide) ?_
          refine lv_iadd hx hb dX13_laysParts_141 ?_
          refine lv_iload_n hx hb dX13_laysParts_142 rfl (lv_at hl 2 rfl) ?_
          refine lv_iconst (v := 1) hx hb dX13_laysParts_143 (by decide) ?_
          refine lv_icmp_le (tgt := 157) hx hb dX13_laysParts_144 (by decide) (fun c_296 => ?_) (fun c_296 => ?_)
          · rw [fa_le] at c_296
            try rw [ti_1] at c_296
            refine lv_iconst (v := 0) hx hb dX13_laysParts_157 (by decide) ?_
            refine lv_iadd hx hb dX13_laysParts_158 ?_
            refine va_iast hx hb hE.1 hP hD hS 6 0 rfl rfl (by rw [vp_in_iff]; first | omega | (subst_vars; omega)) dX13_laysParts_159 (fun H locs hP hD hS => ?_)
            have hP : va_P D vwCl [(h0, .inr (10, [.int (q 0), .int (q 1), .int (q 2), .int (q 3), .int (q 4), .int (q 5), .int (q 6), .int (q 7), .ref (a 8), .ref (a 9), .ref (a 10), .ref (a 11), .ref (a 12), .ref (a 13), .int (q 14), .long v, .long w, .ref (a 17), .ref (a 18), .ref (a 19), .ref (a 20), .ref (a 21), .ref (a 22), .ref (a 23), .int (q 24), .ref (a 25), .int (q 26), .ref (a 27), .int (q 28), .int (q 29), .int (q 30), .int (q 31), .int (q 32), .int (q 33), .ref (a 34), .ref (a 35), .ref (a 36), .ref (a 37), .ref (a 38), .ref (a 39), .ref (a 40), .int (q 41), .ref (a 42), .int (q 43), .int (q 44)])), ((a 8), .inl (T 0, 24, .inl f8)), ((a 9), .inl (T 0, 24, .inl f9)), ((a 10), .inl (T 0, 24, .inl f10)), ((a 11), .inl (T 0, 24, .inl f11)), ((a 17), .inl (T 0, 24, .inl (upd (upd e9 (xx.toNatClampNeg) 6) (xx.toNatClampNeg) z_269))), ((a 18), .inl (T 0, 24, .inl (upd p9 (xx.toNatClampNeg) ((1 + z_295) + 0)))), ((a 19), .inl (T 0, 24, .inl d9))] H := hP
            have hD : va_D A [(h0, .inr (10, [.int (q 0), .int (q 1), .int (q 2), .int (q 3), .int (q 4), .int (q 5), .int (q 6), .int (q 7), .ref (a 8), .ref (a 9), .ref (a 10), .ref (a 11), .ref (a 12), .ref (a 13), .int (q 14), .long v, .long w, .ref (a 17), .ref (a 18), .ref (a 19), .ref (a 20), .ref (a 21), .ref (a 22), .ref (a 23), .int (q 24), .ref (a 25), .int (q 26), .ref (a 27), .int (q 28), .int (q 29), .int (q 30), .int (q 31), .int (q 32), .int (q 33), .ref (a 34), .ref (a 35), .ref (a 36), .ref (a 37), .ref (a 38), .ref (a 39), .ref (a 40), .int (q 41), .ref (a 42), .int (q 43), .int (q 44)])), ((a 8), .inl (T 0, 24, .inl f8)), ((a 9), .inl (T 0, 24, .inl f9)), ((a 10), .inl (T 0, 24, .inl f10)), ((a 11), .inl (T 0, 24, .inl f11)), ((a 17), .inl (T 0, 24, .inl (upd (upd e9 (xx.toNatClampNeg) 6) (xx.toNatClampNeg) z_269))), ((a 18), .inl (T 0, 24, .inl (upd p9 (xx.toNatClampNeg) ((1 + z_295) + 0)))), ((a 19), .inl (T 0, 24, .inl d9))] := hD
            refine lv_aload_n hx hb dX13_laysParts_160 rfl (lv_at hl 4 rfl) ?_
            refine va_get (D := D) (ci := 10) (v := .ref (a 19)) (C := RX13) (T := TX13) (N := 45) hx hb hts in_X13_laysParts_X13 hown hE.1 hP 0 rfl rfl 19 (by decide) (hts (.fieldLink RX13 53 "ClauseBookModel" "deep" "[I") (List.mem_of_getElem? (i := 15) rfl)) (fun _ h9 => h9) rfl dX13_laysParts_161 ?_
            refine lv_iload_n hx hb dX13_laysParts_164 rfl (lv_at hl 3 rfl) ?_
            refine lv_iconst (v := 1) hx hb dX13_laysParts_165 (by decide) ?_
            refine lv_iload_n hx hb dX13_laysParts_166 rfl (lv_at hl 2 rfl) ?_
            refine lv_if_ne (tgt := 174) hx hb dX13_laysParts_167 (by decide) (fun c_297 => ?_) (fun c_297 => ?_)
            · rw [fa_eq] at c_297
              try rw [ti_0] at c_297
              refine lv_iload_n hx hb dX13_laysParts_174 rfl (lv_at hl 2 rfl) ?_
              refine lv_iconst (v := 1) hx hb dX13_laysParts_175 (by decide) ?_
              refine lv_icmp_ne (tgt := 188) hx hb dX13_laysParts_176 (by decide) (fun c_298 => ?_) (fun c_298 => ?_)
              · rw [fa_eq] at c_298
                try rw [ti_1] at c_298
                refine lv_aload_n hx hb dX13_laysParts_188 rfl (lv_at hl 4 rfl) ?_
                refine va_get (D := D) (ci := 10) (v := .ref (a 19)) (C := RX13) (T := TX13) (N := 45) hx hb hts in_X13_laysParts_X13 hown hE.1 hP 0 rfl rfl 19 (by decide) (hts (.fieldLink RX13 53 "ClauseBookModel" "deep" "[I") (List.mem_of_getElem? (i := 15) rfl)) (fun _ h9 => h9) rfl dX13_laysParts_189 ?_
                refine lv_iload_n hx hb dX13_laysParts_192 rfl (lv_at hl 1 rfl) ?_
                refine va_iald hx hb hE.1 hP 7 0 rfl rfl (by rw [vp_in_iff]; first | omega | (subst_vars; omega)) dX13_laysParts_193 ?_
                refine lv_topi (fun z_299 ez_299 => ?_)
                refine lv_aload_n hx hb dX13_laysParts_194 rfl (lv_at hl 4 rfl) ?_
                refine va_get (D := D) (ci := 10) (v := .ref (a 19)) (C := RX13) (T := TX13) (N := 45) hx hb hts in_X13_laysParts_X13 hown hE.1 hP 0 rfl rfl 19 (by decide) (hts (.fieldLink RX13 53 "ClauseBookModel" "deep" "[I") (List.mem_of_getElem? (i := 15) rfl)) (fun _ h9 => h9) rfl dX13_laysParts_195 ?_
                refine lv_iload hx hb dX13_laysParts_198 (lv_at hl 0 rfl) ?_
                refine va_iald hx hb hE.1 hP 7 0 rfl rfl (by rw [vp_in_iff]; first | omega | (subst_vars; omega)) dX13_laysParts_200 ?_
                refine lv_topi (fun z_300 ez_300 => ?_)
                refine va_mmax hx hb (hml.trans hl.1.symm) hown (hts (.methodLink RX13 227 Lib.Math.max.name) (List.mem_of_getElem? (i := 6) rfl)) (hts (.static Lib.Math.max.name) (List.mem_of_getElem? (i := 7) rfl)) (hts (.initialized "java/lang/Math") (List.mem_of_getElem? (i := 8) rfl)) (hts (.code Lib.Math.max.name Lib.Math.max.code 2 (some .int)) (List.mem_of_getElem? (i := 9) rfl)) (Nat.le_of_ble_eq_true rfl) (Nat.le_of_ble_eq_true rfl) (Nat.le_of_ble_eq_true rfl) (Nat.le_of_ble_eq_true rfl) dX13_laysParts_201 ?_
                refine lv_topi (fun z_301 ez_301 => ?_)
                refine lv_iadd hx hb dX13_laysParts_204 ?_
                refine va_iast hx hb hE.1 hP hD hS 7 0 rfl rfl (by rw [vp_in_iff]; first | omega | (subst_vars; omega)) dX13_laysParts_205 (fun H locs hP hD hS => ?_)
                have hP : va_P D vwCl [(h0, .inr (10, [.int (q 0), .int (q 1), .int (q 2), .int (q 3), .int (q 4), .int (q 5), .int (q 6), .int (q 7), .ref (a 8), .ref (a 9), .ref (a 10), .ref (a 11), .ref (a 12), .ref (a 13), .int (q 14), .long v, .long w, .ref (a 17), .ref (a 18), .ref (a 19), .ref (a 20), .ref (a 21), .ref (a 22), .ref (a 23), .int (q 24), .ref (a 25), .int (q 26), .ref (a 27), .int (q 28), .int (q 29), .int (q 30), .int (q 31), .int (q 32), .int (q 33), .ref (a 34), .ref (a 35), .ref (a 36), .ref (a 37), .ref (a 38), .ref (a 39), .ref (a 40), .int (q 41), .ref (a 42), .int (q 43), .int (q 44)])), ((a 8), .inl (T 0, 24, .inl f8)), ((a 9), .inl (T 0, 24, .inl f9)), ((a 10), .inl (T 0, 24, .inl f10)), ((a 11), .inl (T 0, 24, .inl f11)), ((a 17), .inl (T 0, 24, .inl (upd (upd e9 (xx.toNatClampNeg) 6) (xx.toNatClampNeg) z_269))), ((a 18), .inl (T 0, 24, .inl (upd p9 (xx.toNatClampNeg) ((1 + z_295) + 0)))), ((a 19), .inl (T 0, 24, .inl (upd d9 (xx.toNatClampNeg) (1 + z_301))))] H := hP
                have hD : va_D A [(h0, .inr (10, [.int (q 0), .int (q 1), .int (q 2), .int (q 3), .int (q 4), .int (q 5), .int (q 6), .int (q 7), .ref (a 8), .ref (a 9), .ref (a 10), .ref (a 11), .ref (a 12), .ref (a 13), .int (q 14), .long v, .long w, .ref (a 17), .ref (a 18), .ref (a 19), .ref (a 20), .ref (a 21), .ref (a 22), .ref (a 23), .int (q 24), .ref (a 25), .int (q 26), .ref (a 27), .int (q 28), .int (q 29), .int (q 30), .int (q 31), .int (q 32), .int (q 33), .ref (a 34), .ref (a 35), .ref (a 36), .ref (a 37), .ref (a 38), .ref (a 39), .ref (a 40), .int (q 41), .ref (a 42), .int (q 43), .int (q 44)])), ((a 8), .inl (T 0, 24, .inl f8)), ((a 9), .inl (T 0, 24, .inl f9)), ((a 10), .inl (T 0, 24, .inl f10)), ((a 11), .inl (T 0, 24, .inl f11)), ((a 17), .inl (T 0, 24, .inl (upd (upd e9 (xx.toNatClampNeg) 6) (xx.toNatClampNeg) z_269))), ((a 18), .inl (T 0, 24, .inl (upd p9 (xx.toNatClampNeg) ((1 + z_295) + 0)))), ((a 19), .inl (T 0, 24, .inl (upd d9 (xx.toNatClampNeg) (1 + z_301))))] := hD
                obtain ⟨z_302, ez_302⟩ : ∃ y : Int32, y = xx + 1 := ⟨_, rfl⟩
                refine lv_iinc (v := z_302) (lv' := [(1, .int z_302), (4, .int z_5), (3, .int z_4), (2, .int r_3), (0, .ref h0)]) hx hb dX13_laysParts_206 hl (k := 3) rfl (by rw [ez_302]; rfl) (by decide) rfl (fun ls hl => ?_)
                have hz_3029 : z_302.toInt = xx.toInt + 1 := by rw [ez_302]; exact inc1 (n := 1000) (by omega) (by decide)
                refine lv_goto (tgt := 2) hx hb dX13_laysParts_209 (by decide) ?_
                exact ih (z_302, (upd (upd e9 (xx.toNatClampNeg) 6) (xx.toNatClampNeg) z_269), (upd p9 (xx.toNatClampNeg) ((1 + z_295) + 0)), (upd d9 (xx.toNatClampNeg) (1 + z_301))) ls _ _ ⟨lv_sub hl [0, 4] rfl, hP.sub [0, 1, 2, 3, 4, 5, 6, 7] rfl, hD.sub [0, 1, 2, 3, 4, 5, 6, 7] (by decide) rfl, hS, ⟨(by rw [hz_3029]; omega), (by rw [upd_upd]; exact okE_step (n := 0) hEE (by omega) hz_3029 (by omega) (fun hk9 => by exfalso; omega) (okR.late hokR))⟩⟩ (by (try dsimp only); rw [hz_3029]; omega)
              · rw [fa_eq] at c_298
                try rw [ti_1] at c_298
                refine lv_aload_n hx hb dX13_laysParts_179 rfl (lv_at hl 4 rfl) ?_
                refine va_get (D := D) (ci := 10) (v := .ref (a 19)) (C := RX13) (T := TX13) (N := 45) hx hb hts in_X13_laysParts_X13 hown hE.1 hP 0 rfl rfl 19 (by decide) (hts (.fieldLink RX13 53 "ClauseBookModel" "deep" "[I") (List.mem_of_getElem? (i := 15) rfl)) (fun _ h9 => h9) rfl dX13_laysParts_180 ?_
                refine lv_iload_n hx hb dX13_laysParts_183 rfl (lv_at hl 1 rfl) ?_
                refine va_iald hx hb hE.1 hP 7 0 rfl rfl (by rw [vp_in_iff]; first | omega | (subst_vars; omega)) dX13_laysParts_184 ?_
                refine lv_topi (fun z_303 ez_303 => ?_)
                refine lv_goto (tgt := 204) hx hb dX13_laysParts_185 (by decide) ?_
                refine lv_iadd hx hb dX13_laysParts_204 ?_
                refine va_iast hx hb hE.1 hP hD hS 7 0 rfl rfl (by rw [vp_in_iff]; first | omega | (subst_vars; omega)) dX13_laysParts_205 (fun H locs hP hD hS => ?_)
                have hP : va_P D vwCl [(h0, .inr (10, [.int (q 0), .int (q 1), .int (q 2), .int (q 3), .int (q 4), .int (q 5), .int (q 6), .int (q 7), .ref (a 8), .ref (a 9), .ref (a 10), .ref (a 11), .ref (a 12), .ref (a 13), .int (q 14), .long v, .long w, .ref (a 17), .ref (a 18), .ref (a 19), .ref (a 20), .ref (a 21), .ref (a 22), .ref (a 23), .int (q 24), .ref (a 25), .int (q 26), .ref (a 27), .int (q 28), .int (q 29), .int (q 30), .int (q 31), .int (q 32), .int (q 33), .ref (a 34), .ref (a 35), .ref (a 36), .ref (a 37), .ref (a 38), .ref (a 39), .ref (a 40), .int (q 41), .ref (a 42), .int (q 43), .int (q 44)])), ((a 8), .inl (T 0, 24, .inl f8)), ((a 9), .inl (T 0, 24, .inl f9)), ((a 10), .inl (T 0, 24, .inl f10)), ((a 11), .inl (T 0, 24, .inl f11)), ((a 17), .inl (T 0, 24, .inl (upd (upd e9 (xx.toNatClampNeg) 6) (xx.toNatClampNeg) z_269))), ((a 18), .inl (T 0, 24, .inl (upd p9 (xx.toNatClampNeg) ((1 + z_295) + 0)))), ((a 19), .inl (T 0, 24, .inl (upd d9 (xx.toNatClampNeg) (1 + z_303))))] H := hP
                have hD : va_D A [(h0, .inr (10, [.int (q 0), .int (q 1), .int (q 2), .int (q 3), .int (q 4), .int (q 5), .int (q 6), .int (q 7), .ref (a 8), .ref (a 9), .ref (a 10), .ref (a 11), .ref (a 12), .ref (a 13), .int (q 14), .long v, .long w, .ref (a 17), .ref (a 18), .ref (a 19), .ref (a 20), .ref (a 21), .ref (a 22), .ref (a 23), .int (q 24), .ref (a 25), .int (q 26), .ref (a 27), .int (q 28), .int (q 29), .int (q 30), .int (q 31), .int (q 32), .int (q 33), .ref (a 34), .ref (a 35), .ref (a 36), .ref (a 37), .ref (a 38), .ref (a 39), .ref (a 40), .int (q 41), .ref (a 42), .int (q 43), .int (q 44)])), ((a 8), .inl (T 0, 24, .inl f8)), ((a 9), .inl (T 0, 24, .inl f9)), ((a 10), .inl (T 0, 24, .inl f10)), ((a 11), .inl (T 0, 24, .inl f11)), ((a 17), .inl (T 0, 24, .inl (upd (upd e9 (xx.toNatClampNeg) 6) (xx.toNatClampNeg) z_269))), ((a 18), .inl (T 0, 24, .inl (upd p9 (xx.toNatClampNeg) ((1 + z_295) + 0)))), ((a 19), .inl (T 0, 24, .inl (upd d9 (xx.toNatClampNeg) (1 + z_303))))] := hD
                obtain ⟨z_304, ez_304⟩ : ∃ y : Int32, y = xx + 1 := ⟨_, rfl⟩
                refine lv_iinc (v := z_304) (lv' := [(1, .int z_304), (4, .int z_5), (3, .int z_4), (2, .int r_3), (0, .ref h0)]) hx hb dX13_laysParts_206 hl (k := 3) rfl (by rw [ez_304]; rfl) (by decide) rfl (fun ls hl => ?_)
                have hz_3049 : z_304.toInt = xx.toInt + 1 := by rw [ez_304]; exact inc1 (n := 1000) (by omega) (by decide)
                refine lv_goto (tgt := 2) hx hb dX13_laysParts_209 (by decide) ?_
                exact ih (z_304, (upd (upd e9 (xx.toNatClampNeg) 6) (xx.toNatClampNeg) z_269), (upd p9 (xx.toNatClampNeg) ((1 + z_295) + 0)), (upd d9 (xx.toNatClampNeg) (1 + z_303))) ls _ _ ⟨lv_sub hl [0, 4] rfl, hP.sub [0, 1, 2, 3, 4, 5, 6, 7] rfl, hD.sub [0, 1, 2, 3, 4, 5, 6, 7] (by decide) rfl, hS, ⟨(by rw [hz_3049]; omega), (by rw [upd_upd]; exact okE_step (n := 0) hEE (by omega) hz_3049 (by omega) (fun hk9 => by exfalso; omega) (okR.late hokR))⟩⟩ (by (try dsimp only); rw [hz_3049]; omega)
            · rw [fa_eq] at c_297
              try rw [ti_0] at c_297
              refine lv_iconst (v := 0) hx hb dX13_laysParts_170 (by decide) ?_
              refine lv_goto (tgt := 204) hx hb dX13_laysParts_171 (by decide) ?_
              refine lv_iadd hx hb dX13_laysParts_204 ?_
              refine lv_topi (fun z_305 ez_305 => ?_)
              obtain rfl : z_305 = 1 := ez_305.trans (by decide)
              refine va_iast hx hb hE.1 hP hD hS 7 0 rfl rfl (by rw [vp_in_iff]; first | omega | (subst_vars; omega)) dX13_laysParts_205 (fun H locs hP hD hS => ?_)
              have hP : va_P D vwCl [(h0, .inr (10, [.int (q 0), .int (q 1), .int (q 2), .int (q 3), .int (q 4), .int (q 5), .int (q 6), .int (q 7), .ref (a 8), .ref (a 9), .ref (a 10), .ref (a 11), .ref (a 12), .ref (a 13), .int (q 14), .long v, .long w, .ref (a 17), .ref (a 18), .ref (a 19), .ref (a 20), .ref (a 21), .ref (a 22), .ref (a 23), .int (q 24), .ref (a 25), .int (q 26), .ref (a 27), .int (q 28), .int (q 29), .int (q 30), .int (q 31), .int (q 32), .int (q 33), .ref (a 34), .ref (a 35), .ref (a 36), .ref (a 37), .ref (a 38), .ref (a 39), .ref (a 40), .int (q 41), .ref (a 42), .int (q 43), .int (q 44)])), ((a 8), .inl (T 0, 24, .inl f8)), ((a 9), .inl (T 0, 24, .inl f9)), ((a 10), .inl (T 0, 24, .inl f10)), ((a 11), .inl (T 0, 24, .inl f11)), ((a 17), .inl (T 0, 24, .inl (upd (upd e9 (xx.toNatClampNeg) 6) (xx.toNatClampNeg) z_269))), ((a 18), .inl (T 0, 24, .inl (upd p9 (xx.toNatClampNeg) ((1 + z_295) + 0)))), ((a 19), .inl (T 0, 24, .inl (upd d9 (xx.toNatClampNeg) 1)))] H := hP
              have hD : va_D A [(h0, .inr (10, [.int (q 0), .int (q 1), .int (q 2), .int (q 3), .int (q 4), .int (q 5), .int (q 6), .int (q 7), .ref (a 8), .ref (a 9), .ref (a 10), .ref (a 11), .ref (a 12), .ref (a 13), .int (q 14), .long v, .long w, .ref (a 17), .ref (a 18), .ref (a 19), .ref (a 20), .ref (a 21), .ref (a 22), .ref (a 23), .int (q 24), .ref (a 25), .int (q 26), .ref (a 27), .int (q 28), .int (q 29), .int (q 30), .int (q 31), .int (q 32), .int (q 33), .ref (a 34), .ref (a 35), .ref (a 36), .ref (a 37), .ref (a 38), .ref (a 39), .ref (a 40), .int (q 41), .ref (a 42), .int (q 43), .int (q 44)])), ((a 8), .inl (T 0, 24, .inl f8)), ((a 9), .inl (T 0, 24, .inl f9)), ((a 10), .inl (T 0, 24, .inl f10)), ((a 11), .inl (T 0, 24, .inl f11)), ((a 17), .inl (T 0, 24, .inl (upd (upd e9 (xx.toNatClampNeg) 6) (xx.toNatClampNeg) z_269))), ((a 18), .inl (T 0, 24, .inl (upd p9 (xx.toNatClampNeg) ((1 + z_295) + 0)))), ((a 19), .inl (T 0, 24, .inl (upd d9 (xx.toNatClampNeg) 1)))] := hD
              obtain ⟨z_306, ez_306⟩ : ∃ y : Int32, y = xx + 1 := ⟨_, rfl⟩
              refine lv_iinc (v := z_306) (lv' := [(1, .int z_306), (4, .int z_5), (3, .int z_4), (2, .int r_3), (0, .ref h0)]) hx hb dX13_laysParts_206 hl (k := 3) rfl (by rw [ez_306]; rfl) (by decide) rfl (fun ls hl => ?_)
              have hz_3069 : z_306.toInt = xx.toInt + 1 := by rw [ez_306]; exact inc1 (n := 1000) (by omega) (by decide)
              refine lv_goto (tgt := 2) hx hb dX13_laysParts_209 (by decide) ?_
              exact ih (z_306, (upd (upd e9 (xx.toNatClampNeg) 6) (xx.toNatClampNeg) z_269), (upd p9 (xx.toNatClampNeg) ((1 + z_295) + 0)), (upd d9 (xx.toNatClampNeg) 1)) ls _ _ ⟨lv_sub hl [0, 4] rfl, hP.sub [0, 1, 2, 3, 4, 5, 6, 7] rfl, hD.sub [0, 1, 2, 3, 4, 5, 6, 7] (by decide) rfl, hS, ⟨(by rw [hz_3069]; omega), (by rw [upd_upd]; exact okE_step (n := 0) hEE (by omega) hz_3069 (by omega) (fun hk9 => by exfalso; omega) (okR.late hokR))⟩⟩ (by (try dsimp only); rw [hz_3069]; omega)
          · rw [fa_le] at c_296
            try rw [ti_1] at c_296
            refine lv_aload_n hx hb dX13_laysParts_147 rfl (lv_at hl 4 rfl) ?_
            refine va_get (D := D) (ci := 10) (v := .ref (a 18)) (C := RX13) (T := TX13) (N := 45) hx hb hts in_X13_laysParts_X13 hown hE.1 hP 0 rfl rfl 18 (by decide) (hts (.fieldLink RX13 50 "ClauseBookModel" "parts" "[I") (List.mem_of_getElem? (i := 14) rfl)) (fun _ h9 => h9) rfl dX13_laysParts_148 ?_
            refine lv_iload hx hb dX13_laysParts_151 (lv_at hl 0 rfl) ?_
            refine va_iald hx hb hE.1 hP 6 0 rfl rfl (by rw [vp_in_iff]; first | omega | (subst_vars; omega)) dX13_laysParts_153 ?_
            refine lv_topi (fun z_307 ez_307 => ?_)
            refine lv_goto (tgt := 158) hx hb dX13_laysParts_154 (by decide) ?_
            refine lv_iadd hx hb dX13_laysParts_158 ?_
            refine va_iast hx hb hE.1 hP hD hS 6 0 rfl rfl (by rw [vp_in_iff]; first | omega | (subst_vars; omega)) dX13_laysParts_159 (fun H locs hP hD hS => ?_)
            have hP : va_P D vwCl [(h0, .inr (10, [.int (q 0), .int (q 1), .int (q 2), .int (q 3), .int (q 4), .int (q 5), .int (q 6), .int (q 7), .ref (a 8), .ref (a 9), .ref (a 10), .ref (a 11), .ref (a 12), .ref (a 13), .int (q 14), .long v, .long w, .ref (a 17), .ref (a 18), .ref (a 19), .ref (a 20), .ref (a 21), .ref (a 22), .ref (a 23), .int (q 24), .ref (a 25), .int (q 26), .ref (a 27), .int (q 28), .int (q 29), .int (q 30), .int (q 31), .int (q 32), .int (q 33), .ref (a 34), .ref (a 35), .ref (a 36), .ref (a 37), .ref (a 38), .ref (a 39), .ref (a 40), .int (q 41), .ref (a 42), .int (q 43), .int (q 44)])), ((a 8), .inl (T 0, 24, .inl f8)), ((a 9), .inl (T 0, 24, .inl f9)), ((a 10), .inl (T 0, 24, .inl f10)), ((a 11), .inl (T 0, 24, .inl f11)), ((a 17), .inl (T 0, 24, .inl (upd (upd e9 (xx.toNatClampNeg) 6) (xx.toNatClampNeg) z_269))), ((a 18), .inl (T 0, 24, .inl (upd p9 (xx.toNatClampNeg) ((1 + z_295) + z_307)))), ((a 19), .inl (T 0, 24, .inl d9))] H := hP
            have hD : va_D A [(h0, .inr (10, [.int (q 0), .int (q 1), .int (q 2), .int (q 3), .int (q 4), .int (q 5), .int (q 6), .int (q 7), .ref (a 8), .ref (a 9), .ref (a 10), .ref (a 11), .ref (a 12), .ref (a 13), .int (q 14), .long v, .long w, .ref (a 17), .ref (a 18), .ref (a 19), .ref (a 20), .ref (a 21), .ref (a 22), .ref (a 23), .int (q 24), .ref (a 25), .int (q 26), .ref (a 27), .int (q 28), .int (q 29), .int (q 30), .int (q 31), .int (q 32), .int (q 33), .ref (a 34), .ref (a 35), .ref (a 36), .ref (a 37), .ref (a 38), .ref (a 39), .ref (a 40), .int (q 41), .ref (a 42), .int (q 43), .int (q 44)])), ((a 8), .inl (T 0, 24, .inl f8)), ((a 9), .inl (T 0, 24, .inl f9)), ((a 10), .inl (T 0, 24, .inl f10)), ((a 11), .inl (T 0, 24, .inl f11)), ((a 17), .inl (T 0, 24, .inl (upd (upd e9 (xx.toNatClampNeg) 6) (xx.toNatClampNeg) z_269))), ((a 18), .inl (T 0, 24, .inl (upd p9 (xx.toNatClampNeg) ((1 + z_295) + z_307)))), ((a 19), .inl (T 0, 24, .inl d9))] := hD
            refine lv_aload_n hx hb dX13_laysParts_160 rfl (lv_at hl 4 rfl) ?_
            refine va_get (D := D) (ci := 10) (v := .ref (a 19)) (C := RX13) (T := TX13) (N := 45) hx hb hts in_X13_laysParts_X13 hown hE.1 hP 0 rfl rfl 19 (by decide) (hts (.fieldLink RX13 53 "ClauseBookModel" "deep" "[I") (List.mem_of_getElem? (i := 15) rfl)) (fun _ h9 => h9) rfl dX13_laysParts_161 ?_
            refine lv_iload_n hx hb dX13_laysParts_164 rfl (lv_at hl 3 rfl) ?_
            refine lv_iconst (v := 1) hx hb dX13_laysParts_165 (by decide) ?_
            refine lv_iload_n hx hb dX13_laysParts_166 rfl (lv_at hl 2 rfl) ?_
            refine lv_if_ne (tgt := 174) hx hb dX13_laysParts_167 (by decide) (fun c_308 => ?_) (fun c_308 => ?_)
            · rw [fa_eq] at c_308
              try rw [ti_0] at c_308
              refine lv_iload_n hx hb dX13_laysParts_174 rfl (lv_at hl 2 rfl) ?_
              refine lv_iconst (v := 1) hx hb dX13_laysParts_175 (by decide) ?_
              refine lv_icmp_ne (tgt := 188) hx hb dX13_laysParts_176 (by decide) (fun c_309 => ?_) (fun c_309 => ?_)
              · rw [fa_eq] at c_309
                try rw [ti_1] at c_309
                refine lv_aload_n hx hb dX13_laysParts_188 rfl (lv_at hl 4 rfl) ?_
                refine va_get (D := D) (ci := 10) (v := .ref (a 19)) (C := RX13) (T := TX13) (N := 45) hx hb hts in_X13_laysParts_X13 hown hE.1 hP 0 rfl rfl 19 (by decide) (hts (.fieldLink RX13 53 "ClauseBookModel" "deep" "[I") (List.mem_of_getElem? (i := 15) rfl)) (fun _ h9 => h9) rfl dX13_laysParts_189 ?_
                refine lv_iload_n hx hb dX13_laysParts_192 rfl (lv_at hl 1 rfl) ?_
                refine va_iald hx hb hE.1 hP 7 0 rfl rfl (by rw [vp_in_iff]; first | omega | (subst_vars; omega)) dX13_laysParts_193 ?_
                refine lv_topi (fun z_310 ez_310 => ?_)
                refine lv_aload_n hx hb dX13_laysParts_194 rfl (lv_at hl 4 rfl) ?_
                refine va_get (D := D) (ci := 10) (v := .ref (a 19)) (C := RX13) (T := TX13) (N := 45) hx hb hts in_X13_laysParts_X13 hown hE.1 hP 0 rfl rfl 19 (by decide) (hts (.fieldLink RX13 53 "ClauseBookModel" "deep" "[I") (List.mem_of_getElem? (i := 15) rfl)) (fun _ h9 => h9) rfl dX13_laysParts_195 ?_
                refine lv_iload hx hb dX13_laysParts_198 (lv_at hl 0 rfl) ?_
                refine va_iald hx hb hE.1 hP 7 0 rfl rfl (by rw [vp_in_iff]; first | omega | (subst_vars; omega)) dX13_laysParts_200 ?_
                refine lv_topi (fun z_311 ez_311 => ?_)
                refine va_mmax hx hb (hml.trans hl.1.symm) hown (hts (.methodLink RX13 227 Lib.Math.max.name) (List.mem_of_getElem? (i := 6) rfl)) (hts (.static Lib.Math.max.name) (List.mem_of_getElem? (i := 7) rfl)) (hts (.initialized "java/lang/Math") (List.mem_of_getElem? (i := 8) rfl)) (hts (.code Lib.Math.max.name Lib.Math.max.code 2 (some .int)) (List.mem_of_getElem? (i := 9) rfl)) (Nat.le_of_ble_eq_true rfl) (Nat.le_of_ble_eq_true rfl) (Nat.le_of_ble_eq_true rfl) (Nat.le_of_ble_eq_true rfl) dX13_laysParts_201 ?_
                refine lv_topi (fun z_312 ez_312 => ?_)
                refine lv_iadd hx hb dX13_laysParts_204 ?_
                refine va_iast hx hb hE.1 hP hD hS 7 0 rfl rfl (by rw [vp_in_iff]; first | omega | (subst_vars; omega)) dX13_laysParts_205 (fun H locs hP hD hS => ?_)
                have hP : va_P D vwCl [(h0, .inr (10, [.int (q 0), .int (q 1), .int (q 2), .int (q 3), .int (q 4), .int (q 5), .int (q 6), .int (q 7), .ref (a 8), .ref (a 9), .ref (a 10), .ref (a 11), .ref (a 12), .ref (a 13), .int (q 14), .long v, .long w, .ref (a 17), .ref (a 18), .ref (a 19), .ref (a 20), .ref (a 21), .ref (a 22), .ref (a 23), .int (q 24), .ref (a 25), .int (q 26), .ref (a 27), .int (q 28), .int (q 29), .int (q 30), .int (q 31), .int (q 32), .int (q 33), .ref (a 34), .ref (a 35), .ref (a 36), .ref (a 37), .ref (a 38), .ref (a 39), .ref (a 40), .int (q 41), .ref (a 42), .int (q 43), .int (q 44)])), ((a 8), .inl (T 0, 24, .inl f8)), ((a 9), .inl (T 0, 24, .inl f9)), ((a 10), .inl (T 0, 24, .inl f10)), ((a 11), .inl (T 0, 24, .inl f11)), ((a 17), .inl (T 0, 24, .inl (upd (upd e9 (xx.toNatClampNeg) 6) (xx.toNatClampNeg) z_269))), ((a 18), .inl (T 0, 24, .inl (upd p9 (xx.toNatClampNeg) ((1 + z_295) + z_307)))), ((a 19), .inl (T 0, 24, .inl (upd d9 (xx.toNatClampNeg) (1 + z_312))))] H := hP
                have hD : va_D A [(h0, .inr (10, [.int (q 0), .int (q 1), .int (q 2), .int (q 3), .int (q 4), .int (q 5), .int (q 6), .int (q 7), .ref (a 8), .ref (a 9), .ref (a 10), .ref (a 11), .ref (a 12), .ref (a 13), .int (q 14), .long v, .long w, .ref (a 17), .ref (a 18), .ref (a 19), .ref (a 20), .ref (a 21), .ref (a 22), .ref (a 23), .int (q 24), .ref (a 25), .int (q 26), .ref (a 27), .int (q 28), .int (q 29), .int (q 30), .int (q 31), .int (q 32), .int (q 33), .ref (a 34), .ref (a 35), .ref (a 36), .ref (a 37), .ref (a 38), .ref (a 39), .ref (a 40), .int (q 41), .ref (a 42), .int (q 43), .int (q 44)])), ((a 8), .inl (T 0, 24, .inl f8)), ((a 9), .inl (T 0, 24, .inl f9)), ((a 10), .inl (T 0, 24, .inl f10)), ((a 11), .inl (T 0, 24, .inl f11)), ((a 17), .inl (T 0, 24, .inl (upd (upd e9 (xx.toNatClampNeg) 6) (xx.toNatClampNeg) z_269))), ((a 18), .inl (T 0, 24, .inl (upd p9 (xx.toNatClampNeg) ((1 + z_295) + z_307)))), ((a 19), .inl (T 0, 24, .inl (upd d9 (xx.toNatClampNeg) (1 + z_312))))] := hD
                obtain ⟨z_313, ez_313⟩ : ∃ y : Int32, y = xx + 1 := ⟨_, rfl⟩
                refine lv_iinc (v := z_313) (lv' := [(1, .int z_313), (4, .int z_5), (3, .int z_4), (2, .int r_3), (0, .ref h0)]) hx hb dX13_laysParts_206 hl (k := 3) rfl (by rw [ez_313]; rfl) (by decide) rfl (fun ls hl => ?_)
                have hz_3139 : z_313.toInt = xx.toInt + 1 := by rw [ez_313]; exact inc1 (n := 1000) (by omega) (by decide)
                refine lv_goto (tgt := 2) hx hb dX13_laysParts_209 (by decide) ?_
                exact ih (z_313, (upd (upd e9 (xx.toNatClampNeg) 6) (xx.toNatClampNeg) z_269), (upd p9 (xx.toNatClampNeg) ((1 + z_295) + z_307)), (upd d9 (xx.toNatClampNeg) (1 + z_312))) ls _ _ ⟨lv_sub hl [0, 4] rfl, hP.sub [0, 1, 2, 3, 4, 5, 6, 7] rfl, hD.sub [0, 1, 2, 3, 4, 5, 6, 7] (by decide) rfl, hS, ⟨(by rw [hz_3139]; omega), (by rw [upd_upd]; exact okE_step (n := 0) hEE (by omega) hz_3139 (by omega) (fun hk9 => by exfalso; omega) (okR.late hokR))⟩⟩ (by (try dsimp only); rw [hz_3139]; omega)
              · rw [fa_eq] at c_309
                try rw [ti_1] at c_309
                refine lv_aload_n hx hb dX13_laysParts_179 rfl (lv_at hl 4 rfl) ?_
                refine va_get (D := D) (ci := 10) (v := .ref (a 19)) (C := RX13) (T := TX13) (N := 45) hx hb hts in_X13_laysParts_X13 hown hE.1 hP 0 rfl rfl 19 (by decide) (hts (.fieldLink RX13 53 "ClauseBookModel" "deep" "[I") (List.mem_of_getElem? (i := 15) rfl)) (fun _ h9 => h9) rfl dX13_laysParts_180 ?_
                refine lv_iload_n hx hb dX13_laysParts_183 rfl (lv_at hl 1 rfl) ?_
                refine va_iald hx hb hE.1 hP 7 0 rfl rfl (by rw [vp_in_iff]; first | omega | (subst_vars; omega)) dX13_laysParts_184 ?_
                refine lv_topi (fun z_314 ez_314 => ?_)
                refine lv_goto (tgt := 204) hx hb dX13_laysParts_185 (by decide) ?_
                refine lv_iadd hx hb dX13_laysParts_204 ?_
                refine va_iast hx hb hE.1 hP hD hS 7 0 rfl rfl (by rw [vp_in_iff]; first | omega | (subst_vars; omega)) dX13_laysParts_205 (fun H locs hP hD hS => ?_)
                have hP : va_P D vwCl [(h0, .inr (10, [.int (q 0), .int (q 1), .int (q 2), .int (q 3), .int (q 4), .int (q 5), .int (q 6), .int (q 7), .ref (a 8), .ref (a 9), .ref (a 10), .ref (a 11), .ref (a 12), .ref (a 13), .int (q 14), .long v, .long w, .ref (a 17), .ref (a 18), .ref (a 19), .ref (a 20), .ref (a 21), .ref (a 22), .ref (a 23), .int (q 24), .ref (a 25), .int (q 26), .ref (a 27), .int (q 28), .int (q 29), .int (q 30), .int (q 31), .int (q 32), .int (q 33), .ref (a 34), .ref (a 35), .ref (a 36), .ref (a 37), .ref (a 38), .ref (a 39), .ref (a 40), .int (q 41), .ref (a 42), .int (q 43), .int (q 44)])), ((a 8), .inl (T 0, 24, .inl f8)), ((a 9), .inl (T 0, 24, .inl f9)), ((a 10), .inl (T 0, 24, .inl f10)), ((a 11), .inl (T 0, 24, .inl f11)), ((a 17), .inl (T 0, 24, .inl (upd (upd e9 (xx.toNatClampNeg) 6) (xx.toNatClampNeg) z_269))), ((a 18), .inl (T 0, 24, .inl (upd p9 (xx.toNatClampNeg) ((1 + z_295) + z_307)))), ((a 19), .inl (T 0, 24, .inl (upd d9 (xx.toNatClampNeg) (1 + z_314))))] H := hP
                have hD : va_D A [(h0, .inr (10, [.int (q 0), .int (q 1), .int (q 2), .int (q 3), .int (q 4), .int (q 5), .int (q 6), .int (q 7), .ref (a 8), .ref (a 9), .ref (a 10), .ref (a 11), .ref (a 12), .ref (a 13), .int (q 14), .long v, .long w, .ref (a 17), .ref (a 18), .ref (a 19), .ref (a 20), .ref (a 21), .ref (a 22), .ref (a 23), .int (q 24), .ref (a 25), .int (q 26), .ref (a 27), .int (q 28), .int (q 29), .int (q 30), .int (q 31), .int (q 32), .int (q 33), .ref (a 34), .ref (a 35), .ref (a 36), .ref (a 37), .ref (a 38), .ref (a 39), .ref (a 40), .int (q 41), .ref (a 42), .int (q 43), .int (q 44)])), ((a 8), .inl (T 0, 24, .inl f8)), ((a 9), .inl (T 0, 24, .inl f9)), ((a 10), .inl (T 0, 24, .inl f10)), ((a 11), .inl (T 0, 24, .inl f11)), ((a 17), .inl (T 0, 24, .inl (upd (upd e9 (xx.toNatClampNeg) 6) (xx.toNatClampNeg) z_269))), ((a 18), .inl (T 0, 24, .inl (upd p9 (xx.toNatClampNeg) ((1 + z_295) + z_307)))), ((a 19), .inl (T 0, 24, .inl (upd d9 (xx.toNatClampNeg) (1 + z_314))))] := hD
                obtain ⟨z_315, ez_315⟩ : ∃ y : Int32, y = xx + 1 := ⟨_, rfl⟩
                refine lv_iinc (v := z_315) (lv' := [(1, .int z_315), (4, .int z_5), (3, .int z_4), (2, .int r_3), (0, .ref h0)]) hx hb dX13_laysParts_206 hl (k := 3) rfl (by rw [ez_315]; rfl) (by decide) rfl (fun ls hl => ?_)
                have hz_3159 : z_315.toInt = xx.toInt + 1 := by rw [ez_315]; exact inc1 (n := 1000) (by omega) (by decide)
                refine lv_goto (tgt := 2) hx hb dX13_laysParts_209 (by decide) ?_
                exact ih (z_315, (upd (upd e9 (xx.toNatClampNeg) 6) (xx.toNatClampNeg) z_269), (upd p9 (xx.toNatClampNeg) ((1 + z_295) + z_307)), (upd d9 (xx.toNatClampNeg) (1 + z_314))) ls _ _ ⟨lv_sub hl [0, 4] rfl, hP.sub [0, 1, 2, 3, 4, 5, 6, 7] rfl, hD.sub [0, 1, 2, 3, 4, 5, 6, 7] (by decide) rfl, hS, ⟨(by rw [hz_3159]; omega), (by rw [upd_upd]; exact okE_step (n := 0) hEE (by omega) hz_3159 (by omega) (fun hk9 => by exfalso; omega) (okR.late hokR))⟩⟩ (by (try dsimp only); rw [hz_3159]; omega)
            · rw [fa_eq] at c_308
              try rw [ti_0] at c_308
              refine lv_iconst (v := 0) hx hb dX13_laysParts_170 (by decide) ?_
              refine lv_goto (tgt := 204) hx hb dX13_laysParts_171 (by decide) ?_
              refine lv_iadd hx hb dX13_laysParts_204 ?_
              refine lv_topi (fun z_316 ez_316 => ?_)
              obtain rfl : z_316 = 1 := ez_316.trans (by decide)
              refine va_iast hx hb hE.1 hP hD hS 7 0 rfl rfl (by rw [vp_in_iff]; first | omega | (subst_vars; omega)) dX13_laysParts_205 (fun H locs hP hD hS => ?_)
              have hP : va_P D vwCl [(h0, .inr (10, [.int (q 0), .int (q 1), .int (q 2), .int (q 3), .int (q 4), .int (q 5), .int (q 6), .int (q 7), .ref (a 8), .ref (a 9), .ref (a 10), .ref (a 11), .ref (a 12), .ref (a 13), .int (q 14), .long v, .long w, .ref (a 17), .ref (a 18), .ref (a 19), .ref (a 20), .ref (a 21), .ref (a 22), .ref (a 23), .int (q 24), .ref (a 25), .int (q 26), .ref (a 27), .int (q 28), .int (q 29), .int (q 30), .int (q 31), .int (q 32), .int (q 33), .ref (a 34), .ref (a 35), .ref (a 36), .ref (a 37), .ref (a 38), .ref (a 39), .ref (a 40), .int (q 41), .ref (a 42), .int (q 43), .int (q 44)])), ((a 8), .inl (T 0, 24, .inl f8)), ((a 9), .inl (T 0, 24, .inl f9)), ((a 10), .inl (T 0, 24, .inl f10)), ((a 11), .inl (T 0, 24, .inl f11)), ((a 17), .inl (T 0, 24, .inl (upd (upd e9 (xx.toNatClampNeg) 6) (xx.toNatClampNeg) z_269))), ((a 18), .inl (T 0, 24, .inl (upd p9 (xx.toNatClampNeg) ((1 + z_295) + z_307)))), ((a 19), .inl (T 0, 24, .inl (upd d9 (xx.toNatClampNeg) 1)))] H := hP
              have hD : va_D A [(h0, .inr (10, [.int (q 0), .int (q 1), .int (q 2), .int (q 3), .int (q 4), .int (q 5), .int (q 6), .int (q 7), .ref (a 8), .ref (a 9), .ref (a 10), .ref (a 11), .ref (a 12), .ref (a 13), .int (q 14), .long v, .long w, .ref (a 17), .ref (a 18), .ref (a 19), .ref (a 20), .ref (a 21), .ref (a 22), .ref (a 23), .int (q 24), .ref (a 25), .int (q 26), .ref (a 27), .int (q 28), .int (q 29), .int (q 30), .int (q 31), .int (q 32), .int (q 33), .ref (a 34), .ref (a 35), .ref (a 36), .ref (a 37), .ref (a 38), .ref (a 39), .ref (a 40), .int (q 41), .ref (a 42), .int (q 43), .int (q 44)])), ((a 8), .inl (T 0, 24, .inl f8)), ((a 9), .inl (T 0, 24, .inl f9)), ((a 10), .inl (T 0, 24, .inl f10)), ((a 11), .inl (T 0, 24, .inl f11)), ((a 17), .inl (T 0, 24, .inl (upd (upd e9 (xx.toNatClampNeg) 6) (xx.toNatClampNeg) z_269))), ((a 18), .inl (T 0, 24, .inl (upd p9 (xx.toNatClampNeg) ((1 + z_295) + z_307)))), ((a 19), .inl (T 0, 24, .inl (upd d9 (xx.toNatClampNeg) 1)))] := hD
              obtain ⟨z_317, ez_317⟩ : ∃ y : Int32, y = xx + 1 := ⟨_, rfl⟩
              refine lv_iinc (v := z_317) (lv' := [(1, .int z_317), (4, .int z_5), (3, .int z_4), (2, .int r_3), (0, .ref h0)]) hx hb dX13_laysParts_206 hl (k := 3) rfl (by rw [ez_317]; rfl) (by decide) rfl (fun ls hl => ?_)
              have hz_3179 : z_317.toInt = xx.toInt + 1 := by rw [ez_317]; exact inc1 (n := 1000) (by omega) (by decide)
              refine lv_goto (tgt := 2) hx hb dX13_laysParts_209 (by decide) ?_
              exact ih (z_317, (upd (upd e9 (xx.toNatClampNeg) 6) (xx.toNatClampNeg) z_269), (upd p9 (xx.toNatClampNeg) ((1 + z_295) + z_307)), (upd d9 (xx.toNatClampNeg) 1)) ls _ _ ⟨lv_sub hl [0, 4] rfl, hP.sub [0, 1, 2, 3, 4, 5, 6, 7] rfl, hD.sub [0, 1, 2, 3, 4, 5, 6, 7] (by decide) rfl, hS, ⟨(by rw [hz_3179]; omega), (by rw [upd_upd]; exact okE_step (n := 0) hEE (by omega) hz_3179 (by omega) (fun hk9 => by exfalso; omega) (okR.late hokR))⟩⟩ (by (try dsimp only); rw [hz_3179]; omega)
