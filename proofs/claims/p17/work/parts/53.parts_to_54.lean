section
/-! ends, how many, how deep, as the reference lays them -/
theorem okR.Nm {fk fc fd : Nat → Int32} (h : okR fk fc fd) : okN fk fc fd 24 := fun j hj => ⟨(h j hj).2.1, (h j hj).2.2⟩
theorem mesE_r8 {fk fn fc fd fe : Nat → Int32} {j : Nat} {v b b0 n : Int32} (hk : (fk j).toNatClampNeg = 8) (hb : b0.toInt = endB fk fc fd fe j) (he : b.toInt = b0.toInt) (hv : v = if b < n then b else n) (hn : n = fn j) : v.toInt = mesE fk fn fc fd fe j := by
  unfold mesE
  rw [if_pos hk, hv, imin_t, he, hb, hn, Int.min_comm]
theorem mesE_rn {fk fn fc fd fe : Nat → Int32} {j : Nat} {b b0 : Int32} (hk : ¬ (fk j).toNatClampNeg = 8) (hb : b0.toInt = endB fk fc fd fe j) (he : b.toInt = b0.toInt) : b.toInt = mesE fk fn fc fd fe j := mesE_no hk (he.trans hb)
theorem mesM_r1 {fk fc fd fm : Nat → Int32} {j : Nat} {s m c : Int32} (h : (nmT (fk j).toNatClampNeg).toInt = 1) (hs : s = (1 + m) + 0) (hm : m = fm c.toNatClampNeg) (hc : c = fc j) : s = mesM fk fc fd fm j := mesM_1 h (hs.trans (Int32.add_zero _)) hm hc
theorem mesM_r2 {fk fc fd fm : Nat → Int32} {j : Nat} {s m c m2 d : Int32} (h : (nmT (fk j).toNatClampNeg).toInt = 2) (hs : s = (1 + m) + m2) (hm : m = fm c.toNatClampNeg) (hc : c = fc j) (hm2 : m2 = fm d.toNatClampNeg) (hd : d = fd j) : s = mesM fk fc fd fm j := mesM_2 h hs rfl hm hc hm2 hd
theorem mesD_r1 {fk fc fd fp : Nat → Int32} {j : Nat} {s p c : Int32} (h : (nmT (fk j).toNatClampNeg).toInt = 1) (hs : s = 1 + p) (hp : p = fp c.toNatClampNeg) (hc : c = fc j) : s = mesD fk fc fd fp j := (hs.trans (Int32.add_comm _ _)).trans (mesD_1 h hp hc)
theorem mesD_r2 {fk fc fd fp : Nat → Int32} {j : Nat} {s v p c p2 d : Int32} (h : (nmT (fk j).toNatClampNeg).toInt = 2) (hs : s = 1 + v) (hv : v = if p < p2 then p2 else p) (hp : p = fp c.toNatClampNeg) (hc : c = fc j) (hp2 : p2 = fp d.toNatClampNeg) (hd : d = fd j) : s = mesD fk fc fd fp j := (hs.trans (Int32.add_comm _ _)).trans (mesD_2 h hv hp hc hp2 hd)
theorem mes_lp {fk fn fc fd fe fm fp : Nat → Int32} {x i' v m p : Int32} (ok : okN fk fc fd 24) (h0 : 0 ≤ x.toInt ∧ x.toInt < 24) (hi : i'.toInt = x.toInt + 1) (a : ∀ j : Nat, (j : Int) < x.toInt → mesP fk fn fc fd fe fm fp j) (hv : v.toInt = mesE fk fn fc fd fe x.toNatClampNeg) (hm : m = mesM fk fc fd fm x.toNatClampNeg) (hp : p = mesD fk fc fd fp x.toNatClampNeg) : ∀ j : Nat, (j : Int) < i'.toInt → mesP fk fn fc fd (upd fe x.toNatClampNeg v) (upd fm x.toNatClampNeg m) (upd fp x.toNatClampNeg p) j := by
  have t := tn h0.1
  intro j hj
  exact mes_step (fun j hj => ok j (by omega)) (fun j hj => a j (by omega)) hv hm hp j (by omega)
/-- what clauseOf answers where names stand for all kinds -/
theorem clOf_rel {n m x w r r' : Int32} {f1 f2 f3 f4 f5 f6 f7 g1 g2 g3 g4 g5 g6 g7 : Nat → Int32} (R : rlC n f1 f2 f3 f4 (rfA m g1 g2 g3 g4)) (hm : 0 ≤ m.toInt ∧ m.toInt ≤ 24) (ok : okN g1 g3 g4 24) (a : ∀ j : Nat, (j : Int) < n.toInt → mesP f1 f2 f3 f4 f5 f6 f7 j) (b : ∀ j : Nat, (j : Int) < m.toInt → mesP g1 g2 g3 g4 g5 g6 g7 j) (c : clOf n x w r f1 f2 f3 f4 f5 f6 f7) (d : clOf m x w r' g1 g2 (fun j => if 1 ≤ (nmT (g1 j).toNatClampNeg).toInt then g3 j else -1) (fun j => if (nmT (g1 j).toNatClampNeg).toInt = 2 then g4 j else -1) g5 g6 g7) : r = r' := by
  have e := rlC_size R hm.1
  subst e
  have t := tn hm.1
  have h := mes_uniq (fk := g1) (gk := f1) (fn := g2) (gn := f2) (fc := g3) (gc := f3) (fd := g4) (gd := f4) (fe := g5) (ge := f5) (fm := g6) (gm := f6) (fp := g7) (gp := f7) (n := n.toNatClampNeg) (fun j hj => ok j (by omega)) (fun j hj => by
    obtain ⟨h1, h2, h3, h4⟩ := R.2 j hj
    have h1 : f1 j = g1 j := h1
    have h2 : f2 j = g2 j := h2
    have h3 : f3 j = (if 1 ≤ (nmT (g1 j).toNatClampNeg).toInt then g3 j else -1) := h3
    have h4 : f4 j = (if (nmT (g1 j).toNatClampNeg).toInt = 2 then g4 j else -1) := h4
    exact ⟨h1.symm, h2.symm, fun q => by rw [h3, if_pos q], fun q => by rw [h4, if_pos q]⟩) (fun j hj => b j (by omega)) (fun j hj => a j (by omega)) n.toNatClampNeg
  refine Int32.toInt_inj.1 ?_
  by_cases hx : 0 ≤ x.toInt ∧ x.toInt < n.toInt
  · have t2 := tn hx.1
    obtain ⟨e5, e6, e7⟩ := h x.toNatClampNeg (by omega) (by omega)
    obtain ⟨h1, h2, h3, h4⟩ := R.2 x.toNatClampNeg (by show x.toNatClampNeg < n.toNatClampNeg; omega)
    have h1 : f1 x.toNatClampNeg = g1 x.toNatClampNeg := h1
    have h2 : f2 x.toNatClampNeg = g2 x.toNatClampNeg := h2
    have h3 : f3 x.toNatClampNeg = (if 1 ≤ (nmT (g1 x.toNatClampNeg).toNatClampNeg).toInt then g3 x.toNatClampNeg else -1) := h3
    have h4 : f4 x.toNatClampNeg = (if (nmT (g1 x.toNatClampNeg).toNatClampNeg).toInt = 2 then g4 x.toNatClampNeg else -1) := h4
    have c := c.resolve_left (fun q => q.1 hx)
    have d := d.resolve_left (fun q => q.1 hx)
    obtain ⟨-, c⟩ := c
    obtain ⟨-, d⟩ := d
    rw [h1, h2, h3, h4, ← e5, ← e6, ← e7] at c
    rcases c with ⟨c1, c2⟩ | ⟨c1, c2⟩ | ⟨c1, c2⟩ | ⟨c1, c2⟩ | ⟨c1, c2⟩ | ⟨c1, c2⟩ | ⟨c1, c2⟩ | ⟨c1, c2⟩ <;> rcases d with ⟨d1, d2⟩ | ⟨d1, d2⟩ | ⟨d1, d2⟩ | ⟨d1, d2⟩ | ⟨d1, d2⟩ | ⟨d1, d2⟩ | ⟨d1, d2⟩ | ⟨d1, d2⟩ <;> first | (exfalso; omega) | (rw [c2, d2]) | omega
  · have c := c.resolve_right (fun q => hx q.1)
    have d := d.resolve_right (fun q => hx q.1)
    omega
def clOR (m x w r : Int32) (g1 g2 g3 g4 : Nat → Int32) : Prop := (¬ (0 ≤ x.toInt ∧ x.toInt < m.toInt) ∧ r.toInt = -2) ∨ ∃ g5 g6 g7 : Nat → Int32, (∀ j : Nat, (j : Int) < m.toInt → mesP g1 g2 g3 g4 g5 g6 g7 j) ∧ clOf m x w r g1 g2 (fun j => if 1 ≤ (nmT (g1 j).toNatClampNeg).toInt then g3 j else -1) (fun j => if (nmT (g1 j).toNatClampNeg).toInt = 2 then g4 j else -1) g5 g6 g7
theorem clOR_rel {n m x w r r' : Int32} {f1 f2 f3 f4 f5 f6 f7 g1 g2 g3 g4 : Nat → Int32} (R : rlC n f1 f2 f3 f4 (rfA m g1 g2 g3 g4)) (hm : 0 ≤ m.toInt ∧ m.toInt ≤ 24) (ok : okN g1 g3 g4 24) (a : ∀ j : Nat, (j : Int) < n.toInt → mesP f1 f2 f3 f4 f5 f6 f7 j) (c : clOf n x w r f1 f2 f3 f4 f5 f6 f7) (d : clOR m x w r' g1 g2 g3 g4) : r = r' := by
  rcases d with ⟨d1, d2⟩ | ⟨g5, g6, g7, b, d⟩
  · have e := rlC_size R hm.1
    subst e
    have c := c.resolve_right (fun q => d1 q.1)
    exact Int32.toInt_inj.1 (by omega)
  · exact clOf_rel R hm ok a b c d
theorem okE_step {fk fc fe : Nat → Int32} {x i' v : Int32} {n : Int} (h : okE fk fc fe x.toInt) (hx : 0 ≤ x.toInt ∧ x.toInt < 24) (e : i'.toInt = x.toInt + 1) (h6 : v.toInt ≤ 6) (hc : (fk x.toNatClampNeg).toInt = 10 ∨ (fk x.toNatClampNeg).toInt = 11 → (0 ≤ (fc x.toNatClampNeg).toInt ∧ (fc x.toNatClampNeg).toInt < x.toInt) ∧ v.toInt = (fe (fc x.toNatClampNeg).toNatClampNeg).toInt) (hr : ∀ j : Nat, j < 24 → (fk j).toInt = 10 ∨ (fk j).toInt = 11 → 0 ≤ (fc j).toInt ∧ (fc j).toInt < j) : okE fk fc (upd fe x.toNatClampNeg v) i'.toInt := by
  intro j hj
  have hxx := in24 hx
  by_cases ej : j = x.toNatClampNeg
  · subst ej
    refine ⟨by simp only [upd, if_pos]; exact h6, fun hk => ?_⟩
    have h9 := hc hk
    have h8 := tn h9.1.1
    have h7 : ¬ (fc x.toNatClampNeg).toNatClampNeg = x.toNatClampNeg := by omega
    simp only [upd, if_pos, if_neg h7]
    exact h9.2
  · have h9 := h j (by omega)
    refine ⟨by simp only [upd, if_neg ej]; exact h9.1, fun hk => ?_⟩
    have h8 := hr j (by omega) hk
    have h6' := tn h8.1
    have h7 : ¬ (fc j).toNatClampNeg = x.toNatClampNeg := by omega
    simp only [upd, if_neg ej, if_neg h7]
    exact h9.2 hk
theorem upd_upd {f : Nat → Int32} {k : Nat} {v z : Int32} : upd (upd f k v) k z = upd f k z := by
  funext j
  simp only [upd]
  by_cases h : j = k
  · simp only [if_pos h]
  · simp only [if_neg h]
theorem okR.late {fk fc fd : Nat → Int32} (h : okR fk fc fd) : ∀ j : Nat, j < 24 → (fk j).toInt = 10 ∨ (fk j).toInt = 11 → 0 ≤ (fc j).toInt ∧ (fc j).toInt < j := by
  intro j hj hk
  refine (h j hj).2.1 ?_
  rcases hk with hk | hk
  · have e : fk j = 10 := by rw [fa_eq, hk]; decide
    rw [e]; decide
  · have e : fk j = 11 := by rw [fa_eq, hk]; decide
    rw [e]; decide
theorem nm_late {z : Int32} (h : z.toInt = 10 ∨ z.toInt = 11) : (nmT (z.toNatClampNeg)).toInt = 1 := by
  rcases h with h | h
  · have e : z = 10 := by rw [fa_eq, h]; decide
    rw [e]; decide
  · have e : z = 11 := by rw [fa_eq, h]; decide
    rw [e]; decide
theorem dX13_laysParts_0 : decode cX13_laysParts 0 = .ok (.iconst 0, 1) := by decide +kernel
theorem dX13_laysParts_1 : decode cX13_laysParts 1 = .ok (.istore_n 1, 1) := by decide +kernel
theorem dX13_laysParts_10 : decode cX13_laysParts 10 = .ok (.aload_n 0, 1) := by decide +kernel
theorem dX13_laysParts_100 : decode cX13_laysParts 100 = .ok (.iload_n 1, 1) := by decide +kernel
theorem dX13_laysParts_101 : decode cX13_laysParts 101 = .ok (.iaload, 1) := by decide +kernel
theorem dX13_laysParts_102 : decode cX13_laysParts 102 = .ok (.aload_n 0, 1) := by decide +kernel
theorem dX13_laysParts_103 : decode cX13_laysParts 103 = .ok (.getfield 47, 3) := by decide +kernel
theorem dX13_laysParts_106 : decode cX13_laysParts 106 = .ok (.iload_n 1, 1) := by decide +kernel
theorem dX13_laysParts_107 : decode cX13_laysParts 107 = .ok (.iaload, 1) := by decide +kernel
theorem dX13_laysParts_108 : decode cX13_laysParts 108 = .ok (.invokestatic 230, 3) := by decide +kernel
theorem dX13_laysParts_11 : decode cX13_laysParts 11 = .ok (.getfield 28, 3) := by decide +kernel
theorem dX13_laysParts_111 : decode cX13_laysParts 111 = .ok (.goto 9, 3) := by decide +kernel
theorem dX13_laysParts_114 : decode cX13_laysParts 114 = .ok (.aload_n 0, 1) := by decide +kernel
theorem dX13_laysParts_115 : decode cX13_laysParts 115 = .ok (.getfield 47, 3) := by decide +kernel
theorem dX13_laysParts_118 : decode cX13_laysParts 118 = .ok (.iload_n 1, 1) := by decide +kernel
theorem dX13_laysParts_119 : decode cX13_laysParts 119 = .ok (.iaload, 1) := by decide +kernel
theorem dX13_laysParts_120 : decode cX13_laysParts 120 = .ok (.iastore, 1) := by decide +kernel
theorem dX13_laysParts_121 : decode cX13_laysParts 121 = .ok (.aload_n 0, 1) := by decide +kernel
theorem dX13_laysParts_122 : decode cX13_laysParts 122 = .ok (.getfield 50, 3) := by decide +kernel
theorem dX13_laysParts_125 : decode cX13_laysParts 125 = .ok (.iload_n 1, 1) := by decide +kernel
theorem dX13_laysParts_126 : decode cX13_laysParts 126 = .ok (.iconst 1, 1) := by decide +kernel
theorem dX13_laysParts_127 : decode cX13_laysParts 127 = .ok (.iload_n 2, 1) := by decide +kernel
theorem dX13_laysParts_128 : decode cX13_laysParts 128 = .ok (.ifCond .le 12, 3) := by decide +kernel
theorem dX13_laysParts_131 : decode cX13_laysParts 131 = .ok (.aload_n 0, 1) := by decide +kernel
theorem dX13_laysParts_132 : decode cX13_laysParts 132 = .ok (.getfield 50, 3) := by decide +kernel
theorem dX13_laysParts_135 : decode cX13_laysParts 135 = .ok (.iload_n 3, 1) := by decide +kernel
theorem dX13_laysParts_136 : decode cX13_laysParts 136 = .ok (.iaload, 1) := by decide +kernel
theorem dX13_laysParts_137 : decode cX13_laysParts 137 = .ok (.goto 4, 3) := by decide +kernel
theorem dX13_laysParts_14 : decode cX13_laysParts 14 = .ok (.iload_n 1, 1) := by decide +kernel
theorem dX13_laysParts_140 : decode cX13_laysParts 140 = .ok (.iconst 0, 1) := by decide +kernel
theorem dX13_laysParts_141 : decode cX13_laysParts 141 = .ok (.iadd, 1) := by decide +kernel
theorem dX13_laysParts_142 : decode cX13_laysParts 142 = .ok (.iload_n 2, 1) := by decide +kernel
theorem dX13_laysParts_143 : decode cX13_laysParts 143 = .ok (.iconst 1, 1) := by decide +kernel
theorem dX13_laysParts_144 : decode cX13_laysParts 144 = .ok (.if_icmp .le 13, 3) := by decide +kernel
theorem dX13_laysParts_147 : decode cX13_laysParts 147 = .ok (.aload_n 0, 1) := by decide +kernel
theorem dX13_laysParts_148 : decode cX13_laysParts 148 = .ok (.getfield 50, 3) := by decide +kernel
theorem dX13_laysParts_15 : decode cX13_laysParts 15 = .ok (.iaload, 1) := by decide +kernel
theorem dX13_laysParts_151 : decode cX13_laysParts 151 = .ok (.iload 4, 2) := by decide +kernel
theorem dX13_laysParts_153 : decode cX13_laysParts 153 = .ok (.iaload, 1) := by decide +kernel
theorem dX13_laysParts_154 : decode cX13_laysParts 154 = .ok (.goto 4, 3) := by decide +kernel
theorem dX13_laysParts_157 : decode cX13_laysParts 157 = .ok (.iconst 0, 1) := by decide +kernel
theorem dX13_laysParts_158 : decode cX13_laysParts 158 = .ok (.iadd, 1) := by decide +kernel
theorem dX13_laysParts_159 : decode cX13_laysParts 159 = .ok (.iastore, 1) := by decide +kernel
theorem dX13_laysParts_16 : decode cX13_laysParts 16 = .ok (.invokestatic 210, 3) := by decide +kernel
theorem dX13_laysParts_160 : decode cX13_laysParts 160 = .ok (.aload_n 0, 1) := by decide +kernel
theorem dX13_laysParts_161 : decode cX13_laysParts 161 = .ok (.getfield 53, 3) := by decide +kernel
theorem dX13_laysParts_164 : decode cX13_laysParts 164 = .ok (.iload_n 1, 1) := by decide +kernel
theorem dX13_laysParts_165 : decode cX13_laysParts 165 = .ok (.iconst 1, 1) := by decide +kernel
theorem dX13_laysParts_166 : decode cX13_laysParts 166 = .ok (.iload_n 2, 1) := by decide +kernel
theorem dX13_laysParts_167 : decode cX13_laysParts 167 = .ok (.ifCond .ne 7, 3) := by decide +kernel
theorem dX13_laysParts_170 : decode cX13_laysParts 170 = .ok (.iconst 0, 1) := by decide +kernel
theorem dX13_laysParts_171 : decode cX13_laysParts 171 = .ok (.goto 33, 3) := by decide +kernel
theorem dX13_laysParts_174 : decode cX13_laysParts 174 = .ok (.iload_n 2, 1) := by decide +kernel
theorem dX13_laysParts_175 : decode cX13_laysParts 175 = .ok (.iconst 1, 1) := by decide +kernel
theorem dX13_laysParts_176 : decode cX13_laysParts 176 = .ok (.if_icmp .ne 12, 3) := by decide +kernel
theorem dX13_laysParts_179 : decode cX13_laysParts 179 = .ok (.aload_n 0, 1) := by decide +kernel
theorem dX13_laysParts_180 : decode cX13_laysParts 180 = .ok (.getfield 53, 3) := by decide +kernel
theorem dX13_laysParts_183 : decode cX13_laysParts 183 = .ok (.iload_n 3, 1) := by decide +kernel
theorem dX13_laysParts_184 : decode cX13_laysParts 184 = .ok (.iaload, 1) := by decide +kernel
theorem dX13_laysParts_185 : decode cX13_laysParts 185 = .ok (.goto 19, 3) := by decide +kernel
theorem dX13_laysParts_188 : decode cX13_laysParts 188 = .ok (.aload_n 0, 1) := by decide +kernel
theorem dX13_laysParts_189 : decode cX13_laysParts 189 = .ok (.getfield 53, 3) := by decide +kernel
theorem dX13_laysParts_19 : decode cX13_laysParts 19 = .ok (.istore_n 2, 1) := by decide +kernel
theorem dX13_laysParts_192 : decode cX13_laysParts 192 = .ok (.iload_n 3, 1) := by decide +kernel
theorem dX13_laysParts_193 : decode cX13_laysParts 193 = .ok (.iaload, 1) := by decide +kernel
theorem dX13_laysParts_194 : decode cX13_laysParts 194 = .ok (.aload_n 0, 1) := by decide +kernel
theorem dX13_laysParts_195 : decode cX13_laysParts 195 = .ok (.getfield 53, 3) := by decide +kernel
theorem dX13_laysParts_198 : decode cX13_laysParts 198 = .ok (.iload 4, 2) := by decide +kernel
theorem dX13_laysParts_2 : decode cX13_laysParts 2 = .ok (.iload_n 1, 1) := by decide +kernel
theorem dX13_laysParts_20 : decode cX13_laysParts 20 = .ok (.aload_n 0, 1) := by decide +kernel
theorem dX13_laysParts_200 : decode cX13_laysParts 200 = .ok (.iaload, 1) := by decide +kernel
theorem dX13_laysParts_201 : decode cX13_laysParts 201 = .ok (.invokestatic 227, 3) := by decide +kernel
theorem dX13_laysParts_204 : decode cX13_laysParts 204 = .ok (.iadd, 1) := by decide +kernel
theorem dX13_laysParts_205 : decode cX13_laysParts 205 = .ok (.iastore, 1) := by decide +kernel
theorem dX13_laysParts_206 : decode cX13_laysParts 206 = .ok (.iinc 1 1, 3) := by decide +kernel
theorem dX13_laysParts_209 : decode cX13_laysParts 209 = .ok (.goto (-207), 3) := by decide +kernel
theorem dX13_laysParts_21 : decode cX13_laysParts 21 = .ok (.getfield 35, 3) := by decide +kernel
theorem dX13_laysParts_212 : decode cX13_laysParts 212 = .ok (.return_, 1) := by decide +kernel
theorem dX13_laysParts_24 : decode cX13_laysParts 24 = .ok (.iload_n 1, 1) := by decide +kernel
theorem dX13_laysParts_25 : decode cX13_laysParts 25 = .ok (.iaload, 1) := by decide +kernel
theorem dX13_laysParts_26 : decode cX13_laysParts 26 = .ok (.istore_n 3, 1) := by decide +kernel
theorem dX13_laysParts_27 : decode cX13_laysParts 27 = .ok (.aload_n 0, 1) := by decide +kernel
theorem dX13_laysParts_28 : decode cX13_laysParts 28 = .ok (.getfield 38, 3) := by decide +kernel
theorem dX13_laysParts_3 : decode cX13_laysParts 3 = .ok (.aload_n 0, 1) := by decide +kernel
theorem dX13_laysParts_31 : decode cX13_laysParts 31 = .ok (.iload_n 1, 1) := by decide +kernel
theorem dX13_laysParts_32 : decode cX13_laysParts 32 = .ok (.iaload, 1) := by decide +kernel
theorem dX13_laysParts_33 : decode cX13_laysParts 33 = .ok (.istore 4, 2) := by decide +kernel
theorem dX13_laysParts_35 : decode cX13_laysParts 35 = .ok (.aload_n 0, 1) := by decide +kernel
theorem dX13_laysParts_36 : decode cX13_laysParts 36 = .ok (.getfield 47, 3) := by decide +kernel
theorem dX13_laysParts_39 : decode cX13_laysParts 39 = .ok (.iload_n 1, 1) := by decide +kernel
theorem dX13_laysParts_4 : decode cX13_laysParts 4 = .ok (.getfield 205, 3) := by decide +kernel
theorem dX13_laysParts_40 : decode cX13_laysParts 40 = .ok (.iload_n 2, 1) := by decide +kernel
theorem dX13_laysParts_41 : decode cX13_laysParts 41 = .ok (.ifCond .ne 8, 3) := by decide +kernel
theorem dX13_laysParts_44 : decode cX13_laysParts 44 = .ok (.bipush 6, 2) := by decide +kernel
theorem dX13_laysParts_46 : decode cX13_laysParts 46 = .ok (.goto 33, 3) := by decide +kernel
theorem dX13_laysParts_49 : decode cX13_laysParts 49 = .ok (.iload_n 2, 1) := by decide +kernel
theorem dX13_laysParts_50 : decode cX13_laysParts 50 = .ok (.iconst 1, 1) := by decide +kernel
theorem dX13_laysParts_51 : decode cX13_laysParts 51 = .ok (.if_icmp .ne 12, 3) := by decide +kernel
theorem dX13_laysParts_54 : decode cX13_laysParts 54 = .ok (.aload_n 0, 1) := by decide +kernel
theorem dX13_laysParts_55 : decode cX13_laysParts 55 = .ok (.getfield 47, 3) := by decide +kernel
theorem dX13_laysParts_58 : decode cX13_laysParts 58 = .ok (.iload_n 3, 1) := by decide +kernel
theorem dX13_laysParts_59 : decode cX13_laysParts 59 = .ok (.iaload, 1) := by decide +kernel
theorem dX13_laysParts_60 : decode cX13_laysParts 60 = .ok (.goto 19, 3) := by decide +kernel
theorem dX13_laysParts_63 : decode cX13_laysParts 63 = .ok (.aload_n 0, 1) := by decide +kernel
theorem dX13_laysParts_64 : decode cX13_laysParts 64 = .ok (.getfield 47, 3) := by decide +kernel
theorem dX13_laysParts_67 : decode cX13_laysParts 67 = .ok (.iload_n 3, 1) := by decide +kernel
theorem dX13_laysParts_68 : decode cX13_laysParts 68 = .ok (.iaload, 1) := by decide +kernel
theorem dX13_laysParts_69 : decode cX13_laysParts 69 = .ok (.aload_n 0, 1) := by decide +kernel
theorem dX13_laysParts_7 : decode cX13_laysParts 7 = .ok (.if_icmp .ge 205, 3) := by decide +kernel
theorem dX13_laysParts_70 : decode cX13_laysParts 70 = .ok (.getfield 47, 3) := by decide +kernel
theorem dX13_laysParts_73 : decode cX13_laysParts 73 = .ok (.iload 4, 2) := by decide +kernel
theorem dX13_laysParts_75 : decode cX13_laysParts 75 = .ok (.iaload, 1) := by decide +kernel
theorem dX13_laysParts_76 : decode cX13_laysParts 76 = .ok (.invokestatic 227, 3) := by decide +kernel
theorem dX13_laysParts_79 : decode cX13_laysParts 79 = .ok (.iastore, 1) := by decide +kernel
theorem dX13_laysParts_80 : decode cX13_laysParts 80 = .ok (.aload_n 0, 1) := by decide +kernel
theorem dX13_laysParts_81 : decode cX13_laysParts 81 = .ok (.getfield 47, 3) := by decide +kernel
theorem dX13_laysParts_84 : decode cX13_laysParts 84 = .ok (.iload_n 1, 1) := by decide +kernel
theorem dX13_laysParts_85 : decode cX13_laysParts 85 = .ok (.aload_n 0, 1) := by decide +kernel
theorem dX13_laysParts_86 : decode cX13_laysParts 86 = .ok (.getfield 28, 3) := by decide +kernel
theorem dX13_laysParts_89 : decode cX13_laysParts 89 = .ok (.iload_n 1, 1) := by decide +kernel
theorem dX13_laysParts_90 : decode cX13_laysParts 90 = .ok (.iaload, 1) := by decide +kernel
theorem dX13_laysParts_91 : decode cX13_laysParts 91 = .ok (.bipush 8, 2) := by decide +kernel
theorem dX13_laysParts_93 : decode cX13_laysParts 93 = .ok (.if_icmp .ne 21, 3) := by decide +kernel
theorem dX13_laysParts_96 : decode cX13_laysParts 96 = .ok (.aload_n 0, 1) := by decide +kernel
theorem dX13_laysParts_97 : decode cX13_laysParts 97 = .ok (.getfield 32, 3) := by decide +kernel
set_option maxRecDepth 20000 in
theorem ggX13_laysParts_X13_names : GoodIn wsX13_laysParts wsX13_names := goodIn_r _ [19] rfl (by decide +kernel)
set_option maxRecDepth 20000 in
theorem gX13_laysParts_X13_names : GoodIn wsX13_laysParts (va_wsS RX13 210 yX13_names wsX13_names) := goodIn_app (goodIn_of _ (by decide +kernel)) ggX13_laysParts_X13_names
set_option maxRecDepth 20000 in
theorem in_X13_laysParts_X13 : ∀ w ∈ wsX130, w ∈ wsX13_laysParts := sub_r [20, 21, 22, 23, 24, 25, 26, 27, 28, 29, 30, 31, 32, 33, 34, 35, 36, 37, 38, 39, 40, 41, 42, 43, 44, 45, 46, 47, 48, 49, 50, 51, 52, 53, 54, 55, 56, 57, 58, 59, 60, 61, 62, 63, 64] rfl
set_option maxHeartbeats 4000000 in
set_option maxRecDepth 100000 in
theorem c_X13_laysParts (l : Launch) (D : va_G) (T : Nat → ClassId) (sz : Nat) (h0 : Nat) (q : Nat → Int32) (v : Int64) (w : Int64) (a : Nat → Nat) (f8 : Nat → Int32) (f9 : Nat → Int32) (f10 : Nat → Int32) (f11 : Nat → Int32) (f17 : Nat → Int32) (f18 : Nat → Int32) (f19 : Nat → Int32) (hm : 0 ≤ (q 7).toInt ∧ (q 7).toInt ≤ 24) (hokR : okR f8 f10 f11) : Met l yX13_laysParts wsX13_laysParts ({ frames := 1, cells := 0, slots := 0, locals := 40 }) (pW [.ref h0] D T [(h0, .inr (10, (Value.int (q 0) :: Value.int (q 1) :: Value.int (q 2) :: Value.int (q 3) :: Value.int (q 4) :: Value.int (q 5) :: Value.int (q 6) :: Value.int (q 7) :: Value.ref (a 8) :: Value.ref (a 9) :: Value.ref (a 10) :: Value.ref (a 11) :: Value.ref (a 12) :: Value.ref (a 13) :: Value.int (q 14) :: Value.long v :: Value.long w :: Value.ref (a 17) :: Value.ref (a 18) :: Value.ref (a 19) :: Value.ref (a 20) :: Value.ref (a 21) :: Value.ref (a 22) :: Value.ref (a 23) :: Value.int (q 24) :: Value.ref (a 25) :: Value.int (q 26) :: Value.ref (a 27) :: Value.int (q 28) :: Value.int (q 29) :: Value.int (q 30) :: Value.int (q 31) :: Value.int (q 32) :: Value.int (q 33) :: Value.ref (a 34) :: Value.ref (a 35) :: Value.ref (a 36) :: Value.ref (a 37) :: Value.ref (a 38) :: Value.ref (a 39) :: Value.ref (a 40) :: Value.int (q 41) :: Value.ref (a 42) :: Value.int (q 43) :: Value.int (q 44) :: []))), ((a 8), .inl (T 0, 24, .inl f8)), ((a 9), .inl (T 0, 24, .inl f9)), ((a 10), .inl (T 0, 24, .inl f10)), ((a 11), .inl (T 0, 24, .inl f11)), ((a 17), .inl (T 0, 24, .inl f17)), ((a 18), .inl (T 0, 24, .inl f18)), ((a 19), .inl (T 0, 24, .inl f19))] sz) (va_Qv (fun (u : (Nat → Int32) × (Nat → Int32) × (Nat → Int32)) => (okE f8 f10 u.1 (q 7).toInt) ∧ (∀ j : Nat, (j : Int) < (q 7).toInt → mesP f8 f9 f10 f11 u.1 u.2.1 u.2.2 j)) (bW D (va_A [(h0, .inr (10, (Value.int (q 0) :: Value.int (q 1) :: Value.int (q 2) :: Value.int (q 3) :: Value.int (q 4) :: Value.int (q 5) :: Value.int (q 6) :: Value.int (q 7) :: Value.ref (a 8) :: Value.ref (a 9) :: Value.ref (a 10) :: Value.ref (a 11) :: Value.ref (a 12) :: Value.ref (a 13) :: Value.int (q 14) :: Value.long v :: Value.long w :: Value.ref (a 17) :: Value.ref (a 18) :: Value.ref (a 19) :: Value.ref (a 20) :: Value.ref (a 21) :: Value.ref (a 22) :: Value.ref (a 23) :: Value.int (q 24) :: Value.ref (a 25) :: Value.int (q 26) :: Value.ref (a 27) :: Value.int (q 28) :: Value.int (q 29) :: Value.int (q 30) :: Value.int (q 31) :: Value.int (q 32) :: Value.int (q 33) :: Value.ref (a 34) :: Value.ref (a 35) :: Value.ref (a 36) :: Value.ref (a 37) :: Value.ref (a 38) :: Value.ref (a 39) :: Value.ref (a 40) :: Value.int (q 41) :: Value.ref (a 42) :: Value.int (q 43) :: Value.int (q 44) :: []))), ((a 8), .inl (T 0, 24, .inl f8)), ((a 9), .inl (T 0, 24, .inl f9)), ((a 10), .inl (T 0, 24, .inl f10)), ((a 11), .inl (T 0, 24, .inl f11)), ((a 17), .inl (T 0, 24, .inl f17)), ((a 18), .inl (T 0, 24, .inl f18)), ((a 19), .inl (T 0, 24, .inl f19))] sz) (fun (u : (Nat → Int32) × (Nat → Int32) × (Nat → Int32)) => [(h0, .inr (10, (Value.int (q 0) :: Value.int (q 1) :: Value.int (q 2) :: Value.int (q 3) :: Value.int (q 4) :: Value.int (q 5) :: Value.int (q 6) :: Value.int (q 7) :: Value.ref (a 8) :: Value.ref (a 9) :: Value.ref (a 10) :: Value.ref (a 11) :: Value.ref (a 12) :: Value.ref (a 13) :: Value.int (q 14) :: Value.long v :: Value.long w :: Value.ref (a 17) :: Value.ref (a 18) :: Value.ref (a 19) :: Value.ref (a 20) :: Value.ref (a 21) :: Value.ref (a 22) :: Value.ref (a 23) :: Value.int (q 24) :: Value.ref (a 25) :: Value.int (q 26) :: Value.ref (a 27) :: Value.int (q 28) :: Value.int (q 29) :: Value.int (q 30) :: Value.int (q 31) :: Value.int (q 32) :: Value.int (q 33) :: Value.ref (a 34) :: Value.ref (a 35) :: Value.ref (a 36) :: Value.ref (a 37) :: Value.ref (a 38) :: Value.ref (a 39) :: Value.ref (a 40) :: Value.int (q 41) :: Value.ref (a 42) :: Value.int (q 43) :: Value.int (q 44) :: []))), ((a 8), .inl (T 0, 24, .inl f8)), ((a 9), .inl (T 0, 24, .inl f9)), ((a 10), .inl (T 0, 24, .inl f10)), ((a 11), .inl (T 0, 24, .inl f11)), ((a 17), .inl (T 0, 24, .inl u.1)), ((a 18), .inl (T 0, 24, .inl u.2.1)), ((a 19), .inl (T 0, 24, .inl u.2.2))])) (va_A [(h0, .inr (10, (Value.int (q 0) :: Value.int (q 1) :: Value.int (q 2) :: Value.int (q 3) :: Value.int (q 4) :: Value.int (q 5) :: Value.int (q 6) :: Value.int (q 7) :: Value.ref (a 8) :: Value.ref (a 9) :: Value.ref (a 10) :: Value.ref (a 11) :: Value.ref (a 12) :: Value.ref (a 13) :: Value.int (q 14) :: Value.long v :: Value.long w :: Value.ref (a 17) :: Value.ref (a 18) :: Value.ref (a 19) :: Value.ref (a 20) :: Value.ref (a 21) :: Value.ref (a 22) :: Value.ref (a 23) :: Value.int (q 24) :: Value.ref (a 25) :: Value.int (q 26) :: Value.ref (a 27) :: Value.int (q 28) :: Value.int (q 29) :: Value.int (q 30) :: Value.int (q 31) :: Value.int (q 32) :: Value.int (q 33) :: Value.ref (a 34) :: Value.ref (a 35) :: Value.ref (a 36) :: Value.ref (a 37) :: Value.ref (a 38) :: Value.ref (a 39) :: Value.ref (a 40) :: Value.int (q 41) :: Value.ref (a 42) :: Value.int (q 43) :: Value.int (q 44) :: []))), ((a 8), .inl (T 0, 24, .inl f8)), ((a 9), .inl (T 0, 24, .inl f9)), ((a 10), .inl (T 0, 24, .inl f10)), ((a 11), .inl (T 0, 24, .inl f11)), ((a 17), .inl (T 0, 24, .inl f17)), ((a 18), .inl (T 0, 24, .inl f18)), ((a 19), .inl (T 0, 24, .inl f19))] sz)) 0 0 (va_A [(h0, .inr (10, (Value.int (q 0) :: Value.int (q 1) :: Value.int (q 2) :: Value.int (q 3) :: Value.int (q 4) :: Value.int (q 5) :: Value.int (q 6) :: Value.int (q 7) :: Value.ref (a 8) :: Value.ref (a 9) :: Value.ref (a 10) :: Value.ref (a 11) :: Value.ref (a 12) :: Value.ref (a 13) :: Value.int (q 14) :: Value.long v :: Value.long w :: Value.ref (a 17) :: Value.ref (a 18) :: Value.ref (a 19) :: Value.ref (a 20) :: Value.ref (a 21) :: Value.ref (a 22) :: Value.ref (a 23) :: Value.int (q 24) :: Value.ref (a 25) :: Value.int (q 26) :: Value.ref (a 27) :: Value.int (q 28) :: Value.int (q 29) :: Value.int (q 30) :: Value.int (q 31) :: Value.int (q 32) :: Value.int (q 33) :: Value.ref (a 34) :: Value.ref (a 35) :: Value.ref (a 36) :: Value.ref (a 37) :: Value.ref (a 38) :: Value.ref (a 39) :: Value.ref (a 40) :: Value.int (q 41) :: Value.ref (a 42) :: Value.int (q 43) :: Value.int (q 44) :: []))), ((a 8), .inl (T 0, 24, .inl f8)), ((a 9), .inl (T 0, 24, .inl f9)), ((a 10), .inl (T 0, 24, .inl f10)), ((a 11), .inl (T 0, 24, .inl f11)), ((a 17), .inl (T 0, 24, .inl f17)), ((a 18), .inl (T 0, 24, .inl f18)), ((a 19), .inl (T 0, 24, .inl f19))] sz) := by
  refine Met.ofW (cc := cX13_laysParts) (maxL := 5) (ret := none) (by decide +kernel) rfl ?_
  intro p e s m args below meth c s₁ B hml hv
  obtain ⟨rfl, hsz, hP, hE, hD0⟩ := hv
  have hx := B.exec
  have hb := B.bytes
  have hr := B.returns
  have hts := atoms_spec (ws := wsX13_laysParts) B.pre
  have hown : s.vm.findClass RX13 = some m.cls := findClass_of_methodNamed B.named
  have hlocks := B.notSynchronized
  subst hsz
  have hD := hD0.self (sz := s.heap.size)
  generalize hAe : va_A [(h0, .inr (10, (Value.int (q 0) :: Value.int (q 1) :: Value.int (q 2) :: Value.int (q 3) :: Value.int (q 4) :: Value.int (q 5) :: Value.int (q 6) :: Value.int (q 7) :: Value.ref (a 8) :: Value.ref (a 9) :: Value.ref (a 10) :: Value.ref (a 11) :: Value.ref (a 12) :: Value.ref (a 13) :: Value.int (q 14) :: Value.long v :: Value.long w :: Value.ref (a 17) :: Value.ref (a 18) :: Value.ref (a 19) :: Value.ref (a 20) :: Value.ref (a 21) :: Value.ref (a 22) :: Value.ref (a 23) :: Value.int (q 24) :: Value.ref (a 25) :: Value.int (q 26) :: Value.ref (a 27) :: Value.int (q 28) :: Value.int (q 29) :: Value.int (q 30) :: Value.int (q 31) :: Value.int (q 32) :: Value.int (q 33) :: Value.ref (a 34) :: Value.ref (a 35) :: Value.ref (a 36) :: Value.ref (a 37) :: Value.ref (a 38) :: Value.ref (a 39) :: Value.ref (a 40) :: Value.int (q 41) :: Value.ref (a 42) :: Value.int (q 43) :: Value.int (q 44) :: []))), ((a 8), .inl (T 0, 24, .inl f8)), ((a 9), .inl (T 0, 24, .inl f9)), ((a 10), .inl (T 0, 24, .inl f10)), ((a 11), .inl (T 0, 24, .inl f11)), ((a 17), .inl (T 0, 24, .inl f17)), ((a 18), .inl (T 0, 24, .inl f18)), ((a 19), .inl (T 0, 24, .inl f19))] s.heap.size = A at hD ⊢
  have hA : ∀ q : Nat, s.heap.size ≤ q → A q := fun q h => by rw [← hAe]; exact Or.inr h
  have hS : va_S A s.heap s.heap [] := va_S.rf
  have hP : va_P D vwCl [(h0, .inr (10, (Value.int (q 0) :: Value.int (q 1) :: Value.int (q 2) :: Value.int (q 3) :: Value.int (q 4) :: Value.int (q 5) :: Value.int (q 6) :: Value.int (q 7) :: Value.ref (a 8) :: Value.ref (a 9) :: Value.ref (a 10) :: Value.ref (a 11) :: Value.ref (a 12) :: Value.ref (a 13) :: Value.int (q 14) :: Value.long v :: Value.long w :: Value.ref (a 17) :: Value.ref (a 18) :: Value.ref (a 19) :: Value.ref (a 20) :: Value.ref (a 21) :: Value.ref (a 22) :: Value.ref (a 23) :: Value.int (q 24) :: Value.ref (a 25) :: Value.int (q 26) :: Value.ref (a 27) :: Value.int (q 28) :: Value.int (q 29) :: Value.int (q 30) :: Value.int (q 31) :: Value.int (q 32) :: Value.int (q 33) :: Value.ref (a 34) :: Value.ref (a 35) :: Value.ref (a 36) :: Value.ref (a 37) :: Value.ref (a 38) :: Value.ref (a 39) :: Value.ref (a 40) :: Value.int (q 41) :: Value.ref (a 42) :: Value.int (q 43) :: Value.int (q 44) :: []))), ((a 8), .inl (T 0, 24, .inl f8)), ((a 9), .inl (T 0, 24, .inl f9)), ((a 10), .inl (T 0, 24, .inl f10)), ((a 11), .inl (T 0, 24, .inl f11)), ((a 17), .inl (T 0, 24, .inl f17)), ((a 18), .inl (T 0, 24, .inl f18)), ((a 19), .inl (T 0, 24, .inl f19))] s.heap := hP
  have hl := lv_entry ([.ref h0]) (n := 5) (Nat.le_of_ble_eq_true rfl)
  rw [lg_entry_eq]
  generalize (lg_sl ([.ref h0]) ++ List.replicate (5 - (lg_sl ([.ref h0])).length) Slot.unset).toArray = ls at hl ⊢
  have hl : lv_has ls 5 [(0, .ref h0)] := hl
  clear hD0
  refine lv_iconst (v := 0) hx hb dX13_laysParts_0 (by decide +kernel) ?_
  refine lv_istore_n (lv' := [(1, .int 0), (0, .ref h0)]) hx hb dX13_laysParts_1 rfl hl (by decide +kernel) rfl (fun ls hl => ?_)
  refine loopW (σ := (Int32) × (Nat → Int32) × (Nat → Int32) × (Nat → Int32)) (fun x9 ls H locs => lv_has ls 5 [(1, .int x9.1), (0, .ref h0)] ∧ va_P D vwCl [(h0, .inr (10, (Value.int (q 0) :: Value.int (q 1) :: Value.int (q 2) :: Value.int (q 3) :: Value.int (q 4) :: Value.int (q 5) :: Value.int (q 6) :: Value.int (q 7) :: Value.ref (a 8) :: Value.ref (a 9) :: Value.ref (a 10) :: Value.ref (a 11) :: Value.ref (a 12) :: Value.ref (a 13) :: Value.int (q 14) :: Value.long v :: Value.long w :: Value.ref (a 17) :: Value.ref (a 18) :: Value.ref (a 19) :: Value.ref (a 20) :: Value.ref (a 21) :: Value.ref (a 22) :: Value.ref (a 23) :: Value.int (q 24) :: Value.ref (a 25) :: Value.int (q 26) :: Value.ref (a 27) :: Value.int (q 28) :: Value.int (q 29) :: Value.int (q 30) :: Value.int (q 31) :: Value.int (q 32) :: Value.int (q 33) :: Value.ref (a 34) :: Value.ref (a 35) :: Value.ref (a 36) :: Value.ref (a 37) :: Value.ref (a 38) :: Value.ref (a 39) :: Value.ref (a 40) :: Value.int (q 41) :: Value.ref (a 42) :: Value.int (q 43) :: Value.int (q 44) :: []))), ((a 8), .inl (T 0, 24, .inl f8)), ((a 9), .inl (T 0, 24, .inl f9)), ((a 10), .inl (T 0, 24, .inl f10)), ((a 11), .inl (T 0, 24, .inl f11)), ((a 17), .inl (T 0, 24, .inl x9.2.1)), ((a 18), .inl (T 0, 24, .inl x9.2.2.1)), ((a 19), .inl (T 0, 24, .inl x9.2.2.2))] H ∧ va_D A [(h0, .inr (10, (Value.int (q 0) :: Value.int (q 1) :: Value.int (q 2) :: Value.int (q 3) :: Value.int (q 4) :: Value.int (q 5) :: Value.int (q 6) :: Value.int (q 7) :: Value.ref (a 8) :: Value.ref (a 9) :: Value.ref (a 10) :: Value.ref (a 11) :: Value.ref (a 12) :: Value.ref (a 13) :: Value.int (q 14) :: Value.long v :: Value.long w :: Value.ref (a 17) :: Value.ref (a 18) :: Value.ref (a 19) :: Value.ref (a 20) :: Value.ref (a 21) :: Value.ref (a 22) :: Value.ref (a 23) :: Value.int (q 24) :: Value.ref (a 25) :: Value.int (q 26) :: Value.ref (a 27) :: Value.int (q 28) :: Value.int (q 29) :: Value.int (q 30) :: Value.int (q 31) :: Value.int (q 32) :: Value.int (q 33) :: Value.ref (a 34) :: Value.ref (a 35) :: Value.ref (a 36) :: Value.ref (a 37) :: Value.ref (a 38) :: Value.ref (a 39) :: Value.ref (a 40) :: Value.int (q 41) :: Value.ref (a 42) :: Value.int (q 43) :: Value.int (q 44) :: []))), ((a 8), .inl (T 0, 24, .inl f8)), ((a 9), .inl (T 0, 24, .inl f9)), ((a 10), .inl (T 0, 24, .inl f10)), ((a 11), .inl (T 0, 24, .inl f11)), ((a 17), .inl (T 0, 24, .inl x9.2.1)), ((a 18), .inl (T 0, 24, .inl x9.2.2.1)), ((a 19), .inl (T 0, 24, .inl x9.2.2.2))] ∧ va_S A s.heap H locs ∧ ((0 ≤ x9.1.toInt ∧ x9.1.toInt ≤ 24) ∧ okE f8 f10 x9.2.1 x9.1.toInt ∧ ∀ j : Nat, (j : Int) < x9.1.toInt → mesP f8 f9 f10 f11 x9.2.1 x9.2.2.1 x9.2.2.2 j)) (fun x9 => (24 - x9.1.toInt).toNat) (fun x9 ls H locs hI ih => ?_) (0, f17, f18, f19) ls ⟨lv_sub hl [0, 1] rfl, hP.sub [0, 1, 2, 3, 4, 5, 6, 7] rfl, hD.sub [0, 1, 2, 3, 4, 5, 6, 7] (by decide +kernel) rfl, hS, ⟨(by (try dsimp only); decide), (fun j hj => absurd hj (by (try dsimp only); rw [ti_0]; omega)), (fun j hj => absurd hj (by (try dsimp only); rw [ti_0]; omega))⟩⟩
  obtain ⟨xx, e9, p9, d9⟩ := x9
  obtain ⟨hl, hP, hD, hS, hinv⟩ := hI
  have hl : lv_has ls 5 [(1, .int xx), (0, .ref h0)] := hl
  have hP : va_P D vwCl [(h0, .inr (10, (Value.int (q 0) :: Value.int (q 1) :: Value.int (q 2) :: Value.int (q 3) :: Value.int (q 4) :: Value.int (q 5) :: Value.int (q 6) :: Value.int (q 7) :: Value.ref (a 8) :: Value.ref (a 9) :: Value.ref (a 10) :: Value.ref (a 11) :: Value.ref (a 12) :: Value.ref (a 13) :: Value.int (q 14) :: Value.long v :: Value.long w :: Value.ref (a 17) :: Value.ref (a 18) :: Value.ref (a 19) :: Value.ref (a 20) :: Value.ref (a 21) :: Value.ref (a 22) :: Value.ref (a 23) :: Value.int (q 24) :: Value.ref (a 25) :: Value.int (q 26) :: Value.ref (a 27) :: Value.int (q 28) :: Value.int (q 29) :: Value.int (q 30) :: Value.int (q 31) :: Value.int (q 32) :: Value.int (q 33) :: Value.ref (a 34) :: Value.ref (a 35) :: Value.ref (a 36) :: Value.ref (a 37) :: Value.ref (a 38) :: Value.ref (a 39) :: Value.ref (a 40) :: Value.int (q 41) :: Value.ref (a 42) :: Value.int (q 43) :: Value.int (q 44) :: []))), ((a 8), .inl (T 0, 24, .inl f8)), ((a 9), .inl (T 0, 24, .inl f9)), ((a 10), .inl (T 0, 24, .inl f10)), ((a 11), .inl (T 0, 24, .inl f11)), ((a 17), .inl (T 0, 24, .inl e9)), ((a 18), .inl (T 0, 24, .inl p9)), ((a 19), .inl (T 0, 24, .inl d9))] H := hP
  have hD : va_D A [(h0, .inr (10, (Value.int (q 0) :: Value.int (q 1) :: Value.int (q 2) :: Value.int (q 3) :: Value.int (q 4) :: Value.int (q 5) :: Value.int (q 6) :: Value.int (q 7) :: Value.ref (a 8) :: Value.ref (a 9) :: Value.ref (a 10) :: Value.ref (a 11) :: Value.ref (a 12) :: Value.ref (a 13) :: Value.int (q 14) :: Value.long v :: Value.long w :: Value.ref (a 17) :: Value.ref (a 18) :: Value.ref (a 19) :: Value.ref (a 20) :: Value.ref (a 21) :: Value.ref (a 22) :: Value.ref (a 23) :: Value.int (q 24) :: Value.ref (a 25) :: Value.int (q 26) :: Value.ref (a 27) :: Value.int (q 28) :: Value.int (q 29) :: Value.int (q 30) :: Value.int (q 31) :: Value.int (q 32) :: Value.int (q 33) :: Value.ref (a 34) :: Value.ref (a 35) :: Value.ref (a 36) :: Value.ref (a 37) :: Value.ref (a 38) :: Value.ref (a 39) :: Value.ref (a 40) :: Value.int (q 41) :: Value.ref (a 42) :: Value.int (q 43) :: Value.int (q 44) :: []))), ((a 8), .inl (T 0, 24, .inl f8)), ((a 9), .inl (T 0, 24, .inl f9)), ((a 10), .inl (T 0, 24, .inl f10)), ((a 11), .inl (T 0, 24, .inl f11)), ((a 17), .inl (T 0, 24, .inl e9)), ((a 18), .inl (T 0, 24, .inl p9)), ((a 19), .inl (T 0, 24, .inl d9))] := hD
  have hinv : (0 ≤ xx.toInt ∧ xx.toInt ≤ 24) ∧ okE f8 f10 e9 xx.toInt ∧ ∀ j : Nat, (j : Int) < xx.toInt → mesP f8 f9 f10 f11 e9 p9 d9 j := hinv
  obtain ⟨hxx, hEE, hME⟩ := hinv
  refine lv_iload_n hx hb dX13_laysParts_2 rfl (lv_at hl 0 rfl) ?_
  refine lv_aload_n hx hb dX13_laysParts_3 rfl (lv_at hl 1 rfl) ?_
  refine va_get (D := D) (ci := 10) (v := .int (q 7)) (C := RX13) (T := TX13) (N := 45) hx hb hts in_X13_laysParts_X13 hown hE.1 hP 0 rfl rfl 7 (by decide +kernel) (hts (.fieldLink RX13 205 "ClauseBookModel" "many" "I") (List.mem_of_getElem? (i := 1) rfl)) (fun _ h9 => h9) rfl dX13_laysParts_4 ?_
  refine lv_icmp_ge (tgt := 212) hx hb dX13_laysParts_7 (by decide +kernel) (fun c_1 => ?_) (fun c_1 => ?_)
  · rw [fa_le] at c_1
    exact W.vret hx hb hr (fun t ht hW => ⟨⟨(e9, p9, d9), rfl, ⟨(show okE f8 f10 e9 (q 7).toInt from (fun j hj => hEE j (by omega))), (show ∀ j : Nat, (j : Int) < (q 7).toInt → mesP f8 f9 f10 f11 e9 p9 d9 j from (fun j hj => hME j (by omega)))⟩, by rw [ht]; exact hP.sub [0, 1, 2, 3, 4, 5, 6, 7] rfl, hD.sub [0, 1, 2, 3, 4, 5, 6, 7] (by decide +kernel) rfl⟩, hS.F ht⟩) hS.2.2 dX13_laysParts_212
  · rw [fa_le] at c_1
    refine lv_aload_n hx hb dX13_laysParts_10 rfl (lv_at hl 1 rfl) ?_
    refine va_get (D := D) (ci := 10) (v := .ref (a 8)) (C := RX13) (T := TX13) (N := 45) hx hb hts in_X13_laysParts_X13 hown hE.1 hP 0 rfl rfl 8 (by decide +kernel) (hts (.fieldLink RX13 28 "ClauseBookModel" "kind" "[I") (List.mem_of_getElem? (i := 2) rfl)) (fun _ h9 => h9) rfl dX13_laysParts_11 ?_
    refine lv_iload_n hx hb dX13_laysParts_14 rfl (lv_at hl 0 rfl) ?_
    refine va_iald hx hb hE.1 hP 1 0 rfl rfl (by rw [vp_in_iff]; first | omega | (subst_vars; omega)) dX13_laysParts_15 ?_
    refine lv_topi (fun z_2 ez_2 => ?_)
    have hkz_2 : 0 ≤ z_2.toInt ∧ z_2.toInt ≤ 12 := by rw [ez_2]; exact (hokR _ (in24 (x := xx) (by omega)).1).1
    have hcz_2 : 1 ≤ (nmT (z_2.toNatClampNeg)).toInt → 0 ≤ (f10 (xx.toNatClampNeg)).toInt ∧ (f10 (xx.toNatClampNeg)).toInt < xx.toInt := by
      rw [ez_2]
      intro h1
      have h := (hokR _ (in24 (x := xx) (by omega)).1).2.1 h1
      have h2 := (in24 (x := xx) (by omega)).2
      omega
    have hdz_2 : (nmT (z_2.toNatClampNeg)).toInt = 2 → 0 ≤ (f11 (xx.toNatClampNeg)).toInt ∧ (f11 (xx.toNatClampNeg)).toInt < xx.toInt := by
      rw [ez_2]
      intro h1
      have h := (hokR _ (in24 (x := xx) (by omega)).1).2.2 h1
      have h2 := (in24 (x := xx) (by omega)).2
      omega
    have hlz_2 := nm_late (z := z_2)
    have htz_2 : z_2.toInt = (f8 (xx.toNatClampNeg)).toInt := by rw [ez_2]
    refine vp_callSi (W.runS (As := [.int z_2]) (rest := []) ⟨hx, hb, hml, hown, hts⟩ (c_X13_names l D T z_2 (by omega)) (va_cwS 1 hts gX13_laysParts_X13_names rfl rfl rfl hs_X13_names ⟨Nat.le_of_ble_eq_true rfl, Nat.le_of_ble_eq_true rfl⟩) (pR_S hP hE [] rfl) rfl rfl hl.1 rfl (lv_room (Nat.le_of_ble_eq_true rfl)) dX13_laysParts_16 ⟨Nat.le_of_ble_eq_true rfl, Nat.le_of_ble_eq_true rfl⟩) (fun r_3 hr_3 => ?_)
    rcases in3 (x := r_3) (by omega) with rfl | rfl | rfl
    · have h9t := ti_0
      refine lv_istore_n (lv' := [(2, .int 0), (1, .int xx), (0, .ref h0)]) hx hb dX13_laysParts_19 rfl hl (by decide +kernel) rfl (fun ls hl => ?_)
      refine lv_aload_n hx hb dX13_laysParts_20 rfl (lv_at hl 2 rfl) ?_
      refine va_get (D := D) (ci := 10) (v := .ref (a 10)) (C := RX13) (T := TX13) (N := 45) hx hb hts in_X13_laysParts_X13 hown hE.1 hP 0 rfl rfl 10 (by decide +kernel) (hts (.fieldLink RX13 35 "ClauseBookModel" "one" "[I") (List.mem_of_getElem? (i := 3) rfl)) (fun _ h9 => h9) rfl dX13_laysParts_21 ?_
      refine lv_iload_n hx hb dX13_laysParts_24 rfl (lv_at hl 1 rfl) ?_
      refine va_iald hx hb hE.1 hP 3 0 rfl rfl (by rw [vp_in_iff]; first | omega | (subst_vars; omega)) dX13_laysParts_25 ?_
      refine lv_topi (fun z_4 ez_4 => ?_)
      have htz_4 : z_4.toInt = (f10 (xx.toNatClampNeg)).toInt := by rw [ez_4]
      refine lv_istore_n (lv' := [(3, .int z_4), (2, .int 0), (1, .int xx), (0, .ref h0)]) hx hb dX13_laysParts_26 rfl hl (by decide +kernel) rfl (fun ls hl => ?_)
      refine lv_aload_n hx hb dX13_laysParts_27 rfl (lv_at hl 3 rfl) ?_
      refine va_get (D := D) (ci := 10) (v := .ref (a 11)) (C := RX13) (T := TX13) (N := 45) hx hb hts in_X13_laysParts_X13 hown hE.1 hP 0 rfl rfl 11 (by decide +kernel) (hts (.fieldLink RX13 38 "ClauseBookModel" "two" "[I") (List.mem_of_getElem? (i := 4) rfl)) (fun _ h9 => h9) rfl dX13_laysParts_28 ?_
      refine lv_iload_n hx hb dX13_laysParts_31 rfl (lv_at hl 2 rfl) ?_
      refine va_iald hx hb hE.1 hP 4 0 rfl rfl (by rw [vp_in_iff]; first | omega | (subst_vars; omega)) dX13_laysParts_32 ?_
      refine lv_topi (fun z_5 ez_5 => ?_)
      have htz_5 : z_5.toInt = (f11 (xx.toNatClampNeg)).toInt := by rw [ez_5]
      refine lv_istore (lv' := [(4, .int z_5), (3, .int z_4), (2, .int 0), (1, .int xx), (0, .ref h0)]) hx hb dX13_laysParts_33 hl (by decide +kernel) rfl (fun ls hl => ?_)
      refine lv_aload_n hx hb dX13_laysParts_35 rfl (lv_at hl 4 rfl) ?_
      refine va_get (D := D) (ci := 10) (v := .ref (a 17)) (C := RX13) (T := TX13) (N := 45) hx hb hts in_X13_laysParts_X13 hown hE.1 hP 0 rfl rfl 17 (by decide +kernel) (hts (.fieldLink RX13 47 "ClauseBookModel" "end" "[I") (List.mem_of_getElem? (i := 5) rfl)) (fun _ h9 => h9) rfl dX13_laysParts_36 ?_
      refine lv_iload_n hx hb dX13_laysParts_39 rfl (lv_at hl 3 rfl) ?_
      refine lv_iload_n hx hb dX13_laysParts_40 rfl (lv_at hl 2 rfl) ?_
      refine lv_if_ne (tgt := 49) hx hb dX13_laysParts_41 (by decide +kernel) (fun c9 => absurd c9 (by decide +kernel)) (fun _ => ?_)
      refine lv_bipush (v := 6) hx hb dX13_laysParts_44 (by decide +kernel) ?_
      refine lv_goto (tgt := 79) hx hb dX13_laysParts_46 (by decide +kernel) ?_
      have h69 : (6 : Int32).toInt ≤ 6 := by decide
      refine va_iast hx hb hE.1 hP hD hS 5 0 rfl rfl (by rw [vp_in_iff]; first | omega | (subst_vars; omega)) dX13_laysParts_79 (fun H locs hP hD hS => ?_)
      obtain ⟨hP, hD⟩ := wPD [(h0, .inr (10, (Value.int (q 0) :: Value.int (q 1) :: Value.int (q 2) :: Value.int (q 3) :: Value.int (q 4) :: Value.int (q 5) :: Value.int (q 6) :: Value.int (q 7) :: Value.ref (a 8) :: Value.ref (a 9) :: Value.ref (a 10) :: Value.ref (a 11) :: Value.ref (a 12) :: Value.ref (a 13) :: Value.int (q 14) :: Value.long v :: Value.long w :: Value.ref (a 17) :: Value.ref (a 18) :: Value.ref (a 19) :: Value.ref (a 20) :: Value.ref (a 21) :: Value.ref (a 22) :: Value.ref (a 23) :: Value.int (q 24) :: Value.ref (a 25) :: Value.int (q 26) :: Value.ref (a 27) :: Value.int (q 28) :: Value.int (q 29) :: Value.int (q 30) :: Value.int (q 31) :: Value.int (q 32) :: Value.int (q 33) :: Value.ref (a 34) :: Value.ref (a 35) :: Value.ref (a 36) :: Value.ref (a 37) :: Value.ref (a 38) :: Value.ref (a 39) :: Value.ref (a 40) :: Value.int (q 41) :: Value.ref (a 42) :: Value.int (q 43) :: Value.int (q 44) :: []))), ((a 8), .inl (T 0, 24, .inl f8)), ((a 9), .inl (T 0, 24, .inl f9)), ((a 10), .inl (T 0, 24, .inl f10)), ((a 11), .inl (T 0, 24, .inl f11)), ((a 17), .inl (T 0, 24, .inl (upd e9 (xx.toNatClampNeg) 6))), ((a 18), .inl (T 0, 24, .inl p9)), ((a 19), .inl (T 0, 24, .inl d9))] hP hD rfl
      refine lv_aload_n hx hb dX13_laysParts_80 rfl (lv_at hl 4 rfl) ?_
      refine va_get (D := D) (ci := 10) (v := .ref (a 17)) (C := RX13) (T := TX13) (N := 45) hx hb hts in_X13_laysParts_X13 hown hE.1 hP 0 rfl rfl 17 (by decide +kernel) (hts (.fieldLink RX13 47 "ClauseBookModel" "end" "[I") (List.mem_of_getElem? (i := 5) rfl)) (fun _ h9 => h9) rfl dX13_laysParts_81 ?_
      refine lv_iload_n hx hb dX13_laysParts_84 rfl (lv_at hl 3 rfl) ?_
      refine lv_aload_n hx hb dX13_laysParts_85 rfl (lv_at hl 4 rfl) ?_
      refine va_get (D := D) (ci := 10) (v := .ref (a 8)) (C := RX13) (T := TX13) (N := 45) hx hb hts in_X13_laysParts_X13 hown hE.1 hP 0 rfl rfl 8 (by decide +kernel) (hts (.fieldLink RX13 28 "ClauseBookModel" "kind" "[I") (List.mem_of_getElem? (i := 2) rfl)) (fun _ h9 => h9) rfl dX13_laysParts_86 ?_
      refine lv_iload_n hx hb dX13_laysParts_89 rfl (lv_at hl 3 rfl) ?_
      refine va_iald hx hb hE.1 hP 1 0 rfl rfl (by rw [vp_in_iff]; first | omega | (subst_vars; omega)) dX13_laysParts_90 ?_
      refine lv_topi (fun z_6 ez_6 => ?_)
      have htz_6 : z_6.toInt = (f8 (xx.toNatClampNeg)).toInt := by rw [ez_6]
      refine lv_bipush (v := 8) hx hb dX13_laysParts_91 (by decide +kernel) ?_
      refine lv_icmp_ne (tgt := 114) hx hb dX13_laysParts_93 (by decide +kernel) (fun c_7 => ?_) (fun c_7 => ?_)
      · rw [fa_eq] at c_7
        try rw [ti_8] at c_7
        refine lv_aload_n hx hb dX13_laysParts_114 rfl (lv_at hl 4 rfl) ?_
        refine va_get (D := D) (ci := 10) (v := .ref (a 17)) (C := RX13) (T := TX13) (N := 45) hx hb hts in_X13_laysParts_X13 hown hE.1 hP 0 rfl rfl 17 (by decide +kernel) (hts (.fieldLink RX13 47 "ClauseBookModel" "end" "[I") (List.mem_of_getElem? (i := 5) rfl)) (fun _ h9 => h9) rfl dX13_laysParts_115 ?_
        refine lv_iload_n hx hb dX13_laysParts_118 rfl (lv_at hl 3 rfl) ?_
        refine va_iald hx hb hE.1 hP 5 0 rfl rfl (by rw [vp_in_iff]; first | omega | (subst_vars; omega)) dX13_laysParts_119 ?_
        refine lv_topi (fun z_8 ez_8 => ?_)
        have hxz_8 : z_8.toInt = (6 : Int32).toInt := by rw [ez_8, upd_at]
        refine va_iast hx hb hE.1 hP hD hS 5 0 rfl rfl (by rw [vp_in_iff]; first | omega | (subst_vars; omega)) dX13_laysParts_120 (fun H locs hP hD hS => ?_)
        obtain ⟨hP, hD⟩ := wPD [(h0, .inr (10, (Value.int (q 0) :: Value.int (q 1) :: Value.int (q 2) :: Value.int (q 3) :: Value.int (q 4) :: Value.int (q 5) :: Value.int (q 6) :: Value.int (q 7) :: Value.ref (a 8) :: Value.ref (a 9) :: Value.ref (a 10) :: Value.ref (a 11) :: Value.ref (a 12) :: Value.ref (a 13) :: Value.int (q 14) :: Value.long v :: Value.long w :: Value.ref (a 17) :: Value.ref (a 18) :: Value.ref (a 19) :: Value.ref (a 20) :: Value.ref (a 21) :: Value.ref (a 22) :: Value.ref (a 23) :: Value.int (q 24) :: Value.ref (a 25) :: Value.int (q 26) :: Value.ref (a 27) :: Value.int (q 28) :: Value.int (q 29) :: Value.int (q 30) :: Value.int (q 31) :: Value.int (q 32) :: Value.int (q 33) :: Value.ref (a 34) :: Value.ref (a 35) :: Value.ref (a 36) :: Value.ref (a 37) :: Value.ref (a 38) :: Value.ref (a 39) :: Value.ref (a 40) :: Value.int (q 41) :: Value.ref (a 42) :: Value.int (q 43) :: Value.int (q 44) :: []))), ((a 8), .inl (T 0, 24, .inl f8)), ((a 9), .inl (T 0, 24, .inl f9)), ((a 10), .inl (T 0, 24, .inl f10)), ((a 11), .inl (T 0, 24, .inl f11)), ((a 17), .inl (T 0, 24, .inl (upd (upd e9 (xx.toNatClampNeg) 6) (xx.toNatClampNeg) z_8))), ((a 18), .inl (T 0, 24, .inl p9)), ((a 19), .inl (T 0, 24, .inl d9))] hP hD rfl
        refine lv_aload_n hx hb dX13_laysParts_121 rfl (lv_at hl 4 rfl) ?_
        refine va_get (D := D) (ci := 10) (v := .ref (a 18)) (C := RX13) (T := TX13) (N := 45) hx hb hts in_X13_laysParts_X13 hown hE.1 hP 0 rfl rfl 18 (by decide +kernel) (hts (.fieldLink RX13 50 "ClauseBookModel" "parts" "[I") (List.mem_of_getElem? (i := 14) rfl)) (fun _ h9 => h9) rfl dX13_laysParts_122 ?_
        refine lv_iload_n hx hb dX13_laysParts_125 rfl (lv_at hl 3 rfl) ?_
        refine lv_iconst (v := 1) hx hb dX13_laysParts_126 (by decide +kernel) ?_
        refine lv_iload_n hx hb dX13_laysParts_127 rfl (lv_at hl 2 rfl) ?_
        refine lv_if_le (tgt := 140) hx hb dX13_laysParts_128 (by decide +kernel) (fun _ => ?_) (fun c9 => absurd c9 (by decide +kernel))
        refine lv_iconst (v := 0) hx hb dX13_laysParts_140 (by decide +kernel) ?_
        refine lv_iadd hx hb dX13_laysParts_141 ?_
        refine lv_topi (fun z_9 ez_9 => ?_)
        obtain rfl : z_9 = 1 := ez_9.trans (by decide +kernel)
        refine lv_iload_n hx hb dX13_laysParts_142 rfl (lv_at hl 2 rfl) ?_
        refine lv_iconst (v := 1) hx hb dX13_laysParts_143 (by decide +kernel) ?_
        refine lv_icmp_le (tgt := 157) hx hb dX13_laysParts_144 (by decide +kernel) (fun _ => ?_) (fun c9 => absurd c9 (by decide +kernel))
        refine lv_iconst (v := 0) hx hb dX13_laysParts_157 (by decide +kernel) ?_
        refine lv_iadd hx hb dX13_laysParts_158 ?_
        refine lv_topi (fun z_10 ez_10 => ?_)
        obtain rfl : z_10 = 1 := ez_10.trans (by decide +kernel)
        refine va_iast hx hb hE.1 hP hD hS 6 0 rfl rfl (by rw [vp_in_iff]; first | omega | (subst_vars; omega)) dX13_laysParts_159 (fun H locs hP hD hS => ?_)
        obtain ⟨hP, hD⟩ := wPD [(h0, .inr (10, (Value.int (q 0) :: Value.int (q 1) :: Value.int (q 2) :: Value.int (q 3) :: Value.int (q 4) :: Value.int (q 5) :: Value.int (q 6) :: Value.int (q 7) :: Value.ref (a 8) :: Value.ref (a 9) :: Value.ref (a 10) :: Value.ref (a 11) :: Value.ref (a 12) :: Value.ref (a 13) :: Value.int (q 14) :: Value.long v :: Value.long w :: Value.ref (a 17) :: Value.ref (a 18) :: Value.ref (a 19) :: Value.ref (a 20) :: Value.ref (a 21) :: Value.ref (a 22) :: Value.ref (a 23) :: Value.int (q 24) :: Value.ref (a 25) :: Value.int (q 26) :: Value.ref (a 27) :: Value.int (q 28) :: Value.int (q 29) :: Value.int (q 30) :: Value.int (q 31) :: Value.int (q 32) :: Value.int (q 33) :: Value.ref (a 34) :: Value.ref (a 35) :: Value.ref (a 36) :: Value.ref (a 37) :: Value.ref (a 38) :: Value.ref (a 39) :: Value.ref (a 40) :: Value.int (q 41) :: Value.ref (a 42) :: Value.int (q 43) :: Value.int (q 44) :: []))), ((a 8), .inl (T 0, 24, .inl f8)), ((a 9), .inl (T 0, 24, .inl f9)), ((a 10), .inl (T 0, 24, .inl f10)), ((a 11), .inl (T 0, 24, .inl f11)), ((a 17), .inl (T 0, 24, .inl (upd (upd e9 (xx.toNatClampNeg) 6) (xx.toNatClampNeg) z_8))), ((a 18), .inl (T 0, 24, .inl (upd p9 (xx.toNatClampNeg) 1))), ((a 19), .inl (T 0, 24, .inl d9))] hP hD rfl
        refine lv_aload_n hx hb dX13_laysParts_160 rfl (lv_at hl 4 rfl) ?_
        refine va_get (D := D) (ci := 10) (v := .ref (a 19)) (C := RX13) (T := TX13) (N := 45) hx hb hts in_X13_laysParts_X13 hown hE.1 hP 0 rfl rfl 19 (by decide +kernel) (hts (.fieldLink RX13 53 "ClauseBookModel" "deep" "[I") (List.mem_of_getElem? (i := 15) rfl)) (fun _ h9 => h9) rfl dX13_laysParts_161 ?_
        refine lv_iload_n hx hb dX13_laysParts_164 rfl (lv_at hl 3 rfl) ?_
        refine lv_iconst (v := 1) hx hb dX13_laysParts_165 (by decide +kernel) ?_
        refine lv_iload_n hx hb dX13_laysParts_166 rfl (lv_at hl 2 rfl) ?_
        refine lv_if_ne (tgt := 174) hx hb dX13_laysParts_167 (by decide +kernel) (fun c9 => absurd c9 (by decide +kernel)) (fun _ => ?_)
        refine lv_iconst (v := 0) hx hb dX13_laysParts_170 (by decide +kernel) ?_
        refine lv_goto (tgt := 204) hx hb dX13_laysParts_171 (by decide +kernel) ?_
        refine lv_iadd hx hb dX13_laysParts_204 ?_
        refine lv_topi (fun z_11 ez_11 => ?_)
        obtain rfl : z_11 = 1 := ez_11.trans (by decide +kernel)
        refine va_iast hx hb hE.1 hP hD hS 7 0 rfl rfl (by rw [vp_in_iff]; first | omega | (subst_vars; omega)) dX13_laysParts_205 (fun H locs hP hD hS => ?_)
        obtain ⟨hP, hD⟩ := wPD [(h0, .inr (10, (Value.int (q 0) :: Value.int (q 1) :: Value.int (q 2) :: Value.int (q 3) :: Value.int (q 4) :: Value.int (q 5) :: Value.int (q 6) :: Value.int (q 7) :: Value.ref (a 8) :: Value.ref (a 9) :: Value.ref (a 10) :: Value.ref (a 11) :: Value.ref (a 12) :: Value.ref (a 13) :: Value.int (q 14) :: Value.long v :: Value.long w :: Value.ref (a 17) :: Value.ref (a 18) :: Value.ref (a 19) :: Value.ref (a 20) :: Value.ref (a 21) :: Value.ref (a 22) :: Value.ref (a 23) :: Value.int (q 24) :: Value.ref (a 25) :: Value.int (q 26) :: Value.ref (a 27) :: Value.int (q 28) :: Value.int (q 29) :: Value.int (q 30) :: Value.int (q 31) :: Value.int (q 32) :: Value.int (q 33) :: Value.ref (a 34) :: Value.ref (a 35) :: Value.ref (a 36) :: Value.ref (a 37) :: Value.ref (a 38) :: Value.ref (a 39) :: Value.ref (a 40) :: Value.int (q 41) :: Value.ref (a 42) :: Value.int (q 43) :: Value.int (q 44) :: []))), ((a 8), .inl (T 0, 24, .inl f8)), ((a 9), .inl (T 0, 24, .inl f9)), ((a 10), .inl (T 0, 24, .inl f10)), ((a 11), .inl (T 0, 24, .inl f11)), ((a 17), .inl (T 0, 24, .inl (upd (upd e9 (xx.toNatClampNeg) 6) (xx.toNatClampNeg) z_8))), ((a 18), .inl (T 0, 24, .inl (upd p9 (xx.toNatClampNeg) 1))), ((a 19), .inl (T 0, 24, .inl (upd d9 (xx.toNatClampNeg) 1)))] hP hD rfl
        obtain ⟨z_12, ez_12⟩ : ∃ y : Int32, y = xx + 1 := ⟨_, rfl⟩
        refine lv_iinc (v := z_12) (lv' := [(1, .int z_12), (4, .int z_5), (3, .int z_4), (2, .int 0), (0, .ref h0)]) hx hb dX13_laysParts_206 hl (k := 3) rfl (by rw [ez_12]; rfl) (by decide +kernel) rfl (fun ls hl => ?_)
        have hz_129 : z_12.toInt = xx.toInt + 1 := by rw [ez_12]; exact inc1 (n := 1000) (by omega) (by decide +kernel)
        refine lv_goto (tgt := 2) hx hb dX13_laysParts_209 (by decide +kernel) ?_
        exact ih (z_12, (upd (upd e9 (xx.toNatClampNeg) 6) (xx.toNatClampNeg) z_8), (upd p9 (xx.toNatClampNeg) 1), (upd d9 (xx.toNatClampNeg) 1)) ls _ _ ⟨lv_sub hl [0, 4] rfl, hP.sub [0, 1, 2, 3, 4, 5, 6, 7] rfl, hD.sub [0, 1, 2, 3, 4, 5, 6, 7] (by decide +kernel) rfl, hS, ⟨(by (try dsimp only); rw [hz_129]; omega), (by (try dsimp only); rw [upd_upd]; exact okE_step (n := 0) hEE (by omega) hz_129 (by omega) (fun hk9 => by exfalso; have h9 := hlz_2 (by omega); omega) (okR.late hokR)), (by (try dsimp only); rw [upd_upd]; exact mes_lp (okR.Nm hokR) (by omega) hz_129 hME (mesE_rn (by have t9 := tn (x := f8 (xx.toNatClampNeg)) (by omega); omega) (endB_0 (by rw [← ez_2]; omega)) hxz_8) (mesM_0 (by rw [← ez_2]; omega)) (mesD_0 (by rw [← ez_2]; omega)))⟩⟩ (by (try dsimp only); rw [hz_129]; omega)
      · rw [fa_eq] at c_7
        try rw [ti_8] at c_7
        refine lv_aload_n hx hb dX13_laysParts_96 rfl (lv_at hl 4 rfl) ?_
        refine va_get (D := D) (ci := 10) (v := .ref (a 9)) (C := RX13) (T := TX13) (N := 45) hx hb hts in_X13_laysParts_X13 hown hE.1 hP 0 rfl rfl 9 (by decide +kernel) (hts (.fieldLink RX13 32 "ClauseBookModel" "number" "[I") (List.mem_of_getElem? (i := 10) rfl)) (fun _ h9 => h9) rfl dX13_laysParts_97 ?_
        refine lv_iload_n hx hb dX13_laysParts_100 rfl (lv_at hl 3 rfl) ?_
        refine va_iald hx hb hE.1 hP 2 0 rfl rfl (by rw [vp_in_iff]; first | omega | (subst_vars; omega)) dX13_laysParts_101 ?_
        refine lv_topi (fun z_13 ez_13 => ?_)
        refine lv_aload_n hx hb dX13_laysParts_102 rfl (lv_at hl 4 rfl) ?_
        refine va_get (D := D) (ci := 10) (v := .ref (a 17)) (C := RX13) (T := TX13) (N := 45) hx hb hts in_X13_laysParts_X13 hown hE.1 hP 0 rfl rfl 17 (by decide +kernel) (hts (.fieldLink RX13 47 "ClauseBookModel" "end" "[I") (List.mem_of_getElem? (i := 5) rfl)) (fun _ h9 => h9) rfl dX13_laysParts_103 ?_
        refine lv_iload_n hx hb dX13_laysParts_106 rfl (lv_at hl 3 rfl) ?_
        refine va_iald hx hb hE.1 hP 5 0 rfl rfl (by rw [vp_in_iff]; first | omega | (subst_vars; omega)) dX13_laysParts_107 ?_
        refine lv_topi (fun z_14 ez_14 => ?_)
        have hxz_14 : z_14.toInt = (6 : Int32).toInt := by rw [ez_14, upd_at]
        refine va_mmin hx hb (hml.trans hl.1.symm) hown (hts (.methodLink RX13 230 Lib.Math.min.name) (List.mem_of_getElem? (i := 11) rfl)) (hts (.static Lib.Math.min.name) (List.mem_of_getElem? (i := 12) rfl)) (hts (.initialized "java/lang/Math") (List.mem_of_getElem? (i := 8) rfl)) (hts (.code Lib.Math.min.name Lib.Math.min.code 2 (some .int)) (List.mem_of_getElem? (i := 13) rfl)) (Nat.le_of_ble_eq_true rfl) (Nat.le_of_ble_eq_true rfl) (Nat.le_of_ble_eq_true rfl) (Nat.le_of_ble_eq_true rfl) dX13_laysParts_108 ?_
        refine lv_topi (fun z_15 ez_15 => ?_)
        have hxz_15 : z_15.toInt ≤ 6 := by
          rw [ez_15]
          split
          · rename_i h
            omega
          · rename_i h
            rw [fa_lt] at h
            omega
        refine lv_goto (tgt := 120) hx hb dX13_laysParts_111 (by decide +kernel) ?_
        refine va_iast hx hb hE.1 hP hD hS 5 0 rfl rfl (by rw [vp_in_iff]; first | omega | (subst_vars; omega)) dX13_laysParts_120 (fun H locs hP hD hS => ?_)
        obtain ⟨hP, hD⟩ := wPD [(h0, .inr (10, (Value.int (q 0) :: Value.int (q 1) :: Value.int (q 2) :: Value.int (q 3) :: Value.int (q 4) :: Value.int (q 5) :: Value.int (q 6) :: Value.int (q 7) :: Value.ref (a 8) :: Value.ref (a 9) :: Value.ref (a 10) :: Value.ref (a 11) :: Value.ref (a 12) :: Value.ref (a 13) :: Value.int (q 14) :: Value.long v :: Value.long w :: Value.ref (a 17) :: Value.ref (a 18) :: Value.ref (a 19) :: Value.ref (a 20) :: Value.ref (a 21) :: Value.ref (a 22) :: Value.ref (a 23) :: Value.int (q 24) :: Value.ref (a 25) :: Value.int (q 26) :: Value.ref (a 27) :: Value.int (q 28) :: Value.int (q 29) :: Value.int (q 30) :: Value.int (q 31) :: Value.int (q 32) :: Value.int (q 33) :: Value.ref (a 34) :: Value.ref (a 35) :: Value.ref (a 36) :: Value.ref (a 37) :: Value.ref (a 38) :: Value.ref (a 39) :: Value.ref (a 40) :: Value.int (q 41) :: Value.ref (a 42) :: Value.int (q 43) :: Value.int (q 44) :: []))), ((a 8), .inl (T 0, 24, .inl f8)), ((a 9), .inl (T 0, 24, .inl f9)), ((a 10), .inl (T 0, 24, .inl f10)), ((a 11), .inl (T 0, 24, .inl f11)), ((a 17), .inl (T 0, 24, .inl (upd (upd e9 (xx.toNatClampNeg) 6) (xx.toNatClampNeg) z_15))), ((a 18), .inl (T 0, 24, .inl p9)), ((a 19), .inl (T 0, 24, .inl d9))] hP hD rfl
        refine lv_aload_n hx hb dX13_laysParts_121 rfl (lv_at hl 4 rfl) ?_
        refine va_get (D := D) (ci := 10) (v := .ref (a 18)) (C := RX13) (T := TX13) (N := 45) hx hb hts in_X13_laysParts_X13 hown hE.1 hP 0 rfl rfl 18 (by decide +kernel) (hts (.fieldLink RX13 50 "ClauseBookModel" "parts" "[I") (List.mem_of_getElem? (i := 14) rfl)) (fun _ h9 => h9) rfl dX13_laysParts_122 ?_
        refine lv_iload_n hx hb dX13_laysParts_125 rfl (lv_at hl 3 rfl) ?_
        refine lv_iconst (v := 1) hx hb dX13_laysParts_126 (by decide +kernel) ?_
        refine lv_iload_n hx hb dX13_laysParts_127 rfl (lv_at hl 2 rfl) ?_
        refine lv_if_le (tgt := 140) hx hb dX13_laysParts_128 (by decide +kernel) (fun _ => ?_) (fun c9 => absurd c9 (by decide +kernel))
        refine lv_iconst (v := 0) hx hb dX13_laysParts_140 (by decide +kernel) ?_
        refine lv_iadd hx hb dX13_laysParts_141 ?_
        refine lv_topi (fun z_16 ez_16 => ?_)
        obtain rfl : z_16 = 1 := ez_16.trans (by decide +kernel)
        refine lv_iload_n hx hb dX13_laysParts_142 rfl (lv_at hl 2 rfl) ?_
        refine lv_iconst (v := 1) hx hb dX13_laysParts_143 (by decide +kernel) ?_
        refine lv_icmp_le (tgt := 157) hx hb dX13_laysParts_144 (by decide +kernel) (fun _ => ?_) (fun c9 => absurd c9 (by decide +kernel))
        refine lv_iconst (v := 0) hx hb dX13_laysParts_157 (by decide +kernel) ?_
        refine lv_iadd hx hb dX13_laysParts_158 ?_
        refine lv_topi (fun z_17 ez_17 => ?_)
        obtain rfl : z_17 = 1 := ez_17.trans (by decide +kernel)
        refine va_iast hx hb hE.1 hP hD hS 6 0 rfl rfl (by rw [vp_in_iff]; first | omega | (subst_vars; omega)) dX13_laysParts_159 (fun H locs hP hD hS => ?_)
        obtain ⟨hP, hD⟩ := wPD [(h0, .inr (10, (Value.int (q 0) :: Value.int (q 1) :: Value.int (q 2) :: Value.int (q 3) :: Value.int (q 4) :: Value.int (q 5) :: Value.int (q 6) :: Value.int (q 7) :: Value.ref (a 8) :: Value.ref (a 9) :: Value.ref (a 10) :: Value.ref (a 11) :: Value.ref (a 12) :: Value.ref (a 13) :: Value.int (q 14) :: Value.long v :: Value.long w :: Value.ref (a 17) :: Value.ref (a 18) :: Value.ref (a 19) :: Value.ref (a 20) :: Value.ref (a 21) :: Value.ref (a 22) :: Value.ref (a 23) :: Value.int (q 24) :: Value.ref (a 25) :: Value.int (q 26) :: Value.ref (a 27) :: Value.int (q 28) :: Value.int (q 29) :: Value.int (q 30) :: Value.int (q 31) :: Value.int (q 32) :: Value.int (q 33) :: Value.ref (a 34) :: Value.ref (a 35) :: Value.ref (a 36) :: Value.ref (a 37) :: Value.ref (a 38) :: Value.ref (a 39) :: Value.ref (a 40) :: Value.int (q 41) :: Value.ref (a 42) :: Value.int (q 43) :: Value.int (q 44) :: []))), ((a 8), .inl (T 0, 24, .inl f8)), ((a 9), .inl (T 0, 24, .inl f9)), ((a 10), .inl (T 0, 24, .inl f10)), ((a 11), .inl (T 0, 24, .inl f11)), ((a 17), .inl (T 0, 24, .inl (upd (upd e9 (xx.toNatClampNeg) 6) (xx.toNatClampNeg) z_15))), ((a 18), .inl (T 0, 24, .inl (upd p9 (xx.toNatClampNeg) 1))), ((a 19), .inl (T 0, 24, .inl d9))] hP hD rfl
        refine lv_aload_n hx hb dX13_laysParts_160 rfl (lv_at hl 4 rfl) ?_
        refine va_get (D := D) (ci := 10) (v := .ref (a 19)) (C := RX13) (T := TX13) (N := 45) hx hb hts in_X13_laysParts_X13 hown hE.1 hP 0 rfl rfl 19 (by decide +kernel) (hts (.fieldLink RX13 53 "ClauseBookModel" "deep" "[I") (List.mem_of_getElem? (i := 15) rfl)) (fun _ h9 => h9) rfl dX13_laysParts_161 ?_
        refine lv_iload_n hx hb dX13_laysParts_164 rfl (lv_at hl 3 rfl) ?_
        refine lv_iconst (v := 1) hx hb dX13_laysParts_165 (by decide +kernel) ?_
        refine lv_iload_n hx hb dX13_laysParts_166 rfl (lv_at hl 2 rfl) ?_
        refine lv_if_ne (tgt := 174) hx hb dX13_laysParts_167 (by decide +kernel) (fun c9 => absurd c9 (by decide +kernel)) (fun _ => ?_)
        refine lv_iconst (v := 0) hx hb dX13_laysParts_170 (by decide +kernel) ?_
        refine lv_goto (tgt := 204) hx hb dX13_laysParts_171 (by decide +kernel) ?_
        refine lv_iadd hx hb dX13_laysParts_204 ?_
        refine lv_topi (fun z_18 ez_18 => ?_)
        obtain rfl : z_18 = 1 := ez_18.trans (by decide +kernel)
        refine va_iast hx hb hE.1 hP hD hS 7 0 rfl rfl (by rw [vp_in_iff]; first | omega | (subst_vars; omega)) dX13_laysParts_205 (fun H locs hP hD hS => ?_)
        obtain ⟨hP, hD⟩ := wPD [(h0, .inr (10, (Value.int (q 0) :: Value.int (q 1) :: Value.int (q 2) :: Value.int (q 3) :: Value.int (q 4) :: Value.int (q 5) :: Value.int (q 6) :: Value.int (q 7) :: Value.ref (a 8) :: Value.ref (a 9) :: Value.ref (a 10) :: Value.ref (a 11) :: Value.ref (a 12) :: Value.ref (a 13) :: Value.int (q 14) :: Value.long v :: Value.long w :: Value.ref (a 17) :: Value.ref (a 18) :: Value.ref (a 19) :: Value.ref (a 20) :: Value.ref (a 21) :: Value.ref (a 22) :: Value.ref (a 23) :: Value.int (q 24) :: Value.ref (a 25) :: Value.int (q 26) :: Value.ref (a 27) :: Value.int (q 28) :: Value.int (q 29) :: Value.int (q 30) :: Value.int (q 31) :: Value.int (q 32) :: Value.int (q 33) :: Value.ref (a 34) :: Value.ref (a 35) :: Value.ref (a 36) :: Value.ref (a 37) :: Value.ref (a 38) :: Value.ref (a 39) :: Value.ref (a 40) :: Value.int (q 41) :: Value.ref (a 42) :: Value.int (q 43) :: Value.int (q 44) :: []))), ((a 8), .inl (T 0, 24, .inl f8)), ((a 9), .inl (T 0, 24, .inl f9)), ((a 10), .inl (T 0, 24, .inl f10)), ((a 11), .inl (T 0, 24, .inl f11)), ((a 17), .inl (T 0, 24, .inl (upd (upd e9 (xx.toNatClampNeg) 6) (xx.toNatClampNeg) z_15))), ((a 18), .inl (T 0, 24, .inl (upd p9 (xx.toNatClampNeg) 1))), ((a 19), .inl (T 0, 24, .inl (upd d9 (xx.toNatClampNeg) 1)))] hP hD rfl
        obtain ⟨z_19, ez_19⟩ : ∃ y : Int32, y = xx + 1 := ⟨_, rfl⟩
        refine lv_iinc (v := z_19) (lv' := [(1, .int z_19), (4, .int z_5), (3, .int z_4), (2, .int 0), (0, .ref h0)]) hx hb dX13_laysParts_206 hl (k := 3) rfl (by rw [ez_19]; rfl) (by decide +kernel) rfl (fun ls hl => ?_)
        have hz_199 : z_19.toInt = xx.toInt + 1 := by rw [ez_19]; exact inc1 (n := 1000) (by omega) (by decide +kernel)
        refine lv_goto (tgt := 2) hx hb dX13_laysParts_209 (by decide +kernel) ?_
        exact ih (z_19, (upd (upd e9 (xx.toNatClampNeg) 6) (xx.toNatClampNeg) z_15), (upd p9 (xx.toNatClampNeg) 1), (upd d9 (xx.toNatClampNeg) 1)) ls _ _ ⟨lv_sub hl [0, 4] rfl, hP.sub [0, 1, 2, 3, 4, 5, 6, 7] rfl, hD.sub [0, 1, 2, 3, 4, 5, 6, 7] (by decide +kernel) rfl, hS, ⟨(by (try dsimp only); rw [hz_199]; omega), (by (try dsimp only); rw [upd_upd]; exact okE_step (n := 0) hEE (by omega) hz_199 (by omega) (fun hk9 => by exfalso; omega) (okR.late hokR)), (by (try dsimp only); rw [upd_upd]; exact mes_lp (okR.Nm hokR) (by omega) hz_199 hME (mesE_r8 (by have t9 := tn (x := f8 (xx.toNatClampNeg)) (by omega); omega) (endB_0 (by rw [← ez_2]; omega)) hxz_14 ez_15 ez_13) (mesM_0 (by rw [← ez_2]; omega)) (mesD_0 (by rw [← ez_2]; omega)))⟩⟩ (by (try dsimp only); rw [hz_199]; omega)
    · have h9t := ti_1
      refine lv_istore_n (lv' := [(2, .int 1), (1, .int xx), (0, .ref h0)]) hx hb dX13_laysParts_19 rfl hl (by decide +kernel) rfl (fun ls hl => ?_)
      refine lv_aload_n hx hb dX13_laysParts_20 rfl (lv_at hl 2 rfl) ?_
      refine va_get (D := D) (ci := 10) (v := .ref (a 10)) (C := RX13) (T := TX13) (N := 45) hx hb hts in_X13_laysParts_X13 hown hE.1 hP 0 rfl rfl 10 (by decide +kernel) (hts (.fieldLink RX13 35 "ClauseBookModel" "one" "[I") (List.mem_of_getElem? (i := 3) rfl)) (fun _ h9 => h9) rfl dX13_laysParts_21 ?_
      refine lv_iload_n hx hb dX13_laysParts_24 rfl (lv_at hl 1 rfl) ?_
      refine va_iald hx hb hE.1 hP 3 0 rfl rfl (by rw [vp_in_iff]; first | omega | (subst_vars; omega)) dX13_laysParts_25 ?_
      refine lv_topi (fun z_20 ez_20 => ?_)
      have htz_20 : z_20.toInt = (f10 (xx.toNatClampNeg)).toInt := by rw [ez_20]
      refine lv_istore_n (lv' := [(3, .int z_20), (2, .int 1), (1, .int xx), (0, .ref h0)]) hx hb dX13_laysParts_26 rfl hl (by decide +kernel) rfl (fun ls hl => ?_)
      refine lv_aload_n hx hb dX13_laysParts_27 rfl (lv_at hl 3 rfl) ?_
      refine va_get (D := D) (ci := 10) (v := .ref (a 11)) (C := RX13) (T := TX13) (N := 45) hx hb hts in_X13_laysParts_X13 hown hE.1 hP 0 rfl rfl 11 (by decide +kernel) (hts (.fieldLink RX13 38 "ClauseBookModel" "two" "[I") (List.mem_of_getElem? (i := 4) rfl)) (fun _ h9 => h9) rfl dX13_laysParts_28 ?_
      refine lv_iload_n hx hb dX13_laysParts_31 rfl (lv_at hl 2 rfl) ?_
      refine va_iald hx hb hE.1 hP 4 0 rfl rfl (by rw [vp_in_iff]; first | omega | (subst_vars; omega)) dX13_laysParts_32 ?_
      refine lv_topi (fun z_21 ez_21 => ?_)
      have htz_21 : z_21.toInt = (f11 (xx.toNatClampNeg)).toInt := by rw [ez_21]
      refine lv_istore (lv' := [(4, .int z_21), (3, .int z_20), (2, .int 1), (1, .int xx), (0, .ref h0)]) hx hb dX13_laysParts_33 hl (by decide +kernel) rfl (fun ls hl => ?_)
      refine lv_aload_n hx hb dX13_laysParts_35 rfl (lv_at hl 4 rfl) ?_
      refine va_get (D := D) (ci := 10) (v := .ref (a 17)) (C := RX13) (T := TX13) (N := 45) hx hb hts in_X13_laysParts_X13 hown hE.1 hP 0 rfl rfl 17 (by decide +kernel) (hts (.fieldLink RX13 47 "ClauseBookModel" "end" "[I") (List.mem_of_getElem? (i := 5) rfl)) (fun _ h9 => h9) rfl dX13_laysParts_36 ?_
      refine lv_iload_n hx hb dX13_laysParts_39 rfl (lv_at hl 3 rfl) ?_
      refine lv_iload_n hx hb dX13_laysParts_40 rfl (lv_at hl 2 rfl) ?_
      refine lv_if_ne (tgt := 49) hx hb dX13_laysParts_41 (by decide +kernel) (fun _ => ?_) (fun c9 => absurd c9 (by decide +kernel))
      refine lv_iload_n hx hb dX13_laysParts_49 rfl (lv_at hl 2 rfl) ?_
      refine lv_iconst (v := 1) hx hb dX13_laysParts_50 (by decide +kernel) ?_
      refine lv_icmp_ne (tgt := 63) hx hb dX13_laysParts_51 (by decide +kernel) (fun c9 => absurd c9 (by decide +kernel)) (fun _ => ?_)
      refine lv_aload_n hx hb dX13_laysParts_54 rfl (lv_at hl 4 rfl) ?_
      refine va_get (D := D) (ci := 10) (v := .ref (a 17)) (C := RX13) (T := TX13) (N := 45) hx hb hts in_X13_laysParts_X13 hown hE.1 hP 0 rfl rfl 17 (by decide +kernel) (hts (.fieldLink RX13 47 "ClauseBookModel" "end" "[I") (List.mem_of_getElem? (i := 5) rfl)) (fun _ h9 => h9) rfl dX13_laysParts_55 ?_
      refine lv_iload_n hx hb dX13_laysParts_58 rfl (lv_at hl 1 rfl) ?_
      refine va_iald hx hb hE.1 hP 5 0 rfl rfl (by rw [vp_in_iff]; first | omega | (subst_vars; omega)) dX13_laysParts_59 ?_
      refine lv_topi (fun z_22 ez_22 => ?_)
      have h6z_22 : z_22.toInt ≤ 6 := by
        rw [ez_22]
        have h9 := tn (x := z_20) (by omega)
        exact (hEE _ (by omega)).1
      have hvz_22 : z_22.toInt = (e9 (z_20.toNatClampNeg)).toInt := by rw [ez_22]
      refine lv_goto (tgt := 79) hx hb dX13_laysParts_60 (by decide +kernel) ?_
      refine va_iast hx hb hE.1 hP hD hS 5 0 rfl rfl (by rw [vp_in_iff]; first | omega | (subst_vars; omega)) dX13_laysParts_79 (fun H locs hP hD hS => ?_)
      obtain ⟨hP, hD⟩ := wPD [(h0, .inr (10, (Value.int (q 0) :: Value.int (q 1) :: Value.int (q 2) :: Value.int (q 3) :: Value.int (q 4) :: Value.int (q 5) :: Value.int (q 6) :: Value.int (q 7) :: Value.ref (a 8) :: Value.ref (a 9) :: Value.ref (a 10) :: Value.ref (a 11) :: Value.ref (a 12) :: Value.ref (a 13) :: Value.int (q 14) :: Value.long v :: Value.long w :: Value.ref (a 17) :: Value.ref (a 18) :: Value.ref (a 19) :: Value.ref (a 20) :: Value.ref (a 21) :: Value.ref (a 22) :: Value.ref (a 23) :: Value.int (q 24) :: Value.ref (a 25) :: Value.int (q 26) :: Value.ref (a 27) :: Value.int (q 28) :: Value.int (q 29) :: Value.int (q 30) :: Value.int (q 31) :: Value.int (q 32) :: Value.int (q 33) :: Value.ref (a 34) :: Value.ref (a 35) :: Value.ref (a 36) :: Value.ref (a 37) :: Value.ref (a 38) :: Value.ref (a 39) :: Value.ref (a 40) :: Value.int (q 41) :: Value.ref (a 42) :: Value.int (q 43) :: Value.int (q 44) :: []))), ((a 8), .inl (T 0, 24, .inl f8)), ((a 9), .inl (T 0, 24, .inl f9)), ((a 10), .inl (T 0, 24, .inl f10)), ((a 11), .inl (T 0, 24, .inl f11)), ((a 17), .inl (T 0, 24, .inl (upd e9 (xx.toNatClampNeg) z_22))), ((a 18), .inl (T 0, 24, .inl p9)), ((a 19), .inl (T 0, 24, .inl d9))] hP hD rfl
      refine lv_aload_n hx hb dX13_laysParts_80 rfl (lv_at hl 4 rfl) ?_
      refine va_get (D := D) (ci := 10) (v := .ref (a 17)) (C := RX13) (T := TX13) (N := 45) hx hb hts in_X13_laysParts_X13 hown hE.1 hP 0 rfl rfl 17 (by decide +kernel) (hts (.fieldLink RX13 47 "ClauseBookModel" "end" "[I") (List.mem_of_getElem? (i := 5) rfl)) (fun _ h9 => h9) rfl dX13_laysParts_81 ?_
      refine lv_iload_n hx hb dX13_laysParts_84 rfl (lv_at hl 3 rfl) ?_
      refine lv_aload_n hx hb dX13_laysParts_85 rfl (lv_at hl 4 rfl) ?_
      refine va_get (D := D) (ci := 10) (v := .ref (a 8)) (C := RX13) (T := TX13) (N := 45) hx hb hts in_X13_laysParts_X13 hown hE.1 hP 0 rfl rfl 8 (by decide +kernel) (hts (.fieldLink RX13 28 "ClauseBookModel" "kind" "[I") (List.mem_of_getElem? (i := 2) rfl)) (fun _ h9 => h9) rfl dX13_laysParts_86 ?_
      refine lv_iload_n hx hb dX13_laysParts_89 rfl (lv_at hl 3 rfl) ?_
      refine va_iald hx hb hE.1 hP 1 0 rfl rfl (by rw [vp_in_iff]; first | omega | (subst_vars; omega)) dX13_laysParts_90 ?_
      refine lv_topi (fun z_23 ez_23 => ?_)
      have htz_23 : z_23.toInt = (f8 (xx.toNatClampNeg)).toInt := by rw [ez_23]
      refine lv_bipush (v := 8) hx hb dX13_laysParts_91 (by decide +kernel) ?_
      refine lv_icmp_ne (tgt := 114) hx hb dX13_laysParts_93 (by decide +kernel) (fun c_24 => ?_) (fun c_24 => ?_)
      · rw [fa_eq] at c_24
        try rw [ti_8] at c_24
        refine lv_aload_n hx hb dX13_laysParts_114 rfl (lv_at hl 4 rfl) ?_
        refine va_get (D := D) (ci := 10) (v := .ref (a 17)) (C := RX13) (T := TX13) (N := 45) hx hb hts in_X13_laysParts_X13 hown hE.1 hP 0 rfl rfl 17 (by decide +kernel) (hts (.fieldLink RX13 47 "ClauseBookModel" "end" "[I") (List.mem_of_getElem? (i := 5) rfl)) (fun _ h9 => h9) rfl dX13_laysParts_115 ?_
        refine lv_iload_n hx hb dX13_laysParts_118 rfl (lv_at hl 3 rfl) ?_
        refine va_iald hx hb hE.1 hP 5 0 rfl rfl (by rw [vp_in_iff]; first | omega | (subst_vars; omega)) dX13_laysParts_119 ?_
        refine lv_topi (fun z_25 ez_25 => ?_)
        have hxz_25 : z_25.toInt = (z_22 : Int32).toInt := by rw [ez_25, upd_at]
        refine va_iast hx hb hE.1 hP hD hS 5 0 rfl rfl (by rw [vp_in_iff]; first | omega | (subst_vars; omega)) dX13_laysParts_120 (fun H locs hP hD hS => ?_)
        obtain ⟨hP, hD⟩ := wPD [(h0, .inr (10, (Value.int (q 0) :: Value.int (q 1) :: Value.int (q 2) :: Value.int (q 3) :: Value.int (q 4) :: Value.int (q 5) :: Value.int (q 6) :: Value.int (q 7) :: Value.ref (a 8) :: Value.ref (a 9) :: Value.ref (a 10) :: Value.ref (a 11) :: Value.ref (a 12) :: Value.ref (a 13) :: Value.int (q 14) :: Value.long v :: Value.long w :: Value.ref (a 17) :: Value.ref (a 18) :: Value.ref (a 19) :: Value.ref (a 20) :: Value.ref (a 21) :: Value.ref (a 22) :: Value.ref (a 23) :: Value.int (q 24) :: Value.ref (a 25) :: Value.int (q 26) :: Value.ref (a 27) :: Value.int (q 28) :: Value.int (q 29) :: Value.int (q 30) :: Value.int (q 31) :: Value.int (q 32) :: Value.int (q 33) :: Value.ref (a 34) :: Value.ref (a 35) :: Value.ref (a 36) :: Value.ref (a 37) :: Value.ref (a 38) :: Value.ref (a 39) :: Value.ref (a 40) :: Value.int (q 41) :: Value.ref (a 42) :: Value.int (q 43) :: Value.int (q 44) :: []))), ((a 8), .inl (T 0, 24, .inl f8)), ((a 9), .inl (T 0, 24, .inl f9)), ((a 10), .inl (T 0, 24, .inl f10)), ((a 11), .inl (T 0, 24, .inl f11)), ((a 17), .inl (T 0, 24, .inl (upd (upd e9 (xx.toNatClampNeg) z_22) (xx.toNatClampNeg) z_25))), ((a 18), .inl (T 0, 24, .inl p9)), ((a 19), .inl (T 0, 24, .inl d9))] hP hD rfl
        refine lv_aload_n hx hb dX13_laysParts_121 rfl (lv_at hl 4 rfl) ?_
        refine va_get (D := D) (ci := 10) (v := .ref (a 18)) (C := RX13) (T := TX13) (N := 45) hx hb hts in_X13_laysParts_X13 hown hE.1 hP 0 rfl rfl 18 (by decide +kernel) (hts (.fieldLink RX13 50 "ClauseBookModel" "parts" "[I") (List.mem_of_getElem? (i := 14) rfl)) (fun _ h9 => h9) rfl dX13_laysParts_122 ?_
        refine lv_iload_n hx hb dX13_laysParts_125 rfl (lv_at hl 3 rfl) ?_
        refine lv_iconst (v := 1) hx hb dX13_laysParts_126 (by decide +kernel) ?_
        refine lv_iload_n hx hb dX13_laysParts_127 rfl (lv_at hl 2 rfl) ?_
        refine lv_if_le (tgt := 140) hx hb dX13_laysParts_128 (by decide +kernel) (fun c9 => absurd c9 (by decide +kernel)) (fun _ => ?_)
        refine lv_aload_n hx hb dX13_laysParts_131 rfl (lv_at hl 4 rfl) ?_
        refine va_get (D := D) (ci := 10) (v := .ref (a 18)) (C := RX13) (T := TX13) (N := 45) hx hb hts in_X13_laysParts_X13 hown hE.1 hP 0 rfl rfl 18 (by decide +kernel) (hts (.fieldLink RX13 50 "ClauseBookModel" "parts" "[I") (List.mem_of_getElem? (i := 14) rfl)) (fun _ h9 => h9) rfl dX13_laysParts_132 ?_
        refine lv_iload_n hx hb dX13_laysParts_135 rfl (lv_at hl 1 rfl) ?_
        refine va_iald hx hb hE.1 hP 6 0 rfl rfl (by rw [vp_in_iff]; first | omega | (subst_vars; omega)) dX13_laysParts_136 ?_
        refine lv_topi (fun z_26 ez_26 => ?_)
        refine lv_goto (tgt := 141) hx hb dX13_laysParts_137 (by decide +kernel) ?_
        refine lv_iadd hx hb dX13_laysParts_141 ?_
        refine lv_iload_n hx hb dX13_laysParts_142 rfl (lv_at hl 2 rfl) ?_
        refine lv_iconst (v := 1) hx hb dX13_laysParts_143 (by decide +kernel) ?_
        refine lv_icmp_le (tgt := 157) hx hb dX13_laysParts_144 (by decide +kernel) (fun _ => ?_) (fun c9 => absurd c9 (by decide +kernel))
        refine lv_iconst (v := 0) hx hb dX13_laysParts_157 (by decide +kernel) ?_
        refine lv_iadd hx hb dX13_laysParts_158 ?_
        refine lv_topi (fun z_27 ez_27 => ?_)
        refine va_iast hx hb hE.1 hP hD hS 6 0 rfl rfl (by rw [vp_in_iff]; first | omega | (subst_vars; omega)) dX13_laysParts_159 (fun H locs hP hD hS => ?_)
        obtain ⟨hP, hD⟩ := wPD [(h0, .inr (10, (Value.int (q 0) :: Value.int (q 1) :: Value.int (q 2) :: Value.int (q 3) :: Value.int (q 4) :: Value.int (q 5) :: Value.int (q 6) :: Value.int (q 7) :: Value.ref (a 8) :: Value.ref (a 9) :: Value.ref (a 10) :: Value.ref (a 11) :: Value.ref (a 12) :: Value.ref (a 13) :: Value.int (q 14) :: Value.long v :: Value.long w :: Value.ref (a 17) :: Value.ref (a 18) :: Value.ref (a 19) :: Value.ref (a 20) :: Value.ref (a 21) :: Value.ref (a 22) :: Value.ref (a 23) :: Value.int (q 24) :: Value.ref (a 25) :: Value.int (q 26) :: Value.ref (a 27) :: Value.int (q 28) :: Value.int (q 29) :: Value.int (q 30) :: Value.int (q 31) :: Value.int (q 32) :: Value.int (q 33) :: Value.ref (a 34) :: Value.ref (a 35) :: Value.ref (a 36) :: Value.ref (a 37) :: Value.ref (a 38) :: Value.ref (a 39) :: Value.ref (a 40) :: Value.int (q 41) :: Value.ref (a 42) :: Value.int (q 43) :: Value.int (q 44) :: []))), ((a 8), .inl (T 0, 24, .inl f8)), ((a 9), .inl (T 0, 24, .inl f9)), ((a 10), .inl (T 0, 24, .inl f10)), ((a 11), .inl (T 0, 24, .inl f11)), ((a 17), .inl (T 0, 24, .inl (upd (upd e9 (xx.toNatClampNeg) z_22) (xx.toNatClampNeg) z_25))), ((a 18), .inl (T 0, 24, .inl (upd p9 (xx.toNatClampNeg) z_27))), ((a 19), .inl (T 0, 24, .inl d9))] hP hD rfl
        refine lv_aload_n hx hb dX13_laysParts_160 rfl (lv_at hl 4 rfl) ?_
        refine va_get (D := D) (ci := 10) (v := .ref (a 19)) (C := RX13) (T := TX13) (N := 45) hx hb hts in_X13_laysParts_X13 hown hE.1 hP 0 rfl rfl 19 (by decide +kernel) (hts (.fieldLink RX13 53 "ClauseBookModel" "deep" "[I") (List.mem_of_getElem? (i := 15) rfl)) (fun _ h9 => h9) rfl dX13_laysParts_161 ?_
        refine lv_iload_n hx hb dX13_laysParts_164 rfl (lv_at hl 3 rfl) ?_
        refine lv_iconst (v := 1) hx hb dX13_laysParts_165 (by decide +kernel) ?_
        refine lv_iload_n hx hb dX13_laysParts_166 rfl (lv_at hl 2 rfl) ?_
        refine lv_if_ne (tgt := 174) hx hb dX13_laysParts_167 (by decide +kernel) (fun _ => ?_) (fun c9 => absurd c9 (by decide +kernel))
        refine lv_iload_n hx hb dX13_laysParts_174 rfl (lv_at hl 2 rfl) ?_
        refine lv_iconst (v := 1) hx hb dX13_laysParts_175 (by decide +kernel) ?_
        refine lv_icmp_ne (tgt := 188) hx hb dX13_laysParts_176 (by decide +kernel) (fun c9 => absurd c9 (by decide +kernel)) (fun _ => ?_)
        refine lv_aload_n hx hb dX13_laysParts_179 rfl (lv_at hl 4 rfl) ?_
        refine va_get (D := D) (ci := 10) (v := .ref (a 19)) (C := RX13) (T := TX13) (N := 45) hx hb hts in_X13_laysParts_X13 hown hE.1 hP 0 rfl rfl 19 (by decide +kernel) (hts (.fieldLink RX13 53 "ClauseBookModel" "deep" "[I") (List.mem_of_getElem? (i := 15) rfl)) (fun _ h9 => h9) rfl dX13_laysParts_180 ?_
        refine lv_iload_n hx hb dX13_laysParts_183 rfl (lv_at hl 1 rfl) ?_
        refine va_iald hx hb hE.1 hP 7 0 rfl rfl (by rw [vp_in_iff]; first | omega | (subst_vars; omega)) dX13_laysParts_184 ?_
        refine lv_topi (fun z_28 ez_28 => ?_)
        refine lv_goto (tgt := 204) hx hb dX13_laysParts_185 (by decide +kernel) ?_
        refine lv_iadd hx hb dX13_laysParts_204 ?_
        refine lv_topi (fun z_29 ez_29 => ?_)
        refine va_iast hx hb hE.1 hP hD hS 7 0 rfl rfl (by rw [vp_in_iff]; first | omega | (subst_vars; omega)) dX13_laysParts_205 (fun H locs hP hD hS => ?_)
        obtain ⟨hP, hD⟩ := wPD [(h0, .inr (10, (Value.int (q 0) :: Value.int (q 1) :: Value.int (q 2) :: Value.int (q 3) :: Value.int (q 4) :: Value.int (q 5) :: Value.int (q 6) :: Value.int (q 7) :: Value.ref (a 8) :: Value.ref (a 9) :: Value.ref (a 10) :: Value.ref (a 11) :: Value.ref (a 12) :: Value.ref (a 13) :: Value.int (q 14) :: Value.long v :: Value.long w :: Value.ref (a 17) :: Value.ref (a 18) :: Value.ref (a 19) :: Value.ref (a 20) :: Value.ref (a 21) :: Value.ref (a 22) :: Value.ref (a 23) :: Value.int (q 24) :: Value.ref (a 25) :: Value.int (q 26) :: Value.ref (a 27) :: Value.int (q 28) :: Value.int (q 29) :: Value.int (q 30) :: Value.int (q 31) :: Value.int (q 32) :: Value.int (q 33) :: Value.ref (a 34) :: Value.ref (a 35) :: Value.ref (a 36) :: Value.ref (a 37) :: Value.ref (a 38) :: Value.ref (a 39) :: Value.ref (a 40) :: Value.int (q 41) :: Value.ref (a 42) :: Value.int (q 43) :: Value.int (q 44) :: []))), ((a 8), .inl (T 0, 24, .inl f8)), ((a 9), .inl (T 0, 24, .inl f9)), ((a 10), .inl (T 0, 24, .inl f10)), ((a 11), .inl (T 0, 24, .inl f11)), ((a 17), .inl (T 0, 24, .inl (upd (upd e9 (xx.toNatClampNeg) z_22) (xx.toNatClampNeg) z_25))), ((a 18), .inl (T 0, 24, .inl (upd p9 (xx.toNatClampNeg) z_27))), ((a 19), .inl (T 0, 24, .inl (upd d9 (xx.toNatClampNeg) z_29)))] hP hD rfl
        obtain ⟨z_30, ez_30⟩ : ∃ y : Int32, y = xx + 1 := ⟨_, rfl⟩
        refine lv_iinc (v := z_30) (lv' := [(1, .int z_30), (4, .int z_21), (3, .int z_20), (2, .int 1), (0, .ref h0)]) hx hb dX13_laysParts_206 hl (k := 3) rfl (by rw [ez_30]; rfl) (by decide +kernel) rfl (fun ls hl => ?_)
        have hz_309 : z_30.toInt = xx.toInt + 1 := by rw [ez_30]; exact inc1 (n := 1000) (by omega) (by decide +kernel)
        refine lv_goto (tgt := 2) hx hb dX13_laysParts_209 (by decide +kernel) ?_
        exact ih (z_30, (upd (upd e9 (xx.toNatClampNeg) z_22) (xx.toNatClampNeg) z_25), (upd p9 (xx.toNatClampNeg) z_27), (upd d9 (xx.toNatClampNeg) z_29)) ls _ _ ⟨lv_sub hl [0, 4] rfl, hP.sub [0, 1, 2, 3, 4, 5, 6, 7] rfl, hD.sub [0, 1, 2, 3, 4, 5, 6, 7] (by decide +kernel) rfl, hS, ⟨(by (try dsimp only); rw [hz_309]; omega), (by (try dsimp only); rw [upd_upd]; exact okE_step (n := 0) hEE (by omega) hz_309 (by omega) (fun hk9 => ⟨(by have h9 := hlz_2 (by omega); have h8 := hcz_2 (by omega); omega), (by have h9 : (f10 xx.toNatClampNeg) = z_20 := ez_20.symm; rw [h9]; omega)⟩) (okR.late hokR)), (by (try dsimp only); rw [upd_upd]; exact mes_lp (okR.Nm hokR) (by omega) hz_309 hME (mesE_rn (by have t9 := tn (x := f8 (xx.toNatClampNeg)) (by omega); omega) (endB_1 (by rw [← ez_2]; omega) ez_22 ez_20) hxz_25) (mesM_r1 (by rw [← ez_2]; omega) ez_27 ez_26 ez_20) (mesD_r1 (by rw [← ez_2]; omega) ez_29 ez_28 ez_20))⟩⟩ (by (try dsimp only); rw [hz_309]; omega)
      · rw [fa_eq] at c_24
        try rw [ti_8] at c_24
        refine lv_aload_n hx hb dX13_laysParts_96 rfl (lv_at hl 4 rfl) ?_
        refine va_get (D := D) (ci := 10) (v := .ref (a 9)) (C := RX13) (T := TX13) (N := 45) hx hb hts in_X13_laysParts_X13 hown hE.1 hP 0 rfl rfl 9 (by decide +kernel) (hts (.fieldLink RX13 32 "ClauseBookModel" "number" "[I") (List.mem_of_getElem? (i := 10) rfl)) (fun _ h9 => h9) rfl dX13_laysParts_97 ?_
        refine lv_iload_n hx hb dX13_laysParts_100 rfl (lv_at hl 3 rfl) ?_
        refine va_iald hx hb hE.1 hP 2 0 rfl rfl (by rw [vp_in_iff]; first | omega | (subst_vars; omega)) dX13_laysParts_101 ?_
        refine lv_topi (fun z_31 ez_31 => ?_)
        refine lv_aload_n hx hb dX13_laysParts_102 rfl (lv_at hl 4 rfl) ?_
        refine va_get (D := D) (ci := 10) (v := .ref (a 17)) (C := RX13) (T := TX13) (N := 45) hx hb hts in_X13_laysParts_X13 hown hE.1 hP 0 rfl rfl 17 (by decide +kernel) (hts (.fieldLink RX13 47 "ClauseBookModel" "end" "[I") (List.mem_of_getElem? (i := 5) rfl)) (fun _ h9 => h9) rfl dX13_laysParts_103 ?_
        refine lv_iload_n hx hb dX13_laysParts_106 rfl (lv_at hl 3 rfl) ?_
        refine va_iald hx hb hE.1 hP 5 0 rfl rfl (by rw [vp_in_iff]; first | omega | (subst_vars; omega)) dX13_laysParts_107 ?_
        refine lv_topi (fun z_32 ez_32 => ?_)
        have hxz_32 : z_32.toInt = (z_22 : Int32).toInt := by rw [ez_32, upd_at]
        refine va_mmin hx hb (hml.trans hl.1.symm) hown (hts (.methodLink RX13 230 Lib.Math.min.name) (List.mem_of_getElem? (i := 11) rfl)) (hts (.static Lib.Math.min.name) (List.mem_of_getElem? (i := 12) rfl)) (hts (.initialized "java/lang/Math") (List.mem_of_getElem? (i := 8) rfl)) (hts (.code Lib.Math.min.name Lib.Math.min.code 2 (some .int)) (List.mem_of_getElem? (i := 13) rfl)) (Nat.le_of_ble_eq_true rfl) (Nat.le_of_ble_eq_true rfl) (Nat.le_of_ble_eq_true rfl) (Nat.le_of_ble_eq_true rfl) dX13_laysParts_108 ?_
        refine lv_topi (fun z_33 ez_33 => ?_)
        have hxz_33 : z_33.toInt ≤ 6 := by
          rw [ez_33]
          split
          · rename_i h
            omega
          · rename_i h
            rw [fa_lt] at h
            omega
        refine lv_goto (tgt := 120) hx hb dX13_laysParts_111 (by decide +kernel) ?_
        refine va_iast hx hb hE.1 hP hD hS 5 0 rfl rfl (by rw [vp_in_iff]; first | omega | (subst_vars; omega)) dX13_laysParts_120 (fun H locs hP hD hS => ?_)
        obtain ⟨hP, hD⟩ := wPD [(h0, .inr (10, (Value.int (q 0) :: Value.int (q 1) :: Value.int (q 2) :: Value.int (q 3) :: Value.int (q 4) :: Value.int (q 5) :: Value.int (q 6) :: Value.int (q 7) :: Value.ref (a 8) :: Value.ref (a 9) :: Value.ref (a 10) :: Value.ref (a 11) :: Value.ref (a 12) :: Value.ref (a 13) :: Value.int (q 14) :: Value.long v :: Value.long w :: Value.ref (a 17) :: Value.ref (a 18) :: Value.ref (a 19) :: Value.ref (a 20) :: Value.ref (a 21) :: Value.ref (a 22) :: Value.ref (a 23) :: Value.int (q 24) :: Value.ref (a 25) :: Value.int (q 26) :: Value.ref (a 27) :: Value.int (q 28) :: Value.int (q 29) :: Value.int (q 30) :: Value.int (q 31) :: Value.int (q 32) :: Value.int (q 33) :: Value.ref (a 34) :: Value.ref (a 35) :: Value.ref (a 36) :: Value.ref (a 37) :: Value.ref (a 38) :: Value.ref (a 39) :: Value.ref (a 40) :: Value.int (q 41) :: Value.ref (a 42) :: Value.int (q 43) :: Value.int (q 44) :: []))), ((a 8), .inl (T 0, 24, .inl f8)), ((a 9), .inl (T 0, 24, .inl f9)), ((a 10), .inl (T 0, 24, .inl f10)), ((a 11), .inl (T 0, 24, .inl f11)), ((a 17), .inl (T 0, 24, .inl (upd (upd e9 (xx.toNatClampNeg) z_22) (xx.toNatClampNeg) z_33))), ((a 18), .inl (T 0, 24, .inl p9)), ((a 19), .inl (T 0, 24, .inl d9))] hP hD rfl
        refine lv_aload_n hx hb dX13_laysParts_121 rfl (lv_at hl 4 rfl) ?_
        refine va_get (D := D) (ci := 10) (v := .ref (a 18)) (C := RX13) (T := TX13) (N := 45) hx hb hts in_X13_laysParts_X13 hown hE.1 hP 0 rfl rfl 18 (by decide +kernel) (hts (.fieldLink RX13 50 "ClauseBookModel" "parts" "[I") (List.mem_of_getElem? (i := 14) rfl)) (fun _ h9 => h9) rfl dX13_laysParts_122 ?_
        refine lv_iload_n hx hb dX13_laysParts_125 rfl (lv_at hl 3 rfl) ?_
        refine lv_iconst (v := 1) hx hb dX13_laysParts_126 (by decide +kernel) ?_
        refine lv_iload_n hx hb dX13_laysParts_127 rfl (lv_at hl 2 rfl) ?_
        refine lv_if_le (tgt := 140) hx hb dX13_laysParts_128 (by decide +kernel) (fun c9 => absurd c9 (by decide +kernel)) (fun _ => ?_)
        refine lv_aload_n hx hb dX13_laysParts_131 rfl (lv_at hl 4 rfl) ?_
        refine va_get (D := D) (ci := 10) (v := .ref (a 18)) (C := RX13) (T := TX13) (N := 45) hx hb hts in_X13_laysParts_X13 hown hE.1 hP 0 rfl rfl 18 (by decide +kernel) (hts (.fieldLink RX13 50 "ClauseBookModel" "parts" "[I") (List.mem_of_getElem? (i := 14) rfl)) (fun _ h9 => h9) rfl dX13_laysParts_132 ?_
        refine lv_iload_n hx hb dX13_laysParts_135 rfl (lv_at hl 1 rfl) ?_
        refine va_iald hx hb hE.1 hP 6 0 rfl rfl (by rw [vp_in_iff]; first | omega | (subst_vars; omega)) dX13_laysParts_136 ?_
        refine lv_topi (fun z_34 ez_34 => ?_)
        refine lv_goto (tgt := 141) hx hb dX13_laysParts_137 (by decide +kernel) ?_
        refine lv_iadd hx hb dX13_laysParts_141 ?_
        refine lv_iload_n hx hb dX13_laysParts_142 rfl (lv_at hl 2 rfl) ?_
        refine lv_iconst (v := 1) hx hb dX13_laysParts_143 (by decide +kernel) ?_
        refine lv_icmp_le (tgt := 157) hx hb dX13_laysParts_144 (by decide +kernel) (fun _ => ?_) (fun c9 => absurd c9 (by decide +kernel))
        refine lv_iconst (v := 0) hx hb dX13_laysParts_157 (by decide +kernel) ?_
        refine lv_iadd hx hb dX13_laysParts_158 ?_
        refine lv_topi (fun z_35 ez_35 => ?_)
        refine va_iast hx hb hE.1 hP hD hS 6 0 rfl rfl (by rw [vp_in_iff]; first | omega | (subst_vars; omega)) dX13_laysParts_159 (fun H locs hP hD hS => ?_)
        obtain ⟨hP, hD⟩ := wPD [(h0, .inr (10, (Value.int (q 0) :: Value.int (q 1) :: Value.int (q 2) :: Value.int (q 3) :: Value.int (q 4) :: Value.int (q 5) :: Value.int (q 6) :: Value.int (q 7) :: Value.ref (a 8) :: Value.ref (a 9) :: Value.ref (a 10) :: Value.ref (a 11) :: Value.ref (a 12) :: Value.ref (a 13) :: Value.int (q 14) :: Value.long v :: Value.long w :: Value.ref (a 17) :: Value.ref (a 18) :: Value.ref (a 19) :: Value.ref (a 20) :: Value.ref (a 21) :: Value.ref (a 22) :: Value.ref (a 23) :: Value.int (q 24) :: Value.ref (a 25) :: Value.int (q 26) :: Value.ref (a 27) :: Value.int (q 28) :: Value.int (q 29) :: Value.int (q 30) :: Value.int (q 31) :: Value.int (q 32) :: Value.int (q 33) :: Value.ref (a 34) :: Value.ref (a 35) :: Value.ref (a 36) :: Value.ref (a 37) :: Value.ref (a 38) :: Value.ref (a 39) :: Value.ref (a 40) :: Value.int (q 41) :: Value.ref (a 42) :: Value.int (q 43) :: Value.int (q 44) :: []))), ((a 8), .inl (T 0, 24, .inl f8)), ((a 9), .inl (T 0, 24, .inl f9)), ((a 10), .inl (T 0, 24, .inl f10)), ((a 11), .inl (T 0, 24, .inl f11)), ((a 17), .inl (T 0, 24, .inl (upd (upd e9 (xx.toNatClampNeg) z_22) (xx.toNatClampNeg) z_33))), ((a 18), .inl (T 0, 24, .inl (upd p9 (xx.toNatClampNeg) z_35))), ((a 19), .inl (T 0, 24, .inl d9))] hP hD rfl
        refine lv_aload_n hx hb dX13_laysParts_160 rfl (lv_at hl 4 rfl) ?_
        refine va_get (D := D) (ci := 10) (v := .ref (a 19)) (C := RX13) (T := TX13) (N := 45) hx hb hts in_X13_laysParts_X13 hown hE.1 hP 0 rfl rfl 19 (by decide +kernel) (hts (.fieldLink RX13 53 "ClauseBookModel" "deep" "[I") (List.mem_of_getElem? (i := 15) rfl)) (fun _ h9 => h9) rfl dX13_laysParts_161 ?_
        refine lv_iload_n hx hb dX13_laysParts_164 rfl (lv_at hl 3 rfl) ?_
        refine lv_iconst (v := 1) hx hb dX13_laysParts_165 (by decide +kernel) ?_
        refine lv_iload_n hx hb dX13_laysParts_166 rfl (lv_at hl 2 rfl) ?_
        refine lv_if_ne (tgt := 174) hx hb dX13_laysParts_167 (by decide +kernel) (fun _ => ?_) (fun c9 => absurd c9 (by decide +kernel))
        refine lv_iload_n hx hb dX13_laysParts_174 rfl (lv_at hl 2 rfl) ?_
        refine lv_iconst (v := 1) hx hb dX13_laysParts_175 (by decide +kernel) ?_
        refine lv_icmp_ne (tgt := 188) hx hb dX13_laysParts_176 (by decide +kernel) (fun c9 => absurd c9 (by decide +kernel)) (fun _ => ?_)
        refine lv_aload_n hx hb dX13_laysParts_179 rfl (lv_at hl 4 rfl) ?_
        refine va_get (D := D) (ci := 10) (v := .ref (a 19)) (C := RX13) (T := TX13) (N := 45) hx hb hts in_X13_laysParts_X13 hown hE.1 hP 0 rfl rfl 19 (by decide +kernel) (hts (.fieldLink RX13 53 "ClauseBookModel" "deep" "[I") (List.mem_of_getElem? (i := 15) rfl)) (fun _ h9 => h9) rfl dX13_laysParts_180 ?_
        refine lv_iload_n hx hb dX13_laysParts_183 rfl (lv_at hl 1 rfl) ?_
        refine va_iald hx hb hE.1 hP 7 0 rfl rfl (by rw [vp_in_iff]; first | omega | (subst_vars; omega)) dX13_laysParts_184 ?_
        refine lv_topi (fun z_36 ez_36 => ?_)
        refine lv_goto (tgt := 204) hx hb dX13_laysParts_185 (by decide +kernel) ?_
        refine lv_iadd hx hb dX13_laysParts_204 ?_
        refine lv_topi (fun z_37 ez_37 => ?_)
        refine va_iast hx hb hE.1 hP hD hS 7 0 rfl rfl (by rw [vp_in_iff]; first | omega | (subst_vars; omega)) dX13_laysParts_205 (fun H locs hP hD hS => ?_)
        obtain ⟨hP, hD⟩ := wPD [(h0, .inr (10, (Value.int (q 0) :: Value.int (q 1) :: Value.int (q 2) :: Value.int (q 3) :: Value.int (q 4) :: Value.int (q 5) :: Value.int (q 6) :: Value.int (q 7) :: Value.ref (a 8) :: Value.ref (a 9) :: Value.ref (a 10) :: Value.ref (a 11) :: Value.ref (a 12) :: Value.ref (a 13) :: Value.int (q 14) :: Value.long v :: Value.long w :: Value.ref (a 17) :: Value.ref (a 18) :: Value.ref (a 19) :: Value.ref (a 20) :: Value.ref (a 21) :: Value.ref (a 22) :: Value.ref (a 23) :: Value.int (q 24) :: Value.ref (a 25) :: Value.int (q 26) :: Value.ref (a 27) :: Value.int (q 28) :: Value.int (q 29) :: Value.int (q 30) :: Value.int (q 31) :: Value.int (q 32) :: Value.int (q 33) :: Value.ref (a 34) :: Value.ref (a 35) :: Value.ref (a 36) :: Value.ref (a 37) :: Value.ref (a 38) :: Value.ref (a 39) :: Value.ref (a 40) :: Value.int (q 41) :: Value.ref (a 42) :: Value.int (q 43) :: Value.int (q 44) :: []))), ((a 8), .inl (T 0, 24, .inl f8)), ((a 9), .inl (T 0, 24, .inl f9)), ((a 10), .inl (T 0, 24, .inl f10)), ((a 11), .inl (T 0, 24, .inl f11)), ((a 17), .inl (T 0, 24, .inl (upd (upd e9 (xx.toNatClampNeg) z_22) (xx.toNatClampNeg) z_33))), ((a 18), .inl (T 0, 24, .inl (upd p9 (xx.toNatClampNeg) z_35))), ((a 19), .inl (T 0, 24, .inl (upd d9 (xx.toNatClampNeg) z_37)))] hP hD rfl
        obtain ⟨z_38, ez_38⟩ : ∃ y : Int32, y = xx + 1 := ⟨_, rfl⟩
        refine lv_iinc (v := z_38) (lv' := [(1, .int z_38), (4, .int z_21), (3, .int z_20), (2, .int 1), (0, .ref h0)]) hx hb dX13_laysParts_206 hl (k := 3) rfl (by rw [ez_38]; rfl) (by decide +kernel) rfl (fun ls hl => ?_)
        have hz_389 : z_38.toInt = xx.toInt + 1 := by rw [ez_38]; exact inc1 (n := 1000) (by omega) (by decide +kernel)
        refine lv_goto (tgt := 2) hx hb dX13_laysParts_209 (by decide +kernel) ?_
        exact ih (z_38, (upd (upd e9 (xx.toNatClampNeg) z_22) (xx.toNatClampNeg) z_33), (upd p9 (xx.toNatClampNeg) z_35), (upd d9 (xx.toNatClampNeg) z_37)) ls _ _ ⟨lv_sub hl [0, 4] rfl, hP.sub [0, 1, 2, 3, 4, 5, 6, 7] rfl, hD.sub [0, 1, 2, 3, 4, 5, 6, 7] (by decide +kernel) rfl, hS, ⟨(by (try dsimp only); rw [hz_389]; omega), (by (try dsimp only); rw [upd_upd]; exact okE_step (n := 0) hEE (by omega) hz_389 (by omega) (fun hk9 => by exfalso; omega) (okR.late hokR)), (by (try dsimp only); rw [upd_upd]; exact mes_lp (okR.Nm hokR) (by omega) hz_389 hME (mesE_r8 (by have t9 := tn (x := f8 (xx.toNatClampNeg)) (by omega); omega) (endB_1 (by rw [← ez_2]; omega) ez_22 ez_20) hxz_32 ez_33 ez_31) (mesM_r1 (by rw [← ez_2]; omega) ez_35 ez_34 ez_20) (mesD_r1 (by rw [← ez_2]; omega) ez_37 ez_36 ez_20))⟩⟩ (by (try dsimp only); rw [hz_389]; omega)
    · have h9t := ti_2
      refine lv_istore_n (lv' := [(2, .int 2), (1, .int xx), (0, .ref h0)]) hx hb dX13_laysParts_19 rfl hl (by decide +kernel) rfl (fun ls hl => ?_)
      refine lv_aload_n hx hb dX13_laysParts_20 rfl (lv_at hl 2 rfl) ?_
      refine va_get (D := D) (ci := 10) (v := .ref (a 10)) (C := RX13) (T := TX13) (N := 45) hx hb hts in_X13_laysParts_X13 hown hE.1 hP 0 rfl rfl 10 (by decide +kernel) (hts (.fieldLink RX13 35 "ClauseBookModel" "one" "[I") (List.mem_of_getElem? (i := 3) rfl)) (fun _ h9 => h9) rfl dX13_laysParts_21 ?_
      refine lv_iload_n hx hb dX13_laysParts_24 rfl (lv_at hl 1 rfl) ?_
      refine va_iald hx hb hE.1 hP 3 0 rfl rfl (by rw [vp_in_iff]; first | omega | (subst_vars; omega)) dX13_laysParts_25 ?_
      refine lv_topi (fun z_39 ez_39 => ?_)
      have htz_39 : z_39.toInt = (f10 (xx.toNatClampNeg)).toInt := by rw [ez_39]
      refine lv_istore_n (lv' := [(3, .int z_39), (2, .int 2), (1, .int xx), (0, .ref h0)]) hx hb dX13_laysParts_26 rfl hl (by decide +kernel) rfl (fun ls hl => ?_)
      refine lv_aload_n hx hb dX13_laysParts_27 rfl (lv_at hl 3 rfl) ?_
      refine va_get (D := D) (ci := 10) (v := .ref (a 11)) (C := RX13) (T := TX13) (N := 45) hx hb hts in_X13_laysParts_X13 hown hE.1 hP 0 rfl rfl 11 (by decide +kernel) (hts (.fieldLink RX13 38 "ClauseBookModel" "two" "[I") (List.mem_of_getElem? (i := 4) rfl)) (fun _ h9 => h9) rfl dX13_laysParts_28 ?_
      refine lv_iload_n hx hb dX13_laysParts_31 rfl (lv_at hl 2 rfl) ?_
      refine va_iald hx hb hE.1 hP 4 0 rfl rfl (by rw [vp_in_iff]; first | omega | (subst_vars; omega)) dX13_laysParts_32 ?_
      refine lv_topi (fun z_40 ez_40 => ?_)
      have htz_40 : z_40.toInt = (f11 (xx.toNatClampNeg)).toInt := by rw [ez_40]
      refine lv_istore (lv' := [(4, .int z_40), (3, .int z_39), (2, .int 2), (1, .int xx), (0, .ref h0)]) hx hb dX13_laysParts_33 hl (by decide +kernel) rfl (fun ls hl => ?_)
      refine lv_aload_n hx hb dX13_laysParts_35 rfl (lv_at hl 4 rfl) ?_
      refine va_get (D := D) (ci := 10) (v := .ref (a 17)) (C := RX13) (T := TX13) (N := 45) hx hb hts in_X13_laysParts_X13 hown hE.1 hP 0 rfl rfl 17 (by decide +kernel) (hts (.fieldLink RX13 47 "ClauseBookModel" "end" "[I") (List.mem_of_getElem? (i := 5) rfl)) (fun _ h9 => h9) rfl dX13_laysParts_36 ?_
      refine lv_iload_n hx hb dX13_laysParts_39 rfl (lv_at hl 3 rfl) ?_
      refine lv_iload_n hx hb dX13_laysParts_40 rfl (lv_at hl 2 rfl) ?_
      refine lv_if_ne (tgt := 49) hx hb dX13_laysParts_41 (by decide +kernel) (fun _ => ?_) (fun c9 => absurd c9 (by decide +kernel))
      refine lv_iload_n hx hb dX13_laysParts_49 rfl (lv_at hl 2 rfl) ?_
      refine lv_iconst (v := 1) hx hb dX13_laysParts_50 (by decide +kernel) ?_
      refine lv_icmp_ne (tgt := 63) hx hb dX13_laysParts_51 (by decide +kernel) (fun _ => ?_) (fun c9 => absurd c9 (by decide +kernel))
      refine lv_aload_n hx hb dX13_laysParts_63 rfl (lv_at hl 4 rfl) ?_
      refine va_get (D := D) (ci := 10) (v := .ref (a 17)) (C := RX13) (T := TX13) (N := 45) hx hb hts in_X13_laysParts_X13 hown hE.1 hP 0 rfl rfl 17 (by decide +kernel) (hts (.fieldLink RX13 47 "ClauseBookModel" "end" "[I") (List.mem_of_getElem? (i := 5) rfl)) (fun _ h9 => h9) rfl dX13_laysParts_64 ?_
      refine lv_iload_n hx hb dX13_laysParts_67 rfl (lv_at hl 1 rfl) ?_
      refine va_iald hx hb hE.1 hP 5 0 rfl rfl (by rw [vp_in_iff]; first | omega | (subst_vars; omega)) dX13_laysParts_68 ?_
      refine lv_topi (fun z_41 ez_41 => ?_)
      have h6z_41 : z_41.toInt ≤ 6 := by
        rw [ez_41]
        have h9 := tn (x := z_39) (by omega)
        exact (hEE _ (by omega)).1
      have hvz_41 : z_41.toInt = (e9 (z_39.toNatClampNeg)).toInt := by rw [ez_41]
      refine lv_aload_n hx hb dX13_laysParts_69 rfl (lv_at hl 4 rfl) ?_
      refine va_get (D := D) (ci := 10) (v := .ref (a 17)) (C := RX13) (T := TX13) (N := 45) hx hb hts in_X13_laysParts_X13 hown hE.1 hP 0 rfl rfl 17 (by decide +kernel) (hts (.fieldLink RX13 47 "ClauseBookModel" "end" "[I") (List.mem_of_getElem? (i := 5) rfl)) (fun _ h9 => h9) rfl dX13_laysParts_70 ?_
      refine lv_iload hx hb dX13_laysParts_73 (lv_at hl 0 rfl) ?_
      refine va_iald hx hb hE.1 hP 5 0 rfl rfl (by rw [vp_in_iff]; first | omega | (subst_vars; omega)) dX13_laysParts_75 ?_
      refine lv_topi (fun z_42 ez_42 => ?_)
      have h6z_42 : z_42.toInt ≤ 6 := by
        rw [ez_42]
        have h9 := tn (x := z_40) (by omega)
        exact (hEE _ (by omega)).1
      refine va_mmax hx hb (hml.trans hl.1.symm) hown (hts (.methodLink RX13 227 Lib.Math.max.name) (List.mem_of_getElem? (i := 6) rfl)) (hts (.static Lib.Math.max.name) (List.mem_of_getElem? (i := 7) rfl)) (hts (.initialized "java/lang/Math") (List.mem_of_getElem? (i := 8) rfl)) (hts (.code Lib.Math.max.name Lib.Math.max.code 2 (some .int)) (List.mem_of_getElem? (i := 9) rfl)) (Nat.le_of_ble_eq_true rfl) (Nat.le_of_ble_eq_true rfl) (Nat.le_of_ble_eq_true rfl) (Nat.le_of_ble_eq_true rfl) dX13_laysParts_76 ?_
      refine lv_topi (fun z_43 ez_43 => ?_)
      have h6z_43 : z_43.toInt ≤ 6 := by
        rw [ez_43]
        split
        · omega
        · omega
      refine va_iast hx hb hE.1 hP hD hS 5 0 rfl rfl (by rw [vp_in_iff]; first | omega | (subst_vars; omega)) dX13_laysParts_79 (fun H locs hP hD hS => ?_)
      obtain ⟨hP, hD⟩ := wPD [(h0, .inr (10, (Value.int (q 0) :: Value.int (q 1) :: Value.int (q 2) :: Value.int (q 3) :: Value.int (q 4) :: Value.int (q 5) :: Value.int (q 6) :: Value.int (q 7) :: Value.ref (a 8) :: Value.ref (a 9) :: Value.ref (a 10) :: Value.ref (a 11) :: Value.ref (a 12) :: Value.ref (a 13) :: Value.int (q 14) :: Value.long v :: Value.long w :: Value.ref (a 17) :: Value.ref (a 18) :: Value.ref (a 19) :: Value.ref (a 20) :: Value.ref (a 21) :: Value.ref (a 22) :: Value.ref (a 23) :: Value.int (q 24) :: Value.ref (a 25) :: Value.int (q 26) :: Value.ref (a 27) :: Value.int (q 28) :: Value.int (q 29) :: Value.int (q 30) :: Value.int (q 31) :: Value.int (q 32) :: Value.int (q 33) :: Value.ref (a 34) :: Value.ref (a 35) :: Value.ref (a 36) :: Value.ref (a 37) :: Value.ref (a 38) :: Value.ref (a 39) :: Value.ref (a 40) :: Value.int (q 41) :: Value.ref (a 42) :: Value.int (q 43) :: Value.int (q 44) :: []))), ((a 8), .inl (T 0, 24, .inl f8)), ((a 9), .inl (T 0, 24, .inl f9)), ((a 10), .inl (T 0, 24, .inl f10)), ((a 11), .inl (T 0, 24, .inl f11)), ((a 17), .inl (T 0, 24, .inl (upd e9 (xx.toNatClampNeg) z_43))), ((a 18), .inl (T 0, 24, .inl p9)), ((a 19), .inl (T 0, 24, .inl d9))] hP hD rfl
      refine lv_aload_n hx hb dX13_laysParts_80 rfl (lv_at hl 4 rfl) ?_
      refine va_get (D := D) (ci := 10) (v := .ref (a 17)) (C := RX13) (T := TX13) (N := 45) hx hb hts in_X13_laysParts_X13 hown hE.1 hP 0 rfl rfl 17 (by decide +kernel) (hts (.fieldLink RX13 47 "ClauseBookModel" "end" "[I") (List.mem_of_getElem? (i := 5) rfl)) (fun _ h9 => h9) rfl dX13_laysParts_81 ?_
      refine lv_iload_n hx hb dX13_laysParts_84 rfl (lv_at hl 3 rfl) ?_
      refine lv_aload_n hx hb dX13_laysParts_85 rfl (lv_at hl 4 rfl) ?_
      refine va_get (D := D) (ci := 10) (v := .ref (a 8)) (C := RX13) (T := TX13) (N := 45) hx hb hts in_X13_laysParts_X13 hown hE.1 hP 0 rfl rfl 8 (by decide +kernel) (hts (.fieldLink RX13 28 "ClauseBookModel" "kind" "[I") (List.mem_of_getElem? (i := 2) rfl)) (fun _ h9 => h9) rfl dX13_laysParts_86 ?_
      refine lv_iload_n hx hb dX13_laysParts_89 rfl (lv_at hl 3 rfl) ?_
      refine va_iald hx hb hE.1 hP 1 0 rfl rfl (by rw [vp_in_iff]; first | omega | (subst_vars; omega)) dX13_laysParts_90 ?_
      refine lv_topi (fun z_44 ez_44 => ?_)
      have htz_44 : z_44.toInt = (f8 (xx.toNatClampNeg)).toInt := by rw [ez_44]
      refine lv_bipush (v := 8) hx hb dX13_laysParts_91 (by decide +kernel) ?_
      refine lv_icmp_ne (tgt := 114) hx hb dX13_laysParts_93 (by decide +kernel) (fun c_45 => ?_) (fun c_45 => ?_)
      · rw [fa_eq] at c_45
        try rw [ti_8] at c_45
        refine lv_aload_n hx hb dX13_laysParts_114 rfl (lv_at hl 4 rfl) ?_
        refine va_get (D := D) (ci := 10) (v := .ref (a 17)) (C := RX13) (T := TX13) (N := 45) hx hb hts in_X13_laysParts_X13 hown hE.1 hP 0 rfl rfl 17 (by decide +kernel) (hts (.fieldLink RX13 47 "ClauseBookModel" "end" "[I") (List.mem_of_getElem? (i := 5) rfl)) (fun _ h9 => h9) rfl dX13_laysParts_115 ?_
        refine lv_iload_n hx hb dX13_laysParts_118 rfl (lv_at hl 3 rfl) ?_
        refine va_iald hx hb hE.1 hP 5 0 rfl rfl (by rw [vp_in_iff]; first | omega | (subst_vars; omega)) dX13_laysParts_119 ?_
        refine lv_topi (fun z_46 ez_46 => ?_)
        have hxz_46 : z_46.toInt = (z_43 : Int32).toInt := by rw [ez_46, upd_at]
        refine va_iast hx hb hE.1 hP hD hS 5 0 rfl rfl (by rw [vp_in_iff]; first | omega | (subst_vars; omega)) dX13_laysParts_120 (fun H locs hP hD hS => ?_)
        obtain ⟨hP, hD⟩ := wPD [(h0, .inr (10, (Value.int (q 0) :: Value.int (q 1) :: Value.int (q 2) :: Value.int (q 3) :: Value.int (q 4) :: Value.int (q 5) :: Value.int (q 6) :: Value.int (q 7) :: Value.ref (a 8) :: Value.ref (a 9) :: Value.ref (a 10) :: Value.ref (a 11) :: Value.ref (a 12) :: Value.ref (a 13) :: Value.int (q 14) :: Value.long v :: Value.long w :: Value.ref (a 17) :: Value.ref (a 18) :: Value.ref (a 19) :: Value.ref (a 20) :: Value.ref (a 21) :: Value.ref (a 22) :: Value.ref (a 23) :: Value.int (q 24) :: Value.ref (a 25) :: Value.int (q 26) :: Value.ref (a 27) :: Value.int (q 28) :: Value.int (q 29) :: Value.int (q 30) :: Value.int (q 31) :: Value.int (q 32) :: Value.int (q 33) :: Value.ref (a 34) :: Value.ref (a 35) :: Value.ref (a 36) :: Value.ref (a 37) :: Value.ref (a 38) :: Value.ref (a 39) :: Value.ref (a 40) :: Value.int (q 41) :: Value.ref (a 42) :: Value.int (q 43) :: Value.int (q 44) :: []))), ((a 8), .inl (T 0, 24, .inl f8)), ((a 9), .inl (T 0, 24, .inl f9)), ((a 10), .inl (T 0, 24, .inl f10)), ((a 11), .inl (T 0, 24, .inl f11)), ((a 17), .inl (T 0, 24, .inl (upd (upd e9 (xx.toNatClampNeg) z_43) (xx.toNatClampNeg) z_46))), ((a 18), .inl (T 0, 24, .inl p9)), ((a 19), .inl (T 0, 24, .inl d9))] hP hD rfl
        refine lv_aload_n hx hb dX13_laysParts_121 rfl (lv_at hl 4 rfl) ?_
        refine va_get (D := D) (ci := 10) (v := .ref (a 18)) (C := RX13) (T := TX13) (N := 45) hx hb hts in_X13_laysParts_X13 hown hE.1 hP 0 rfl rfl 18 (by decide +kernel) (hts (.fieldLink RX13 50 "ClauseBookModel" "parts" "[I") (List.mem_of_getElem? (i := 14) rfl)) (fun _ h9 => h9) rfl dX13_laysParts_122 ?_
        refine lv_iload_n hx hb dX13_laysParts_125 rfl (lv_at hl 3 rfl) ?_
        refine lv_iconst (v := 1) hx hb dX13_laysParts_126 (by decide +kernel) ?_
        refine lv_iload_n hx hb dX13_laysParts_127 rfl (lv_at hl 2 rfl) ?_
        refine lv_if_le (tgt := 140) hx hb dX13_laysParts_128 (by decide +kernel) (fun c9 => absurd c9 (by decide +kernel)) (fun _ => ?_)
        refine lv_aload_n hx hb dX13_laysParts_131 rfl (lv_at hl 4 rfl) ?_
        refine va_get (D := D) (ci := 10) (v := .ref (a 18)) (C := RX13) (T := TX13) (N := 45) hx hb hts in_X13_laysParts_X13 hown hE.1 hP 0 rfl rfl 18 (by decide +kernel) (hts (.fieldLink RX13 50 "ClauseBookModel" "parts" "[I") (List.mem_of_getElem? (i := 14) rfl)) (fun _ h9 => h9) rfl dX13_laysParts_132 ?_
        refine lv_iload_n hx hb dX13_laysParts_135 rfl (lv_at hl 1 rfl) ?_
        refine va_iald hx hb hE.1 hP 6 0 rfl rfl (by rw [vp_in_iff]; first | omega | (subst_vars; omega)) dX13_laysParts_136 ?_
        refine lv_topi (fun z_47 ez_47 => ?_)
        refine lv_goto (tgt := 141) hx hb dX13_laysParts_137 (by decide +kernel) ?_
        refine lv_iadd hx hb dX13_laysParts_141 ?_
        refine lv_iload_n hx hb dX13_laysParts_142 rfl (lv_at hl 2 rfl) ?_
        refine lv_iconst (v := 1) hx hb dX13_laysParts_143 (by decide +kernel) ?_
        refine lv_icmp_le (tgt := 157) hx hb dX13_laysParts_144 (by decide +kernel) (fun c9 => absurd c9 (by decide +kernel)) (fun _ => ?_)
        refine lv_aload_n hx hb dX13_laysParts_147 rfl (lv_at hl 4 rfl) ?_
        refine va_get (D := D) (ci := 10) (v := .ref (a 18)) (C := RX13) (T := TX13) (N := 45) hx hb hts in_X13_laysParts_X13 hown hE.1 hP 0 rfl rfl 18 (by decide +kernel) (hts (.fieldLink RX13 50 "ClauseBookModel" "parts" "[I") (List.mem_of_getElem? (i := 14) rfl)) (fun _ h9 => h9) rfl dX13_laysParts_148 ?_
        refine lv_iload hx hb dX13_laysParts_151 (lv_at hl 0 rfl) ?_
        refine va_iald hx hb hE.1 hP 6 0 rfl rfl (by rw [vp_in_iff]; first | omega | (subst_vars; omega)) dX13_laysParts_153 ?_
        refine lv_topi (fun z_48 ez_48 => ?_)
        refine lv_goto (tgt := 158) hx hb dX13_laysParts_154 (by decide +kernel) ?_
        refine lv_iadd hx hb dX13_laysParts_158 ?_
        refine lv_topi (fun z_49 ez_49 => ?_)
        refine va_iast hx hb hE.1 hP hD hS 6 0 rfl rfl (by rw [vp_in_iff]; first | omega | (subst_vars; omega)) dX13_laysParts_159 (fun H locs hP hD hS => ?_)
        obtain ⟨hP, hD⟩ := wPD [(h0, .inr (10, (Value.int (q 0) :: Value.int (q 1) :: Value.int (q 2) :: Value.int (q 3) :: Value.int (q 4) :: Value.int (q 5) :: Value.int (q 6) :: Value.int (q 7) :: Value.ref (a 8) :: Value.ref (a 9) :: Value.ref (a 10) :: Value.ref (a 11) :: Value.ref (a 12) :: Value.ref (a 13) :: Value.int (q 14) :: Value.long v :: Value.long w :: Value.ref (a 17) :: Value.ref (a 18) :: Value.ref (a 19) :: Value.ref (a 20) :: Value.ref (a 21) :: Value.ref (a 22) :: Value.ref (a 23) :: Value.int (q 24) :: Value.ref (a 25) :: Value.int (q 26) :: Value.ref (a 27) :: Value.int (q 28) :: Value.int (q 29) :: Value.int (q 30) :: Value.int (q 31) :: Value.int (q 32) :: Value.int (q 33) :: Value.ref (a 34) :: Value.ref (a 35) :: Value.ref (a 36) :: Value.ref (a 37) :: Value.ref (a 38) :: Value.ref (a 39) :: Value.ref (a 40) :: Value.int (q 41) :: Value.ref (a 42) :: Value.int (q 43) :: Value.int (q 44) :: []))), ((a 8), .inl (T 0, 24, .inl f8)), ((a 9), .inl (T 0, 24, .inl f9)), ((a 10), .inl (T 0, 24, .inl f10)), ((a 11), .inl (T 0, 24, .inl f11)), ((a 17), .inl (T 0, 24, .inl (upd (upd e9 (xx.toNatClampNeg) z_43) (xx.toNatClampNeg) z_46))), ((a 18), .inl (T 0, 24, .inl (upd p9 (xx.toNatClampNeg) z_49))), ((a 19), .inl (T 0, 24, .inl d9))] hP hD rfl
        refine lv_aload_n hx hb dX13_laysParts_160 rfl (lv_at hl 4 rfl) ?_
        refine va_get (D := D) (ci := 10) (v := .ref (a 19)) (C := RX13) (T := TX13) (N := 45) hx hb hts in_X13_laysParts_X13 hown hE.1 hP 0 rfl rfl 19 (by decide +kernel) (hts (.fieldLink RX13 53 "ClauseBookModel" "deep" "[I") (List.mem_of_getElem? (i := 15) rfl)) (fun _ h9 => h9) rfl dX13_laysParts_161 ?_
        refine lv_iload_n hx hb dX13_laysParts_164 rfl (lv_at hl 3 rfl) ?_
        refine lv_iconst (v := 1) hx hb dX13_laysParts_165 (by decide +kernel) ?_
        refine lv_iload_n hx hb dX13_laysParts_166 rfl (lv_at hl 2 rfl) ?_
        refine lv_if_ne (tgt := 174) hx hb dX13_laysParts_167 (by decide +kernel) (fun _ => ?_) (fun c9 => absurd c9 (by decide +kernel))
        refine lv_iload_n hx hb dX13_laysParts_174 rfl (lv_at hl 2 rfl) ?_
        refine lv_iconst (v := 1) hx hb dX13_laysParts_175 (by decide +kernel) ?_
        refine lv_icmp_ne (tgt := 188) hx hb dX13_laysParts_176 (by decide +kernel) (fun _ => ?_) (fun c9 => absurd c9 (by decide +kernel))
        refine lv_aload_n hx hb dX13_laysParts_188 rfl (lv_at hl 4 rfl) ?_
        refine va_get (D := D) (ci := 10) (v := .ref (a 19)) (C := RX13) (T := TX13) (N := 45) hx hb hts in_X13_laysParts_X13 hown hE.1 hP 0 rfl rfl 19 (by decide +kernel) (hts (.fieldLink RX13 53 "ClauseBookModel" "deep" "[I") (List.mem_of_getElem? (i := 15) rfl)) (fun _ h9 => h9) rfl dX13_laysParts_189 ?_
        refine lv_iload_n hx hb dX13_laysParts_192 rfl (lv_at hl 1 rfl) ?_
        refine va_iald hx hb hE.1 hP 7 0 rfl rfl (by rw [vp_in_iff]; first | omega | (subst_vars; omega)) dX13_laysParts_193 ?_
        refine lv_topi (fun z_50 ez_50 => ?_)
        refine lv_aload_n hx hb dX13_laysParts_194 rfl (lv_at hl 4 rfl) ?_
        refine va_get (D := D) (ci := 10) (v := .ref (a 19)) (C := RX13) (T := TX13) (N := 45) hx hb hts in_X13_laysParts_X13 hown hE.1 hP 0 rfl rfl 19 (by decide +kernel) (hts (.fieldLink RX13 53 "ClauseBookModel" "deep" "[I") (List.mem_of_getElem? (i := 15) rfl)) (fun _ h9 => h9) rfl dX13_laysParts_195 ?_
        refine lv_iload hx hb dX13_laysParts_198 (lv_at hl 0 rfl) ?_
        refine va_iald hx hb hE.1 hP 7 0 rfl rfl (by rw [vp_in_iff]; first | omega | (subst_vars; omega)) dX13_laysParts_200 ?_
        refine lv_topi (fun z_51 ez_51 => ?_)
        refine va_mmax hx hb (hml.trans hl.1.symm) hown (hts (.methodLink RX13 227 Lib.Math.max.name) (List.mem_of_getElem? (i := 6) rfl)) (hts (.static Lib.Math.max.name) (List.mem_of_getElem? (i := 7) rfl)) (hts (.initialized "java/lang/Math") (List.mem_of_getElem? (i := 8) rfl)) (hts (.code Lib.Math.max.name Lib.Math.max.code 2 (some .int)) (List.mem_of_getElem? (i := 9) rfl)) (Nat.le_of_ble_eq_true rfl) (Nat.le_of_ble_eq_true rfl) (Nat.le_of_ble_eq_true rfl) (Nat.le_of_ble_eq_true rfl) dX13_laysParts_201 ?_
        refine lv_topi (fun z_52 ez_52 => ?_)
        refine lv_iadd hx hb dX13_laysParts_204 ?_
        refine lv_topi (fun z_53 ez_53 => ?_)
        refine va_iast hx hb hE.1 hP hD hS 7 0 rfl rfl (by rw [vp_in_iff]; first | omega | (subst_vars; omega)) dX13_laysParts_205 (fun H locs hP hD hS => ?_)
        obtain ⟨hP, hD⟩ := wPD [(h0, .inr (10, (Value.int (q 0) :: Value.int (q 1) :: Value.int (q 2) :: Value.int (q 3) :: Value.int (q 4) :: Value.int (q 5) :: Value.int (q 6) :: Value.int (q 7) :: Value.ref (a 8) :: Value.ref (a 9) :: Value.ref (a 10) :: Value.ref (a 11) :: Value.ref (a 12) :: Value.ref (a 13) :: Value.int (q 14) :: Value.long v :: Value.long w :: Value.ref (a 17) :: Value.ref (a 18) :: Value.ref (a 19) :: Value.ref (a 20) :: Value.ref (a 21) :: Value.ref (a 22) :: Value.ref (a 23) :: Value.int (q 24) :: Value.ref (a 25) :: Value.int (q 26) :: Value.ref (a 27) :: Value.int (q 28) :: Value.int (q 29) :: Value.int (q 30) :: Value.int (q 31) :: Value.int (q 32) :: Value.int (q 33) :: Value.ref (a 34) :: Value.ref (a 35) :: Value.ref (a 36) :: Value.ref (a 37) :: Value.ref (a 38) :: Value.ref (a 39) :: Value.ref (a 40) :: Value.int (q 41) :: Value.ref (a 42) :: Value.int (q 43) :: Value.int (q 44) :: []))), ((a 8), .inl (T 0, 24, .inl f8)), ((a 9), .inl (T 0, 24, .inl f9)), ((a 10), .inl (T 0, 24, .inl f10)), ((a 11), .inl (T 0, 24, .inl f11)), ((a 17), .inl (T 0, 24, .inl (upd (upd e9 (xx.toNatClampNeg) z_43) (xx.toNatClampNeg) z_46))), ((a 18), .inl (T 0, 24, .inl (upd p9 (xx.toNatClampNeg) z_49))), ((a 19), .inl (T 0, 24, .inl (upd d9 (xx.toNatClampNeg) z_53)))] hP hD rfl
        obtain ⟨z_54, ez_54⟩ : ∃ y : Int32, y = xx + 1 := ⟨_, rfl⟩
        refine lv_iinc (v := z_54) (lv' := [(1, .int z_54), (4, .int z_40), (3, .int z_39), (2, .int 2), (0, .ref h0)]) hx hb dX13_laysParts_206 hl (k := 3) rfl (by rw [ez_54]; rfl) (by decide +kernel) rfl (fun ls hl => ?_)
        have hz_549 : z_54.toInt = xx.toInt + 1 := by rw [ez_54]; exact inc1 (n := 1000) (by omega) (by decide +kernel)
        refine lv_goto (tgt := 2) hx hb dX13_laysParts_209 (by decide +kernel) ?_
        exact ih (z_54, (upd (upd e9 (xx.toNatClampNeg) z_43) (xx.toNatClampNeg) z_46), (upd p9 (xx.toNatClampNeg) z_49), (upd d9 (xx.toNatClampNeg) z_53)) ls _ _ ⟨lv_sub hl [0, 4] rfl, hP.sub [0, 1, 2, 3, 4, 5, 6, 7] rfl, hD.sub [0, 1, 2, 3, 4, 5, 6, 7] (by decide +kernel) rfl, hS, ⟨(by (try dsimp only); rw [hz_549]; omega), (by (try dsimp only); rw [upd_upd]; exact okE_step (n := 0) hEE (by omega) hz_549 (by omega) (fun hk9 => by exfalso; have h9 := hlz_2 (by omega); omega) (okR.late hokR)), (by (try dsimp only); rw [upd_upd]; exact mes_lp (okR.Nm hokR) (by omega) hz_549 hME (mesE_rn (by have t9 := tn (x := f8 (xx.toNatClampNeg)) (by omega); omega) (endB_2 (by rw [← ez_2]; omega) ez_43 ez_41 ez_39 ez_42 ez_40) hxz_46) (mesM_r2 (by rw [← ez_2]; omega) ez_49 ez_47 ez_39 ez_48 ez_40) (mesD_r2 (by rw [← ez_2]; omega) ez_53 ez_52 ez_50 ez_39 ez_51 ez_40))⟩⟩ (by (try dsimp only); rw [hz_549]; omega)
      · rw [fa_eq] at c_45
        try rw [ti_8] at c_45
        refine lv_aload_n hx hb dX13_laysParts_96 rfl (lv_at hl 4 rfl) ?_
        refine va_get (D := D) (ci := 10) (v := .ref (a 9)) (C := RX13) (T := TX13) (N := 45) hx hb hts in_X13_laysParts_X13 hown hE.1 hP 0 rfl rfl 9 (by decide +kernel) (hts (.fieldLink RX13 32 "ClauseBookModel" "number" "[I") (List.mem_of_getElem? (i := 10) rfl)) (fun _ h9 => h9) rfl dX13_laysParts_97 ?_
        refine lv_iload_n hx hb dX13_laysParts_100 rfl (lv_at hl 3 rfl) ?_
        refine va_iald hx hb hE.1 hP 2 0 rfl rfl (by rw [vp_in_iff]; first | omega | (subst_vars; omega)) dX13_laysParts_101 ?_
        refine lv_topi (fun z_55 ez_55 => ?_)
        refine lv_aload_n hx hb dX13_laysParts_102 rfl (lv_at hl 4 rfl) ?_
        refine va_get (D := D) (ci := 10) (v := .ref (a 17)) (C := RX13) (T := TX13) (N := 45) hx hb hts in_X13_laysParts_X13 hown hE.1 hP 0 rfl rfl 17 (by decide +kernel) (hts (.fieldLink RX13 47 "ClauseBookModel" "end" "[I") (List.mem_of_getElem? (i := 5) rfl)) (fun _ h9 => h9) rfl dX13_laysParts_103 ?_
        refine lv_iload_n hx hb dX13_laysParts_106 rfl (lv_at hl 3 rfl) ?_
        refine va_iald hx hb hE.1 hP 5 0 rfl rfl (by rw [vp_in_iff]; first | omega | (subst_vars; omega)) dX13_laysParts_107 ?_
        refine lv_topi (fun z_56 ez_56 => ?_)
        have hxz_56 : z_56.toInt = (z_43 : Int32).toInt := by rw [ez_56, upd_at]
        refine va_mmin hx hb (hml.trans hl.1.symm) hown (hts (.methodLink RX13 230 Lib.Math.min.name) (List.mem_of_getElem? (i := 11) rfl)) (hts (.static Lib.Math.min.name) (List.mem_of_getElem? (i := 12) rfl)) (hts (.initialized "java/lang/Math") (List.mem_of_getElem? (i := 8) rfl)) (hts (.code Lib.Math.min.name Lib.Math.min.code 2 (some .int)) (List.mem_of_getElem? (i := 13) rfl)) (Nat.le_of_ble_eq_true rfl) (Nat.le_of_ble_eq_true rfl) (Nat.le_of_ble_eq_true rfl) (Nat.le_of_ble_eq_true rfl) dX13_laysParts_108 ?_
        refine lv_topi (fun z_57 ez_57 => ?_)
        have hxz_57 : z_57.toInt ≤ 6 := by
          rw [ez_57]
          split
          · rename_i h
            omega
          · rename_i h
            rw [fa_lt] at h
            omega
        refine lv_goto (tgt := 120) hx hb dX13_laysParts_111 (by decide +kernel) ?_
        refine va_iast hx hb hE.1 hP hD hS 5 0 rfl rfl (by rw [vp_in_iff]; first | omega | (subst_vars; omega)) dX13_laysParts_120 (fun H locs hP hD hS => ?_)
        obtain ⟨hP, hD⟩ := wPD [(h0, .inr (10, (Value.int (q 0) :: Value.int (q 1) :: Value.int (q 2) :: Value.int (q 3) :: Value.int (q 4) :: Value.int (q 5) :: Value.int (q 6) :: Value.int (q 7) :: Value.ref (a 8) :: Value.ref (a 9) :: Value.ref (a 10) :: Value.ref (a 11) :: Value.ref (a 12) :: Value.ref (a 13) :: Value.int (q 14) :: Value.long v :: Value.long w :: Value.ref (a 17) :: Value.ref (a 18) :: Value.ref (a 19) :: Value.ref (a 20) :: Value.ref (a 21) :: Value.ref (a 22) :: Value.ref (a 23) :: Value.int (q 24) :: Value.ref (a 25) :: Value.int (q 26) :: Value.ref (a 27) :: Value.int (q 28) :: Value.int (q 29) :: Value.int (q 30) :: Value.int (q 31) :: Value.int (q 32) :: Value.int (q 33) :: Value.ref (a 34) :: Value.ref (a 35) :: Value.ref (a 36) :: Value.ref (a 37) :: Value.ref (a 38) :: Value.ref (a 39) :: Value.ref (a 40) :: Value.int (q 41) :: Value.ref (a 42) :: Value.int (q 43) :: Value.int (q 44) :: []))), ((a 8), .inl (T 0, 24, .inl f8)), ((a 9), .inl (T 0, 24, .inl f9)), ((a 10), .inl (T 0, 24, .inl f10)), ((a 11), .inl (T 0, 24, .inl f11)), ((a 17), .inl (T 0, 24, .inl (upd (upd e9 (xx.toNatClampNeg) z_43) (xx.toNatClampNeg) z_57))), ((a 18), .inl (T 0, 24, .inl p9)), ((a 19), .inl (T 0, 24, .inl d9))] hP hD rfl
        refine lv_aload_n hx hb dX13_laysParts_121 rfl (lv_at hl 4 rfl) ?_
        refine va_get (D := D) (ci := 10) (v := .ref (a 18)) (C := RX13) (T := TX13) (N := 45) hx hb hts in_X13_laysParts_X13 hown hE.1 hP 0 rfl rfl 18 (by decide +kernel) (hts (.fieldLink RX13 50 "ClauseBookModel" "parts" "[I") (List.mem_of_getElem? (i := 14) rfl)) (fun _ h9 => h9) rfl dX13_laysParts_122 ?_
        refine lv_iload_n hx hb dX13_laysParts_125 rfl (lv_at hl 3 rfl) ?_
        refine lv_iconst (v := 1) hx hb dX13_laysParts_126 (by decide +kernel) ?_
        refine lv_iload_n hx hb dX13_laysParts_127 rfl (lv_at hl 2 rfl) ?_
        refine lv_if_le (tgt := 140) hx hb dX13_laysParts_128 (by decide +kernel) (fun c9 => absurd c9 (by decide +kernel)) (fun _ => ?_)
        refine lv_aload_n hx hb dX13_laysParts_131 rfl (lv_at hl 4 rfl) ?_
        refine va_get (D := D) (ci := 10) (v := .ref (a 18)) (C := RX13) (T := TX13) (N := 45) hx hb hts in_X13_laysParts_X13 hown hE.1 hP 0 rfl rfl 18 (by decide +kernel) (hts (.fieldLink RX13 50 "ClauseBookModel" "parts" "[I") (List.mem_of_getElem? (i := 14) rfl)) (fun _ h9 => h9) rfl dX13_laysParts_132 ?_
        refine lv_iload_n hx hb dX13_laysParts_135 rfl (lv_at hl 1 rfl) ?_
        refine va_iald hx hb hE.1 hP 6 0 rfl rfl (by rw [vp_in_iff]; first | omega | (subst_vars; omega)) dX13_laysParts_136 ?_
        refine lv_topi (fun z_58 ez_58 => ?_)
        refine lv_goto (tgt := 141) hx hb dX13_laysParts_137 (by decide +kernel) ?_
        refine lv_iadd hx hb dX13_laysParts_141 ?_
        refine lv_iload_n hx hb dX13_laysParts_142 rfl (lv_at hl 2 rfl) ?_
        refine lv_iconst (v := 1) hx hb dX13_laysParts_143 (by decide +kernel) ?_
        refine lv_icmp_le (tgt := 157) hx hb dX13_laysParts_144 (by decide +kernel) (fun c9 => absurd c9 (by decide +kernel)) (fun _ => ?_)
        refine lv_aload_n hx hb dX13_laysParts_147 rfl (lv_at hl 4 rfl) ?_
        refine va_get (D := D) (ci := 10) (v := .ref (a 18)) (C := RX13) (T := TX13) (N := 45) hx hb hts in_X13_laysParts_X13 hown hE.1 hP 0 rfl rfl 18 (by decide +kernel) (hts (.fieldLink RX13 50 "ClauseBookModel" "parts" "[I") (List.mem_of_getElem? (i := 14) rfl)) (fun _ h9 => h9) rfl dX13_laysParts_148 ?_
        refine lv_iload hx hb dX13_laysParts_151 (lv_at hl 0 rfl) ?_
        refine va_iald hx hb hE.1 hP 6 0 rfl rfl (by rw [vp_in_iff]; first | omega | (subst_vars; omega)) dX13_laysParts_153 ?_
        refine lv_topi (fun z_59 ez_59 => ?_)
        refine lv_goto (tgt := 158) hx hb dX13_laysParts_154 (by decide +kernel) ?_
        refine lv_iadd hx hb dX13_laysParts_158 ?_
        refine lv_topi (fun z_60 ez_60 => ?_)
        refine va_iast hx hb hE.1 hP hD hS 6 0 rfl rfl (by rw [vp_in_iff]; first | omega | (subst_vars; omega)) dX13_laysParts_159 (fun H locs hP hD hS => ?_)
        obtain ⟨hP, hD⟩ := wPD [(h0, .inr (10, (Value.int (q 0) :: Value.int (q 1) :: Value.int (q 2) :: Value.int (q 3) :: Value.int (q 4) :: Value.int (q 5) :: Value.int (q 6) :: Value.int (q 7) :: Value.ref (a 8) :: Value.ref (a 9) :: Value.ref (a 10) :: Value.ref (a 11) :: Value.ref (a 12) :: Value.ref (a 13) :: Value.int (q 14) :: Value.long v :: Value.long w :: Value.ref (a 17) :: Value.ref (a 18) :: Value.ref (a 19) :: Value.ref (a 20) :: Value.ref (a 21) :: Value.ref (a 22) :: Value.ref (a 23) :: Value.int (q 24) :: Value.ref (a 25) :: Value.int (q 26) :: Value.ref (a 27) :: Value.int (q 28) :: Value.int (q 29) :: Value.int (q 30) :: Value.int (q 31) :: Value.int (q 32) :: Value.int (q 33) :: Value.ref (a 34) :: Value.ref (a 35) :: Value.ref (a 36) :: Value.ref (a 37) :: Value.ref (a 38) :: Value.ref (a 39) :: Value.ref (a 40) :: Value.int (q 41) :: Value.ref (a 42) :: Value.int (q 43) :: Value.int (q 44) :: []))), ((a 8), .inl (T 0, 24, .inl f8)), ((a 9), .inl (T 0, 24, .inl f9)), ((a 10), .inl (T 0, 24, .inl f10)), ((a 11), .inl (T 0, 24, .inl f11)), ((a 17), .inl (T 0, 24, .inl (upd (upd e9 (xx.toNatClampNeg) z_43) (xx.toNatClampNeg) z_57))), ((a 18), .inl (T 0, 24, .inl (upd p9 (xx.toNatClampNeg) z_60))), ((a 19), .inl (T 0, 24, .inl d9))] hP hD rfl
        refine lv_aload_n hx hb dX13_laysParts_160 rfl (lv_at hl 4 rfl) ?_
        refine va_get (D := D) (ci := 10) (v := .ref (a 19)) (C := RX13) (T := TX13) (N := 45) hx hb hts in_X13_laysParts_X13 hown hE.1 hP 0 rfl rfl 19 (by decide +kernel) (hts (.fieldLink RX13 53 "ClauseBookModel" "deep" "[I") (List.mem_of_getElem? (i := 15) rfl)) (fun _ h9 => h9) rfl dX13_laysParts_161 ?_
        refine lv_iload_n hx hb dX13_laysParts_164 rfl (lv_at hl 3 rfl) ?_
        refine lv_iconst (v := 1) hx hb dX13_laysParts_165 (by decide +kernel) ?_
        refine lv_iload_n hx hb dX13_laysParts_166 rfl (lv_at hl 2 rfl) ?_
        refine lv_if_ne (tgt := 174) hx hb dX13_laysParts_167 (by decide +kernel) (fun _ => ?_) (fun c9 => absurd c9 (by decide +kernel))
        refine lv_iload_n hx hb dX13_laysParts_174 rfl (lv_at hl 2 rfl) ?_
        refine lv_iconst (v := 1) hx hb dX13_laysParts_175 (by decide +kernel) ?_
        refine lv_icmp_ne (tgt := 188) hx hb dX13_laysParts_176 (by decide +kernel) (fun _ => ?_) (fun c9 => absurd c9 (by decide +kernel))
        refine lv_aload_n hx hb dX13_laysParts_188 rfl (lv_at hl 4 rfl) ?_
        refine va_get (D := D) (ci := 10) (v := .ref (a 19)) (C := RX13) (T := TX13) (N := 45) hx hb hts in_X13_laysParts_X13 hown hE.1 hP 0 rfl rfl 19 (by decide +kernel) (hts (.fieldLink RX13 53 "ClauseBookModel" "deep" "[I") (List.mem_of_getElem? (i := 15) rfl)) (fun _ h9 => h9) rfl dX13_laysParts_189 ?_
        refine lv_iload_n hx hb dX13_laysParts_192 rfl (lv_at hl 1 rfl) ?_
        refine va_iald hx hb hE.1 hP 7 0 rfl rfl (by rw [vp_in_iff]; first | omega | (subst_vars; omega)) dX13_laysParts_193 ?_
        refine lv_topi (fun z_61 ez_61 => ?_)
        refine lv_aload_n hx hb dX13_laysParts_194 rfl (lv_at hl 4 rfl) ?_
        refine va_get (D := D) (ci := 10) (v := .ref (a 19)) (C := RX13) (T := TX13) (N := 45) hx hb hts in_X13_laysParts_X13 hown hE.1 hP 0 rfl rfl 19 (by decide +kernel) (hts (.fieldLink RX13 53 "ClauseBookModel" "deep" "[I") (List.mem_of_getElem? (i := 15) rfl)) (fun _ h9 => h9) rfl dX13_laysParts_195 ?_
        refine lv_iload hx hb dX13_laysParts_198 (lv_at hl 0 rfl) ?_
        refine va_iald hx hb hE.1 hP 7 0 rfl rfl (by rw [vp_in_iff]; first | omega | (subst_vars; omega)) dX13_laysParts_200 ?_
        refine lv_topi (fun z_62 ez_62 => ?_)
        refine va_mmax hx hb (hml.trans hl.1.symm) hown (hts (.methodLink RX13 227 Lib.Math.max.name) (List.mem_of_getElem? (i := 6) rfl)) (hts (.static Lib.Math.max.name) (List.mem_of_getElem? (i := 7) rfl)) (hts (.initialized "java/lang/Math") (List.mem_of_getElem? (i := 8) rfl)) (hts (.code Lib.Math.max.name Lib.Math.max.code 2 (some .int)) (List.mem_of_getElem? (i := 9) rfl)) (Nat.le_of_ble_eq_true rfl) (Nat.le_of_ble_eq_true rfl) (Nat.le_of_ble_eq_true rfl) (Nat.le_of_ble_eq_true rfl) dX13_laysParts_201 ?_
        refine lv_topi (fun z_63 ez_63 => ?_)
        refine lv_iadd hx hb dX13_laysParts_204 ?_
        refine lv_topi (fun z_64 ez_64 => ?_)
        refine va_iast hx hb hE.1 hP hD hS 7 0 rfl rfl (by rw [vp_in_iff]; first | omega | (subst_vars; omega)) dX13_laysParts_205 (fun H locs hP hD hS => ?_)
        obtain ⟨hP, hD⟩ := wPD [(h0, .inr (10, (Value.int (q 0) :: Value.int (q 1) :: Value.int (q 2) :: Value.int (q 3) :: Value.int (q 4) :: Value.int (q 5) :: Value.int (q 6) :: Value.int (q 7) :: Value.ref (a 8) :: Value.ref (a 9) :: Value.ref (a 10) :: Value.ref (a 11) :: Value.ref (a 12) :: Value.ref (a 13) :: Value.int (q 14) :: Value.long v :: Value.long w :: Value.ref (a 17) :: Value.ref (a 18) :: Value.ref (a 19) :: Value.ref (a 20) :: Value.ref (a 21) :: Value.ref (a 22) :: Value.ref (a 23) :: Value.int (q 24) :: Value.ref (a 25) :: Value.int (q 26) :: Value.ref (a 27) :: Value.int (q 28) :: Value.int (q 29) :: Value.int (q 30) :: Value.int (q 31) :: Value.int (q 32) :: Value.int (q 33) :: Value.ref (a 34) :: Value.ref (a 35) :: Value.ref (a 36) :: Value.ref (a 37) :: Value.ref (a 38) :: Value.ref (a 39) :: Value.ref (a 40) :: Value.int (q 41) :: Value.ref (a 42) :: Value.int (q 43) :: Value.int (q 44) :: []))), ((a 8), .inl (T 0, 24, .inl f8)), ((a 9), .inl (T 0, 24, .inl f9)), ((a 10), .inl (T 0, 24, .inl f10)), ((a 11), .inl (T 0, 24, .inl f11)), ((a 17), .inl (T 0, 24, .inl (upd (upd e9 (xx.toNatClampNeg) z_43) (xx.toNatClampNeg) z_57))), ((a 18), .inl (T 0, 24, .inl (upd p9 (xx.toNatClampNeg) z_60))), ((a 19), .inl (T 0, 24, .inl (upd d9 (xx.toNatClampNeg) z_64)))] hP hD rfl
        obtain ⟨z_65, ez_65⟩ : ∃ y : Int32, y = xx + 1 := ⟨_, rfl⟩
        refine lv_iinc (v := z_65) (lv' := [(1, .int z_65), (4, .int z_40), (3, .int z_39), (2, .int 2), (0, .ref h0)]) hx hb dX13_laysParts_206 hl (k := 3) rfl (by rw [ez_65]; rfl) (by decide +kernel) rfl (fun ls hl => ?_)
        have hz_659 : z_65.toInt = xx.toInt + 1 := by rw [ez_65]; exact inc1 (n := 1000) (by omega) (by decide +kernel)
        refine lv_goto (tgt := 2) hx hb dX13_laysParts_209 (by decide +kernel) ?_
        exact ih (z_65, (upd (upd e9 (xx.toNatClampNeg) z_43) (xx.toNatClampNeg) z_57), (upd p9 (xx.toNatClampNeg) z_60), (upd d9 (xx.toNatClampNeg) z_64)) ls _ _ ⟨lv_sub hl [0, 4] rfl, hP.sub [0, 1, 2, 3, 4, 5, 6, 7] rfl, hD.sub [0, 1, 2, 3, 4, 5, 6, 7] (by decide +kernel) rfl, hS, ⟨(by (try dsimp only); rw [hz_659]; omega), (by (try dsimp only); rw [upd_upd]; exact okE_step (n := 0) hEE (by omega) hz_659 (by omega) (fun hk9 => by exfalso; omega) (okR.late hokR)), (by (try dsimp only); rw [upd_upd]; exact mes_lp (okR.Nm hokR) (by omega) hz_659 hME (mesE_r8 (by have t9 := tn (x := f8 (xx.toNatClampNeg)) (by omega); omega) (endB_2 (by rw [← ez_2]; omega) ez_43 ez_41 ez_39 ez_42 ez_40) hxz_56 ez_57 ez_55) (mesM_r2 (by rw [← ez_2]; omega) ez_60 ez_58 ez_39 ez_59 ez_40) (mesD_r2 (by rw [← ez_2]; omega) ez_64 ez_63 ez_61 ez_39 ez_62 ez_40))⟩⟩ (by (try dsimp only); rw [hz_659]; omega)
end
section
/-! the reference's worths, laid clause by clause, from the last day back -/
/-- the first n clauses: kinds, names ahead, ends -/
def okX (fk fc fd fe : Nat → Int32) (n : Int) : Prop := ∀ j : Nat, (j : Int) < n → (0 ≤ (fk j).toInt ∧ (fk j).toInt ≤ 12) ∧ (1 ≤ (nmT (fk j).toNatClampNeg).toInt → 0 ≤ (fc j).toInt ∧ (fc j).toInt < j) ∧ ((nmT (fk j).toNatClampNeg).toInt = 2 → 0 ≤ (fd j).toInt ∧ (fd j).toInt < j) ∧ (fe j).toInt ≤ 6
theorem okX_of {fk fc fd fe : Nat → Int32} {n : Int} (h : okR fk fc fd) (e : okE fk fc fe n) (hn : n ≤ 24) : okX fk fc fd fe n := fun j hj => ⟨(h j (by omega)).1, (h j (by omega)).2.1, (h j (by omega)).2.2, (e j hj).1⟩
theorem valF_succX {l fk fn fc fd fe : Nat → Int32} {n : Int} (hok : okX fk fc fd fe n) (hn : n ≤ 24) : ∀ (d : Nat) (x t k : Int32), 0 ≤ x.toInt ∧ x.toInt < n → 0 ≤ t.toInt ∧ t.toInt ≤ 6 → x.toInt + (6 - t.toInt) < d → valF l fk fn fc fd fe (d + 1) x t k = valF l fk fn fc fd fe d x t k
  | 0, x, t, k, hx, ht, hd => by omega
  | d + 1, x, t, k, hx, ht, hd => by
    have ih := valF_succX (l := l) (fn := fn) hok hn d
    have h1 := tn hx.1
    obtain ⟨o1, o2, o3, o4⟩ := hok x.toNatClampNeg (by omega)
    have h2 := tn o1.1
    show stepW l fk fn fc fd fe (valF l fk fn fc fd fe (d + 1)) x t k = stepW l fk fn fc fd fe (valF l fk fn fc fd fe d) x t k
    refine step_ext (fun _ _ => rfl) (by omega) rfl rfl rfl o4 (fun q => ?_) (fun q => ?_) (fun q => ?_)
    · have c := o2 q
      exact ⟨rfl, rfl, ih _ _ _ ⟨c.1, by omega⟩ ht (by omega)⟩
    · have c := o3 q
      exact ⟨rfl, rfl, ih _ _ _ ⟨c.1, by omega⟩ ht (by omega)⟩
    · have e := inc1 (i := t) (n := 6) q (by decide +kernel)
      exact ⟨ih _ _ _ hx ⟨by omega, by omega⟩ (by omega), ih _ _ _ hx ⟨by omega, by omega⟩ (by omega)⟩
theorem VALX_step {l fk fn fc fd fe : Nat → Int32} {n : Int} (hok : okX fk fc fd fe n) (hn : n ≤ 24) {x t k : Int32} (hx : 0 ≤ x.toInt ∧ x.toInt < n) (ht : 0 ≤ t.toInt ∧ t.toInt ≤ 6) : VALW l fk fn fc fd fe x t k = stepW l fk fn fc fd fe (VALW l fk fn fc fd fe) x t k := (valF_succX hok hn 31 x t k hx ht (by omega)).symm
/-- laid so far: all of the clauses ahead of x; of x the days behind d, of day d the first k spots -/
def layJ (VV T : vaF) (x d k : Int) : Prop := ∀ y t s : Int32, spK t s → 0 ≤ y.toInt → (y.toInt < x ∨ (y.toInt = x ∧ (d < t.toInt ∨ (t.toInt = d ∧ s.toInt < k)))) → T y t s = VV y t s
theorem layJ_0 {VV T : vaF} : layJ VV T 0 6 0 := fun y t s h h0 h1 => by
  exfalso
  obtain ⟨⟨a, b⟩, c, d⟩ := h
  omega
theorem layJ_row {VV T : vaF} {x d k : Int} (h : layJ VV T x d k) (hk : d < k) : layJ VV T x (d - 1) 0 := fun y t s g h0 h1 => by
  have g2 := g
  obtain ⟨⟨a, b⟩, c, e⟩ := g2
  exact h y t s g h0 (by omega)
theorem layJ_cl {VV T : vaF} {x d : Int} (h : layJ VV T x d 0) (hd : d < 0) : layJ VV T (x + 1) 6 0 := fun y t s g h0 h1 => by
  have g2 := g
  obtain ⟨⟨a, b⟩, c, e⟩ := g2
  exact h y t s g h0 (by omega)
theorem layJ_put {VV T T' : vaF} {x d k : Int32} (h : layJ VV T x.toInt d.toInt k.toInt) (hne : ∀ y t s : Int32, spK t s → 0 ≤ y.toInt → y.toInt ≤ x.toInt → ¬ (y = x ∧ t = d ∧ s = k) → T' y t s = T y t s) (hv : T' x d k = VV x d k) : layJ VV T' x.toInt d.toInt (k.toInt + 1) := fun y t s g h0 h1 => by
  by_cases e : y = x ∧ t = d ∧ s = k
  · obtain ⟨rfl, rfl, rfl⟩ := e
    exact hv
  · have e2 : ¬ (y.toInt = x.toInt ∧ t.toInt = d.toInt ∧ s.toInt = k.toInt) := fun q => e ⟨Int32.toInt_inj.1 q.1, Int32.toInt_inj.1 q.2.1, Int32.toInt_inj.1 q.2.2⟩
    rw [hne y t s g h0 (by omega) e]
    exact h y t s g h0 (by omega)
theorem layJ_end {VV T : vaF} {x : Int} (h : layJ VV T x 6 0) {y t s : Int32} (g : spK t s) (h0 : 0 ≤ y.toInt) (h1 : y.toInt < x) : T y t s = VV y t s := h y t s g h0 (Or.inl h1)
theorem lay_val {l fk fn fc fd fe : Nat → Int32} {n : Int} {T : vaF} {x t k : Int32} (hok : okX fk fc fd fe n) (hn : n ≤ 24) (h : layJ (VALW l fk fn fc fd fe) T x.toInt t.toInt k.toInt) (hx : 0 ≤ x.toInt ∧ x.toInt < n) (ht : spK t k) : stepW l fk fn fc fd fe T x t k = VALW l fk fn fc fd fe x t k := by
  refine Eq.trans ?_ (VALX_step hok hn hx ht.1).symm
  have h1 := tn hx.1
  obtain ⟨o1, o2, o3, o4⟩ := hok x.toNatClampNeg (by omega)
  have h2 := tn o1.1
  have ht2 := ht
  obtain ⟨⟨a1, a2⟩, a3, a4⟩ := ht2
  refine step_ext (fun _ _ => rfl) (by omega) rfl rfl rfl o4 (fun q => ?_) (fun q => ?_) (fun q => ?_)
  · have c := o2 q
    exact ⟨rfl, rfl, h _ t k ht c.1 (Or.inl (by omega))⟩
  · have c := o3 q
    exact ⟨rfl, rfl, h _ t k ht c.1 (Or.inl (by omega))⟩
  · have e := inc1 (i := t) (n := 6) q (by decide +kernel)
    have e2 := inc1 (i := k) (n := 6) (by omega) (by decide +kernel)
    exact ⟨h x (t + 1) (k + 1) ⟨⟨by omega, by omega⟩, by omega, by omega⟩ hx.1 (Or.inr ⟨rfl, Or.inl (by omega)⟩), h x (t + 1) k ⟨⟨by omega, by omega⟩, by omega, by omega⟩ hx.1 (Or.inr ⟨rfl, Or.inl (by omega)⟩)⟩
/-- what is read of the table is in lowest terms -/
def lowS (T : vaF) (x t k : Int32) : Prop := (∀ y : Int32, 0 ≤ y.toInt → y.toInt < x.toInt → lowW (T y t k)) ∧ (t.toInt < 6 → lowW (T x (t + 1) (k + 1)) ∧ lowW (T x (t + 1) k))
theorem lay_low {l fk fn fc fd fe : Nat → Int32} {T : vaF} {x t k : Int32} (hl : (1 ≤ (l 4).toInt ∧ (l 4).toInt ≤ 9) ∧ 1 ≤ (l 6).toInt ∧ (l 6).toInt ≤ 9) (h : layJ (VALW l fk fn fc fd fe) T x.toInt t.toInt k.toInt) (hx : 0 ≤ x.toInt) (ht : spK t k) : lowS T x t k := by
  have ht2 := ht
  obtain ⟨⟨a1, a2⟩, a3, a4⟩ := ht2
  refine ⟨fun y b1 b2 => ?_, fun q => ?_⟩
  · rw [h y t k ht b1 (Or.inl b2)]
    exact VAL_low hl.1 hl.2 31 _ _ _
  · have e := inc1 (i := t) (n := 6) q (by decide +kernel)
    have e2 := inc1 (i := k) (n := 6) (by omega) (by decide +kernel)
    rw [h x (t + 1) (k + 1) ⟨⟨by omega, by omega⟩, by omega, by omega⟩ hx (Or.inr ⟨rfl, Or.inl (by omega)⟩), h x (t + 1) k ⟨⟨by omega, by omega⟩, by omega, by omega⟩ hx (Or.inr ⟨rfl, Or.inl (by omega)⟩)]
    exact ⟨VAL_low hl.1 hl.2 31 _ _ _, VAL_low hl.1 hl.2 31 _ _ _⟩
theorem avg_low {l : Nat → Int32} {T : vaF} {x t k : Int32} (hl : (1 ≤ (l 4).toInt ∧ (l 4).toInt ≤ 9) ∧ 1 ≤ (l 6).toInt ∧ (l 6).toInt ≤ 9) (h : lowW (T x (t + 1) (k + 1)) ∧ lowW (T x (t + 1) k)) : lowW (avgW l T x t k) := mulW_low (addW_low (mulW_low h.1 (by decide +kernel)) (mulW_low h.2 (by decide +kernel))) (wt_pos hl.1 hl.2)
/-! the table, as values are put there -/
theorem mp_any {b : Int32} {v w v' w' : Int64} (h : ¬ b.toInt = 0) : mpW b v w = mpW b v' w' := by rw [mp_n h, mp_n h]
theorem mp_nar {b : Int32} {v w : Int64} (h : isB b) : mpW (vp_nar .boolean b) v w = mpW b v w := by
  unfold mpW
  rw [(isB.n h).2]
theorem upd_at9 {f : Nat → Int32} {k : Nat} {v : Int32} : upd f k v k = v := by simp only [upd, if_pos]
theorem tab_put {g20 g21 : Nat → Int64} {g22 : Nat → Int32} {x t k : Int32} {s : Nat} {b : Int32} {v w : Int64} {p : Int64 × Int64} (hs : s = slN x t k) (hb : isB b) (h : mpW b v w = p) : tabW (vp_updL g20 s v) (vp_updL g21 s w) (upd g22 s (vp_nar .boolean b)) x t k = p := by
  show mpW (upd g22 s (vp_nar .boolean b) (slN x t k)) (vp_updL g20 s v (slN x t k)) (vp_updL g21 s w (slN x t k)) = p
  rw [← hs, upd_at9, updL_at, updL_at, mp_nar hb]
  exact h
theorem tab_ne {g20 g21 : Nat → Int64} {g22 : Nat → Int32} {x d k : Int32} {s0 : Nat} {b : Int32} {v w : Int64} (hs : s0 = slN x d k) (hx : 0 ≤ x.toInt ∧ x.toInt < 24) (hd : spK d k) : ∀ y t s : Int32, spK t s → 0 ≤ y.toInt → y.toInt ≤ x.toInt → ¬ (y = x ∧ t = d ∧ s = k) → tabW (vp_updL g20 s0 v) (vp_updL g21 s0 w) (upd g22 s0 b) y t s = tabW g20 g21 g22 y t s := by
  intro y t s g h0 h1 hne
  have e : slN y t s ≠ s0 := fun e => hne (slN_inj ⟨h0, by omega⟩ g.1 g.2 hx hd.1 hd.2 (e.trans hs))
  show mpW (upd g22 s0 b (slN y t s)) (vp_updL g20 s0 v (slN y t s)) (vp_updL g21 s0 w (slN y t s)) = mpW (g22 (slN y t s)) (g20 (slN y t s)) (g21 (slN y t s))
  rw [updL_ne e, updL_ne e]
  simp only [upd, if_neg e]
theorem tab_mu {f20 f21 : Nat → Int64} {f22 : Nat → Int32} {x t k : Int32} (h : 1 ≤ (f21 (slN x t k)).toInt) : (tabW f20 f21 f22 x t k).2.toInt = 0 ↔ ¬ (f22 (slN x t k)).toInt = 0 := by
  show (mpW (f22 (slN x t k)) (f20 (slN x t k)) (f21 (slN x t k))).2.toInt = 0 ↔ _
  by_cases c : (f22 (slN x t k)).toInt = 0
  · rw [mp_y c]
    show (f21 (slN x t k)).toInt = 0 ↔ _
    omega
  · rw [mp_n c]
    exact ⟨fun _ => c, fun _ => by decide⟩
theorem tab_y {f20 f21 : Nat → Int64} {f22 : Nat → Int32} {x t k : Int32} (h : (f22 (slN x t k)).toInt = 0) : tabW f20 f21 f22 x t k = (f20 (slN x t k), f21 (slN x t k)) := mp_y h
theorem tab_n {f20 f21 : Nat → Int64} {f22 : Nat → Int32} {x t k : Int32} (h : ¬ (f22 (slN x t k)).toInt = 0) : tabW f20 f21 f22 x t k = (0, 0) := mp_n h
theorem red_01 : redW 0 1 = (0, 1) := by decide +kernel
theorem red_11 : redW 1 1 = (1, 1) := by decide +kernel
theorem mp_bec {b : Int32} {u v a c : Int64} {p : Int64 × Int64} (h0 : b.toInt = 0) (h : b.toInt = 0 → ((u, v) : Int64 × Int64) = redW a c) (e : redW a c = p) : mpW b u v = p := by rw [mp_y h0, h h0, e]
/-! which one, as the reference tells it -/
theorem n5_ne {z : Int32} (h : 0 ≤ z.toInt) : ¬ z = -5 := fun e => by
  rw [e] at h
  exact absurd h (by decide +kernel)
theorem bw_eq {p q : Int64 × Int64} (hp : lowW p) (hq : lowW q) (m : ¬ (p.2.toInt = 0 ∨ q.2.toInt = 0)) (c : cmpP p q = 0) : p = q := low_eq hp hq (fun h => m (Or.inl h)) (fun h => m (Or.inr h)) c
section
variable {l fk fn fc fd fe : Nat → Int32} {T : vaF} {x t k : Int32} {mp : Int64 × Int64}
theorem lc_2 (he : ¬ (fe x.toNatClampNeg).toInt < t.toInt) (hk : (fk x.toNatClampNeg).toNatClampNeg = 2) (h : mp = mulW (T (fc x.toNatClampNeg) t k) (-1) 1) : mp = stepW l fk fn fc fd fe T x t k := by
  rw [sw_2 he hk]
  exact h
theorem lc_3 (he : ¬ (fe x.toNatClampNeg).toInt < t.toInt) (hk : (fk x.toNatClampNeg).toNatClampNeg = 3) (h : mp = mulW (T (fc x.toNatClampNeg) t k) (fn x.toNatClampNeg).toInt64 1) : mp = stepW l fk fn fc fd fe T x t k := by
  rw [sw_3 he hk]
  exact h
theorem lc_4 (he : ¬ (fe x.toNatClampNeg).toInt < t.toInt) (hk : (fk x.toNatClampNeg).toNatClampNeg = 4) (h : mp = mulW (T (fc x.toNatClampNeg) t k) (prW l t k).toInt64 1) : mp = stepW l fk fn fc fd fe T x t k := by
  rw [sw_4 he hk]
  exact h
theorem lc_5 (he : ¬ (fe x.toNatClampNeg).toInt < t.toInt) (hk : (fk x.toNatClampNeg).toNatClampNeg = 5) (h : mp = addW (T (fc x.toNatClampNeg) t k) (T (fd x.toNatClampNeg) t k)) : mp = stepW l fk fn fc fd fe T x t k := by
  rw [sw_5 he hk]
  exact h
theorem lc_8 (he : ¬ (fe x.toNatClampNeg).toInt < t.toInt) (hk : (fk x.toNatClampNeg).toNatClampNeg = 8) (hcn : 0 ≤ (fc x.toNatClampNeg).toInt) (h : mp = T (fc x.toNatClampNeg) t k) : mp = stepW l fk fn fc fd fe T x t k := by
  rw [sw_p he (by omega), pk_8 hk, if_neg (n5_ne hcn)]
  exact h
theorem lc_12y (he : ¬ (fe x.toNatClampNeg).toInt < t.toInt) (hk : (fk x.toNatClampNeg).toNatClampNeg = 12) (c : (fn x.toNatClampNeg).toInt ≤ (prW l t k).toInt) (hcn : 0 ≤ (fc x.toNatClampNeg).toInt) (h : mp = T (fc x.toNatClampNeg) t k) : mp = stepW l fk fn fc fd fe T x t k := by
  rw [sw_p he (by omega), pk_12y hk c, if_neg (n5_ne hcn)]
  exact h
theorem lc_12n (he : ¬ (fe x.toNatClampNeg).toInt < t.toInt) (hk : (fk x.toNatClampNeg).toNatClampNeg = 12) (c : ¬ (fn x.toNatClampNeg).toInt ≤ (prW l t k).toInt) (hdn : 0 ≤ (fd x.toNatClampNeg).toInt) (h : mp = T (fd x.toNatClampNeg) t k) : mp = stepW l fk fn fc fd fe T x t k := by
  rw [sw_p he (by omega), pk_12n hk c, if_neg (n5_ne hdn)]
  exact h
theorem lc_d (he : ¬ (fe x.toNatClampNeg).toInt < t.toInt) (hk : (fk x.toNatClampNeg).toNatClampNeg = 6 ∨ (fk x.toNatClampNeg).toNatClampNeg = 7 ∨ (fk x.toNatClampNeg).toNatClampNeg = 9) (c : (fe (fc x.toNatClampNeg).toNatClampNeg).toInt < t.toInt) (hdn : 0 ≤ (fd x.toNatClampNeg).toInt) (h : mp = T (fd x.toNatClampNeg) t k) : mp = stepW l fk fn fc fd fe T x t k := by
  rw [sw_p he (by omega), pk_c (by omega) (by omega) c, if_neg (n5_ne hdn)]
  exact h
theorem lc_c (he : ¬ (fe x.toNatClampNeg).toInt < t.toInt) (hk : (fk x.toNatClampNeg).toNatClampNeg = 6 ∨ (fk x.toNatClampNeg).toNatClampNeg = 7 ∨ (fk x.toNatClampNeg).toNatClampNeg = 9) (c : ¬ (fe (fc x.toNatClampNeg).toNatClampNeg).toInt < t.toInt) (d : (fk x.toNatClampNeg).toNatClampNeg = 9 ∨ (fe (fd x.toNatClampNeg).toNatClampNeg).toInt < t.toInt) (hcn : 0 ≤ (fc x.toNatClampNeg).toInt) (h : mp = T (fc x.toNatClampNeg) t k) : mp = stepW l fk fn fc fd fe T x t k := by
  rw [sw_p he (by omega), pk_d (by omega) (by omega) c d, if_neg (n5_ne hcn)]
  exact h
theorem lc_b {s : Int} (he : ¬ (fe x.toNatClampNeg).toInt < t.toInt) (c : ¬ (fe (fc x.toNatClampNeg).toNatClampNeg).toInt < t.toInt) (d : ¬ (fe (fd x.toNatClampNeg).toNatClampNeg).toInt < t.toInt) (hcn : 0 ≤ (fc x.toNatClampNeg).toInt) (hdn : 0 ≤ (fd x.toNatClampNeg).toInt) (h1 : lowW (T (fc x.toNatClampNeg) t k)) (h2 : lowW (T (fd x.toNatClampNeg) t k)) (hs : ((fk x.toNatClampNeg).toNatClampNeg = 6 ∧ s = 1) ∨ ((fk x.toNatClampNeg).toNatClampNeg = 7 ∧ s = -1)) (h : mp = bestW (T (fc x.toNatClampNeg) t k) (T (fd x.toNatClampNeg) t k) s) : mp = stepW l fk fn fc fd fe T x t k := by
  rw [sw_p he (by omega), h]
  have h8 : ¬ (fk x.toNatClampNeg).toNatClampNeg = 8 := by omega
  have h12 : ¬ (fk x.toNatClampNeg).toNatClampNeg = 12 := by omega
  have hdd : ¬ ((fk x.toNatClampNeg).toNatClampNeg = 9 ∨ (fe (fd x.toNatClampNeg).toNatClampNeg).toInt < t.toInt) := by omega
  have ha := cmpP_anti (T (fc x.toNatClampNeg) t k) (T (fd x.toNatClampNeg) t k)
  unfold bestW
  by_cases m : (T (fc x.toNatClampNeg) t k).2.toInt = 0 ∨ (T (fd x.toNatClampNeg) t k).2.toInt = 0
  · rw [if_pos m, pk_m h8 h12 c hdd m, if_pos rfl]
  · rw [if_neg m]
    by_cases y : ((fk x.toNatClampNeg).toNatClampNeg = 6 ∧ 0 < cmpP (T (fd x.toNatClampNeg) t k) (T (fc x.toNatClampNeg) t k)) ∨ ((fk x.toNatClampNeg).toNatClampNeg ≠ 6 ∧ cmpP (T (fd x.toNatClampNeg) t k) (T (fc x.toNatClampNeg) t k) < 0)
    · rw [pk_y h8 h12 c hdd m y, if_neg (n5_ne hdn)]
      rcases hs with ⟨s1, rfl⟩ | ⟨s1, rfl⟩
      · rw [if_neg (by omega)]
      · rw [if_neg (by omega)]
    · rw [pk_n h8 h12 c hdd m y, if_neg (n5_ne hcn)]
      by_cases z : cmpP (T (fc x.toNatClampNeg) t k) (T (fd x.toNatClampNeg) t k) = 0
      · have e := bw_eq h1 h2 m z
        split
        · rfl
        · exact e.symm
      · rcases hs with ⟨s1, rfl⟩ | ⟨s1, rfl⟩
        · rw [if_pos (by omega)]
        · rw [if_pos (by omega)]
theorem lc_10n (he : ¬ (fe x.toNatClampNeg).toInt < t.toInt) (hk : (fk x.toNatClampNeg).toNatClampNeg = 10) (c : t.toInt = (fe x.toNatClampNeg).toInt) (h : mp = T (fc x.toNatClampNeg) t k) : mp = stepW l fk fn fc fd fe T x t k := by
  rw [sw_10 he hk, if_pos c]
  exact h
theorem lc_10m (he : ¬ (fe x.toNatClampNeg).toInt < t.toInt) (hk : (fk x.toNatClampNeg).toNatClampNeg = 10) (c : ¬ t.toInt = (fe x.toNatClampNeg).toInt) (h : mp = avgW l T x t k) : mp = stepW l fk fn fc fd fe T x t k := by
  rw [sw_10 he hk, if_neg c]
  exact h
theorem lc_11n (he : ¬ (fe x.toNatClampNeg).toInt < t.toInt) (hk : (fk x.toNatClampNeg).toNatClampNeg = 11) (c : t.toInt = (fe x.toNatClampNeg).toInt) (h : mp = T (fc x.toNatClampNeg) t k) : mp = stepW l fk fn fc fd fe T x t k := by
  rw [sw_11 he hk, if_pos c]
  exact h
theorem lc_11m (he : ¬ (fe x.toNatClampNeg).toInt < t.toInt) (hk : (fk x.toNatClampNeg).toNatClampNeg = 11) (c : ¬ t.toInt = (fe x.toNatClampNeg).toInt) (h1 : lowW (avgW l T x t k)) (h2 : lowW (T (fc x.toNatClampNeg) t k)) (h : mp = bestW (avgW l T x t k) (T (fc x.toNatClampNeg) t k) 1) : mp = stepW l fk fn fc fd fe T x t k := by
  rw [sw_11 he hk, if_neg c, h]
  have ha := cmpP_anti (avgW l T x t k) (T (fc x.toNatClampNeg) t k)
  unfold bestW maxW
  by_cases m : (avgW l T x t k).2.toInt = 0 ∨ (T (fc x.toNatClampNeg) t k).2.toInt = 0
  · rw [if_pos m, if_pos m]
  · rw [if_neg m, if_neg m]
    by_cases z : cmpP (avgW l T x t k) (T (fc x.toNatClampNeg) t k) = 0
    · have e := bw_eq h1 h2 m z
      rw [if_neg (by omega), if_neg (by omega)]
      exact e.symm
    · by_cases y : 0 < cmpP (avgW l T x t k) (T (fc x.toNatClampNeg) t k)
      · rw [if_pos (by omega), if_neg (by omega)]
      · rw [if_neg (by omega), if_pos (by omega)]
theorem lc_e (h : (fe x.toNatClampNeg).toInt < t.toInt) (e : mp = (0, 1)) : mp = stepW l fk fn fc fd fe T x t k := by rw [sw_e h, e]
theorem lc_0 (he : ¬ (fe x.toNatClampNeg).toInt < t.toInt) (hk : (fk x.toNatClampNeg).toNatClampNeg = 0) (e : mp = (0, 1)) : mp = stepW l fk fn fc fd fe T x t k := by rw [sw_0 he hk, e]
theorem lc_1 (he : ¬ (fe x.toNatClampNeg).toInt < t.toInt) (hk : (fk x.toNatClampNeg).toNatClampNeg = 1) (e : mp = (1, 1)) : mp = stepW l fk fn fc fd fe T x t k := by rw [sw_1 he hk, e]
end
end
section
theorem dX13_takes_0 : decode cX13_takes 0 = .ok (.iload_n 1, 1) := by decide +kernel
theorem dX13_takes_1 : decode cX13_takes 1 = .ok (.iload_n 2, 1) := by decide +kernel
theorem dX13_takes_10 : decode cX13_takes 10 = .ok (.getfield 131, 3) := by decide +kernel
theorem dX13_takes_13 : decode cX13_takes 13 = .ok (.aload_n 0, 1) := by decide +kernel
theorem dX13_takes_14 : decode cX13_takes 14 = .ok (.getfield 63, 3) := by decide +kernel
theorem dX13_takes_17 : decode cX13_takes 17 = .ok (.iload 4, 2) := by decide +kernel
theorem dX13_takes_19 : decode cX13_takes 19 = .ok (.baload, 1) := by decide +kernel
theorem dX13_takes_2 : decode cX13_takes 2 = .ok (.iload_n 3, 1) := by decide +kernel
theorem dX13_takes_20 : decode cX13_takes 20 = .ok (.ior, 1) := by decide +kernel
theorem dX13_takes_21 : decode cX13_takes 21 = .ok (.putfield 131, 3) := by decide +kernel
theorem dX13_takes_24 : decode cX13_takes 24 = .ok (.aload_n 0, 1) := by decide +kernel
theorem dX13_takes_25 : decode cX13_takes 25 = .ok (.aload_n 0, 1) := by decide +kernel
theorem dX13_takes_26 : decode cX13_takes 26 = .ok (.getfield 56, 3) := by decide +kernel
theorem dX13_takes_29 : decode cX13_takes 29 = .ok (.iload 4, 2) := by decide +kernel
theorem dX13_takes_3 : decode cX13_takes 3 = .ok (.invokestatic 239, 3) := by decide +kernel
theorem dX13_takes_31 : decode cX13_takes 31 = .ok (.laload, 1) := by decide +kernel
theorem dX13_takes_32 : decode cX13_takes 32 = .ok (.putfield 145, 3) := by decide +kernel
theorem dX13_takes_35 : decode cX13_takes 35 = .ok (.aload_n 0, 1) := by decide +kernel
theorem dX13_takes_36 : decode cX13_takes 36 = .ok (.aload_n 0, 1) := by decide +kernel
theorem dX13_takes_37 : decode cX13_takes 37 = .ok (.getfield 60, 3) := by decide +kernel
theorem dX13_takes_40 : decode cX13_takes 40 = .ok (.iload 4, 2) := by decide +kernel
theorem dX13_takes_42 : decode cX13_takes 42 = .ok (.laload, 1) := by decide +kernel
theorem dX13_takes_43 : decode cX13_takes 43 = .ok (.putfield 149, 3) := by decide +kernel
theorem dX13_takes_46 : decode cX13_takes 46 = .ok (.return_, 1) := by decide +kernel
theorem dX13_takes_6 : decode cX13_takes 6 = .ok (.istore 4, 2) := by decide +kernel
theorem dX13_takes_8 : decode cX13_takes 8 = .ok (.aload_n 0, 1) := by decide +kernel
theorem dX13_takes_9 : decode cX13_takes 9 = .ok (.dup, 1) := by decide +kernel
set_option maxRecDepth 20000 in
theorem ggX13_takes_X13_at : GoodIn wsX13_takes wsX13_at := goodIn_r _ [10] rfl (by decide +kernel)
set_option maxRecDepth 20000 in
theorem gX13_takes_X13_at : GoodIn wsX13_takes (va_wsS RX13 239 yX13_at wsX13_at) := goodIn_app (goodIn_of _ (by decide +kernel)) ggX13_takes_X13_at
theorem hs_X13_at : yX13_at.cls ≠ "java/lang/invoke/MethodHandle" ∧ yX13_at.cls ≠ "java/lang/invoke/VarHandle" ∧ (parseMethodDescriptor yX13_at.desc).map (fun d => d.parameters.length) = some 3 := by decide +kernel
set_option maxRecDepth 20000 in
theorem in_X13_takes_X13 : ∀ w ∈ wsX130, w ∈ wsX13_takes := sub_r [11, 12, 13, 14, 15, 16, 17, 18, 19, 20, 21, 22, 23, 24, 25, 26, 27, 28, 29, 30, 31, 32, 33, 34, 35, 36, 37, 38, 39, 40, 41, 42, 43, 44, 45, 46, 47, 48, 49, 50, 51, 52, 53, 54, 55] rfl
set_option maxHeartbeats 4000000 in
set_option maxRecDepth 100000 in
theorem c_X13_takes (l : Launch) (D : va_G) (T : Nat → ClassId) (sz : Nat) (h0 : Nat) (q : Nat → Int32) (v : Int64) (w : Int64) (a : Nat → Nat) (f20 : Nat → Int64) (f21 : Nat → Int64) (f22 : Nat → Int32) (x1 : Int32) (x2 : Int32) (x3 : Int32) (hB : isB (q 14)) (hZ : ∀ j : Nat, isB (f22 j)) (hx1 : 0 ≤ x1.toInt ∧ x1.toInt < 24) (hx2 : 0 ≤ x2.toInt ∧ x2.toInt ≤ 6) (hx3 : 0 ≤ x3.toInt ∧ x3.toInt ≤ x2.toInt) (hb1 : ∀ j : Nat, (j : Int) = 28 * x1.toInt + tri x2.toInt + x3.toInt → 1 ≤ (f21 j).toInt) : Met l yX13_takes wsX13_takes ({ frames := 1, cells := 0, slots := 0, locals := 22 }) (pW [.ref h0, .int x1, .int x2, .int x3] D T [(h0, .inr (10, (Value.int (q 0) :: Value.int (q 1) :: Value.int (q 2) :: Value.int (q 3) :: Value.int (q 4) :: Value.int (q 5) :: Value.int (q 6) :: Value.int (q 7) :: Value.ref (a 8) :: Value.ref (a 9) :: Value.ref (a 10) :: Value.ref (a 11) :: Value.ref (a 12) :: Value.ref (a 13) :: Value.int (q 14) :: Value.long v :: Value.long w :: Value.ref (a 17) :: Value.ref (a 18) :: Value.ref (a 19) :: Value.ref (a 20) :: Value.ref (a 21) :: Value.ref (a 22) :: Value.ref (a 23) :: Value.int (q 24) :: Value.ref (a 25) :: Value.int (q 26) :: Value.ref (a 27) :: Value.int (q 28) :: Value.int (q 29) :: Value.int (q 30) :: Value.int (q 31) :: Value.int (q 32) :: Value.int (q 33) :: Value.ref (a 34) :: Value.ref (a 35) :: Value.ref (a 36) :: Value.ref (a 37) :: Value.ref (a 38) :: Value.ref (a 39) :: Value.ref (a 40) :: Value.int (q 41) :: Value.ref (a 42) :: Value.int (q 43) :: Value.int (q 44) :: []))), ((a 20), .inl (T 1, 672, .inr (.inl f20))), ((a 21), .inl (T 1, 672, .inr (.inl f21))), ((a 22), .inl (T 4, 672, .inl f22))] sz) (va_Qv (fun (u : (Int32) × (Int64) × (Int64)) => (isB u.1) ∧ (1 ≤ u.2.2.toInt) ∧ ((u.1 : Int32).toInt = 0 ↔ (((q 14) : Int32).toInt = 0 ∧ (f22 (slN x1 x2 x3)).toInt = 0)) ∧ (u.2.1 = f20 (slN x1 x2 x3)) ∧ (u.2.2 = f21 (slN x1 x2 x3))) (bW D (va_A [(h0, .inr (10, (Value.int (q 0) :: Value.int (q 1) :: Value.int (q 2) :: Value.int (q 3) :: Value.int (q 4) :: Value.int (q 5) :: Value.int (q 6) :: Value.int (q 7) :: Value.ref (a 8) :: Value.ref (a 9) :: Value.ref (a 10) :: Value.ref (a 11) :: Value.ref (a 12) :: Value.ref (a 13) :: Value.int (q 14) :: Value.long v :: Value.long w :: Value.ref (a 17) :: Value.ref (a 18) :: Value.ref (a 19) :: Value.ref (a 20) :: Value.ref (a 21) :: Value.ref (a 22) :: Value.ref (a 23) :: Value.int (q 24) :: Value.ref (a 25) :: Value.int (q 26) :: Value.ref (a 27) :: Value.int (q 28) :: Value.int (q 29) :: Value.int (q 30) :: Value.int (q 31) :: Value.int (q 32) :: Value.int (q 33) :: Value.ref (a 34) :: Value.ref (a 35) :: Value.ref (a 36) :: Value.ref (a 37) :: Value.ref (a 38) :: Value.ref (a 39) :: Value.ref (a 40) :: Value.int (q 41) :: Value.ref (a 42) :: Value.int (q 43) :: Value.int (q 44) :: []))), ((a 20), .inl (T 1, 672, .inr (.inl f20))), ((a 21), .inl (T 1, 672, .inr (.inl f21))), ((a 22), .inl (T 4, 672, .inl f22))] sz) (fun (u : (Int32) × (Int64) × (Int64)) => [(h0, .inr (10, (Value.int (q 0) :: Value.int (q 1) :: Value.int (q 2) :: Value.int (q 3) :: Value.int (q 4) :: Value.int (q 5) :: Value.int (q 6) :: Value.int (q 7) :: Value.ref (a 8) :: Value.ref (a 9) :: Value.ref (a 10) :: Value.ref (a 11) :: Value.ref (a 12) :: Value.ref (a 13) :: Value.int u.1 :: Value.long u.2.1 :: Value.long u.2.2 :: Value.ref (a 17) :: Value.ref (a 18) :: Value.ref (a 19) :: Value.ref (a 20) :: Value.ref (a 21) :: Value.ref (a 22) :: Value.ref (a 23) :: Value.int (q 24) :: Value.ref (a 25) :: Value.int (q 26) :: Value.ref (a 27) :: Value.int (q 28) :: Value.int (q 29) :: Value.int (q 30) :: Value.int (q 31) :: Value.int (q 32) :: Value.int (q 33) :: Value.ref (a 34) :: Value.ref (a 35) :: Value.ref (a 36) :: Value.ref (a 37) :: Value.ref (a 38) :: Value.ref (a 39) :: Value.ref (a 40) :: Value.int (q 41) :: Value.ref (a 42) :: Value.int (q 43) :: Value.int (q 44) :: []))), ((a 20), .inl (T 1, 672, .inr (.inl f20))), ((a 21), .inl (T 1, 672, .inr (.inl f21))), ((a 22), .inl (T 4, 672, .inl f22))])) (va_A [(h0, .inr (10, (Value.int (q 0) :: Value.int (q 1) :: Value.int (q 2) :: Value.int (q 3) :: Value.int (q 4) :: Value.int (q 5) :: Value.int (q 6) :: Value.int (q 7) :: Value.ref (a 8) :: Value.ref (a 9) :: Value.ref (a 10) :: Value.ref (a 11) :: Value.ref (a 12) :: Value.ref (a 13) :: Value.int (q 14) :: Value.long v :: Value.long w :: Value.ref (a 17) :: Value.ref (a 18) :: Value.ref (a 19) :: Value.ref (a 20) :: Value.ref (a 21) :: Value.ref (a 22) :: Value.ref (a 23) :: Value.int (q 24) :: Value.ref (a 25) :: Value.int (q 26) :: Value.ref (a 27) :: Value.int (q 28) :: Value.int (q 29) :: Value.int (q 30) :: Value.int (q 31) :: Value.int (q 32) :: Value.int (q 33) :: Value.ref (a 34) :: Value.ref (a 35) :: Value.ref (a 36) :: Value.ref (a 37) :: Value.ref (a 38) :: Value.ref (a 39) :: Value.ref (a 40) :: Value.int (q 41) :: Value.ref (a 42) :: Value.int (q 43) :: Value.int (q 44) :: []))), ((a 20), .inl (T 1, 672, .inr (.inl f20))), ((a 21), .inl (T 1, 672, .inr (.inl f21))), ((a 22), .inl (T 4, 672, .inl f22))] sz)) 0 0 (va_A [(h0, .inr (10, (Value.int (q 0) :: Value.int (q 1) :: Value.int (q 2) :: Value.int (q 3) :: Value.int (q 4) :: Value.int (q 5) :: Value.int (q 6) :: Value.int (q 7) :: Value.ref (a 8) :: Value.ref (a 9) :: Value.ref (a 10) :: Value.ref (a 11) :: Value.ref (a 12) :: Value.ref (a 13) :: Value.int (q 14) :: Value.long v :: Value.long w :: Value.ref (a 17) :: Value.ref (a 18) :: Value.ref (a 19) :: Value.ref (a 20) :: Value.ref (a 21) :: Value.ref (a 22) :: Value.ref (a 23) :: Value.int (q 24) :: Value.ref (a 25) :: Value.int (q 26) :: Value.ref (a 27) :: Value.int (q 28) :: Value.int (q 29) :: Value.int (q 30) :: Value.int (q 31) :: Value.int (q 32) :: Value.int (q 33) :: Value.ref (a 34) :: Value.ref (a 35) :: Value.ref (a 36) :: Value.ref (a 37) :: Value.ref (a 38) :: Value.ref (a 39) :: Value.ref (a 40) :: Value.int (q 41) :: Value.ref (a 42) :: Value.int (q 43) :: Value.int (q 44) :: []))), ((a 20), .inl (T 1, 672, .inr (.inl f20))), ((a 21), .inl (T 1, 672, .inr (.inl f21))), ((a 22), .inl (T 4, 672, .inl f22))] sz) := by
  refine Met.ofW (cc := cX13_takes) (maxL := 5) (ret := none) (by decide +kernel) rfl ?_
  intro p e s m args below meth c s₁ B hml hv
  obtain ⟨rfl, hsz, hP, hE, hD0⟩ := hv
  have hx := B.exec
  have hb := B.bytes
  have hr := B.returns
  have hts := atoms_spec (ws := wsX13_takes) B.pre
  have hown : s.vm.findClass RX13 = some m.cls := findClass_of_methodNamed B.named
  have hlocks := B.notSynchronized
  subst hsz
  have hD := hD0.self (sz := s.heap.size)
  generalize hAe : va_A [(h0, .inr (10, (Value.int (q 0) :: Value.int (q 1) :: Value.int (q 2) :: Value.int (q 3) :: Value.int (q 4) :: Value.int (q 5) :: Value.int (q 6) :: Value.int (q 7) :: Value.ref (a 8) :: Value.ref (a 9) :: Value.ref (a 10) :: Value.ref (a 11) :: Value.ref (a 12) :: Value.ref (a 13) :: Value.int (q 14) :: Value.long v :: Value.long w :: Value.ref (a 17) :: Value.ref (a 18) :: Value.ref (a 19) :: Value.ref (a 20) :: Value.ref (a 21) :: Value.ref (a 22) :: Value.ref (a 23) :: Value.int (q 24) :: Value.ref (a 25) :: Value.int (q 26) :: Value.ref (a 27) :: Value.int (q 28) :: Value.int (q 29) :: Value.int (q 30) :: Value.int (q 31) :: Value.int (q 32) :: Value.int (q 33) :: Value.ref (a 34) :: Value.ref (a 35) :: Value.ref (a 36) :: Value.ref (a 37) :: Value.ref (a 38) :: Value.ref (a 39) :: Value.ref (a 40) :: Value.int (q 41) :: Value.ref (a 42) :: Value.int (q 43) :: Value.int (q 44) :: []))), ((a 20), .inl (T 1, 672, .inr (.inl f20))), ((a 21), .inl (T 1, 672, .inr (.inl f21))), ((a 22), .inl (T 4, 672, .inl f22))] s.heap.size = A at hD ⊢
  have hA : ∀ q : Nat, s.heap.size ≤ q → A q := fun q h => by rw [← hAe]; exact Or.inr h
  have hS : va_S A s.heap s.heap [] := va_S.rf
  have hP : va_P D vwCl [(h0, .inr (10, (Value.int (q 0) :: Value.int (q 1) :: Value.int (q 2) :: Value.int (q 3) :: Value.int (q 4) :: Value.int (q 5) :: Value.int (q 6) :: Value.int (q 7) :: Value.ref (a 8) :: Value.ref (a 9) :: Value.ref (a 10) :: Value.ref (a 11) :: Value.ref (a 12) :: Value.ref (a 13) :: Value.int (q 14) :: Value.long v :: Value.long w :: Value.ref (a 17) :: Value.ref (a 18) :: Value.ref (a 19) :: Value.ref (a 20) :: Value.ref (a 21) :: Value.ref (a 22) :: Value.ref (a 23) :: Value.int (q 24) :: Value.ref (a 25) :: Value.int (q 26) :: Value.ref (a 27) :: Value.int (q 28) :: Value.int (q 29) :: Value.int (q 30) :: Value.int (q 31) :: Value.int (q 32) :: Value.int (q 33) :: Value.ref (a 34) :: Value.ref (a 35) :: Value.ref (a 36) :: Value.ref (a 37) :: Value.ref (a 38) :: Value.ref (a 39) :: Value.ref (a 40) :: Value.int (q 41) :: Value.ref (a 42) :: Value.int (q 43) :: Value.int (q 44) :: []))), ((a 20), .inl (T 1, 672, .inr (.inl f20))), ((a 21), .inl (T 1, 672, .inr (.inl f21))), ((a 22), .inl (T 4, 672, .inl f22))] s.heap := hP
  have hl := lv_entry ([.ref h0, .int x1, .int x2, .int x3]) (n := 5) (Nat.le_of_ble_eq_true rfl)
  rw [lg_entry_eq]
  generalize (lg_sl ([.ref h0, .int x1, .int x2, .int x3]) ++ List.replicate (5 - (lg_sl ([.ref h0, .int x1, .int x2, .int x3])).length) Slot.unset).toArray = ls at hl ⊢
  have hl : lv_has ls 5 [(0, .ref h0), (1, .int x1), (2, .int x2), (3, .int x3)] := hl
  clear hD0
  refine lv_iload_n hx hb dX13_takes_0 rfl (lv_at hl 1 rfl) ?_
  refine lv_iload_n hx hb dX13_takes_1 rfl (lv_at hl 2 rfl) ?_
  refine lv_iload_n hx hb dX13_takes_2 rfl (lv_at hl 3 rfl) ?_
  refine vp_callSi (W.runS (As := [.int x1, .int x2, .int x3]) (rest := []) ⟨hx, hb, hml, hown, hts⟩ (c_X13_at l D T x1 x2 x3 (by (try simp only [ti_0]); omega) (by (try simp only [ti_0]); omega) (by (try simp only [ti_0]); omega)) (va_cwS 3 hts gX13_takes_X13_at rfl rfl rfl hs_X13_at ⟨Nat.le_of_ble_eq_true rfl, Nat.le_of_ble_eq_true rfl⟩) (pR_S hP hE [] rfl) rfl rfl hl.1 rfl (lv_room (Nat.le_of_ble_eq_true rfl)) dX13_takes_3 ⟨Nat.le_of_ble_eq_true rfl, Nat.le_of_ble_eq_true rfl⟩) (fun r_1 hr_1 => ?_)
  refine lv_istore (lv' := [(4, .int r_1), (0, .ref h0), (1, .int x1), (2, .int x2), (3, .int x3)]) hx hb dX13_takes_6 hl (by decide +kernel) rfl (fun ls hl => ?_)
  refine lv_aload_n hx hb dX13_takes_8 rfl (lv_at hl 1 rfl) ?_
  refine lv_dup hx hb dX13_takes_9 rfl ?_
  refine va_get (D := D) (ci := 10) (v := .int (q 14)) (C := RX13) (T := TX13) (N := 45) hx hb hts in_X13_takes_X13 hown hE.1 hP 0 rfl rfl 14 (by decide +kernel) (hts (.fieldLink RX13 131 "ClauseBookModel" "isMuch" "Z") (List.mem_of_getElem? (i := 1) rfl)) (fun _ h9 => h9) rfl dX13_takes_10 ?_
  refine lv_aload_n hx hb dX13_takes_13 rfl (lv_at hl 1 rfl) ?_
  refine va_get (D := D) (ci := 10) (v := .ref (a 22)) (C := RX13) (T := TX13) (N := 45) hx hb hts in_X13_takes_X13 hown hE.1 hP 0 rfl rfl 22 (by decide +kernel) (hts (.fieldLink RX13 63 "ClauseBookModel" "worthMuch" "[Z") (List.mem_of_getElem? (i := 2) rfl)) (fun _ h9 => h9) rfl dX13_takes_14 ?_
  refine lv_iload hx hb dX13_takes_17 (lv_at hl 0 rfl) ?_
  refine va_zald hx hb hE.1 hP 3 4 rfl rfl (by rw [vp_in_iff]; first | omega | (subst_vars; omega)) dX13_takes_19 ?_
  refine lv_topi (fun z_2 ez_2 => ?_)
  have hBz_2 : isB z_2 := by rw [ez_2]; exact hZ _
  have hsl9 : r_1.toNatClampNeg = slN x1 x2 x3 := at_sl (by omega) (by omega) (by omega) hr_1.1
  refine lv_ior hx hb dX13_takes_20 ?_
  refine lv_topi (fun z_3 ez_3 => ?_)
  have hBz_3 : isB z_3 := by rw [ez_3]; exact isB.or hB hBz_2
  have hOz_3 : z_3.toInt = 0 → ((q 14) : Int32).toInt = 0 ∧ (z_2 : Int32).toInt = 0 := by rw [ez_3]; exact isB.or0 hB hBz_2
  refine va_put (D := D) (ci := 10) (v := .int z_3) (ty := .boolean) (C := RX13) (T := TX13) (N := 45) hx hb hts in_X13_takes_X13 tyX13 tyX13_ok nmX13 hown hE.1 hP hD hS 0 rfl rfl 14 (by decide +kernel) (hts (.fieldLink RX13 131 "ClauseBookModel" "isMuch" "Z") (List.mem_of_getElem? (i := 1) rfl)) (fun _ h9 => h9) rfl (by decide +kernel) (isB.nar hBz_3) (isB.fits hBz_3) (Nat.le_of_ble_eq_true rfl) dX13_takes_21 (fun H locs hP hD hS => ?_)
  obtain ⟨hP, hD⟩ := wPD [(h0, .inr (10, (Value.int (q 0) :: Value.int (q 1) :: Value.int (q 2) :: Value.int (q 3) :: Value.int (q 4) :: Value.int (q 5) :: Value.int (q 6) :: Value.int (q 7) :: Value.ref (a 8) :: Value.ref (a 9) :: Value.ref (a 10) :: Value.ref (a 11) :: Value.ref (a 12) :: Value.ref (a 13) :: Value.int z_3 :: Value.long v :: Value.long w :: Value.ref (a 17) :: Value.ref (a 18) :: Value.ref (a 19) :: Value.ref (a 20) :: Value.ref (a 21) :: Value.ref (a 22) :: Value.ref (a 23) :: Value.int (q 24) :: Value.ref (a 25) :: Value.int (q 26) :: Value.ref (a 27) :: Value.int (q 28) :: Value.int (q 29) :: Value.int (q 30) :: Value.int (q 31) :: Value.int (q 32) :: Value.int (q 33) :: Value.ref (a 34) :: Value.ref (a 35) :: Value.ref (a 36) :: Value.ref (a 37) :: Value.ref (a 38) :: Value.ref (a 39) :: Value.ref (a 40) :: Value.int (q 41) :: Value.ref (a 42) :: Value.int (q 43) :: Value.int (q 44) :: []))), ((a 20), .inl (T 1, 672, .inr (.inl f20))), ((a 21), .inl (T 1, 672, .inr (.inl f21))), ((a 22), .inl (T 4, 672, .inl f22))] hP hD rfl
  refine lv_aload_n hx hb dX13_takes_24 rfl (lv_at hl 1 rfl) ?_
  refine lv_aload_n hx hb dX13_takes_25 rfl (lv_at hl 1 rfl) ?_
  refine va_get (D := D) (ci := 10) (v := .ref (a 20)) (C := RX13) (T := TX13) (N := 45) hx hb hts in_X13_takes_X13 hown hE.1 hP 0 rfl rfl 20 (by decide +kernel) (hts (.fieldLink RX13 56 "ClauseBookModel" "worthAbove" "[J") (List.mem_of_getElem? (i := 3) rfl)) (fun _ h9 => h9) rfl dX13_takes_26 ?_
  refine lv_iload hx hb dX13_takes_29 (lv_at hl 0 rfl) ?_
  refine va_lald hx hb hE.1 hP 1 1 rfl rfl (by rw [vp_in_iff]; first | omega | (subst_vars; omega)) dX13_takes_31 ?_
  refine lv_topl (fun z_4 ez_4 => ?_)
  refine va_put (D := D) (ci := 10) (v := .long z_4) (ty := .long) (C := RX13) (T := TX13) (N := 45) hx hb hts in_X13_takes_X13 tyX13 tyX13_ok nmX13 hown hE.1 hP hD hS 0 rfl rfl 15 (by decide +kernel) (hts (.fieldLink RX13 145 "ClauseBookModel" "above" "J") (List.mem_of_getElem? (i := 4) rfl)) (fun _ h9 => h9) rfl (by decide +kernel) rfl rfl (Nat.le_of_ble_eq_true rfl) dX13_takes_32 (fun H locs hP hD hS => ?_)
  obtain ⟨hP, hD⟩ := wPD [(h0, .inr (10, (Value.int (q 0) :: Value.int (q 1) :: Value.int (q 2) :: Value.int (q 3) :: Value.int (q 4) :: Value.int (q 5) :: Value.int (q 6) :: Value.int (q 7) :: Value.ref (a 8) :: Value.ref (a 9) :: Value.ref (a 10) :: Value.ref (a 11) :: Value.ref (a 12) :: Value.ref (a 13) :: Value.int z_3 :: Value.long z_4 :: Value.long w :: Value.ref (a 17) :: Value.ref (a 18) :: Value.ref (a 19) :: Value.ref (a 20) :: Value.ref (a 21) :: Value.ref (a 22) :: Value.ref (a 23) :: Value.int (q 24) :: Value.ref (a 25) :: Value.int (q 26) :: Value.ref (a 27) :: Value.int (q 28) :: Value.int (q 29) :: Value.int (q 30) :: Value.int (q 31) :: Value.int (q 32) :: Value.int (q 33) :: Value.ref (a 34) :: Value.ref (a 35) :: Value.ref (a 36) :: Value.ref (a 37) :: Value.ref (a 38) :: Value.ref (a 39) :: Value.ref (a 40) :: Value.int (q 41) :: Value.ref (a 42) :: Value.int (q 43) :: Value.int (q 44) :: []))), ((a 20), .inl (T 1, 672, .inr (.inl f20))), ((a 21), .inl (T 1, 672, .inr (.inl f21))), ((a 22), .inl (T 4, 672, .inl f22))] hP hD rfl
  refine lv_aload_n hx hb dX13_takes_35 rfl (lv_at hl 1 rfl) ?_
  refine lv_aload_n hx hb dX13_takes_36 rfl (lv_at hl 1 rfl) ?_
  refine va_get (D := D) (ci := 10) (v := .ref (a 21)) (C := RX13) (T := TX13) (N := 45) hx hb hts in_X13_takes_X13 hown hE.1 hP 0 rfl rfl 21 (by decide +kernel) (hts (.fieldLink RX13 60 "ClauseBookModel" "worthBelow" "[J") (List.mem_of_getElem? (i := 5) rfl)) (fun _ h9 => h9) rfl dX13_takes_37 ?_
  refine lv_iload hx hb dX13_takes_40 (lv_at hl 0 rfl) ?_
  refine va_lald hx hb hE.1 hP 2 1 rfl rfl (by rw [vp_in_iff]; first | omega | (subst_vars; omega)) dX13_takes_42 ?_
  refine lv_topl (fun z_5 ez_5 => ?_)
  have hbz_5 : 1 ≤ z_5.toInt := by
    rw [ez_5]
    have h9 := tn (x := r_1) (by omega)
    exact hb1 _ (by omega)
  refine va_put (D := D) (ci := 10) (v := .long z_5) (ty := .long) (C := RX13) (T := TX13) (N := 45) hx hb hts in_X13_takes_X13 tyX13 tyX13_ok nmX13 hown hE.1 hP hD hS 0 rfl rfl 16 (by decide +kernel) (hts (.fieldLink RX13 149 "ClauseBookModel" "below" "J") (List.mem_of_getElem? (i := 6) rfl)) (fun _ h9 => h9) rfl (by decide +kernel) rfl rfl (Nat.le_of_ble_eq_true rfl) dX13_takes_43 (fun H locs hP hD hS => ?_)
  obtain ⟨hP, hD⟩ := wPD [(h0, .inr (10, (Value.int (q 0) :: Value.int (q 1) :: Value.int (q 2) :: Value.int (q 3) :: Value.int (q 4) :: Value.int (q 5) :: Value.int (q 6) :: Value.int (q 7) :: Value.ref (a 8) :: Value.ref (a 9) :: Value.ref (a 10) :: Value.ref (a 11) :: Value.ref (a 12) :: Value.ref (a 13) :: Value.int z_3 :: Value.long z_4 :: Value.long z_5 :: Value.ref (a 17) :: Value.ref (a 18) :: Value.ref (a 19) :: Value.ref (a 20) :: Value.ref (a 21) :: Value.ref (a 22) :: Value.ref (a 23) :: Value.int (q 24) :: Value.ref (a 25) :: Value.int (q 26) :: Value.ref (a 27) :: Value.int (q 28) :: Value.int (q 29) :: Value.int (q 30) :: Value.int (q 31) :: Value.int (q 32) :: Value.int (q 33) :: Value.ref (a 34) :: Value.ref (a 35) :: Value.ref (a 36) :: Value.ref (a 37) :: Value.ref (a 38) :: Value.ref (a 39) :: Value.ref (a 40) :: Value.int (q 41) :: Value.ref (a 42) :: Value.int (q 43) :: Value.int (q 44) :: []))), ((a 20), .inl (T 1, 672, .inr (.inl f20))), ((a 21), .inl (T 1, 672, .inr (.inl f21))), ((a 22), .inl (T 4, 672, .inl f22))] hP hD rfl
  exact W.vret hx hb hr (fun t ht hW => ⟨⟨(z_3, z_4, z_5), rfl, ⟨(show isB z_3 from hBz_3), (show 1 ≤ z_5.toInt from (by first | omega | (subst_vars; omega))), (show (z_3 : Int32).toInt = 0 ↔ (((q 14) : Int32).toInt = 0 ∧ (f22 (slN x1 x2 x3)).toInt = 0) from ⟨(fun h9 => by have h8 := hOz_3 h9; exact ⟨h8.1, by rw [← hsl9, ← ez_2]; exact h8.2⟩), (fun h9 => by rw [ez_3]; exact or_00 h9.1 (by rw [ez_2, hsl9]; exact h9.2))⟩), (show z_4 = f20 (slN x1 x2 x3) from (by rw [← hsl9]; first | assumption | rfl)), (show z_5 = f21 (slN x1 x2 x3) from (by rw [← hsl9]; first | assumption | rfl))⟩, by rw [ht]; exact hP.sub [0, 1, 2, 3] rfl, hD.sub [0, 1, 2, 3] (by decide +kernel) rfl⟩, hS.F ht⟩) hS.2.2 dX13_takes_46
theorem dX13_means_0 : decode cX13_means 0 = .ok (.aload_n 0, 1) := by decide +kernel
theorem dX13_means_1 : decode cX13_means 1 = .ok (.iload_n 1, 1) := by decide +kernel
theorem dX13_means_100 : decode cX13_means 100 = .ok (.getfield 19, 3) := by decide +kernel
theorem dX13_means_103 : decode cX13_means 103 = .ok (.i2l, 1) := by decide +kernel
theorem dX13_means_104 : decode cX13_means 104 = .ok (.lmul, 1) := by decide +kernel
theorem dX13_means_105 : decode cX13_means 105 = .ok (.invokestatic 141, 3) := by decide +kernel
theorem dX13_means_108 : decode cX13_means 108 = .ok (.lstore 8, 2) := by decide +kernel
theorem dX13_means_11 : decode cX13_means 11 = .ok (.aload_n 0, 1) := by decide +kernel
theorem dX13_means_110 : decode cX13_means 110 = .ok (.aload_n 0, 1) := by decide +kernel
theorem dX13_means_111 : decode cX13_means 111 = .ok (.aload_n 0, 1) := by decide +kernel
theorem dX13_means_112 : decode cX13_means 112 = .ok (.getfield 145, 3) := by decide +kernel
theorem dX13_means_115 : decode cX13_means 115 = .ok (.aload_n 0, 1) := by decide +kernel
theorem dX13_means_116 : decode cX13_means 116 = .ok (.getfield 149, 3) := by decide +kernel
theorem dX13_means_119 : decode cX13_means 119 = .ok (.aload_n 0, 1) := by decide +kernel
theorem dX13_means_12 : decode cX13_means 12 = .ok (.aload_n 0, 1) := by decide +kernel
theorem dX13_means_120 : decode cX13_means 120 = .ok (.getfield 22, 3) := by decide +kernel
theorem dX13_means_123 : decode cX13_means 123 = .ok (.i2l, 1) := by decide +kernel
theorem dX13_means_124 : decode cX13_means 124 = .ok (.lload 8, 2) := by decide +kernel
theorem dX13_means_126 : decode cX13_means 126 = .ok (.ldiv, 1) := by decide +kernel
theorem dX13_means_127 : decode cX13_means 127 = .ok (.aload_n 0, 1) := by decide +kernel
theorem dX13_means_128 : decode cX13_means 128 = .ok (.getfield 25, 3) := by decide +kernel
theorem dX13_means_13 : decode cX13_means 13 = .ok (.getfield 16, 3) := by decide +kernel
theorem dX13_means_131 : decode cX13_means 131 = .ok (.i2l, 1) := by decide +kernel
theorem dX13_means_132 : decode cX13_means 132 = .ok (.aload_n 0, 1) := by decide +kernel
theorem dX13_means_133 : decode cX13_means 133 = .ok (.getfield 19, 3) := by decide +kernel
theorem dX13_means_136 : decode cX13_means 136 = .ok (.i2l, 1) := by decide +kernel
theorem dX13_means_137 : decode cX13_means 137 = .ok (.lmul, 1) := by decide +kernel
theorem dX13_means_138 : decode cX13_means 138 = .ok (.lload 8, 2) := by decide +kernel
theorem dX13_means_140 : decode cX13_means 140 = .ok (.ldiv, 1) := by decide +kernel
theorem dX13_means_141 : decode cX13_means 141 = .ok (.invokevirtual 247, 3) := by decide +kernel
theorem dX13_means_144 : decode cX13_means 144 = .ok (.return_, 1) := by decide +kernel
theorem dX13_means_16 : decode cX13_means 16 = .ok (.i2l, 1) := by decide +kernel
theorem dX13_means_17 : decode cX13_means 17 = .ok (.lconst 1, 1) := by decide +kernel
theorem dX13_means_18 : decode cX13_means 18 = .ok (.aload_n 0, 1) := by decide +kernel
theorem dX13_means_19 : decode cX13_means 19 = .ok (.getfield 145, 3) := by decide +kernel
theorem dX13_means_2 : decode cX13_means 2 = .ok (.iload_n 2, 1) := by decide +kernel
theorem dX13_means_22 : decode cX13_means 22 = .ok (.aload_n 0, 1) := by decide +kernel
theorem dX13_means_23 : decode cX13_means 23 = .ok (.getfield 149, 3) := by decide +kernel
theorem dX13_means_26 : decode cX13_means 26 = .ok (.invokevirtual 247, 3) := by decide +kernel
theorem dX13_means_29 : decode cX13_means 29 = .ok (.aload_n 0, 1) := by decide +kernel
theorem dX13_means_3 : decode cX13_means 3 = .ok (.iconst 1, 1) := by decide +kernel
theorem dX13_means_30 : decode cX13_means 30 = .ok (.getfield 145, 3) := by decide +kernel
theorem dX13_means_33 : decode cX13_means 33 = .ok (.lstore 4, 2) := by decide +kernel
theorem dX13_means_35 : decode cX13_means 35 = .ok (.aload_n 0, 1) := by decide +kernel
theorem dX13_means_36 : decode cX13_means 36 = .ok (.getfield 149, 3) := by decide +kernel
theorem dX13_means_39 : decode cX13_means 39 = .ok (.lstore 6, 2) := by decide +kernel
theorem dX13_means_4 : decode cX13_means 4 = .ok (.iadd, 1) := by decide +kernel
theorem dX13_means_41 : decode cX13_means 41 = .ok (.aload_n 0, 1) := by decide +kernel
theorem dX13_means_42 : decode cX13_means 42 = .ok (.iload_n 1, 1) := by decide +kernel
theorem dX13_means_43 : decode cX13_means 43 = .ok (.iload_n 2, 1) := by decide +kernel
theorem dX13_means_44 : decode cX13_means 44 = .ok (.iconst 1, 1) := by decide +kernel
theorem dX13_means_45 : decode cX13_means 45 = .ok (.iadd, 1) := by decide +kernel
theorem dX13_means_46 : decode cX13_means 46 = .ok (.iload_n 3, 1) := by decide +kernel
theorem dX13_means_47 : decode cX13_means 47 = .ok (.invokevirtual 243, 3) := by decide +kernel
theorem dX13_means_5 : decode cX13_means 5 = .ok (.iload_n 3, 1) := by decide +kernel
theorem dX13_means_50 : decode cX13_means 50 = .ok (.aload_n 0, 1) := by decide +kernel
theorem dX13_means_51 : decode cX13_means 51 = .ok (.aload_n 0, 1) := by decide +kernel
theorem dX13_means_52 : decode cX13_means 52 = .ok (.getfield 19, 3) := by decide +kernel
theorem dX13_means_55 : decode cX13_means 55 = .ok (.aload_n 0, 1) := by decide +kernel
theorem dX13_means_56 : decode cX13_means 56 = .ok (.getfield 16, 3) := by decide +kernel
theorem dX13_means_59 : decode cX13_means 59 = .ok (.isub, 1) := by decide +kernel
theorem dX13_means_6 : decode cX13_means 6 = .ok (.iconst 1, 1) := by decide +kernel
theorem dX13_means_60 : decode cX13_means 60 = .ok (.i2l, 1) := by decide +kernel
theorem dX13_means_61 : decode cX13_means 61 = .ok (.lconst 1, 1) := by decide +kernel
theorem dX13_means_62 : decode cX13_means 62 = .ok (.aload_n 0, 1) := by decide +kernel
theorem dX13_means_63 : decode cX13_means 63 = .ok (.getfield 145, 3) := by decide +kernel
theorem dX13_means_66 : decode cX13_means 66 = .ok (.aload_n 0, 1) := by decide +kernel
theorem dX13_means_67 : decode cX13_means 67 = .ok (.getfield 149, 3) := by decide +kernel
theorem dX13_means_7 : decode cX13_means 7 = .ok (.iadd, 1) := by decide +kernel
theorem dX13_means_70 : decode cX13_means 70 = .ok (.invokevirtual 247, 3) := by decide +kernel
theorem dX13_means_73 : decode cX13_means 73 = .ok (.aload_n 0, 1) := by decide +kernel
theorem dX13_means_74 : decode cX13_means 74 = .ok (.lload 4, 2) := by decide +kernel
theorem dX13_means_76 : decode cX13_means 76 = .ok (.lload 6, 2) := by decide +kernel
theorem dX13_means_78 : decode cX13_means 78 = .ok (.aload_n 0, 1) := by decide +kernel
theorem dX13_means_79 : decode cX13_means 79 = .ok (.getfield 145, 3) := by decide +kernel
theorem dX13_means_8 : decode cX13_means 8 = .ok (.invokevirtual 243, 3) := by decide +kernel
theorem dX13_means_82 : decode cX13_means 82 = .ok (.aload_n 0, 1) := by decide +kernel
theorem dX13_means_83 : decode cX13_means 83 = .ok (.getfield 149, 3) := by decide +kernel
theorem dX13_means_86 : decode cX13_means 86 = .ok (.invokevirtual 251, 3) := by decide +kernel
theorem dX13_means_89 : decode cX13_means 89 = .ok (.aload_n 0, 1) := by decide +kernel
theorem dX13_means_90 : decode cX13_means 90 = .ok (.getfield 22, 3) := by decide +kernel
theorem dX13_means_93 : decode cX13_means 93 = .ok (.i2l, 1) := by decide +kernel
theorem dX13_means_94 : decode cX13_means 94 = .ok (.aload_n 0, 1) := by decide +kernel
theorem dX13_means_95 : decode cX13_means 95 = .ok (.getfield 25, 3) := by decide +kernel
theorem dX13_means_98 : decode cX13_means 98 = .ok (.i2l, 1) := by decide +kernel
theorem dX13_means_99 : decode cX13_means 99 = .ok (.aload_n 0, 1) := by decide +kernel
set_option maxRecDepth 40000 in
theorem ggX13_means_X13_adds_0 : GoodIn wsX13_means [.code yX13_adds cX13_adds 17 none] := goodIn_r _ [39] rfl (by decide +kernel)
set_option maxRecDepth 40000 in
theorem ggX13_means_X13_adds_1 : GoodIn wsX13_means [.fieldLink RX13 131 "ClauseBookModel" "isMuch" "Z", .methodLink RX13 152 yX13_times, .instanceMethod yX13_times, .selects RX13 yX13_times yX13_times, .initialized RX13, .code yX13_times cX13_times 7 (some .long), .constantLong RX13 135 (-1), .constantLong RX13 139 (-9223372036854775808), .methodLink RX13 159 yX13_plus, .instanceMethod yX13_plus, .selects RX13 yX13_plus yX13_plus, .code yX13_plus cX13_plus 7 (some .long), .methodLink RX13 155 yX13_becomes, .instanceMethod yX13_becomes, .selects RX13 yX13_becomes yX13_becomes, .code yX13_becomes cX13_becomes 7 none, .fieldLink RX13 145 "ClauseBookModel" "above" "J", .fieldLink RX13 149 "ClauseBookModel" "below" "J", .methodLink RX13 141 yX13_divisor, .static yX13_divisor, .code yX13_divisor cX13_divisor 10 (some .long)] := goodIn_r _ [12, 23, 24, 25, 10, 26, 27, 28, 40, 41, 42, 43, 29, 30, 31, 32, 2, 3, 33, 34, 35] rfl (by decide +kernel)
set_option maxRecDepth 40000 in
theorem ggX13_means_X13_adds_2 : GoodIn wsX13_means wsX130 := goodIn_r _ [44, 45, 46, 47, 48, 49, 50, 51, 52, 53, 54, 55, 56, 57, 58, 59, 60, 61, 62, 63, 64, 65, 66, 67, 68, 69, 70, 71, 72, 73, 74, 75, 76, 77, 78, 79, 80, 81, 82, 83, 84, 85, 86, 87, 88] rfl (by decide +kernel)
set_option maxRecDepth 40000 in
theorem ggX13_means_X13_adds : GoodIn wsX13_means wsX13_adds := (goodIn_app ggX13_means_X13_adds_0 (goodIn_app ggX13_means_X13_adds_1 ggX13_means_X13_adds_2))
set_option maxRecDepth 20000 in
theorem ggX13_means_X13_divisor : GoodIn wsX13_means wsX13_divisor := goodIn_r _ [35] rfl (by decide +kernel)
set_option maxRecDepth 40000 in
theorem ggX13_means_X13_multiplies_0 : GoodIn wsX13_means [.code yX13_multiplies cX13_multiplies 13 none] := goodIn_r _ [22] rfl (by decide +kernel)
set_option maxRecDepth 40000 in
theorem ggX13_means_X13_multiplies_1 : GoodIn wsX13_means [.methodLink RX13 152 yX13_times, .instanceMethod yX13_times, .selects RX13 yX13_times yX13_times, .initialized RX13, .code yX13_times cX13_times 7 (some .long), .fieldLink RX13 131 "ClauseBookModel" "isMuch" "Z", .constantLong RX13 135 (-1), .constantLong RX13 139 (-9223372036854775808), .methodLink RX13 155 yX13_becomes, .instanceMethod yX13_becomes, .selects RX13 yX13_becomes yX13_becomes, .code yX13_becomes cX13_becomes 7 none, .fieldLink RX13 145 "ClauseBookModel" "above" "J", .fieldLink RX13 149 "ClauseBookModel" "below" "J", .methodLink RX13 141 yX13_divisor, .static yX13_divisor, .code yX13_divisor cX13_divisor 10 (some .long)] := goodIn_r _ [23, 24, 25, 10, 26, 12, 27, 28, 29, 30, 31, 32, 2, 3, 33, 34, 35] rfl (by decide +kernel)
set_option maxRecDepth 40000 in
theorem ggX13_means_X13_multiplies_2 : GoodIn wsX13_means wsX130 := goodIn_r _ [44, 45, 46, 47, 48, 49, 50, 51, 52, 53, 54, 55, 56, 57, 58, 59, 60, 61, 62, 63, 64, 65, 66, 67, 68, 69, 70, 71, 72, 73, 74, 75, 76, 77, 78, 79, 80, 81, 82, 83, 84, 85, 86, 87, 88] rfl (by decide +kernel)
set_option maxRecDepth 40000 in
theorem ggX13_means_X13_multiplies : GoodIn wsX13_means wsX13_multiplies := (goodIn_app ggX13_means_X13_multiplies_0 (goodIn_app ggX13_means_X13_multiplies_1 ggX13_means_X13_multiplies_2))
set_option maxRecDepth 20000 in
theorem ggX13_means_X13_takes : GoodIn wsX13_means wsX13_takes := goodIn_r _ [11, 12, 13, 14, 2, 15, 3, 16, 17, 10, 18, 44, 45, 46, 47, 48, 49, 50, 51, 52, 53, 54, 55, 56, 57, 58, 59, 60, 61, 62, 63, 64, 65, 66, 67, 68, 69, 70, 71, 72, 73, 74, 75, 76, 77, 78, 79, 80, 81, 82, 83, 84, 85, 86, 87, 88] rfl (by decide +kernel)
set_option maxRecDepth 20000 in
theorem gX13_means_X13_adds : GoodIn wsX13_means (wsV RX13 251 RX13 yX13_adds wsX13_adds) := goodIn_app (goodIn_r _ [36, 37, 38, 10] rfl (by decide +kernel)) ggX13_means_X13_adds
set_option maxRecDepth 20000 in
theorem gX13_means_X13_divisor : GoodIn wsX13_means (va_wsS RX13 141 yX13_divisor wsX13_divisor) := goodIn_app (goodIn_of _ (by decide +kernel)) ggX13_means_X13_divisor
set_option maxRecDepth 20000 in
theorem gX13_means_X13_multiplies : GoodIn wsX13_means (wsV RX13 247 RX13 yX13_multiplies wsX13_multiplies) := goodIn_app (goodIn_r _ [19, 20, 21, 10] rfl (by decide +kernel)) ggX13_means_X13_multiplies
set_option maxRecDepth 20000 in
theorem gX13_means_X13_takes : GoodIn wsX13_means (wsV RX13 243 RX13 yX13_takes wsX13_takes) := goodIn_app (goodIn_r _ [7, 8, 9, 10] rfl (by decide +kernel)) ggX13_means_X13_takes
theorem hv_X13_adds : yX13_adds.cls = RX13 ∧ yX13_adds.cls ≠ "java/lang/invoke/MethodHandle" ∧ yX13_adds.cls ≠ "java/lang/invoke/VarHandle" ∧ (parseMethodDescriptor yX13_adds.desc).map (fun d => d.parameters.length) = some 4 := by decide +kernel
theorem hv_X13_multiplies : yX13_multiplies.cls = RX13 ∧ yX13_multiplies.cls ≠ "java/lang/invoke/MethodHandle" ∧ yX13_multiplies.cls ≠ "java/lang/invoke/VarHandle" ∧ (parseMethodDescriptor yX13_multiplies.desc).map (fun d => d.parameters.length) = some 4 := by decide +kernel
theorem hv_X13_takes : yX13_takes.cls = RX13 ∧ yX13_takes.cls ≠ "java/lang/invoke/MethodHandle" ∧ yX13_takes.cls ≠ "java/lang/invoke/VarHandle" ∧ (parseMethodDescriptor yX13_takes.desc).map (fun d => d.parameters.length) = some 3 := by decide +kernel
set_option maxRecDepth 20000 in
theorem in_X13_means_X13 : ∀ w ∈ wsX130, w ∈ wsX13_means := sub_r [44, 45, 46, 47, 48, 49, 50, 51, 52, 53, 54, 55, 56, 57, 58, 59, 60, 61, 62, 63, 64, 65, 66, 67, 68, 69, 70, 71, 72, 73, 74, 75, 76, 77, 78, 79, 80, 81, 82, 83, 84, 85, 86, 87, 88] rfl
set_option maxHeartbeats 4000000 in
set_option maxRecDepth 100000 in
theorem c_X13_means (l : Launch) (D : va_G) (T : Nat → ClassId) (sz : Nat) (h0 : Nat) (q : Nat → Int32) (v : Int64) (w : Int64) (a : Nat → Nat) (f20 : Nat → Int64) (f21 : Nat → Int64) (f22 : Nat → Int32) (x1 : Int32) (x2 : Int32) (x3 : Int32) (hB : isB (q 14)) (hZ : ∀ j : Nat, isB (f22 j)) (hL : (1 ≤ (q 4).toInt ∧ (q 4).toInt ≤ 9) ∧ 1 ≤ (q 6).toInt ∧ (q 6).toInt ≤ 9) (hx1 : 0 ≤ x1.toInt ∧ x1.toInt < 24) (hx2 : 0 ≤ x2.toInt ∧ x2.toInt ≤ 5) (hx3 : 0 ≤ x3.toInt ∧ x3.toInt ≤ x2.toInt) (hWB2 : ∀ j : Nat, 28 * x1.toInt + tri (x2.toInt + 1) ≤ j → (j : Int) < 28 * x1.toInt + 28 → 1 ≤ (f21 j).toInt) : Met l yX13_means wsX13_means ({ frames := 3, cells := 0, slots := 0, locals := 91 }) (pW [.ref h0, .int x1, .int x2, .int x3] D T [(h0, .inr (10, (Value.int (q 0) :: Value.int (q 1) :: Value.int (q 2) :: Value.int (q 3) :: Value.int (q 4) :: Value.int (q 5) :: Value.int (q 6) :: Value.int (q 7) :: Value.ref (a 8) :: Value.ref (a 9) :: Value.ref (a 10) :: Value.ref (a 11) :: Value.ref (a 12) :: Value.ref (a 13) :: Value.int (q 14) :: Value.long v :: Value.long w :: Value.ref (a 17) :: Value.ref (a 18) :: Value.ref (a 19) :: Value.ref (a 20) :: Value.ref (a 21) :: Value.ref (a 22) :: Value.ref (a 23) :: Value.int (q 24) :: Value.ref (a 25) :: Value.int (q 26) :: Value.ref (a 27) :: Value.int (q 28) :: Value.int (q 29) :: Value.int (q 30) :: Value.int (q 31) :: Value.int (q 32) :: Value.int (q 33) :: Value.ref (a 34) :: Value.ref (a 35) :: Value.ref (a 36) :: Value.ref (a 37) :: Value.ref (a 38) :: Value.ref (a 39) :: Value.ref (a 40) :: Value.int (q 41) :: Value.ref (a 42) :: Value.int (q 43) :: Value.int (q 44) :: []))), ((a 20), .inl (T 1, 672, .inr (.inl f20))), ((a 21), .inl (T 1, 672, .inr (.inl f21))), ((a 22), .inl (T 4, 672, .inl f22))] sz) (va_Qv (fun (u : (Int32) × (Int64) × (Int64)) => (isB u.1) ∧ (1 ≤ u.2.2.toInt) ∧ (((q 14) : Int32).toInt = 0 → mpW u.1 u.2.1 u.2.2 = avgW (lqW (q 0) (q 1) (q 2) (q 3) (q 4) (q 5) (q 6)) (tabW f20 f21 f22) x1 x2 x3) ∧ ((u.1 : Int32).toInt = 0 → ((q 14) : Int32).toInt = 0)) (bW D (va_A [(h0, .inr (10, (Value.int (q 0) :: Value.int (q 1) :: Value.int (q 2) :: Value.int (q 3) :: Value.int (q 4) :: Value.int (q 5) :: Value.int (q 6) :: Value.int (q 7) :: Value.ref (a 8) :: Value.ref (a 9) :: Value.ref (a 10) :: Value.ref (a 11) :: Value.ref (a 12) :: Value.ref (a 13) :: Value.int (q 14) :: Value.long v :: Value.long w :: Value.ref (a 17) :: Value.ref (a 18) :: Value.ref (a 19) :: Value.ref (a 20) :: Value.ref (a 21) :: Value.ref (a 22) :: Value.ref (a 23) :: Value.int (q 24) :: Value.ref (a 25) :: Value.int (q 26) :: Value.ref (a 27) :: Value.int (q 28) :: Value.int (q 29) :: Value.int (q 30) :: Value.int (q 31) :: Value.int (q 32) :: Value.int (q 33) :: Value.ref (a 34) :: Value.ref (a 35) :: Value.ref (a 36) :: Value.ref (a 37) :: Value.ref (a 38) :: Value.ref (a 39) :: Value.ref (a 40) :: Value.int (q 41) :: Value.ref (a 42) :: Value.int (q 43) :: Value.int (q 44) :: []))), ((a 20), .inl (T 1, 672, .inr (.inl f20))), ((a 21), .inl (T 1, 672, .inr (.inl f21))), ((a 22), .inl (T 4, 672, .inl f22))] sz) (fun (u : (Int32) × (Int64) × (Int64)) => [(h0, .inr (10, (Value.int (q 0) :: Value.int (q 1) :: Value.int (q 2) :: Value.int (q 3) :: Value.int (q 4) :: Value.int (q 5) :: Value.int (q 6) :: Value.int (q 7) :: Value.ref (a 8) :: Value.ref (a 9) :: Value.ref (a 10) :: Value.ref (a 11) :: Value.ref (a 12) :: Value.ref (a 13) :: Value.int u.1 :: Value.long u.2.1 :: Value.long u.2.2 :: Value.ref (a 17) :: Value.ref (a 18) :: Value.ref (a 19) :: Value.ref (a 20) :: Value.ref (a 21) :: Value.ref (a 22) :: Value.ref (a 23) :: Value.int (q 24) :: Value.ref (a 25) :: Value.int (q 26) :: Value.ref (a 27) :: Value.int (q 28) :: Value.int (q 29) :: Value.int (q 30) :: Value.int (q 31) :: Value.int (q 32) :: Value.int (q 33) :: Value.ref (a 34) :: Value.ref (a 35) :: Value.ref (a 36) :: Value.ref (a 37) :: Value.ref (a 38) :: Value.ref (a 39) :: Value.ref (a 40) :: Value.int (q 41) :: Value.ref (a 42) :: Value.int (q 43) :: Value.int (q 44) :: []))), ((a 20), .inl (T 1, 672, .inr (.inl f20))), ((a 21), .inl (T 1, 672, .inr (.inl f21))), ((a 22), .inl (T 4, 672, .inl f22))])) (va_A [(h0, .inr (10, (Value.int (q 0) :: Value.int (q 1) :: Value.int (q 2) :: Value.int (q 3) :: Value.int (q 4) :: Value.int (q 5) :: Value.int (q 6) :: Value.int (q 7) :: Value.ref (a 8) :: Value.ref (a 9) :: Value.ref (a 10) :: Value.ref (a 11) :: Value.ref (a 12) :: Value.ref (a 13) :: Value.int (q 14) :: Value.long v :: Value.long w :: Value.ref (a 17) :: Value.ref (a 18) :: Value.ref (a 19) :: Value.ref (a 20) :: Value.ref (a 21) :: Value.ref (a 22) :: Value.ref (a 23) :: Value.int (q 24) :: Value.ref (a 25) :: Value.int (q 26) :: Value.ref (a 27) :: Value.int (q 28) :: Value.int (q 29) :: Value.int (q 30) :: Value.int (q 31) :: Value.int (q 32) :: Value.int (q 33) :: Value.ref (a 34) :: Value.ref (a 35) :: Value.ref (a 36) :: Value.ref (a 37) :: Value.ref (a 38) :: Value.ref (a 39) :: Value.ref (a 40) :: Value.int (q 41) :: Value.ref (a 42) :: Value.int (q 43) :: Value.int (q 44) :: []))), ((a 20), .inl (T 1, 672, .inr (.inl f20))), ((a 21), .inl (T 1, 672, .inr (.inl f21))), ((a 22), .inl (T 4, 672, .inl f22))] sz)) 0 0 (va_A [(h0, .inr (10, (Value.int (q 0) :: Value.int (q 1) :: Value.int (q 2) :: Value.int (q 3) :: Value.int (q 4) :: Value.int (q 5) :: Value.int (q 6) :: Value.int (q 7) :: Value.ref (a 8) :: Value.ref (a 9) :: Value.ref (a 10) :: Value.ref (a 11) :: Value.ref (a 12) :: Value.ref (a 13) :: Value.int (q 14) :: Value.long v :: Value.long w :: Value.ref (a 17) :: Value.ref (a 18) :: Value.ref (a 19) :: Value.ref (a 20) :: Value.ref (a 21) :: Value.ref (a 22) :: Value.ref (a 23) :: Value.int (q 24) :: Value.ref (a 25) :: Value.int (q 26) :: Value.ref (a 27) :: Value.int (q 28) :: Value.int (q 29) :: Value.int (q 30) :: Value.int (q 31) :: Value.int (q 32) :: Value.int (q 33) :: Value.ref (a 34) :: Value.ref (a 35) :: Value.ref (a 36) :: Value.ref (a 37) :: Value.ref (a 38) :: Value.ref (a 39) :: Value.ref (a 40) :: Value.int (q 41) :: Value.ref (a 42) :: Value.int (q 43) :: Value.int (q 44) :: []))), ((a 20), .inl (T 1, 672, .inr (.inl f20))), ((a 21), .inl (T 1, 672, .inr (.inl f21))), ((a 22), .inl (T 4, 672, .inl f22))] sz) := by
  refine Met.ofW (cc := cX13_means) (maxL := 10) (ret := none) (by decide +kernel) rfl ?_
  intro p e s m args below meth c s₁ B hml hv
  obtain ⟨rfl, hsz, hP, hE, hD0⟩ := hv
  have hx := B.exec
  have hb := B.bytes
  have hr := B.returns
  have hts := atoms_spec (ws := wsX13_means) B.pre
  have hown : s.vm.findClass RX13 = some m.cls := findClass_of_methodNamed B.named
  have hlocks := B.notSynchronized
  subst hsz
  have hD := hD0.self (sz := s.heap.size)
  generalize hAe : va_A [(h0, .inr (10, (Value.int (q 0) :: Value.int (q 1) :: Value.int (q 2) :: Value.int (q 3) :: Value.int (q 4) :: Value.int (q 5) :: Value.int (q 6) :: Value.int (q 7) :: Value.ref (a 8) :: Value.ref (a 9) :: Value.ref (a 10) :: Value.ref (a 11) :: Value.ref (a 12) :: Value.ref (a 13) :: Value.int (q 14) :: Value.long v :: Value.long w :: Value.ref (a 17) :: Value.ref (a 18) :: Value.ref (a 19) :: Value.ref (a 20) :: Value.ref (a 21) :: Value.ref (a 22) :: Value.ref (a 23) :: Value.int (q 24) :: Value.ref (a 25) :: Value.int (q 26) :: Value.ref (a 27) :: Value.int (q 28) :: Value.int (q 29) :: Value.int (q 30) :: Value.int (q 31) :: Value.int (q 32) :: Value.int (q 33) :: Value.ref (a 34) :: Value.ref (a 35) :: Value.ref (a 36) :: Value.ref (a 37) :: Value.ref (a 38) :: Value.ref (a 39) :: Value.ref (a 40) :: Value.int (q 41) :: Value.ref (a 42) :: Value.int (q 43) :: Value.int (q 44) :: []))), ((a 20), .inl (T 1, 672, .inr (.inl f20))), ((a 21), .inl (T 1, 672, .inr (.inl f21))), ((a 22), .inl (T 4, 672, .inl f22))] s.heap.size = A at hD ⊢
  have hA : ∀ q : Nat, s.heap.size ≤ q → A q := fun q h => by rw [← hAe]; exact Or.inr h
  have hS : va_S A s.heap s.heap [] := va_S.rf
  have hP : va_P D vwCl [(h0, .inr (10, (Value.int (q 0) :: Value.int (q 1) :: Value.int (q 2) :: Value.int (q 3) :: Value.int (q 4) :: Value.int (q 5) :: Value.int (q 6) :: Value.int (q 7) :: Value.ref (a 8) :: Value.ref (a 9) :: Value.ref (a 10) :: Value.ref (a 11) :: Value.ref (a 12) :: Value.ref (a 13) :: Value.int (q 14) :: Value.long v :: Value.long w :: Value.ref (a 17) :: Value.ref (a 18) :: Value.ref (a 19) :: Value.ref (a 20) :: Value.ref (a 21) :: Value.ref (a 22) :: Value.ref (a 23) :: Value.int (q 24) :: Value.ref (a 25) :: Value.int (q 26) :: Value.ref (a 27) :: Value.int (q 28) :: Value.int (q 29) :: Value.int (q 30) :: Value.int (q 31) :: Value.int (q 32) :: Value.int (q 33) :: Value.ref (a 34) :: Value.ref (a 35) :: Value.ref (a 36) :: Value.ref (a 37) :: Value.ref (a 38) :: Value.ref (a 39) :: Value.ref (a 40) :: Value.int (q 41) :: Value.ref (a 42) :: Value.int (q 43) :: Value.int (q 44) :: []))), ((a 20), .inl (T 1, 672, .inr (.inl f20))), ((a 21), .inl (T 1, 672, .inr (.inl f21))), ((a 22), .inl (T 4, 672, .inl f22))] s.heap := hP
  have hl := lv_entry ([.ref h0, .int x1, .int x2, .int x3]) (n := 10) (Nat.le_of_ble_eq_true rfl)
  rw [lg_entry_eq]
  generalize (lg_sl ([.ref h0, .int x1, .int x2, .int x3]) ++ List.replicate (10 - (lg_sl ([.ref h0, .int x1, .int x2, .int x3])).length) Slot.unset).toArray = ls at hl ⊢
  have hl : lv_has ls 10 [(0, .ref h0), (1, .int x1), (2, .int x2), (3, .int x3)] := hl
  clear hD0
  have hi1 := inc1 (i := x2) (n := 6) (by omega) (by decide +kernel)
  have hi2 := inc1 (i := x3) (n := 6) (by omega) (by decide +kernel)
  have ht := tri_in (d := x2.toInt + 1) (by omega)
  refine lv_aload_n hx hb dX13_means_0 rfl (lv_at hl 0 rfl) ?_
  refine lv_iload_n hx hb dX13_means_1 rfl (lv_at hl 1 rfl) ?_
  refine lv_iload_n hx hb dX13_means_2 rfl (lv_at hl 2 rfl) ?_
  refine lv_iconst (v := 1) hx hb dX13_means_3 (by decide +kernel) ?_
  refine lv_iadd hx hb dX13_means_4 ?_
  refine lv_iload_n hx hb dX13_means_5 rfl (lv_at hl 3 rfl) ?_
  refine lv_iconst (v := 1) hx hb dX13_means_6 (by decide +kernel) ?_
  refine lv_iadd hx hb dX13_means_7 ?_
  have hFc := va_free (wc := [(h0, .inr (10, (Value.int (q 0) :: Value.int (q 1) :: Value.int (q 2) :: Value.int (q 3) :: Value.int (q 4) :: Value.int (q 5) :: Value.int (q 6) :: Value.int (q 7) :: Value.ref (a 8) :: Value.ref (a 9) :: Value.ref (a 10) :: Value.ref (a 11) :: Value.ref (a 12) :: Value.ref (a 13) :: Value.int (q 14) :: Value.long v :: Value.long w :: Value.ref (a 17) :: Value.ref (a 18) :: Value.ref (a 19) :: Value.ref (a 20) :: Value.ref (a 21) :: Value.ref (a 22) :: Value.ref (a 23) :: Value.int (q 24) :: Value.ref (a 25) :: Value.int (q 26) :: Value.ref (a 27) :: Value.int (q 28) :: Value.int (q 29) :: Value.int (q 30) :: Value.int (q 31) :: Value.int (q 32) :: Value.int (q 33) :: Value.ref (a 34) :: Value.ref (a 35) :: Value.ref (a 36) :: Value.ref (a 37) :: Value.ref (a 38) :: Value.ref (a 39) :: Value.ref (a 40) :: Value.int (q 41) :: Value.ref (a 42) :: Value.int (q 43) :: Value.int (q 44) :: []))), ((a 20), .inl (T 1, 672, .inr (.inl f20))), ((a 21), .inl (T 1, 672, .inr (.inl f21))), ((a 22), .inl (T 4, 672, .inl f22))]) hD hS hA [0, 1, 2, 3] rfl
  refine va_callv (va_runV (As := [.int x1, .int (x2 + 1), .int (x3 + 1)]) (rest := []) ⟨hx, hb, hml, hown, hts⟩ (c_X13_takes l D T _ h0 q v w a f20 f21 f22 x1 (x2 + 1) (x3 + 1) (show isB (q 14) from hB) (show ∀ j : Nat, isB (f22 j) from hZ) (show 0 ≤ x1.toInt ∧ x1.toInt < 24 from (by omega)) (show 0 ≤ (x2 + 1).toInt ∧ (x2 + 1).toInt ≤ 6 from (by omega)) (show 0 ≤ (x3 + 1).toInt ∧ (x3 + 1).toInt ≤ (x2 + 1).toInt from (by omega)) (show ∀ j : Nat, (j : Int) = 28 * x1.toInt + tri (x2 + 1).toInt + (x3 + 1).toInt → 1 ≤ (f21 j).toInt from (fun j hj => hWB2 j (by rw [hi1] at hj; omega) (by rw [hi1] at hj; omega)))) (cwV 3 hts gX13_means_X13_takes rfl rfl rfl hv_X13_takes ⟨Nat.le_of_ble_eq_true rfl, Nat.le_of_ble_eq_true rfl⟩) (pW_V (q := (RX13, TX13, 45)) (ci := 10) (q0 := 0) hP hE hD rfl rfl [0, 1, 2, 3] (by decide +kernel) rfl rfl) rfl rfl hl.1 rfl (lv_room (Nat.le_of_ble_eq_true rfl)) dX13_means_8 ⟨Nat.le_of_ble_eq_true rfl, Nat.le_of_ble_eq_true rfl⟩) hS (fun q _ h => hFc q h) hFc (fun u_2 t H1 locs ht hvm hr_1 hB hz1 hk1 hS => ?_)
  obtain ⟨n_3, l_4, l_5⟩ := u_2
  obtain ⟨hi0_r_1, hi1_r_1, hi2_r_1, hi3_r_1, hi4_r_1⟩ := hr_1
  have hB14_r_1 : isB n_3 := hi0_r_1
  have hj1_r_1 : 1 ≤ l_5.toInt := hi1_r_1
  have hj2_r_1 : (n_3 : Int32).toInt = 0 ↔ (((q 14) : Int32).toInt = 0 ∧ (f22 (slN x1 (x2 + 1) (x3 + 1))).toInt = 0) := hi2_r_1
  have hj3_r_1 : l_4 = f20 (slN x1 (x2 + 1) (x3 + 1)) := hi3_r_1
  have hj4_r_1 : l_5 = f21 (slN x1 (x2 + 1) (x3 + 1)) := hi4_r_1
  obtain ⟨hP1, hD1⟩ := hB
  rw [ht] at hP1
  obtain ⟨hP, hD⟩ := va_repl [(h0, .inr (10, (Value.int (q 0) :: Value.int (q 1) :: Value.int (q 2) :: Value.int (q 3) :: Value.int (q 4) :: Value.int (q 5) :: Value.int (q 6) :: Value.int (q 7) :: Value.ref (a 8) :: Value.ref (a 9) :: Value.ref (a 10) :: Value.ref (a 11) :: Value.ref (a 12) :: Value.ref (a 13) :: Value.int n_3 :: Value.long l_4 :: Value.long l_5 :: Value.ref (a 17) :: Value.ref (a 18) :: Value.ref (a 19) :: Value.ref (a 20) :: Value.ref (a 21) :: Value.ref (a 22) :: Value.ref (a 23) :: Value.int (q 24) :: Value.ref (a 25) :: Value.int (q 26) :: Value.ref (a 27) :: Value.int (q 28) :: Value.int (q 29) :: Value.int (q 30) :: Value.int (q 31) :: Value.int (q 32) :: Value.int (q 33) :: Value.ref (a 34) :: Value.ref (a 35) :: Value.ref (a 36) :: Value.ref (a 37) :: Value.ref (a 38) :: Value.ref (a 39) :: Value.ref (a 40) :: Value.int (q 41) :: Value.ref (a 42) :: Value.int (q 43) :: Value.int (q 44) :: []))), ((a 20), .inl (T 1, 672, .inr (.inl f20))), ((a 21), .inl (T 1, 672, .inr (.inl f21))), ((a 22), .inl (T 4, 672, .inl f22))] hP hD [0, 1, 2, 3] [0, 1, 2, 3] rfl (by decide +kernel) rfl rfl rfl hk1 hP1
  clear hP1 hD1 hFc
  generalize H1 = H at hP hS ⊢
  refine lv_aload_n hx hb dX13_means_11 rfl (lv_at hl 0 rfl) ?_
  refine lv_aload_n hx hb dX13_means_12 rfl (lv_at hl 0 rfl) ?_
  refine va_get (D := D) (ci := 10) (v := .int (q 3)) (C := RX13) (T := TX13) (N := 45) hx hb hts in_X13_means_X13 hown hE.1 hP 0 rfl rfl 3 (by decide +kernel) (hts (.fieldLink RX13 16 "ClauseBookModel" "oddsP" "I") (List.mem_of_getElem? (i := 1) rfl)) (fun _ h9 => h9) rfl dX13_means_13 ?_
  refine lv_i2l hx hb dX13_means_16 rfl ?_
  refine lv_lconst (v := 1) hx hb dX13_means_17 (by decide +kernel) ?_
  refine lv_aload_n hx hb dX13_means_18 rfl (lv_at hl 0 rfl) ?_
  refine va_get (D := D) (ci := 10) (v := .long l_4) (C := RX13) (T := TX13) (N := 45) hx hb hts in_X13_means_X13 hown hE.1 hP 0 rfl rfl 15 (by decide +kernel) (hts (.fieldLink RX13 145 "ClauseBookModel" "above" "J") (List.mem_of_getElem? (i := 2) rfl)) (fun _ h9 => h9) rfl dX13_means_19 ?_
  refine lv_aload_n hx hb dX13_means_22 rfl (lv_at hl 0 rfl) ?_
  refine va_get (D := D) (ci := 10) (v := .long l_5) (C := RX13) (T := TX13) (N := 45) hx hb hts in_X13_means_X13 hown hE.1 hP 0 rfl rfl 16 (by decide +kernel) (hts (.fieldLink RX13 149 "ClauseBookModel" "below" "J") (List.mem_of_getElem? (i := 3) rfl)) (fun _ h9 => h9) rfl dX13_means_23 ?_
  have hFc := va_free (wc := [(h0, .inr (10, (Value.int (q 0) :: Value.int (q 1) :: Value.int (q 2) :: Value.int (q 3) :: Value.int (q 4) :: Value.int (q 5) :: Value.int (q 6) :: Value.int (q 7) :: Value.ref (a 8) :: Value.ref (a 9) :: Value.ref (a 10) :: Value.ref (a 11) :: Value.ref (a 12) :: Value.ref (a 13) :: Value.int n_3 :: Value.long l_4 :: Value.long l_5 :: Value.ref (a 17) :: Value.ref (a 18) :: Value.ref (a 19) :: Value.ref (a 20) :: Value.ref (a 21) :: Value.ref (a 22) :: Value.ref (a 23) :: Value.int (q 24) :: Value.ref (a 25) :: Value.int (q 26) :: Value.ref (a 27) :: Value.int (q 28) :: Value.int (q 29) :: Value.int (q 30) :: Value.int (q 31) :: Value.int (q 32) :: Value.int (q 33) :: Value.ref (a 34) :: Value.ref (a 35) :: Value.ref (a 36) :: Value.ref (a 37) :: Value.ref (a 38) :: Value.ref (a 39) :: Value.ref (a 40) :: Value.int (q 41) :: Value.ref (a 42) :: Value.int (q 43) :: Value.int (q 44) :: [])))]) hD hS hA [0] rfl
  refine va_callv (va_runV (As := [.long ((q 3).toInt64), .long 1, .long l_4, .long l_5]) (rest := []) ⟨hx, hb, hml, hown, hts⟩ (c_X13_multiplies l D T _ h0 (fun k => cond (Nat.beq k 14) n_3 (q k)) l_4 l_5 a ((q 3).toInt64) 1 l_4 l_5 (show isB n_3 from hB14_r_1) (show 1 ≤ (1 : Int64).toInt from (by decide +kernel)) (show 1 ≤ l_5.toInt from (by omega)) (show 1 ≤ l_5.toInt from (by omega))) (cwV 4 hts gX13_means_X13_multiplies rfl rfl rfl hv_X13_multiplies ⟨Nat.le_of_ble_eq_true rfl, Nat.le_of_ble_eq_true rfl⟩) (pW_V (q := (RX13, TX13, 45)) (ci := 10) (q0 := 0) hP hE hD rfl rfl [0] (by decide +kernel) rfl rfl) rfl rfl hl.1 rfl (lv_room (Nat.le_of_ble_eq_true rfl)) dX13_means_26 ⟨Nat.le_of_ble_eq_true rfl, Nat.le_of_ble_eq_true rfl⟩) hS (fun q _ h => hFc q h) hFc (fun u_7 t H1 locs ht hvm hr_6 hB hz1 hk1 hS => ?_)
  obtain ⟨n_8, l_9, l_10⟩ := u_7
  obtain ⟨hi0_r_6, hi1_r_6, hi2_r_6, hi3_r_6⟩ := hr_6
  have hB14_r_6 : isB n_8 := hi0_r_6
  have hj1_r_6 : 1 ≤ l_10.toInt := hi1_r_6
  have hj2_r_6 : (n_8 : Int32).toInt = 0 ↔ ((n_3 : Int32).toInt = 0 ∧ fitM ((q 3).toInt64) l_4 ∧ fitM (1 : Int64) l_5) := hi2_r_6
  have hj3_r_6 : (n_8 : Int32).toInt = 0 → ((l_9, l_10) : Int64 × Int64) = redW (((q 3).toInt64) * l_4) ((1 : Int64) * l_5) := hi3_r_6
  obtain ⟨hP1, hD1⟩ := hB
  rw [ht] at hP1
  obtain ⟨hP, hD⟩ := va_repl [(h0, .inr (10, (Value.int (q 0) :: Value.int (q 1) :: Value.int (q 2) :: Value.int (q 3) :: Value.int (q 4) :: Value.int (q 5) :: Value.int (q 6) :: Value.int (q 7) :: Value.ref (a 8) :: Value.ref (a 9) :: Value.ref (a 10) :: Value.ref (a 11) :: Value.ref (a 12) :: Value.ref (a 13) :: Value.int n_8 :: Value.long l_9 :: Value.long l_10 :: Value.ref (a 17) :: Value.ref (a 18) :: Value.ref (a 19) :: Value.ref (a 20) :: Value.ref (a 21) :: Value.ref (a 22) :: Value.ref (a 23) :: Value.int (q 24) :: Value.ref (a 25) :: Value.int (q 26) :: Value.ref (a 27) :: Value.int (q 28) :: Value.int (q 29) :: Value.int (q 30) :: Value.int (q 31) :: Value.int (q 32) :: Value.int (q 33) :: Value.ref (a 34) :: Value.ref (a 35) :: Value.ref (a 36) :: Value.ref (a 37) :: Value.ref (a 38) :: Value.ref (a 39) :: Value.ref (a 40) :: Value.int (q 41) :: Value.ref (a 42) :: Value.int (q 43) :: Value.int (q 44) :: []))), ((a 20), .inl (T 1, 672, .inr (.inl f20))), ((a 21), .inl (T 1, 672, .inr (.inl f21))), ((a 22), .inl (T 4, 672, .inl f22))] hP hD [0] [0] rfl (by decide +kernel) rfl rfl rfl hk1 hP1
  clear hP1 hD1 hFc
  generalize H1 = H at hP hS ⊢
  refine lv_aload_n hx hb dX13_means_29 rfl (lv_at hl 0 rfl) ?_
  refine va_get (D := D) (ci := 10) (v := .long l_9) (C := RX13) (T := TX13) (N := 45) hx hb hts in_X13_means_X13 hown hE.1 hP 0 rfl rfl 15 (by decide +kernel) (hts (.fieldLink RX13 145 "ClauseBookModel" "above" "J") (List.mem_of_getElem? (i := 2) rfl)) (fun _ h9 => h9) rfl dX13_means_30 ?_
  refine lv_lstore (lv' := [(4, .long l_9), (0, .ref h0), (1, .int x1), (2, .int x2), (3, .int x3)]) hx hb dX13_means_33 hl (by decide +kernel) rfl (fun ls hl => ?_)
  refine lv_aload_n hx hb dX13_means_35 rfl (lv_at hl 1 rfl) ?_
  refine va_get (D := D) (ci := 10) (v := .long l_10) (C := RX13) (T := TX13) (N := 45) hx hb hts in_X13_means_X13 hown hE.1 hP 0 rfl rfl 16 (by decide +kernel) (hts (.fieldLink RX13 149 "ClauseBookModel" "below" "J") (List.mem_of_getElem? (i := 3) rfl)) (fun _ h9 => h9) rfl dX13_means_36 ?_
  refine lv_lstore (lv' := [(6, .long l_10), (4, .long l_9), (0, .ref h0), (1, .int x1), (2, .int x2), (3, .int x3)]) hx hb dX13_means_39 hl (by decide +kernel) rfl (fun ls hl => ?_)
  refine lv_aload_n hx hb dX13_means_41 rfl (lv_at hl 2 rfl) ?_
  refine lv_iload_n hx hb dX13_means_42 rfl (lv_at hl 3 rfl) ?_
  refine lv_iload_n hx hb dX13_means_43 rfl (lv_at hl 4 rfl) ?_
  refine lv_iconst (v := 1) hx hb dX13_means_44 (by decide +kernel) ?_
  refine lv_iadd hx hb dX13_means_45 ?_
  refine lv_iload_n hx hb dX13_means_46 rfl (lv_at hl 5 rfl) ?_
  have hFc := va_free (wc := [(h0, .inr (10, (Value.int (q 0) :: Value.int (q 1) :: Value.int (q 2) :: Value.int (q 3) :: Value.int (q 4) :: Value.int (q 5) :: Value.int (q 6) :: Value.int (q 7) :: Value.ref (a 8) :: Value.ref (a 9) :: Value.ref (a 10) :: Value.ref (a 11) :: Value.ref (a 12) :: Value.ref (a 13) :: Value.int n_8 :: Value.long l_9 :: Value.long l_10 :: Value.ref (a 17) :: Value.ref (a 18) :: Value.ref (a 19) :: Value.ref (a 20) :: Value.ref (a 21) :: Value.ref (a 22) :: Value.ref (a 23) :: Value.int (q 24) :: Value.ref (a 25) :: Value.int (q 26) :: Value.ref (a 27) :: Value.int (q 28) :: Value.int (q 29) :: Value.int (q 30) :: Value.int (q 31) :: Value.int (q 32) :: Value.int (q 33) :: Value.ref (a 34) :: Value.ref (a 35) :: Value.ref (a 36) :: Value.ref (a 37) :: Value.ref (a 38) :: Value.ref (a 39) :: Value.ref (a 40) :: Value.int (q 41) :: Value.ref (a 42) :: Value.int (q 43) :: Value.int (q 44) :: []))), ((a 20), .inl (T 1, 672, .inr (.inl f20))), ((a 21), .inl (T 1, 672, .inr (.inl f21))), ((a 22), .inl (T 4, 672, .inl f22))]) hD hS hA [0, 1, 2, 3] rfl
  refine va_callv (va_runV (As := [.int x1, .int (x2 + 1), .int x3]) (rest := []) ⟨hx, hb, hml, hown, hts⟩ (c_X13_takes l D T _ h0 (fun k => cond (Nat.beq k 14) n_8 (q k)) l_9 l_10 a f20 f21 f22 x1 (x2 + 1) x3 (show isB n_8 from hB14_r_6) (show ∀ j : Nat, isB (f22 j) from hZ) (show 0 ≤ x1.toInt ∧ x1.toInt < 24 from (by omega)) (show 0 ≤ (x2 + 1).toInt ∧ (x2 + 1).toInt ≤ 6 from (by omega)) (show 0 ≤ x3.toInt ∧ x3.toInt ≤ (x2 + 1).toInt from (by omega)) (show ∀ j : Nat, (j : Int) = 28 * x1.toInt + tri (x2 + 1).toInt + x3.toInt → 1 ≤ (f21 j).toInt from (fun j hj => hWB2 j (by rw [hi1] at hj; omega) (by rw [hi1] at hj; omega)))) (cwV 3 hts gX13_means_X13_takes rfl rfl rfl hv_X13_takes ⟨Nat.le_of_ble_eq_true rfl, Nat.le_of_ble_eq_true rfl⟩) (pW_V (q := (RX13, TX13, 45)) (ci := 10) (q0 := 0) hP hE hD rfl rfl [0, 1, 2, 3] (by decide +kernel) rfl rfl) rfl rfl hl.1 rfl (lv_room (Nat.le_of_ble_eq_true rfl)) dX13_means_47 ⟨Nat.le_of_ble_eq_true rfl, Nat.le_of_ble_eq_true rfl⟩) hS (fun q _ h => hFc q h) hFc (fun u_12 t H1 locs ht hvm hr_11 hB hz1 hk1 hS => ?_)
  obtain ⟨n_13, l_14, l_15⟩ := u_12
  obtain ⟨hi0_r_11, hi1_r_11, hi2_r_11, hi3_r_11, hi4_r_11⟩ := hr_11
  have hB14_r_11 : isB n_13 := hi0_r_11
  have hj1_r_11 : 1 ≤ l_15.toInt := hi1_r_11
  have hj2_r_11 : (n_13 : Int32).toInt = 0 ↔ ((n_8 : Int32).toInt = 0 ∧ (f22 (slN x1 (x2 + 1) x3)).toInt = 0) := hi2_r_11
  have hj3_r_11 : l_14 = f20 (slN x1 (x2 + 1) x3) := hi3_r_11
  have hj4_r_11 : l_15 = f21 (slN x1 (x2 + 1) x3) := hi4_r_11
  obtain ⟨hP1, hD1⟩ := hB
  rw [ht] at hP1
  obtain ⟨hP, hD⟩ := va_repl [(h0, .inr (10, (Value.int (q 0) :: Value.int (q 1) :: Value.int (q 2) :: Value.int (q 3) :: Value.int (q 4) :: Value.int (q 5) :: Value.int (q 6) :: Value.int (q 7) :: Value.ref (a 8) :: Value.ref (a 9) :: Value.ref (a 10) :: Value.ref (a 11) :: Value.ref (a 12) :: Value.ref (a 13) :: Value.int n_13 :: Value.long l_14 :: Value.long l_15 :: Value.ref (a 17) :: Value.ref (a 18) :: Value.ref (a 19) :: Value.ref (a 20) :: Value.ref (a 21) :: Value.ref (a 22) :: Value.ref (a 23) :: Value.int (q 24) :: Value.ref (a 25) :: Value.int (q 26) :: Value.ref (a 27) :: Value.int (q 28) :: Value.int (q 29) :: Value.int (q 30) :: Value.int (q 31) :: Value.int (q 32) :: Value.int (q 33) :: Value.ref (a 34) :: Value.ref (a 35) :: Value.ref (a 36) :: Value.ref (a 37) :: Value.ref (a 38) :: Value.ref (a 39) :: Value.ref (a 40) :: Value.int (q 41) :: Value.ref (a 42) :: Value.int (q 43) :: Value.int (q 44) :: []))), ((a 20), .inl (T 1, 672, .inr (.inl f20))), ((a 21), .inl (T 1, 672, .inr (.inl f21))), ((a 22), .inl (T 4, 672, .inl f22))] hP hD [0, 1, 2, 3] [0, 1, 2, 3] rfl (by decide +kernel) rfl rfl rfl hk1 hP1
  clear hP1 hD1 hFc
  generalize H1 = H at hP hS ⊢
  refine lv_aload_n hx hb dX13_means_50 rfl (lv_at hl 2 rfl) ?_
  refine lv_aload_n hx hb dX13_means_51 rfl (lv_at hl 2 rfl) ?_
  refine va_get (D := D) (ci := 10) (v := .int (q 4)) (C := RX13) (T := TX13) (N := 45) hx hb hts in_X13_means_X13 hown hE.1 hP 0 rfl rfl 4 (by decide +kernel) (hts (.fieldLink RX13 19 "ClauseBookModel" "oddsQ" "I") (List.mem_of_getElem? (i := 4) rfl)) (fun _ h9 => h9) rfl dX13_means_52 ?_
  refine lv_aload_n hx hb dX13_means_55 rfl (lv_at hl 2 rfl) ?_
  refine va_get (D := D) (ci := 10) (v := .int (q 3)) (C := RX13) (T := TX13) (N := 45) hx hb hts in_X13_means_X13 hown hE.1 hP 0 rfl rfl 3 (by decide +kernel) (hts (.fieldLink RX13 16 "ClauseBookModel" "oddsP" "I") (List.mem_of_getElem? (i := 1) rfl)) (fun _ h9 => h9) rfl dX13_means_56 ?_
  refine lv_isub hx hb dX13_means_59 ?_
  refine lv_i2l hx hb dX13_means_60 rfl ?_
  refine lv_lconst (v := 1) hx hb dX13_means_61 (by decide +kernel) ?_
  refine lv_aload_n hx hb dX13_means_62 rfl (lv_at hl 2 rfl) ?_
  refine va_get (D := D) (ci := 10) (v := .long l_14) (C := RX13) (T := TX13) (N := 45) hx hb hts in_X13_means_X13 hown hE.1 hP 0 rfl rfl 15 (by decide +kernel) (hts (.fieldLink RX13 145 "ClauseBookModel" "above" "J") (List.mem_of_getElem? (i := 2) rfl)) (fun _ h9 => h9) rfl dX13_means_63 ?_
  refine lv_aload_n hx hb dX13_means_66 rfl (lv_at hl 2 rfl) ?_
  refine va_get (D := D) (ci := 10) (v := .long l_15) (C := RX13) (T := TX13) (N := 45) hx hb hts in_X13_means_X13 hown hE.1 hP 0 rfl rfl 16 (by decide +kernel) (hts (.fieldLink RX13 149 "ClauseBookModel" "below" "J") (List.mem_of_getElem? (i := 3) rfl)) (fun _ h9 => h9) rfl dX13_means_67 ?_
  have hFc := va_free (wc := [(h0, .inr (10, (Value.int (q 0) :: Value.int (q 1) :: Value.int (q 2) :: Value.int (q 3) :: Value.int (q 4) :: Value.int (q 5) :: Value.int (q 6) :: Value.int (q 7) :: Value.ref (a 8) :: Value.ref (a 9) :: Value.ref (a 10) :: Value.ref (a 11) :: Value.ref (a 12) :: Value.ref (a 13) :: Value.int n_13 :: Value.long l_14 :: Value.long l_15 :: Value.ref (a 17) :: Value.ref (a 18) :: Value.ref (a 19) :: Value.ref (a 20) :: Value.ref (a 21) :: Value.ref (a 22) :: Value.ref (a 23) :: Value.int (q 24) :: Value.ref (a 25) :: Value.int (q 26) :: Value.ref (a 27) :: Value.int (q 28) :: Value.int (q 29) :: Value.int (q 30) :: Value.int (q 31) :: Value.int (q 32) :: Value.int (q 33) :: Value.ref (a 34) :: Value.ref (a 35) :: Value.ref (a 36) :: Value.ref (a 37) :: Value.ref (a 38) :: Value.ref (a 39) :: Value.ref (a 40) :: Value.int (q 41) :: Value.ref (a 42) :: Value.int (q 43) :: Value.int (q 44) :: [])))]) hD hS hA [0] rfl
  refine va_callv (va_runV (As := [.long (((q 4) - (q 3)).toInt64), .long 1, .long l_14, .long l_15]) (rest := []) ⟨hx, hb, hml, hown, hts⟩ (c_X13_multiplies l D T _ h0 (fun k => cond (Nat.beq k 14) n_13 (q k)) l_14 l_15 a (((q 4) - (q 3)).toInt64) 1 l_14 l_15 (show isB n_13 from hB14_r_11) (show 1 ≤ (1 : Int64).toInt from (by decide +kernel)) (show 1 ≤ l_15.toInt from (by omega)) (show 1 ≤ l_15.toInt from (by omega))) (cwV 4 hts gX13_means_X13_multiplies rfl rfl rfl hv_X13_multiplies ⟨Nat.le_of_ble_eq_true rfl, Nat.le_of_ble_eq_true rfl⟩) (pW_V (q := (RX13, TX13, 45)) (ci := 10) (q0 := 0) hP hE hD rfl rfl [0] (by decide +kernel) rfl rfl) rfl rfl hl.1 rfl (lv_room (Nat.le_of_ble_eq_true rfl)) dX13_means_70 ⟨Nat.le_of_ble_eq_true rfl, Nat.le_of_ble_eq_true rfl⟩) hS (fun q _ h => hFc q h) hFc (fun u_17 t H1 locs ht hvm hr_16 hB hz1 hk1 hS => ?_)
  obtain ⟨n_18, l_19, l_20⟩ := u_17
  obtain ⟨hi0_r_16, hi1_r_16, hi2_r_16, hi3_r_16⟩ := hr_16
  have hB14_r_16 : isB n_18 := hi0_r_16
  have hj1_r_16 : 1 ≤ l_20.toInt := hi1_r_16
  have hj2_r_16 : (n_18 : Int32).toInt = 0 ↔ ((n_13 : Int32).toInt = 0 ∧ fitM (((q 4) - (q 3)).toInt64) l_14 ∧ fitM (1 : Int64) l_15) := hi2_r_16
  have hj3_r_16 : (n_18 : Int32).toInt = 0 → ((l_19, l_20) : Int64 × Int64) = redW ((((q 4) - (q 3)).toInt64) * l_14) ((1 : Int64) * l_15) := hi3_r_16
  obtain ⟨hP1, hD1⟩ := hB
  rw [ht] at hP1
  obtain ⟨hP, hD⟩ := va_repl [(h0, .inr (10, (Value.int (q 0) :: Value.int (q 1) :: Value.int (q 2) :: Value.int (q 3) :: Value.int (q 4) :: Value.int (q 5) :: Value.int (q 6) :: Value.int (q 7) :: Value.ref (a 8) :: Value.ref (a 9) :: Value.ref (a 10) :: Value.ref (a 11) :: Value.ref (a 12) :: Value.ref (a 13) :: Value.int n_18 :: Value.long l_19 :: Value.long l_20 :: Value.ref (a 17) :: Value.ref (a 18) :: Value.ref (a 19) :: Value.ref (a 20) :: Value.ref (a 21) :: Value.ref (a 22) :: Value.ref (a 23) :: Value.int (q 24) :: Value.ref (a 25) :: Value.int (q 26) :: Value.ref (a 27) :: Value.int (q 28) :: Value.int (q 29) :: Value.int (q 30) :: Value.int (q 31) :: Value.int (q 32) :: Value.int (q 33) :: Value.ref (a 34) :: Value.ref (a 35) :: Value.ref (a 36) :: Value.ref (a 37) :: Value.ref (a 38) :: Value.ref (a 39) :: Value.ref (a 40) :: Value.int (q 41) :: Value.ref (a 42) :: Value.int (q 43) :: Value.int (q 44) :: []))), ((a 20), .inl (T 1, 672, .inr (.inl f20))), ((a 21), .inl (T 1, 672, .inr (.inl f21))), ((a 22), .inl (T 4, 672, .inl f22))] hP hD [0] [0] rfl (by decide +kernel) rfl rfl rfl hk1 hP1
  clear hP1 hD1 hFc
  generalize H1 = H at hP hS ⊢
  refine lv_aload_n hx hb dX13_means_73 rfl (lv_at hl 2 rfl) ?_
  refine lv_lload hx hb dX13_means_74 (lv_at hl 1 rfl) ?_
  refine lv_lload hx hb dX13_means_76 (lv_at hl 0 rfl) ?_
  refine lv_aload_n hx hb dX13_means_78 rfl (lv_at hl 2 rfl) ?_
  refine va_get (D := D) (ci := 10) (v := .long l_19) (C := RX13) (T := TX13) (N := 45) hx hb hts in_X13_means_X13 hown hE.1 hP 0 rfl rfl 15 (by decide +kernel) (hts (.fieldLink RX13 145 "ClauseBookModel" "above" "J") (List.mem_of_getElem? (i := 2) rfl)) (fun _ h9 => h9) rfl dX13_means_79 ?_
  refine lv_aload_n hx hb dX13_means_82 rfl (lv_at hl 2 rfl) ?_
  refine va_get (D := D) (ci := 10) (v := .long l_20) (C := RX13) (T := TX13) (N := 45) hx hb hts in_X13_means_X13 hown hE.1 hP 0 rfl rfl 16 (by decide +kernel) (hts (.fieldLink RX13 149 "ClauseBookModel" "below" "J") (List.mem_of_getElem? (i := 3) rfl)) (fun _ h9 => h9) rfl dX13_means_83 ?_
  have hFc := va_free (wc := [(h0, .inr (10, (Value.int (q 0) :: Value.int (q 1) :: Value.int (q 2) :: Value.int (q 3) :: Value.int (q 4) :: Value.int (q 5) :: Value.int (q 6) :: Value.int (q 7) :: Value.ref (a 8) :: Value.ref (a 9) :: Value.ref (a 10) :: Value.ref (a 11) :: Value.ref (a 12) :: Value.ref (a 13) :: Value.int n_18 :: Value.long l_19 :: Value.long l_20 :: Value.ref (a 17) :: Value.ref (a 18) :: Value.ref (a 19) :: Value.ref (a 20) :: Value.ref (a 21) :: Value.ref (a 22) :: Value.ref (a 23) :: Value.int (q 24) :: Value.ref (a 25) :: Value.int (q 26) :: Value.ref (a 27) :: Value.int (q 28) :: Value.int (q 29) :: Value.int (q 30) :: Value.int (q 31) :: Value.int (q 32) :: Value.int (q 33) :: Value.ref (a 34) :: Value.ref (a 35) :: Value.ref (a 36) :: Value.ref (a 37) :: Value.ref (a 38) :: Value.ref (a 39) :: Value.ref (a 40) :: Value.int (q 41) :: Value.ref (a 42) :: Value.int (q 43) :: Value.int (q 44) :: [])))]) hD hS hA [0] rfl
  refine va_callv (va_runV (As := [.long l_9, .long l_10, .long l_19, .long l_20]) (rest := []) ⟨hx, hb, hml, hown, hts⟩ (c_X13_adds l D T _ h0 (fun k => cond (Nat.beq k 14) n_18 (q k)) l_19 l_20 a l_9 l_10 l_19 l_20 (show isB n_18 from hB14_r_16) (show 1 ≤ l_10.toInt from (by omega)) (show 1 ≤ l_20.toInt from (by omega)) (show 1 ≤ l_20.toInt from (by omega))) (cwV 4 hts gX13_means_X13_adds rfl rfl rfl hv_X13_adds ⟨Nat.le_of_ble_eq_true rfl, Nat.le_of_ble_eq_true rfl⟩) (pW_V (q := (RX13, TX13, 45)) (ci := 10) (q0 := 0) hP hE hD rfl rfl [0] (by decide +kernel) rfl rfl) rfl rfl hl.1 rfl (lv_room (Nat.le_of_ble_eq_true rfl)) dX13_means_86 ⟨Nat.le_of_ble_eq_true rfl, Nat.le_of_ble_eq_true rfl⟩) hS (fun q _ h => hFc q h) hFc (fun u_22 t H1 locs ht hvm hr_21 hB hz1 hk1 hS => ?_)
  obtain ⟨n_23, l_24, l_25⟩ := u_22
  obtain ⟨hi0_r_21, hi1_r_21, hi2_r_21, hi3_r_21⟩ := hr_21
  have hB14_r_21 : isB n_23 := hi0_r_21
  have hj1_r_21 : 1 ≤ l_25.toInt := hi1_r_21
  have hj2_r_21 : (n_23 : Int32).toInt = 0 ↔ ((n_18 : Int32).toInt = 0 ∧ fitM l_9 l_20 ∧ fitM l_19 l_10 ∧ fitM l_10 l_20 ∧ fitA (l_9 * l_20) (l_19 * l_10)) := hi2_r_21
  have hj3_r_21 : (n_23 : Int32).toInt = 0 → ((l_24, l_25) : Int64 × Int64) = redW ((l_9 * l_20) + (l_19 * l_10)) (l_10 * l_20) := hi3_r_21
  obtain ⟨hP1, hD1⟩ := hB
  rw [ht] at hP1
  obtain ⟨hP, hD⟩ := va_repl [(h0, .inr (10, (Value.int (q 0) :: Value.int (q 1) :: Value.int (q 2) :: Value.int (q 3) :: Value.int (q 4) :: Value.int (q 5) :: Value.int (q 6) :: Value.int (q 7) :: Value.ref (a 8) :: Value.ref (a 9) :: Value.ref (a 10) :: Value.ref (a 11) :: Value.ref (a 12) :: Value.ref (a 13) :: Value.int n_23 :: Value.long l_24 :: Value.long l_25 :: Value.ref (a 17) :: Value.ref (a 18) :: Value.ref (a 19) :: Value.ref (a 20) :: Value.ref (a 21) :: Value.ref (a 22) :: Value.ref (a 23) :: Value.int (q 24) :: Value.ref (a 25) :: Value.int (q 26) :: Value.ref (a 27) :: Value.int (q 28) :: Value.int (q 29) :: Value.int (q 30) :: Value.int (q 31) :: Value.int (q 32) :: Value.int (q 33) :: Value.ref (a 34) :: Value.ref (a 35) :: Value.ref (a 36) :: Value.ref (a 37) :: Value.ref (a 38) :: Value.ref (a 39) :: Value.ref (a 40) :: Value.int (q 41) :: Value.ref (a 42) :: Value.int (q 43) :: Value.int (q 44) :: []))), ((a 20), .inl (T 1, 672, .inr (.inl f20))), ((a 21), .inl (T 1, 672, .inr (.inl f21))), ((a 22), .inl (T 4, 672, .inl f22))] hP hD [0] [0] rfl (by decide +kernel) rfl rfl rfl hk1 hP1
  clear hP1 hD1 hFc
  generalize H1 = H at hP hS ⊢
  refine lv_aload_n hx hb dX13_means_89 rfl (lv_at hl 2 rfl) ?_
  refine va_get (D := D) (ci := 10) (v := .int (q 5)) (C := RX13) (T := TX13) (N := 45) hx hb hts in_X13_means_X13 hown hE.1 hP 0 rfl rfl 5 (by decide +kernel) (hts (.fieldLink RX13 22 "ClauseBookModel" "waitA" "I") (List.mem_of_getElem? (i := 5) rfl)) (fun _ h9 => h9) rfl dX13_means_90 ?_
  refine lv_i2l hx hb dX13_means_93 rfl ?_
  refine lv_aload_n hx hb dX13_means_94 rfl (lv_at hl 2 rfl) ?_
  refine va_get (D := D) (ci := 10) (v := .int (q 6)) (C := RX13) (T := TX13) (N := 45) hx hb hts in_X13_means_X13 hown hE.1 hP 0 rfl rfl 6 (by decide +kernel) (hts (.fieldLink RX13 25 "ClauseBookModel" "waitB" "I") (List.mem_of_getElem? (i := 6) rfl)) (fun _ h9 => h9) rfl dX13_means_95 ?_
  refine lv_i2l hx hb dX13_means_98 rfl ?_
  refine lv_aload_n hx hb dX13_means_99 rfl (lv_at hl 2 rfl) ?_
  refine va_get (D := D) (ci := 10) (v := .int (q 4)) (C := RX13) (T := TX13) (N := 45) hx hb hts in_X13_means_X13 hown hE.1 hP 0 rfl rfl 4 (by decide +kernel) (hts (.fieldLink RX13 19 "ClauseBookModel" "oddsQ" "I") (List.mem_of_getElem? (i := 4) rfl)) (fun _ h9 => h9) rfl dX13_means_100 ?_
  refine lv_i2l hx hb dX13_means_103 rfl ?_
  refine lv_lmul hx hb dX13_means_104 ?_
  refine vp_callSl (W.runS (As := [.long ((q 5).toInt64), .long (((q 6).toInt64) * ((q 4).toInt64))]) (rest := []) ⟨hx, hb, hml, hown, hts⟩ (c_X13_divisor l D T ((q 5).toInt64) (((q 6).toInt64) * ((q 4).toInt64)) (l_small (by omega) (by omega))) (va_cwS 2 hts gX13_means_X13_divisor rfl rfl rfl hs_X13_divisor ⟨Nat.le_of_ble_eq_true rfl, Nat.le_of_ble_eq_true rfl⟩) (pR_S hP hE [] rfl) rfl rfl hl.1 rfl (lv_room (Nat.le_of_ble_eq_true rfl)) dX13_means_105 ⟨Nat.le_of_ble_eq_true rfl, Nat.le_of_ble_eq_true rfl⟩) (fun r_26 hr_26 => ?_)
  refine lv_lstore (lv' := [(8, .long r_26), (6, .long l_10), (4, .long l_9), (0, .ref h0), (1, .int x1), (2, .int x2), (3, .int x3)]) hx hb dX13_means_108 hl (by decide +kernel) rfl (fun ls hl => ?_)
  refine lv_aload_n hx hb dX13_means_110 rfl (lv_at hl 3 rfl) ?_
  refine lv_aload_n hx hb dX13_means_111 rfl (lv_at hl 3 rfl) ?_
  refine va_get (D := D) (ci := 10) (v := .long l_24) (C := RX13) (T := TX13) (N := 45) hx hb hts in_X13_means_X13 hown hE.1 hP 0 rfl rfl 15 (by decide +kernel) (hts (.fieldLink RX13 145 "ClauseBookModel" "above" "J") (List.mem_of_getElem? (i := 2) rfl)) (fun _ h9 => h9) rfl dX13_means_112 ?_
  refine lv_aload_n hx hb dX13_means_115 rfl (lv_at hl 3 rfl) ?_
  refine va_get (D := D) (ci := 10) (v := .long l_25) (C := RX13) (T := TX13) (N := 45) hx hb hts in_X13_means_X13 hown hE.1 hP 0 rfl rfl 16 (by decide +kernel) (hts (.fieldLink RX13 149 "ClauseBookModel" "below" "J") (List.mem_of_getElem? (i := 3) rfl)) (fun _ h9 => h9) rfl dX13_means_116 ?_
  refine lv_aload_n hx hb dX13_means_119 rfl (lv_at hl 3 rfl) ?_
  refine va_get (D := D) (ci := 10) (v := .int (q 5)) (C := RX13) (T := TX13) (N := 45) hx hb hts in_X13_means_X13 hown hE.1 hP 0 rfl rfl 5 (by decide +kernel) (hts (.fieldLink RX13 22 "ClauseBookModel" "waitA" "I") (List.mem_of_getElem? (i := 5) rfl)) (fun _ h9 => h9) rfl dX13_means_120 ?_
  refine lv_i2l hx hb dX13_means_123 rfl ?_
  refine lv_lload hx hb dX13_means_124 (lv_at hl 0 rfl) ?_
  refine lv_ldiv hx hb dX13_means_126 (nz64 (by omega)) ?_
  refine lv_aload_n hx hb dX13_means_127 rfl (lv_at hl 3 rfl) ?_
  refine va_get (D := D) (ci := 10) (v := .int (q 6)) (C := RX13) (T := TX13) (N := 45) hx hb hts in_X13_means_X13 hown hE.1 hP 0 rfl rfl 6 (by decide +kernel) (hts (.fieldLink RX13 25 "ClauseBookModel" "waitB" "I") (List.mem_of_getElem? (i := 6) rfl)) (fun _ h9 => h9) rfl dX13_means_128 ?_
  refine lv_i2l hx hb dX13_means_131 rfl ?_
  refine lv_aload_n hx hb dX13_means_132 rfl (lv_at hl 3 rfl) ?_
  refine va_get (D := D) (ci := 10) (v := .int (q 4)) (C := RX13) (T := TX13) (N := 45) hx hb hts in_X13_means_X13 hown hE.1 hP 0 rfl rfl 4 (by decide +kernel) (hts (.fieldLink RX13 19 "ClauseBookModel" "oddsQ" "I") (List.mem_of_getElem? (i := 4) rfl)) (fun _ h9 => h9) rfl dX13_means_133 ?_
  refine lv_i2l hx hb dX13_means_136 rfl ?_
  refine lv_lmul hx hb dX13_means_137 ?_
  refine lv_lload hx hb dX13_means_138 (lv_at hl 0 rfl) ?_
  refine lv_ldiv hx hb dX13_means_140 (nz64 (by omega)) ?_
  have hFc := va_free (wc := [(h0, .inr (10, (Value.int (q 0) :: Value.int (q 1) :: Value.int (q 2) :: Value.int (q 3) :: Value.int (q 4) :: Value.int (q 5) :: Value.int (q 6) :: Value.int (q 7) :: Value.ref (a 8) :: Value.ref (a 9) :: Value.ref (a 10) :: Value.ref (a 11) :: Value.ref (a 12) :: Value.ref (a 13) :: Value.int n_23 :: Value.long l_24 :: Value.long l_25 :: Value.ref (a 17) :: Value.ref (a 18) :: Value.ref (a 19) :: Value.ref (a 20) :: Value.ref (a 21) :: Value.ref (a 22) :: Value.ref (a 23) :: Value.int (q 24) :: Value.ref (a 25) :: Value.int (q 26) :: Value.ref (a 27) :: Value.int (q 28) :: Value.int (q 29) :: Value.int (q 30) :: Value.int (q 31) :: Value.int (q 32) :: Value.int (q 33) :: Value.ref (a 34) :: Value.ref (a 35) :: Value.ref (a 36) :: Value.ref (a 37) :: Value.ref (a 38) :: Value.ref (a 39) :: Value.ref (a 40) :: Value.int (q 41) :: Value.ref (a 42) :: Value.int (q 43) :: Value.int (q 44) :: [])))]) hD hS hA [0] rfl
  refine va_callv (va_runV (As := [.long l_24, .long l_25, .long (((q 5).toInt64) / r_26), .long ((((q 6).toInt64) * ((q 4).toInt64)) / r_26)]) (rest := []) ⟨hx, hb, hml, hown, hts⟩ (c_X13_multiplies l D T _ h0 (fun k => cond (Nat.beq k 14) n_23 (q k)) l_24 l_25 a l_24 l_25 (((q 5).toInt64) / r_26) ((((q 6).toInt64) * ((q 4).toInt64)) / r_26) (show isB n_23 from hB14_r_21) (show 1 ≤ l_25.toInt from (by omega)) (show 1 ≤ ((((q 6).toInt64) * ((q 4).toInt64)) / r_26).toInt from (div_pos64 (by omega) (by omega))) (show 1 ≤ l_25.toInt from (by omega))) (cwV 4 hts gX13_means_X13_multiplies rfl rfl rfl hv_X13_multiplies ⟨Nat.le_of_ble_eq_true rfl, Nat.le_of_ble_eq_true rfl⟩) (pW_V (q := (RX13, TX13, 45)) (ci := 10) (q0 := 0) hP hE hD rfl rfl [0] (by decide +kernel) rfl rfl) rfl rfl hl.1 rfl (lv_room (Nat.le_of_ble_eq_true rfl)) dX13_means_141 ⟨Nat.le_of_ble_eq_true rfl, Nat.le_of_ble_eq_true rfl⟩) hS (fun q _ h => hFc q h) hFc (fun u_28 t H1 locs ht hvm hr_27 hB hz1 hk1 hS => ?_)
  obtain ⟨n_29, l_30, l_31⟩ := u_28
  obtain ⟨hi0_r_27, hi1_r_27, hi2_r_27, hi3_r_27⟩ := hr_27
  have hB14_r_27 : isB n_29 := hi0_r_27
  have hj1_r_27 : 1 ≤ l_31.toInt := hi1_r_27
  have hj2_r_27 : (n_29 : Int32).toInt = 0 ↔ ((n_23 : Int32).toInt = 0 ∧ fitM l_24 (((q 5).toInt64) / r_26) ∧ fitM l_25 ((((q 6).toInt64) * ((q 4).toInt64)) / r_26)) := hi2_r_27
  have hj3_r_27 : (n_29 : Int32).toInt = 0 → ((l_30, l_31) : Int64 × Int64) = redW (l_24 * (((q 5).toInt64) / r_26)) (l_25 * ((((q 6).toInt64) * ((q 4).toInt64)) / r_26)) := hi3_r_27
  obtain ⟨hP1, hD1⟩ := hB
  rw [ht] at hP1
  obtain ⟨hP, hD⟩ := va_repl [(h0, .inr (10, (Value.int (q 0) :: Value.int (q 1) :: Value.int (q 2) :: Value.int (q 3) :: Value.int (q 4) :: Value.int (q 5) :: Value.int (q 6) :: Value.int (q 7) :: Value.ref (a 8) :: Value.ref (a 9) :: Value.ref (a 10) :: Value.ref (a 11) :: Value.ref (a 12) :: Value.ref (a 13) :: Value.int n_29 :: Value.long l_30 :: Value.long l_31 :: Value.ref (a 17) :: Value.ref (a 18) :: Value.ref (a 19) :: Value.ref (a 20) :: Value.ref (a 21) :: Value.ref (a 22) :: Value.ref (a 23) :: Value.int (q 24) :: Value.ref (a 25) :: Value.int (q 26) :: Value.ref (a 27) :: Value.int (q 28) :: Value.int (q 29) :: Value.int (q 30) :: Value.int (q 31) :: Value.int (q 32) :: Value.int (q 33) :: Value.ref (a 34) :: Value.ref (a 35) :: Value.ref (a 36) :: Value.ref (a 37) :: Value.ref (a 38) :: Value.ref (a 39) :: Value.ref (a 40) :: Value.int (q 41) :: Value.ref (a 42) :: Value.int (q 43) :: Value.int (q 44) :: []))), ((a 20), .inl (T 1, 672, .inr (.inl f20))), ((a 21), .inl (T 1, 672, .inr (.inl f21))), ((a 22), .inl (T 4, 672, .inl f22))] hP hD [0] [0] rfl (by decide +kernel) rfl rfl rfl hk1 hP1
  clear hP1 hD1 hFc
  generalize H1 = H at hP hS ⊢
  exact W.vret hx hb hr (fun t ht hW => ⟨⟨(n_29, l_30, l_31), rfl, ⟨(show isB n_29 from hB14_r_27), (show 1 ≤ l_31.toInt from (by first | omega | (subst_vars; omega))), (show ((q 14) : Int32).toInt = 0 → mpW n_29 l_30 l_31 = avgW (lqW (q 0) (q 1) (q 2) (q 3) (q 4) (q 5) (q 6)) (tabW f20 f21 f22) x1 x2 x3 from (fun h9 => by
                                                            have k1 := tk_mp h9 hj2_r_1 hj3_r_1 hj4_r_1
                                                            have k2 := ref_mul k1 hj1_r_1 hj2_r_6 hj3_r_6
                                                            have k4 := fun q9 => ref_mul (tk_mp q9 hj2_r_11 hj3_r_11 hj4_r_11) hj1_r_11 hj2_r_16 hj3_r_16
                                                            have k5 := ref_add k2 k4 (fun q9 => (hj2_r_11.1 (hj2_r_16.1 q9).1).1) hj1_r_6 hj1_r_16 hj2_r_21 hj3_r_21
                                                            have k6 := ref_mul2 k5 hj1_r_21 hj2_r_27 hj3_r_27
                                                            exact k6.trans (avg_ref (l := (lqW (q 0) (q 1) (q 2) (q 3) (q 4) (q 5) (q 6))) (V := (tabW f20 f21 f22)) (wt_ref (a := q 5) (b := q 6) (q := q 4) (by omega) (by omega) hr_26.1)))), (show (n_29 : Int32).toInt = 0 → ((q 14) : Int32).toInt = 0 from (fun h9 => (hj2_r_1.1 (hj2_r_6.1 (hj2_r_11.1 (hj2_r_16.1 (hj2_r_21.1 (hj2_r_27.1 h9).1).1).1).1).1).1))⟩, by rw [ht]; exact hP.sub [0, 1, 2, 3] rfl, hD.sub [0, 1, 2, 3] (by decide +kernel) rfl⟩, hS.F ht⟩) hS.2.2 dX13_means_144
theorem dX13_takesBest_0 : decode cX13_takesBest 0 = .ok (.aload_n 0, 1) := by decide +kernel
theorem dX13_takesBest_1 : decode cX13_takesBest 1 = .ok (.iload_n 1, 1) := by decide +kernel
theorem dX13_takesBest_12 : decode cX13_takesBest 12 = .ok (.lstore 6, 2) := by decide +kernel
theorem dX13_takesBest_14 : decode cX13_takesBest 14 = .ok (.aload_n 0, 1) := by decide +kernel
theorem dX13_takesBest_15 : decode cX13_takesBest 15 = .ok (.getfield 149, 3) := by decide +kernel
theorem dX13_takesBest_18 : decode cX13_takesBest 18 = .ok (.lstore 8, 2) := by decide +kernel
theorem dX13_takesBest_2 : decode cX13_takesBest 2 = .ok (.iload_n 3, 1) := by decide +kernel
theorem dX13_takesBest_20 : decode cX13_takesBest 20 = .ok (.aload_n 0, 1) := by decide +kernel
theorem dX13_takesBest_21 : decode cX13_takesBest 21 = .ok (.iload_n 2, 1) := by decide +kernel
theorem dX13_takesBest_22 : decode cX13_takesBest 22 = .ok (.iload_n 3, 1) := by decide +kernel
theorem dX13_takesBest_23 : decode cX13_takesBest 23 = .ok (.iload 4, 2) := by decide +kernel
theorem dX13_takesBest_25 : decode cX13_takesBest 25 = .ok (.invokevirtual 243, 3) := by decide +kernel
theorem dX13_takesBest_28 : decode cX13_takesBest 28 = .ok (.aload_n 0, 1) := by decide +kernel
theorem dX13_takesBest_29 : decode cX13_takesBest 29 = .ok (.getfield 131, 3) := by decide +kernel
theorem dX13_takesBest_3 : decode cX13_takesBest 3 = .ok (.iload 4, 2) := by decide +kernel
theorem dX13_takesBest_32 : decode cX13_takesBest 32 = .ok (.ifCond .ne 36, 3) := by decide +kernel
theorem dX13_takesBest_35 : decode cX13_takesBest 35 = .ok (.lload 6, 2) := by decide +kernel
theorem dX13_takesBest_37 : decode cX13_takesBest 37 = .ok (.lload 8, 2) := by decide +kernel
theorem dX13_takesBest_39 : decode cX13_takesBest 39 = .ok (.aload_n 0, 1) := by decide +kernel
theorem dX13_takesBest_40 : decode cX13_takesBest 40 = .ok (.getfield 145, 3) := by decide +kernel
theorem dX13_takesBest_43 : decode cX13_takesBest 43 = .ok (.aload_n 0, 1) := by decide +kernel
theorem dX13_takesBest_44 : decode cX13_takesBest 44 = .ok (.getfield 149, 3) := by decide +kernel
theorem dX13_takesBest_47 : decode cX13_takesBest 47 = .ok (.invokestatic 167, 3) := by decide +kernel
theorem dX13_takesBest_5 : decode cX13_takesBest 5 = .ok (.invokevirtual 243, 3) := by decide +kernel
theorem dX13_takesBest_50 : decode cX13_takesBest 50 = .ok (.iload 5, 2) := by decide +kernel
theorem dX13_takesBest_52 : decode cX13_takesBest 52 = .ok (.imul, 1) := by decide +kernel
theorem dX13_takesBest_53 : decode cX13_takesBest 53 = .ok (.ifCond .le 15, 3) := by decide +kernel
theorem dX13_takesBest_56 : decode cX13_takesBest 56 = .ok (.aload_n 0, 1) := by decide +kernel
theorem dX13_takesBest_57 : decode cX13_takesBest 57 = .ok (.lload 6, 2) := by decide +kernel
theorem dX13_takesBest_59 : decode cX13_takesBest 59 = .ok (.putfield 145, 3) := by decide +kernel
theorem dX13_takesBest_62 : decode cX13_takesBest 62 = .ok (.aload_n 0, 1) := by decide +kernel
theorem dX13_takesBest_63 : decode cX13_takesBest 63 = .ok (.lload 8, 2) := by decide +kernel
theorem dX13_takesBest_65 : decode cX13_takesBest 65 = .ok (.putfield 149, 3) := by decide +kernel
theorem dX13_takesBest_68 : decode cX13_takesBest 68 = .ok (.return_, 1) := by decide +kernel
theorem dX13_takesBest_8 : decode cX13_takesBest 8 = .ok (.aload_n 0, 1) := by decide +kernel
theorem dX13_takesBest_9 : decode cX13_takesBest 9 = .ok (.getfield 145, 3) := by decide +kernel
set_option maxRecDepth 20000 in
theorem ggX13_takesBest_X13_compared : GoodIn wsX13_takesBest wsX13_compared := goodIn_r _ [17, 18, 19, 20, 21, 15, 16, 7] rfl (by decide +kernel)
set_option maxRecDepth 20000 in
theorem ggX13_takesBest_X13_takes : GoodIn wsX13_takesBest wsX13_takes := goodIn_r _ [8, 3, 9, 10, 1, 11, 2, 12, 13, 7, 14, 22, 23, 24, 25, 26, 27, 28, 29, 30, 31, 32, 33, 34, 35, 36, 37, 38, 39, 40, 41, 42, 43, 44, 45, 46, 47, 48, 49, 50, 51, 52, 53, 54, 55, 56, 57, 58, 59, 60, 61, 62, 63, 64, 65, 66] rfl (by decide +kernel)
set_option maxRecDepth 20000 in
theorem gX13_takesBest_X13_compared : GoodIn wsX13_takesBest (va_wsS RX13 167 yX13_compared wsX13_compared) := goodIn_app (goodIn_of _ (by decide +kernel)) ggX13_takesBest_X13_compared
set_option maxRecDepth 20000 in
theorem gX13_takesBest_X13_takes : GoodIn wsX13_takesBest (wsV RX13 243 RX13 yX13_takes wsX13_takes) := goodIn_app (goodIn_r _ [4, 5, 6, 7] rfl (by decide +kernel)) ggX13_takesBest_X13_takes
set_option maxRecDepth 20000 in
theorem in_X13_takesBest_X13 : ∀ w ∈ wsX130, w ∈ wsX13_takesBest := sub_r [22, 23, 24, 25, 26, 27, 28, 29, 30, 31, 32, 33, 34, 35, 36, 37, 38, 39, 40, 41, 42, 43, 44, 45, 46, 47, 48, 49, 50, 51, 52, 53, 54, 55, 56, 57, 58, 59, 60, 61, 62, 63, 64, 65, 66] rfl
set_option maxHeartbeats 4000000 in
set_option maxRecDepth 100000 in
theorem c_X13_takesBest (l : Launch) (D : va_G) (T : Nat → ClassId) (sz : Nat) (h0 : Nat) (q : Nat → Int32) (v : Int64) (w : Int64) (a : Nat → Nat) (f20 : Nat → Int64) (f21 : Nat → Int64) (f22 : Nat → Int32) (x1 : Int32) (x2 : Int32) (x3 : Int32) (x4 : Int32) (x5 : Int32) (hB : isB (q 14)) (hZ : ∀ j : Nat, isB (f22 j)) (hx1 : 0 ≤ x1.toInt ∧ x1.toInt < 24) (hx2 : 0 ≤ x2.toInt ∧ x2.toInt < 24) (hx3 : 0 ≤ x3.toInt ∧ x3.toInt ≤ 6) (hx4 : 0 ≤ x4.toInt ∧ x4.toInt ≤ x3.toInt) (hbx : ∀ j : Nat, (j : Int) = 28 * x1.toInt + tri x3.toInt + x4.toInt → 1 ≤ (f21 j).toInt) (hby : ∀ j : Nat, (j : Int) = 28 * x2.toInt + tri x3.toInt + x4.toInt → 1 ≤ (f21 j).toInt) (hx5 : x5.toInt = 1 ∨ x5.toInt = -1) : Met l yX13_takesBest wsX13_takesBest ({ frames := 130, cells := 0, slots := 0, locals := 5175 }) (pW [.ref h0, .int x1, .int x2, .int x3, .int x4, .int x5] D T [(h0, .inr (10, (Value.int (q 0) :: Value.int (q 1) :: Value.int (q 2) :: Value.int (q 3) :: Value.int (q 4) :: Value.int (q 5) :: Value.int (q 6) :: Value.int (q 7) :: Value.ref (a 8) :: Value.ref (a 9) :: Value.ref (a 10) :: Value.ref (a 11) :: Value.ref (a 12) :: Value.ref (a 13) :: Value.int (q 14) :: Value.long v :: Value.long w :: Value.ref (a 17) :: Value.ref (a 18) :: Value.ref (a 19) :: Value.ref (a 20) :: Value.ref (a 21) :: Value.ref (a 22) :: Value.ref (a 23) :: Value.int (q 24) :: Value.ref (a 25) :: Value.int (q 26) :: Value.ref (a 27) :: Value.int (q 28) :: Value.int (q 29) :: Value.int (q 30) :: Value.int (q 31) :: Value.int (q 32) :: Value.int (q 33) :: Value.ref (a 34) :: Value.ref (a 35) :: Value.ref (a 36) :: Value.ref (a 37) :: Value.ref (a 38) :: Value.ref (a 39) :: Value.ref (a 40) :: Value.int (q 41) :: Value.ref (a 42) :: Value.int (q 43) :: Value.int (q 44) :: []))), ((a 20), .inl (T 1, 672, .inr (.inl f20))), ((a 21), .inl (T 1, 672, .inr (.inl f21))), ((a 22), .inl (T 4, 672, .inl f22))] sz) (va_Qv (fun (u : (Int32) × (Int64) × (Int64)) => (isB u.1) ∧ (1 ≤ u.2.2.toInt) ∧ (((q 14) : Int32).toInt = 0 → mpW u.1 u.2.1 u.2.2 = bestW ((tabW f20 f21 f22) x1 x3 x4) ((tabW f20 f21 f22) x2 x3 x4) x5.toInt)) (bW D (va_A [(h0, .inr (10, (Value.int (q 0) :: Value.int (q 1) :: Value.int (q 2) :: Value.int (q 3) :: Value.int (q 4) :: Value.int (q 5) :: Value.int (q 6) :: Value.int (q 7) :: Value.ref (a 8) :: Value.ref (a 9) :: Value.ref (a 10) :: Value.ref (a 11) :: Value.ref (a 12) :: Value.ref (a 13) :: Value.int (q 14) :: Value.long v :: Value.long w :: Value.ref (a 17) :: Value.ref (a 18) :: Value.ref (a 19) :: Value.ref (a 20) :: Value.ref (a 21) :: Value.ref (a 22) :: Value.ref (a 23) :: Value.int (q 24) :: Value.ref (a 25) :: Value.int (q 26) :: Value.ref (a 27) :: Value.int (q 28) :: Value.int (q 29) :: Value.int (q 30) :: Value.int (q 31) :: Value.int (q 32) :: Value.int (q 33) :: Value.ref (a 34) :: Value.ref (a 35) :: Value.ref (a 36) :: Value.ref (a 37) :: Value.ref (a 38) :: Value.ref (a 39) :: Value.ref (a 40) :: Value.int (q 41) :: Value.ref (a 42) :: Value.int (q 43) :: Value.int (q 44) :: []))), ((a 20), .inl (T 1, 672, .inr (.inl f20))), ((a 21), .inl (T 1, 672, .inr (.inl f21))), ((a 22), .inl (T 4, 672, .inl f22))] sz) (fun (u : (Int32) × (Int64) × (Int64)) => [(h0, .inr (10, (Value.int (q 0) :: Value.int (q 1) :: Value.int (q 2) :: Value.int (q 3) :: Value.int (q 4) :: Value.int (q 5) :: Value.int (q 6) :: Value.int (q 7) :: Value.ref (a 8) :: Value.ref (a 9) :: Value.ref (a 10) :: Value.ref (a 11) :: Value.ref (a 12) :: Value.ref (a 13) :: Value.int u.1 :: Value.long u.2.1 :: Value.long u.2.2 :: Value.ref (a 17) :: Value.ref (a 18) :: Value.ref (a 19) :: Value.ref (a 20) :: Value.ref (a 21) :: Value.ref (a 22) :: Value.ref (a 23) :: Value.int (q 24) :: Value.ref (a 25) :: Value.int (q 26) :: Value.ref (a 27) :: Value.int (q 28) :: Value.int (q 29) :: Value.int (q 30) :: Value.int (q 31) :: Value.int (q 32) :: Value.int (q 33) :: Value.ref (a 34) :: Value.ref (a 35) :: Value.ref (a 36) :: Value.ref (a 37) :: Value.ref (a 38) :: Value.ref (a 39) :: Value.ref (a 40) :: Value.int (q 41) :: Value.ref (a 42) :: Value.int (q 43) :: Value.int (q 44) :: []))), ((a 20), .inl (T 1, 672, .inr (.inl f20))), ((a 21), .inl (T 1, 672, .inr (.inl f21))), ((a 22), .inl (T 4, 672, .inl f22))])) (va_A [(h0, .inr (10, (Value.int (q 0) :: Value.int (q 1) :: Value.int (q 2) :: Value.int (q 3) :: Value.int (q 4) :: Value.int (q 5) :: Value.int (q 6) :: Value.int (q 7) :: Value.ref (a 8) :: Value.ref (a 9) :: Value.ref (a 10) :: Value.ref (a 11) :: Value.ref (a 12) :: Value.ref (a 13) :: Value.int (q 14) :: Value.long v :: Value.long w :: Value.ref (a 17) :: Value.ref (a 18) :: Value.ref (a 19) :: Value.ref (a 20) :: Value.ref (a 21) :: Value.ref (a 22) :: Value.ref (a 23) :: Value.int (q 24) :: Value.ref (a 25) :: Value.int (q 26) :: Value.ref (a 27) :: Value.int (q 28) :: Value.int (q 29) :: Value.int (q 30) :: Value.int (q 31) :: Value.int (q 32) :: Value.int (q 33) :: Value.ref (a 34) :: Value.ref (a 35) :: Value.ref (a 36) :: Value.ref (a 37) :: Value.ref (a 38) :: Value.ref (a 39) :: Value.ref (a 40) :: Value.int (q 41) :: Value.ref (a 42) :: Value.int (q 43) :: Value.int (q 44) :: []))), ((a 20), .inl (T 1, 672, .inr (.inl f20))), ((a 21), .inl (T 1, 672, .inr (.inl f21))), ((a 22), .inl (T 4, 672, .inl f22))] sz)) 0 0 (va_A [(h0, .inr (10, (Value.int (q 0) :: Value.int (q 1) :: Value.int (q 2) :: Value.int (q 3) :: Value.int (q 4) :: Value.int (q 5) :: Value.int (q 6) :: Value.int (q 7) :: Value.ref (a 8) :: Value.ref (a 9) :: Value.ref (a 10) :: Value.ref (a 11) :: Value.ref (a 12) :: Value.ref (a 13) :: Value.int (q 14) :: Value.long v :: Value.long w :: Value.ref (a 17) :: Value.ref (a 18) :: Value.ref (a 19) :: Value.ref (a 20) :: Value.ref (a 21) :: Value.ref (a 22) :: Value.ref (a 23) :: Value.int (q 24) :: Value.ref (a 25) :: Value.int (q 26) :: Value.ref (a 27) :: Value.int (q 28) :: Value.int (q 29) :: Value.int (q 30) :: Value.int (q 31) :: Value.int (q 32) :: Value.int (q 33) :: Value.ref (a 34) :: Value.ref (a 35) :: Value.ref (a 36) :: Value.ref (a 37) :: Value.ref (a 38) :: Value.ref (a 39) :: Value.ref (a 40) :: Value.int (q 41) :: Value.ref (a 42) :: Value.int (q 43) :: Value.int (q 44) :: []))), ((a 20), .inl (T 1, 672, .inr (.inl f20))), ((a 21), .inl (T 1, 672, .inr (.inl f21))), ((a 22), .inl (T 4, 672, .inl f22))] sz) := by
  refine Met.ofW (cc := cX13_takesBest) (maxL := 10) (ret := none) (by decide +kernel) rfl ?_
  intro p e s m args below meth c s₁ B hml hv
  obtain ⟨rfl, hsz, hP, hE, hD0⟩ := hv
  have hx := B.exec
  have hb := B.bytes
  have hr := B.returns
  have hts := atoms_spec (ws := wsX13_takesBest) B.pre
  have hown : s.vm.findClass RX13 = some m.cls := findClass_of_methodNamed B.named
  have hlocks := B.notSynchronized
  subst hsz
  have hD := hD0.self (sz := s.heap.size)
  generalize hAe : va_A [(h0, .inr (10, (Value.int (q 0) :: Value.int (q 1) :: Value.int (q 2) :: Value.int (q 3) :: Value.int (q 4) :: Value.int (q 5) :: Value.int (q 6) :: Value.int (q 7) :: Value.ref (a 8) :: Value.ref (a 9) :: Value.ref (a 10) :: Value.ref (a 11) :: Value.ref (a 12) :: Value.ref (a 13) :: Value.int (q 14) :: Value.long v :: Value.long w :: Value.ref (a 17) :: Value.ref (a 18) :: Value.ref (a 19) :: Value.ref (a 20) :: Value.ref (a 21) :: Value.ref (a 22) :: Value.ref (a 23) :: Value.int (q 24) :: Value.ref (a 25) :: Value.int (q 26) :: Value.ref (a 27) :: Value.int (q 28) :: Value.int (q 29) :: Value.int (q 30) :: Value.int (q 31) :: Value.int (q 32) :: Value.int (q 33) :: Value.ref (a 34) :: Value.ref (a 35) :: Value.ref (a 36) :: Value.ref (a 37) :: Value.ref (a 38) :: Value.ref (a 39) :: Value.ref (a 40) :: Value.int (q 41) :: Value.ref (a 42) :: Value.int (q 43) :: Value.int (q 44) :: []))), ((a 20), .inl (T 1, 672, .inr (.inl f20))), ((a 21), .inl (T 1, 672, .inr (.inl f21))), ((a 22), .inl (T 4, 672, .inl f22))] s.heap.size = A at hD ⊢
  have hA : ∀ q : Nat, s.heap.size ≤ q → A q := fun q h => by rw [← hAe]; exact Or.inr h
  have hS : va_S A s.heap s.heap [] := va_S.rf
  have hP : va_P D vwCl [(h0, .inr (10, (Value.int (q 0) :: Value.int (q 1) :: Value.int (q 2) :: Value.int (q 3) :: Value.int (q 4) :: Value.int (q 5) :: Value.int (q 6) :: Value.int (q 7) :: Value.ref (a 8) :: Value.ref (a 9) :: Value.ref (a 10) :: Value.ref (a 11) :: Value.ref (a 12) :: Value.ref (a 13) :: Value.int (q 14) :: Value.long v :: Value.long w :: Value.ref (a 17) :: Value.ref (a 18) :: Value.ref (a 19) :: Value.ref (a 20) :: Value.ref (a 21) :: Value.ref (a 22) :: Value.ref (a 23) :: Value.int (q 24) :: Value.ref (a 25) :: Value.int (q 26) :: Value.ref (a 27) :: Value.int (q 28) :: Value.int (q 29) :: Value.int (q 30) :: Value.int (q 31) :: Value.int (q 32) :: Value.int (q 33) :: Value.ref (a 34) :: Value.ref (a 35) :: Value.ref (a 36) :: Value.ref (a 37) :: Value.ref (a 38) :: Value.ref (a 39) :: Value.ref (a 40) :: Value.int (q 41) :: Value.ref (a 42) :: Value.int (q 43) :: Value.int (q 44) :: []))), ((a 20), .inl (T 1, 672, .inr (.inl f20))), ((a 21), .inl (T 1, 672, .inr (.inl f21))), ((a 22), .inl (T 4, 672, .inl f22))] s.heap := hP
  have hl := lv_entry ([.ref h0, .int x1, .int x2, .int x3, .int x4, .int x5]) (n := 10) (Nat.le_of_ble_eq_true rfl)
  rw [lg_entry_eq]
  generalize (lg_sl ([.ref h0, .int x1, .int x2, .int x3, .int x4, .int x5]) ++ List.replicate (10 - (lg_sl ([.ref h0, .int x1, .int x2, .int x3, .int x4, .int x5])).length) Slot.unset).toArray = ls at hl ⊢
  have hl : lv_has ls 10 [(0, .ref h0), (1, .int x1), (2, .int x2), (3, .int x3), (4, .int x4), (5, .int x5)] := hl
  clear hD0
  refine lv_aload_n hx hb dX13_takesBest_0 rfl (lv_at hl 0 rfl) ?_
  refine lv_iload_n hx hb dX13_takesBest_1 rfl (lv_at hl 1 rfl) ?_
  refine lv_iload_n hx hb dX13_takesBest_2 rfl (lv_at hl 3 rfl) ?_
  refine lv_iload hx hb dX13_takesBest_3 (lv_at hl 4 rfl) ?_
  have hFc := va_free (wc := [(h0, .inr (10, (Value.int (q 0) :: Value.int (q 1) :: Value.int (q 2) :: Value.int (q 3) :: Value.int (q 4) :: Value.int (q 5) :: Value.int (q 6) :: Value.int (q 7) :: Value.ref (a 8) :: Value.ref (a 9) :: Value.ref (a 10) :: Value.ref (a 11) :: Value.ref (a 12) :: Value.ref (a 13) :: Value.int (q 14) :: Value.long v :: Value.long w :: Value.ref (a 17) :: Value.ref (a 18) :: Value.ref (a 19) :: Value.ref (a 20) :: Value.ref (a 21) :: Value.ref (a 22) :: Value.ref (a 23) :: Value.int (q 24) :: Value.ref (a 25) :: Value.int (q 26) :: Value.ref (a 27) :: Value.int (q 28) :: Value.int (q 29) :: Value.int (q 30) :: Value.int (q 31) :: Value.int (q 32) :: Value.int (q 33) :: Value.ref (a 34) :: Value.ref (a 35) :: Value.ref (a 36) :: Value.ref (a 37) :: Value.ref (a 38) :: Value.ref (a 39) :: Value.ref (a 40) :: Value.int (q 41) :: Value.ref (a 42) :: Value.int (q 43) :: Value.int (q 44) :: []))), ((a 20), .inl (T 1, 672, .inr (.inl f20))), ((a 21), .inl (T 1, 672, .inr (.inl f21))), ((a 22), .inl (T 4, 672, .inl f22))]) hD hS hA [0, 1, 2, 3] rfl
  refine va_callv (va_runV (As := [.int x1, .int x3, .int x4]) (rest := []) ⟨hx, hb, hml, hown, hts⟩ (c_X13_takes l D T _ h0 q v w a f20 f21 f22 x1 x3 x4 (show isB (q 14) from hB) (show ∀ j : Nat, isB (f22 j) from hZ) (show 0 ≤ x1.toInt ∧ x1.toInt < 24 from (by omega)) (show 0 ≤ x3.toInt ∧ x3.toInt ≤ 6 from (by omega)) (show 0 ≤ x4.toInt ∧ x4.toInt ≤ x3.toInt from (by omega)) (show ∀ j : Nat, (j : Int) = 28 * x1.toInt + tri x3.toInt + x4.toInt → 1 ≤ (f21 j).toInt from hbx)) (cwV 3 hts gX13_takesBest_X13_takes rfl rfl rfl hv_X13_takes ⟨Nat.le_of_ble_eq_true rfl, Nat.le_of_ble_eq_true rfl⟩) (pW_V (q := (RX13, TX13, 45)) (ci := 10) (q0 := 0) hP hE hD rfl rfl [0, 1, 2, 3] (by decide +kernel) rfl rfl) rfl rfl hl.1 rfl (lv_room (Nat.le_of_ble_eq_true rfl)) dX13_takesBest_5 ⟨Nat.le_of_ble_eq_true rfl, Nat.le_of_ble_eq_true rfl⟩) hS (fun q _ h => hFc q h) hFc (fun u_2 t H1 locs ht hvm hr_1 hB hz1 hk1 hS => ?_)
  obtain ⟨n_3, l_4, l_5⟩ := u_2
  obtain ⟨hi0_r_1, hi1_r_1, hi2_r_1, hi3_r_1, hi4_r_1⟩ := hr_1
  have hB14_r_1 : isB n_3 := hi0_r_1
  have hj1_r_1 : 1 ≤ l_5.toInt := hi1_r_1
  have hj2_r_1 : (n_3 : Int32).toInt = 0 ↔ (((q 14) : Int32).toInt = 0 ∧ (f22 (slN x1 x3 x4)).toInt = 0) := hi2_r_1
  have hj3_r_1 : l_4 = f20 (slN x1 x3 x4) := hi3_r_1
  have hj4_r_1 : l_5 = f21 (slN x1 x3 x4) := hi4_r_1
  obtain ⟨hP1, hD1⟩ := hB
  rw [ht] at hP1
  obtain ⟨hP, hD⟩ := va_repl [(h0, .inr (10, (Value.int (q 0) :: Value.int (q 1) :: Value.int (q 2) :: Value.int (q 3) :: Value.int (q 4) :: Value.int (q 5) :: Value.int (q 6) :: Value.int (q 7) :: Value.ref (a 8) :: Value.ref (a 9) :: Value.ref (a 10) :: Value.ref (a 11) :: Value.ref (a 12) :: Value.ref (a 13) :: Value.int n_3 :: Value.long l_4 :: Value.long l_5 :: Value.ref (a 17) :: Value.ref (a 18) :: Value.ref (a 19) :: Value.ref (a 20) :: Value.ref (a 21) :: Value.ref (a 22) :: Value.ref (a 23) :: Value.int (q 24) :: Value.ref (a 25) :: Value.int (q 26) :: Value.ref (a 27) :: Value.int (q 28) :: Value.int (q 29) :: Value.int (q 30) :: Value.int (q 31) :: Value.int (q 32) :: Value.int (q 33) :: Value.ref (a 34) :: Value.ref (a 35) :: Value.ref (a 36) :: Value.ref (a 37) :: Value.ref (a 38) :: Value.ref (a 39) :: Value.ref (a 40) :: Value.int (q 41) :: Value.ref (a 42) :: Value.int (q 43) :: Value.int (q 44) :: []))), ((a 20), .inl (T 1, 672, .inr (.inl f20))), ((a 21), .inl (T 1, 672, .inr (.inl f21))), ((a 22), .inl (T 4, 672, .inl f22))] hP hD [0, 1, 2, 3] [0, 1, 2, 3] rfl (by decide +kernel) rfl rfl rfl hk1 hP1
  clear hP1 hD1 hFc
  generalize H1 = H at hP hS ⊢
  refine lv_aload_n hx hb dX13_takesBest_8 rfl (lv_at hl 0 rfl) ?_
  refine va_get (D := D) (ci := 10) (v := .long l_4) (C := RX13) (T := TX13) (N := 45) hx hb hts in_X13_takesBest_X13 hown hE.1 hP 0 rfl rfl 15 (by decide +kernel) (hts (.fieldLink RX13 145 "ClauseBookModel" "above" "J") (List.mem_of_getElem? (i := 1) rfl)) (fun _ h9 => h9) rfl dX13_takesBest_9 ?_
  refine lv_lstore (lv' := [(6, .long l_4), (0, .ref h0), (1, .int x1), (2, .int x2), (3, .int x3), (4, .int x4), (5, .int x5)]) hx hb dX13_takesBest_12 hl (by decide +kernel) rfl (fun ls hl => ?_)
  refine lv_aload_n hx hb dX13_takesBest_14 rfl (lv_at hl 1 rfl) ?_
  refine va_get (D := D) (ci := 10) (v := .long l_5) (C := RX13) (T := TX13) (N := 45) hx hb hts in_X13_takesBest_X13 hown hE.1 hP 0 rfl rfl 16 (by decide +kernel) (hts (.fieldLink RX13 149 "ClauseBookModel" "below" "J") (List.mem_of_getElem? (i := 2) rfl)) (fun _ h9 => h9) rfl dX13_takesBest_15 ?_
  refine lv_lstore (lv' := [(8, .long l_5), (6, .long l_4), (0, .ref h0), (1, .int x1), (2, .int x2), (3, .int x3), (4, .int x4), (5, .int x5)]) hx hb dX13_takesBest_18 hl (by decide +kernel) rfl (fun ls hl => ?_)
  refine lv_aload_n hx hb dX13_takesBest_20 rfl (lv_at hl 2 rfl) ?_
  refine lv_iload_n hx hb dX13_takesBest_21 rfl (lv_at hl 4 rfl) ?_
  refine lv_iload_n hx hb dX13_takesBest_22 rfl (lv_at hl 5 rfl) ?_
  refine lv_iload hx hb dX13_takesBest_23 (lv_at hl 6 rfl) ?_
  have hFc := va_free (wc := [(h0, .inr (10, (Value.int (q 0) :: Value.int (q 1) :: Value.int (q 2) :: Value.int (q 3) :: Value.int (q 4) :: Value.int (q 5) :: Value.int (q 6) :: Value.int (q 7) :: Value.ref (a 8) :: Value.ref (a 9) :: Value.ref (a 10) :: Value.ref (a 11) :: Value.ref (a 12) :: Value.ref (a 13) :: Value.int n_3 :: Value.long l_4 :: Value.long l_5 :: Value.ref (a 17) :: Value.ref (a 18) :: Value.ref (a 19) :: Value.ref (a 20) :: Value.ref (a 21) :: Value.ref (a 22) :: Value.ref (a 23) :: Value.int (q 24) :: Value.ref (a 25) :: Value.int (q 26) :: Value.ref (a 27) :: Value.int (q 28) :: Value.int (q 29) :: Value.int (q 30) :: Value.int (q 31) :: Value.int (q 32) :: Value.int (q 33) :: Value.ref (a 34) :: Value.ref (a 35) :: Value.ref (a 36) :: Value.ref (a 37) :: Value.ref (a 38) :: Value.ref (a 39) :: Value.ref (a 40) :: Value.int (q 41) :: Value.ref (a 42) :: Value.int (q 43) :: Value.int (q 44) :: []))), ((a 20), .inl (T 1, 672, .inr (.inl f20))), ((a 21), .inl (T 1, 672, .inr (.inl f21))), ((a 22), .inl (T 4, 672, .inl f22))]) hD hS hA [0, 1, 2, 3] rfl
  refine va_callv (va_runV (As := [.int x2, .int x3, .int x4]) (rest := []) ⟨hx, hb, hml, hown, hts⟩ (c_X13_takes l D T _ h0 (fun k => cond (Nat.beq k 14) n_3 (q k)) l_4 l_5 a f20 f21 f22 x2 x3 x4 (show isB n_3 from hB14_r_1) (show ∀ j : Nat, isB (f22 j) from hZ) (show 0 ≤ x2.toInt ∧ x2.toInt < 24 from (by omega)) (show 0 ≤ x3.toInt ∧ x3.toInt ≤ 6 from (by omega)) (show 0 ≤ x4.toInt ∧ x4.toInt ≤ x3.toInt from (by omega)) (show ∀ j : Nat, (j : Int) = 28 * x2.toInt + tri x3.toInt + x4.toInt → 1 ≤ (f21 j).toInt from hby)) (cwV 3 hts gX13_takesBest_X13_takes rfl rfl rfl hv_X13_takes ⟨Nat.le_of_ble_eq_true rfl, Nat.le_of_ble_eq_true rfl⟩) (pW_V (q := (RX13, TX13, 45)) (ci := 10) (q0 := 0) hP hE hD rfl rfl [0, 1, 2, 3] (by decide +kernel) rfl rfl) rfl rfl hl.1 rfl (lv_room (Nat.le_of_ble_eq_true rfl)) dX13_takesBest_25 ⟨Nat.le_of_ble_eq_true rfl, Nat.le_of_ble_eq_true rfl⟩) hS (fun q _ h => hFc q h) hFc (fun u_7 t H1 locs ht hvm hr_6 hB hz1 hk1 hS => ?_)
  obtain ⟨n_8, l_9, l_10⟩ := u_7
  obtain ⟨hi0_r_6, hi1_r_6, hi2_r_6, hi3_r_6, hi4_r_6⟩ := hr_6
  have hB14_r_6 : isB n_8 := hi0_r_6
  have hj1_r_6 : 1 ≤ l_10.toInt := hi1_r_6
  have hj2_r_6 : (n_8 : Int32).toInt = 0 ↔ ((n_3 : Int32).toInt = 0 ∧ (f22 (slN x2 x3 x4)).toInt = 0) := hi2_r_6
  have hj3_r_6 : l_9 = f20 (slN x2 x3 x4) := hi3_r_6
  have hj4_r_6 : l_10 = f21 (slN x2 x3 x4) := hi4_r_6
  obtain ⟨hP1, hD1⟩ := hB
  rw [ht] at hP1
  obtain ⟨hP, hD⟩ := va_repl [(h0, .inr (10, (Value.int (q 0) :: Value.int (q 1) :: Value.int (q 2) :: Value.int (q 3) :: Value.int (q 4) :: Value.int (q 5) :: Value.int (q 6) :: Value.int (q 7) :: Value.ref (a 8) :: Value.ref (a 9) :: Value.ref (a 10) :: Value.ref (a 11) :: Value.ref (a 12) :: Value.ref (a 13) :: Value.int n_8 :: Value.long l_9 :: Value.long l_10 :: Value.ref (a 17) :: Value.ref (a 18) :: Value.ref (a 19) :: Value.ref (a 20) :: Value.ref (a 21) :: Value.ref (a 22) :: Value.ref (a 23) :: Value.int (q 24) :: Value.ref (a 25) :: Value.int (q 26) :: Value.ref (a 27) :: Value.int (q 28) :: Value.int (q 29) :: Value.int (q 30) :: Value.int (q 31) :: Value.int (q 32) :: Value.int (q 33) :: Value.ref (a 34) :: Value.ref (a 35) :: Value.ref (a 36) :: Value.ref (a 37) :: Value.ref (a 38) :: Value.ref (a 39) :: Value.ref (a 40) :: Value.int (q 41) :: Value.ref (a 42) :: Value.int (q 43) :: Value.int (q 44) :: []))), ((a 20), .inl (T 1, 672, .inr (.inl f20))), ((a 21), .inl (T 1, 672, .inr (.inl f21))), ((a 22), .inl (T 4, 672, .inl f22))] hP hD [0, 1, 2, 3] [0, 1, 2, 3] rfl (by decide +kernel) rfl rfl rfl hk1 hP1
  clear hP1 hD1 hFc
  generalize H1 = H at hP hS ⊢
  refine lv_aload_n hx hb dX13_takesBest_28 rfl (lv_at hl 2 rfl) ?_
  refine va_get (D := D) (ci := 10) (v := .int n_8) (C := RX13) (T := TX13) (N := 45) hx hb hts in_X13_takesBest_X13 hown hE.1 hP 0 rfl rfl 14 (by decide +kernel) (hts (.fieldLink RX13 131 "ClauseBookModel" "isMuch" "Z") (List.mem_of_getElem? (i := 3) rfl)) (fun _ h9 => h9) rfl dX13_takesBest_29 ?_
  refine lv_if_ne (tgt := 68) hx hb dX13_takesBest_32 (by decide +kernel) (fun c_11 => ?_) (fun c_11 => ?_)
  · rw [fa_eq] at c_11
    try rw [ti_0] at c_11
    exact W.vret hx hb hr (fun t ht hW => ⟨⟨(n_8, l_9, l_10), rfl, ⟨(show isB n_8 from hB14_r_6), (show 1 ≤ l_10.toInt from (by first | omega | (subst_vars; omega))), (show ((q 14) : Int32).toInt = 0 → mpW n_8 l_9 l_10 = bestW ((tabW f20 f21 f22) x1 x3 x4) ((tabW f20 f21 f22) x2 x3 x4) x5.toInt from (fun h9 => tb_ref (tk_mp h9 hj2_r_1 hj3_r_1 hj4_r_1) (fun q9 => tk_mp q9 hj2_r_6 hj3_r_6 hj4_r_6) (fun q9 => (hj2_r_6.1 q9).1) hj1_r_1 hj1_r_6 (fun h8 => absurd h8 (by omega))))⟩, by rw [ht]; exact hP.sub [0, 1, 2, 3] rfl, hD.sub [0, 1, 2, 3] (by decide +kernel) rfl⟩, hS.F ht⟩) hS.2.2 dX13_takesBest_68
  · rw [fa_eq] at c_11
    try rw [ti_0] at c_11
    refine lv_lload hx hb dX13_takesBest_35 (lv_at hl 1 rfl) ?_
    refine lv_lload hx hb dX13_takesBest_37 (lv_at hl 0 rfl) ?_
    refine lv_aload_n hx hb dX13_takesBest_39 rfl (lv_at hl 2 rfl) ?_
    refine va_get (D := D) (ci := 10) (v := .long l_9) (C := RX13) (T := TX13) (N := 45) hx hb hts in_X13_takesBest_X13 hown hE.1 hP 0 rfl rfl 15 (by decide +kernel) (hts (.fieldLink RX13 145 "ClauseBookModel" "above" "J") (List.mem_of_getElem? (i := 1) rfl)) (fun _ h9 => h9) rfl dX13_takesBest_40 ?_
    refine lv_aload_n hx hb dX13_takesBest_43 rfl (lv_at hl 2 rfl) ?_
    refine va_get (D := D) (ci := 10) (v := .long l_10) (C := RX13) (T := TX13) (N := 45) hx hb hts in_X13_takesBest_X13 hown hE.1 hP 0 rfl rfl 16 (by decide +kernel) (hts (.fieldLink RX13 149 "ClauseBookModel" "below" "J") (List.mem_of_getElem? (i := 2) rfl)) (fun _ h9 => h9) rfl dX13_takesBest_44 ?_
    refine vp_callSi (W.runS (As := [.long l_4, .long l_5, .long l_9, .long l_10]) (rest := []) ⟨hx, hb, hml, hown, hts⟩ (cC_all l D T 127 l_4 l_5 l_9 l_10 (by omega) (by omega) (cmpT (by omega) (by omega))) (va_cwS 4 hts gX13_takesBest_X13_compared rfl rfl rfl hs_X13_compared ⟨Nat.le_of_ble_eq_true rfl, Nat.le_of_ble_eq_true rfl⟩) (pR_S hP hE [] rfl) rfl rfl hl.1 rfl (lv_room (Nat.le_of_ble_eq_true rfl)) dX13_takesBest_47 ⟨Nat.le_of_ble_eq_true rfl, Nat.le_of_ble_eq_true rfl⟩) (fun r_12 hr_12 => ?_)
    refine lv_iload hx hb dX13_takesBest_50 (lv_at hl 7 rfl) ?_
    refine lv_imul hx hb dX13_takesBest_52 ?_
    refine lv_topi (fun z_13 ez_13 => ?_)
    have hco9 : z_13.toInt = r_12.toInt * x5.toInt := by rw [ez_13]; exact mul_s (by rw [hr_12]; exact cmpW_in _ _ _ _) hx5
    rw [hr_12] at hco9
    refine lv_if_le (tgt := 68) hx hb dX13_takesBest_53 (by decide +kernel) (fun c_14 => ?_) (fun c_14 => ?_)
    · rw [fa_le] at c_14
      try rw [ti_0] at c_14
      exact W.vret hx hb hr (fun t ht hW => ⟨⟨(n_8, l_9, l_10), rfl, ⟨(show isB n_8 from hB14_r_6), (show 1 ≤ l_10.toInt from (by first | omega | (subst_vars; omega))), (show ((q 14) : Int32).toInt = 0 → mpW n_8 l_9 l_10 = bestW ((tabW f20 f21 f22) x1 x3 x4) ((tabW f20 f21 f22) x2 x3 x4) x5.toInt from (fun h9 => tb_ref (tk_mp h9 hj2_r_1 hj3_r_1 hj4_r_1) (fun q9 => tk_mp q9 hj2_r_6 hj3_r_6 hj4_r_6) (fun q9 => (hj2_r_6.1 q9).1) hj1_r_1 hj1_r_6 (fun _ => Or.inr ⟨(by omega), rfl, rfl⟩)))⟩, by rw [ht]; exact hP.sub [0, 1, 2, 3] rfl, hD.sub [0, 1, 2, 3] (by decide +kernel) rfl⟩, hS.F ht⟩) hS.2.2 dX13_takesBest_68
    · rw [fa_le] at c_14
      try rw [ti_0] at c_14
      refine lv_aload_n hx hb dX13_takesBest_56 rfl (lv_at hl 2 rfl) ?_
      refine lv_lload hx hb dX13_takesBest_57 (lv_at hl 1 rfl) ?_
      refine va_put (D := D) (ci := 10) (v := .long l_4) (ty := .long) (C := RX13) (T := TX13) (N := 45) hx hb hts in_X13_takesBest_X13 tyX13 tyX13_ok nmX13 hown hE.1 hP hD hS 0 rfl rfl 15 (by decide +kernel) (hts (.fieldLink RX13 145 "ClauseBookModel" "above" "J") (List.mem_of_getElem? (i := 1) rfl)) (fun _ h9 => h9) rfl (by decide +kernel) rfl rfl (Nat.le_of_ble_eq_true rfl) dX13_takesBest_59 (fun H locs hP hD hS => ?_)
      obtain ⟨hP, hD⟩ := wPD [(h0, .inr (10, (Value.int (q 0) :: Value.int (q 1) :: Value.int (q 2) :: Value.int (q 3) :: Value.int (q 4) :: Value.int (q 5) :: Value.int (q 6) :: Value.int (q 7) :: Value.ref (a 8) :: Value.ref (a 9) :: Value.ref (a 10) :: Value.ref (a 11) :: Value.ref (a 12) :: Value.ref (a 13) :: Value.int n_8 :: Value.long l_4 :: Value.long l_10 :: Value.ref (a 17) :: Value.ref (a 18) :: Value.ref (a 19) :: Value.ref (a 20) :: Value.ref (a 21) :: Value.ref (a 22) :: Value.ref (a 23) :: Value.int (q 24) :: Value.ref (a 25) :: Value.int (q 26) :: Value.ref (a 27) :: Value.int (q 28) :: Value.int (q 29) :: Value.int (q 30) :: Value.int (q 31) :: Value.int (q 32) :: Value.int (q 33) :: Value.ref (a 34) :: Value.ref (a 35) :: Value.ref (a 36) :: Value.ref (a 37) :: Value.ref (a 38) :: Value.ref (a 39) :: Value.ref (a 40) :: Value.int (q 41) :: Value.ref (a 42) :: Value.int (q 43) :: Value.int (q 44) :: []))), ((a 20), .inl (T 1, 672, .inr (.inl f20))), ((a 21), .inl (T 1, 672, .inr (.inl f21))), ((a 22), .inl (T 4, 672, .inl f22))] hP hD rfl
      refine lv_aload_n hx hb dX13_takesBest_62 rfl (lv_at hl 2 rfl) ?_
      refine lv_lload hx hb dX13_takesBest_63 (lv_at hl 0 rfl) ?_
      refine va_put (D := D) (ci := 10) (v := .long l_5) (ty := .long) (C := RX13) (T := TX13) (N := 45) hx hb hts in_X13_takesBest_X13 tyX13 tyX13_ok nmX13 hown hE.1 hP hD hS 0 rfl rfl 16 (by decide +kernel) (hts (.fieldLink RX13 149 "ClauseBookModel" "below" "J") (List.mem_of_getElem? (i := 2) rfl)) (fun _ h9 => h9) rfl (by decide +kernel) rfl rfl (Nat.le_of_ble_eq_true rfl) dX13_takesBest_65 (fun H locs hP hD hS => ?_)
      obtain ⟨hP, hD⟩ := wPD [(h0, .inr (10, (Value.int (q 0) :: Value.int (q 1) :: Value.int (q 2) :: Value.int (q 3) :: Value.int (q 4) :: Value.int (q 5) :: Value.int (q 6) :: Value.int (q 7) :: Value.ref (a 8) :: Value.ref (a 9) :: Value.ref (a 10) :: Value.ref (a 11) :: Value.ref (a 12) :: Value.ref (a 13) :: Value.int n_8 :: Value.long l_4 :: Value.long l_5 :: Value.ref (a 17) :: Value.ref (a 18) :: Value.ref (a 19) :: Value.ref (a 20) :: Value.ref (a 21) :: Value.ref (a 22) :: Value.ref (a 23) :: Value.int (q 24) :: Value.ref (a 25) :: Value.int (q 26) :: Value.ref (a 27) :: Value.int (q 28) :: Value.int (q 29) :: Value.int (q 30) :: Value.int (q 31) :: Value.int (q 32) :: Value.int (q 33) :: Value.ref (a 34) :: Value.ref (a 35) :: Value.ref (a 36) :: Value.ref (a 37) :: Value.ref (a 38) :: Value.ref (a 39) :: Value.ref (a 40) :: Value.int (q 41) :: Value.ref (a 42) :: Value.int (q 43) :: Value.int (q 44) :: []))), ((a 20), .inl (T 1, 672, .inr (.inl f20))), ((a 21), .inl (T 1, 672, .inr (.inl f21))), ((a 22), .inl (T 4, 672, .inl f22))] hP hD rfl
      exact W.vret hx hb hr (fun t ht hW => ⟨⟨(n_8, l_4, l_5), rfl, ⟨(show isB n_8 from hB14_r_6), (show 1 ≤ l_5.toInt from (by first | omega | (subst_vars; omega))), (show ((q 14) : Int32).toInt = 0 → mpW n_8 l_4 l_5 = bestW ((tabW f20 f21 f22) x1 x3 x4) ((tabW f20 f21 f22) x2 x3 x4) x5.toInt from (fun h9 => tb_ref (tk_mp h9 hj2_r_1 hj3_r_1 hj4_r_1) (fun q9 => tk_mp q9 hj2_r_6 hj3_r_6 hj4_r_6) (fun q9 => (hj2_r_6.1 q9).1) hj1_r_1 hj1_r_6 (fun _ => Or.inl ⟨(by omega), rfl, rfl⟩)))⟩, by rw [ht]; exact hP.sub [0, 1, 2, 3] rfl, hD.sub [0, 1, 2, 3] (by decide +kernel) rfl⟩, hS.F ht⟩) hS.2.2 dX13_takesBest_68
theorem dX13_isMuchAt_0 : decode cX13_isMuchAt 0 = .ok (.aload_n 0, 1) := by decide +kernel
theorem dX13_isMuchAt_1 : decode cX13_isMuchAt 1 = .ok (.getfield 63, 3) := by decide +kernel
theorem dX13_isMuchAt_10 : decode cX13_isMuchAt 10 = .ok (.baload, 1) := by decide +kernel
theorem dX13_isMuchAt_11 : decode cX13_isMuchAt 11 = .ok (.ireturn, 1) := by decide +kernel
theorem dX13_isMuchAt_4 : decode cX13_isMuchAt 4 = .ok (.iload_n 1, 1) := by decide +kernel
theorem dX13_isMuchAt_5 : decode cX13_isMuchAt 5 = .ok (.iload_n 2, 1) := by decide +kernel
theorem dX13_isMuchAt_6 : decode cX13_isMuchAt 6 = .ok (.iload_n 3, 1) := by decide +kernel
theorem dX13_isMuchAt_7 : decode cX13_isMuchAt 7 = .ok (.invokestatic 239, 3) := by decide +kernel
set_option maxRecDepth 20000 in
theorem ggX13_isMuchAt_X13_at : GoodIn wsX13_isMuchAt wsX13_at := goodIn_r _ [5] rfl (by decide +kernel)
set_option maxRecDepth 20000 in
theorem gX13_isMuchAt_X13_at : GoodIn wsX13_isMuchAt (va_wsS RX13 239 yX13_at wsX13_at) := goodIn_app (goodIn_of _ (by decide +kernel)) ggX13_isMuchAt_X13_at
set_option maxRecDepth 20000 in
theorem in_X13_isMuchAt_X13 : ∀ w ∈ wsX130, w ∈ wsX13_isMuchAt := sub_r [6, 7, 8, 9, 10, 11, 12, 13, 14, 15, 16, 17, 18, 19, 20, 21, 22, 23, 24, 25, 26, 27, 28, 29, 30, 31, 32, 33, 34, 35, 36, 37, 38, 39, 40, 41, 42, 43, 44, 45, 46, 47, 48, 49, 50] rfl
set_option maxHeartbeats 4000000 in
set_option maxRecDepth 100000 in
theorem c_X13_isMuchAt (l : Launch) (D : va_G) (T : Nat → ClassId) (h0 : Nat) (fs0 : List Value) (h1 : Nat) (f1 : Nat → Int32) (x1 : Int32) (x2 : Int32) (x3 : Int32) (e0_22 : fs0[22]? = some (.ref h1)) (hZ : ∀ j : Nat, isB (f1 j)) (hx1 : 0 ≤ x1.toInt ∧ x1.toInt < 24) (hx2 : 0 ≤ x2.toInt ∧ x2.toInt ≤ 6) (hx3 : 0 ≤ x3.toInt ∧ x3.toInt ≤ x2.toInt) : Met l yX13_isMuchAt wsX13_isMuchAt ({ frames := 1, cells := 0, slots := 0, locals := 22 }) (pR [.ref h0, .int x1, .int x2, .int x3] D T [(h0, .inr (10, fs0)), (h1, .inl (T 4, 672, .inl f1))]) (vp_Si (fun r => isB r ∧ r = f1 (slN x1 x2 x3))) 0 0 (fun _ => False) := by
  refine Met.ofW (cc := cX13_isMuchAt) (maxL := 4) (ret := (some .boolean)) (by decide +kernel) rfl ?_
  intro p e s m args below meth c s₁ B hml hv
  obtain ⟨rfl, hP, hE⟩ := hv
  have hx := B.exec
  have hb := B.bytes
  have hr := B.returns
  have hts := atoms_spec (ws := wsX13_isMuchAt) B.pre
  have hown : s.vm.findClass RX13 = some m.cls := findClass_of_methodNamed B.named
  have hlocks := B.notSynchronized
  have hP : va_P D vwCl [(h0, .inr (10, fs0)), (h1, .inl (T 4, 672, .inl f1))] s.heap := hP
  have hl := lv_entry ([.ref h0, .int x1, .int x2, .int x3]) (n := 4) (Nat.le_of_ble_eq_true rfl)
  rw [lg_entry_eq]
  generalize (lg_sl ([.ref h0, .int x1, .int x2, .int x3]) ++ List.replicate (4 - (lg_sl ([.ref h0, .int x1, .int x2, .int x3])).length) Slot.unset).toArray = ls at hl ⊢
  have hl : lv_has ls 4 [(0, .ref h0), (1, .int x1), (2, .int x2), (3, .int x3)] := hl
  refine lv_aload_n hx hb dX13_isMuchAt_0 rfl (lv_at hl 0 rfl) ?_
  refine va_get (D := D) (ci := 10) (v := .ref h1) (C := RX13) (T := TX13) (N := 45) hx hb hts in_X13_isMuchAt_X13 hown hE.1 hP 0 rfl rfl 22 (by decide +kernel) (hts (.fieldLink RX13 63 "ClauseBookModel" "worthMuch" "[Z") (List.mem_of_getElem? (i := 1) rfl)) (fun _ h9 => h9) e0_22 dX13_isMuchAt_1 ?_
  refine lv_iload_n hx hb dX13_isMuchAt_4 rfl (lv_at hl 1 rfl) ?_
  refine lv_iload_n hx hb dX13_isMuchAt_5 rfl (lv_at hl 2 rfl) ?_
  refine lv_iload_n hx hb dX13_isMuchAt_6 rfl (lv_at hl 3 rfl) ?_
  refine vp_callSi (W.runS (As := [.int x1, .int x2, .int x3]) (rest := [.ref h1]) ⟨hx, hb, hml, hown, hts⟩ (c_X13_at l D T x1 x2 x3 (by (try simp only [ti_0]); omega) (by (try simp only [ti_0]); omega) (by (try simp only [ti_0]); omega)) (va_cwS 3 hts gX13_isMuchAt_X13_at rfl rfl rfl hs_X13_at ⟨Nat.le_of_ble_eq_true rfl, Nat.le_of_ble_eq_true rfl⟩) (pR_S hP hE [] rfl) rfl rfl hl.1 rfl (lv_room (Nat.le_of_ble_eq_true rfl)) dX13_isMuchAt_7 ⟨Nat.le_of_ble_eq_true rfl, Nat.le_of_ble_eq_true rfl⟩) (fun r_1 hr_1 => ?_)
  refine va_zald hx hb hE.1 hP 1 4 rfl rfl (by rw [vp_in_iff]; first | omega | (subst_vars; omega)) dX13_isMuchAt_10 ?_
  refine lv_topi (fun z_2 ez_2 => ?_)
  have hBz_2 : isB z_2 := by rw [ez_2]; exact hZ _
  exact W.zret hx hb hr (isB.nar hBz_2) (fun t ht hW => ⟨_, rfl, ⟨hBz_2, (by rw [ez_2, at_sl (by omega) (by omega) (by omega) hr_1.1])⟩, ht⟩) (fun _ h => by cases h) dX13_isMuchAt_11
theorem dX13_comparedAt_0 : decode cX13_comparedAt 0 = .ok (.iload_n 1, 1) := by decide +kernel
theorem dX13_comparedAt_1 : decode cX13_comparedAt 1 = .ok (.iload_n 3, 1) := by decide +kernel
theorem dX13_comparedAt_10 : decode cX13_comparedAt 10 = .ok (.iload_n 3, 1) := by decide +kernel
theorem dX13_comparedAt_11 : decode cX13_comparedAt 11 = .ok (.iload 4, 2) := by decide +kernel
theorem dX13_comparedAt_13 : decode cX13_comparedAt 13 = .ok (.invokestatic 239, 3) := by decide +kernel
theorem dX13_comparedAt_16 : decode cX13_comparedAt 16 = .ok (.istore 6, 2) := by decide +kernel
theorem dX13_comparedAt_18 : decode cX13_comparedAt 18 = .ok (.aload_n 0, 1) := by decide +kernel
theorem dX13_comparedAt_19 : decode cX13_comparedAt 19 = .ok (.getfield 56, 3) := by decide +kernel
theorem dX13_comparedAt_2 : decode cX13_comparedAt 2 = .ok (.iload 4, 2) := by decide +kernel
theorem dX13_comparedAt_22 : decode cX13_comparedAt 22 = .ok (.iload 5, 2) := by decide +kernel
theorem dX13_comparedAt_24 : decode cX13_comparedAt 24 = .ok (.laload, 1) := by decide +kernel
theorem dX13_comparedAt_25 : decode cX13_comparedAt 25 = .ok (.aload_n 0, 1) := by decide +kernel
theorem dX13_comparedAt_26 : decode cX13_comparedAt 26 = .ok (.getfield 60, 3) := by decide +kernel
theorem dX13_comparedAt_29 : decode cX13_comparedAt 29 = .ok (.iload 5, 2) := by decide +kernel
theorem dX13_comparedAt_31 : decode cX13_comparedAt 31 = .ok (.laload, 1) := by decide +kernel
theorem dX13_comparedAt_32 : decode cX13_comparedAt 32 = .ok (.aload_n 0, 1) := by decide +kernel
theorem dX13_comparedAt_33 : decode cX13_comparedAt 33 = .ok (.getfield 56, 3) := by decide +kernel
theorem dX13_comparedAt_36 : decode cX13_comparedAt 36 = .ok (.iload 6, 2) := by decide +kernel
theorem dX13_comparedAt_38 : decode cX13_comparedAt 38 = .ok (.laload, 1) := by decide +kernel
theorem dX13_comparedAt_39 : decode cX13_comparedAt 39 = .ok (.aload_n 0, 1) := by decide +kernel
theorem dX13_comparedAt_4 : decode cX13_comparedAt 4 = .ok (.invokestatic 239, 3) := by decide +kernel
theorem dX13_comparedAt_40 : decode cX13_comparedAt 40 = .ok (.getfield 60, 3) := by decide +kernel
theorem dX13_comparedAt_43 : decode cX13_comparedAt 43 = .ok (.iload 6, 2) := by decide +kernel
theorem dX13_comparedAt_45 : decode cX13_comparedAt 45 = .ok (.laload, 1) := by decide +kernel
theorem dX13_comparedAt_46 : decode cX13_comparedAt 46 = .ok (.invokestatic 167, 3) := by decide +kernel
theorem dX13_comparedAt_49 : decode cX13_comparedAt 49 = .ok (.ireturn, 1) := by decide +kernel
theorem dX13_comparedAt_7 : decode cX13_comparedAt 7 = .ok (.istore 5, 2) := by decide +kernel
theorem dX13_comparedAt_9 : decode cX13_comparedAt 9 = .ok (.iload_n 2, 1) := by decide +kernel
set_option maxRecDepth 20000 in
theorem ggX13_comparedAt_X13_at : GoodIn wsX13_comparedAt wsX13_at := goodIn_r _ [6] rfl (by decide +kernel)
set_option maxRecDepth 20000 in
theorem ggX13_comparedAt_X13_compared : GoodIn wsX13_comparedAt wsX13_compared := goodIn_r _ [9, 10, 11, 12, 13, 7, 8, 5] rfl (by decide +kernel)
set_option maxRecDepth 20000 in
theorem gX13_comparedAt_X13_at : GoodIn wsX13_comparedAt (va_wsS RX13 239 yX13_at wsX13_at) := goodIn_app (goodIn_of _ (by decide +kernel)) ggX13_comparedAt_X13_at
set_option maxRecDepth 20000 in
theorem gX13_comparedAt_X13_compared : GoodIn wsX13_comparedAt (va_wsS RX13 167 yX13_compared wsX13_compared) := goodIn_app (goodIn_of _ (by decide +kernel)) ggX13_comparedAt_X13_compared
set_option maxRecDepth 20000 in
theorem in_X13_comparedAt_X13 : ∀ w ∈ wsX130, w ∈ wsX13_comparedAt := sub_r [14, 15, 16, 17, 18, 19, 20, 21, 22, 23, 24, 25, 26, 27, 28, 29, 30, 31, 32, 33, 34, 35, 36, 37, 38, 39, 40, 41, 42, 43, 44, 45, 46, 47, 48, 49, 50, 51, 52, 53, 54, 55, 56, 57, 58] rfl
set_option maxHeartbeats 4000000 in
set_option maxRecDepth 100000 in
theorem c_X13_comparedAt (l : Launch) (D : va_G) (T : Nat → ClassId) (h0 : Nat) (fs0 : List Value) (h1 : Nat) (f1 : Nat → Int64) (h2 : Nat) (f2 : Nat → Int64) (x1 : Int32) (x2 : Int32) (x3 : Int32) (x4 : Int32) (e0_20 : fs0[20]? = some (.ref h1)) (e0_21 : fs0[21]? = some (.ref h2)) (hx1 : 0 ≤ x1.toInt ∧ x1.toInt < 24) (hx2 : 0 ≤ x2.toInt ∧ x2.toInt < 24) (hx3 : 0 ≤ x3.toInt ∧ x3.toInt ≤ 6) (hx4 : 0 ≤ x4.toInt ∧ x4.toInt ≤ x3.toInt) (hbx : ∀ j : Nat, (j : Int) = 28 * x1.toInt + tri x3.toInt + x4.toInt → 1 ≤ (f2 j).toInt) (hby : ∀ j : Nat, (j : Int) = 28 * x2.toInt + tri x3.toInt + x4.toInt → 1 ≤ (f2 j).toInt) : Met l yX13_comparedAt wsX13_comparedAt ({ frames := 130, cells := 0, slots := 0, locals := 5175 }) (pR [.ref h0, .int x1, .int x2, .int x3, .int x4] D T [(h0, .inr (10, fs0)), (h1, .inl (T 1, 672, .inr (.inl f1))), (h2, .inl (T 1, 672, .inr (.inl f2)))]) (vp_Si (fun r => r.toInt = cmpW (f1 (slN x1 x3 x4)).toInt (f2 (slN x1 x3 x4)).toInt (f1 (slN x2 x3 x4)).toInt (f2 (slN x2 x3 x4)).toInt)) 0 0 (fun _ => False) := by
  refine Met.ofW (cc := cX13_comparedAt) (maxL := 7) (ret := (some .int)) (by decide +kernel) rfl ?_
  intro p e s m args below meth c s₁ B hml hv
  obtain ⟨rfl, hP, hE⟩ := hv
  have hx := B.exec
  have hb := B.bytes
  have hr := B.returns
  have hts := atoms_spec (ws := wsX13_comparedAt) B.pre
  have hown : s.vm.findClass RX13 = some m.cls := findClass_of_methodNamed B.named
  have hlocks := B.notSynchronized
  have hP : va_P D vwCl [(h0, .inr (10, fs0)), (h1, .inl (T 1, 672, .inr (.inl f1))), (h2, .inl (T 1, 672, .inr (.inl f2)))] s.heap := hP
  have hl := lv_entry ([.ref h0, .int x1, .int x2, .int x3, .int x4]) (n := 7) (Nat.le_of_ble_eq_true rfl)
  rw [lg_entry_eq]
  generalize (lg_sl ([.ref h0, .int x1, .int x2, .int x3, .int x4]) ++ List.replicate (7 - (lg_sl ([.ref h0, .int x1, .int x2, .int x3, .int x4])).length) Slot.unset).toArray = ls at hl ⊢
  have hl : lv_has ls 7 [(0, .ref h0), (1, .int x1), (2, .int x2), (3, .int x3), (4, .int x4)] := hl
  refine lv_iload_n hx hb dX13_comparedAt_0 rfl (lv_at hl 1 rfl) ?_
  refine lv_iload_n hx hb dX13_comparedAt_1 rfl (lv_at hl 3 rfl) ?_
  refine lv_iload hx hb dX13_comparedAt_2 (lv_at hl 4 rfl) ?_
  refine vp_callSi (W.runS (As := [.int x1, .int x3, .int x4]) (rest := []) ⟨hx, hb, hml, hown, hts⟩ (c_X13_at l D T x1 x3 x4 (by (try simp only [ti_0]); omega) (by (try simp only [ti_0]); omega) (by (try simp only [ti_0]); omega)) (va_cwS 3 hts gX13_comparedAt_X13_at rfl rfl rfl hs_X13_at ⟨Nat.le_of_ble_eq_true rfl, Nat.le_of_ble_eq_true rfl⟩) (pR_S hP hE [] rfl) rfl rfl hl.1 rfl (lv_room (Nat.le_of_ble_eq_true rfl)) dX13_comparedAt_4 ⟨Nat.le_of_ble_eq_true rfl, Nat.le_of_ble_eq_true rfl⟩) (fun r_1 hr_1 => ?_)
  refine lv_istore (lv' := [(5, .int r_1), (0, .ref h0), (1, .int x1), (2, .int x2), (3, .int x3), (4, .int x4)]) hx hb dX13_comparedAt_7 hl (by decide +kernel) rfl (fun ls hl => ?_)
  refine lv_iload_n hx hb dX13_comparedAt_9 rfl (lv_at hl 3 rfl) ?_
  refine lv_iload_n hx hb dX13_comparedAt_10 rfl (lv_at hl 4 rfl) ?_
  refine lv_iload hx hb dX13_comparedAt_11 (lv_at hl 5 rfl) ?_
  refine vp_callSi (W.runS (As := [.int x2, .int x3, .int x4]) (rest := []) ⟨hx, hb, hml, hown, hts⟩ (c_X13_at l D T x2 x3 x4 (by (try simp only [ti_0]); omega) (by (try simp only [ti_0]); omega) (by (try simp only [ti_0]); omega)) (va_cwS 3 hts gX13_comparedAt_X13_at rfl rfl rfl hs_X13_at ⟨Nat.le_of_ble_eq_true rfl, Nat.le_of_ble_eq_true rfl⟩) (pR_S hP hE [] rfl) rfl rfl hl.1 rfl (lv_room (Nat.le_of_ble_eq_true rfl)) dX13_comparedAt_13 ⟨Nat.le_of_ble_eq_true rfl, Nat.le_of_ble_eq_true rfl⟩) (fun r_2 hr_2 => ?_)
  refine lv_istore (lv' := [(6, .int r_2), (5, .int r_1), (0, .ref h0), (1, .int x1), (2, .int x2), (3, .int x3), (4, .int x4)]) hx hb dX13_comparedAt_16 hl (by decide +kernel) rfl (fun ls hl => ?_)
  have hsl5 : r_1.toNatClampNeg = slN x1 x3 x4 := at_sl (by omega) (by omega) (by omega) hr_1.1
  have hsl6 : r_2.toNatClampNeg = slN x2 x3 x4 := at_sl (by omega) (by omega) (by omega) hr_2.1
  refine lv_aload_n hx hb dX13_comparedAt_18 rfl (lv_at hl 2 rfl) ?_
  refine va_get (D := D) (ci := 10) (v := .ref h1) (C := RX13) (T := TX13) (N := 45) hx hb hts in_X13_comparedAt_X13 hown hE.1 hP 0 rfl rfl 20 (by decide +kernel) (hts (.fieldLink RX13 56 "ClauseBookModel" "worthAbove" "[J") (List.mem_of_getElem? (i := 1) rfl)) (fun _ h9 => h9) e0_20 dX13_comparedAt_19 ?_
  refine lv_iload hx hb dX13_comparedAt_22 (lv_at hl 1 rfl) ?_
  refine va_lald hx hb hE.1 hP 1 1 rfl rfl (by rw [vp_in_iff]; first | omega | (subst_vars; omega)) dX13_comparedAt_24 ?_
  refine lv_topl (fun z_3 ez_3 => ?_)
  refine lv_aload_n hx hb dX13_comparedAt_25 rfl (lv_at hl 2 rfl) ?_
  refine va_get (D := D) (ci := 10) (v := .ref h2) (C := RX13) (T := TX13) (N := 45) hx hb hts in_X13_comparedAt_X13 hown hE.1 hP 0 rfl rfl 21 (by decide +kernel) (hts (.fieldLink RX13 60 "ClauseBookModel" "worthBelow" "[J") (List.mem_of_getElem? (i := 2) rfl)) (fun _ h9 => h9) e0_21 dX13_comparedAt_26 ?_
  refine lv_iload hx hb dX13_comparedAt_29 (lv_at hl 1 rfl) ?_
  refine va_lald hx hb hE.1 hP 2 1 rfl rfl (by rw [vp_in_iff]; first | omega | (subst_vars; omega)) dX13_comparedAt_31 ?_
  refine lv_topl (fun z_4 ez_4 => ?_)
  have hbz_4 : 1 ≤ z_4.toInt := by
    rw [ez_4]
    have h9 := tn (x := r_1) (by omega)
    exact hbx _ (by omega)
  refine lv_aload_n hx hb dX13_comparedAt_32 rfl (lv_at hl 2 rfl) ?_
  refine va_get (D := D) (ci := 10) (v := .ref h1) (C := RX13) (T := TX13) (N := 45) hx hb hts in_X13_comparedAt_X13 hown hE.1 hP 0 rfl rfl 20 (by decide +kernel) (hts (.fieldLink RX13 56 "ClauseBookModel" "worthAbove" "[J") (List.mem_of_getElem? (i := 1) rfl)) (fun _ h9 => h9) e0_20 dX13_comparedAt_33 ?_
  refine lv_iload hx hb dX13_comparedAt_36 (lv_at hl 0 rfl) ?_
  refine va_lald hx hb hE.1 hP 1 1 rfl rfl (by rw [vp_in_iff]; first | omega | (subst_vars; omega)) dX13_comparedAt_38 ?_
  refine lv_topl (fun z_5 ez_5 => ?_)
  refine lv_aload_n hx hb dX13_comparedAt_39 rfl (lv_at hl 2 rfl) ?_
  refine va_get (D := D) (ci := 10) (v := .ref h2) (C := RX13) (T := TX13) (N := 45) hx hb hts in_X13_comparedAt_X13 hown hE.1 hP 0 rfl rfl 21 (by decide +kernel) (hts (.fieldLink RX13 60 "ClauseBookModel" "worthBelow" "[J") (List.mem_of_getElem? (i := 2) rfl)) (fun _ h9 => h9) e0_21 dX13_comparedAt_40 ?_
  refine lv_iload hx hb dX13_comparedAt_43 (lv_at hl 0 rfl) ?_
  refine va_lald hx hb hE.1 hP 2 1 rfl rfl (by rw [vp_in_iff]; first | omega | (subst_vars; omega)) dX13_comparedAt_45 ?_
  refine lv_topl (fun z_6 ez_6 => ?_)
  have hbz_6 : 1 ≤ z_6.toInt := by
    rw [ez_6]
    have h9 := tn (x := r_2) (by omega)
    exact hby _ (by omega)
  refine vp_callSi (W.runS (As := [.long z_3, .long z_4, .long z_5, .long z_6]) (rest := []) ⟨hx, hb, hml, hown, hts⟩ (cC_all l D T 127 z_3 z_4 z_5 z_6 (by omega) (by omega) (cmpT (by omega) (by omega))) (va_cwS 4 hts gX13_comparedAt_X13_compared rfl rfl rfl hs_X13_compared ⟨Nat.le_of_ble_eq_true rfl, Nat.le_of_ble_eq_true rfl⟩) (pR_S hP hE [] rfl) rfl rfl hl.1 rfl (lv_room (Nat.le_of_ble_eq_true rfl)) dX13_comparedAt_46 ⟨Nat.le_of_ble_eq_true rfl, Nat.le_of_ble_eq_true rfl⟩) (fun r_7 hr_7 => ?_)
  exact W.iret hx hb hr (fun t ht hW => ⟨_, rfl, (by show r_7.toInt = _; rw [hr_7, ez_3, ez_4, ez_5, ez_6, hsl5, hsl6]), ht⟩) (fun _ h => by cases h) dX13_comparedAt_49
end
