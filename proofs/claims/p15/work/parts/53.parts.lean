/-! ends, how many, how deep, as the reference lays them -/
theorem okR.Nm {fk fc fd : Nat → Int32} (h : okR fk fc fd) : okN fk fc fd 24 := fun j hj => ⟨(h j hj).2.1, (h j hj).2.2⟩
theorem mesE_r8 {fk fn fc fd fe : Nat → Int32} {j : Nat} {v b b0 n : Int32} (hk : (fk j).toNatClampNeg = 8) (hb : b0.toInt = endB fk fc fd fe j) (he : b.toInt = b0.toInt) (hv : v = if b < n then b else n) (hn : n = fn j) : v.toInt = mesE fk fn fc fd fe j := by
  unfold mesE
  rw [if_pos hk, hv, imin_t, he, hb, hn, Int.min_comm]
theorem mesE_rn {fk fn fc fd fe : Nat → Int32} {j : Nat} {b b0 : Int32} (hk : ¬ (fk j).toNatClampNeg = 8) (hb : b0.toInt = endB fk fc fd fe j) (he : b.toInt = b0.toInt) : b.toInt = mesE fk fn fc fd fe j := mesE_no hk (he.trans hb)
theorem mesM_r1 {fk fc fd fm : Nat → Int32} {j : Nat} {s m c : Int32} (h : (nmT (fk j).toNatClampNeg).toInt = 1) (hs : s = (1 + m) + 0) (hm : m = fm c.toNatClampNeg) (hc : c = fc j) : s = mesM fk fc fd fm j := mesM_1 h (hs.trans (Int32.add_zero _)) hm hc
theorem mesM_r2 {fk fc fd fm : Nat → Int32} {j : Nat} {s m c m2 d : Int32} (h : (nmT (fk j).toNatClampNeg).toInt = 2) (hs : s = (1 + m) + m2) (hm : m = fm c.toNatClampNeg) (hc : c = fc j) (hm2 : m2 = fm d.toNatClampNeg) (hd : d = fd j) : s = mesM fk fc fd fm j := mesM_2 h hs rfl hm hc hm2 hd
theorem mesD_r1 {fk fc fd fp : Nat → Int32} {j : Nat} {s p c : Int32} (h : (nmT (fk j).toNatClampNeg).toInt = 1) (hs : s = 1 + p) (hp : p = fp c.toNatClampNeg) (hc : c = fc j) : s = mesD fk fc fd fp j := (hs.trans (Int32.add_comm _ _)).trans (mesD_1 h hp hc)
theorem mesD_r2 {fk fc fd fp : Nat → Int32} {j : Nat} {s v p c p2 d : Int32} (h : (nmT (fk j).toNatClampNeg).toInt = 2) (hs : s = 1 + v) (hv : v = if p < p2 then p2 else p) (hp : p = fp c.toNatClampNeg) (hc : c = fc j) (hp2 : p2 = fp d.toNatClampNeg) (hd : d = fd j) : s = mesD fk fc fd fp j := (hs.trans (Int32.add_comm _ _)).trans (mesD_2 h hv hp hc hp2 hd)
theorem mes_lp {fk fn fc fd fe fm fp : Nat → Int32} {x i' v m p : Int32} (ok : okN fk fc fd 24) (h0 : 0 ≤ x.toInt ∧ x.toInt < 24) (hi : i'.toInt = x.toInt + 1) (a : ∀ j : Nat, (j : Int) < x.toInt → mesP fk fn fc fd fe fm fp j) (hv : v.toInt = mesE fk fn fc fd fe x.toNatClampNeg) (hm : m = mesM fk fc fd fm x.toNatClampNeg) (hp : p = mesD fk fc fd fp x.toNatClampNeg) : ∀ j : Nat, (j : Int) < i'.toInt → mesP fk fn fc fd (upd fe x.toNatClampNeg v) (upd fm x.toNatClampNeg m) (upd fp x.toNatClampNeg p) j := by
  have t := tn h0.1
  intro j hj
  exact mes_step (fun j hj => ok j (by omega)) (fun j hj => a j (by omega)) hv hm hp j (by omega)
/-- what clauseOf answers where names stand for all kinds -/
theorem clOf_rel {n m x w r r' : Int32} {f1 f2 f3 f4 f5 f6 f7 g1 g2 g3 g4 g5 g6 g7 : Nat → Int32} (R : rlC n f1 f2 f3 f4 (rfA m g1 g2 g3 g4)) (hm : 0 ≤ m.toInt ∧ m.toInt ≤ 24) (ok : okN g1 g3 g4 24) (a : ∀ j : Nat, (j : Int) < n.toInt → mesP f1 f2 f3 f4 f5 f6 f7 j) (b : ∀ j : Nat, (j : Int) < m.toInt → mesP g1 g2 g3 g4 g5 g6 g7 j) (c : clOf n x w r f1 f2 f3 f4 f5 f6 f7) (d : clOf m x w r' g1 g2 (fun j => if 1 ≤ (nmT (g1 j).toNatClampNeg).toInt then g3 j else -1) (fun j => if (nmT (g1 j).toNatClampNeg).toInt = 2 then g4 j else -1) g5 g6 g7) : r = r' := by
  have e := rlC_size R hm.1
  subst e
  have t := tn hm.1
  have h := mes_uniq (fk := g1) (gk := f1) (fn := g2) (gn := f2) (fc := g3) (gc := f3) (fd := g4) (gd := f4) (fe := g5) (ge := f5) (fm := g6) (gm := f6) (fp := g7) (gp := f7) (n := n.toNatClampNeg) (fun j hj => ok j (by omega)) (fun j hj => by
    obtain ⟨h1, h2, h3, h4⟩ := R.2 j hj
    have h1 : f1 j = g1 j := h1
    have h2 : f2 j = g2 j := h2
    have h3 : f3 j = (if 1 ≤ (nmT (g1 j).toNatClampNeg).toInt then g3 j else -1) := h3
    have h4 : f4 j = (if (nmT (g1 j).toNatClampNeg).toInt = 2 then g4 j else -1) := h4
    exact ⟨h1.symm, h2.symm, fun q => by rw [h3, if_pos q], fun q => by rw [h4, if_pos q]⟩) (fun j hj => b j (by omega)) (fun j hj => a j (by omega)) n.toNatClampNeg
  refine Int32.toInt_inj.1 ?_
  by_cases hx : 0 ≤ x.toInt ∧ x.toInt < n.toInt
  · have t2 := tn hx.1
    obtain ⟨e5, e6, e7⟩ := h x.toNatClampNeg (by omega) (by omega)
    obtain ⟨h1, h2, h3, h4⟩ := R.2 x.toNatClampNeg (by show x.toNatClampNeg < n.toNatClampNeg; omega)
    have h1 : f1 x.toNatClampNeg = g1 x.toNatClampNeg := h1
    have h2 : f2 x.toNatClampNeg = g2 x.toNatClampNeg := h2
    have h3 : f3 x.toNatClampNeg = (if 1 ≤ (nmT (g1 x.toNatClampNeg).toNatClampNeg).toInt then g3 x.toNatClampNeg else -1) := h3
    have h4 : f4 x.toNatClampNeg = (if (nmT (g1 x.toNatClampNeg).toNatClampNeg).toInt = 2 then g4 x.toNatClampNeg else -1) := h4
    have c := c.resolve_left (fun q => q.1 hx)
    have d := d.resolve_left (fun q => q.1 hx)
    obtain ⟨-, c⟩ := c
    obtain ⟨-, d⟩ := d
    rw [h1, h2, h3, h4, ← e5, ← e6, ← e7] at c
    rcases c with ⟨c1, c2⟩ | ⟨c1, c2⟩ | ⟨c1, c2⟩ | ⟨c1, c2⟩ | ⟨c1, c2⟩ | ⟨c1, c2⟩ | ⟨c1, c2⟩ | ⟨c1, c2⟩ <;> rcases d with ⟨d1, d2⟩ | ⟨d1, d2⟩ | ⟨d1, d2⟩ | ⟨d1, d2⟩ | ⟨d1, d2⟩ | ⟨d1, d2⟩ | ⟨d1, d2⟩ | ⟨d1, d2⟩ <;> first | (exfalso; omega) | (rw [c2, d2]) | omega
  · have c := c.resolve_right (fun q => hx q.1)
    have d := d.resolve_right (fun q => hx q.1)
    omega
def clOR (m x w r : Int32) (g1 g2 g3 g4 : Nat → Int32) : Prop := (¬ (0 ≤ x.toInt ∧ x.toInt < m.toInt) ∧ r.toInt = -2) ∨ ∃ g5 g6 g7 : Nat → Int32, (∀ j : Nat, (j : Int) < m.toInt → mesP g1 g2 g3 g4 g5 g6 g7 j) ∧ clOf m x w r g1 g2 (fun j => if 1 ≤ (nmT (g1 j).toNatClampNeg).toInt then g3 j else -1) (fun j => if (nmT (g1 j).toNatClampNeg).toInt = 2 then g4 j else -1) g5 g6 g7
theorem clOR_rel {n m x w r r' : Int32} {f1 f2 f3 f4 f5 f6 f7 g1 g2 g3 g4 : Nat → Int32} (R : rlC n f1 f2 f3 f4 (rfA m g1 g2 g3 g4)) (hm : 0 ≤ m.toInt ∧ m.toInt ≤ 24) (ok : okN g1 g3 g4 24) (a : ∀ j : Nat, (j : Int) < n.toInt → mesP f1 f2 f3 f4 f5 f6 f7 j) (c : clOf n x w r f1 f2 f3 f4 f5 f6 f7) (d : clOR m x w r' g1 g2 g3 g4) : r = r' := by
  rcases d with ⟨d1, d2⟩ | ⟨g5, g6, g7, b, d⟩
  · have e := rlC_size R hm.1
    subst e
    have c := c.resolve_right (fun q => d1 q.1)
    exact Int32.toInt_inj.1 (by omega)
  · exact clOf_rel R hm ok a b c d
theorem okE_step {fk fc fe : Nat → Int32} {x i' v : Int32} {n : Int} (h : okE fk fc fe x.toInt) (hx : 0 ≤ x.toInt ∧ x.toInt < 24) (e : i'.toInt = x.toInt + 1) (h6 : v.toInt ≤ 6) (hc : (fk x.toNatClampNeg).toInt = 10 ∨ (fk x.toNatClampNeg).toInt = 11 → (0 ≤ (fc x.toNatClampNeg).toInt ∧ (fc x.toNatClampNeg).toInt < x.toInt) ∧ v.toInt = (fe (fc x.toNatClampNeg).toNatClampNeg).toInt) (hr : ∀ j : Nat, j < 24 → (fk j).toInt = 10 ∨ (fk j).toInt = 11 → 0 ≤ (fc j).toInt ∧ (fc j).toInt < j) : okE fk fc (upd fe x.toNatClampNeg v) i'.toInt := by
  intro j hj
  have hxx := in24 hx
  by_cases ej : j = x.toNatClampNeg
  · subst ej
    refine ⟨by simp only [upd, if_pos]; exact h6, fun hk => ?_⟩
    have h9 := hc hk
    have h8 := tn h9.1.1
    have h7 : ¬ (fc x.toNatClampNeg).toNatClampNeg = x.toNatClampNeg := by omega
    simp only [upd, if_pos, if_neg h7]
    exact h9.2
  · have h9 := h j (by omega)
    refine ⟨by simp only [upd, if_neg ej]; exact h9.1, fun hk => ?_⟩
    have h8 := hr j (by omega) hk
    have h6' := tn h8.1
    have h7 : ¬ (fc j).toNatClampNeg = x.toNatClampNeg := by omega
    simp only [upd, if_neg ej, if_neg h7]
    exact h9.2 hk
theorem upd_upd {f : Nat → Int32} {k : Nat} {v z : Int32} : upd (upd f k v) k z = upd f k z := by
  funext j
  simp only [upd]
  by_cases h : j = k
  · simp only [if_pos h]
  · simp only [if_neg h]
theorem okR.late {fk fc fd : Nat → Int32} (h : okR fk fc fd) : ∀ j : Nat, j < 24 → (fk j).toInt = 10 ∨ (fk j).toInt = 11 → 0 ≤ (fc j).toInt ∧ (fc j).toInt < j := by
  intro j hj hk
  refine (h j hj).2.1 ?_
  rcases hk with hk | hk
  · have e : fk j = 10 := by rw [fa_eq, hk]; decide
    rw [e]; decide
  · have e : fk j = 11 := by rw [fa_eq, hk]; decide
    rw [e]; decide
theorem nm_late {z : Int32} (h : z.toInt = 10 ∨ z.toInt = 11) : (nmT (z.toNatClampNeg)).toInt = 1 := by
  rcases h with h | h
  · have e : z = 10 := by rw [fa_eq, h]; decide
    rw [e]; decide
  · have e : z = 11 := by rw [fa_eq, h]; decide
    rw [e]; decide
theorem dX13_laysParts_0 : decode cX13_laysParts 0 = .ok (.iconst 0, 1) := by decide +kernel
theorem dX13_laysParts_1 : decode cX13_laysParts 1 = .ok (.istore_n 1, 1) := by decide +kernel
theorem dX13_laysParts_10 : decode cX13_laysParts 10 = .ok (.aload_n 0, 1) := by decide +kernel
theorem dX13_laysParts_100 : decode cX13_laysParts 100 = .ok (.iload_n 1, 1) := by decide +kernel
theorem dX13_laysParts_101 : decode cX13_laysParts 101 = .ok (.iaload, 1) := by decide +kernel
theorem dX13_laysParts_102 : decode cX13_laysParts 102 = .ok (.aload_n 0, 1) := by decide +kernel
theorem dX13_laysParts_103 : decode cX13_laysParts 103 = .ok (.getfield 47, 3) := by decide +kernel
theorem dX13_laysParts_106 : decode cX13_laysParts 106 = .ok (.iload_n 1, 1) := by decide +kernel
theorem dX13_laysParts_107 : decode cX13_laysParts 107 = .ok (.iaload, 1) := by decide +kernel
theorem dX13_laysParts_108 : decode cX13_laysParts 108 = .ok (.invokestatic 230, 3) := by decide +kernel
theorem dX13_laysParts_11 : decode cX13_laysParts 11 = .ok (.getfield 28, 3) := by decide +kernel
theorem dX13_laysParts_111 : decode cX13_laysParts 111 = .ok (.goto 9, 3) := by decide +kernel
theorem dX13_laysParts_114 : decode cX13_laysParts 114 = .ok (.aload_n 0, 1) := by decide +kernel
theorem dX13_laysParts_115 : decode cX13_laysParts 115 = .ok (.getfield 47, 3) := by decide +kernel
theorem dX13_laysParts_118 : decode cX13_laysParts 118 = .ok (.iload_n 1, 1) := by decide +kernel
theorem dX13_laysParts_119 : decode cX13_laysParts 119 = .ok (.iaload, 1) := by decide +kernel
theorem dX13_laysParts_120 : decode cX13_laysParts 120 = .ok (.iastore, 1) := by decide +kernel
theorem dX13_laysParts_121 : decode cX13_laysParts 121 = .ok (.aload_n 0, 1) := by decide +kernel
theorem dX13_laysParts_122 : decode cX13_laysParts 122 = .ok (.getfield 50, 3) := by decide +kernel
theorem dX13_laysParts_125 : decode cX13_laysParts 125 = .ok (.iload_n 1, 1) := by decide +kernel
theorem dX13_laysParts_126 : decode cX13_laysParts 126 = .ok (.iconst 1, 1) := by decide +kernel
theorem dX13_laysParts_127 : decode cX13_laysParts 127 = .ok (.iload_n 2, 1) := by decide +kernel
theorem dX13_laysParts_128 : decode cX13_laysParts 128 = .ok (.ifCond .le 12, 3) := by decide +kernel
theorem dX13_laysParts_131 : decode cX13_laysParts 131 = .ok (.aload_n 0, 1) := by decide +kernel
theorem dX13_laysParts_132 : decode cX13_laysParts 132 = .ok (.getfield 50, 3) := by decide +kernel
theorem dX13_laysParts_135 : decode cX13_laysParts 135 = .ok (.iload_n 3, 1) := by decide +kernel
theorem dX13_laysParts_136 : decode cX13_laysParts 136 = .ok (.iaload, 1) := by decide +kernel
theorem dX13_laysParts_137 : decode cX13_laysParts 137 = .ok (.goto 4, 3) := by decide +kernel
theorem dX13_laysParts_14 : decode cX13_laysParts 14 = .ok (.iload_n 1, 1) := by decide +kernel
theorem dX13_laysParts_140 : decode cX13_laysParts 140 = .ok (.iconst 0, 1) := by decide +kernel
theorem dX13_laysParts_141 : decode cX13_laysParts 141 = .ok (.iadd, 1) := by decide +kernel
theorem dX13_laysParts_142 : decode cX13_laysParts 142 = .ok (.iload_n 2, 1) := by decide +kernel
theorem dX13_laysParts_143 : decode cX13_laysParts 143 = .ok (.iconst 1, 1) := by decide +kernel
theorem dX13_laysParts_144 : decode cX13_laysParts 144 = .ok (.if_icmp .le 13, 3) := by decide +kernel
theorem dX13_laysParts_147 : decode cX13_laysParts 147 = .ok (.aload_n 0, 1) := by decide +kernel
theorem dX13_laysParts_148 : decode cX13_laysParts 148 = .ok (.getfield 50, 3) := by decide +kernel
theorem dX13_laysParts_15 : decode cX13_laysParts 15 = .ok (.iaload, 1) := by decide +kernel
theorem dX13_laysParts_151 : decode cX13_laysParts 151 = .ok (.iload 4, 2) := by decide +kernel
theorem dX13_laysParts_153 : decode cX13_laysParts 153 = .ok (.iaload, 1) := by decide +kernel
theorem dX13_laysParts_154 : decode cX13_laysParts 154 = .ok (.goto 4, 3) := by decide +kernel
theorem dX13_laysParts_157 : decode cX13_laysParts 157 = .ok (.iconst 0, 1) := by decide +kernel
theorem dX13_laysParts_158 : decode cX13_laysParts 158 = .ok (.iadd, 1) := by decide +kernel
theorem dX13_laysParts_159 : decode cX13_laysParts 159 = .ok (.iastore, 1) := by decide +kernel
theorem dX13_laysParts_16 : decode cX13_laysParts 16 = .ok (.invokestatic 210, 3) := by decide +kernel
theorem dX13_laysParts_160 : decode cX13_laysParts 160 = .ok (.aload_n 0, 1) := by decide +kernel
theorem dX13_laysParts_161 : decode cX13_laysParts 161 = .ok (.getfield 53, 3) := by decide +kernel
theorem dX13_laysParts_164 : decode cX13_laysParts 164 = .ok (.iload_n 1, 1) := by decide +kernel
theorem dX13_laysParts_165 : decode cX13_laysParts 165 = .ok (.iconst 1, 1) := by decide +kernel
theorem dX13_laysParts_166 : decode cX13_laysParts 166 = .ok (.iload_n 2, 1) := by decide +kernel
theorem dX13_laysParts_167 : decode cX13_laysParts 167 = .ok (.ifCond .ne 7, 3) := by decide +kernel
theorem dX13_laysParts_170 : decode cX13_laysParts 170 = .ok (.iconst 0, 1) := by decide +kernel
theorem dX13_laysParts_171 : decode cX13_laysParts 171 = .ok (.goto 33, 3) := by decide +kernel
theorem dX13_laysParts_174 : decode cX13_laysParts 174 = .ok (.iload_n 2, 1) := by decide +kernel
theorem dX13_laysParts_175 : decode cX13_laysParts 175 = .ok (.iconst 1, 1) := by decide +kernel
theorem dX13_laysParts_176 : decode cX13_laysParts 176 = .ok (.if_icmp .ne 12, 3) := by decide +kernel
theorem dX13_laysParts_179 : decode cX13_laysParts 179 = .ok (.aload_n 0, 1) := by decide +kernel
theorem dX13_laysParts_180 : decode cX13_laysParts 180 = .ok (.getfield 53, 3) := by decide +kernel
theorem dX13_laysParts_183 : decode cX13_laysParts 183 = .ok (.iload_n 3, 1) := by decide +kernel
theorem dX13_laysParts_184 : decode cX13_laysParts 184 = .ok (.iaload, 1) := by decide +kernel
theorem dX13_laysParts_185 : decode cX13_laysParts 185 = .ok (.goto 19, 3) := by decide +kernel
theorem dX13_laysParts_188 : decode cX13_laysParts 188 = .ok (.aload_n 0, 1) := by decide +kernel
theorem dX13_laysParts_189 : decode cX13_laysParts 189 = .ok (.getfield 53, 3) := by decide +kernel
theorem dX13_laysParts_19 : decode cX13_laysParts 19 = .ok (.istore_n 2, 1) := by decide +kernel
theorem dX13_laysParts_192 : decode cX13_laysParts 192 = .ok (.iload_n 3, 1) := by decide +kernel
theorem dX13_laysParts_193 : decode cX13_laysParts 193 = .ok (.iaload, 1) := by decide +kernel
theorem dX13_laysParts_194 : decode cX13_laysParts 194 = .ok (.aload_n 0, 1) := by decide +kernel
theorem dX13_laysParts_195 : decode cX13_laysParts 195 = .ok (.getfield 53, 3) := by decide +kernel
theorem dX13_laysParts_198 : decode cX13_laysParts 198 = .ok (.iload 4, 2) := by decide +kernel
theorem dX13_laysParts_2 : decode cX13_laysParts 2 = .ok (.iload_n 1, 1) := by decide +kernel
theorem dX13_laysParts_20 : decode cX13_laysParts 20 = .ok (.aload_n 0, 1) := by decide +kernel
theorem dX13_laysParts_200 : decode cX13_laysParts 200 = .ok (.iaload, 1) := by decide +kernel
theorem dX13_laysParts_201 : decode cX13_laysParts 201 = .ok (.invokestatic 227, 3) := by decide +kernel
theorem dX13_laysParts_204 : decode cX13_laysParts 204 = .ok (.iadd, 1) := by decide +kernel
theorem dX13_laysParts_205 : decode cX13_laysParts 205 = .ok (.iastore, 1) := by decide +kernel
theorem dX13_laysParts_206 : decode cX13_laysParts 206 = .ok (.iinc 1 1, 3) := by decide +kernel
theorem dX13_laysParts_209 : decode cX13_laysParts 209 = .ok (.goto (-207), 3) := by decide +kernel
theorem dX13_laysParts_21 : decode cX13_laysParts 21 = .ok (.getfield 35, 3) := by decide +kernel
theorem dX13_laysParts_212 : decode cX13_laysParts 212 = .ok (.return_, 1) := by decide +kernel
theorem dX13_laysParts_24 : decode cX13_laysParts 24 = .ok (.iload_n 1, 1) := by decide +kernel
theorem dX13_laysParts_25 : decode cX13_laysParts 25 = .ok (.iaload, 1) := by decide +kernel
theorem dX13_laysParts_26 : decode cX13_laysParts 26 = .ok (.istore_n 3, 1) := by decide +kernel
theorem dX13_laysParts_27 : decode cX13_laysParts 27 = .ok (.aload_n 0, 1) := by decide +kernel
theorem dX13_laysParts_28 : decode cX13_laysParts 28 = .ok (.getfield 38, 3) := by decide +kernel
theorem dX13_laysParts_3 : decode cX13_laysParts 3 = .ok (.aload_n 0, 1) := by decide +kernel
theorem dX13_laysParts_31 : decode cX13_laysParts 31 = .ok (.iload_n 1, 1) := by decide +kernel
theorem dX13_laysParts_32 : decode cX13_laysParts 32 = .ok (.iaload, 1) := by decide +kernel
theorem dX13_laysParts_33 : decode cX13_laysParts 33 = .ok (.istore 4, 2) := by decide +kernel
theorem dX13_laysParts_35 : decode cX13_laysParts 35 = .ok (.aload_n 0, 1) := by decide +kernel
theorem dX13_laysParts_36 : decode cX13_laysParts 36 = .ok (.getfield 47, 3) := by decide +kernel
theorem dX13_laysParts_39 : decode cX13_laysParts 39 = .ok (.iload_n 1, 1) := by decide +kernel
theorem dX13_laysParts_4 : decode cX13_laysParts 4 = .ok (.getfield 205, 3) := by decide +kernel
theorem dX13_laysParts_40 : decode cX13_laysParts 40 = .ok (.iload_n 2, 1) := by decide +kernel
theorem dX13_laysParts_41 : decode cX13_laysParts 41 = .ok (.ifCond .ne 8, 3) := by decide +kernel
theorem dX13_laysParts_44 : decode cX13_laysParts 44 = .ok (.bipush 6, 2) := by decide +kernel
theorem dX13_laysParts_46 : decode cX13_laysParts 46 = .ok (.goto 33, 3) := by decide +kernel
theorem dX13_laysParts_49 : decode cX13_laysParts 49 = .ok (.iload_n 2, 1) := by decide +kernel
theorem dX13_laysParts_50 : decode cX13_laysParts 50 = .ok (.iconst 1, 1) := by decide +kernel
theorem dX13_laysParts_51 : decode cX13_laysParts 51 = .ok (.if_icmp .ne 12, 3) := by decide +kernel
theorem dX13_laysParts_54 : decode cX13_laysParts 54 = .ok (.aload_n 0, 1) := by decide +kernel
theorem dX13_laysParts_55 : decode cX13_laysParts 55 = .ok (.getfield 47, 3) := by decide +kernel
theorem dX13_laysParts_58 : decode cX13_laysParts 58 = .ok (.iload_n 3, 1) := by decide +kernel
theorem dX13_laysParts_59 : decode cX13_laysParts 59 = .ok (.iaload, 1) := by decide +kernel
theorem dX13_laysParts_60 : decode cX13_laysParts 60 = .ok (.goto 19, 3) := by decide +kernel
theorem dX13_laysParts_63 : decode cX13_laysParts 63 = .ok (.aload_n 0, 1) := by decide +kernel
theorem dX13_laysParts_64 : decode cX13_laysParts 64 = .ok (.getfield 47, 3) := by decide +kernel
theorem dX13_laysParts_67 : decode cX13_laysParts 67 = .ok (.iload_n 3, 1) := by decide +kernel
theorem dX13_laysParts_68 : decode cX13_laysParts 68 = .ok (.iaload, 1) := by decide +kernel
theorem dX13_laysParts_69 : decode cX13_laysParts 69 = .ok (.aload_n 0, 1) := by decide +kernel
theorem dX13_laysParts_7 : decode cX13_laysParts 7 = .ok (.if_icmp .ge 205, 3) := by decide +kernel
theorem dX13_laysParts_70 : decode cX13_laysParts 70 = .ok (.getfield 47, 3) := by decide +kernel
theorem dX13_laysParts_73 : decode cX13_laysParts 73 = .ok (.iload 4, 2) := by decide +kernel
theorem dX13_laysParts_75 : decode cX13_laysParts 75 = .ok (.iaload, 1) := by decide +kernel
theorem dX13_laysParts_76 : decode cX13_laysParts 76 = .ok (.invokestatic 227, 3) := by decide +kernel
theorem dX13_laysParts_79 : decode cX13_laysParts 79 = .ok (.iastore, 1) := by decide +kernel
theorem dX13_laysParts_80 : decode cX13_laysParts 80 = .ok (.aload_n 0, 1) := by decide +kernel
theorem dX13_laysParts_81 : decode cX13_laysParts 81 = .ok (.getfield 47, 3) := by decide +kernel
theorem dX13_laysParts_84 : decode cX13_laysParts 84 = .ok (.iload_n 1, 1) := by decide +kernel
theorem dX13_laysParts_85 : decode cX13_laysParts 85 = .ok (.aload_n 0, 1) := by decide +kernel
theorem dX13_laysParts_86 : decode cX13_laysParts 86 = .ok (.getfield 28, 3) := by decide +kernel
theorem dX13_laysParts_89 : decode cX13_laysParts 89 = .ok (.iload_n 1, 1) := by decide +kernel
theorem dX13_laysParts_90 : decode cX13_laysParts 90 = .ok (.iaload, 1) := by decide +kernel
theorem dX13_laysParts_91 : decode cX13_laysParts 91 = .ok (.bipush 8, 2) := by decide +kernel
theorem dX13_laysParts_93 : decode cX13_laysParts 93 = .ok (.if_icmp .ne 21, 3) := by decide +kernel
theorem dX13_laysParts_96 : decode cX13_laysParts 96 = .ok (.aload_n 0, 1) := by decide +kernel
theorem dX13_laysParts_97 : decode cX13_laysParts 97 = .ok (.getfield 32, 3) := by decide +kernel
set_option maxRecDepth 20000 in
theorem ggX13_laysParts_X13_names : GoodIn wsX13_laysParts wsX13_names := goodIn_r _ [19] rfl (by decide +kernel)
set_option maxRecDepth 20000 in
theorem gX13_laysParts_X13_names : GoodIn wsX13_laysParts (va_wsS RX13 210 yX13_names wsX13_names) := goodIn_app (goodIn_of _ (by decide +kernel)) ggX13_laysParts_X13_names
set_option maxRecDepth 20000 in
theorem in_X13_laysParts_X13 : ∀ w ∈ wsX130, w ∈ wsX13_laysParts := sub_r [20, 21, 22, 23, 24, 25, 26, 27, 28, 29, 30, 31, 32, 33, 34, 35, 36, 37, 38, 39, 40, 41, 42, 43, 44, 45, 46, 47, 48, 49, 50, 51, 52, 53, 54, 55, 56, 57, 58, 59, 60, 61, 62, 63, 64] rfl
set_option maxHeartbeats 4000000 in
set_option maxRecDepth 100000 in
theorem c_X13_laysParts (l : Launch) (D : va_G) (T : Nat → ClassId) (sz : Nat) (h0 : Nat) (q : Nat → Int32) (v : Int64) (w : Int64) (a : Nat → Nat) (f8 : Nat → Int32) (f9 : Nat → Int32) (f10 : Nat → Int32) (f11 : Nat → Int32) (f17 : Nat → Int32) (f18 : Nat → Int32) (f19 : Nat → Int32) (hm : 0 ≤ (q 7).toInt ∧ (q 7).toInt ≤ 24) (hokR : okR f8 f10 f11) : Met l yX13_laysParts wsX13_laysParts ({ frames := 1, cells := 0, slots := 0, locals := 40 }) (pW [.ref h0] D T [(h0, .inr (10, (Value.int (q 0) :: Value.int (q 1) :: Value.int (q 2) :: Value.int (q 3) :: Value.int (q 4) :: Value.int (q 5) :: Value.int (q 6) :: Value.int (q 7) :: Value.ref (a 8) :: Value.ref (a 9) :: Value.ref (a 10) :: Value.ref (a 11) :: Value.ref (a 12) :: Value.ref (a 13) :: Value.int (q 14) :: Value.long v :: Value.long w :: Value.ref (a 17) :: Value.ref (a 18) :: Value.ref (a 19) :: Value.ref (a 20) :: Value.ref (a 21) :: Value.ref (a 22) :: Value.ref (a 23) :: Value.int (q 24) :: Value.ref (a 25) :: Value.int (q 26) :: Value.ref (a 27) :: Value.int (q 28) :: Value.int (q 29) :: Value.int (q 30) :: Value.int (q 31) :: Value.int (q 32) :: Value.int (q 33) :: Value.ref (a 34) :: Value.ref (a 35) :: Value.ref (a 36) :: Value.ref (a 37) :: Value.ref (a 38) :: Value.ref (a 39) :: Value.ref (a 40) :: Value.int (q 41) :: Value.ref (a 42) :: Value.int (q 43) :: Value.int (q 44) :: []))), ((a 8), .inl (T 0, 24, .inl f8)), ((a 9), .inl (T 0, 24, .inl f9)), ((a 10), .inl (T 0, 24, .inl f10)), ((a 11), .inl (T 0, 24, .inl f11)), ((a 17), .inl (T 0, 24, .inl f17)), ((a 18), .inl (T 0, 24, .inl f18)), ((a 19), .inl (T 0, 24, .inl f19))] sz) (va_Qv (fun (u : (Nat → Int32) × (Nat → Int32) × (Nat → Int32)) => (okE f8 f10 u.1 (q 7).toInt) ∧ (∀ j : Nat, (j : Int) < (q 7).toInt → mesP f8 f9 f10 f11 u.1 u.2.1 u.2.2 j)) (bW D (va_A [(h0, .inr (10, (Value.int (q 0) :: Value.int (q 1) :: Value.int (q 2) :: Value.int (q 3) :: Value.int (q 4) :: Value.int (q 5) :: Value.int (q 6) :: Value.int (q 7) :: Value.ref (a 8) :: Value.ref (a 9) :: Value.ref (a 10) :: Value.ref (a 11) :: Value.ref (a 12) :: Value.ref (a 13) :: Value.int (q 14) :: Value.long v :: Value.long w :: Value.ref (a 17) :: Value.ref (a 18) :: Value.ref (a 19) :: Value.ref (a 20) :: Value.ref (a 21) :: Value.ref (a 22) :: Value.ref (a 23) :: Value.int (q 24) :: Value.ref (a 25) :: Value.int (q 26) :: Value.ref (a 27) :: Value.int (q 28) :: Value.int (q 29) :: Value.int (q 30) :: Value.int (q 31) :: Value.int (q 32) :: Value.int (q 33) :: Value.ref (a 34) :: Value.ref (a 35) :: Value.ref (a 36) :: Value.ref (a 37) :: Value.ref (a 38) :: Value.ref (a 39) :: Value.ref (a 40) :: Value.int (q 41) :: Value.ref (a 42) :: Value.int (q 43) :: Value.int (q 44) :: []))), ((a 8), .inl (T 0, 24, .inl f8)), ((a 9), .inl (T 0, 24, .inl f9)), ((a 10), .inl (T 0, 24, .inl f10)), ((a 11), .inl (T 0, 24, .inl f11)), ((a 17), .inl (T 0, 24, .inl f17)), ((a 18), .inl (T 0, 24, .inl f18)), ((a 19), .inl (T 0, 24, .inl f19))] sz) (fun (u : (Nat → Int32) × (Nat → Int32) × (Nat → Int32)) => [(h0, .inr (10, (Value.int (q 0) :: Value.int (q 1) :: Value.int (q 2) :: Value.int (q 3) :: Value.int (q 4) :: Value.int (q 5) :: Value.int (q 6) :: Value.int (q 7) :: Value.ref (a 8) :: Value.ref (a 9) :: Value.ref (a 10) :: Value.ref (a 11) :: Value.ref (a 12) :: Value.ref (a 13) :: Value.int (q 14) :: Value.long v :: Value.long w :: Value.ref (a 17) :: Value.ref (a 18) :: Value.ref (a 19) :: Value.ref (a 20) :: Value.ref (a 21) :: Value.ref (a 22) :: Value.ref (a 23) :: Value.int (q 24) :: Value.ref (a 25) :: Value.int (q 26) :: Value.ref (a 27) :: Value.int (q 28) :: Value.int (q 29) :: Value.int (q 30) :: Value.int (q 31) :: Value.int (q 32) :: Value.int (q 33) :: Value.ref (a 34) :: Value.ref (a 35) :: Value.ref (a 36) :: Value.ref (a 37) :: Value.ref (a 38) :: Value.ref (a 39) :: Value.ref (a 40) :: Value.int (q 41) :: Value.ref (a 42) :: Value.int (q 43) :: Value.int (q 44) :: []))), ((a 8), .inl (T 0, 24, .inl f8)), ((a 9), .inl (T 0, 24, .inl f9)), ((a 10), .inl (T 0, 24, .inl f10)), ((a 11), .inl (T 0, 24, .inl f11)), ((a 17), .inl (T 0, 24, .inl u.1)), ((a 18), .inl (T 0, 24, .inl u.2.1)), ((a 19), .inl (T 0, 24, .inl u.2.2))])) (va_A [(h0, .inr (10, (Value.int (q 0) :: Value.int (q 1) :: Value.int (q 2) :: Value.int (q 3) :: Value.int (q 4) :: Value.int (q 5) :: Value.int (q 6) :: Value.int (q 7) :: Value.ref (a 8) :: Value.ref (a 9) :: Value.ref (a 10) :: Value.ref (a 11) :: Value.ref (a 12) :: Value.ref (a 13) :: Value.int (q 14) :: Value.long v :: Value.long w :: Value.ref (a 17) :: Value.ref (a 18) :: Value.ref (a 19) :: Value.ref (a 20) :: Value.ref (a 21) :: Value.ref (a 22) :: Value.ref (a 23) :: Value.int (q 24) :: Value.ref (a 25) :: Value.int (q 26) :: Value.ref (a 27) :: Value.int (q 28) :: Value.int (q 29) :: Value.int (q 30) :: Value.int (q 31) :: Value.int (q 32) :: Value.int (q 33) :: Value.ref (a 34) :: Value.ref (a 35) :: Value.ref (a 36) :: Value.ref (a 37) :: Value.ref (a 38) :: Value.ref (a 39) :: Value.ref (a 40) :: Value.int (q 41) :: Value.ref (a 42) :: Value.int (q 43) :: Value.int (q 44) :: []))), ((a 8), .inl (T 0, 24, .inl f8)), ((a 9), .inl (T 0, 24, .inl f9)), ((a 10), .inl (T 0, 24, .inl f10)), ((a 11), .inl (T 0, 24, .inl f11)), ((a 17), .inl (T 0, 24, .inl f17)), ((a 18), .inl (T 0, 24, .inl f18)), ((a 19), .inl (T 0, 24, .inl f19))] sz)) 0 0 (va_A [(h0, .inr (10, (Value.int (q 0) :: Value.int (q 1) :: Value.int (q 2) :: Value.int (q 3) :: Value.int (q 4) :: Value.int (q 5) :: Value.int (q 6) :: Value.int (q 7) :: Value.ref (a 8) :: Value.ref (a 9) :: Value.ref (a 10) :: Value.ref (a 11) :: Value.ref (a 12) :: Value.ref (a 13) :: Value.int (q 14) :: Value.long v :: Value.long w :: Value.ref (a 17) :: Value.ref (a 18) :: Value.ref (a 19) :: Value.ref (a 20) :: Value.ref (a 21) :: Value.ref (a 22) :: Value.ref (a 23) :: Value.int (q 24) :: Value.ref (a 25) :: Value.int (q 26) :: Value.ref (a 27) :: Value.int (q 28) :: Value.int (q 29) :: Value.int (q 30) :: Value.int (q 31) :: Value.int (q 32) :: Value.int (q 33) :: Value.ref (a 34) :: Value.ref (a 35) :: Value.ref (a 36) :: Value.ref (a 37) :: Value.ref (a 38) :: Value.ref (a 39) :: Value.ref (a 40) :: Value.int (q 41) :: Value.ref (a 42) :: Value.int (q 43) :: Value.int (q 44) :: []))), ((a 8), .inl (T 0, 24, .inl f8)), ((a 9), .inl (T 0, 24, .inl f9)), ((a 10), .inl (T 0, 24, .inl f10)), ((a 11), .inl (T 0, 24, .inl f11)), ((a 17), .inl (T 0, 24, .inl f17)), ((a 18), .inl (T 0, 24, .inl f18)), ((a 19), .inl (T 0, 24, .inl f19))] sz) := by
  refine Met.ofW (cc := cX13_laysParts) (maxL := 5) (ret := none) (by decide +kernel) rfl ?_
  intro p e s m args below meth c s₁ B hml hv
  obtain ⟨rfl, hsz, hP, hE, hD0⟩ := hv
  have hx := B.exec
  have hb := B.bytes
  have hr := B.returns
  have hts := atoms_spec (ws := wsX13_laysParts) B.pre
  have hown : s.vm.findClass RX13 = some m.cls := findClass_of_methodNamed B.named
  have hlocks := B.notSynchronized
  subst hsz
  have hD := hD0.self (sz := s.heap.size)
  generalize hAe : va_A [(h0, .inr (10, (Value.int (q 0) :: Value.int (q 1) :: Value.int (q 2) :: Value.int (q 3) :: Value.int (q 4) :: Value.int (q 5) :: Value.int (q 6) :: Value.int (q 7) :: Value.ref (a 8) :: Value.ref (a 9) :: Value.ref (a 10) :: Value.ref (a 11) :: Value.ref (a 12) :: Value.ref (a 13) :: Value.int (q 14) :: Value.long v :: Value.long w :: Value.ref (a 17) :: Value.ref (a 18) :: Value.ref (a 19) :: Value.ref (a 20) :: Value.ref (a 21) :: Value.ref (a 22) :: Value.ref (a 23) :: Value.int (q 24) :: Value.ref (a 25) :: Value.int (q 26) :: Value.ref (a 27) :: Value.int (q 28) :: Value.int (q 29) :: Value.int (q 30) :: Value.int (q 31) :: Value.int (q 32) :: Value.int (q 33) :: Value.ref (a 34) :: Value.ref (a 35) :: Value.ref (a 36) :: Value.ref (a 37) :: Value.ref (a 38) :: Value.ref (a 39) :: Value.ref (a 40) :: Value.int (q 41) :: Value.ref (a 42) :: Value.int (q 43) :: Value.int (q 44) :: []))), ((a 8), .inl (T 0, 24, .inl f8)), ((a 9), .inl (T 0, 24, .inl f9)), ((a 10), .inl (T 0, 24, .inl f10)), ((a 11), .inl (T 0, 24, .inl f11)), ((a 17), .inl (T 0, 24, .inl f17)), ((a 18), .inl (T 0, 24, .inl f18)), ((a 19), .inl (T 0, 24, .inl f19))] s.heap.size = A at hD ⊢
  have hA : ∀ q : Nat, s.heap.size ≤ q → A q := fun q h => by rw [← hAe]; exact Or.inr h
  have hS : va_S A s.heap s.heap [] := va_S.rf
  have hP : va_P D vwCl [(h0, .inr (10, (Value.int (q 0) :: Value.int (q 1) :: Value.int (q 2) :: Value.int (q 3) :: Value.int (q 4) :: Value.int (q 5) :: Value.int (q 6) :: Value.int (q 7) :: Value.ref (a 8) :: Value.ref (a 9) :: Value.ref (a 10) :: Value.ref (a 11) :: Value.ref (a 12) :: Value.ref (a 13) :: Value.int (q 14) :: Value.long v :: Value.long w :: Value.ref (a 17) :: Value.ref (a 18) :: Value.ref (a 19) :: Value.ref (a 20) :: Value.ref (a 21) :: Value.ref (a 22) :: Value.ref (a 23) :: Value.int (q 24) :: Value.ref (a 25) :: Value.int (q 26) :: Value.ref (a 27) :: Value.int (q 28) :: Value.int (q 29) :: Value.int (q 30) :: Value.int (q 31) :: Value.int (q 32) :: Value.int (q 33) :: Value.ref (a 34) :: Value.ref (a 35) :: Value.ref (a 36) :: Value.ref (a 37) :: Value.ref (a 38) :: Value.ref (a 39) :: Value.ref (a 40) :: Value.int (q 41) :: Value.ref (a 42) :: Value.int (q 43) :: Value.int (q 44) :: []))), ((a 8), .inl (T 0, 24, .inl f8)), ((a 9), .inl (T 0, 24, .inl f9)), ((a 10), .inl (T 0, 24, .inl f10)), ((a 11), .inl (T 0, 24, .inl f11)), ((a 17), .inl (T 0, 24, .inl f17)), ((a 18), .inl (T 0, 24, .inl f18)), ((a 19), .inl (T 0, 24, .inl f19))] s.heap := hP
  have hl := lv_entry ([.ref h0]) (n := 5) (Nat.le_of_ble_eq_true rfl)
  rw [lg_entry_eq]
  generalize (lg_sl ([.ref h0]) ++ List.replicate (5 - (lg_sl ([.ref h0])).length) Slot.unset).toArray = ls at hl ⊢
  have hl : lv_has ls 5 [(0, .ref h0)] := hl
  clear hD0
  refine lv_iconst (v := 0) hx hb dX13_laysParts_0 (by decide +kernel) ?_
  refine lv_istore_n (lv' := [(1, .int 0), (0, .ref h0)]) hx hb dX13_laysParts_1 rfl hl (by decide +kernel) rfl (fun ls hl => ?_)
  refine loopW (σ := (Int32) × (Nat → Int32) × (Nat → Int32) × (Nat → Int32)) (fun x9 ls H locs => lv_has ls 5 [(1, .int x9.1), (0, .ref h0)] ∧ va_P D vwCl [(h0, .inr (10, (Value.int (q 0) :: Value.int (q 1) :: Value.int (q 2) :: Value.int (q 3) :: Value.int (q 4) :: Value.int (q 5) :: Value.int (q 6) :: Value.int (q 7) :: Value.ref (a 8) :: Value.ref (a 9) :: Value.ref (a 10) :: Value.ref (a 11) :: Value.ref (a 12) :: Value.ref (a 13) :: Value.int (q 14) :: Value.long v :: Value.long w :: Value.ref (a 17) :: Value.ref (a 18) :: Value.ref (a 19) :: Value.ref (a 20) :: Value.ref (a 21) :: Value.ref (a 22) :: Value.ref (a 23) :: Value.int (q 24) :: Value.ref (a 25) :: Value.int (q 26) :: Value.ref (a 27) :: Value.int (q 28) :: Value.int (q 29) :: Value.int (q 30) :: Value.int (q 31) :: Value.int (q 32) :: Value.int (q 33) :: Value.ref (a 34) :: Value.ref (a 35) :: Value.ref (a 36) :: Value.ref (a 37) :: Value.ref (a 38) :: Value.ref (a 39) :: Value.ref (a 40) :: Value.int (q 41) :: Value.ref (a 42) :: Value.int (q 43) :: Value.int (q 44) :: []))), ((a 8), .inl (T 0, 24, .inl f8)), ((a 9), .inl (T 0, 24, .inl f9)), ((a 10), .inl (T 0, 24, .inl f10)), ((a 11), .inl (T 0, 24, .inl f11)), ((a 17), .inl (T 0, 24, .inl x9.2.1)), ((a 18), .inl (T 0, 24, .inl x9.2.2.1)), ((a 19), .inl (T 0, 24, .inl x9.2.2.2))] H ∧ va_D A [(h0, .inr (10, (Value.int (q 0) :: Value.int (q 1) :: Value.int (q 2) :: Value.int (q 3) :: Value.int (q 4) :: Value.int (q 5) :: Value.int (q 6) :: Value.int (q 7) :: Value.ref (a 8) :: Value.ref (a 9) :: Value.ref (a 10) :: Value.ref (a 11) :: Value.ref (a 12) :: Value.ref (a 13) :: Value.int (q 14) :: Value.long v :: Value.long w :: Value.ref (a 17) :: Value.ref (a 18) :: Value.ref (a 19) :: Value.ref (a 20) :: Value.ref (a 21) :: Value.ref (a 22) :: Value.ref (a 23) :: Value.int (q 24) :: Value.ref (a 25) :: Value.int (q 26) :: Value.ref (a 27) :: Value.int (q 28) :: Value.int (q 29) :: Value.int (q 30) :: Value.int (q 31) :: Value.int (q 32) :: Value.int (q 33) :: Value.ref (a 34) :: Value.ref (a 35) :: Value.ref (a 36) :: Value.ref (a 37) :: Value.ref (a 38) :: Value.ref (a 39) :: Value.ref (a 40) :: Value.int (q 41) :: Value.ref (a 42) :: Value.int (q 43) :: Value.int (q 44) :: []))), ((a 8), .inl (T 0, 24, .inl f8)), ((a 9), .inl (T 0, 24, .inl f9)), ((a 10), .inl (T 0, 24, .inl f10)), ((a 11), .inl (T 0, 24, .inl f11)), ((a 17), .inl (T 0, 24, .inl x9.2.1)), ((a 18), .inl (T 0, 24, .inl x9.2.2.1)), ((a 19), .inl (T 0, 24, .inl x9.2.2.2))] ∧ va_S A s.heap H locs ∧ ((0 ≤ x9.1.toInt ∧ x9.1.toInt ≤ 24) ∧ okE f8 f10 x9.2.1 x9.1.toInt ∧ ∀ j : Nat, (j : Int) < x9.1.toInt → mesP f8 f9 f10 f11 x9.2.1 x9.2.2.1 x9.2.2.2 j)) (fun x9 => (24 - x9.1.toInt).toNat) (fun x9 ls H locs hI ih => ?_) (0, f17, f18, f19) ls ⟨lv_sub hl [0, 1] rfl, hP.sub [0, 1, 2, 3, 4, 5, 6, 7] rfl, hD.sub [0, 1, 2, 3, 4, 5, 6, 7] (by decide +kernel) rfl, hS, ⟨(by (try dsimp only); decide), (fun j hj => absurd hj (by (try dsimp only); rw [ti_0]; omega)), (fun j hj => absurd hj (by (try dsimp only); rw [ti_0]; omega))⟩⟩
  obtain ⟨xx, e9, p9, d9⟩ := x9
  obtain ⟨hl, hP, hD, hS, hinv⟩ := hI
  have hl : lv_has ls 5 [(1, .int xx), (0, .ref h0)] := hl
  have hP : va_P D vwCl [(h0, .inr (10, (Value.int (q 0) :: Value.int (q 1) :: Value.int (q 2) :: Value.int (q 3) :: Value.int (q 4) :: Value.int (q 5) :: Value.int (q 6) :: Value.int (q 7) :: Value.ref (a 8) :: Value.ref (a 9) :: Value.ref (a 10) :: Value.ref (a 11) :: Value.ref (a 12) :: Value.ref (a 13) :: Value.int (q 14) :: Value.long v :: Value.long w :: Value.ref (a 17) :: Value.ref (a 18) :: Value.ref (a 19) :: Value.ref (a 20) :: Value.ref (a 21) :: Value.ref (a 22) :: Value.ref (a 23) :: Value.int (q 24) :: Value.ref (a 25) :: Value.int (q 26) :: Value.ref (a 27) :: Value.int (q 28) :: Value.int (q 29) :: Value.int (q 30) :: Value.int (q 31) :: Value.int (q 32) :: Value.int (q 33) :: Value.ref (a 34) :: Value.ref (a 35) :: Value.ref (a 36) :: Value.ref (a 37) :: Value.ref (a 38) :: Value.ref (a 39) :: Value.ref (a 40) :: Value.int (q 41) :: Value.ref (a 42) :: Value.int (q 43) :: Value.int (q 44) :: []))), ((a 8), .inl (T 0, 24, .inl f8)), ((a 9), .inl (T 0, 24, .inl f9)), ((a 10), .inl (T 0, 24, .inl f10)), ((a 11), .inl (T 0, 24, .inl f11)), ((a 17), .inl (T 0, 24, .inl e9)), ((a 18), .inl (T 0, 24, .inl p9)), ((a 19), .inl (T 0, 24, .inl d9))] H := hP
  have hD : va_D A [(h0, .inr (10, (Value.int (q 0) :: Value.int (q 1) :: Value.int (q 2) :: Value.int (q 3) :: Value.int (q 4) :: Value.int (q 5) :: Value.int (q 6) :: Value.int (q 7) :: Value.ref (a 8) :: Value.ref (a 9) :: Value.ref (a 10) :: Value.ref (a 11) :: Value.ref (a 12) :: Value.ref (a 13) :: Value.int (q 14) :: Value.long v :: Value.long w :: Value.ref (a 17) :: Value.ref (a 18) :: Value.ref (a 19) :: Value.ref (a 20) :: Value.ref (a 21) :: Value.ref (a 22) :: Value.ref (a 23) :: Value.int (q 24) :: Value.ref (a 25) :: Value.int (q 26) :: Value.ref (a 27) :: Value.int (q 28) :: Value.int (q 29) :: Value.int (q 30) :: Value.int (q 31) :: Value.int (q 32) :: Value.int (q 33) :: Value.ref (a 34) :: Value.ref (a 35) :: Value.ref (a 36) :: Value.ref (a 37) :: Value.ref (a 38) :: Value.ref (a 39) :: Value.ref (a 40) :: Value.int (q 41) :: Value.ref (a 42) :: Value.int (q 43) :: Value.int (q 44) :: []))), ((a 8), .inl (T 0, 24, .inl f8)), ((a 9), .inl (T 0, 24, .inl f9)), ((a 10), .inl (T 0, 24, .inl f10)), ((a 11), .inl (T 0, 24, .inl f11)), ((a 17), .inl (T 0, 24, .inl e9)), ((a 18), .inl (T 0, 24, .inl p9)), ((a 19), .inl (T 0, 24, .inl d9))] := hD
  have hinv : (0 ≤ xx.toInt ∧ xx.toInt ≤ 24) ∧ okE f8 f10 e9 xx.toInt ∧ ∀ j : Nat, (j : Int) < xx.toInt → mesP f8 f9 f10 f11 e9 p9 d9 j := hinv
  obtain ⟨hxx, hEE, hME⟩ := hinv
  refine lv_iload_n hx hb dX13_laysParts_2 rfl (lv_at hl 0 rfl) ?_
  refine lv_aload_n hx hb dX13_laysParts_3 rfl (lv_at hl 1 rfl) ?_
  refine va_get (D := D) (ci := 10) (v := .int (q 7)) (C := RX13) (T := TX13) (N := 45) hx hb hts in_X13_laysParts_X13 hown hE.1 hP 0 rfl rfl 7 (by decide +kernel) (hts (.fieldLink RX13 205 "ClauseBookModel" "many" "I") (List.mem_of_getElem? (i := 1) rfl)) (fun _ h9 => h9) rfl dX13_laysParts_4 ?_
  refine lv_icmp_ge (tgt := 212) hx hb dX13_laysParts_7 (by decide +kernel) (fun c_1 => ?_) (fun c_1 => ?_)
  · rw [fa_le] at c_1
    exact W.vret hx hb hr (fun t ht hW => ⟨⟨(e9, p9, d9), rfl, ⟨(show okE f8 f10 e9 (q 7).toInt from (fun j hj => hEE j (by omega))), (show ∀ j : Nat, (j : Int) < (q 7).toInt → mesP f8 f9 f10 f11 e9 p9 d9 j from (fun j hj => hME j (by omega)))⟩, by rw [ht]; exact hP.sub [0, 1, 2, 3, 4, 5, 6, 7] rfl, hD.sub [0, 1, 2, 3, 4, 5, 6, 7] (by decide +kernel) rfl⟩, hS.F ht⟩) hS.2.2 dX13_laysParts_212
  · rw [fa_le] at c_1
    refine lv_aload_n hx hb dX13_laysParts_10 rfl (lv_at hl 1 rfl) ?_
    refine va_get (D := D) (ci := 10) (v := .ref (a 8)) (C := RX13) (T := TX13) (N := 45) hx hb hts in_X13_laysParts_X13 hown hE.1 hP 0 rfl rfl 8 (by decide +kernel) (hts (.fieldLink RX13 28 "ClauseBookModel" "kind" "[I") (List.mem_of_getElem? (i := 2) rfl)) (fun _ h9 => h9) rfl dX13_laysParts_11 ?_
    refine lv_iload_n hx hb dX13_laysParts_14 rfl (lv_at hl 0 rfl) ?_
    refine va_iald hx hb hE.1 hP 1 0 rfl rfl (by rw [vp_in_iff]; first | omega | (subst_vars; omega)) dX13_laysParts_15 ?_
    refine lv_topi (fun z_2 ez_2 => ?_)
    have hkz_2 : 0 ≤ z_2.toInt ∧ z_2.toInt ≤ 12 := by rw [ez_2]; exact (hokR _ (in24 (x := xx) (by omega)).1).1
    have hcz_2 : 1 ≤ (nmT (z_2.toNatClampNeg)).toInt → 0 ≤ (f10 (xx.toNatClampNeg)).toInt ∧ (f10 (xx.toNatClampNeg)).toInt < xx.toInt := by
      rw [ez_2]
      intro h1
      have h := (hokR _ (in24 (x := xx) (by omega)).1).2.1 h1
      have h2 := (in24 (x := xx) (by omega)).2
      omega
    have hdz_2 : (nmT (z_2.toNatClampNeg)).toInt = 2 → 0 ≤ (f11 (xx.toNatClampNeg)).toInt ∧ (f11 (xx.toNatClampNeg)).toInt < xx.toInt := by
      rw [ez_2]
      intro h1
      have h := (hokR _ (in24 (x := xx) (by omega)).1).2.2 h1
      have h2 := (in24 (x := xx) (by omega)).2
      omega
    have hlz_2 := nm_late (z := z_2)
    have htz_2 : z_2.toInt = (f8 (xx.toNatClampNeg)).toInt := by rw [ez_2]
    refine vp_callSi (W.runS (As := [.int z_2]) (rest := []) ⟨hx, hb, hml, hown, hts⟩ (c_X13_names l D T z_2 (by omega)) (va_cwS 1 hts gX13_laysParts_X13_names rfl rfl rfl hs_X13_names ⟨Nat.le_of_ble_eq_true rfl, Nat.le_of_ble_eq_true rfl⟩) (pR_S hP hE [] rfl) rfl rfl hl.1 rfl (lv_room (Nat.le_of_ble_eq_true rfl)) dX13_laysParts_16 ⟨Nat.le_of_ble_eq_true rfl, Nat.le_of_ble_eq_true rfl⟩) (fun r_3 hr_3 => ?_)
    rcases in3 (x := r_3) (by omega) with rfl | rfl | rfl
    · have h9t := ti_0
      refine lv_istore_n (lv' := [(2, .int 0), (1, .int xx), (0, .ref h0)]) hx hb dX13_laysParts_19 rfl hl (by decide +kernel) rfl (fun ls hl => ?_)
      refine lv_aload_n hx hb dX13_laysParts_20 rfl (lv_at hl 2 rfl) ?_
      refine va_get (D := D) (ci := 10) (v := .ref (a 10)) (C := RX13) (T := TX13) (N := 45) hx hb hts in_X13_laysParts_X13 hown hE.1 hP 0 rfl rfl 10 (by decide +kernel) (hts (.fieldLink RX13 35 "ClauseBookModel" "one" "[I") (List.mem_of_getElem? (i := 3) rfl)) (fun _ h9 => h9) rfl dX13_laysParts_21 ?_
      refine lv_iload_n hx hb dX13_laysParts_24 rfl (lv_at hl 1 rfl) ?_
      refine va_iald hx hb hE.1 hP 3 0 rfl rfl (by rw [vp_in_iff]; first | omega | (subst_vars; omega)) dX13_laysParts_25 ?_
      refine lv_topi (fun z_4 ez_4 => ?_)
      have htz_4 : z_4.toInt = (f10 (xx.toNatClampNeg)).toInt := by rw [ez_4]
      refine lv_istore_n (lv' := [(3, .int z_4), (2, .int 0), (1, .int xx), (0, .ref h0)]) hx hb dX13_laysParts_26 rfl hl (by decide +kernel) rfl (fun ls hl => ?_)
      refine lv_aload_n hx hb dX13_laysParts_27 rfl (lv_at hl 3 rfl) ?_
      refine va_get (D := D) (ci := 10) (v := .ref (a 11)) (C := RX13) (T := TX13) (N := 45) hx hb hts in_X13_laysParts_X13 hown hE.1 hP 0 rfl rfl 11 (by decide +kernel) (hts (.fieldLink RX13 38 "ClauseBookModel" "two" "[I") (List.mem_of_getElem? (i := 4) rfl)) (fun _ h9 => h9) rfl dX13_laysParts_28 ?_
      refine lv_iload_n hx hb dX13_laysParts_31 rfl (lv_at hl 2 rfl) ?_
      refine va_iald hx hb hE.1 hP 4 0 rfl rfl (by rw [vp_in_iff]; first | omega | (subst_vars; omega)) dX13_laysParts_32 ?_
      refine lv_topi (fun z_5 ez_5 => ?_)
      have htz_5 : z_5.toInt = (f11 (xx.toNatClampNeg)).toInt := by rw [ez_5]
      refine lv_istore (lv' := [(4, .int z_5), (3, .int z_4), (2, .int 0), (1, .int xx), (0, .ref h0)]) hx hb dX13_laysParts_33 hl (by decide +kernel) rfl (fun ls hl => ?_)
      refine lv_aload_n hx hb dX13_laysParts_35 rfl (lv_at hl 4 rfl) ?_
      refine va_get (D := D) (ci := 10) (v := .ref (a 17)) (C := RX13) (T := TX13) (N := 45) hx hb hts in_X13_laysParts_X13 hown hE.1 hP 0 rfl rfl 17 (by decide +kernel) (hts (.fieldLink RX13 47 "ClauseBookModel" "end" "[I") (List.mem_of_getElem? (i := 5) rfl)) (fun _ h9 => h9) rfl dX13_laysParts_36 ?_
      refine lv_iload_n hx hb dX13_laysParts_39 rfl (lv_at hl 3 rfl) ?_
      refine lv_iload_n hx hb dX13_laysParts_40 rfl (lv_at hl 2 rfl) ?_
      refine lv_if_ne (tgt := 49) hx hb dX13_laysParts_41 (by decide +kernel) (fun c9 => absurd c9 (by decide +kernel)) (fun _ => ?_)
      refine lv_bipush (v := 6) hx hb dX13_laysParts_44 (by decide +kernel) ?_
      refine lv_goto (tgt := 79) hx hb dX13_laysParts_46 (by decide +kernel) ?_
      have h69 : (6 : Int32).toInt ≤ 6 := by decide
      refine va_iast hx hb hE.1 hP hD hS 5 0 rfl rfl (by rw [vp_in_iff]; first | omega | (subst_vars; omega)) dX13_laysParts_79 (fun H locs hP hD hS => ?_)
      obtain ⟨hP, hD⟩ := wPD [(h0, .inr (10, (Value.int (q 0) :: Value.int (q 1) :: Value.int (q 2) :: Value.int (q 3) :: Value.int (q 4) :: Value.int (q 5) :: Value.int (q 6) :: Value.int (q 7) :: Value.ref (a 8) :: Value.ref (a 9) :: Value.ref (a 10) :: Value.ref (a 11) :: Value.ref (a 12) :: Value.ref (a 13) :: Value.int (q 14) :: Value.long v :: Value.long w :: Value.ref (a 17) :: Value.ref (a 18) :: Value.ref (a 19) :: Value.ref (a 20) :: Value.ref (a 21) :: Value.ref (a 22) :: Value.ref (a 23) :: Value.int (q 24) :: Value.ref (a 25) :: Value.int (q 26) :: Value.ref (a 27) :: Value.int (q 28) :: Value.int (q 29) :: Value.int (q 30) :: Value.int (q 31) :: Value.int (q 32) :: Value.int (q 33) :: Value.ref (a 34) :: Value.ref (a 35) :: Value.ref (a 36) :: Value.ref (a 37) :: Value.ref (a 38) :: Value.ref (a 39) :: Value.ref (a 40) :: Value.int (q 41) :: Value.ref (a 42) :: Value.int (q 43) :: Value.int (q 44) :: []))), ((a 8), .inl (T 0, 24, .inl f8)), ((a 9), .inl (T 0, 24, .inl f9)), ((a 10), .inl (T 0, 24, .inl f10)), ((a 11), .inl (T 0, 24, .inl f11)), ((a 17), .inl (T 0, 24, .inl (upd e9 (xx.toNatClampNeg) 6))), ((a 18), .inl (T 0, 24, .inl p9)), ((a 19), .inl (T 0, 24, .inl d9))] hP hD rfl
      refine lv_aload_n hx hb dX13_laysParts_80 rfl (lv_at hl 4 rfl) ?_
      refine va_get (D := D) (ci := 10) (v := .ref (a 17)) (C := RX13) (T := TX13) (N := 45) hx hb hts in_X13_laysParts_X13 hown hE.1 hP 0 rfl rfl 17 (by decide +kernel) (hts (.fieldLink RX13 47 "ClauseBookModel" "end" "[I") (List.mem_of_getElem? (i := 5) rfl)) (fun _ h9 => h9) rfl dX13_laysParts_81 ?_
      refine lv_iload_n hx hb dX13_laysParts_84 rfl (lv_at hl 3 rfl) ?_
      refine lv_aload_n hx hb dX13_laysParts_85 rfl (lv_at hl 4 rfl) ?_
      refine va_get (D := D) (ci := 10) (v := .ref (a 8)) (C := RX13) (T := TX13) (N := 45) hx hb hts in_X13_laysParts_X13 hown hE.1 hP 0 rfl rfl 8 (by decide +kernel) (hts (.fieldLink RX13 28 "ClauseBookModel" "kind" "[I") (List.mem_of_getElem? (i := 2) rfl)) (fun _ h9 => h9) rfl dX13_laysParts_86 ?_
      refine lv_iload_n hx hb dX13_laysParts_89 rfl (lv_at hl 3 rfl) ?_
      refine va_iald hx hb hE.1 hP 1 0 rfl rfl (by rw [vp_in_iff]; first | omega | (subst_vars; omega)) dX13_laysParts_90 ?_
      refine lv_topi (fun z_6 ez_6 => ?_)
      have htz_6 : z_6.toInt = (f8 (xx.toNatClampNeg)).toInt := by rw [ez_6]
      refine lv_bipush (v := 8) hx hb dX13_laysParts_91 (by decide +kernel) ?_
      refine lv_icmp_ne (tgt := 114) hx hb dX13_laysParts_93 (by decide +kernel) (fun c_7 => ?_) (fun c_7 => ?_)
      · rw [fa_eq] at c_7
        try rw [ti_8] at c_7
        refine lv_aload_n hx hb dX13_laysParts_114 rfl (lv_at hl 4 rfl) ?_
        refine va_get (D := D) (ci := 10) (v := .ref (a 17)) (C := RX13) (T := TX13) (N := 45) hx hb hts in_X13_laysParts_X13 hown hE.1 hP 0 rfl rfl 17 (by decide +kernel) (hts (.fieldLink RX13 47 "ClauseBookModel" "end" "[I") (List.mem_of_getElem? (i := 5) rfl)) (fun _ h9 => h9) rfl dX13_laysParts_115 ?_
        refine lv_iload_n hx hb dX13_laysParts_118 rfl (lv_at hl 3 rfl) ?_
        refine va_iald hx hb hE.1 hP 5 0 rfl rfl (by rw [vp_in_iff]; first | omega | (subst_vars; omega)) dX13_laysParts_119 ?_
        refine lv_topi (fun z_8 ez_8 => ?_)
        have hxz_8 : z_8.toInt = (6 : Int32).toInt := by rw [ez_8, upd_at]
        refine va_iast hx hb hE.1 hP hD hS 5 0 rfl rfl (by rw [vp_in_iff]; first | omega | (subst_vars; omega)) dX13_laysParts_120 (fun H locs hP hD hS => ?_)
        obtain ⟨hP, hD⟩ := wPD [(h0, .inr (10, (Value.int (q 0) :: Value.int (q 1) :: Value.int (q 2) :: Value.int (q 3) :: Value.int (q 4) :: Value.int (q 5) :: Value.int (q 6) :: Value.int (q 7) :: Value.ref (a 8) :: Value.ref (a 9) :: Value.ref (a 10) :: Value.ref (a 11) :: Value.ref (a 12) :: Value.ref (a 13) :: Value.int (q 14) :: Value.long v :: Value.long w :: Value.ref (a 17) :: Value.ref (a 18) :: Value.ref (a 19) :: Value.ref (a 20) :: Value.ref (a 21) :: Value.ref (a 22) :: Value.ref (a 23) :: Value.int (q 24) :: Value.ref (a 25) :: Value.int (q 26) :: Value.ref (a 27) :: Value.int (q 28) :: Value.int (q 29) :: Value.int (q 30) :: Value.int (q 31) :: Value.int (q 32) :: Value.int (q 33) :: Value.ref (a 34) :: Value.ref (a 35) :: Value.ref (a 36) :: Value.ref (a 37) :: Value.ref (a 38) :: Value.ref (a 39) :: Value.ref (a 40) :: Value.int (q 41) :: Value.ref (a 42) :: Value.int (q 43) :: Value.int (q 44) :: []))), ((a 8), .inl (T 0, 24, .inl f8)), ((a 9), .inl (T 0, 24, .inl f9)), ((a 10), .inl (T 0, 24, .inl f10)), ((a 11), .inl (T 0, 24, .inl f11)), ((a 17), .inl (T 0, 24, .inl (upd (upd e9 (xx.toNatClampNeg) 6) (xx.toNatClampNeg) z_8))), ((a 18), .inl (T 0, 24, .inl p9)), ((a 19), .inl (T 0, 24, .inl d9))] hP hD rfl
        refine lv_aload_n hx hb dX13_laysParts_121 rfl (lv_at hl 4 rfl) ?_
        refine va_get (D := D) (ci := 10) (v := .ref (a 18)) (C := RX13) (T := TX13) (N := 45) hx hb hts in_X13_laysParts_X13 hown hE.1 hP 0 rfl rfl 18 (by decide +kernel) (hts (.fieldLink RX13 50 "ClauseBookModel" "parts" "[I") (List.mem_of_getElem? (i := 14) rfl)) (fun _ h9 => h9) rfl dX13_laysParts_122 ?_
        refine lv_iload_n hx hb dX13_laysParts_125 rfl (lv_at hl 3 rfl) ?_
        refine lv_iconst (v := 1) hx hb dX13_laysParts_126 (by decide +kernel) ?_
        refine lv_iload_n hx hb dX13_laysParts_127 rfl (lv_at hl 2 rfl) ?_
        refine lv_if_le (tgt := 140) hx hb dX13_laysParts_128 (by decide +kernel) (fun _ => ?_) (fun c9 => absurd c9 (by decide +kernel))
        refine lv_iconst (v := 0) hx hb dX13_laysParts_140 (by decide +kernel) ?_
        refine lv_iadd hx hb dX13_laysParts_141 ?_
        refine lv_topi (fun z_9 ez_9 => ?_)
        obtain rfl : z_9 = 1 := ez_9.trans (by decide +kernel)
        refine lv_iload_n hx hb dX13_laysParts_142 rfl (lv_at hl 2 rfl) ?_
        refine lv_iconst (v := 1) hx hb dX13_laysParts_143 (by decide +kernel) ?_
        refine lv_icmp_le (tgt := 157) hx hb dX13_laysParts_144 (by decide +kernel) (fun _ => ?_) (fun c9 => absurd c9 (by decide +kernel))
        refine lv_iconst (v := 0) hx hb dX13_laysParts_157 (by decide +kernel) ?_
        refine lv_iadd hx hb dX13_laysParts_158 ?_
        refine lv_topi (fun z_10 ez_10 => ?_)
        obtain rfl : z_10 = 1 := ez_10.trans (by decide +kernel)
        refine va_iast hx hb hE.1 hP hD hS 6 0 rfl rfl (by rw [vp_in_iff]; first | omega | (subst_vars; omega)) dX13_laysParts_159 (fun H locs hP hD hS => ?_)
        obtain ⟨hP, hD⟩ := wPD [(h0, .inr (10, (Value.int (q 0) :: Value.int (q 1) :: Value.int (q 2) :: Value.int (q 3) :: Value.int (q 4) :: Value.int (q 5) :: Value.int (q 6) :: Value.int (q 7) :: Value.ref (a 8) :: Value.ref (a 9) :: Value.ref (a 10) :: Value.ref (a 11) :: Value.ref (a 12) :: Value.ref (a 13) :: Value.int (q 14) :: Value.long v :: Value.long w :: Value.ref (a 17) :: Value.ref (a 18) :: Value.ref (a 19) :: Value.ref (a 20) :: Value.ref (a 21) :: Value.ref (a 22) :: Value.ref (a 23) :: Value.int (q 24) :: Value.ref (a 25) :: Value.int (q 26) :: Value.ref (a 27) :: Value.int (q 28) :: Value.int (q 29) :: Value.int (q 30) :: Value.int (q 31) :: Value.int (q 32) :: Value.int (q 33) :: Value.ref (a 34) :: Value.ref (a 35) :: Value.ref (a 36) :: Value.ref (a 37) :: Value.ref (a 38) :: Value.ref (a 39) :: Value.ref (a 40) :: Value.int (q 41) :: Value.ref (a 42) :: Value.int (q 43) :: Value.int (q 44) :: []))), ((a 8), .inl (T 0, 24, .inl f8)), ((a 9), .inl (T 0, 24, .inl f9)), ((a 10), .inl (T 0, 24, .inl f10)), ((a 11), .inl (T 0, 24, .inl f11)), ((a 17), .inl (T 0, 24, .inl (upd (upd e9 (xx.toNatClampNeg) 6) (xx.toNatClampNeg) z_8))), ((a 18), .inl (T 0, 24, .inl (upd p9 (xx.toNatClampNeg) 1))), ((a 19), .inl (T 0, 24, .inl d9))] hP hD rfl
        refine lv_aload_n hx hb dX13_laysParts_160 rfl (lv_at hl 4 rfl) ?_
        refine va_get (D := D) (ci := 10) (v := .ref (a 19)) (C := RX13) (T := TX13) (N := 45) hx hb hts in_X13_laysParts_X13 hown hE.1 hP 0 rfl rfl 19 (by decide +kernel) (hts (.fieldLink RX13 53 "ClauseBookModel" "deep" "[I") (List.mem_of_getElem? (i := 15) rfl)) (fun _ h9 => h9) rfl dX13_laysParts_161 ?_
        refine lv_iload_n hx hb dX13_laysParts_164 rfl (lv_at hl 3 rfl) ?_
        refine lv_iconst (v := 1) hx hb dX13_laysParts_165 (by decide +kernel) ?_
        refine lv_iload_n hx hb dX13_laysParts_166 rfl (lv_at hl 2 rfl) ?_
        refine lv_if_ne (tgt := 174) hx hb dX13_laysParts_167 (by decide +kernel) (fun c9 => absurd c9 (by decide +kernel)) (fun _ => ?_)
        refine lv_iconst (v := 0) hx hb dX13_laysParts_170 (by decide +kernel) ?_
        refine lv_goto (tgt := 204) hx hb dX13_laysParts_171 (by decide +kernel) ?_
        refine lv_iadd hx hb dX13_laysParts_204 ?_
        refine lv_topi (fun z_11 ez_11 => ?_)
        obtain rfl : z_11 = 1 := ez_11.trans (by decide +kernel)
        refine va_iast hx hb hE.1 hP hD hS 7 0 rfl rfl (by rw [vp_in_iff]; first | omega | (subst_vars; omega)) dX13_laysParts_205 (fun H locs hP hD hS => ?_)
        obtain ⟨hP, hD⟩ := wPD [(h0, .inr (10, (Value.int (q 0) :: Value.int (q 1) :: Value.int (q 2) :: Value.int (q 3) :: Value.int (q 4) :: Value.int (q 5) :: Value.int (q 6) :: Value.int (q 7) :: Value.ref (a 8) :: Value.ref (a 9) :: Value.ref (a 10) :: Value.ref (a 11) :: Value.ref (a 12) :: Value.ref (a 13) :: Value.int (q 14) :: Value.long v :: Value.long w :: Value.ref (a 17) :: Value.ref (a 18) :: Value.ref (a 19) :: Value.ref (a 20) :: Value.ref (a 21) :: Value.ref (a 22) :: Value.ref (a 23) :: Value.int (q 24) :: Value.ref (a 25) :: Value.int (q 26) :: Value.ref (a 27) :: Value.int (q 28) :: Value.int (q 29) :: Value.int (q 30) :: Value.int (q 31) :: Value.int (q 32) :: Value.int (q 33) :: Value.ref (a 34) :: Value.ref (a 35) :: Value.ref (a 36) :: Value.ref (a 37) :: Value.ref (a 38) :: Value.ref (a 39) :: Value.ref (a 40) :: Value.int (q 41) :: Value.ref (a 42) :: Value.int (q 43) :: Value.int (q 44) :: []))), ((a 8), .inl (T 0, 24, .inl f8)), ((a 9), .inl (T 0, 24, .inl f9)), ((a 10), .inl (T 0, 24, .inl f10)), ((a 11), .inl (T 0, 24, .inl f11)), ((a 17), .inl (T 0, 24, .inl (upd (upd e9 (xx.toNatClampNeg) 6) (xx.toNatClampNeg) z_8))), ((a 18), .inl (T 0, 24, .inl (upd p9 (xx.toNatClampNeg) 1))), ((a 19), .inl (T 0, 24, .inl (upd d9 (xx.toNatClampNeg) 1)))] hP hD rfl
        obtain ⟨z_12, ez_12⟩ : ∃ y : Int32, y = xx + 1 := ⟨_, rfl⟩
        refine lv_iinc (v := z_12) (lv' := [(1, .int z_12), (4, .int z_5), (3, .int z_4), (2, .int 0), (0, .ref h0)]) hx hb dX13_laysParts_206 hl (k := 3) rfl (by rw [ez_12]; rfl) (by decide +kernel) rfl (fun ls hl => ?_)
        have hz_129 : z_12.toInt = xx.toInt + 1 := by rw [ez_12]; exact inc1 (n := 1000) (by omega) (by decide +kernel)
        refine lv_goto (tgt := 2) hx hb dX13_laysParts_209 (by decide +kernel) ?_
        exact ih (z_12, (upd (upd e9 (xx.toNatClampNeg) 6) (xx.toNatClampNeg) z_8), (upd p9 (xx.toNatClampNeg) 1), (upd d9 (xx.toNatClampNeg) 1)) ls _ _ ⟨lv_sub hl [0, 4] rfl, hP.sub [0, 1, 2, 3, 4, 5, 6, 7] rfl, hD.sub [0, 1, 2, 3, 4, 5, 6, 7] (by decide +kernel) rfl, hS, ⟨(by (try dsimp only); rw [hz_129]; omega), (by (try dsimp only); rw [upd_upd]; exact okE_step (n := 0) hEE (by omega) hz_129 (by omega) (fun hk9 => by exfalso; have h9 := hlz_2 (by omega); omega) (okR.late hokR)), (by (try dsimp only); rw [upd_upd]; exact mes_lp (okR.Nm hokR) (by omega) hz_129 hME (mesE_rn (by have t9 := tn (x := f8 (xx.toNatClampNeg)) (by omega); omega) (endB_0 (by rw [← ez_2]; omega)) hxz_8) (mesM_0 (by rw [← ez_2]; omega)) (mesD_0 (by rw [← ez_2]; omega)))⟩⟩ (by (try dsimp only); rw [hz_129]; omega)
      · rw [fa_eq] at c_7
        try rw [ti_8] at c_7
        refine lv_aload_n hx hb dX13_laysParts_96 rfl (lv_at hl 4 rfl) ?_
        refine va_get (D := D) (ci := 10) (v := .ref (a 9)) (C := RX13) (T := TX13) (N := 45) hx hb hts in_X13_laysParts_X13 hown hE.1 hP 0 rfl rfl 9 (by decide +kernel) (hts (.fieldLink RX13 32 "ClauseBookModel" "number" "[I") (List.mem_of_getElem? (i := 10) rfl)) (fun _ h9 => h9) rfl dX13_laysParts_97 ?_
        refine lv_iload_n hx hb dX13_laysParts_100 rfl (lv_at hl 3 rfl) ?_
        refine va_iald hx hb hE.1 hP 2 0 rfl rfl (by rw [vp_in_iff]; first | omega | (subst_vars; omega)) dX13_laysParts_101 ?_
        refine lv_topi (fun z_13 ez_13 => ?_)
        refine lv_aload_n hx hb dX13_laysParts_102 rfl (lv_at hl 4 rfl) ?_
        refine va_get (D := D) (ci := 10) (v := .ref (a 17)) (C := RX13) (T := TX13) (N := 45) hx hb hts in_X13_laysParts_X13 hown hE.1 hP 0 rfl rfl 17 (by decide +kernel) (hts (.fieldLink RX13 47 "ClauseBookModel" "end" "[I") (List.mem_of_getElem? (i := 5) rfl)) (fun _ h9 => h9) rfl dX13_laysParts_103 ?_
        refine lv_iload_n hx hb dX13_laysParts_106 rfl (lv_at hl 3 rfl) ?_
        refine va_iald hx hb hE.1 hP 5 0 rfl rfl (by rw [vp_in_iff]; first | omega | (subst_vars; omega)) dX13_laysParts_107 ?_
        refine lv_topi (fun z_14 ez_14 => ?_)
        have hxz_14 : z_14.toInt = (6 : Int32).toInt := by rw [ez_14, upd_at]
        refine va_mmin hx hb (hml.trans hl.1.symm) hown (hts (.methodLink RX13 230 Lib.Math.min.name) (List.mem_of_getElem? (i := 11) rfl)) (hts (.static Lib.Math.min.name) (List.mem_of_getElem? (i := 12) rfl)) (hts (.initialized "java/lang/Math") (List.mem_of_getElem? (i := 8) rfl)) (hts (.code Lib.Math.min.name Lib.Math.min.code 2 (some .int)) (List.mem_of_getElem? (i := 13) rfl)) (Nat.le_of_ble_eq_true rfl) (Nat.le_of_ble_eq_true rfl) (Nat.le_of_ble_eq_true rfl) (Nat.le_of_ble_eq_true rfl) dX13_laysParts_108 ?_
        refine lv_topi (fun z_15 ez_15 => ?_)
        have hxz_15 : z_15.toInt ≤ 6 := by
          rw [ez_15]
          split
          · rename_i h
            omega
          · rename_i h
            rw [fa_lt] at h
            omega
        refine lv_goto (tgt := 120) hx hb dX13_laysParts_111 (by decide +kernel) ?_
        refine va_iast hx hb hE.1 hP hD hS 5 0 rfl rfl (by rw [vp_in_iff]; first | omega | (subst_vars; omega)) dX13_laysParts_120 (fun H locs hP hD hS => ?_)
        obtain ⟨hP, hD⟩ := wPD [(h0, .inr (10, (Value.int (q 0) :: Value.int (q 1) :: Value.int (q 2) :: Value.int (q 3) :: Value.int (q 4) :: Value.int (q 5) :: Value.int (q 6) :: Value.int (q 7) :: Value.ref (a 8) :: Value.ref (a 9) :: Value.ref (a 10) :: Value.ref (a 11) :: Value.ref (a 12) :: Value.ref (a 13) :: Value.int (q 14) :: Value.long v :: Value.long w :: Value.ref (a 17) :: Value.ref (a 18) :: Value.ref (a 19) :: Value.ref (a 20) :: Value.ref (a 21) :: Value.ref (a 22) :: Value.ref (a 23) :: Value.int (q 24) :: Value.ref (a 25) :: Value.int (q 26) :: Value.ref (a 27) :: Value.int (q 28) :: Value.int (q 29) :: Value.int (q 30) :: Value.int (q 31) :: Value.int (q 32) :: Value.int (q 33) :: Value.ref (a 34) :: Value.ref (a 35) :: Value.ref (a 36) :: Value.ref (a 37) :: Value.ref (a 38) :: Value.ref (a 39) :: Value.ref (a 40) :: Value.int (q 41) :: Value.ref (a 42) :: Value.int (q 43) :: Value.int (q 44) :: []))), ((a 8), .inl (T 0, 24, .inl f8)), ((a 9), .inl (T 0, 24, .inl f9)), ((a 10), .inl (T 0, 24, .inl f10)), ((a 11), .inl (T 0, 24, .inl f11)), ((a 17), .inl (T 0, 24, .inl (upd (upd e9 (xx.toNatClampNeg) 6) (xx.toNatClampNeg) z_15))), ((a 18), .inl (T 0, 24, .inl p9)), ((a 19), .inl (T 0, 24, .inl d9))] hP hD rfl
        refine lv_aload_n hx hb dX13_laysParts_121 rfl (lv_at hl 4 rfl) ?_
        refine va_get (D := D) (ci := 10) (v := .ref (a 18)) (C := RX13) (T := TX13) (N := 45) hx hb hts in_X13_laysParts_X13 hown hE.1 hP 0 rfl rfl 18 (by decide +kernel) (hts (.fieldLink RX13 50 "ClauseBookModel" "parts" "[I") (List.mem_of_getElem? (i := 14) rfl)) (fun _ h9 => h9) rfl dX13_laysParts_122 ?_
        refine lv_iload_n hx hb dX13_laysParts_125 rfl (lv_at hl 3 rfl) ?_
        refine lv_iconst (v := 1) hx hb dX13_laysParts_126 (by decide +kernel) ?_
        refine lv_iload_n hx hb dX13_laysParts_127 rfl (lv_at hl 2 rfl) ?_
        refine lv_if_le (tgt := 140) hx hb dX13_laysParts_128 (by decide +kernel) (fun _ => ?_) (fun c9 => absurd c9 (by decide +kernel))
        refine lv_iconst (v := 0) hx hb dX13_laysParts_140 (by decide +kernel) ?_
        refine lv_iadd hx hb dX13_laysParts_141 ?_
        refine lv_topi (fun z_16 ez_16 => ?_)
        obtain rfl : z_16 = 1 := ez_16.trans (by decide +kernel)
        refine lv_iload_n hx hb dX13_laysParts_142 rfl (lv_at hl 2 rfl) ?_
        refine lv_iconst (v := 1) hx hb dX13_laysParts_143 (by decide +kernel) ?_
        refine lv_icmp_le (tgt := 157) hx hb dX13_laysParts_144 (by decide +kernel) (fun _ => ?_) (fun c9 => absurd c9 (by decide +kernel))
        refine lv_iconst (v := 0) hx hb dX13_laysParts_157 (by decide +kernel) ?_
        refine lv_iadd hx hb dX13_laysParts_158 ?_
        refine lv_topi (fun z_17 ez_17 => ?_)
        obtain rfl : z_17 = 1 := ez_17.trans (by decide +kernel)
        refine va_iast hx hb hE.1 hP hD hS 6 0 rfl rfl (by rw [vp_in_iff]; first | omega | (subst_vars; omega)) dX13_laysParts_159 (fun H locs hP hD hS => ?_)
        obtain ⟨hP, hD⟩ := wPD [(h0, .inr (10, (Value.int (q 0) :: Value.int (q 1) :: Value.int (q 2) :: Value.int (q 3) :: Value.int (q 4) :: Value.int (q 5) :: Value.int (q 6) :: Value.int (q 7) :: Value.ref (a 8) :: Value.ref (a 9) :: Value.ref (a 10) :: Value.ref (a 11) :: Value.ref (a 12) :: Value.ref (a 13) :: Value.int (q 14) :: Value.long v :: Value.long w :: Value.ref (a 17) :: Value.ref (a 18) :: Value.ref (a 19) :: Value.ref (a 20) :: Value.ref (a 21) :: Value.ref (a 22) :: Value.ref (a 23) :: Value.int (q 24) :: Value.ref (a 25) :: Value.int (q 26) :: Value.ref (a 27) :: Value.int (q 28) :: Value.int (q 29) :: Value.int (q 30) :: Value.int (q 31) :: Value.int (q 32) :: Value.int (q 33) :: Value.ref (a 34) :: Value.ref (a 35) :: Value.ref (a 36) :: Value.ref (a 37) :: Value.ref (a 38) :: Value.ref (a 39) :: Value.ref (a 40) :: Value.int (q 41) :: Value.ref (a 42) :: Value.int (q 43) :: Value.int (q 44) :: []))), ((a 8), .inl (T 0, 24, .inl f8)), ((a 9), .inl (T 0, 24, .inl f9)), ((a 10), .inl (T 0, 24, .inl f10)), ((a 11), .inl (T 0, 24, .inl f11)), ((a 17), .inl (T 0, 24, .inl (upd (upd e9 (xx.toNatClampNeg) 6) (xx.toNatClampNeg) z_15))), ((a 18), .inl (T 0, 24, .inl (upd p9 (xx.toNatClampNeg) 1))), ((a 19), .inl (T 0, 24, .inl d9))] hP hD rfl
        refine lv_aload_n hx hb dX13_laysParts_160 rfl (lv_at hl 4 rfl) ?_
        refine va_get (D := D) (ci := 10) (v := .ref (a 19)) (C := RX13) (T := TX13) (N := 45) hx hb hts in_X13_laysParts_X13 hown hE.1 hP 0 rfl rfl 19 (by decide +kernel) (hts (.fieldLink RX13 53 "ClauseBookModel" "deep" "[I") (List.mem_of_getElem? (i := 15) rfl)) (fun _ h9 => h9) rfl dX13_laysParts_161 ?_
        refine lv_iload_n hx hb dX13_laysParts_164 rfl (lv_at hl 3 rfl) ?_
        refine lv_iconst (v := 1) hx hb dX13_laysParts_165 (by decide +kernel) ?_
        refine lv_iload_n hx hb dX13_laysParts_166 rfl (lv_at hl 2 rfl) ?_
        refine lv_if_ne (tgt := 174) hx hb dX13_laysParts_167 (by decide +kernel) (fun c9 => absurd c9 (by decide +kernel)) (fun _ => ?_)
        refine lv_iconst (v := 0) hx hb dX13_laysParts_170 (by decide +kernel) ?_
        refine lv_goto (tgt := 204) hx hb dX13_laysParts_171 (by decide +kernel) ?_
        refine lv_iadd hx hb dX13_laysParts_204 ?_
        refine lv_topi (fun z_18 ez_18 => ?_)
        obtain rfl : z_18 = 1 := ez_18.trans (by decide +kernel)
        refine va_iast hx hb hE.1 hP hD hS 7 0 rfl rfl (by rw [vp_in_iff]; first | omega | (subst_vars; omega)) dX13_laysParts_205 (fun H locs hP hD hS => ?_)
        obtain ⟨hP, hD⟩ := wPD [(h0, .inr (10, (Value.int (q 0) :: Value.int (q 1) :: Value.int (q 2) :: Value.int (q 3) :: Value.int (q 4) :: Value.int (q 5) :: Value.int (q 6) :: Value.int (q 7) :: Value.ref (a 8) :: Value.ref (a 9) :: Value.ref (a 10) :: Value.ref (a 11) :: Value.ref (a 12) :: Value.ref (a 13) :: Value.int (q 14) :: Value.long v :: Value.long w :: Value.ref (a 17) :: Value.ref (a 18) :: Value.ref (a 19) :: Value.ref (a 20) :: Value.ref (a 21) :: Value.ref (a 22) :: Value.ref (a 23) :: Value.int (q 24) :: Value.ref (a 25) :: Value.int (q 26) :: Value.ref (a 27) :: Value.int (q 28) :: Value.int (q 29) :: Value.int (q 30) :: Value.int (q 31) :: Value.int (q 32) :: Value.int (q 33) :: Value.ref (a 34) :: Value.ref (a 35) :: Value.ref (a 36) :: Value.ref (a 37) :: Value.ref (a 38) :: Value.ref (a 39) :: Value.ref (a 40) :: Value.int (q 41) :: Value.ref (a 42) :: Value.int (q 43) :: Value.int (q 44) :: []))), ((a 8), .inl (T 0, 24, .inl f8)), ((a 9), .inl (T 0, 24, .inl f9)), ((a 10), .inl (T 0, 24, .inl f10)), ((a 11), .inl (T 0, 24, .inl f11)), ((a 17), .inl (T 0, 24, .inl (upd (upd e9 (xx.toNatClampNeg) 6) (xx.toNatClampNeg) z_15))), ((a 18), .inl (T 0, 24, .inl (upd p9 (xx.toNatClampNeg) 1))), ((a 19), .inl (T 0, 24, .inl (upd d9 (xx.toNatClampNeg) 1)))] hP hD rfl
        obtain ⟨z_19, ez_19⟩ : ∃ y : Int32, y = xx + 1 := ⟨_, rfl⟩
        refine lv_iinc (v := z_19) (lv' := [(1, .int z_19), (4, .int z_5), (3, .int z_4), (2, .int 0), (0, .ref h0)]) hx hb dX13_laysParts_206 hl (k := 3) rfl (by rw [ez_19]; rfl) (by decide +kernel) rfl (fun ls hl => ?_)
        have hz_199 : z_19.toInt = xx.toInt + 1 := by rw [ez_19]; exact inc1 (n := 1000) (by omega) (by decide +kernel)
        refine lv_goto (tgt := 2) hx hb dX13_laysParts_209 (by decide +kernel) ?_
        exact ih (z_19, (upd (upd e9 (xx.toNatClampNeg) 6) (xx.toNatClampNeg) z_15), (upd p9 (xx.toNatClampNeg) 1), (upd d9 (xx.toNatClampNeg) 1)) ls _ _ ⟨lv_sub hl [0, 4] rfl, hP.sub [0, 1, 2, 3, 4, 5, 6, 7] rfl, hD.sub [0, 1, 2, 3, 4, 5, 6, 7] (by decide +kernel) rfl, hS, ⟨(by (try dsimp only); rw [hz_199]; omega), (by (try dsimp only); rw [upd_upd]; exact okE_step (n := 0) hEE (by omega) hz_199 (by omega) (fun hk9 => by exfalso; omega) (okR.late hokR)), (by (try dsimp only); rw [upd_upd]; exact mes_lp (okR.Nm hokR) (by omega) hz_199 hME (mesE_r8 (by have t9 := tn (x := f8 (xx.toNatClampNeg)) (by omega); omega) (endB_0 (by rw [← ez_2]; omega)) hxz_14 ez_15 ez_13) (mesM_0 (by rw [← ez_2]; omega)) (mesD_0 (by rw [← ez_2]; omega)))⟩⟩ (by (try dsimp only); rw [hz_199]; omega)
    · have h9t := ti_1
      refine lv_istore_n (lv' := [(2, .int 1), (1, .int xx), (0, .ref h0)]) hx hb dX13_laysParts_19 rfl hl (by decide +kernel) rfl (fun ls hl => ?_)
      refine lv_aload_n hx hb dX13_laysParts_20 rfl (lv_at hl 2 rfl) ?_
      refine va_get (D := D) (ci := 10) (v := .ref (a 10)) (C := RX13) (T := TX13) (N := 45) hx hb hts in_X13_laysParts_X13 hown hE.1 hP 0 rfl rfl 10 (by decide +kernel) (hts (.fieldLink RX13 35 "ClauseBookModel" "one" "[I") (List.mem_of_getElem? (i := 3) rfl)) (fun _ h9 => h9) rfl dX13_laysParts_21 ?_
      refine lv_iload_n hx hb dX13_laysParts_24 rfl (lv_at hl 1 rfl) ?_
      refine va_iald hx hb hE.1 hP 3 0 rfl rfl (by rw [vp_in_iff]; first | omega | (subst_vars; omega)) dX13_laysParts_25 ?_
      refine lv_topi (fun z_20 ez_20 => ?_)
      have htz_20 : z_20.toInt = (f10 (xx.toNatClampNeg)).toInt := by rw [ez_20]
      refine lv_istore_n (lv' := [(3, .int z_20), (2, .int 1), (1, .int xx), (0, .ref h0)]) hx hb dX13_laysParts_26 rfl hl (by decide +kernel) rfl (fun ls hl => ?_)
      refine lv_aload_n hx hb dX13_laysParts_27 rfl (lv_at hl 3 rfl) ?_
      refine va_get (D := D) (ci := 10) (v := .ref (a 11)) (C := RX13) (T := TX13) (N := 45) hx hb hts in_X13_laysParts_X13 hown hE.1 hP 0 rfl rfl 11 (by decide +kernel) (hts (.fieldLink RX13 38 "ClauseBookModel" "two" "[I") (List.mem_of_getElem? (i := 4) rfl)) (fun _ h9 => h9) rfl dX13_laysParts_28 ?_
      refine lv_iload_n hx hb dX13_laysParts_31 rfl (lv_at hl 2 rfl) ?_
      refine va_iald hx hb hE.1 hP 4 0 rfl rfl (by rw [vp_in_iff]; first | omega | (subst_vars; omega)) dX13_laysParts_32 ?_
      refine lv_topi (fun z_21 ez_21 => ?_)
      have htz_21 : z_21.toInt = (f11 (xx.toNatClampNeg)).toInt := by rw [ez_21]
      refine lv_istore (lv' := [(4, .int z_21), (3, .int z_20), (2, .int 1), (1, .int xx), (0, .ref h0)]) hx hb dX13_laysParts_33 hl (by decide +kernel) rfl (fun ls hl => ?_)
      refine lv_aload_n hx hb dX13_laysParts_35 rfl (lv_at hl 4 rfl) ?_
      refine va_get (D := D) (ci := 10) (v := .ref (a 17)) (C := RX13) (T := TX13) (N := 45) hx hb hts in_X13_laysParts_X13 hown hE.1 hP 0 rfl rfl 17 (by decide +kernel) (hts (.fieldLink RX13 47 "ClauseBookModel" "end" "[I") (List.mem_of_getElem? (i := 5) rfl)) (fun _ h9 => h9) rfl dX13_laysParts_36 ?_
      refine lv_iload_n hx hb dX13_laysParts_39 rfl (lv_at hl 3 rfl) ?_
      refine lv_iload_n hx hb dX13_laysParts_40 rfl (lv_at hl 2 rfl) ?_
      refine lv_if_ne (tgt := 49) hx hb dX13_laysParts_41 (by decide +kernel) (fun _ => ?_) (fun c9 => absurd c9 (by decide +kernel))
      refine lv_iload_n hx hb dX13_laysParts_49 rfl (lv_at hl 2 rfl) ?_
      refine lv_iconst (v := 1) hx hb dX13_laysParts_50 (by decide +kernel) ?_
      refine lv_icmp_ne (tgt := 63) hx hb dX13_laysParts_51 (by decide +kernel) (fun c9 => absurd c9 (by decide +kernel)) (fun _ => ?_)
      refine lv_aload_n hx hb dX13_laysParts_54 rfl (lv_at hl 4 rfl) ?_
      refine va_get (D := D) (ci := 10) (v := .ref (a 17)) (C := RX13) (T := TX13) (N := 45) hx hb hts in_X13_laysParts_X13 hown hE.1 hP 0 rfl rfl 17 (by decide +kernel) (hts (.fieldLink RX13 47 "ClauseBookModel" "end" "[I") (List.mem_of_getElem? (i := 5) rfl)) (fun _ h9 => h9) rfl dX13_laysParts_55 ?_
      refine lv_iload_n hx hb dX13_laysParts_58 rfl (lv_at hl 1 rfl) ?_
      refine va_iald hx hb hE.1 hP 5 0 rfl rfl (by rw [vp_in_iff]; first | omega | (subst_vars; omega)) dX13_laysParts_59 ?_
      refine lv_topi (fun z_22 ez_22 => ?_)
      have h6z_22 : z_22.toInt ≤ 6 := by
        rw [ez_22]
        have h9 := tn (x := z_20) (by omega)
        exact (hEE _ (by omega)).1
      have hvz_22 : z_22.toInt = (e9 (z_20.toNatClampNeg)).toInt := by rw [ez_22]
      refine lv_goto (tgt := 79) hx hb dX13_laysParts_60 (by decide +kernel) ?_
      refine va_iast hx hb hE.1 hP hD hS 5 0 rfl rfl (by rw [vp_in_iff]; first | omega | (subst_vars; omega)) dX13_laysParts_79 (fun H locs hP hD hS => ?_)
      obtain ⟨hP, hD⟩ := wPD [(h0, .inr (10, (Value.int (q 0) :: Value.int (q 1) :: Value.int (q 2) :: Value.int (q 3) :: Value.int (q 4) :: Value.int (q 5) :: Value.int (q 6) :: Value.int (q 7) :: Value.ref (a 8) :: Value.ref (a 9) :: Value.ref (a 10) :: Value.ref (a 11) :: Value.ref (a 12) :: Value.ref (a 13) :: Value.int (q 14) :: Value.long v :: Value.long w :: Value.ref (a 17) :: Value.ref (a 18) :: Value.ref (a 19) :: Value.ref (a 20) :: Value.ref (a 21) :: Value.ref (a 22) :: Value.ref (a 23) :: Value.int (q 24) :: Value.ref (a 25) :: Value.int (q 26) :: Value.ref (a 27) :: Value.int (q 28) :: Value.int (q 29) :: Value.int (q 30) :: Value.int (q 31) :: Value.int (q 32) :: Value.int (q 33) :: Value.ref (a 34) :: Value.ref (a 35) :: Value.ref (a 36) :: Value.ref (a 37) :: Value.ref (a 38) :: Value.ref (a 39) :: Value.ref (a 40) :: Value.int (q 41) :: Value.ref (a 42) :: Value.int (q 43) :: Value.int (q 44) :: []))), ((a 8), .inl (T 0, 24, .inl f8)), ((a 9), .inl (T 0, 24, .inl f9)), ((a 10), .inl (T 0, 24, .inl f10)), ((a 11), .inl (T 0, 24, .inl f11)), ((a 17), .inl (T 0, 24, .inl (upd e9 (xx.toNatClampNeg) z_22))), ((a 18), .inl (T 0, 24, .inl p9)), ((a 19), .inl (T 0, 24, .inl d9))] hP hD rfl
      refine lv_aload_n hx hb dX13_laysParts_80 rfl (lv_at hl 4 rfl) ?_
      refine va_get (D := D) (ci := 10) (v := .ref (a 17)) (C := RX13) (T := TX13) (N := 45) hx hb hts in_X13_laysParts_X13 hown hE.1 hP 0 rfl rfl 17 (by decide +kernel) (hts (.fieldLink RX13 47 "ClauseBookModel" "end" "[I") (List.mem_of_getElem? (i := 5) rfl)) (fun _ h9 => h9) rfl dX13_laysParts_81 ?_
      refine lv_iload_n hx hb dX13_laysParts_84 rfl (lv_at hl 3 rfl) ?_
      refine lv_aload_n hx hb dX13_laysParts_85 rfl (lv_at hl 4 rfl) ?_
      refine va_get (D := D) (ci := 10) (v := .ref (a 8)) (C := RX13) (T := TX13) (N := 45) hx hb hts in_X13_laysParts_X13 hown hE.1 hP 0 rfl rfl 8 (by decide +kernel) (hts (.fieldLink RX13 28 "ClauseBookModel" "kind" "[I") (List.mem_of_getElem? (i := 2) rfl)) (fun _ h9 => h9) rfl dX13_laysParts_86 ?_
      refine lv_iload_n hx hb dX13_laysParts_89 rfl (lv_at hl 3 rfl) ?_
      refine va_iald hx hb hE.1 hP 1 0 rfl rfl (by rw [vp_in_iff]; first | omega | (subst_vars; omega)) dX13_laysParts_90 ?_
      refine lv_topi (fun z_23 ez_23 => ?_)
      have htz_23 : z_23.toInt = (f8 (xx.toNatClampNeg)).toInt := by rw [ez_23]
      refine lv_bipush (v := 8) hx hb dX13_laysParts_91 (by decide +kernel) ?_
      refine lv_icmp_ne (tgt := 114) hx hb dX13_laysParts_93 (by decide +kernel) (fun c_24 => ?_) (fun c_24 => ?_)
      · rw [fa_eq] at c_24
        try rw [ti_8] at c_24
        refine lv_aload_n hx hb dX13_laysParts_114 rfl (lv_at hl 4 rfl) ?_
        refine va_get (D := D) (ci := 10) (v := .ref (a 17)) (C := RX13) (T := TX13) (N := 45) hx hb hts in_X13_laysParts_X13 hown hE.1 hP 0 rfl rfl 17 (by decide +kernel) (hts (.fieldLink RX13 47 "ClauseBookModel" "end" "[I") (List.mem_of_getElem? (i := 5) rfl)) (fun _ h9 => h9) rfl dX13_laysParts_115 ?_
        refine lv_iload_n hx hb dX13_laysParts_118 rfl (lv_at hl 3 rfl) ?_
        refine va_iald hx hb hE.1 hP 5 0 rfl rfl (by rw [vp_in_iff]; first | omega | (subst_vars; omega)) dX13_laysParts_119 ?_
        refine lv_topi (fun z_25 ez_25 => ?_)
        have hxz_25 : z_25.toInt = (z_22 : Int32).toInt := by rw [ez_25, upd_at]
        refine va_iast hx hb hE.1 hP hD hS 5 0 rfl rfl (by rw [vp_in_iff]; first | omega | (subst_vars; omega)) dX13_laysParts_120 (fun H locs hP hD hS => ?_)
        obtain ⟨hP, hD⟩ := wPD [(h0, .inr (10, (Value.int (q 0) :: Value.int (q 1) :: Value.int (q 2) :: Value.int (q 3) :: Value.int (q 4) :: Value.int (q 5) :: Value.int (q 6) :: Value.int (q 7) :: Value.ref (a 8) :: Value.ref (a 9) :: Value.ref (a 10) :: Value.ref (a 11) :: Value.ref (a 12) :: Value.ref (a 13) :: Value.int (q 14) :: Value.long v :: Value.long w :: Value.ref (a 17) :: Value.ref (a 18) :: Value.ref (a 19) :: Value.ref (a 20) :: Value.ref (a 21) :: Value.ref (a 22) :: Value.ref (a 23) :: Value.int (q 24) :: Value.ref (a 25) :: Value.int (q 26) :: Value.ref (a 27) :: Value.int (q 28) :: Value.int (q 29) :: Value.int (q 30) :: Value.int (q 31) :: Value.int (q 32) :: Value.int (q 33) :: Value.ref (a 34) :: Value.ref (a 35) :: Value.ref (a 36) :: Value.ref (a 37) :: Value.ref (a 38) :: Value.ref (a 39) :: Value.ref (a 40) :: Value.int (q 41) :: Value.ref (a 42) :: Value.int (q 43) :: Value.int (q 44) :: []))), ((a 8), .inl (T 0, 24, .inl f8)), ((a 9), .inl (T 0, 24, .inl f9)), ((a 10), .inl (T 0, 24, .inl f10)), ((a 11), .inl (T 0, 24, .inl f11)), ((a 17), .inl (T 0, 24, .inl (upd (upd e9 (xx.toNatClampNeg) z_22) (xx.toNatClampNeg) z_25))), ((a 18), .inl (T 0, 24, .inl p9)), ((a 19), .inl (T 0, 24, .inl d9))] hP hD rfl
        refine lv_aload_n hx hb dX13_laysParts_121 rfl (lv_at hl 4 rfl) ?_
        refine va_get (D := D) (ci := 10) (v := .ref (a 18)) (C := RX13) (T := TX13) (N := 45) hx hb hts in_X13_laysParts_X13 hown hE.1 hP 0 rfl rfl 18 (by decide +kernel) (hts (.fieldLink RX13 50 "ClauseBookModel" "parts" "[I") (List.mem_of_getElem? (i := 14) rfl)) (fun _ h9 => h9) rfl dX13_laysParts_122 ?_
        refine lv_iload_n hx hb dX13_laysParts_125 rfl (lv_at hl 3 rfl) ?_
        refine lv_iconst (v := 1) hx hb dX13_laysParts_126 (by decide +kernel) ?_
        refine lv_iload_n hx hb dX13_laysParts_127 rfl (lv_at hl 2 rfl) ?_
        refine lv_if_le (tgt := 140) hx hb dX13_laysParts_128 (by decide +kernel) (fun c9 => absurd c9 (by decide +kernel)) (fun _ => ?_)
        refine lv_aload_n hx hb dX13_laysParts_131 rfl (lv_at hl 4 rfl) ?_
        refine va_get (D := D) (ci := 10) (v := .ref (a 18)) (C := RX13) (T := TX13) (N := 45) hx hb hts in_X13_laysParts_X13 hown hE.1 hP 0 rfl rfl 18 (by decide +kernel) (hts (.fieldLink RX13 50 "ClauseBookModel" "parts" "[I") (List.mem_of_getElem? (i := 14) rfl)) (fun _ h9 => h9) rfl dX13_laysParts_132 ?_
        refine lv_iload_n hx hb dX13_laysParts_135 rfl (lv_at hl 1 rfl) ?_
        refine va_iald hx hb hE.1 hP 6 0 rfl rfl (by rw [vp_in_iff]; first | omega | (subst_vars; omega)) dX13_laysParts_136 ?_
        refine lv_topi (fun z_26 ez_26 => ?_)
        refine lv_goto (tgt := 141) hx hb dX13_laysParts_137 (by decide +kernel) ?_
        refine lv_iadd hx hb dX13_laysParts_141 ?_
        refine lv_iload_n hx hb dX13_laysParts_142 rfl (lv_at hl 2 rfl) ?_
        refine lv_iconst (v := 1) hx hb dX13_laysParts_143 (by decide +kernel) ?_
        refine lv_icmp_le (tgt := 157) hx hb dX13_laysParts_144 (by decide +kernel) (fun _ => ?_) (fun c9 => absurd c9 (by decide +kernel))
        refine lv_iconst (v := 0) hx hb dX13_laysParts_157 (by decide +kernel) ?_
        refine lv_iadd hx hb dX13_laysParts_158 ?_
        refine lv_topi (fun z_27 ez_27 => ?_)
        refine va_iast hx hb hE.1 hP hD hS 6 0 rfl rfl (by rw [vp_in_iff]; first | omega | (subst_vars; omega)) dX13_laysParts_159 (fun H locs hP hD hS => ?_)
        obtain ⟨hP, hD⟩ := wPD [(h0, .inr (10, (Value.int (q 0) :: Value.int (q 1) :: Value.int (q 2) :: Value.int (q 3) :: Value.int (q 4) :: Value.int (q 5) :: Value.int (q 6) :: Value.int (q 7) :: Value.ref (a 8) :: Value.ref (a 9) :: Value.ref (a 10) :: Value.ref (a 11) :: Value.ref (a 12) :: Value.ref (a 13) :: Value.int (q 14) :: Value.long v :: Value.long w :: Value.ref (a 17) :: Value.ref (a 18) :: Value.ref (a 19) :: Value.ref (a 20) :: Value.ref (a 21) :: Value.ref (a 22) :: Value.ref (a 23) :: Value.int (q 24) :: Value.ref (a 25) :: Value.int (q 26) :: Value.ref (a 27) :: Value.int (q 28) :: Value.int (q 29) :: Value.int (q 30) :: Value.int (q 31) :: Value.int (q 32) :: Value.int (q 33) :: Value.ref (a 34) :: Value.ref (a 35) :: Value.ref (a 36) :: Value.ref (a 37) :: Value.ref (a 38) :: Value.ref (a 39) :: Value.ref (a 40) :: Value.int (q 41) :: Value.ref (a 42) :: Value.int (q 43) :: Value.int (q 44) :: []))), ((a 8), .inl (T 0, 24, .inl f8)), ((a 9), .inl (T 0, 24, .inl f9)), ((a 10), .inl (T 0, 24, .inl f10)), ((a 11), .inl (T 0, 24, .inl f11)), ((a 17), .inl (T 0, 24, .inl (upd (upd e9 (xx.toNatClampNeg) z_22) (xx.toNatClampNeg) z_25))), ((a 18), .inl (T 0, 24, .inl (upd p9 (xx.toNatClampNeg) z_27))), ((a 19), .inl (T 0, 24, .inl d9))] hP hD rfl
        refine lv_aload_n hx hb dX13_laysParts_160 rfl (lv_at hl 4 rfl) ?_
        refine va_get (D := D) (ci := 10) (v := .ref (a 19)) (C := RX13) (T := TX13) (N := 45) hx hb hts in_X13_laysParts_X13 hown hE.1 hP 0 rfl rfl 19 (by decide +kernel) (hts (.fieldLink RX13 53 "ClauseBookModel" "deep" "[I") (List.mem_of_getElem? (i := 15) rfl)) (fun _ h9 => h9) rfl dX13_laysParts_161 ?_
        refine lv_iload_n hx hb dX13_laysParts_164 rfl (lv_at hl 3 rfl) ?_
        refine lv_iconst (v := 1) hx hb dX13_laysParts_165 (by decide +kernel) ?_
        refine lv_iload_n hx hb dX13_laysParts_166 rfl (lv_at hl 2 rfl) ?_
        refine lv_if_ne (tgt := 174) hx hb dX13_laysParts_167 (by decide +kernel) (fun _ => ?_) (fun c9 => absurd c9 (by decide +kernel))
        refine lv_iload_n hx hb dX13_laysParts_174 rfl (lv_at hl 2 rfl) ?_
        refine lv_iconst (v := 1) hx hb dX13_laysParts_175 (by decide +kernel) ?_
        refine lv_icmp_ne (tgt := 188) hx hb dX13_laysParts_176 (by decide +kernel) (fun c9 => absurd c9 (by decide +kernel)) (fun _ => ?_)
        refine lv_aload_n hx hb dX13_laysParts_179 rfl (lv_at hl 4 rfl) ?_
        refine va_get (D := D) (ci := 10) (v := .ref (a 19)) (C := RX13) (T := TX13) (N := 45) hx hb hts in_X13_laysParts_X13 hown hE.1 hP 0 rfl rfl 19 (by decide +kernel) (hts (.fieldLink RX13 53 "ClauseBookModel" "deep" "[I") (List.mem_of_getElem? (i := 15) rfl)) (fun _ h9 => h9) rfl dX13_laysParts_180 ?_
        refine lv_iload_n hx hb dX13_laysParts_183 rfl (lv_at hl 1 rfl) ?_
        refine va_iald hx hb hE.1 hP 7 0 rfl rfl (by rw [vp_in_iff]; first | omega | (subst_vars; omega)) dX13_laysParts_184 ?_
        refine lv_topi (fun z_28 ez_28 => ?_)
        refine lv_goto (tgt := 204) hx hb dX13_laysParts_185 (by decide +kernel) ?_
        refine lv_iadd hx hb dX13_laysParts_204 ?_
        refine lv_topi (fun z_29 ez_29 => ?_)
        refine va_iast hx hb hE.1 hP hD hS 7 0 rfl rfl (by rw [vp_in_iff]; first | omega | (subst_vars; omega)) dX13_laysParts_205 (fun H locs hP hD hS => ?_)
        obtain ⟨hP, hD⟩ := wPD [(h0, .inr (10, (Value.int (q 0) :: Value.int (q 1) :: Value.int (q 2) :: Value.int (q 3) :: Value.int (q 4) :: Value.int (q 5) :: Value.int (q 6) :: Value.int (q 7) :: Value.ref (a 8) :: Value.ref (a 9) :: Value.ref (a 10) :: Value.ref (a 11) :: Value.ref (a 12) :: Value.ref (a 13) :: Value.int (q 14) :: Value.long v :: Value.long w :: Value.ref (a 17) :: Value.ref (a 18) :: Value.ref (a 19) :: Value.ref (a 20) :: Value.ref (a 21) :: Value.ref (a 22) :: Value.ref (a 23) :: Value.int (q 24) :: Value.ref (a 25) :: Value.int (q 26) :: Value.ref (a 27) :: Value.int (q 28) :: Value.int (q 29) :: Value.int (q 30) :: Value.int (q 31) :: Value.int (q 32) :: Value.int (q 33) :: Value.ref (a 34) :: Value.ref (a 35) :: Value.ref (a 36) :: Value.ref (a 37) :: Value.ref (a 38) :: Value.ref (a 39) :: Value.ref (a 40) :: Value.int (q 41) :: Value.ref (a 42) :: Value.int (q 43) :: Value.int (q 44) :: []))), ((a 8), .inl (T 0, 24, .inl f8)), ((a 9), .inl (T 0, 24, .inl f9)), ((a 10), .inl (T 0, 24, .inl f10)), ((a 11), .inl (T 0, 24, .inl f11)), ((a 17), .inl (T 0, 24, .inl (upd (upd e9 (xx.toNatClampNeg) z_22) (xx.toNatClampNeg) z_25))), ((a 18), .inl (T 0, 24, .inl (upd p9 (xx.toNatClampNeg) z_27))), ((a 19), .inl (T 0, 24, .inl (upd d9 (xx.toNatClampNeg) z_29)))] hP hD rfl
        obtain ⟨z_30, ez_30⟩ : ∃ y : Int32, y = xx + 1 := ⟨_, rfl⟩
        refine lv_iinc (v := z_30) (lv' := [(1, .int z_30), (4, .int z_21), (3, .int z_20), (2, .int 1), (0, .ref h0)]) hx hb dX13_laysParts_206 hl (k := 3) rfl (by rw [ez_30]; rfl) (by decide +kernel) rfl (fun ls hl => ?_)
        have hz_309 : z_30.toInt = xx.toInt + 1 := by rw [ez_30]; exact inc1 (n := 1000) (by omega) (by decide +kernel)
        refine lv_goto (tgt := 2) hx hb dX13_laysParts_209 (by decide +kernel) ?_
        exact ih (z_30, (upd (upd e9 (xx.toNatClampNeg) z_22) (xx.toNatClampNeg) z_25), (upd p9 (xx.toNatClampNeg) z_27), (upd d9 (xx.toNatClampNeg) z_29)) ls _ _ ⟨lv_sub hl [0, 4] rfl, hP.sub [0, 1, 2, 3, 4, 5, 6, 7] rfl, hD.sub [0, 1, 2, 3, 4, 5, 6, 7] (by decide +kernel) rfl, hS, ⟨(by (try dsimp only); rw [hz_309]; omega), (by (try dsimp only); rw [upd_upd]; exact okE_step (n := 0) hEE (by omega) hz_309 (by omega) (fun hk9 => ⟨(by have h9 := hlz_2 (by omega); have h8 := hcz_2 (by omega); omega), (by have h9 : (f10 xx.toNatClampNeg) = z_20 := ez_20.symm; rw [h9]; omega)⟩) (okR.late hokR)), (by (try dsimp only); rw [upd_upd]; exact mes_lp (okR.Nm hokR) (by omega) hz_309 hME (mesE_rn (by have t9 := tn (x := f8 (xx.toNatClampNeg)) (by omega); omega) (endB_1 (by rw [← ez_2]; omega) ez_22 ez_20) hxz_25) (mesM_r1 (by rw [← ez_2]; omega) ez_27 ez_26 ez_20) (mesD_r1 (by rw [← ez_2]; omega) ez_29 ez_28 ez_20))⟩⟩ (by (try dsimp only); rw [hz_309]; omega)
      · rw [fa_eq] at c_24
        try rw [ti_8] at c_24
        refine lv_aload_n hx hb dX13_laysParts_96 rfl (lv_at hl 4 rfl) ?_
        refine va_get (D := D) (ci := 10) (v := .ref (a 9)) (C := RX13) (T := TX13) (N := 45) hx hb hts in_X13_laysParts_X13 hown hE.1 hP 0 rfl rfl 9 (by decide +kernel) (hts (.fieldLink RX13 32 "ClauseBookModel" "number" "[I") (List.mem_of_getElem? (i := 10) rfl)) (fun _ h9 => h9) rfl dX13_laysParts_97 ?_
        refine lv_iload_n hx hb dX13_laysParts_100 rfl (lv_at hl 3 rfl) ?_
        refine va_iald hx hb hE.1 hP 2 0 rfl rfl (by rw [vp_in_iff]; first | omega | (subst_vars; omega)) dX13_laysParts_101 ?_
        refine lv_topi (fun z_31 ez_31 => ?_)
        refine lv_aload_n hx hb dX13_laysParts_102 rfl (lv_at hl 4 rfl) ?_
        refine va_get (D := D) (ci := 10) (v := .ref (a 17)) (C := RX13) (T := TX13) (N := 45) hx hb hts in_X13_laysParts_X13 hown hE.1 hP 0 rfl rfl 17 (by decide +kernel) (hts (.fieldLink RX13 47 "ClauseBookModel" "end" "[I") (List.mem_of_getElem? (i := 5) rfl)) (fun _ h9 => h9) rfl dX13_laysParts_103 ?_
        refine lv_iload_n hx hb dX13_laysParts_106 rfl (lv_at hl 3 rfl) ?_
        refine va_iald hx hb hE.1 hP 5 0 rfl rfl (by rw [vp_in_iff]; first | omega | (subst_vars; omega)) dX13_laysParts_107 ?_
        refine lv_topi (fun z_32 ez_32 => ?_)
        have hxz_32 : z_32.toInt = (z_22 : Int32).toInt := by rw [ez_32, upd_at]
        refine va_mmin hx hb (hml.trans hl.1.symm) hown (hts (.methodLink RX13 230 Lib.Math.min.name) (List.mem_of_getElem? (i := 11) rfl)) (hts (.static Lib.Math.min.name) (List.mem_of_getElem? (i := 12) rfl)) (hts (.initialized "java/lang/Math") (List.mem_of_getElem? (i := 8) rfl)) (hts (.code Lib.Math.min.name Lib.Math.min.code 2 (some .int)) (List.mem_of_getElem? (i := 13) rfl)) (Nat.le_of_ble_eq_true rfl) (Nat.le_of_ble_eq_true rfl) (Nat.le_of_ble_eq_true rfl) (Nat.le_of_ble_eq_true rfl) dX13_laysParts_108 ?_
        refine lv_topi (fun z_33 ez_33 => ?_)
        have hxz_33 : z_33.toInt ≤ 6 := by
          rw [ez_33]
          split
          · rename_i h
            omega
          · rename_i h
            rw [fa_lt] at h
            omega
        refine lv_goto (tgt := 120) hx hb dX13_laysParts_111 (by decide +kernel) ?_
        refine va_iast hx hb hE.1 hP hD hS 5 0 rfl rfl (by rw [vp_in_iff]; first | omega | (subst_vars; omega)) dX13_laysParts_120 (fun H locs hP hD hS => ?_)
        obtain ⟨hP, hD⟩ := wPD [(h0, .inr (10, (Value.int (q 0) :: Value.int (q 1) :: Value.int (q 2) :: Value.int (q 3) :: Value.int (q 4) :: Value.int (q 5) :: Value.int (q 6) :: Value.int (q 7) :: Value.ref (a 8) :: Value.ref (a 9) :: Value.ref (a 10) :: Value.ref (a 11) :: Value.ref (a 12) :: Value.ref (a 13) :: Value.int (q 14) :: Value.long v :: Value.long w :: Value.ref (a 17) :: Value.ref (a 18) :: Value.ref (a 19) :: Value.ref (a 20) :: Value.ref (a 21) :: Value.ref (a 22) :: Value.ref (a 23) :: Value.int (q 24) :: Value.ref (a 25) :: Value.int (q 26) :: Value.ref (a 27) :: Value.int (q 28) :: Value.int (q 29) :: Value.int (q 30) :: Value.int (q 31) :: Value.int (q 32) :: Value.int (q 33) :: Value.ref (a 34) :: Value.ref (a 35) :: Value.ref (a 36) :: Value.ref (a 37) :: Value.ref (a 38) :: Value.ref (a 39) :: Value.ref (a 40) :: Value.int (q 41) :: Value.ref (a 42) :: Value.int (q 43) :: Value.int (q 44) :: []))), ((a 8), .inl (T 0, 24, .inl f8)), ((a 9), .inl (T 0, 24, .inl f9)), ((a 10), .inl (T 0, 24, .inl f10)), ((a 11), .inl (T 0, 24, .inl f11)), ((a 17), .inl (T 0, 24, .inl (upd (upd e9 (xx.toNatClampNeg) z_22) (xx.toNatClampNeg) z_33))), ((a 18), .inl (T 0, 24, .inl p9)), ((a 19), .inl (T 0, 24, .inl d9))] hP hD rfl
        refine lv_aload_n hx hb dX13_laysParts_121 rfl (lv_at hl 4 rfl) ?_
        refine va_get (D := D) (ci := 10) (v := .ref (a 18)) (C := RX13) (T := TX13) (N := 45) hx hb hts in_X13_laysParts_X13 hown hE.1 hP 0 rfl rfl 18 (by decide +kernel) (hts (.fieldLink RX13 50 "ClauseBookModel" "parts" "[I") (List.mem_of_getElem? (i := 14) rfl)) (fun _ h9 => h9) rfl dX13_laysParts_122 ?_
        refine lv_iload_n hx hb dX13_laysParts_125 rfl (lv_at hl 3 rfl) ?_
        refine lv_iconst (v := 1) hx hb dX13_laysParts_126 (by decide +kernel) ?_
        refine lv_iload_n hx hb dX13_laysParts_127 rfl (lv_at hl 2 rfl) ?_
        refine lv_if_le (tgt := 140) hx hb dX13_laysParts_128 (by decide +kernel) (fun c9 => absurd c9 (by decide +kernel)) (fun _ => ?_)
        refine lv_aload_n hx hb dX13_laysParts_131 rfl (lv_at hl 4 rfl) ?_
        refine va_get (D := D) (ci := 10) (v := .ref (a 18)) (C := RX13) (T := TX13) (N := 45) hx hb hts in_X13_laysParts_X13 hown hE.1 hP 0 rfl rfl 18 (by decide +kernel) (hts (.fieldLink RX13 50 "ClauseBookModel" "parts" "[I") (List.mem_of_getElem? (i := 14) rfl)) (fun _ h9 => h9) rfl dX13_laysParts_132 ?_
        refine lv_iload_n hx hb dX13_laysParts_135 rfl (lv_at hl 1 rfl) ?_
        refine va_iald hx hb hE.1 hP 6 0 rfl rfl (by rw [vp_in_iff]; first | omega | (subst_vars; omega)) dX13_laysParts_136 ?_
        refine lv_topi (fun z_34 ez_34 => ?_)
        refine lv_goto (tgt := 141) hx hb dX13_laysParts_137 (by decide +kernel) ?_
        refine lv_iadd hx hb dX13_laysParts_141 ?_
        refine lv_iload_n hx hb dX13_laysParts_142 rfl (lv_at hl 2 rfl) ?_
        refine lv_iconst (v := 1) hx hb dX13_laysParts_143 (by decide +kernel) ?_
        refine lv_icmp_le (tgt := 157) hx hb dX13_laysParts_144 (by decide +kernel) (fun _ => ?_) (fun c9 => absurd c9 (by decide +kernel))
        refine lv_iconst (v := 0) hx hb dX13_laysParts_157 (by decide +kernel) ?_
        refine lv_iadd hx hb dX13_laysParts_158 ?_
        refine lv_topi (fun z_35 ez_35 => ?_)
        refine va_iast hx hb hE.1 hP hD hS 6 0 rfl rfl (by rw [vp_in_iff]; first | omega | (subst_vars; omega)) dX13_laysParts_159 (fun H locs hP hD hS => ?_)
        obtain ⟨hP, hD⟩ := wPD [(h0, .inr (10, (Value.int (q 0) :: Value.int (q 1) :: Value.int (q 2) :: Value.int (q 3) :: Value.int (q 4) :: Value.int (q 5) :: Value.int (q 6) :: Value.int (q 7) :: Value.ref (a 8) :: Value.ref (a 9) :: Value.ref (a 10) :: Value.ref (a 11) :: Value.ref (a 12) :: Value.ref (a 13) :: Value.int (q 14) :: Value.long v :: Value.long w :: Value.ref (a 17) :: Value.ref (a 18) :: Value.ref (a 19) :: Value.ref (a 20) :: Value.ref (a 21) :: Value.ref (a 22) :: Value.ref (a 23) :: Value.int (q 24) :: Value.ref (a 25) :: Value.int (q 26) :: Value.ref (a 27) :: Value.int (q 28) :: Value.int (q 29) :: Value.int (q 30) :: Value.int (q 31) :: Value.int (q 32) :: Value.int (q 33) :: Value.ref (a 34) :: Value.ref (a 35) :: Value.ref (a 36) :: Value.ref (a 37) :: Value.ref (a 38) :: Value.ref (a 39) :: Value.ref (a 40) :: Value.int (q 41) :: Value.ref (a 42) :: Value.int (q 43) :: Value.int (q 44) :: []))), ((a 8), .inl (T 0, 24, .inl f8)), ((a 9), .inl (T 0, 24, .inl f9)), ((a 10), .inl (T 0, 24, .inl f10)), ((a 11), .inl (T 0, 24, .inl f11)), ((a 17), .inl (T 0, 24, .inl (upd (upd e9 (xx.toNatClampNeg) z_22) (xx.toNatClampNeg) z_33))), ((a 18), .inl (T 0, 24, .inl (upd p9 (xx.toNatClampNeg) z_35))), ((a 19), .inl (T 0, 24, .inl d9))] hP hD rfl
        refine lv_aload_n hx hb dX13_laysParts_160 rfl (lv_at hl 4 rfl) ?_
        refine va_get (D := D) (ci := 10) (v := .ref (a 19)) (C := RX13) (T := TX13) (N := 45) hx hb hts in_X13_laysParts_X13 hown hE.1 hP 0 rfl rfl 19 (by decide +kernel) (hts (.fieldLink RX13 53 "ClauseBookModel" "deep" "[I") (List.mem_of_getElem? (i := 15) rfl)) (fun _ h9 => h9) rfl dX13_laysParts_161 ?_
        refine lv_iload_n hx hb dX13_laysParts_164 rfl (lv_at hl 3 rfl) ?_
        refine lv_iconst (v := 1) hx hb dX13_laysParts_165 (by decide +kernel) ?_
        refine lv_iload_n hx hb dX13_laysParts_166 rfl (lv_at hl 2 rfl) ?_
        refine lv_if_ne (tgt := 174) hx hb dX13_laysParts_167 (by decide +kernel) (fun _ => ?_) (fun c9 => absurd c9 (by decide +kernel))
        refine lv_iload_n hx hb dX13_laysParts_174 rfl (lv_at hl 2 rfl) ?_
        refine lv_iconst (v := 1) hx hb dX13_laysParts_175 (by decide +kernel) ?_
        refine lv_icmp_ne (tgt := 188) hx hb dX13_laysParts_176 (by decide +kernel) (fun c9 => absurd c9 (by decide +kernel)) (fun _ => ?_)
        refine lv_aload_n hx hb dX13_laysParts_179 rfl (lv_at hl 4 rfl) ?_
        refine va_get (D := D) (ci := 10) (v := .ref (a 19)) (C := RX13) (T := TX13) (N := 45) hx hb hts in_X13_laysParts_X13 hown hE.1 hP 0 rfl rfl 19 (by decide +kernel) (hts (.fieldLink RX13 53 "ClauseBookModel" "deep" "[I") (List.mem_of_getElem? (i := 15) rfl)) (fun _ h9 => h9) rfl dX13_laysParts_180 ?_
        refine lv_iload_n hx hb dX13_laysParts_183 rfl (lv_at hl 1 rfl) ?_
        refine va_iald hx hb hE.1 hP 7 0 rfl rfl (by rw [vp_in_iff]; first | omega | (subst_vars; omega)) dX13_laysParts_184 ?_
        refine lv_topi (fun z_36 ez_36 => ?_)
        refine lv_goto (tgt := 204) hx hb dX13_laysParts_185 (by decide +kernel) ?_
        refine lv_iadd hx hb dX13_laysParts_204 ?_
        refine lv_topi (fun z_37 ez_37 => ?_)
        refine va_iast hx hb hE.1 hP hD hS 7 0 rfl rfl (by rw [vp_in_iff]; first | omega | (subst_vars; omega)) dX13_laysParts_205 (fun H locs hP hD hS => ?_)
        obtain ⟨hP, hD⟩ := wPD [(h0, .inr (10, (Value.int (q 0) :: Value.int (q 1) :: Value.int (q 2) :: Value.int (q 3) :: Value.int (q 4) :: Value.int (q 5) :: Value.int (q 6) :: Value.int (q 7) :: Value.ref (a 8) :: Value.ref (a 9) :: Value.ref (a 10) :: Value.ref (a 11) :: Value.ref (a 12) :: Value.ref (a 13) :: Value.int (q 14) :: Value.long v :: Value.long w :: Value.ref (a 17) :: Value.ref (a 18) :: Value.ref (a 19) :: Value.ref (a 20) :: Value.ref (a 21) :: Value.ref (a 22) :: Value.ref (a 23) :: Value.int (q 24) :: Value.ref (a 25) :: Value.int (q 26) :: Value.ref (a 27) :: Value.int (q 28) :: Value.int (q 29) :: Value.int (q 30) :: Value.int (q 31) :: Value.int (q 32) :: Value.int (q 33) :: Value.ref (a 34) :: Value.ref (a 35) :: Value.ref (a 36) :: Value.ref (a 37) :: Value.ref (a 38) :: Value.ref (a 39) :: Value.ref (a 40) :: Value.int (q 41) :: Value.ref (a 42) :: Value.int (q 43) :: Value.int (q 44) :: []))), ((a 8), .inl (T 0, 24, .inl f8)), ((a 9), .inl (T 0, 24, .inl f9)), ((a 10), .inl (T 0, 24, .inl f10)), ((a 11), .inl (T 0, 24, .inl f11)), ((a 17), .inl (T 0, 24, .inl (upd (upd e9 (xx.toNatClampNeg) z_22) (xx.toNatClampNeg) z_33))), ((a 18), .inl (T 0, 24, .inl (upd p9 (xx.toNatClampNeg) z_35))), ((a 19), .inl (T 0, 24, .inl (upd d9 (xx.toNatClampNeg) z_37)))] hP hD rfl
        obtain ⟨z_38, ez_38⟩ : ∃ y : Int32, y = xx + 1 := ⟨_, rfl⟩
        refine lv_iinc (v := z_38) (lv' := [(1, .int z_38), (4, .int z_21), (3, .int z_20), (2, .int 1), (0, .ref h0)]) hx hb dX13_laysParts_206 hl (k := 3) rfl (by rw [ez_38]; rfl) (by decide +kernel) rfl (fun ls hl => ?_)
        have hz_389 : z_38.toInt = xx.toInt + 1 := by rw [ez_38]; exact inc1 (n := 1000) (by omega) (by decide +kernel)
        refine lv_goto (tgt := 2) hx hb dX13_laysParts_209 (by decide +kernel) ?_
        exact ih (z_38, (upd (upd e9 (xx.toNatClampNeg) z_22) (xx.toNatClampNeg) z_33), (upd p9 (xx.toNatClampNeg) z_35), (upd d9 (xx.toNatClampNeg) z_37)) ls _ _ ⟨lv_sub hl [0, 4] rfl, hP.sub [0, 1, 2, 3, 4, 5, 6, 7] rfl, hD.sub [0, 1, 2, 3, 4, 5, 6, 7] (by decide +kernel) rfl, hS, ⟨(by (try dsimp only); rw [hz_389]; omega), (by (try dsimp only); rw [upd_upd]; exact okE_step (n := 0) hEE (by omega) hz_389 (by omega) (fun hk9 => by exfalso; omega) (okR.late hokR)), (by (try dsimp only); rw [upd_upd]; exact mes_lp (okR.Nm hokR) (by omega) hz_389 hME (mesE_r8 (by have t9 := tn (x := f8 (xx.toNatClampNeg)) (by omega); omega) (endB_1 (by rw [← ez_2]; omega) ez_22 ez_20) hxz_32 ez_33 ez_31) (mesM_r1 (by rw [← ez_2]; omega) ez_35 ez_34 ez_20) (mesD_r1 (by rw [← ez_2]; omega) ez_37 ez_36 ez_20))⟩⟩ (by (try dsimp only); rw [hz_389]; omega)
    · have h9t := ti_2
      refine lv_istore_n (lv' := [(2, .int 2), (1, .int xx), (0, .ref h0)]) hx hb dX13_laysParts_19 rfl hl (by decide +kernel) rfl (fun ls hl => ?_)
      refine lv_aload_n hx hb dX13_laysParts_20 rfl (lv_at hl 2 rfl) ?_
      refine va_get (D := D) (ci := 10) (v := .ref (a 10)) (C := RX13) (T := TX13) (N := 45) hx hb hts in_X13_laysParts_X13 hown hE.1 hP 0 rfl rfl 10 (by decide +kernel) (hts (.fieldLink RX13 35 "ClauseBookModel" "one" "[I") (List.mem_of_getElem? (i := 3) rfl)) (fun _ h9 => h9) rfl dX13_laysParts_21 ?_
      refine lv_iload_n hx hb dX13_laysParts_24 rfl (lv_at hl 1 rfl) ?_
      refine va_iald hx hb hE.1 hP 3 0 rfl rfl (by rw [vp_in_iff]; first | omega | (subst_vars; omega)) dX13_laysParts_25 ?_
      refine lv_topi (fun z_39 ez_39 => ?_)
      have htz_39 : z_39.toInt = (f10 (xx.toNatClampNeg)).toInt := by rw [ez_39]
      refine lv_istore_n (lv' := [(3, .int z_39), (2, .int 2), (1, .int xx), (0, .ref h0)]) hx hb dX13_laysParts_26 rfl hl (by decide +kernel) rfl (fun ls hl => ?_)
      refine lv_aload_n hx hb dX13_laysParts_27 rfl (lv_at hl 3 rfl) ?_
      refine va_get (D := D) (ci := 10) (v := .ref (a 11)) (C := RX13) (T := TX13) (N := 45) hx hb hts in_X13_laysParts_X13 hown hE.1 hP 0 rfl rfl 11 (by decide +kernel) (hts (.fieldLink RX13 38 "ClauseBookModel" "two" "[I") (List.mem_of_getElem? (i := 4) rfl)) (fun _ h9 => h9) rfl dX13_laysParts_28 ?_
      refine lv_iload_n hx hb dX13_laysParts_31 rfl (lv_at hl 2 rfl) ?_
      refine va_iald hx hb hE.1 hP 4 0 rfl rfl (by rw [vp_in_iff]; first | omega | (subst_vars; omega)) dX13_laysParts_32 ?_
      refine lv_topi (fun z_40 ez_40 => ?_)
      have htz_40 : z_40.toInt = (f11 (xx.toNatClampNeg)).toInt := by rw [ez_40]
      refine lv_istore (lv' := [(4, .int z_40), (3, .int z_39), (2, .int 2), (1, .int xx), (0, .ref h0)]) hx hb dX13_laysParts_33 hl (by decide +kernel) rfl (fun ls hl => ?_)
      refine lv_aload_n hx hb dX13_laysParts_35 rfl (lv_at hl 4 rfl) ?_
      refine va_get (D := D) (ci := 10) (v := .ref (a 17)) (C := RX13) (T := TX13) (N := 45) hx hb hts in_X13_laysParts_X13 hown hE.1 hP 0 rfl rfl 17 (by decide +kernel) (hts (.fieldLink RX13 47 "ClauseBookModel" "end" "[I") (List.mem_of_getElem? (i := 5) rfl)) (fun _ h9 => h9) rfl dX13_laysParts_36 ?_
      refine lv_iload_n hx hb dX13_laysParts_39 rfl (lv_at hl 3 rfl) ?_
      refine lv_iload_n hx hb dX13_laysParts_40 rfl (lv_at hl 2 rfl) ?_
      refine lv_if_ne (tgt := 49) hx hb dX13_laysParts_41 (by decide +kernel) (fun _ => ?_) (fun c9 => absurd c9 (by decide +kernel))
      refine lv_iload_n hx hb dX13_laysParts_49 rfl (lv_at hl 2 rfl) ?_
      refine lv_iconst (v := 1) hx hb dX13_laysParts_50 (by decide +kernel) ?_
      refine lv_icmp_ne (tgt := 63) hx hb dX13_laysParts_51 (by decide +kernel) (fun _ => ?_) (fun c9 => absurd c9 (by decide +kernel))
      refine lv_aload_n hx hb dX13_laysParts_63 rfl (lv_at hl 4 rfl) ?_
      refine va_get (D := D) (ci := 10) (v := .ref (a 17)) (C := RX13) (T := TX13) (N := 45) hx hb hts in_X13_laysParts_X13 hown hE.1 hP 0 rfl rfl 17 (by decide +kernel) (hts (.fieldLink RX13 47 "ClauseBookModel" "end" "[I") (List.mem_of_getElem? (i := 5) rfl)) (fun _ h9 => h9) rfl dX13_laysParts_64 ?_
      refine lv_iload_n hx hb dX13_laysParts_67 rfl (lv_at hl 1 rfl) ?_
      refine va_iald hx hb hE.1 hP 5 0 rfl rfl (by rw [vp_in_iff]; first | omega | (subst_vars; omega)) dX13_laysParts_68 ?_
      refine lv_topi (fun z_41 ez_41 => ?_)
      have h6z_41 : z_41.toInt ≤ 6 := by
        rw [ez_41]
        have h9 := tn (x := z_39) (by omega)
        exact (hEE _ (by omega)).1
      have hvz_41 : z_41.toInt = (e9 (z_39.toNatClampNeg)).toInt := by rw [ez_41]
      refine lv_aload_n hx hb dX13_laysParts_69 rfl (lv_at hl 4 rfl) ?_
      refine va_get (D := D) (ci := 10) (v := .ref (a 17)) (C := RX13) (T := TX13) (N := 45) hx hb hts in_X13_laysParts_X13 hown hE.1 hP 0 rfl rfl 17 (by decide +kernel) (hts (.fieldLink RX13 47 "ClauseBookModel" "end" "[I") (List.mem_of_getElem? (i := 5) rfl)) (fun _ h9 => h9) rfl dX13_laysParts_70 ?_
      refine lv_iload hx hb dX13_laysParts_73 (lv_at hl 0 rfl) ?_
      refine va_iald hx hb hE.1 hP 5 0 rfl rfl (by rw [vp_in_iff]; first | omega | (subst_vars; omega)) dX13_laysParts_75 ?_
      refine lv_topi (fun z_42 ez_42 => ?_)
      have h6z_42 : z_42.toInt ≤ 6 := by
        rw [ez_42]
        have h9 := tn (x := z_40) (by omega)
        exact (hEE _ (by omega)).1
      refine va_mmax hx hb (hml.trans hl.1.symm) hown (hts (.methodLink RX13 227 Lib.Math.max.name) (List.mem_of_getElem? (i := 6) rfl)) (hts (.static Lib.Math.max.name) (List.mem_of_getElem? (i := 7) rfl)) (hts (.initialized "java/lang/Math") (List.mem_of_getElem? (i := 8) rfl)) (hts (.code Lib.Math.max.name Lib.Math.max.code 2 (some .int)) (List.mem_of_getElem? (i := 9) rfl)) (Nat.le_of_ble_eq_true rfl) (Nat.le_of_ble_eq_true rfl) (Nat.le_of_ble_eq_true rfl) (Nat.le_of_ble_eq_true rfl) dX13_laysParts_76 ?_
      refine lv_topi (fun z_43 ez_43 => ?_)
      have h6z_43 : z_43.toInt ≤ 6 := by
        rw [ez_43]
        split
        · omega
        · omega
      refine va_iast hx hb hE.1 hP hD hS 5 0 rfl rfl (by rw [vp_in_iff]; first | omega | (subst_vars; omega)) dX13_laysParts_79 (fun H locs hP hD hS => ?_)
      obtain ⟨hP, hD⟩ := wPD [(h0, .inr (10, (Value.int (q 0) :: Value.int (q 1) :: Value.int (q 2) :: Value.int (q 3) :: Value.int (q 4) :: Value.int (q 5) :: Value.int (q 6) :: Value.int (q 7) :: Value.ref (a 8) :: Value.ref (a 9) :: Value.ref (a 10) :: Value.ref (a 11) :: Value.ref (a 12) :: Value.ref (a 13) :: Value.int (q 14) :: Value.long v :: Value.long w :: Value.ref (a 17) :: Value.ref (a 18) :: Value.ref (a 19) :: Value.ref (a 20) :: Value.ref (a 21) :: Value.ref (a 22) :: Value.ref (a 23) :: Value.int (q 24) :: Value.ref (a 25) :: Value.int (q 26) :: Value.ref (a 27) :: Value.int (q 28) :: Value.int (q 29) :: Value.int (q 30) :: Value.int (q 31) :: Value.int (q 32) :: Value.int (q 33) :: Value.ref (a 34) :: Value.ref (a 35) :: Value.ref (a 36) :: Value.ref (a 37) :: Value.ref (a 38) :: Value.ref (a 39) :: Value.ref (a 40) :: Value.int (q 41) :: Value.ref (a 42) :: Value.int (q 43) :: Value.int (q 44) :: []))), ((a 8), .inl (T 0, 24, .inl f8)), ((a 9), .inl (T 0, 24, .inl f9)), ((a 10), .inl (T 0, 24, .inl f10)), ((a 11), .inl (T 0, 24, .inl f11)), ((a 17), .inl (T 0, 24, .inl (upd e9 (xx.toNatClampNeg) z_43))), ((a 18), .inl (T 0, 24, .inl p9)), ((a 19), .inl (T 0, 24, .inl d9))] hP hD rfl
      refine lv_aload_n hx hb dX13_laysParts_80 rfl (lv_at hl 4 rfl) ?_
      refine va_get (D := D) (ci := 10) (v := .ref (a 17)) (C := RX13) (T := TX13) (N := 45) hx hb hts in_X13_laysParts_X13 hown hE.1 hP 0 rfl rfl 17 (by decide +kernel) (hts (.fieldLink RX13 47 "ClauseBookModel" "end" "[I") (List.mem_of_getElem? (i := 5) rfl)) (fun _ h9 => h9) rfl dX13_laysParts_81 ?_
      refine lv_iload_n hx hb dX13_laysParts_84 rfl (lv_at hl 3 rfl) ?_
      refine lv_aload_n hx hb dX13_laysParts_85 rfl (lv_at hl 4 rfl) ?_
      refine va_get (D := D) (ci := 10) (v := .ref (a 8)) (C := RX13) (T := TX13) (N := 45) hx hb hts in_X13_laysParts_X13 hown hE.1 hP 0 rfl rfl 8 (by decide +kernel) (hts (.fieldLink RX13 28 "ClauseBookModel" "kind" "[I") (List.mem_of_getElem? (i := 2) rfl)) (fun _ h9 => h9) rfl dX13_laysParts_86 ?_
      refine lv_iload_n hx hb dX13_laysParts_89 rfl (lv_at hl 3 rfl) ?_
      refine va_iald hx hb hE.1 hP 1 0 rfl rfl (by rw [vp_in_iff]; first | omega | (subst_vars; omega)) dX13_laysParts_90 ?_
      refine lv_topi (fun z_44 ez_44 => ?_)
      have htz_44 : z_44.toInt = (f8 (xx.toNatClampNeg)).toInt := by rw [ez_44]
      refine lv_bipush (v := 8) hx hb dX13_laysParts_91 (by decide +kernel) ?_
      refine lv_icmp_ne (tgt := 114) hx hb dX13_laysParts_93 (by decide +kernel) (fun c_45 => ?_) (fun c_45 => ?_)
      · rw [fa_eq] at c_45
        try rw [ti_8] at c_45
        refine lv_aload_n hx hb dX13_laysParts_114 rfl (lv_at hl 4 rfl) ?_
        refine va_get (D := D) (ci := 10) (v := .ref (a 17)) (C := RX13) (T := TX13) (N := 45) hx hb hts in_X13_laysParts_X13 hown hE.1 hP 0 rfl rfl 17 (by decide +kernel) (hts (.fieldLink RX13 47 "ClauseBookModel" "end" "[I") (List.mem_of_getElem? (i := 5) rfl)) (fun _ h9 => h9) rfl dX13_laysParts_115 ?_
        refine lv_iload_n hx hb dX13_laysParts_118 rfl (lv_at hl 3 rfl) ?_
        refine va_iald hx hb hE.1 hP 5 0 rfl rfl (by rw [vp_in_iff]; first | omega | (subst_vars; omega)) dX13_laysParts_119 ?_
        refine lv_topi (fun z_46 ez_46 => ?_)
        have hxz_46 : z_46.toInt = (z_43 : Int32).toInt := by rw [ez_46, upd_at]
        refine va_iast hx hb hE.1 hP hD hS 5 0 rfl rfl (by rw [vp_in_iff]; first | omega | (subst_vars; omega)) dX13_laysParts_120 (fun H locs hP hD hS => ?_)
        obtain ⟨hP, hD⟩ := wPD [(h0, .inr (10, (Value.int (q 0) :: Value.int (q 1) :: Value.int (q 2) :: Value.int (q 3) :: Value.int (q 4) :: Value.int (q 5) :: Value.int (q 6) :: Value.int (q 7) :: Value.ref (a 8) :: Value.ref (a 9) :: Value.ref (a 10) :: Value.ref (a 11) :: Value.ref (a 12) :: Value.ref (a 13) :: Value.int (q 14) :: Value.long v :: Value.long w :: Value.ref (a 17) :: Value.ref (a 18) :: Value.ref (a 19) :: Value.ref (a 20) :: Value.ref (a 21) :: Value.ref (a 22) :: Value.ref (a 23) :: Value.int (q 24) :: Value.ref (a 25) :: Value.int (q 26) :: Value.ref (a 27) :: Value.int (q 28) :: Value.int (q 29) :: Value.int (q 30) :: Value.int (q 31) :: Value.int (q 32) :: Value.int (q 33) :: Value.ref (a 34) :: Value.ref (a 35) :: Value.ref (a 36) :: Value.ref (a 37) :: Value.ref (a 38) :: Value.ref (a 39) :: Value.ref (a 40) :: Value.int (q 41) :: Value.ref (a 42) :: Value.int (q 43) :: Value.int (q 44) :: []))), ((a 8), .inl (T 0, 24, .inl f8)), ((a 9), .inl (T 0, 24, .inl f9)), ((a 10), .inl (T 0, 24, .inl f10)), ((a 11), .inl (T 0, 24, .inl f11)), ((a 17), .inl (T 0, 24, .inl (upd (upd e9 (xx.toNatClampNeg) z_43) (xx.toNatClampNeg) z_46))), ((a 18), .inl (T 0, 24, .inl p9)), ((a 19), .inl (T 0, 24, .inl d9))] hP hD rfl
        refine lv_aload_n hx hb dX13_laysParts_121 rfl (lv_at hl 4 rfl) ?_
        refine va_get (D := D) (ci := 10) (v := .ref (a 18)) (C := RX13) (T := TX13) (N := 45) hx hb hts in_X13_laysParts_X13 hown hE.1 hP 0 rfl rfl 18 (by decide +kernel) (hts (.fieldLink RX13 50 "ClauseBookModel" "parts" "[I") (List.mem_of_getElem? (i := 14) rfl)) (fun _ h9 => h9) rfl dX13_laysParts_122 ?_
        refine lv_iload_n hx hb dX13_laysParts_125 rfl (lv_at hl 3 rfl) ?_
        refine lv_iconst (v := 1) hx hb dX13_laysParts_126 (by decide +kernel) ?_
        refine lv_iload_n hx hb dX13_laysParts_127 rfl (lv_at hl 2 rfl) ?_
        refine lv_if_le (tgt := 140) hx hb dX13_laysParts_128 (by decide +kernel) (fun c9 => absurd c9 (by decide +kernel)) (fun _ => ?_)
        refine lv_aload_n hx hb dX13_laysParts_131 rfl (lv_at hl 4 rfl) ?_
        refine va_get (D := D) (ci := 10) (v := .ref (a 18)) (C := RX13) (T := TX13) (N := 45) hx hb hts in_X13_laysParts_X13 hown hE.1 hP 0 rfl rfl 18 (by decide +kernel) (hts (.fieldLink RX13 50 "ClauseBookModel" "parts" "[I") (List.mem_of_getElem? (i := 14) rfl)) (fun _ h9 => h9) rfl dX13_laysParts_132 ?_
        refine lv_iload_n hx hb dX13_laysParts_135 rfl (lv_at hl 1 rfl) ?_
        refine va_iald hx hb hE.1 hP 6 0 rfl rfl (by rw [vp_in_iff]; first | omega | (subst_vars; omega)) dX13_laysParts_136 ?_
        refine lv_topi (fun z_47 ez_47 => ?_)
        refine lv_goto (tgt := 141) hx hb dX13_laysParts_137 (by decide +kernel) ?_
        refine lv_iadd hx hb dX13_laysParts_141 ?_
        refine lv_iload_n hx hb dX13_laysParts_142 rfl (lv_at hl 2 rfl) ?_
        refine lv_iconst (v := 1) hx hb dX13_laysParts_143 (by decide +kernel) ?_
        refine lv_icmp_le (tgt := 157) hx hb dX13_laysParts_144 (by decide +kernel) (fun c9 => absurd c9 (by decide +kernel)) (fun _ => ?_)
        refine lv_aload_n hx hb dX13_laysParts_147 rfl (lv_at hl 4 rfl) ?_
        refine va_get (D := D) (ci := 10) (v := .ref (a 18)) (C := RX13) (T := TX13) (N := 45) hx hb hts in_X13_laysParts_X13 hown hE.1 hP 0 rfl rfl 18 (by decide +kernel) (hts (.fieldLink RX13 50 "ClauseBookModel" "parts" "[I") (List.mem_of_getElem? (i := 14) rfl)) (fun _ h9 => h9) rfl dX13_laysParts_148 ?_
        refine lv_iload hx hb dX13_laysParts_151 (lv_at hl 0 rfl) ?_
        refine va_iald hx hb hE.1 hP 6 0 rfl rfl (by rw [vp_in_iff]; first | omega | (subst_vars; omega)) dX13_laysParts_153 ?_
        refine lv_topi (fun z_48 ez_48 => ?_)
        refine lv_goto (tgt := 158) hx hb dX13_laysParts_154 (by decide +kernel) ?_
        refine lv_iadd hx hb dX13_laysParts_158 ?_
        refine lv_topi (fun z_49 ez_49 => ?_)
        refine va_iast hx hb hE.1 hP hD hS 6 0 rfl rfl (by rw [vp_in_iff]; first | omega | (subst_vars; omega)) dX13_laysParts_159 (fun H locs hP hD hS => ?_)
        obtain ⟨hP, hD⟩ := wPD [(h0, .inr (10, (Value.int (q 0) :: Value.int (q 1) :: Value.int (q 2) :: Value.int (q 3) :: Value.int (q 4) :: Value.int (q 5) :: Value.int (q 6) :: Value.int (q 7) :: Value.ref (a 8) :: Value.ref (a 9) :: Value.ref (a 10) :: Value.ref (a 11) :: Value.ref (a 12) :: Value.ref (a 13) :: Value.int (q 14) :: Value.long v :: Value.long w :: Value.ref (a 17) :: Value.ref (a 18) :: Value.ref (a 19) :: Value.ref (a 20) :: Value.ref (a 21) :: Value.ref (a 22) :: Value.ref (a 23) :: Value.int (q 24) :: Value.ref (a 25) :: Value.int (q 26) :: Value.ref (a 27) :: Value.int (q 28) :: Value.int (q 29) :: Value.int (q 30) :: Value.int (q 31) :: Value.int (q 32) :: Value.int (q 33) :: Value.ref (a 34) :: Value.ref (a 35) :: Value.ref (a 36) :: Value.ref (a 37) :: Value.ref (a 38) :: Value.ref (a 39) :: Value.ref (a 40) :: Value.int (q 41) :: Value.ref (a 42) :: Value.int (q 43) :: Value.int (q 44) :: []))), ((a 8), .inl (T 0, 24, .inl f8)), ((a 9), .inl (T 0, 24, .inl f9)), ((a 10), .inl (T 0, 24, .inl f10)), ((a 11), .inl (T 0, 24, .inl f11)), ((a 17), .inl (T 0, 24, .inl (upd (upd e9 (xx.toNatClampNeg) z_43) (xx.toNatClampNeg) z_46))), ((a 18), .inl (T 0, 24, .inl (upd p9 (xx.toNatClampNeg) z_49))), ((a 19), .inl (T 0, 24, .inl d9))] hP hD rfl
        refine lv_aload_n hx hb dX13_laysParts_160 rfl (lv_at hl 4 rfl) ?_
        refine va_get (D := D) (ci := 10) (v := .ref (a 19)) (C := RX13) (T := TX13) (N := 45) hx hb hts in_X13_laysParts_X13 hown hE.1 hP 0 rfl rfl 19 (by decide +kernel) (hts (.fieldLink RX13 53 "ClauseBookModel" "deep" "[I") (List.mem_of_getElem? (i := 15) rfl)) (fun _ h9 => h9) rfl dX13_laysParts_161 ?_
        refine lv_iload_n hx hb dX13_laysParts_164 rfl (lv_at hl 3 rfl) ?_
        refine lv_iconst (v := 1) hx hb dX13_laysParts_165 (by decide +kernel) ?_
        refine lv_iload_n hx hb dX13_laysParts_166 rfl (lv_at hl 2 rfl) ?_
        refine lv_if_ne (tgt := 174) hx hb dX13_laysParts_167 (by decide +kernel) (fun _ => ?_) (fun c9 => absurd c9 (by decide +kernel))
        refine lv_iload_n hx hb dX13_laysParts_174 rfl (lv_at hl 2 rfl) ?_
        refine lv_iconst (v := 1) hx hb dX13_laysParts_175 (by decide +kernel) ?_
        refine lv_icmp_ne (tgt := 188) hx hb dX13_laysParts_176 (by decide +kernel) (fun _ => ?_) (fun c9 => absurd c9 (by decide +kernel))
        refine lv_aload_n hx hb dX13_laysParts_188 rfl (lv_at hl 4 rfl) ?_
        refine va_get (D := D) (ci := 10) (v := .ref (a 19)) (C := RX13) (T := TX13) (N := 45) hx hb hts in_X13_laysParts_X13 hown hE.1 hP 0 rfl rfl 19 (by decide +kernel) (hts (.fieldLink RX13 53 "ClauseBookModel" "deep" "[I") (List.mem_of_getElem? (i := 15) rfl)) (fun _ h9 => h9) rfl dX13_laysParts_189 ?_
        refine lv_iload_n hx hb dX13_laysParts_192 rfl (lv_at hl 1 rfl) ?_
        refine va_iald hx hb hE.1 hP 7 0 rfl rfl (by rw [vp_in_iff]; first | omega | (subst_vars; omega)) dX13_laysParts_193 ?_
        refine lv_topi (fun z_50 ez_50 => ?_)
        refine lv_aload_n hx hb dX13_laysParts_194 rfl (lv_at hl 4 rfl) ?_
        refine va_get (D := D) (ci := 10) (v := .ref (a 19)) (C := RX13) (T := TX13) (N := 45) hx hb hts in_X13_laysParts_X13 hown hE.1 hP 0 rfl rfl 19 (by decide +kernel) (hts (.fieldLink RX13 53 "ClauseBookModel" "deep" "[I") (List.mem_of_getElem? (i := 15) rfl)) (fun _ h9 => h9) rfl dX13_laysParts_195 ?_
        refine lv_iload hx hb dX13_laysParts_198 (lv_at hl 0 rfl) ?_
        refine va_iald hx hb hE.1 hP 7 0 rfl rfl (by rw [vp_in_iff]; first | omega | (subst_vars; omega)) dX13_laysParts_200 ?_
        refine lv_topi (fun z_51 ez_51 => ?_)
        refine va_mmax hx hb (hml.trans hl.1.symm) hown (hts (.methodLink RX13 227 Lib.Math.max.name) (List.mem_of_getElem? (i := 6) rfl)) (hts (.static Lib.Math.max.name) (List.mem_of_getElem? (i := 7) rfl)) (hts (.initialized "java/lang/Math") (List.mem_of_getElem? (i := 8) rfl)) (hts (.code Lib.Math.max.name Lib.Math.max.code 2 (some .int)) (List.mem_of_getElem? (i := 9) rfl)) (Nat.le_of_ble_eq_true rfl) (Nat.le_of_ble_eq_true rfl) (Nat.le_of_ble_eq_true rfl) (Nat.le_of_ble_eq_true rfl) dX13_laysParts_201 ?_
        refine lv_topi (fun z_52 ez_52 => ?_)
        refine lv_iadd hx hb dX13_laysParts_204 ?_
        refine lv_topi (fun z_53 ez_53 => ?_)
        refine va_iast hx hb hE.1 hP hD hS 7 0 rfl rfl (by rw [vp_in_iff]; first | omega | (subst_vars; omega)) dX13_laysParts_205 (fun H locs hP hD hS => ?_)
        obtain ⟨hP, hD⟩ := wPD [(h0, .inr (10, (Value.int (q 0) :: Value.int (q 1) :: Value.int (q 2) :: Value.int (q 3) :: Value.int (q 4) :: Value.int (q 5) :: Value.int (q 6) :: Value.int (q 7) :: Value.ref (a 8) :: Value.ref (a 9) :: Value.ref (a 10) :: Value.ref (a 11) :: Value.ref (a 12) :: Value.ref (a 13) :: Value.int (q 14) :: Value.long v :: Value.long w :: Value.ref (a 17) :: Value.ref (a 18) :: Value.ref (a 19) :: Value.ref (a 20) :: Value.ref (a 21) :: Value.ref (a 22) :: Value.ref (a 23) :: Value.int (q 24) :: Value.ref (a 25) :: Value.int (q 26) :: Value.ref (a 27) :: Value.int (q 28) :: Value.int (q 29) :: Value.int (q 30) :: Value.int (q 31) :: Value.int (q 32) :: Value.int (q 33) :: Value.ref (a 34) :: Value.ref (a 35) :: Value.ref (a 36) :: Value.ref (a 37) :: Value.ref (a 38) :: Value.ref (a 39) :: Value.ref (a 40) :: Value.int (q 41) :: Value.ref (a 42) :: Value.int (q 43) :: Value.int (q 44) :: []))), ((a 8), .inl (T 0, 24, .inl f8)), ((a 9), .inl (T 0, 24, .inl f9)), ((a 10), .inl (T 0, 24, .inl f10)), ((a 11), .inl (T 0, 24, .inl f11)), ((a 17), .inl (T 0, 24, .inl (upd (upd e9 (xx.toNatClampNeg) z_43) (xx.toNatClampNeg) z_46))), ((a 18), .inl (T 0, 24, .inl (upd p9 (xx.toNatClampNeg) z_49))), ((a 19), .inl (T 0, 24, .inl (upd d9 (xx.toNatClampNeg) z_53)))] hP hD rfl
        obtain ⟨z_54, ez_54⟩ : ∃ y : Int32, y = xx + 1 := ⟨_, rfl⟩
        refine lv_iinc (v := z_54) (lv' := [(1, .int z_54), (4, .int z_40), (3, .int z_39), (2, .int 2), (0, .ref h0)]) hx hb dX13_laysParts_206 hl (k := 3) rfl (by rw [ez_54]; rfl) (by decide +kernel) rfl (fun ls hl => ?_)
        have hz_549 : z_54.toInt = xx.toInt + 1 := by rw [ez_54]; exact inc1 (n := 1000) (by omega) (by decide +kernel)
        refine lv_goto (tgt := 2) hx hb dX13_laysParts_209 (by decide +kernel) ?_
        exact ih (z_54, (upd (upd e9 (xx.toNatClampNeg) z_43) (xx.toNatClampNeg) z_46), (upd p9 (xx.toNatClampNeg) z_49), (upd d9 (xx.toNatClampNeg) z_53)) ls _ _ ⟨lv_sub hl [0, 4] rfl, hP.sub [0, 1, 2, 3, 4, 5, 6, 7] rfl, hD.sub [0, 1, 2, 3, 4, 5, 6, 7] (by decide +kernel) rfl, hS, ⟨(by (try dsimp only); rw [hz_549]; omega), (by (try dsimp only); rw [upd_upd]; exact okE_step (n := 0) hEE (by omega) hz_549 (by omega) (fun hk9 => by exfalso; have h9 := hlz_2 (by omega); omega) (okR.late hokR)), (by (try dsimp only); rw [upd_upd]; exact mes_lp (okR.Nm hokR) (by omega) hz_549 hME (mesE_rn (by have t9 := tn (x := f8 (xx.toNatClampNeg)) (by omega); omega) (endB_2 (by rw [← ez_2]; omega) ez_43 ez_41 ez_39 ez_42 ez_40) hxz_46) (mesM_r2 (by rw [← ez_2]; omega) ez_49 ez_47 ez_39 ez_48 ez_40) (mesD_r2 (by rw [← ez_2]; omega) ez_53 ez_52 ez_50 ez_39 ez_51 ez_40))⟩⟩ (by (try dsimp only); rw [hz_549]; omega)
      · rw [fa_eq] at c_45
        try rw [ti_8] at c_45
        refine lv_aload_n hx hb dX13_laysParts_96 rfl (lv_at hl 4 rfl) ?_
        refine va_get (D := D) (ci := 10) (v := .ref (a 9)) (C := RX13) (T := TX13) (N := 45) hx hb hts in_X13_laysParts_X13 hown hE.1 hP 0 rfl rfl 9 (by decide +kernel) (hts (.fieldLink RX13 32 "ClauseBookModel" "number" "[I") (List.mem_of_getElem? (i := 10) rfl)) (fun _ h9 => h9) rfl dX13_laysParts_97 ?_
        refine lv_iload_n hx hb dX13_laysParts_100 rfl (lv_at hl 3 rfl) ?_
        refine va_iald hx hb hE.1 hP 2 0 rfl rfl (by rw [vp_in_iff]; first | omega | (subst_vars; omega)) dX13_laysParts_101 ?_
        refine lv_topi (fun z_55 ez_55 => ?_)
        refine lv_aload_n hx hb dX13_laysParts_102 rfl (lv_at hl 4 rfl) ?_
        refine va_get (D := D) (ci := 10) (v := .ref (a 17)) (C := RX13) (T := TX13) (N := 45) hx hb hts in_X13_laysParts_X13 hown hE.1 hP 0 rfl rfl 17 (by decide +kernel) (hts (.fieldLink RX13 47 "ClauseBookModel" "end" "[I") (List.mem_of_getElem? (i := 5) rfl)) (fun _ h9 => h9) rfl dX13_laysParts_103 ?_
        refine lv_iload_n hx hb dX13_laysParts_106 rfl (lv_at hl 3 rfl) ?_
        refine va_iald hx hb hE.1 hP 5 0 rfl rfl (by rw [vp_in_iff]; first | omega | (subst_vars; omega)) dX13_laysParts_107 ?_
        refine lv_topi (fun z_56 ez_56 => ?_)
        have hxz_56 : z_56.toInt = (z_43 : Int32).toInt := by rw [ez_56, upd_at]
        refine va_mmin hx hb (hml.trans hl.1.symm) hown (hts (.methodLink RX13 230 Lib.Math.min.name) (List.mem_of_getElem? (i := 11) rfl)) (hts (.static Lib.Math.min.name) (List.mem_of_getElem? (i := 12) rfl)) (hts (.initialized "java/lang/Math") (List.mem_of_getElem? (i := 8) rfl)) (hts (.code Lib.Math.min.name Lib.Math.min.code 2 (some .int)) (List.mem_of_getElem? (i := 13) rfl)) (Nat.le_of_ble_eq_true rfl) (Nat.le_of_ble_eq_true rfl) (Nat.le_of_ble_eq_true rfl) (Nat.le_of_ble_eq_true rfl) dX13_laysParts_108 ?_
        refine lv_topi (fun z_57 ez_57 => ?_)
        have hxz_57 : z_57.toInt ≤ 6 := by
          rw [ez_57]
          split
          · rename_i h
            omega
          · rename_i h
            rw [fa_lt] at h
            omega
        refine lv_goto (tgt := 120) hx hb dX13_laysParts_111 (by decide +kernel) ?_
        refine va_iast hx hb hE.1 hP hD hS 5 0 rfl rfl (by rw [vp_in_iff]; first | omega | (subst_vars; omega)) dX13_laysParts_120 (fun H locs hP hD hS => ?_)
        obtain ⟨hP, hD⟩ := wPD [(h0, .inr (10, (Value.int (q 0) :: Value.int (q 1) :: Value.int (q 2) :: Value.int (q 3) :: Value.int (q 4) :: Value.int (q 5) :: Value.int (q 6) :: Value.int (q 7) :: Value.ref (a 8) :: Value.ref (a 9) :: Value.ref (a 10) :: Value.ref (a 11) :: Value.ref (a 12) :: Value.ref (a 13) :: Value.int (q 14) :: Value.long v :: Value.long w :: Value.ref (a 17) :: Value.ref (a 18) :: Value.ref (a 19) :: Value.ref (a 20) :: Value.ref (a 21) :: Value.ref (a 22) :: Value.ref (a 23) :: Value.int (q 24) :: Value.ref (a 25) :: Value.int (q 26) :: Value.ref (a 27) :: Value.int (q 28) :: Value.int (q 29) :: Value.int (q 30) :: Value.int (q 31) :: Value.int (q 32) :: Value.int (q 33) :: Value.ref (a 34) :: Value.ref (a 35) :: Value.ref (a 36) :: Value.ref (a 37) :: Value.ref (a 38) :: Value.ref (a 39) :: Value.ref (a 40) :: Value.int (q 41) :: Value.ref (a 42) :: Value.int (q 43) :: Value.int (q 44) :: []))), ((a 8), .inl (T 0, 24, .inl f8)), ((a 9), .inl (T 0, 24, .inl f9)), ((a 10), .inl (T 0, 24, .inl f10)), ((a 11), .inl (T 0, 24, .inl f11)), ((a 17), .inl (T 0, 24, .inl (upd (upd e9 (xx.toNatClampNeg) z_43) (xx.toNatClampNeg) z_57))), ((a 18), .inl (T 0, 24, .inl p9)), ((a 19), .inl (T 0, 24, .inl d9))] hP hD rfl
        refine lv_aload_n hx hb dX13_laysParts_121 rfl (lv_at hl 4 rfl) ?_
        refine va_get (D := D) (ci := 10) (v := .ref (a 18)) (C := RX13) (T := TX13) (N := 45) hx hb hts in_X13_laysParts_X13 hown hE.1 hP 0 rfl rfl 18 (by decide +kernel) (hts (.fieldLink RX13 50 "ClauseBookModel" "parts" "[I") (List.mem_of_getElem? (i := 14) rfl)) (fun _ h9 => h9) rfl dX13_laysParts_122 ?_
        refine lv_iload_n hx hb dX13_laysParts_125 rfl (lv_at hl 3 rfl) ?_
        refine lv_iconst (v := 1) hx hb dX13_laysParts_126 (by decide +kernel) ?_
        refine lv_iload_n hx hb dX13_laysParts_127 rfl (lv_at hl 2 rfl) ?_
        refine lv_if_le (tgt := 140) hx hb dX13_laysParts_128 (by decide +kernel) (fun c9 => absurd c9 (by decide +kernel)) (fun _ => ?_)
        refine lv_aload_n hx hb dX13_laysParts_131 rfl (lv_at hl 4 rfl) ?_
        refine va_get (D := D) (ci := 10) (v := .ref (a 18)) (C := RX13) (T := TX13) (N := 45) hx hb hts in_X13_laysParts_X13 hown hE.1 hP 0 rfl rfl 18 (by decide +kernel) (hts (.fieldLink RX13 50 "ClauseBookModel" "parts" "[I") (List.mem_of_getElem? (i := 14) rfl)) (fun _ h9 => h9) rfl dX13_laysParts_132 ?_
        refine lv_iload_n hx hb dX13_laysParts_135 rfl (lv_at hl 1 rfl) ?_
        refine va_iald hx hb hE.1 hP 6 0 rfl rfl (by rw [vp_in_iff]; first | omega | (subst_vars; omega)) dX13_laysParts_136 ?_
        refine lv_topi (fun z_58 ez_58 => ?_)
        refine lv_goto (tgt := 141) hx hb dX13_laysParts_137 (by decide +kernel) ?_
        refine lv_iadd hx hb dX13_laysParts_141 ?_
        refine lv_iload_n hx hb dX13_laysParts_142 rfl (lv_at hl 2 rfl) ?_
        refine lv_iconst (v := 1) hx hb dX13_laysParts_143 (by decide +kernel) ?_
        refine lv_icmp_le (tgt := 157) hx hb dX13_laysParts_144 (by decide +kernel) (fun c9 => absurd c9 (by decide +kernel)) (fun _ => ?_)
        refine lv_aload_n hx hb dX13_laysParts_147 rfl (lv_at hl 4 rfl) ?_
        refine va_get (D := D) (ci := 10) (v := .ref (a 18)) (C := RX13) (T := TX13) (N := 45) hx hb hts in_X13_laysParts_X13 hown hE.1 hP 0 rfl rfl 18 (by decide +kernel) (hts (.fieldLink RX13 50 "ClauseBookModel" "parts" "[I") (List.mem_of_getElem? (i := 14) rfl)) (fun _ h9 => h9) rfl dX13_laysParts_148 ?_
        refine lv_iload hx hb dX13_laysParts_151 (lv_at hl 0 rfl) ?_
        refine va_iald hx hb hE.1 hP 6 0 rfl rfl (by rw [vp_in_iff]; first | omega | (subst_vars; omega)) dX13_laysParts_153 ?_
        refine lv_topi (fun z_59 ez_59 => ?_)
        refine lv_goto (tgt := 158) hx hb dX13_laysParts_154 (by decide +kernel) ?_
        refine lv_iadd hx hb dX13_laysParts_158 ?_
        refine lv_topi (fun z_60 ez_60 => ?_)
        refine va_iast hx hb hE.1 hP hD hS 6 0 rfl rfl (by rw [vp_in_iff]; first | omega | (subst_vars; omega)) dX13_laysParts_159 (fun H locs hP hD hS => ?_)
        obtain ⟨hP, hD⟩ := wPD [(h0, .inr (10, (Value.int (q 0) :: Value.int (q 1) :: Value.int (q 2) :: Value.int (q 3) :: Value.int (q 4) :: Value.int (q 5) :: Value.int (q 6) :: Value.int (q 7) :: Value.ref (a 8) :: Value.ref (a 9) :: Value.ref (a 10) :: Value.ref (a 11) :: Value.ref (a 12) :: Value.ref (a 13) :: Value.int (q 14) :: Value.long v :: Value.long w :: Value.ref (a 17) :: Value.ref (a 18) :: Value.ref (a 19) :: Value.ref (a 20) :: Value.ref (a 21) :: Value.ref (a 22) :: Value.ref (a 23) :: Value.int (q 24) :: Value.ref (a 25) :: Value.int (q 26) :: Value.ref (a 27) :: Value.int (q 28) :: Value.int (q 29) :: Value.int (q 30) :: Value.int (q 31) :: Value.int (q 32) :: Value.int (q 33) :: Value.ref (a 34) :: Value.ref (a 35) :: Value.ref (a 36) :: Value.ref (a 37) :: Value.ref (a 38) :: Value.ref (a 39) :: Value.ref (a 40) :: Value.int (q 41) :: Value.ref (a 42) :: Value.int (q 43) :: Value.int (q 44) :: []))), ((a 8), .inl (T 0, 24, .inl f8)), ((a 9), .inl (T 0, 24, .inl f9)), ((a 10), .inl (T 0, 24, .inl f10)), ((a 11), .inl (T 0, 24, .inl f11)), ((a 17), .inl (T 0, 24, .inl (upd (upd e9 (xx.toNatClampNeg) z_43) (xx.toNatClampNeg) z_57))), ((a 18), .inl (T 0, 24, .inl (upd p9 (xx.toNatClampNeg) z_60))), ((a 19), .inl (T 0, 24, .inl d9))] hP hD rfl
        refine lv_aload_n hx hb dX13_laysParts_160 rfl (lv_at hl 4 rfl) ?_
        refine va_get (D := D) (ci := 10) (v := .ref (a 19)) (C := RX13) (T := TX13) (N := 45) hx hb hts in_X13_laysParts_X13 hown hE.1 hP 0 rfl rfl 19 (by decide +kernel) (hts (.fieldLink RX13 53 "ClauseBookModel" "deep" "[I") (List.mem_of_getElem? (i := 15) rfl)) (fun _ h9 => h9) rfl dX13_laysParts_161 ?_
        refine lv_iload_n hx hb dX13_laysParts_164 rfl (lv_at hl 3 rfl) ?_
        refine lv_iconst (v := 1) hx hb dX13_laysParts_165 (by decide +kernel) ?_
        refine lv_iload_n hx hb dX13_laysParts_166 rfl (lv_at hl 2 rfl) ?_
        refine lv_if_ne (tgt := 174) hx hb dX13_laysParts_167 (by decide +kernel) (fun _ => ?_) (fun c9 => absurd c9 (by decide +kernel))
        refine lv_iload_n hx hb dX13_laysParts_174 rfl (lv_at hl 2 rfl) ?_
        refine lv_iconst (v := 1) hx hb dX13_laysParts_175 (by decide +kernel) ?_
        refine lv_icmp_ne (tgt := 188) hx hb dX13_laysParts_176 (by decide +kernel) (fun _ => ?_) (fun c9 => absurd c9 (by decide +kernel))
        refine lv_aload_n hx hb dX13_laysParts_188 rfl (lv_at hl 4 rfl) ?_
        refine va_get (D := D) (ci := 10) (v := .ref (a 19)) (C := RX13) (T := TX13) (N := 45) hx hb hts in_X13_laysParts_X13 hown hE.1 hP 0 rfl rfl 19 (by decide +kernel) (hts (.fieldLink RX13 53 "ClauseBookModel" "deep" "[I") (List.mem_of_getElem? (i := 15) rfl)) (fun _ h9 => h9) rfl dX13_laysParts_189 ?_
        refine lv_iload_n hx hb dX13_laysParts_192 rfl (lv_at hl 1 rfl) ?_
        refine va_iald hx hb hE.1 hP 7 0 rfl rfl (by rw [vp_in_iff]; first | omega | (subst_vars; omega)) dX13_laysParts_193 ?_
        refine lv_topi (fun z_61 ez_61 => ?_)
        refine lv_aload_n hx hb dX13_laysParts_194 rfl (lv_at hl 4 rfl) ?_
        refine va_get (D := D) (ci := 10) (v := .ref (a 19)) (C := RX13) (T := TX13) (N := 45) hx hb hts in_X13_laysParts_X13 hown hE.1 hP 0 rfl rfl 19 (by decide +kernel) (hts (.fieldLink RX13 53 "ClauseBookModel" "deep" "[I") (List.mem_of_getElem? (i := 15) rfl)) (fun _ h9 => h9) rfl dX13_laysParts_195 ?_
        refine lv_iload hx hb dX13_laysParts_198 (lv_at hl 0 rfl) ?_
        refine va_iald hx hb hE.1 hP 7 0 rfl rfl (by rw [vp_in_iff]; first | omega | (subst_vars; omega)) dX13_laysParts_200 ?_
        refine lv_topi (fun z_62 ez_62 => ?_)
        refine va_mmax hx hb (hml.trans hl.1.symm) hown (hts (.methodLink RX13 227 Lib.Math.max.name) (List.mem_of_getElem? (i := 6) rfl)) (hts (.static Lib.Math.max.name) (List.mem_of_getElem? (i := 7) rfl)) (hts (.initialized "java/lang/Math") (List.mem_of_getElem? (i := 8) rfl)) (hts (.code Lib.Math.max.name Lib.Math.max.code 2 (some .int)) (List.mem_of_getElem? (i := 9) rfl)) (Nat.le_of_ble_eq_true rfl) (Nat.le_of_ble_eq_true rfl) (Nat.le_of_ble_eq_true rfl) (Nat.le_of_ble_eq_true rfl) dX13_laysParts_201 ?_
        refine lv_topi (fun z_63 ez_63 => ?_)
        refine lv_iadd hx hb dX13_laysParts_204 ?_
        refine lv_topi (fun z_64 ez_64 => ?_)
        refine va_iast hx hb hE.1 hP hD hS 7 0 rfl rfl (by rw [vp_in_iff]; first | omega | (subst_vars; omega)) dX13_laysParts_205 (fun H locs hP hD hS => ?_)
        obtain ⟨hP, hD⟩ := wPD [(h0, .inr (10, (Value.int (q 0) :: Value.int (q 1) :: Value.int (q 2) :: Value.int (q 3) :: Value.int (q 4) :: Value.int (q 5) :: Value.int (q 6) :: Value.int (q 7) :: Value.ref (a 8) :: Value.ref (a 9) :: Value.ref (a 10) :: Value.ref (a 11) :: Value.ref (a 12) :: Value.ref (a 13) :: Value.int (q 14) :: Value.long v :: Value.long w :: Value.ref (a 17) :: Value.ref (a 18) :: Value.ref (a 19) :: Value.ref (a 20) :: Value.ref (a 21) :: Value.ref (a 22) :: Value.ref (a 23) :: Value.int (q 24) :: Value.ref (a 25) :: Value.int (q 26) :: Value.ref (a 27) :: Value.int (q 28) :: Value.int (q 29) :: Value.int (q 30) :: Value.int (q 31) :: Value.int (q 32) :: Value.int (q 33) :: Value.ref (a 34) :: Value.ref (a 35) :: Value.ref (a 36) :: Value.ref (a 37) :: Value.ref (a 38) :: Value.ref (a 39) :: Value.ref (a 40) :: Value.int (q 41) :: Value.ref (a 42) :: Value.int (q 43) :: Value.int (q 44) :: []))), ((a 8), .inl (T 0, 24, .inl f8)), ((a 9), .inl (T 0, 24, .inl f9)), ((a 10), .inl (T 0, 24, .inl f10)), ((a 11), .inl (T 0, 24, .inl f11)), ((a 17), .inl (T 0, 24, .inl (upd (upd e9 (xx.toNatClampNeg) z_43) (xx.toNatClampNeg) z_57))), ((a 18), .inl (T 0, 24, .inl (upd p9 (xx.toNatClampNeg) z_60))), ((a 19), .inl (T 0, 24, .inl (upd d9 (xx.toNatClampNeg) z_64)))] hP hD rfl
        obtain ⟨z_65, ez_65⟩ : ∃ y : Int32, y = xx + 1 := ⟨_, rfl⟩
        refine lv_iinc (v := z_65) (lv' := [(1, .int z_65), (4, .int z_40), (3, .int z_39), (2, .int 2), (0, .ref h0)]) hx hb dX13_laysParts_206 hl (k := 3) rfl (by rw [ez_65]; rfl) (by decide +kernel) rfl (fun ls hl => ?_)
        have hz_659 : z_65.toInt = xx.toInt + 1 := by rw [ez_65]; exact inc1 (n := 1000) (by omega) (by decide +kernel)
        refine lv_goto (tgt := 2) hx hb dX13_laysParts_209 (by decide +kernel) ?_
        exact ih (z_65, (upd (upd e9 (xx.toNatClampNeg) z_43) (xx.toNatClampNeg) z_57), (upd p9 (xx.toNatClampNeg) z_60), (upd d9 (xx.toNatClampNeg) z_64)) ls _ _ ⟨lv_sub hl [0, 4] rfl, hP.sub [0, 1, 2, 3, 4, 5, 6, 7] rfl, hD.sub [0, 1, 2, 3, 4, 5, 6, 7] (by decide +kernel) rfl, hS, ⟨(by (try dsimp only); rw [hz_659]; omega), (by (try dsimp only); rw [upd_upd]; exact okE_step (n := 0) hEE (by omega) hz_659 (by omega) (fun hk9 => by exfalso; omega) (okR.late hokR)), (by (try dsimp only); rw [upd_upd]; exact mes_lp (okR.Nm hokR) (by omega) hz_659 hME (mesE_r8 (by have t9 := tn (x := f8 (xx.toNatClampNeg)) (by omega); omega) (endB_2 (by rw [← ez_2]; omega) ez_43 ez_41 ez_39 ez_42 ez_40) hxz_56 ez_57 ez_55) (mesM_r2 (by rw [← ez_2]; omega) ez_60 ez_58 ez_39 ez_59 ez_40) (mesD_r2 (by rw [← ez_2]; omega) ez_64 ez_63 ez_61 ez_39 ez_62 ez_40))⟩⟩ (by (try dsimp only); rw [hz_659]; omega)
