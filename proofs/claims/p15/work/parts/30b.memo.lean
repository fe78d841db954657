/-! what was found, slot by slot -/
def trN (t : Nat) : Nat := t * (t + 1) / 2
theorem trN_s {t : Nat} (h : t ≤ 6) : trN (t + 1) = trN t + t + 1 := by
  have key : ∀ a : Fin 7, trN (a.val + 1) = trN a.val + a.val + 1 := by decide
  exact key ⟨t, by omega⟩
theorem trN_le {t : Nat} (h : t ≤ 6) : trN t + t < 28 := by
  have key : ∀ a : Fin 7, trN a.val + a.val < 28 := by decide
  exact key ⟨t, by omega⟩
/-- the slot of clause x at spot k of day t -/
def slN (x t k : Int32) : Nat := 28 * x.toNatClampNeg + trN t.toNatClampNeg + k.toNatClampNeg
theorem slN_at {x d k : Int32} (hx : 0 ≤ x.toInt ∧ x.toInt < 24) (hd : 0 ≤ d.toInt ∧ d.toInt ≤ 6) (hk : 0 ≤ k.toInt ∧ k.toInt ≤ d.toInt) : (((x * 28) + ((d * (d + 1)) / 2)) + k).toNatClampNeg = slN x d k := by
  obtain ⟨i, hi, e⟩ := nI_of (x := x) (by rw [fa_lt, ti_0]; omega)
  obtain ⟨j, hj, e2⟩ := nI_of (x := d) (by rw [fa_lt, ti_0]; omega)
  obtain ⟨q, hq, e3⟩ := nI_of (x := k) (by rw [fa_lt, ti_0]; omega)
  subst e
  subst e2
  subst e3
  unfold slN
  rw [nI_clamp hi, nI_clamp hj, nI_clamp hq]
  rw [nI_toInt hi] at hx
  rw [nI_toInt hj] at hd hk
  rw [nI_toInt hq] at hk
  have key : ∀ a : Fin 24, ∀ b : Fin 7, ∀ c : Fin 7, (((nI a.val * 28) + ((nI b.val * (nI b.val + 1)) / 2)) + nI c.val).toNatClampNeg = 28 * a.val + trN b.val + c.val := by decide +kernel
  exact key ⟨i, by omega⟩ ⟨j, by omega⟩ ⟨q, by omega⟩
theorem slN_lt {x t k : Int32} (hx : 0 ≤ x.toInt ∧ x.toInt < 24) (ht : 0 ≤ t.toInt ∧ t.toInt ≤ 6) (hk : 0 ≤ k.toInt ∧ k.toInt ≤ t.toInt) : slN x t k < 672 := by
  have a := tn hx.1
  have b := tn ht.1
  have c := tn hk.1
  have d := trN_le (t := t.toNatClampNeg) (by omega)
  unfold slN
  omega
theorem slN_inj {x t k x' t' k' : Int32} (hx : 0 ≤ x.toInt ∧ x.toInt < 24) (ht : 0 ≤ t.toInt ∧ t.toInt ≤ 6) (hk : 0 ≤ k.toInt ∧ k.toInt ≤ t.toInt) (hx' : 0 ≤ x'.toInt ∧ x'.toInt < 24) (ht' : 0 ≤ t'.toInt ∧ t'.toInt ≤ 6) (hk' : 0 ≤ k'.toInt ∧ k'.toInt ≤ t'.toInt) (h : slN x t k = slN x' t' k') : x = x' ∧ t = t' ∧ k = k' := by
  have a := tn hx.1
  have b := tn ht.1
  have c := tn hk.1
  have a' := tn hx'.1
  have b' := tn ht'.1
  have c' := tn hk'.1
  have d := trN_le (t := t.toNatClampNeg) (by omega)
  have d' := trN_le (t := t'.toNatClampNeg) (by omega)
  unfold slN at h
  have e1 : x.toNatClampNeg = x'.toNatClampNeg := by omega
  have e2 : trN t.toNatClampNeg + k.toNatClampNeg = trN t'.toNatClampNeg + k'.toNatClampNeg := by omega
  have key : ∀ p q p' q' : Fin 7, q.val ≤ p.val → q'.val ≤ p'.val → trN p.val + q.val = trN p'.val + q'.val → p.val = p'.val ∧ q.val = q'.val := by decide +kernel
  have e3 := key ⟨t.toNatClampNeg, by omega⟩ ⟨k.toNatClampNeg, by omega⟩ ⟨t'.toNatClampNeg, by omega⟩ ⟨k'.toNatClampNeg, by omega⟩ (by show k.toNatClampNeg ≤ t.toNatClampNeg; omega) (by show k'.toNatClampNeg ≤ t'.toNatClampNeg; omega) e2
  have e4 : t.toNatClampNeg = t'.toNatClampNeg := e3.1
  have e5 : k.toNatClampNeg = k'.toNatClampNeg := e3.2
  exact ⟨Int32.toInt_inj.1 (by omega), Int32.toInt_inj.1 (by omega), Int32.toInt_inj.1 (by omega)⟩
/-- what settle may touch; what picked may; what average may -/
def rgW (x t : Int32) (j : Nat) : Prop := j < 28 * x.toNatClampNeg ∨ (28 * x.toNatClampNeg + trN t.toNatClampNeg ≤ j ∧ j < 28 * x.toNatClampNeg + 28)
def rgP (x : Int32) (j : Nat) : Prop := j < 28 * x.toNatClampNeg
def rgA (s x t : Int32) (j : Nat) : Prop := j = s.toNatClampNeg ∨ rgW x (t + 1) j
theorem rg_c {c x t t' : Int32} {j : Nat} (h : 0 ≤ c.toInt ∧ c.toInt < x.toInt) (g : rgW c t j) : rgW x t' j := by
  have a := tn h.1
  have b := tn (x := x) (by omega)
  unfold rgW at g ⊢
  omega
theorem rgp_c {c x t : Int32} {j : Nat} (h : 0 ≤ c.toInt ∧ c.toInt < x.toInt) (g : rgW c t j) : rgP x j := by
  have a := tn h.1
  have b := tn (x := x) (by omega)
  unfold rgW at g
  unfold rgP
  omega
theorem rg_p {x t : Int32} {j : Nat} (g : rgP x j) : rgW x t j := Or.inl g
theorem rg_d {x t : Int32} {j : Nat} (ht : 0 ≤ t.toInt ∧ t.toInt ≤ 5) (g : rgW x (t + 1) j) : rgW x t j := by
  have e := inc1 (i := t) (n := 6) (by omega) (by decide +kernel)
  have a := tnS ht.1 e
  have b := tn ht.1
  have c := trN_s (t := t.toNatClampNeg) (by omega)
  unfold rgW at g ⊢
  rw [a] at g
  omega
theorem rg_self {s x t k : Int32} (hx : 0 ≤ x.toInt ∧ x.toInt < 24) (ht : 0 ≤ t.toInt ∧ t.toInt ≤ 6) (hk : 0 ≤ k.toInt ∧ k.toInt ≤ t.toInt) (e : s.toNatClampNeg = slN x t k) : rgW x t s.toNatClampNeg := by
  have b := tn ht.1
  have c := tn hk.1
  have d := trN_le (t := t.toNatClampNeg) (by omega)
  rw [e]
  unfold rgW slN
  omega
theorem rg_a {s x t k : Int32} {j : Nat} (hx : 0 ≤ x.toInt ∧ x.toInt < 24) (ht : 0 ≤ t.toInt ∧ t.toInt ≤ 5) (hk : 0 ≤ k.toInt ∧ k.toInt ≤ t.toInt) (e : s.toNatClampNeg = slN x t k) (g : rgA s x t j) : rgW x t j := by
  rcases g with g | g
  · rw [g]; exact rg_self hx ⟨ht.1, by omega⟩ hk e
  · exact rg_d ht g
theorem nrg_c {c s x t t' k : Int32} (h : 0 ≤ c.toInt ∧ c.toInt < x.toInt) (e : s.toNatClampNeg = slN x t k) : ¬ rgW c t' s.toNatClampNeg := by
  have a := tn h.1
  have b := tn (x := x) (by omega)
  rw [e]
  unfold rgW slN
  omega
theorem nrg_p {s x t k : Int32} (e : s.toNatClampNeg = slN x t k) : ¬ rgP x s.toNatClampNeg := by
  rw [e]
  unfold rgP slN
  omega
theorem nrg_d {s x t k : Int32} (ht : 0 ≤ t.toInt ∧ t.toInt ≤ 5) (hk : 0 ≤ k.toInt ∧ k.toInt ≤ t.toInt) (e : s.toNatClampNeg = slN x t k) : ¬ rgW x (t + 1) s.toNatClampNeg := by
  have i := inc1 (i := t) (n := 6) (by omega) (by decide +kernel)
  have a := tnS ht.1 i
  have b := tn ht.1
  have b2 := tn hk.1
  have c := trN_s (t := t.toNatClampNeg) (by omega)
  rw [e]
  unfold rgW slN
  rw [a]
  omega
abbrev vaF : Type := Int32 → Int32 → Int32 → Int64 × Int64
/-- what is found is VALUE -/
def memW (V : vaF) (nsz age : Int32) (g0 g1 : Nat → Int64) (g4 : Nat → Int32) : Prop := ∀ x t k : Int32, 0 ≤ x.toInt ∧ x.toInt < 24 → 0 ≤ t.toInt ∧ t.toInt ≤ 6 → 0 ≤ k.toInt ∧ k.toInt ≤ t.toInt → g4 (slN x t k) = age → x.toInt < nsz.toInt ∧ (g0 (slN x t k), g1 (slN x t k)) = V x t k
/-- from g to u: what is found is VALUE, what was found stays, what is marked is marked with this age, what lies outside P stays -/
def stW (V : vaF) (nsz age : Int32) (P : Nat → Prop) (g0 g1 : Nat → Int64) (g4 : Nat → Int32) (u0 u1 : Nat → Int64) (u4 : Nat → Int32) : Prop := memW V nsz age u0 u1 u4 ∧ (∀ j : Nat, j < 672 → g4 j = age → u4 j = age) ∧ (∀ j : Nat, j < 672 → u4 j = g4 j ∨ u4 j = age) ∧ ∀ j : Nat, j < 672 → ¬ P j → u0 j = g0 j ∧ u1 j = g1 j ∧ u4 j = g4 j
theorem stW_rf {V : vaF} {nsz age : Int32} {P : Nat → Prop} {g0 g1 : Nat → Int64} {g4 : Nat → Int32} (h : memW V nsz age g0 g1 g4) : stW V nsz age P g0 g1 g4 g0 g1 g4 := ⟨h, fun _ _ q => q, fun _ _ => Or.inl rfl, fun _ _ _ => ⟨rfl, rfl, rfl⟩⟩
theorem stW.tr {V : vaF} {nsz age : Int32} {P Q : Nat → Prop} {g0 g1 u0 u1 w0 w1 : Nat → Int64} {g4 u4 w4 : Nat → Int32} (a : stW V nsz age P g0 g1 g4 u0 u1 u4) (b : stW V nsz age Q u0 u1 u4 w0 w1 w4) (h : ∀ j : Nat, Q j → P j) : stW V nsz age P g0 g1 g4 w0 w1 w4 := by
  obtain ⟨a1, a2, a3, a4⟩ := a
  obtain ⟨b1, b2, b3, b4⟩ := b
  refine ⟨b1, fun j hj q => b2 j hj (a2 j hj q), fun j hj => ?_, fun j hj q => ?_⟩
  · rcases b3 j hj with e | e
    · rw [e]; exact a3 j hj
    · exact Or.inr e
  · obtain ⟨e1, e2, e3⟩ := a4 j hj q
    obtain ⟨e4, e5, e6⟩ := b4 j hj (fun p => q (h j p))
    exact ⟨e4.trans e1, e5.trans e2, e6.trans e3⟩
theorem stW.mono {V : vaF} {nsz age : Int32} {P Q : Nat → Prop} {g0 g1 u0 u1 : Nat → Int64} {g4 u4 : Nat → Int32} (a : stW V nsz age P g0 g1 g4 u0 u1 u4) (h : ∀ j : Nat, P j → Q j) : stW V nsz age Q g0 g1 g4 u0 u1 u4 := ⟨a.1, a.2.1, a.2.2.1, fun j hj q => a.2.2.2 j hj (fun p => q (h j p))⟩
/-- values come to a place that isn't found -/
theorem stW.put {V : vaF} {nsz age : Int32} {P : Nat → Prop} {g0 g1 u0 u1 : Nat → Int64} {g4 u4 : Nat → Int32} {s : Nat} {v w : Int64} (a : stW V nsz age P g0 g1 g4 u0 u1 u4) (hs : s < 672 → P s ∧ u4 s ≠ age) : stW V nsz age P g0 g1 g4 (vp_updL u0 s v) (vp_updL u1 s w) u4 := by
  obtain ⟨a1, a2, a3, a4⟩ := a
  refine ⟨fun x t k hx ht hk q => ?_, a2, a3, fun j hj q => ?_⟩
  · have hl := slN_lt hx ht hk
    have hne : slN x t k ≠ s := fun e => (hs (by omega)).2 (by rw [← e]; exact q)
    rw [updL_ne hne, updL_ne hne]
    exact a1 x t k hx ht hk q
  · have hne : j ≠ s := fun e => q (by rw [e]; exact (hs (by omega)).1)
    rw [updL_ne hne, updL_ne hne]
    exact a4 j hj q
/-- a slot is found -/
theorem stW.mark {V : vaF} {nsz age : Int32} {P : Nat → Prop} {g0 g1 u0 u1 : Nat → Int64} {g4 u4 : Nat → Int32} {s : Nat} {x t k : Int32} (a : stW V nsz age P g0 g1 g4 u0 u1 u4) (hx : 0 ≤ x.toInt ∧ x.toInt < 24) (hn : x.toInt < nsz.toInt) (ht : 0 ≤ t.toInt ∧ t.toInt ≤ 6) (hk : 0 ≤ k.toInt ∧ k.toInt ≤ t.toInt) (e : s = slN x t k) (hP : P s) (hv : (u0 s, u1 s) = V x t k) : stW V nsz age P g0 g1 g4 u0 u1 (upd u4 s age) := by
  obtain ⟨a1, a2, a3, a4⟩ := a
  refine ⟨fun x' t' k' hx' ht' hk' q => ?_, fun j hj q => ?_, fun j hj => ?_, fun j hj q => ?_⟩
  · by_cases h : slN x' t' k' = s
    · obtain ⟨rfl, rfl, rfl⟩ := slN_inj hx' ht' hk' hx ht hk (h.trans e)
      rw [h]
      exact ⟨hn, hv⟩
    · simp only [upd, if_neg h] at q
      exact a1 x' t' k' hx' ht' hk' q
  · by_cases h : j = s
    · simp only [upd, if_pos h]
    · simp only [upd, if_neg h]
      exact a2 j hj q
  · by_cases h : j = s
    · simp only [upd, if_pos h]
      first | exact Or.inr rfl | exact Or.inr trivial
    · simp only [upd, if_neg h]
      exact a3 j hj
  · have h : j ≠ s := fun h => q (by rw [h]; exact hP)
    simp only [upd, if_neg h]
    exact a4 j hj q
theorem stW.val {V : vaF} {nsz age : Int32} {P : Nat → Prop} {g0 g1 u0 u1 : Nat → Int64} {g4 u4 : Nat → Int32} {r x t k : Int32} (a : stW V nsz age P g0 g1 g4 u0 u1 u4) (hx : 0 ≤ x.toInt ∧ x.toInt < 24) (ht : 0 ≤ t.toInt ∧ t.toInt ≤ 6) (hk : 0 ≤ k.toInt ∧ k.toInt ≤ t.toInt) (e : r.toNatClampNeg = slN x t k) (h : u4 (slN x t k) = age) : (u0 r.toNatClampNeg, u1 r.toNatClampNeg) = V x t k := by
  rw [e]
  exact (a.1 x t k hx ht hk h).2
theorem low_nn {q : Int64 × Int64} (h : lowW q) : 0 ≤ q.2.toInt := by
  rcases h with e | e
  · rw [e]; decide
  · have := e.1; omega
theorem val_nn {q : Int64 × Int64} {a b : Int64} (h : lowW q) (e : (a, b) = q) : 0 ≤ b.toInt := by
  have h1 := low_nn h
  rw [← e] at h1
  exact h1
theorem put_at {f g a b : Nat → Int64} {k : Nat} {q : Int64 × Int64} (h1 : a = vp_updL f k q.1) (h2 : b = vp_updL g k q.2) : (a k, b k) = q := by
  rw [h1, h2, updL_at, updL_at]
theorem put_ne {f g a b : Nat → Int64} {k j : Nat} {q : Int64 × Int64} (h1 : a = vp_updL f k q.1) (h2 : b = vp_updL g k q.2) (h : j ≠ k) : (a j, b j) = (f j, g j) := by
  rw [h1, h2, updL_ne h, updL_ne h]
theorem wt_den {l : Nat → Int32} (hq : 1 ≤ (l 4).toInt ∧ (l 4).toInt ≤ 9) (hb : 1 ≤ (l 6).toInt ∧ (l 6).toInt ≤ 9) : 1 ≤ ((l 6 * l 4).toInt64).toInt := by
  rw [Int32.toInt_toInt64]
  have h1 : (l 6).toInt * (l 4).toInt ≤ 9 * 9 := Int.mul_le_mul hb.2 hq.2 (by omega) (by omega)
  have h2 : 1 * 1 ≤ (l 6).toInt * (l 4).toInt := Int.mul_le_mul hb.1 hq.1 (by omega) (by omega)
  rw [fb_mulI (by omega) (by omega)]
  omega
/-! which one stands for x: case by case -/
section
variable {l fk fn fc fd fe : Nat → Int32} {V : vaF} {x t k : Int32}
theorem pk_8 (h : (fk x.toNatClampNeg).toNatClampNeg = 8) : pickW l fk fn fc fd fe V x t k = fc x.toNatClampNeg := by unfold pickW; rw [if_pos h]
theorem pk_12y (h : (fk x.toNatClampNeg).toNatClampNeg = 12) (c : (fn x.toNatClampNeg).toInt ≤ (prW l t k).toInt) : pickW l fk fn fc fd fe V x t k = fc x.toNatClampNeg := by unfold pickW; rw [if_neg (by omega), if_pos h, if_pos c]
theorem pk_12n (h : (fk x.toNatClampNeg).toNatClampNeg = 12) (c : ¬ (fn x.toNatClampNeg).toInt ≤ (prW l t k).toInt) : pickW l fk fn fc fd fe V x t k = fd x.toNatClampNeg := by unfold pickW; rw [if_neg (by omega), if_pos h, if_neg c]
theorem pk_c (h8 : ¬ (fk x.toNatClampNeg).toNatClampNeg = 8) (h12 : ¬ (fk x.toNatClampNeg).toNatClampNeg = 12) (c : (fe (fc x.toNatClampNeg).toNatClampNeg).toInt < t.toInt) : pickW l fk fn fc fd fe V x t k = fd x.toNatClampNeg := by unfold pickW; rw [if_neg h8, if_neg h12, if_pos c]
theorem pk_d (h8 : ¬ (fk x.toNatClampNeg).toNatClampNeg = 8) (h12 : ¬ (fk x.toNatClampNeg).toNatClampNeg = 12) (c : ¬ (fe (fc x.toNatClampNeg).toNatClampNeg).toInt < t.toInt) (d : (fk x.toNatClampNeg).toNatClampNeg = 9 ∨ (fe (fd x.toNatClampNeg).toNatClampNeg).toInt < t.toInt) : pickW l fk fn fc fd fe V x t k = fc x.toNatClampNeg := by unfold pickW; rw [if_neg h8, if_neg h12, if_neg c, if_pos d]
theorem pk_m (h8 : ¬ (fk x.toNatClampNeg).toNatClampNeg = 8) (h12 : ¬ (fk x.toNatClampNeg).toNatClampNeg = 12) (c : ¬ (fe (fc x.toNatClampNeg).toNatClampNeg).toInt < t.toInt) (d : ¬ ((fk x.toNatClampNeg).toNatClampNeg = 9 ∨ (fe (fd x.toNatClampNeg).toNatClampNeg).toInt < t.toInt)) (m : (V (fc x.toNatClampNeg) t k).2.toInt = 0 ∨ (V (fd x.toNatClampNeg) t k).2.toInt = 0) : pickW l fk fn fc fd fe V x t k = -5 := by unfold pickW; rw [if_neg h8, if_neg h12, if_neg c, if_neg d, if_pos m]
theorem pk_y (h8 : ¬ (fk x.toNatClampNeg).toNatClampNeg = 8) (h12 : ¬ (fk x.toNatClampNeg).toNatClampNeg = 12) (c : ¬ (fe (fc x.toNatClampNeg).toNatClampNeg).toInt < t.toInt) (d : ¬ ((fk x.toNatClampNeg).toNatClampNeg = 9 ∨ (fe (fd x.toNatClampNeg).toNatClampNeg).toInt < t.toInt)) (m : ¬ ((V (fc x.toNatClampNeg) t k).2.toInt = 0 ∨ (V (fd x.toNatClampNeg) t k).2.toInt = 0)) (s : ((fk x.toNatClampNeg).toNatClampNeg = 6 ∧ 0 < cmpP (V (fd x.toNatClampNeg) t k) (V (fc x.toNatClampNeg) t k)) ∨ ((fk x.toNatClampNeg).toNatClampNeg ≠ 6 ∧ cmpP (V (fd x.toNatClampNeg) t k) (V (fc x.toNatClampNeg) t k) < 0)) : pickW l fk fn fc fd fe V x t k = fd x.toNatClampNeg := by unfold pickW; rw [if_neg h8, if_neg h12, if_neg c, if_neg d, if_neg m, if_pos s]
theorem pk_n (h8 : ¬ (fk x.toNatClampNeg).toNatClampNeg = 8) (h12 : ¬ (fk x.toNatClampNeg).toNatClampNeg = 12) (c : ¬ (fe (fc x.toNatClampNeg).toNatClampNeg).toInt < t.toInt) (d : ¬ ((fk x.toNatClampNeg).toNatClampNeg = 9 ∨ (fe (fd x.toNatClampNeg).toNatClampNeg).toInt < t.toInt)) (m : ¬ ((V (fc x.toNatClampNeg) t k).2.toInt = 0 ∨ (V (fd x.toNatClampNeg) t k).2.toInt = 0)) (s : ¬ (((fk x.toNatClampNeg).toNatClampNeg = 6 ∧ 0 < cmpP (V (fd x.toNatClampNeg) t k) (V (fc x.toNatClampNeg) t k)) ∨ ((fk x.toNatClampNeg).toNatClampNeg ≠ 6 ∧ cmpP (V (fd x.toNatClampNeg) t k) (V (fc x.toNatClampNeg) t k) < 0))) : pickW l fk fn fc fd fe V x t k = fc x.toNatClampNeg := by unfold pickW; rw [if_neg h8, if_neg h12, if_neg c, if_neg d, if_neg m, if_neg s]
/-! VALUE, kind by kind -/
theorem sw_e (h : (fe x.toNatClampNeg).toInt < t.toInt) : stepW l fk fn fc fd fe V x t k = (0, 1) := by unfold stepW; rw [if_pos h]
theorem sw_0 (h : ¬ (fe x.toNatClampNeg).toInt < t.toInt) (c : (fk x.toNatClampNeg).toNatClampNeg = 0) : stepW l fk fn fc fd fe V x t k = (0, 1) := by unfold stepW; rw [if_neg h, if_pos c]
theorem sw_1 (h : ¬ (fe x.toNatClampNeg).toInt < t.toInt) (c : (fk x.toNatClampNeg).toNatClampNeg = 1) : stepW l fk fn fc fd fe V x t k = (1, 1) := by unfold stepW; rw [if_neg h, if_neg (by omega), if_pos c]
theorem sw_2 (h : ¬ (fe x.toNatClampNeg).toInt < t.toInt) (c : (fk x.toNatClampNeg).toNatClampNeg = 2) : stepW l fk fn fc fd fe V x t k = mulW (V (fc x.toNatClampNeg) t k) (-1) 1 := by unfold stepW; rw [if_neg h, if_neg (by omega), if_neg (by omega), if_pos c]
theorem sw_3 (h : ¬ (fe x.toNatClampNeg).toInt < t.toInt) (c : (fk x.toNatClampNeg).toNatClampNeg = 3) : stepW l fk fn fc fd fe V x t k = mulW (V (fc x.toNatClampNeg) t k) (fn x.toNatClampNeg).toInt64 1 := by unfold stepW; rw [if_neg h, if_neg (by omega), if_neg (by omega), if_neg (by omega), if_pos c]
theorem sw_4 (h : ¬ (fe x.toNatClampNeg).toInt < t.toInt) (c : (fk x.toNatClampNeg).toNatClampNeg = 4) : stepW l fk fn fc fd fe V x t k = mulW (V (fc x.toNatClampNeg) t k) (prW l t k).toInt64 1 := by unfold stepW; rw [if_neg h, if_neg (by omega), if_neg (by omega), if_neg (by omega), if_neg (by omega), if_pos c]
theorem sw_5 (h : ¬ (fe x.toNatClampNeg).toInt < t.toInt) (c : (fk x.toNatClampNeg).toNatClampNeg = 5) : stepW l fk fn fc fd fe V x t k = addW (V (fc x.toNatClampNeg) t k) (V (fd x.toNatClampNeg) t k) := by unfold stepW; rw [if_neg h, if_neg (by omega), if_neg (by omega), if_neg (by omega), if_neg (by omega), if_neg (by omega), if_pos c]
theorem sw_10 (h : ¬ (fe x.toNatClampNeg).toInt < t.toInt) (c : (fk x.toNatClampNeg).toNatClampNeg = 10) : stepW l fk fn fc fd fe V x t k = (if t.toInt = (fe x.toNatClampNeg).toInt then V (fc x.toNatClampNeg) t k else avgW l V x t k) := by unfold stepW; rw [if_neg h, if_neg (by omega), if_neg (by omega), if_neg (by omega), if_neg (by omega), if_neg (by omega), if_neg (by omega), if_pos c]
theorem sw_11 (h : ¬ (fe x.toNatClampNeg).toInt < t.toInt) (c : (fk x.toNatClampNeg).toNatClampNeg = 11) : stepW l fk fn fc fd fe V x t k = (if t.toInt = (fe x.toNatClampNeg).toInt then V (fc x.toNatClampNeg) t k else maxW (avgW l V x t k) (V (fc x.toNatClampNeg) t k)) := by unfold stepW; rw [if_neg h, if_neg (by omega), if_neg (by omega), if_neg (by omega), if_neg (by omega), if_neg (by omega), if_neg (by omega), if_neg (by omega), if_pos c]
theorem sw_p (h : ¬ (fe x.toNatClampNeg).toInt < t.toInt) (c : (fk x.toNatClampNeg).toNatClampNeg = 6 ∨ (fk x.toNatClampNeg).toNatClampNeg = 7 ∨ (fk x.toNatClampNeg).toNatClampNeg = 8 ∨ (fk x.toNatClampNeg).toNatClampNeg = 9 ∨ (fk x.toNatClampNeg).toNatClampNeg = 12) : stepW l fk fn fc fd fe V x t k = (if pickW l fk fn fc fd fe V x t k = -5 then (0, 0) else V (pickW l fk fn fc fd fe V x t k) t k) := by unfold stepW; rw [if_neg h, if_neg (by omega), if_neg (by omega), if_neg (by omega), if_neg (by omega), if_neg (by omega), if_neg (by omega), if_neg (by omega), if_neg (by omega)]
end
