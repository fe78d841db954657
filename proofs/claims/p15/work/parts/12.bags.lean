/-! bags: what put, take, pour do, in the class (three rows) and in the reference (one row of 36) -/
theorem all3 {P : Nat → Prop} (h0 : P 0) (h1 : P 1) (h2 : P 2) : ∀ k : Nat, k < 3 → P k
  | 0, _ => h0
  | 1, _ => h1
  | 2, _ => h2
  | k + 3, h => absurd h (by omega)
theorem tn0' : (0 : Int32).toNatClampNeg = 0 := by decide
theorem tn1' : (1 : Int32).toNatClampNeg = 1 := by decide
theorem tn2' : (2 : Int32).toNatClampNeg = 2 := by decide
/-- how the class's bags lie in the reference's row -/
def rlB (bn : Nat → Int32) (bf : Nat → Nat → Int32) (gn g : Nat → Int32) : Prop := ∀ k : Nat, k < 3 → bn k = gn k ∧ ∀ i : Nat, (i : Int) < (bn k).toInt → bf k i = g (12 * k + i)
/-- one of the class's bags has become n, f -/
def bgC (bn un : Nat → Int32) (bf uf : Nat → Nat → Int32) (x : Nat) (n : Int32) (f : Nat → Int32) : Prop := ∀ k : Nat, k < 3 → (k = x → un k = n ∧ uf k = f) ∧ (k ≠ x → un k = bn k ∧ uf k = bf k)
def bgS (bn un : Nat → Int32) (bf uf : Nat → Nat → Int32) : Prop := ∀ k : Nat, k < 3 → un k = bn k ∧ uf k = bf k
abbrev putV (n9 x1 x2 : Int32) : Prop := (0 ≤ x1.toInt ∧ x1.toInt ≤ 2) ∧ 0 ≤ x2.toInt ∧ x2.toInt < n9.toInt
/-- put, in the class -/
def putC (n9 x1 x2 r : Int32) (bn un : Nat → Int32) (bf uf : Nat → Nat → Int32) : Prop := (¬ putV n9 x1 x2 ∧ r.toInt = -2 ∧ bgS bn un bf uf) ∨ (putV n9 x1 x2 ∧ 12 ≤ (bn x1.toNatClampNeg).toInt ∧ r.toInt = -4 ∧ bgS bn un bf uf) ∨ (putV n9 x1 x2 ∧ (bn x1.toNatClampNeg).toInt < 12 ∧ r.toInt = (bn x1.toNatClampNeg).toInt + 1 ∧ bgC bn un bf uf x1.toNatClampNeg r (upd (bf x1.toNatClampNeg) (bn x1.toNatClampNeg).toNatClampNeg x2))
/-- put, in the reference -/
def putR (n9 x1 x2 r : Int32) (gn hn g h : Nat → Int32) : Prop := (¬ putV n9 x1 x2 ∧ r.toInt = -2 ∧ hn = gn ∧ h = g) ∨ (putV n9 x1 x2 ∧ 12 ≤ (gn x1.toNatClampNeg).toInt ∧ r.toInt = -4 ∧ hn = gn ∧ h = g) ∨ (putV n9 x1 x2 ∧ (gn x1.toNatClampNeg).toInt < 12 ∧ r.toInt = (gn x1.toNatClampNeg).toInt + 1 ∧ hn = upd gn x1.toNatClampNeg r ∧ h = upd g (12 * x1.toNatClampNeg + (gn x1.toNatClampNeg).toNatClampNeg) x2)
def bgOk (bn : Nat → Int32) : Prop := ∀ k : Nat, k < 3 → 0 ≤ (bn k).toInt ∧ (bn k).toInt ≤ 12
theorem rlB_same {bn un : Nat → Int32} {bf uf : Nat → Nat → Int32} {gn g : Nat → Int32} (h : rlB bn bf gn g) (e : bgS bn un bf uf) : rlB un uf gn g := by
  intro k hk
  rw [(e k hk).1, (e k hk).2]
  exact h k hk
theorem put_rel {n9 x1 x2 r r' : Int32} {bn un gn hn g h : Nat → Int32} {bf uf : Nat → Nat → Int32} (R : rlB bn bf gn g) (O : bgOk bn) (c : putC n9 x1 x2 r bn un bf uf) (m : putR n9 x1 x2 r' gn hn g h) : r = r' ∧ rlB un uf hn h := by
  rcases c with ⟨c1, c2, c3⟩ | ⟨c1, c2, c3, c4⟩ | ⟨c1, c2, c3, c4⟩
  · rcases m with ⟨m1, m2, m3, m4⟩ | ⟨m1, _⟩ | ⟨m1, _⟩
    · subst m3; subst m4; exact ⟨Int32.toInt_inj.1 (by omega), rlB_same R c3⟩
    · exact absurd m1 c1
    · exact absurd m1 c1
  · have hx : x1.toNatClampNeg < 3 := by have h1 := c1.1; have h2 := tn h1.1; omega
    have e := (R _ hx).1
    rcases m with ⟨m1, _⟩ | ⟨m1, m2, m3, m4, m5⟩ | ⟨m1, m2, _⟩
    · exact absurd c1 m1
    · subst m4; subst m5; exact ⟨Int32.toInt_inj.1 (by omega), rlB_same R c4⟩
    · rw [← e] at m2; omega
  · have hx : x1.toNatClampNeg < 3 := by have h1 := c1.1; have h2 := tn h1.1; omega
    have e := (R _ hx).1
    rcases m with ⟨m1, _⟩ | ⟨m1, m2, _⟩ | ⟨m1, m2, m3, m4, m5⟩
    · exact absurd c1 m1
    · rw [← e] at m2; omega
    · rw [← e] at m3 m5
      have hr : r = r' := Int32.toInt_inj.1 (by omega)
      subst hr
      refine ⟨rfl, fun k hk => ?_⟩
      have o := O _ hx
      have t := tn o.1
      rw [m4, m5]
      by_cases hkx : k = x1.toNatClampNeg
      · have q := (c4 k hk).1 hkx
        rw [q.1, q.2]
        subst hkx
        refine ⟨by simp only [upd, if_pos], fun i hi => ?_⟩
        simp only [upd]
        by_cases hi2 : i = (bn x1.toNatClampNeg).toNatClampNeg
        · rw [if_pos hi2, if_pos (by omega)]
        · rw [if_neg hi2, if_neg (by omega)]
          exact (R _ hx).2 i (by omega)
      · have q := (c4 k hk).2 hkx
        rw [q.1, q.2]
        refine ⟨by simp only [upd, if_neg hkx]; exact (R k hk).1, fun i hi => ?_⟩
        have o2 := O k hk
        simp only [upd]
        rw [if_neg (by omega)]
        exact (R k hk).2 i hi
/-- take, in the class and in the reference -/
def takeC (x1 r : Int32) (bn un : Nat → Int32) (bf uf : Nat → Nat → Int32) : Prop := (¬ (0 ≤ x1.toInt ∧ x1.toInt ≤ 2) ∧ r.toInt = -2 ∧ bgS bn un bf uf) ∨ ((0 ≤ x1.toInt ∧ x1.toInt ≤ 2) ∧ (bn x1.toNatClampNeg).toInt ≤ 0 ∧ r.toInt = -1 ∧ bgS bn un bf uf) ∨ ((0 ≤ x1.toInt ∧ x1.toInt ≤ 2) ∧ 0 < (bn x1.toNatClampNeg).toInt ∧ ∃ z : Int32, z.toInt = (bn x1.toNatClampNeg).toInt - 1 ∧ r = bf x1.toNatClampNeg z.toNatClampNeg ∧ bgC bn un bf uf x1.toNatClampNeg z (bf x1.toNatClampNeg))
def takeR (x1 r : Int32) (gn hn g h : Nat → Int32) : Prop := h = g ∧ ((¬ (0 ≤ x1.toInt ∧ x1.toInt ≤ 2) ∧ r.toInt = -2 ∧ hn = gn) ∨ ((0 ≤ x1.toInt ∧ x1.toInt ≤ 2) ∧ (gn x1.toNatClampNeg).toInt ≤ 0 ∧ r.toInt = -1 ∧ hn = gn) ∨ ((0 ≤ x1.toInt ∧ x1.toInt ≤ 2) ∧ 0 < (gn x1.toNatClampNeg).toInt ∧ ∃ z : Int32, z.toInt = (gn x1.toNatClampNeg).toInt - 1 ∧ r = g (12 * x1.toNatClampNeg + z.toNatClampNeg) ∧ hn = upd gn x1.toNatClampNeg z))
theorem take_rel {x1 r r' : Int32} {bn un gn hn g h : Nat → Int32} {bf uf : Nat → Nat → Int32} (R : rlB bn bf gn g) (O : bgOk bn) (c : takeC x1 r bn un bf uf) (m : takeR x1 r' gn hn g h) : r = r' ∧ rlB un uf hn h := by
  obtain ⟨hh, m⟩ := m
  subst hh
  rcases c with ⟨c1, c2, c3⟩ | ⟨c1, c2, c3, c4⟩ | ⟨c1, c2, z, c3, c4, c5⟩
  · rcases m with ⟨m1, m2, m3⟩ | ⟨m1, _⟩ | ⟨m1, _⟩
    · subst m3; exact ⟨Int32.toInt_inj.1 (by omega), rlB_same R c3⟩
    · exact absurd m1 c1
    · exact absurd m1 c1
  · have hx : x1.toNatClampNeg < 3 := by have h2 := tn c1.1; omega
    have e := (R _ hx).1
    rcases m with ⟨m1, _⟩ | ⟨m1, m2, m3, m4⟩ | ⟨m1, m2, _⟩
    · exact absurd c1 m1
    · subst m4; exact ⟨Int32.toInt_inj.1 (by omega), rlB_same R c4⟩
    · rw [← e] at m2; omega
  · have hx : x1.toNatClampNeg < 3 := by have h2 := tn c1.1; omega
    have e := (R _ hx).1
    rcases m with ⟨m1, _⟩ | ⟨m1, m2, _⟩ | ⟨m1, m2, z', m3, m4, m5⟩
    · exact absurd c1 m1
    · rw [← e] at m2; omega
    · rw [← e] at m3
      have hz : z = z' := Int32.toInt_inj.1 (by omega)
      subst hz
      have o := O _ hx
      have t := tn (x := z) (by omega)
      refine ⟨by rw [c4, m4]; exact (R _ hx).2 _ (by omega), fun k hk => ?_⟩
      rw [m5]
      by_cases hkx : k = x1.toNatClampNeg
      · have q := (c5 k hk).1 hkx
        rw [q.1, q.2]
        subst hkx
        exact ⟨by simp only [upd, if_pos], fun i hi => (R _ hx).2 i (by omega)⟩
      · have q := (c5 k hk).2 hkx
        rw [q.1, q.2]
        exact ⟨by simp only [upd, if_neg hkx]; exact (R k hk).1, (R k hk).2⟩
/-- bagOf -/
def bagOfC (x1 x2 r : Int32) (bn : Nat → Int32) (bf : Nat → Nat → Int32) : Prop := (¬ (0 ≤ x1.toInt ∧ x1.toInt ≤ 2) ∧ r.toInt = -2) ∨ ((0 ≤ x1.toInt ∧ x1.toInt ≤ 2) ∧ ¬ (0 ≤ x2.toInt ∧ x2.toInt < (bn x1.toNatClampNeg).toInt) ∧ r.toInt = -12) ∨ ((0 ≤ x1.toInt ∧ x1.toInt ≤ 2) ∧ (0 ≤ x2.toInt ∧ x2.toInt < (bn x1.toNatClampNeg).toInt) ∧ r = bf x1.toNatClampNeg x2.toNatClampNeg)
theorem bagOf_rel {x1 x2 r r' : Int32} {bn gn g : Nat → Int32} {bf : Nat → Nat → Int32} (R : rlB bn bf gn g) (c : bagOfC x1 x2 r bn bf) (m : bagOfC x1 x2 r' gn (fun k i => g (12 * k + i))) : r = r' := by
  by_cases hb : 0 ≤ x1.toInt ∧ x1.toInt ≤ 2
  · have hx : x1.toNatClampNeg < 3 := by have h2 := tn hb.1; omega
    have e := (R _ hx).1
    rcases c with ⟨c1, c2⟩ | ⟨c1, c2, c3⟩ | ⟨c1, c2, c3⟩
    · exact absurd hb c1
    · rcases m with ⟨m1, m2⟩ | ⟨m1, m2, m3⟩ | ⟨m1, m2, m3⟩
      · exact absurd hb m1
      · exact Int32.toInt_inj.1 (by omega)
      · rw [← e] at m2; exact absurd m2 c2
    · rcases m with ⟨m1, m2⟩ | ⟨m1, m2, m3⟩ | ⟨m1, m2, m3⟩
      · exact absurd hb m1
      · rw [← e] at m2; exact absurd c2 m2
      · rw [c3, m3]
        have t := tn c2.1
        exact (R _ hx).2 _ (by omega)
  · rcases c with ⟨c1, c2⟩ | ⟨c1, _⟩ | ⟨c1, _⟩
    · rcases m with ⟨m1, m2⟩ | ⟨m1, _⟩ | ⟨m1, _⟩
      · exact Int32.toInt_inj.1 (by omega)
      · exact absurd m1 hb
      · exact absurd m1 hb
    · exact absurd c1 hb
    · exact absurd c1 hb
/-! the tape -/
theorem nI_back {x : Int32} (h : 0 ≤ x.toInt) : nI x.toNatClampNeg = x := by
  obtain ⟨j, hj, e⟩ := nI_of (x := x) (by rw [fa_lt, ti_0]; omega)
  subst e
  rw [nI_clamp hj]
theorem tnS {x y : Int32} (h : 0 ≤ x.toInt) (e : y.toInt = x.toInt + 1) : y.toNatClampNeg = x.toNatClampNeg + 1 := by
  have h1 := tn h
  have h2 := tn (x := y) (by omega)
  omega
theorem tnA {x y z : Int32} (hx : 0 ≤ x.toInt) (hy : 0 ≤ y.toInt) (e : z.toInt = x.toInt + y.toInt) : z.toNatClampNeg = x.toNatClampNeg + y.toNatClampNeg := by
  have h1 := tn hx
  have h2 := tn hy
  have h3 := tn (x := z) (by omega)
  omega
/-- the byte that comes as the i-th -/
def fdV (x i : Int32) : Int32 := ((x.toUInt32 >>> ((24 - (8 * i)).toUInt32 &&& Int32.toUInt32 31)).toInt32 &&& 255)
/-- the tape behind k of them -/
def fdF (f : Nat → Int32) (n : Nat) (x : Int32) : Nat → Nat → Int32
  | 0 => f
  | k + 1 => upd (fdF f n x k) (n + k) (fdV x (nI k))
theorem fdF_step {f g : Nat → Int32} {n ni i i' x v : Int32} (hn : 0 ≤ n.toInt) (h0 : 0 ≤ i.toInt) (hi : i'.toInt = i.toInt + 1) (hni : ni.toInt = n.toInt + i.toInt) (hg : g = fdF f n.toNatClampNeg x i.toNatClampNeg) (hv : v = fdV x i) : upd g ni.toNatClampNeg v = fdF f n.toNatClampNeg x i'.toNatClampNeg := by
  rw [tnS h0 hi, tnA hn h0 hni, hg, hv]
  show _ = upd (fdF f n.toNatClampNeg x i.toNatClampNeg) (n.toNatClampNeg + i.toNatClampNeg) (fdV x (nI i.toNatClampNeg))
  rw [nI_back h0]
/-! pour -/
/-- behind i of the first row F: how many stay, the first row, how many the second one has, the second row -/
def pourF (P : Int32 → Bool) (F G : Nat → Int32) (t0 : Nat) : Nat → Nat × (Nat → Int32) × Nat × (Nat → Int32)
  | 0 => (0, F, t0, G)
  | i + 1 => if P (F i) = true ∧ (pourF P F G t0 i).2.2.1 < 12 then ((pourF P F G t0 i).1, (pourF P F G t0 i).2.1, (pourF P F G t0 i).2.2.1 + 1, upd (pourF P F G t0 i).2.2.2 (pourF P F G t0 i).2.2.1 (F i)) else ((pourF P F G t0 i).1 + 1, upd (pourF P F G t0 i).2.1 (pourF P F G t0 i).1 (F i), (pourF P F G t0 i).2.2)
theorem pourF_yes {P : Int32 → Bool} {F G : Nat → Int32} {t0 i : Nat} (h : P (F i) = true) (h2 : (pourF P F G t0 i).2.2.1 < 12) : pourF P F G t0 (i + 1) = ((pourF P F G t0 i).1, (pourF P F G t0 i).2.1, (pourF P F G t0 i).2.2.1 + 1, upd (pourF P F G t0 i).2.2.2 (pourF P F G t0 i).2.2.1 (F i)) := if_pos ⟨h, h2⟩
theorem pourF_no {P : Int32 → Bool} {F G : Nat → Int32} {t0 i : Nat} (h : ¬ (P (F i) = true ∧ (pourF P F G t0 i).2.2.1 < 12)) : pourF P F G t0 (i + 1) = ((pourF P F G t0 i).1 + 1, upd (pourF P F G t0 i).2.1 (pourF P F G t0 i).1 (F i), (pourF P F G t0 i).2.2) := if_neg h
theorem pourF_le {P : Int32 → Bool} {F G : Nat → Int32} {t0 : Nat} : ∀ i : Nat, (pourF P F G t0 i).1 ≤ i
  | 0 => Nat.le_refl 0
  | i + 1 => by
    have h := pourF_le (P := P) (F := F) (G := G) (t0 := t0) i
    by_cases c : P (F i) = true ∧ (pourF P F G t0 i).2.2.1 < 12
    · rw [pourF_yes c.1 c.2]; show (pourF P F G t0 i).1 ≤ i + 1; omega
    · rw [pourF_no c]; show (pourF P F G t0 i).1 + 1 ≤ i + 1; omega
theorem pourF_keep {P : Int32 → Bool} {F G : Nat → Int32} {t0 : Nat} : ∀ (i j : Nat), (pourF P F G t0 i).1 ≤ j → (pourF P F G t0 i).2.1 j = F j
  | 0, _, _ => rfl
  | i + 1, j, h => by
    by_cases c : P (F i) = true ∧ (pourF P F G t0 i).2.2.1 < 12
    · rw [pourF_yes c.1 c.2] at h ⊢
      exact pourF_keep i j h
    · rw [pourF_no c] at h ⊢
      have h : (pourF P F G t0 i).1 + 1 ≤ j := h
      show upd (pourF P F G t0 i).2.1 (pourF P F G t0 i).1 (F i) j = F j
      simp only [upd]
      rw [if_neg (by omega)]
      exact pourF_keep i j (by omega)
theorem pourF_t {P : Int32 → Bool} {F G : Nat → Int32} {t0 : Nat} (ht : t0 ≤ 12) : ∀ i : Nat, (pourF P F G t0 i).2.2.1 ≤ 12
  | 0 => ht
  | i + 1 => by
    by_cases c : P (F i) = true ∧ (pourF P F G t0 i).2.2.1 < 12
    · rw [pourF_yes c.1 c.2]; show (pourF P F G t0 i).2.2.1 + 1 ≤ 12; omega
    · rw [pourF_no c]; exact pourF_t ht i
theorem pourF_ext {P : Int32 → Bool} {F G F' G' : Nat → Int32} {t0 m : Nat} (hF : ∀ j : Nat, j < m → F j = F' j) (hG : ∀ j : Nat, j < t0 → G j = G' j) : ∀ i : Nat, i ≤ m → (pourF P F G t0 i).1 = (pourF P F' G' t0 i).1 ∧ (pourF P F G t0 i).2.2.1 = (pourF P F' G' t0 i).2.2.1 ∧ (∀ j : Nat, j < (pourF P F G t0 i).1 → (pourF P F G t0 i).2.1 j = (pourF P F' G' t0 i).2.1 j) ∧ ∀ j : Nat, j < (pourF P F G t0 i).2.2.1 → (pourF P F G t0 i).2.2.2 j = (pourF P F' G' t0 i).2.2.2 j
  | 0, _ => ⟨rfl, rfl, fun j hj => absurd hj (Nat.not_lt_zero j), hG⟩
  | i + 1, h => by
    obtain ⟨h1, h2, h3, h4⟩ := pourF_ext (P := P) hF hG i (by omega)
    have e := hF i (by omega)
    by_cases c : P (F i) = true ∧ (pourF P F G t0 i).2.2.1 < 12
    · have c' : P (F' i) = true ∧ (pourF P F' G' t0 i).2.2.1 < 12 := by rw [← e, ← h2]; exact c
      rw [pourF_yes c.1 c.2, pourF_yes c'.1 c'.2]
      refine ⟨h1, by show _ + 1 = _ + 1; rw [h2], h3, fun j hj => ?_⟩
      have hj : j < (pourF P F G t0 i).2.2.1 + 1 := hj
      show upd (pourF P F G t0 i).2.2.2 (pourF P F G t0 i).2.2.1 (F i) j = upd (pourF P F' G' t0 i).2.2.2 (pourF P F' G' t0 i).2.2.1 (F' i) j
      rw [← h2, ← e]
      simp only [upd]
      by_cases q : j = (pourF P F G t0 i).2.2.1
      · rw [if_pos q, if_pos q]
      · rw [if_neg q, if_neg q]
        exact h4 j (by omega)
    · have c' : ¬ (P (F' i) = true ∧ (pourF P F' G' t0 i).2.2.1 < 12) := by rw [← e, ← h2]; exact c
      rw [pourF_no c, pourF_no c']
      refine ⟨by show _ + 1 = _ + 1; rw [h1], h2, fun j hj => ?_, h4⟩
      have hj : j < (pourF P F G t0 i).1 + 1 := hj
      show upd (pourF P F G t0 i).2.1 (pourF P F G t0 i).1 (F i) j = upd (pourF P F' G' t0 i).2.1 (pourF P F' G' t0 i).1 (F' i) j
      rw [← h1, ← e]
      simp only [upd]
      by_cases q : j = (pourF P F G t0 i).1
      · rw [if_pos q, if_pos q]
      · rw [if_neg q, if_neg q]
        exact h3 j (by omega)
/-- which clauses are poured -/
def prP (k n9 : Int32) (fk : Nat → Int32) (x : Int32) : Bool := decide (k.toInt = -1 ∨ ((0 ≤ x.toInt ∧ x.toInt < n9.toInt) ∧ (fk x.toNatClampNeg).toInt = k.toInt))
theorem prP_ext {k n9 : Int32} {fk gk : Nat → Int32} (h : ∀ j : Nat, (j : Int) < n9.toInt → fk j = gk j) : prP k n9 fk = prP k n9 gk := by
  funext x
  unfold prP
  by_cases c : 0 ≤ x.toInt ∧ x.toInt < n9.toInt
  · have h2 := tn c.1
    rw [h x.toNatClampNeg (by omega)]
  · simp only [c, false_and]
abbrev pourV (x1 x2 x3 : Int32) : Prop := ((0 ≤ x1.toInt ∧ x1.toInt ≤ 2) ∧ 0 ≤ x2.toInt ∧ x2.toInt ≤ 2) ∧ x1.toInt ≠ x2.toInt ∧ -1 ≤ x3.toInt ∧ x3.toInt ≤ 12
/-- pour, in the class -/
def pourC (n9 x1 x2 x3 r : Int32) (fk bn un : Nat → Int32) (bf uf : Nat → Nat → Int32) : Prop := (¬ pourV x1 x2 x3 ∧ r.toInt = -2 ∧ bgS bn un bf uf) ∨ (pourV x1 x2 x3 ∧ ∃ p : Nat × (Nat → Int32) × Nat × (Nat → Int32), p = pourF (prP x3 n9 fk) (bf x1.toNatClampNeg) (bf x2.toNatClampNeg) (bn x2.toNatClampNeg).toNatClampNeg (bn x1.toNatClampNeg).toNatClampNeg ∧ r.toInt = (bn x1.toNatClampNeg).toInt - p.1 ∧ ∀ k : Nat, k < 3 → (k = x1.toNatClampNeg → (un k).toInt = p.1 ∧ uf k = p.2.1) ∧ (k = x2.toNatClampNeg → (un k).toInt = p.2.2.1 ∧ uf k = p.2.2.2) ∧ (k ≠ x1.toNatClampNeg → k ≠ x2.toNatClampNeg → un k = bn k ∧ uf k = bf k))
/-- pour, in the reference -/
def pourR (n9 x1 x2 x3 r : Int32) (fk gn hn g h : Nat → Int32) : Prop := (¬ pourV x1 x2 x3 ∧ r.toInt = -2 ∧ hn = gn ∧ h = g) ∨ (pourV x1 x2 x3 ∧ ∃ p : Nat × (Nat → Int32) × Nat × (Nat → Int32), p = pourF (prP x3 n9 fk) (fun i => g (12 * x1.toNatClampNeg + i)) (fun i => g (12 * x2.toNatClampNeg + i)) (gn x2.toNatClampNeg).toNatClampNeg (gn x1.toNatClampNeg).toNatClampNeg ∧ r.toInt = (gn x1.toNatClampNeg).toInt - p.1 ∧ ∀ k : Nat, k < 3 → (k = x1.toNatClampNeg → (hn k).toInt = p.1 ∧ ∀ i : Nat, i < 12 → h (12 * k + i) = p.2.1 i) ∧ (k = x2.toNatClampNeg → (hn k).toInt = p.2.2.1 ∧ ∀ i : Nat, i < 12 → h (12 * k + i) = p.2.2.2 i) ∧ (k ≠ x1.toNatClampNeg → k ≠ x2.toNatClampNeg → hn k = gn k ∧ ∀ i : Nat, i < 12 → h (12 * k + i) = g (12 * k + i)))
theorem pour_rel {n9 x1 x2 x3 r r' : Int32} {fk gk bn un gn hn g h : Nat → Int32} {bf uf : Nat → Nat → Int32} (R : rlB bn bf gn g) (O : bgOk bn) (K : ∀ j : Nat, (j : Int) < n9.toInt → fk j = gk j) (c : pourC n9 x1 x2 x3 r fk bn un bf uf) (m : pourR n9 x1 x2 x3 r' gk gn hn g h) : r = r' ∧ rlB un uf hn h := by
  rcases c with ⟨c1, c2, c3⟩ | ⟨c1, p, c2, c3, c4⟩
  · rcases m with ⟨m1, m2, m3, m4⟩ | ⟨m1, _⟩
    · subst m3; subst m4; exact ⟨Int32.toInt_inj.1 (by omega), rlB_same R c3⟩
    · exact absurd m1 c1
  · rcases m with ⟨m1, _⟩ | ⟨m1, q, m2, m3, m4⟩
    · exact absurd c1 m1
    · have hx1 : x1.toNatClampNeg < 3 := by have h2 := tn c1.1.1.1; omega
      have hx2 : x2.toNatClampNeg < 3 := by have h2 := tn c1.1.2.1; omega
      have hne : x1.toNatClampNeg ≠ x2.toNatClampNeg := by have h2 := tn c1.1.1.1; have h3 := tn c1.1.2.1; omega
      have e1 := (R _ hx1).1
      have e2 := (R _ hx2).1
      have o1 := O _ hx1
      have o2 := O _ hx2
      have t1 := tn o1.1
      have t2 := tn o2.1
      rw [← e1, ← e2, ← prP_ext K] at m2
      obtain ⟨a1, a2, a3, a4⟩ := pourF_ext (P := prP x3 n9 fk) (t0 := (bn x2.toNatClampNeg).toNatClampNeg) (m := (bn x1.toNatClampNeg).toNatClampNeg) (F := bf x1.toNatClampNeg) (F' := fun i => g (12 * x1.toNatClampNeg + i)) (G := bf x2.toNatClampNeg) (G' := fun i => g (12 * x2.toNatClampNeg + i)) (fun j hj => (R _ hx1).2 j (by omega)) (fun j hj => (R _ hx2).2 j (by omega)) _ (Nat.le_refl _)
      have b1 := pourF_le (P := prP x3 n9 fk) (F := bf x1.toNatClampNeg) (G := bf x2.toNatClampNeg) (t0 := (bn x2.toNatClampNeg).toNatClampNeg) (bn x1.toNatClampNeg).toNatClampNeg
      have b2 := pourF_t (P := prP x3 n9 fk) (F := bf x1.toNatClampNeg) (G := bf x2.toNatClampNeg) (t0 := (bn x2.toNatClampNeg).toNatClampNeg) (by omega) (bn x1.toNatClampNeg).toNatClampNeg
      rw [← c2] at a1 a2 a3 a4 b1 b2
      rw [← m2] at a1 a2 a3 a4
      rw [← e1] at m3
      refine ⟨Int32.toInt_inj.1 (by omega), fun k hk => ?_⟩
      obtain ⟨c5, c6, c7⟩ := c4 k hk
      obtain ⟨m5, m6, m7⟩ := m4 k hk
      by_cases k1 : k = x1.toNatClampNeg
      · obtain ⟨u1, u2⟩ := c5 k1
        obtain ⟨v1, v2⟩ := m5 k1
        refine ⟨Int32.toInt_inj.1 (by omega), fun i hi => ?_⟩
        rw [u2, v2 i (by omega)]
        exact a3 i (by omega)
      · by_cases k2 : k = x2.toNatClampNeg
        · obtain ⟨u1, u2⟩ := c6 k2
          obtain ⟨v1, v2⟩ := m6 k2
          refine ⟨Int32.toInt_inj.1 (by omega), fun i hi => ?_⟩
          rw [u2, v2 i (by omega)]
          exact a4 i (by omega)
        · obtain ⟨u1, u2⟩ := c7 k1 k2
          obtain ⟨v1, v2⟩ := m7 k1 k2
          have o := O k hk
          refine ⟨by rw [u1, v1]; exact (R k hk).1, fun i hi => ?_⟩
          rw [u1] at hi
          rw [u2, v2 i (by omega)]
          exact (R k hk).2 i hi
theorem pour_stepY {P : Int32 → Bool} {F G : Nat → Int32} {t0 : Nat} {ii ii' le qq qq' z : Int32} {gf gt gt' : Nat → Int32} (h0 : 0 ≤ ii.toInt) (hi : ii'.toInt = ii.toInt + 1) (h1 : le.toInt = (pourF P F G t0 ii.toNatClampNeg).1) (h2 : gf = (pourF P F G t0 ii.toNatClampNeg).2.1) (h3 : qq.toInt = (pourF P F G t0 ii.toNatClampNeg).2.2.1) (h4 : gt = (pourF P F G t0 ii.toNatClampNeg).2.2.2) (hz : z = F ii.toNatClampNeg) (hP : P z = true) (hq : qq.toInt < 12) (hq' : qq'.toInt = qq.toInt + 1) (hg : gt' = upd gt qq.toNatClampNeg z) : le.toInt = (pourF P F G t0 ii'.toNatClampNeg).1 ∧ gf = (pourF P F G t0 ii'.toNatClampNeg).2.1 ∧ qq'.toInt = (pourF P F G t0 ii'.toNatClampNeg).2.2.1 ∧ gt' = (pourF P F G t0 ii'.toNatClampNeg).2.2.2 := by
  have t := tn (x := qq) (by omega)
  rw [tnS h0 hi, pourF_yes (by rw [← hz]; exact hP) (by omega)]
  refine ⟨h1, h2, by show qq'.toInt = (((pourF P F G t0 ii.toNatClampNeg).2.2.1 + 1 : Nat) : Int); omega, ?_⟩
  show gt' = upd (pourF P F G t0 ii.toNatClampNeg).2.2.2 (pourF P F G t0 ii.toNatClampNeg).2.2.1 (F ii.toNatClampNeg)
  rw [hg, ← h4, hz, show qq.toNatClampNeg = (pourF P F G t0 ii.toNatClampNeg).2.2.1 by omega]
theorem pour_stepN {P : Int32 → Bool} {F G : Nat → Int32} {t0 : Nat} {ii ii' le le' qq qq' z : Int32} {gf gf' gt gt' : Nat → Int32} (h0 : 0 ≤ ii.toInt) (hle : 0 ≤ le.toInt) (hi : ii'.toInt = ii.toInt + 1) (h1 : le.toInt = (pourF P F G t0 ii.toNatClampNeg).1) (h2 : gf = (pourF P F G t0 ii.toNatClampNeg).2.1) (h3 : qq.toInt = (pourF P F G t0 ii.toNatClampNeg).2.2.1) (h4 : gt = (pourF P F G t0 ii.toNatClampNeg).2.2.2) (hz : z = F ii.toNatClampNeg) (hN : ¬ (P z = true ∧ qq.toInt < 12)) (hl : le'.toInt = le.toInt + 1) (hg : gf' = upd gf le.toNatClampNeg z) (hq : qq'.toInt = qq.toInt) (hgt : gt' = gt) : le'.toInt = (pourF P F G t0 ii'.toNatClampNeg).1 ∧ gf' = (pourF P F G t0 ii'.toNatClampNeg).2.1 ∧ qq'.toInt = (pourF P F G t0 ii'.toNatClampNeg).2.2.1 ∧ gt' = (pourF P F G t0 ii'.toNatClampNeg).2.2.2 := by
  have t := tn hle
  rw [tnS h0 hi, pourF_no (by rw [← hz]; intro h9; exact hN ⟨h9.1, by omega⟩)]
  refine ⟨by show le'.toInt = (((pourF P F G t0 ii.toNatClampNeg).1 + 1 : Nat) : Int); omega, ?_, by rw [hq]; exact h3, by rw [hgt]; exact h4⟩
  show gf' = upd (pourF P F G t0 ii.toNatClampNeg).2.1 (pourF P F G t0 ii.toNatClampNeg).1 (F ii.toNatClampNeg)
  rw [hg, ← h2, hz, show le.toNatClampNeg = (pourF P F G t0 ii.toNatClampNeg).1 by omega]
/-! hands -/
theorem all4' {P : Nat → Prop} (h0 : P 0) (h1 : P 1) (h2 : P 2) (h3 : P 3) : ∀ k : Nat, k < 4 → P k
  | 0, _ => h0
  | 1, _ => h1
  | 2, _ => h2
  | 3, _ => h3
  | k + 4, h => absurd h (by omega)
/-- how the class's hands lie in the reference's rows -/
def rlH (jz jn : Nat → Int32) (hz : Nat → Int32) (ha : Nat → Int64) : Prop := ∀ k : Nat, k < 4 → jz k = hz k ∧ ((jz k).toInt = 1 → jn k = (ha k).toInt32)
abbrev hdV (n9 h s : Int32) (v w : Int64) : Prop := (0 ≤ h.toInt ∧ h.toInt ≤ 3) ∧ (0 ≤ s.toInt ∧ s.toInt ≤ 2) ∧ (s.toInt = 1 → 0 ≤ v.toInt ∧ v.toInt < n9.toInt) ∧ (s.toInt = 2 → 1 ≤ w.toInt ∧ v.toInt ≠ -9223372036854775808)
def holdC (n9 h s r : Int32) (v w : Int64) (jz jn uz un : Nat → Int32) : Prop := (¬ hdV n9 h s v w ∧ r.toInt = -2 ∧ ∀ k : Nat, k < 4 → uz k = jz k ∧ un k = jn k) ∨ (hdV n9 h s v w ∧ r = jz h.toNatClampNeg ∧ ∀ k : Nat, k < 4 → (k = h.toNatClampNeg → uz k = s ∧ (s.toInt = 1 → un k = v.toInt32)) ∧ (k ≠ h.toNatClampNeg → uz k = jz k ∧ un k = jn k))
def holdR (n9 h s r : Int32) (v w : Int64) (hz wz : Nat → Int32) (ha wa : Nat → Int64) : Prop := (¬ hdV n9 h s v w ∧ r.toInt = -2 ∧ wz = hz ∧ wa = ha) ∨ (hdV n9 h s v w ∧ r = hz h.toNatClampNeg ∧ wz = upd hz h.toNatClampNeg s ∧ (s.toInt = 1 → wa h.toNatClampNeg = v) ∧ ∀ k : Nat, k ≠ h.toNatClampNeg → wa k = ha k)
theorem hold_rel {n9 h s r r' : Int32} {v w : Int64} {jz jn uz un hz wz : Nat → Int32} {ha wa : Nat → Int64} (R : rlH jz jn hz ha) (c : holdC n9 h s r v w jz jn uz un) (m : holdR n9 h s r' v w hz wz ha wa) : r = r' ∧ rlH uz un wz wa := by
  rcases c with ⟨c1, c2, c3⟩ | ⟨c1, c2, c3⟩
  · rcases m with ⟨m1, m2, m3, m4⟩ | ⟨m1, _⟩
    · subst m3; subst m4
      refine ⟨Int32.toInt_inj.1 (by omega), fun k hk => ?_⟩
      rw [(c3 k hk).1, (c3 k hk).2]
      exact R k hk
    · exact absurd m1 c1
  · rcases m with ⟨m1, _⟩ | ⟨m1, m2, m3, m4, m5⟩
    · exact absurd c1 m1
    · have hh : h.toNatClampNeg < 4 := by have h2 := tn c1.1.1; have h3 := c1.1.2; omega
      refine ⟨by rw [c2, m2]; exact (R _ hh).1, fun k hk => ?_⟩
      rw [m3]
      by_cases e : k = h.toNatClampNeg
      · obtain ⟨a1, a2⟩ := (c3 k hk).1 e
        rw [a1]
        subst e
        refine ⟨by simp only [upd, if_pos], fun h9 => ?_⟩
        rw [a2 h9, m4 h9]
      · obtain ⟨a1, a2⟩ := (c3 k hk).2 e
        rw [a1, a2, m5 k e]
        refine ⟨by simp only [upd, if_neg e]; exact (R k hk).1, (R k hk).2⟩
/-! pour, in the reference's one row -/
abbrev pourG (P : Int32 → Bool) (f12 f13 : Nat → Int32) (X1 X2 i : Nat) : Nat × (Nat → Int32) × Nat × (Nat → Int32) := pourF P (fun j => f12 (12 * X1 + j)) (fun j => f12 (12 * X2 + j)) (f13 X2).toNatClampNeg i
def pourJ (P : Int32 → Bool) (f12 f13 : Nat → Int32) (X1 X2 i : Nat) (st ca : Int32) (g12 g13 : Nat → Int32) : Prop := (st.toInt = (pourG P f12 f13 X1 X2 i).1 ∧ ca.toInt = (i : Int) - (pourG P f12 f13 X1 X2 i).1) ∧ (∀ k : Nat, k < 3 → (k = X2 → (g13 k).toInt = (pourG P f12 f13 X1 X2 i).2.2.1) ∧ (k ≠ X2 → g13 k = f13 k)) ∧ ∀ k : Nat, k < 3 → ∀ j : Nat, j < 12 → g12 (12 * k + j) = if k = X1 then (pourG P f12 f13 X1 X2 i).2.1 j else if k = X2 then (pourG P f12 f13 X1 X2 i).2.2.2 j else f12 (12 * k + j)
theorem pourJ_0 {P : Int32 → Bool} {f12 f13 : Nat → Int32} {X1 X2 : Nat} (hx : X2 < 3) (h0 : 0 ≤ (f13 X2).toInt) : pourJ P f12 f13 X1 X2 0 0 0 f12 f13 := by
  refine ⟨⟨show (0 : Int32).toInt = ((0 : Nat) : Int) by decide, show (0 : Int32).toInt = ((0 : Nat) : Int) - ((0 : Nat) : Int) by decide⟩, fun k hk => ⟨fun e => ?_, fun _ => rfl⟩, fun k hk j hj => ?_⟩
  · rw [e]; exact (tn h0).symm
  · show f12 (12 * k + j) = if k = X1 then f12 (12 * X1 + j) else if k = X2 then f12 (12 * X2 + j) else f12 (12 * k + j)
    by_cases c : k = X1
    · rw [if_pos c, c]
    · rw [if_neg c]
      by_cases c2 : k = X2
      · rw [if_pos c2, c2]
      · rw [if_neg c2]
theorem pourJ_z {P : Int32 → Bool} {f12 f13 g12 g13 : Nat → Int32} {X1 X2 i : Nat} {st ca z : Int32} (h : pourJ P f12 f13 X1 X2 i st ca g12 g13) (h1 : X1 < 3) (hi : i < 12) (hz : z = g12 (12 * X1 + i)) : z = f12 (12 * X1 + i) := by
  rw [hz, h.2.2 X1 h1 i hi, if_pos rfl]
  exact pourF_keep i i (pourF_le i)
theorem pourJ_yes {P : Int32 → Bool} {f12 f13 g12 g13 : Nat → Int32} {X1 X2 i : Nat} {st ca ca' z q q' : Int32} (h : pourJ P f12 f13 X1 X2 i st ca g12 g13) (h1 : X1 < 3) (h2 : X2 < 3) (hne : X1 ≠ X2) (hz : z = f12 (12 * X1 + i)) (hP : P z = true) (hq : q = g13 X2) (hq0 : 0 ≤ q.toInt ∧ q.toInt < 12) (hq' : q'.toInt = q.toInt + 1) (hca : ca'.toInt = ca.toInt + 1) : pourJ P f12 f13 X1 X2 (i + 1) st ca' (upd g12 (12 * X2 + q.toNatClampNeg) z) (upd g13 X2 q') := by
  obtain ⟨⟨a1, a2⟩, a3, a4⟩ := h
  have t := tn hq0.1
  have b := (a3 X2 h2).1 rfl
  rw [← hq] at b
  have e : pourG P f12 f13 X1 X2 (i + 1) = ((pourG P f12 f13 X1 X2 i).1, (pourG P f12 f13 X1 X2 i).2.1, (pourG P f12 f13 X1 X2 i).2.2.1 + 1, upd (pourG P f12 f13 X1 X2 i).2.2.2 (pourG P f12 f13 X1 X2 i).2.2.1 z) := by rw [hz]; exact pourF_yes (by rw [← hz]; exact hP) (show (pourG P f12 f13 X1 X2 i).2.2.1 < 12 by omega)
  unfold pourJ
  rw [e]
  refine ⟨⟨a1, ?_⟩, fun k hk => ⟨fun ek => ?_, fun ek => ?_⟩, fun k hk j hj => ?_⟩
  · show ca'.toInt = ((i + 1 : Nat) : Int) - ((pourG P f12 f13 X1 X2 i).1 : Nat)
    omega
  · show (upd g13 X2 q' k).toInt = (((pourG P f12 f13 X1 X2 i).2.2.1 + 1 : Nat) : Int)
    simp only [upd, if_pos ek]
    omega
  · simp only [upd, if_neg ek]
    exact (a3 k hk).2 ek
  · show upd g12 (12 * X2 + q.toNatClampNeg) z (12 * k + j) = if k = X1 then (pourG P f12 f13 X1 X2 i).2.1 j else if k = X2 then upd (pourG P f12 f13 X1 X2 i).2.2.2 (pourG P f12 f13 X1 X2 i).2.2.1 z j else f12 (12 * k + j)
    have a := a4 k hk j hj
    simp only [upd]
    by_cases c : k = X1
    · rw [if_pos c, if_neg (by omega)]
      rw [if_pos c] at a
      exact a
    · rw [if_neg c] at a ⊢
      by_cases c2 : k = X2
      · rw [if_pos c2] at a ⊢
        by_cases c3 : j = (pourG P f12 f13 X1 X2 i).2.2.1
        · rw [if_pos c3, if_pos (by omega)]
        · rw [if_neg c3, if_neg (by omega)]
          exact a
      · rw [if_neg c2] at a ⊢
        rw [if_neg (by omega)]
        exact a
theorem pourJ_no {P : Int32 → Bool} {f12 f13 g12 g13 : Nat → Int32} {X1 X2 i : Nat} {st st' ca z : Int32} (h : pourJ P f12 f13 X1 X2 i st ca g12 g13) (h1 : X1 < 3) (h2 : X2 < 3) (hne : X1 ≠ X2) (hz : z = f12 (12 * X1 + i)) (hN : ¬ (P z = true ∧ (g13 X2).toInt < 12)) (hs : 0 ≤ st.toInt ∧ st.toInt < 12) (hst : st'.toInt = st.toInt + 1) : pourJ P f12 f13 X1 X2 (i + 1) st' ca (upd g12 (12 * X1 + st.toNatClampNeg) z) g13 := by
  obtain ⟨⟨a1, a2⟩, a3, a4⟩ := h
  have t := tn hs.1
  have b := (a3 X2 h2).1 rfl
  have e : pourG P f12 f13 X1 X2 (i + 1) = ((pourG P f12 f13 X1 X2 i).1 + 1, upd (pourG P f12 f13 X1 X2 i).2.1 (pourG P f12 f13 X1 X2 i).1 z, (pourG P f12 f13 X1 X2 i).2.2) := by rw [hz]; exact pourF_no (by rw [← hz]; intro h9; exact hN ⟨h9.1, by have h8 : (pourG P f12 f13 X1 X2 i).2.2.1 < 12 := h9.2; omega⟩)
  unfold pourJ
  rw [e]
  refine ⟨⟨?_, ?_⟩, a3, fun k hk j hj => ?_⟩
  · show st'.toInt = (((pourG P f12 f13 X1 X2 i).1 + 1 : Nat) : Int)
    omega
  · show ca.toInt = ((i + 1 : Nat) : Int) - (((pourG P f12 f13 X1 X2 i).1 + 1 : Nat) : Int)
    omega
  · show upd g12 (12 * X1 + st.toNatClampNeg) z (12 * k + j) = if k = X1 then upd (pourG P f12 f13 X1 X2 i).2.1 (pourG P f12 f13 X1 X2 i).1 z j else if k = X2 then (pourG P f12 f13 X1 X2 i).2.2.2 j else f12 (12 * k + j)
    have a := a4 k hk j hj
    simp only [upd]
    by_cases c : k = X1
    · rw [if_pos c] at a ⊢
      by_cases c3 : j = (pourG P f12 f13 X1 X2 i).1
      · rw [if_pos c3, if_pos (by omega)]
      · rw [if_neg c3, if_neg (by omega)]
        exact a
    · rw [if_neg c] at a ⊢
      rw [if_neg (by omega)]
      exact a
theorem pourJ_end {n9 x1 x2 x3 r st : Int32} {fk f12 f13 g12 g13 : Nat → Int32} {i : Nat} (V : pourV x1 x2 x3) (h : pourJ (prP x3 n9 fk) f12 f13 x1.toNatClampNeg x2.toNatClampNeg i st r g12 g13) (hi : i = (f13 x1.toNatClampNeg).toNatClampNeg) (h0 : 0 ≤ (f13 x1.toNatClampNeg).toInt) : pourR n9 x1 x2 x3 r fk f13 (upd g13 x1.toNatClampNeg st) f12 g12 := by
  subst hi
  obtain ⟨⟨a1, a2⟩, a3, a4⟩ := h
  have t := tn h0
  have t1 := tn V.1.1.1
  have t2 := tn V.1.2.1
  have hne : x1.toNatClampNeg ≠ x2.toNatClampNeg := by have := V.2.1; omega
  refine Or.inr ⟨V, _, rfl, ?_, fun k hk => ⟨fun e => ⟨?_, fun j hj => ?_⟩, fun e => ⟨?_, fun j hj => ?_⟩, fun e1 e2 => ⟨?_, fun j hj => ?_⟩⟩⟩
  · show r.toInt = (f13 x1.toNatClampNeg).toInt - ((pourG (prP x3 n9 fk) f12 f13 x1.toNatClampNeg x2.toNatClampNeg (f13 x1.toNatClampNeg).toNatClampNeg).1 : Nat)
    omega
  · simp only [upd, if_pos e]; exact a1
  · have a := a4 k hk j hj
    rw [if_pos e] at a
    exact a
  · simp only [upd]
    rw [if_neg (by omega)]
    exact (a3 k hk).1 e
  · have a := a4 k hk j hj
    rw [if_neg (by omega), if_pos e] at a
    exact a
  · simp only [upd, if_neg e1]
    exact (a3 k hk).2 e2
  · have a := a4 k hk j hj
    rw [if_neg e1, if_neg e2] at a
    exact a
theorem dX1_append_0 : decode cX1_append 0 = .ok (.aload_n 0, 1) := by decide +kernel
theorem dX1_append_1 : decode cX1_append 1 = .ok (.getfield 9, 3) := by decide +kernel
theorem dX1_append_10 : decode cX1_append 10 = .ok (.ireturn, 1) := by decide +kernel
theorem dX1_append_11 : decode cX1_append 11 = .ok (.aload_n 0, 1) := by decide +kernel
theorem dX1_append_12 : decode cX1_append 12 = .ok (.getfield 15, 3) := by decide +kernel
theorem dX1_append_15 : decode cX1_append 15 = .ok (.aload_n 0, 1) := by decide +kernel
theorem dX1_append_16 : decode cX1_append 16 = .ok (.getfield 9, 3) := by decide +kernel
theorem dX1_append_19 : decode cX1_append 19 = .ok (.iload_n 1, 1) := by decide +kernel
theorem dX1_append_20 : decode cX1_append 20 = .ok (.iastore, 1) := by decide +kernel
theorem dX1_append_21 : decode cX1_append 21 = .ok (.aload_n 0, 1) := by decide +kernel
theorem dX1_append_22 : decode cX1_append 22 = .ok (.dup, 1) := by decide +kernel
theorem dX1_append_23 : decode cX1_append 23 = .ok (.getfield 9, 3) := by decide +kernel
theorem dX1_append_26 : decode cX1_append 26 = .ok (.iconst 1, 1) := by decide +kernel
theorem dX1_append_27 : decode cX1_append 27 = .ok (.iadd, 1) := by decide +kernel
theorem dX1_append_28 : decode cX1_append 28 = .ok (.putfield 9, 3) := by decide +kernel
theorem dX1_append_31 : decode cX1_append 31 = .ok (.iconst 1, 1) := by decide +kernel
theorem dX1_append_32 : decode cX1_append 32 = .ok (.ireturn, 1) := by decide +kernel
theorem dX1_append_4 : decode cX1_append 4 = .ok (.bipush 12, 2) := by decide +kernel
theorem dX1_append_6 : decode cX1_append 6 = .ok (.if_icmp .lt 5, 3) := by decide +kernel
theorem dX1_append_9 : decode cX1_append 9 = .ok (.iconst 0, 1) := by decide +kernel
set_option maxRecDepth 20000 in
theorem in_X1_append_X1 : ∀ w ∈ wsX10, w ∈ wsX1_append := sub_r [3, 4] rfl
set_option maxHeartbeats 4000000 in
set_option maxRecDepth 100000 in
theorem c_X1_append (l : Launch) (D : va_G) (T : Nat → ClassId) (sz : Nat) (h0 : Nat) (n : Int32) (a0 : Nat) (f : Nat → Int32) (x1 : Int32) (hn : 0 ≤ n.toInt ∧ n.toInt ≤ 12) : Met l yX1_append wsX1_append ({ frames := 0, cells := 0, slots := 0, locals := 0 }) (pW [.ref h0, .int x1] D T [(h0, .inr (0, [.int n, .ref a0])), (a0, .inl (T 0, 12, .inl f))] sz) (va_Qi (fun (r : Int32) (u : Int32 × (Nat → Int32)) => (r = if n.toInt < 12 then 1 else 0) ∧ (0 ≤ u.1.toInt ∧ u.1.toInt ≤ 12) ∧ ((n).toInt < 12 → u.1.toInt = (n).toInt + 1 ∧ u.2 = upd f ((n).toNatClampNeg) x1) ∧ (¬ (n).toInt < 12 → u.1 = n ∧ u.2 = f)) (bW D (va_A [(h0, .inr (0, [.int n, .ref a0])), (a0, .inl (T 0, 12, .inl f))] sz) (fun (u : Int32 × (Nat → Int32)) => [(h0, .inr (0, [.int u.1, .ref a0])), (a0, .inl (T 0, 12, .inl u.2))])) (va_A [(h0, .inr (0, [.int n, .ref a0])), (a0, .inl (T 0, 12, .inl f))] sz)) 0 0 (va_A [(h0, .inr (0, [.int n, .ref a0])), (a0, .inl (T 0, 12, .inl f))] sz) := by
  refine Met.ofW (cc := cX1_append) (maxL := 2) (ret := (some .boolean)) (by decide +kernel) rfl ?_
  intro p e s m args below meth c s₁ B hml hv
  obtain ⟨rfl, hsz, hP, hE, hD0⟩ := hv
  have hx := B.exec
  have hb := B.bytes
  have hr := B.returns
  have hts := atoms_spec (ws := wsX1_append) B.pre
  have hown : s.vm.findClass RX1 = some m.cls := findClass_of_methodNamed B.named
  have hlocks := B.notSynchronized
  subst hsz
  have hD := hD0.self (sz := s.heap.size)
  generalize hAe : va_A [(h0, .inr (0, [.int n, .ref a0])), (a0, .inl (T 0, 12, .inl f))] s.heap.size = A at hD ⊢
  have hA : ∀ q : Nat, s.heap.size ≤ q → A q := fun q h => by rw [← hAe]; exact Or.inr h
  have hS : va_S A s.heap s.heap [] := va_S.rf
  have hP : va_P D vwCl [(h0, .inr (0, [.int n, .ref a0])), (a0, .inl (T 0, 12, .inl f))] s.heap := hP
  have hl := lv_entry ([.ref h0, .int x1]) (n := 2) (Nat.le_of_ble_eq_true rfl)
  rw [lg_entry_eq]
  generalize (lg_sl ([.ref h0, .int x1]) ++ List.replicate (2 - (lg_sl ([.ref h0, .int x1])).length) Slot.unset).toArray = ls at hl ⊢
  have hl : lv_has ls 2 [(0, .ref h0), (1, .int x1)] := hl
  clear hD0
  refine lv_aload_n hx hb dX1_append_0 rfl (lv_at hl 0 rfl) ?_
  refine va_get (D := D) (ci := 0) (v := .int n) (C := RX1) (T := TX1) (N := 2) hx hb hts in_X1_append_X1 hown hE.1 hP 0 rfl rfl 0 (by decide +kernel) (hts (.fieldLink RX1 9 "ClauseBook$Bag" "size" "I") (List.mem_of_getElem? (i := 1) rfl)) (fun _ h9 => h9) rfl dX1_append_1 ?_
  refine lv_bipush (v := 12) hx hb dX1_append_4 (by decide +kernel) ?_
  refine lv_icmp_lt (tgt := 11) hx hb dX1_append_6 (by decide +kernel) (fun c_1 => ?_) (fun c_1 => ?_)
  · rw [fa_lt] at c_1
    try rw [ti_12] at c_1
    refine lv_aload_n hx hb dX1_append_11 rfl (lv_at hl 0 rfl) ?_
    refine va_get (D := D) (ci := 0) (v := .ref a0) (C := RX1) (T := TX1) (N := 2) hx hb hts in_X1_append_X1 hown hE.1 hP 0 rfl rfl 1 (by decide +kernel) (hts (.fieldLink RX1 15 "ClauseBook$Bag" "numbers" "[I") (List.mem_of_getElem? (i := 2) rfl)) (fun _ h9 => h9) rfl dX1_append_12 ?_
    refine lv_aload_n hx hb dX1_append_15 rfl (lv_at hl 0 rfl) ?_
    refine va_get (D := D) (ci := 0) (v := .int n) (C := RX1) (T := TX1) (N := 2) hx hb hts in_X1_append_X1 hown hE.1 hP 0 rfl rfl 0 (by decide +kernel) (hts (.fieldLink RX1 9 "ClauseBook$Bag" "size" "I") (List.mem_of_getElem? (i := 1) rfl)) (fun _ h9 => h9) rfl dX1_append_16 ?_
    refine lv_iload_n hx hb dX1_append_19 rfl (lv_at hl 1 rfl) ?_
    refine va_iast hx hb hE.1 hP hD hS 1 0 rfl rfl (by rw [vp_in_iff]; first | omega | (subst_vars; rw [dec1 (by omega)]; omega) | (subst_vars; rw [inc1 (n := 1000) (by omega) (by decide +kernel)]; omega)) dX1_append_20 (fun H locs hP hD hS => ?_)
    obtain ⟨hP, hD⟩ := wPD [(h0, .inr (0, [.int n, .ref a0])), (a0, .inl (T 0, 12, .inl (upd f (n.toNatClampNeg) x1)))] hP hD rfl
    refine lv_aload_n hx hb dX1_append_21 rfl (lv_at hl 0 rfl) ?_
    refine lv_dup hx hb dX1_append_22 rfl ?_
    refine va_get (D := D) (ci := 0) (v := .int n) (C := RX1) (T := TX1) (N := 2) hx hb hts in_X1_append_X1 hown hE.1 hP 0 rfl rfl 0 (by decide +kernel) (hts (.fieldLink RX1 9 "ClauseBook$Bag" "size" "I") (List.mem_of_getElem? (i := 1) rfl)) (fun _ h9 => h9) rfl dX1_append_23 ?_
    refine lv_iconst (v := 1) hx hb dX1_append_26 (by decide +kernel) ?_
    refine lv_iadd hx hb dX1_append_27 ?_
    refine lv_topi (fun z_2 ez_2 => ?_)
    refine va_put (D := D) (ci := 0) (v := .int z_2) (ty := .int) (C := RX1) (T := TX1) (N := 2) hx hb hts in_X1_append_X1 tyX1 tyX1_ok nmX1 hown hE.1 hP hD hS 0 rfl rfl 0 (by decide +kernel) (hts (.fieldLink RX1 9 "ClauseBook$Bag" "size" "I") (List.mem_of_getElem? (i := 1) rfl)) (fun _ h9 => h9) rfl (by decide +kernel) rfl rfl (Nat.le_of_ble_eq_true rfl) dX1_append_28 (fun H locs hP hD hS => ?_)
    obtain ⟨hP, hD⟩ := wPD [(h0, .inr (0, [.int z_2, .ref a0])), (a0, .inl (T 0, 12, .inl (upd f (n.toNatClampNeg) x1)))] hP hD rfl
    refine lv_iconst (v := 1) hx hb dX1_append_31 (by decide +kernel) ?_
    exact W.zret hx hb hr rfl (fun t ht hW => ⟨⟨_, (z_2, (upd f (n.toNatClampNeg) x1)), rfl, ⟨(by exact (if_pos (by omega)).symm), (by (try subst_vars); (try dsimp only); first | omega | (rw [inc1 (n := 12) (by omega) (by decide +kernel)]; omega)), (fun _ => ⟨(by (try dsimp only); rw [ez_2]; exact inc1 (n := 12) (by omega) (by decide +kernel)), rfl⟩), (fun h9 => absurd (by omega) h9)⟩, by rw [ht]; exact hP.sub [0, 1] rfl, hD.sub [0, 1] (by decide +kernel) rfl⟩, hS.F ht⟩) hS.2.2 dX1_append_32
  · rw [fa_lt] at c_1
    try rw [ti_12] at c_1
    refine lv_iconst (v := 0) hx hb dX1_append_9 (by decide +kernel) ?_
    exact W.zret hx hb hr rfl (fun t ht hW => ⟨⟨_, (n, f), rfl, ⟨(by exact (if_neg (by omega)).symm), (by (try subst_vars); (try dsimp only); first | omega | (rw [inc1 (n := 12) (by omega) (by decide +kernel)]; omega)), (fun h9 => absurd h9 (by omega)), (fun _ => ⟨rfl, rfl⟩)⟩, by rw [ht]; exact hP.sub [0, 1] rfl, hD.sub [0, 1] (by decide +kernel) rfl⟩, hS.F ht⟩) hS.2.2 dX1_append_10
