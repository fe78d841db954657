/-! both sides against each other, over a call -/
theorem rlC_ext {n m m' : Int32} {fk fn fc fd fk' fn' fc' fd' g1 g2 g3 g4 h1 h2 h3 h4 : Nat → Int32} (R : rlC n fk fn fc fd (rfA m g1 g2 g3 g4)) (hn : n.toInt ≤ 24) (hm : m' = m) (e1 : ∀ j : Nat, j < 24 → fk' j = fk j ∧ fn' j = fn j ∧ fc' j = fc j ∧ fd' j = fd j) (e2 : ∀ j : Nat, j < 24 → h1 j = g1 j ∧ h2 j = g2 j ∧ h3 j = g3 j ∧ h4 j = g4 j) : rlC n fk' fn' fc' fd' (rfA m' h1 h2 h3 h4) := by
  subst hm
  refine ⟨R.1, fun j hj => ?_⟩
  have hR := R.1
  have hj : j < m'.toNatClampNeg := hj
  have hR : n.toInt = (m'.toNatClampNeg : Int) := hR
  obtain ⟨a1, a2, a3, a4⟩ := e1 j (by omega)
  obtain ⟨b1, b2, b3, b4⟩ := e2 j (by omega)
  show fk' j = h1 j ∧ fn' j = h2 j ∧ fc' j = (if 1 ≤ (nmT (h1 j).toNatClampNeg).toInt then h3 j else -1) ∧ fd' j = (if (nmT (h1 j).toNatClampNeg).toInt = 2 then h4 j else -1)
  rw [a1, a2, a3, a4, b1, b2, b3, b4]
  exact R.2 j hj
theorem rlB_ext {bn bn' gn gn' g g' : Nat → Int32} {bf bf' : Nat → Nat → Int32} (R : rlB bn bf gn g) (O : bgOk bn) (e1 : ∀ k : Nat, k < 3 → bn' k = bn k ∧ ∀ j : Nat, j < 12 → bf' k j = bf k j) (e2 : ∀ k : Nat, k < 3 → gn' k = gn k) (e3 : ∀ j : Nat, j < 36 → g' j = g j) : rlB bn' bf' gn' g' := by
  intro k hk
  have o := O k hk
  rw [(e1 k hk).1, e2 k hk]
  refine ⟨(R k hk).1, fun i hi => ?_⟩
  rw [(e1 k hk).2 i (by omega), e3 (12 * k + i) (by omega)]
  exact (R k hk).2 i hi
theorem rlB_list {bn gn g : Nat → Int32} {bf : Nat → Nat → Int32} (R : rlB bn bf gn g) : rlB (fun k => [bn 0, bn 1, bn 2].getD k 0) bf gn g := all3 (R 0 (by decide +kernel)) (R 1 (by decide +kernel)) (R 2 (by decide +kernel))
theorem rlC_kind {n m : Int32} {fk fn fc fd g1 g2 g3 g4 : Nat → Int32} (R : rlC n fk fn fc fd (rfA m g1 g2 g3 g4)) : ∀ j : Nat, (j : Int) < n.toInt → fk j = g1 j := fun j hj => by
  have h := R.1
  have h : n.toInt = (m.toNatClampNeg : Int) := h
  exact (R.2 j (by show j < m.toNatClampNeg; omega)).1
theorem getD4 {a : Nat → Int32} {k : Nat} (h : k < 4) : [a 0, a 1, a 2, a 3].getD k 0 = a k := by
  match k, h with
  | 0, _ => rfl
  | 1, _ => rfl
  | 2, _ => rfl
  | 3, _ => rfl
  | k + 4, h => omega
theorem feed_rel {n x1 x2 : Int32} {f u w : Nat → Int32} (a : ((1 ≤ x1.toInt ∧ x1.toInt ≤ 4) ∧ n.toInt + x1.toInt ≤ 120 → u = fdF f n.toNatClampNeg x2 x1.toNatClampNeg) ∧ (¬ ((1 ≤ x1.toInt ∧ x1.toInt ≤ 4) ∧ n.toInt + x1.toInt ≤ 120) → u = f)) (b : ((1 ≤ x1.toInt ∧ x1.toInt ≤ 4) ∧ n.toInt + x1.toInt ≤ 120 → w = fdF f n.toNatClampNeg x2 x1.toNatClampNeg) ∧ (¬ ((1 ≤ x1.toInt ∧ x1.toInt ≤ 4) ∧ n.toInt + x1.toInt ≤ 120) → w = f)) : u = w := by
  by_cases c : (1 ≤ x1.toInt ∧ x1.toInt ≤ 4) ∧ n.toInt + x1.toInt ≤ 120
  · rw [a.1 c, b.1 c]
  · rw [a.2 c, b.2 c]
/-- what an image keeps, on both sides -/
def rlK (n : Int32) (fk fn fc fd : Nat → Int32) (bn : Nat → Int32) (bf : Nat → Nat → Int32) (g : Nat → Int32) : Prop := rlC n fk fn fc fd (rfA (g 7) (fun j => g (8 + j)) (fun j => g (32 + j)) (fun j => g (56 + j)) (fun j => g (80 + j))) ∧ rlB bn bf (fun k => g (140 + k)) (fun k => g (104 + k))
/-! worth on both sides -/
/-- from A to B: the clauses that there were are as they were -/
def extA (A B : clsA) : Prop := A.1 ≤ B.1 ∧ ∀ j : Nat, j < A.1 → A.2.1 j = B.2.1 j ∧ A.2.2.1 j = B.2.2.1 j ∧ A.2.2.2.1 j = B.2.2.2.1 j ∧ A.2.2.2.2 j = B.2.2.2.2 j
theorem extA_rf (A : clsA) : extA A A := ⟨Nat.le_refl _, fun _ _ => ⟨rfl, rfl, rfl, rfl⟩⟩
theorem extA_tr {A B C : clsA} (a : extA A B) (b : extA B C) : extA A C := by
  refine ⟨Nat.le_trans a.1 b.1, fun j hj => ?_⟩
  obtain ⟨a1, a2, a3, a4⟩ := a.2 j hj
  obtain ⟨b1, b2, b3, b4⟩ := b.2 j (Nat.lt_of_lt_of_le hj a.1)
  exact ⟨a1.trans b1, a2.trans b2, a3.trans b3, a4.trans b4⟩
theorem extA_p {A : clsA} {k v c d : Int32} : extA A (clsP A k v c d) := by
  refine ⟨Nat.le_succ _, fun j hj => ?_⟩
  have i : ¬ j = A.1 := by omega
  show A.2.1 j = upd A.2.1 A.1 k j ∧ A.2.2.1 j = upd A.2.2.1 A.1 v j ∧ A.2.2.2.1 j = upd A.2.2.2.1 A.1 c j ∧ A.2.2.2.2 j = upd A.2.2.2.2 A.1 d j
  simp only [upd, if_neg i]
  refine ⟨?_, ?_, ?_, ?_⟩ <;> first | rfl | trivial
theorem bldF_ext {K V : Nat → Int32} : ∀ (t nx : Nat) (A : clsA), extA A (bldF K V t nx A).2.2
  | 0, nx, A => extA_rf A
  | t + 1, nx, A => by
    obtain ⟨R1, hR1⟩ : ∃ R1 : Nat × Nat × clsA, R1 = if 1 ≤ (nmT (K nx).toNatClampNeg).toInt then bldF K V t (nx + 1) A else (nx + 1, 0, A) := ⟨_, rfl⟩
    obtain ⟨R2, hR2⟩ : ∃ R2 : Nat × Nat × clsA, R2 = if (nmT (K nx).toNatClampNeg).toInt = 2 then bldF K V t R1.1 R1.2.2 else (R1.1, 0, R1.2.2) := ⟨_, rfl⟩
    have e : bldF K V (t + 1) nx A = (R2.1, R2.2.2.1, clsP R2.2.2 (K nx) (V nx) (nI R1.2.1) (nI R2.2.1)) := by rw [hR2, hR1]; rfl
    have i1 : extA A R1.2.2 := by
      rw [hR1]
      split
      · exact bldF_ext t (nx + 1) A
      · exact extA_rf A
    have i2 : extA R1.2.2 R2.2.2 := by
      rw [hR2]
      split
      · exact bldF_ext t R1.1 R1.2.2
      · exact extA_rf _
    rw [e]
    exact extA_tr (extA_tr i1 i2) extA_p
theorem bldR_ext {K V : Nat → Int32} {nx nx' r : Nat} {A B : clsA} (h : bldR K V nx A nx' r B) : extA A B := by
  obtain ⟨t, h⟩ := h
  have g := bldF_ext (K := K) (V := V) t nx A
  rw [h t (Nat.le_refl t)] at g
  exact g
theorem sumF_extA {g : Nat → Int32} {A : clsA} : ∀ k : Nat, extA A (sumF g A k).2
  | 0 => extA_rf A
  | k + 1 => extA_tr (sumF_extA k) extA_p
/-- the class's clauses: those that there were are as they were -/
def clsX (n u : Int32) (f1 f2 f3 f4 u1 u2 u3 u4 : Nat → Int32) : Prop := n.toInt ≤ u.toInt ∧ ∀ j : Nat, (j : Int) < n.toInt → f1 j = u1 j ∧ f2 j = u2 j ∧ f3 j = u3 j ∧ f4 j = u4 j
theorem clsX_rf {n : Int32} {f1 f2 f3 f4 : Nat → Int32} : clsX n n f1 f2 f3 f4 f1 f2 f3 f4 := ⟨Int.le_refl _, fun _ _ => ⟨rfl, rfl, rfl, rfl⟩⟩
theorem clsX_of {n u : Int32} {f1 f2 f3 f4 u1 u2 u3 u4 : Nat → Int32} {A B : clsA} (R : rlC n f1 f2 f3 f4 A) (S : rlC u u1 u2 u3 u4 B) (h : extA A B) : clsX n u f1 f2 f3 f4 u1 u2 u3 u4 := by
  have r1 := R.1
  have s1 := S.1
  have h1 := h.1
  refine ⟨by omega, fun j hj => ?_⟩
  obtain ⟨a1, a2, a3, a4⟩ := R.2 j (by omega)
  obtain ⟨b1, b2, b3, b4⟩ := S.2 j (by omega)
  obtain ⟨e1, e2, e3, e4⟩ := h.2 j (by omega)
  exact ⟨by rw [a1, b1, e1], by rw [a2, b2, e2], by rw [a3, b3, e1, e3], by rw [a4, b4, e1, e4]⟩
theorem clauseX {n0 k n c d r u0 : Int32} {f1 f2 f3 f4 u1 u2 u3 u4 : Nat → Int32} (h0 : 0 ≤ n0.toInt) (C : clauseC n0 k n c d r u0 f1 f2 f3 f4 u1 u2 u3 u4) : clsX n0 u0 f1 f2 f3 f4 u1 u2 u3 u4 := by
  have t := tn h0
  rcases C with ⟨_, _, a, b1, b2, b3, b4⟩ | ⟨_, _, _, a, b1, b2, b3, b4⟩ | ⟨_, _, _, a, b1, b2, b3, b4⟩
  · subst a; subst b1; subst b2; subst b3; subst b4
    exact clsX_rf
  · subst a; subst b1; subst b2; subst b3; subst b4
    exact clsX_rf
  · refine ⟨by omega, fun j hj => ?_⟩
    have i : ¬ j = n0.toNatClampNeg := by omega
    rw [b1, b2, b3, b4]
    simp only [upd, if_neg i]
    refine ⟨?_, ?_, ?_, ?_⟩ <;> first | rfl | trivial
theorem textX {fb : Nat → Int32} {n n0 r u0 : Int32} {f1 f2 f3 f4 u1 u2 u3 u4 : Nat → Int32} {A : clsA} (R : rlC n0 f1 f2 f3 f4 A) (C : textC fb n n0 r u0 f1 f2 f3 f4 u1 u2 u3 u4) : clsX n0 u0 f1 f2 f3 f4 u1 u2 u3 u4 := by
  rcases C with ⟨_, _, _, a, b1, b2, b3, b4⟩ | ⟨K, V, m, _, h⟩
  · subst a; subst b1; subst b2; subst b3; subst b4
    exact clsX_rf
  · obtain ⟨nb, rb, B, h1, _, _, h2⟩ := h A R
    exact clsX_of R h2 (bldR_ext h1)
theorem sumX {n0 r u0 m : Int32} {g f1 f2 f3 f4 u1 u2 u3 u4 : Nat → Int32} {bad : Prop} {A : clsA} (R : rlC n0 f1 f2 f3 f4 A) (C : sumC n0 r u0 m g f1 f2 f3 f4 u1 u2 u3 u4 bad) : clsX n0 u0 f1 f2 f3 f4 u1 u2 u3 u4 := by
  rcases C with ⟨_, _, a, b1, b2, b3, b4⟩ | ⟨_, _, _, a, b1, b2, b3, b4⟩ | ⟨_, _, _, _, a, b1, b2, b3, b4⟩ | ⟨_, _, _, h⟩
  · subst a; subst b1; subst b2; subst b3; subst b4
    exact clsX_rf
  · subst a; subst b1; subst b2; subst b3; subst b4
    exact clsX_rf
  · subst a; subst b1; subst b2; subst b3; subst b4
    exact clsX_rf
  · exact clsX_of R (h A R).2 (sumF_extA _)
/-! what is found, from call to call -/
theorem memW_grow {l f1 f2 f3 f4 f5 f6 f7 u1 u2 u3 u4 u5 u6 u7 : Nat → Int32} {n u a : Int32} {g0 g1 : Nat → Int64} {g4 : Nat → Int32} (X : clsX n u f1 f2 f3 f4 u1 u2 u3 u4) (h0 : 0 ≤ n.toInt ∧ n.toInt ≤ 24) (ok : okC f1 f3 f4 f5) (p : ∀ j : Nat, (j : Int) < n.toInt → mesP f1 f2 f3 f4 f5 f6 f7 j) (q : ∀ j : Nat, (j : Int) < u.toInt → mesP u1 u2 u3 u4 u5 u6 u7 j) (h : memW (VALW l f1 f2 f3 f4 f5) n a g0 g1 g4) : memW (VALW l u1 u2 u3 u4 u5) u a g0 g1 g4 := by
  have t := tn h0.1
  have x1 := X.1
  have E := mes_uniq (fk := f1) (gk := u1) (fn := f2) (gn := u2) (fc := f3) (gc := u3) (fd := f4) (gd := u4) (fe := f5) (ge := u5) (fm := f6) (gm := u6) (fp := f7) (gp := u7) (n := n.toNatClampNeg) (ok.Nx (by omega)) (fun j hj => by
    obtain ⟨e1, e2, e3, e4⟩ := X.2 j (by omega)
    exact ⟨e1, e2, fun _ => e3, fun _ => e4⟩) (fun j hj => p j (by omega)) (fun j hj => q j (by omega)) n.toNatClampNeg
  intro x t2 k hx ht hk e
  obtain ⟨h1, h2⟩ := h x t2 k hx ht hk e
  refine ⟨by omega, h2.trans (valF_ext (n := n.toNatClampNeg) (by omega) ok (fun _ _ => rfl) (fun j hj => ?_) 31 x t2 k ⟨hx.1, by omega⟩ ht)⟩
  obtain ⟨e1, e2, e3, e4⟩ := X.2 j (by omega)
  exact ⟨e1, e2, fun _ => e3, fun _ => e4, (E j hj hj).1⟩
theorem memW_lat {l l' f1 f2 f3 f4 f5 : Nat → Int32} {n a : Int32} {g0 g1 : Nat → Int64} {g4 : Nat → Int32} (ok : okC f1 f3 f4 f5) (hl : ∀ j : Nat, j < 7 → l' j = l j) (h : memW (VALW l f1 f2 f3 f4 f5) n a g0 g1 g4) : memW (VALW l' f1 f2 f3 f4 f5) n a g0 g1 g4 := by
  intro x t k hx ht hk e
  obtain ⟨h1, h2⟩ := h x t k hx ht hk e
  exact ⟨h1, h2.trans (valF_ext (n := 24) (Nat.le_refl _) ok (fun j hj => (hl j hj).symm) (fun j _ => ⟨rfl, rfl, fun _ => rfl, fun _ => rfl, rfl⟩) 31 x t k hx ht)⟩
theorem memW_lo {V : vaF} {n a : Int32} {g0 g1 u0 u1 : Nat → Int64} {g4 : Nat → Int32} (h : memW V n a g0 g1 g4) (e : ∀ j : Nat, j < 672 → u0 j = g0 j ∧ u1 j = g1 j) : memW V n a u0 u1 g4 := by
  intro x t k hx ht hk q
  obtain ⟨h1, h2⟩ := h x t k hx ht hk q
  obtain ⟨e1, e2⟩ := e _ (slN_lt hx ht hk)
  exact ⟨h1, by rw [e1, e2]; exact h2⟩
theorem agW_mm {S : Prop} {V V' : vaF} {n n' a a' : Int32} {g0 g1 : Nat → Int64} {g4 : Nat → Int32} (A : agW S a a') (hg : ∀ j : Nat, j < 672 → (g4 j).toInt ≤ a.toInt) (ha : a.toInt ≤ 5000) (h : memW V n a g0 g1 g4) (hS : S → memW V n a g0 g1 g4 → memW V' n' a g0 g1 g4) : memW V' n' a' g0 g1 g4 ∧ (∀ j : Nat, j < 672 → (g4 j).toInt ≤ a'.toInt) ∧ a'.toInt ≤ a.toInt + 1 := by
  rcases A with ⟨s, e⟩ | e
  · subst e
    exact ⟨hS s h, hg, by omega⟩
  · have i := inc1 (i := a) (n := 6000) (by omega) (by decide +kernel)
    rw [← e] at i
    refine ⟨fun x t k hx ht hk q => ?_, fun j hj => ?_, by omega⟩
    · have h1 := hg _ (slN_lt hx ht hk)
      rw [q] at h1
      omega
    · have h1 := hg j hj
      omega
theorem stW_le {V : vaF} {n a : Int32} {P : Nat → Prop} {g0 g1 u0 u1 : Nat → Int64} {g4 u4 : Nat → Int32} (h : stW V n a P g0 g1 g4 u0 u1 u4) (hg : ∀ j : Nat, j < 672 → (g4 j).toInt ≤ a.toInt) : ∀ j : Nat, j < 672 → (u4 j).toInt ≤ a.toInt := fun j hj => by
  rcases h.2.2.1 j hj with e | e
  · rw [e]; exact hg j hj
  · rw [e]; exact Int.le_refl _
theorem memW_zero {V : vaF} {n : Int32} {g0 g1 : Nat → Int64} : memW V n 1 g0 g1 (fun _ => 0) := fun x t k hx ht hk q => absurd (show (0 : Int32) = 1 from q) (by decide +kernel)
/-! both are alike -/
theorem lat7 {l : Nat → Int32} {a b c d e f g : Int32} (h0 : l 0 = a) (h1 : l 1 = b) (h2 : l 2 = c) (h3 : l 3 = d) (h4 : l 4 = e) (h5 : l 5 = f) (h6 : l 6 = g) : ∀ j : Nat, j < 7 → l j = lqW a b c d e f g j := all7 h0 h1 h2 h3 h4 h5 h6
/-- the lattices are alike, the clauses ahead of n are -/
def bothW (n : Int32) (l f1 f2 f3 f4 f5 l' g1 g2 g3 g4 g5 : Nat → Int32) : Prop := (0 ≤ n.toInt ∧ n.toInt ≤ 24) ∧ (∀ j : Nat, j < 7 → l j = l' j) ∧ okC f1 f3 f4 f5 ∧ ∀ j : Nat, (j : Int) < n.toInt → f1 j = g1 j ∧ f2 j = g2 j ∧ (1 ≤ (nmT (f1 j).toNatClampNeg).toInt → f3 j = g3 j) ∧ ((nmT (f1 j).toNatClampNeg).toInt = 2 → f4 j = g4 j) ∧ f5 j = g5 j
theorem both_of {n m : Int32} {l l' f1 f2 f3 f4 f5 f6 f7 g1 g2 g3 g4 g5 g6 g7 : Nat → Int32} (R : rlC n f1 f2 f3 f4 (rfA m g1 g2 g3 g4)) (hm : 0 ≤ m.toInt ∧ m.toInt ≤ 24) (ok : okN g1 g3 g4 24) (hl : ∀ j : Nat, j < 7 → l j = l' j) (okc : okC f1 f3 f4 f5) (a : ∀ j : Nat, (j : Int) < n.toInt → mesP f1 f2 f3 f4 f5 f6 f7 j) (b : ∀ j : Nat, (j : Int) < n.toInt → mesP g1 g2 g3 g4 g5 g6 g7 j) : bothW n l f1 f2 f3 f4 f5 l' g1 g2 g3 g4 g5 := by
  have e := rlC_size R hm.1
  subst e
  have t := tn hm.1
  have h := mes_uniq (fk := g1) (gk := f1) (fn := g2) (gn := f2) (fc := g3) (gc := f3) (fd := g4) (gd := f4) (fe := g5) (ge := f5) (fm := g6) (gm := f6) (fp := g7) (gp := f7) (n := n.toNatClampNeg) (fun j hj => ok j (by omega)) (fun j hj => by
    obtain ⟨h1, h2, h3, h4⟩ := R.2 j hj
    have h1 : f1 j = g1 j := h1
    have h2 : f2 j = g2 j := h2
    have h3 : f3 j = (if 1 ≤ (nmT (g1 j).toNatClampNeg).toInt then g3 j else -1) := h3
    have h4 : f4 j = (if (nmT (g1 j).toNatClampNeg).toInt = 2 then g4 j else -1) := h4
    exact ⟨h1.symm, h2.symm, fun q => by rw [h3, if_pos q], fun q => by rw [h4, if_pos q]⟩) (fun j hj => b j (by omega)) (fun j hj => a j (by omega)) n.toNatClampNeg
  refine ⟨hm, hl, okc, fun j hj => ?_⟩
  obtain ⟨h1, h2, h3, h4⟩ := R.2 j (by show j < n.toNatClampNeg; omega)
  have h1 : f1 j = g1 j := h1
  have h2 : f2 j = g2 j := h2
  have h3 : f3 j = (if 1 ≤ (nmT (g1 j).toNatClampNeg).toInt then g3 j else -1) := h3
  have h4 : f4 j = (if (nmT (g1 j).toNatClampNeg).toInt = 2 then g4 j else -1) := h4
  exact ⟨h1, h2, fun q => by rw [h1] at q; rw [h3, if_pos q], fun q => by rw [h1] at q; rw [h4, if_pos q], (h j (by omega) (by omega)).1.symm⟩
section
variable {n : Int32} {l f1 f2 f3 f4 f5 l' g1 g2 g3 g4 g5 : Nat → Int32}
theorem bothW.val (h : bothW n l f1 f2 f3 f4 f5 l' g1 g2 g3 g4 g5) {x : Int32} (hx : inN n x) {t k : Int32} (g : spK t k) : VALW l f1 f2 f3 f4 f5 x t k = VALW l' g1 g2 g3 g4 g5 x t k := by
  obtain ⟨h0, h1, h2, h3⟩ := h
  have e := tn h0.1
  exact valF_ext (n := n.toNatClampNeg) (by omega) h2 h1 (fun j hj => h3 j (by omega)) 31 x t k ⟨hx.1, by have := hx.2; omega⟩ g.1
theorem bothW.at (h : bothW n l f1 f2 f3 f4 f5 l' g1 g2 g3 g4 g5) {x : Int32} (hx : inN n x) : f1 x.toNatClampNeg = g1 x.toNatClampNeg ∧ f2 x.toNatClampNeg = g2 x.toNatClampNeg ∧ (1 ≤ (nmT (f1 x.toNatClampNeg).toNatClampNeg).toInt → f3 x.toNatClampNeg = g3 x.toNatClampNeg ∧ inN n (f3 x.toNatClampNeg)) ∧ ((nmT (f1 x.toNatClampNeg).toNatClampNeg).toInt = 2 → f4 x.toNatClampNeg = g4 x.toNatClampNeg ∧ inN n (f4 x.toNatClampNeg)) ∧ f5 x.toNatClampNeg = g5 x.toNatClampNeg ∧ (f5 x.toNatClampNeg).toInt ≤ 6 := by
  obtain ⟨h0, h1, h2, h3⟩ := h
  obtain ⟨x1, x2⟩ := hx
  have t := tn x1
  obtain ⟨e1, e2, e3, e4, e5⟩ := h3 x.toNatClampNeg (by omega)
  obtain ⟨o1, o2, o3, o4⟩ := h2 x.toNatClampNeg (by omega)
  refine ⟨e1, e2, fun q => ⟨e3 q, ?_⟩, fun q => ⟨e4 q, ?_⟩, e5, o4⟩
  · have c := o2 q
    exact ⟨c.1, by omega⟩
  · have c := o3 q
    exact ⟨c.1, by omega⟩
theorem bothW.avg (h : bothW n l f1 f2 f3 f4 f5 l' g1 g2 g3 g4 g5) {x : Int32} (hx : inN n x) {t k : Int32} (g : spK t k) (h6 : t.toInt ≤ 5) : avgW l (VALW l f1 f2 f3 f4 f5) x t k = avgW l' (VALW l' g1 g2 g3 g4 g5) x t k := by
  have h1 := h.2.1
  obtain ⟨⟨a1, a2⟩, a3, a4⟩ := g
  have e := inc1 (i := t) (n := 6) (by omega) (by decide +kernel)
  have e2 := inc1 (i := k) (n := 6) (by omega) (by decide +kernel)
  exact avg_ext ⟨h1 3 (by decide +kernel), h1 4 (by decide +kernel), h1 5 (by decide +kernel), h1 6 (by decide +kernel)⟩ ⟨h.val hx ⟨⟨by omega, by omega⟩, by omega, by omega⟩, h.val hx ⟨⟨by omega, by omega⟩, by omega, by omega⟩⟩
theorem bothW.pick (h : bothW n l f1 f2 f3 f4 f5 l' g1 g2 g3 g4 g5) {x : Int32} (hx : inN n x) {t k : Int32} (g : spK t k) (hk : (f1 x.toNatClampNeg).toNatClampNeg = 6 ∨ (f1 x.toNatClampNeg).toNatClampNeg = 7) : pickW l f1 f2 f3 f4 f5 (VALW l f1 f2 f3 f4 f5) x t k = pickW l' g1 g2 g3 g4 g5 (VALW l' g1 g2 g3 g4 g5) x t k := by
  obtain ⟨e1, e2, e3, e4, e5, e6⟩ := h.at hx
  have n2 : (nmT (f1 x.toNatClampNeg).toNatClampNeg).toInt = 2 := by
    rcases hk with q | q <;> rw [q] <;> decide
  have c := e3 (by omega)
  have d := e4 n2
  have h1 := h.2.1
  refine pick_ext ⟨h1 0 (by decide +kernel), h1 1 (by decide +kernel), h1 2 (by decide +kernel)⟩ e1 e2 ⟨c.1, (h.at c.2).2.2.2.2.1, h.val c.2 g⟩ (Or.inr ⟨d.1, (h.at d.2).2.2.2.2.1, h.val d.2 g⟩)
theorem bothW.one (h : bothW n l f1 f2 f3 f4 f5 l' g1 g2 g3 g4 g5) {x : Int32} (hx : inN n x) (hk : (f1 x.toNatClampNeg).toNatClampNeg = 11) : ∀ t s : Int32, spK t s → VALW l' g1 g2 g3 g4 g5 (g3 x.toNatClampNeg) t s = VALW l f1 f2 f3 f4 f5 (f3 x.toNatClampNeg) t s := fun t s g => by
  have c := (h.at hx).2.2.1 (by rw [hk]; decide)
  rw [← c.1]
  exact (h.val c.2 g).symm
end
theorem rl_k {n m : Int32} {f1 f2 f3 f4 g1 g2 g3 g4 : Nat → Int32} (R : rlC n f1 f2 f3 f4 (rfA m g1 g2 g3 g4)) {x : Int32} (hx : inN n x) : f1 x.toNatClampNeg = g1 x.toNatClampNeg := by
  obtain ⟨x1, x2⟩ := hx
  have t := tn x1
  have r := R.1
  exact (R.2 x.toNatClampNeg (by omega)).1
/-! the answers are one -/
theorem valQ_uniqW {V V' : vaF} {n x t k i : Int32} {r r' : Int64} (hV : (atV n x t k ∧ 0 ≤ i.toInt ∧ i.toInt ≤ 1) → V x t k = V' x t k) (a : valQ V n x t k i r) (b : valQ V' n x t k i r') : r = r' := by
  rcases a with ⟨a1, a2⟩ | ⟨a1, a2⟩
  · have b := b.resolve_right (fun q => a1 q.1)
    exact Int64.toInt_inj.1 (a2.trans b.2.symm)
  · have b := b.resolve_left (fun q => q.1 a1)
    rw [hV a1] at a2
    exact partW_uniq a2 b.2
theorem meanQ_uniqW {l l' : Nat → Int32} {V V' : vaF} {n x t k i : Int32} {r r' : Int64} (hV : (atV n x t k ∧ t.toInt ≠ 6 ∧ 0 ≤ i.toInt ∧ i.toInt ≤ 1) → avgW l V x t k = avgW l' V' x t k) (a : meanQ l V n x t k i r) (b : meanQ l' V' n x t k i r') : r = r' := by
  rcases a with ⟨a1, a2⟩ | ⟨a1, a2⟩
  · have b := b.resolve_right (fun q => a1 q.1)
    exact Int64.toInt_inj.1 (a2.trans b.2.symm)
  · have b := b.resolve_left (fun q => q.1 a1)
    rw [hV a1] at a2
    exact partW_uniq a2 b.2
theorem chQ_uniqW {l fk fn fc fd fe l' fk' fn' fc' fd' fe' : Nat → Int32} {V V' : vaF} {n x t k r r' : Int32} (hk : inN n x → fk x.toNatClampNeg = fk' x.toNatClampNeg) (hp : (atV n x t k ∧ ((fk' x.toNatClampNeg).toNatClampNeg = 6 ∨ (fk' x.toNatClampNeg).toNatClampNeg = 7)) → fe x.toNatClampNeg = fe' x.toNatClampNeg ∧ pickW l fk fn fc fd fe V x t k = pickW l' fk' fn' fc' fd' fe' V' x t k) (a : chQ l fk fn fc fd fe V n x t k r) (b : chQ l' fk' fn' fc' fd' fe' V' n x t k r') : r = r' := by
  unfold chQ at a b
  by_cases h : atV n x t k
  · rw [hk h.1] at a
    rcases a with ⟨a1, a2⟩ | ⟨a1, a2⟩
    · have b := b.resolve_right (fun q => a1 q.1)
      exact Int32.toInt_inj.1 (by omega)
    · have b := (b.resolve_left (fun q => q.1 a1)).2
      obtain ⟨p1, p2⟩ := hp a1
      rw [← p1, ← p2] at b
      rcases a2 with ⟨a2, a3⟩ | ⟨a2, a3⟩
      · rcases b with ⟨_, b3⟩ | ⟨b2, _⟩
        · exact Int32.toInt_inj.1 (by omega)
        · exact absurd a2 b2
      · rcases b with ⟨b2, _⟩ | ⟨_, b3⟩
        · exact absurd b2 a2
        · rw [a3, b3]
  · have a := a.resolve_right (fun q => h q.1.1)
    have b := b.resolve_right (fun q => h q.1.1)
    exact Int32.toInt_inj.1 (by omega)
theorem tkQ_uniqW {l l' fk fk' fc fc' fe fe' : Nat → Int32} {V V' : vaF} {n x t p r r' : Int32} (hk : inN n x → fk x.toNatClampNeg = fk' x.toNatClampNeg) (hq : (hadV n x t p ∧ (fk' x.toNatClampNeg).toNatClampNeg = 11) → fe x.toNatClampNeg = fe' x.toNatClampNeg ∧ (fe x.toNatClampNeg).toInt ≤ 6 ∧ (∀ t s : Int32, spK t s → V' (fc' x.toNatClampNeg) t s = V (fc x.toNatClampNeg) t s) ∧ ∀ t k : Int32, spK t k → t.toInt ≤ 5 → avgW l' V' x t k = avgW l V x t k) (a : tkQ l fk fc fe V n x t p r) (b : tkQ l' fk' fc' fe' V' n x t p r') : r = r' := by
  unfold tkQ at a b
  by_cases h : hadV n x t p
  · rw [hk h.1] at a
    rcases a with ⟨a1, a2⟩ | ⟨a1, a2⟩
    · have b := b.resolve_right (fun q => a1 q.1)
      exact Int32.toInt_inj.1 (by omega)
    · have b := (b.resolve_left (fun q => q.1 a1)).2
      obtain ⟨p1, p2, p3, p4⟩ := hq a1
      rw [← p1] at b
      rcases a2 with ⟨a2, a3⟩ | ⟨a2, a3⟩
      · rcases b with ⟨_, b3⟩ | ⟨b2, _⟩
        · exact Int32.toInt_inj.1 (by omega)
        · exact absurd a2 b2
      · rcases b with ⟨b2, _⟩ | ⟨_, b3⟩
        · exact absurd b2 a2
        · exact takQ_uniq a3 (takQ_ext p2 h.2.1.1 h.2.2 p3 p4 b3)
  · have a := a.resolve_right (fun q => h q.1.1)
    have b := b.resolve_right (fun q => h q.1.1)
    exact Int32.toInt_inj.1 (by omega)
theorem bbQ_uniqW {V V' : vaF} {n z z' : Int32} {f f' : Nat → Int32} {ok : Prop} {t k r r' : Int32} (hz : ok → z = z' ∧ ∀ i : Int32, (0 ≤ i.toInt ∧ i.toInt < z.toInt) → f i.toNatClampNeg = f' i.toNatClampNeg) (hV : (ok ∧ spK t k) → ∀ x : Int32, inN n x → V x t k = V' x t k) (a : bbQ V n z f ok t k r) (b : bbQ V' n z' f' ok t k r') : r = r' := by
  by_cases h : ok ∧ spK t k
  · obtain ⟨e, hf⟩ := hz h.1
    subst e
    exact bbQ_uniq (fun _ => hf) (fun x hx _ => hV h x hx) a b
  · have a := a.resolve_right (fun q => h q.1)
    have b := b.resolve_right (fun q => h q.1)
    exact Int32.toInt_inj.1 (by omega)
theorem cpQ_uniqW {V V' : vaF} {n : Int32} {ok : Prop} {z z' : Int32} {p p' : Int64 × Int64} {x t k r r' : Int32} (hz : ok → z = z' ∧ (z.toInt = 2 → p = p')) (hV : ((ok ∧ atV n x t k) ∧ z'.toInt = 2) → V x t k = V' x t k) (a : cpQ V n ok z p x t k r) (b : cpQ V' n ok z' p' x t k r') : r = r' := by
  refine Int32.toInt_inj.1 ?_
  rcases a with ⟨a1, a2⟩ | ⟨a1, a2⟩
  · have b := b.resolve_right (fun q => a1 q.1)
    omega
  · have b := (b.resolve_left (fun q => q.1 a1)).2
    obtain ⟨e, hp⟩ := hz a1.1
    subst e
    rcases a2 with a2 | a2 | ⟨a2, a3⟩
    · omega
    · omega
    · have e := hp a2
      have v := hV ⟨a1, a2⟩
      subst e
      rw [← v] at b
      omega
/-! fractions in hands are in lowest terms -/
theorem red_self {a b : Int64} (hb : 1 ≤ b.toInt) (h : lowW (a, b)) : redW a b = (a, b) := by
  have h := h.resolve_left (fun e => by
    have e2 : b = 0 := congrArg Prod.snd e
    rw [e2] at hb
    exact absurd hb (by decide +kernel))
  have g : Nat.gcd a.toInt.natAbs b.toInt.natAbs = 1 := h.2
  have e : (gI a b).toInt = 1 := by
    have q := gI_toInt (x := a) hb
    omega
  have e1 : gI a b = 1 := Int64.toInt_inj.1 (by rw [e]; decide)
  show (a / gI a b, b / gI a b) = (a, b)
  rw [e1, l_div1, l_div1]
theorem hl_hold {n9 h s r : Int32} {v w : Int64} {hs ws : Nat → Int32} {ha hb wa wb : Nat → Int64} (H : ∀ k : Nat, k < 4 → (hs k).toInt = 2 → lowW (ha k, hb k)) (M : holdR n9 h s r v w hs ws ha wa) (G : holdG n9 h s v w ha hb wa wb) : ∀ k : Nat, k < 4 → (ws k).toInt = 2 → lowW (wa k, wb k) := by
  intro k hk h2
  rcases G with ⟨g1, g2, g3⟩ | ⟨g1, g2, g3⟩
  · have m := (M.resolve_right (fun q => g1 q.1)).2.2.1
    rw [m] at h2
    rw [g2, g3]
    exact H k hk h2
  · have m := (M.resolve_left (fun q => q.1 g1)).2.2.1
    rw [m] at h2
    by_cases e : k = h.toNatClampNeg
    · subst e
      simp only [upd, if_pos] at h2
      obtain ⟨q1, q2⟩ := g2 h2
      rw [q1, q2]
      exact redW_low (g1.2.2.2 h2).1
    · simp only [upd, if_neg e] at h2
      rw [(g3 k e).1, (g3 k e).2]
      exact H k hk h2
/-! dues on both sides -/
theorem bothW.pickA {n : Int32} {l f1 f2 f3 f4 f5 l' g1 g2 g3 g4 g5 : Nat → Int32} (h : bothW n l f1 f2 f3 f4 f5 l' g1 g2 g3 g4 g5) {x : Int32} (hx : inN n x) {t k : Int32} (g : spK t k) (hk : pkK (f1 x.toNatClampNeg).toNatClampNeg) : pickW l f1 f2 f3 f4 f5 (VALW l f1 f2 f3 f4 f5) x t k = pickW l' g1 g2 g3 g4 g5 (VALW l' g1 g2 g3 g4 g5) x t k := by
  obtain ⟨e1, e2, e3, e4, e5, e6⟩ := h.at hx
  unfold pkK at hk
  have hK : (f1 x.toNatClampNeg).toNatClampNeg < 13 := by omega
  have hT := nmT_tab ⟨_, hK⟩
  have hT : (nmT (f1 x.toNatClampNeg).toNatClampNeg).toInt = if (f1 x.toNatClampNeg).toNatClampNeg < 2 then 0 else if (f1 x.toNatClampNeg).toNatClampNeg = 5 ∨ (f1 x.toNatClampNeg).toNatClampNeg = 6 ∨ (f1 x.toNatClampNeg).toNatClampNeg = 7 ∨ (f1 x.toNatClampNeg).toNatClampNeg = 9 ∨ (f1 x.toNatClampNeg).toNatClampNeg = 12 then 2 else 1 := hT
  rw [if_neg (by omega)] at hT
  have c := e3 (by rw [hT]; split <;> decide)
  have h1 := h.2.1
  refine pick_ext ⟨h1 0 (by decide +kernel), h1 1 (by decide +kernel), h1 2 (by decide +kernel)⟩ e1 e2 ⟨c.1, (h.at c.2).2.2.2.2.1, h.val c.2 g⟩ ?_
  by_cases k8 : (f1 x.toNatClampNeg).toNatClampNeg = 8
  · exact Or.inl k8
  · have d := e4 (by rw [hT, if_pos (by omega)])
    exact Or.inr ⟨d.1, (h.at d.2).2.2.2.2.1, h.val d.2 g⟩
/-- what one side tells, told of the other's rows -/
theorem fal_sim {n : Int32} {l f1 f2 f3 f4 f5 l' g1 g2 g3 g4 g5 : Nat → Int32} {p : Int32} (H : bothW n l f1 f2 f3 f4 f5 l' g1 g2 g3 g4 g5) (hp : 0 ≤ p.toInt ∧ p.toInt ≤ 63) : ∀ (d : Nat) (x t : Int32) (m : Int64) (s s' : duS), inN n x → (0 ≤ t.toInt ∧ t.toInt ≤ 6) → falP l' g1 g2 g3 g4 g5 (VALW l' g1 g2 g3 g4 g5) p d x t m s s' → falP l f1 f2 f3 f4 f5 (VALW l f1 f2 f3 f4 f5) p d x t m s s'
  | 0, x, t, m, s, s', hx, ht, a => trivial
  | d + 1, x, t, m, s, s', hx, ht, a => by
    have ih := fal_sim H hp d
    obtain ⟨e1, e2, e3, e4, e5, e6⟩ := H.at hx
    refine ⟨a.1, fun h0 => ⟨fun he => (a.2 h0).1 (by rw [← e5]; exact he), fun he => ?_⟩⟩
    have a := (a.2 h0).2 (by rw [← e5]; exact he)
    unfold falB at a ⊢
    rw [← e1, ← e2, ← e5] at a
    obtain ⟨a0, a1, a2, a3, a4, a5, a10, a11, ap⟩ := a
    have hsp : spK t (spW p t) := ⟨ht, spot_in hp ht⟩
    have h1 := H.2.1
    have hpr : prW l t (spW p t) = prW l' t (spW p t) := by unfold prW; rw [h1 0 (by decide +kernel), h1 1 (by decide +kernel), h1 2 (by decide +kernel)]
    have T : ∀ (v : Int64) (y y' : Int32), y = y' ∧ inN n y → duT m v (fun v => falP l' g1 g2 g3 g4 g5 (VALW l' g1 g2 g3 g4 g5) p d y' t v s s') s' → duT m v (fun v => falP l f1 f2 f3 f4 f5 (VALW l f1 f2 f3 f4 f5) p d y t v s s') s' := fun v y y' hy A => by
      obtain ⟨e, hy⟩ := hy
      subst e
      exact ⟨fun q => ih y t (m * v) s s' hy ht (A.1 q), A.2⟩
    have N1 : 2 ≤ (f1 x.toNatClampNeg).toNatClampNeg → (f1 x.toNatClampNeg).toNatClampNeg < 13 → 1 ≤ (nmT (f1 x.toNatClampNeg).toNatClampNeg).toInt := fun q q2 => by
      have hT := nmT_tab ⟨_, q2⟩
      have hT : (nmT (f1 x.toNatClampNeg).toNatClampNeg).toInt = if (f1 x.toNatClampNeg).toNatClampNeg < 2 then 0 else if (f1 x.toNatClampNeg).toNatClampNeg = 5 ∨ (f1 x.toNatClampNeg).toNatClampNeg = 6 ∨ (f1 x.toNatClampNeg).toNatClampNeg = 7 ∨ (f1 x.toNatClampNeg).toNatClampNeg = 9 ∨ (f1 x.toNatClampNeg).toNatClampNeg = 12 then 2 else 1 := hT
      rw [if_neg (by omega)] at hT
      rw [hT]
      split <;> decide
    refine ⟨a0, a1, fun q => T _ _ _ (e3 (N1 (by omega) (by omega))) (a2 q), fun q => T _ _ _ (e3 (N1 (by omega) (by omega))) (a3 q), fun q => ?_, fun q => ?_, fun q => ?_, fun q => ?_, fun q => ?_⟩
    · rw [hpr]
      exact T _ _ _ (e3 (N1 (by omega) (by omega))) (a4 q)
    · obtain ⟨s1, x1, x2⟩ := a5 q
      have c := e3 (N1 (by omega) (by omega))
      have dd := e4 (by rw [q]; decide)
      exact ⟨s1, ih _ t m s s1 c.2 ht (by rw [c.1]; exact x1), ih _ t m s1 s' dd.2 ht (by rw [dd.1]; exact x2)⟩
    · have c := e3 (N1 (by omega) (by omega))
      exact ih _ _ m s s' c.2 ⟨by omega, e6⟩ (by rw [c.1]; exact a10 q)
    · obtain ⟨r, x1, x2⟩ := a11 q
      have c := e3 (N1 (by omega) (by omega))
      have x1 := takQ_ext (l' := l) (fc' := f3) (V := VALW l f1 f2 f3 f4 f5) e6 ht.1 hp (fun t s g => H.one hx q t s g) (fun t k g h5 => (H.avg hx g h5).symm) x1
      refine ⟨r, x1, x2.1, fun q2 => ?_⟩
      rcases x1 with ⟨z1, _⟩ | ⟨z1, z2, _⟩
      · exact absurd z1 q2
      · exact ih _ r m s s' c.2 ⟨by omega, by omega⟩ (by rw [c.1]; exact x2.2 q2)
    · have hpk := H.pickA hx hsp q
      have ap := ap q
      rw [hpk]
      refine ⟨ap.1, fun q2 => ih _ t m s s' ?_ ht (ap.2 q2)⟩
      rw [← hpk] at q2 ⊢
      have c := e3 (N1 (by unfold pkK at q; omega) (by unfold pkK at q; omega))
      rcases pick_in (l := l) (fk := f1) (fn := f2) (fc := f3) (fd := f4) (fe := f5) (V := VALW l f1 f2 f3 f4 f5) (x := x) (t := t) (k := spW p t) with e | e | ⟨e8, e⟩
      · rw [e] at q2
        exact absurd (by decide +kernel) q2
      · rw [e]
        exact c.2
      · rw [e]
        refine (e4 ?_).2
        have q13 : (f1 x.toNatClampNeg).toNatClampNeg < 13 := by unfold pkK at q; omega
        have hT := nmT_tab ⟨_, q13⟩
        have hT : (nmT (f1 x.toNatClampNeg).toNatClampNeg).toInt = if (f1 x.toNatClampNeg).toNatClampNeg < 2 then 0 else if (f1 x.toNatClampNeg).toNatClampNeg = 5 ∨ (f1 x.toNatClampNeg).toNatClampNeg = 6 ∨ (f1 x.toNatClampNeg).toNatClampNeg = 7 ∨ (f1 x.toNatClampNeg).toNatClampNeg = 9 ∨ (f1 x.toNatClampNeg).toNatClampNeg = 12 then 2 else 1 := hT
        rw [hT, if_neg (by unfold pkK at q; omega), if_pos (by unfold pkK at q; omega)]
/-- how many clauses one is made of, on both sides -/
theorem both_made {n m : Int32} {f1 f2 f3 f4 f5 f6 f7 g1 g2 g3 g4 g5 g6 g7 : Nat → Int32} (R : rlC n f1 f2 f3 f4 (rfA m g1 g2 g3 g4)) (hm : 0 ≤ m.toInt ∧ m.toInt ≤ 24) (ok : okN g1 g3 g4 24) (a : ∀ j : Nat, (j : Int) < n.toInt → mesP f1 f2 f3 f4 f5 f6 f7 j) (b : ∀ j : Nat, (j : Int) < n.toInt → mesP g1 g2 g3 g4 g5 g6 g7 j) {x : Int32} (hx : inN n x) : f6 x.toNatClampNeg = g6 x.toNatClampNeg := by
  have e := rlC_size R hm.1
  subst e
  have t := tn hm.1
  have t2 := tn hx.1
  have x2 := hx.2
  have h := mes_uniq (fk := g1) (gk := f1) (fn := g2) (gn := f2) (fc := g3) (gc := f3) (fd := g4) (gd := f4) (fe := g5) (ge := f5) (fm := g6) (gm := f6) (fp := g7) (gp := f7) (n := n.toNatClampNeg) (fun j hj => ok j (by omega)) (fun j hj => by
    obtain ⟨h1, h2, h3, h4⟩ := R.2 j hj
    have h1 : f1 j = g1 j := h1
    have h2 : f2 j = g2 j := h2
    have h3 : f3 j = (if 1 ≤ (nmT (g1 j).toNatClampNeg).toInt then g3 j else -1) := h3
    have h4 : f4 j = (if (nmT (g1 j).toNatClampNeg).toInt = 2 then g4 j else -1) := h4
    exact ⟨h1.symm, h2.symm, fun q => by rw [h3, if_pos q], fun q => by rw [h4, if_pos q]⟩) (fun j hj => b j (by omega)) (fun j hj => a j (by omega)) n.toNatClampNeg
  exact (h x.toNatClampNeg (by omega) (by omega)).2.1.symm
theorem dus_uniq {n : Int32} {l f1 f2 f3 f4 f5 f6 l' g1 g2 g3 g4 g5 g6 : Nat → Int32} {p x t : Int32} {u u' : duS} (H : bothW n l f1 f2 f3 f4 f5 l' g1 g2 g3 g4 g5) (hM : f6 x.toNatClampNeg = g6 x.toNatClampNeg) (hp : 0 ≤ p.toInt ∧ p.toInt ≤ 63) (hx : inN n x) (ht : 0 ≤ t.toInt ∧ t.toInt ≤ 6) (a : dusP l f1 f2 f3 f4 f5 f6 (VALW l f1 f2 f3 f4 f5) p x t u) (b : dusP l' g1 g2 g3 g4 g5 g6 (VALW l' g1 g2 g3 g4 g5) p x t u') : duE u u' := by
  obtain ⟨s, a1, a2, a3, a4⟩ := a
  obtain ⟨s', b1, b2, b3, b4⟩ := b
  rw [← hM] at b3
  have h24 : x.toInt < 24 := by
    have := H.1.2
    have := hx.2
    omega
  exact fal_det H.2.2.1 24 x t 1 s u s' u' ⟨hx.1, h24⟩ h24 ht ⟨a3.trans b3.symm, fun _ => ⟨a2.trans b2.symm, fun j hj => (a1 j hj).trans (b1 j hj).symm⟩⟩ a4 (fal_sim H hp 24 x t 1 s' u' hx ht b4)
theorem duQ_uniqW {l f1 f2 f3 f4 f5 f6 l' g1 g2 g3 g4 g5 g6 : Nat → Int32} {n x t p o : Int32} {r r' : Int64} (H : odV n x t p o → bothW n l f1 f2 f3 f4 f5 l' g1 g2 g3 g4 g5 ∧ f6 x.toNatClampNeg = g6 x.toNatClampNeg) (a : duQ l f1 f2 f3 f4 f5 f6 (VALW l f1 f2 f3 f4 f5) n x t p o r) (b : duQ l' g1 g2 g3 g4 g5 g6 (VALW l' g1 g2 g3 g4 g5) n x t p o r') : r = r' := by
  rcases a with ⟨a1, a2⟩ | ⟨a1, u, a2, a3⟩
  · have b := b.resolve_right (fun q => a1 q.1)
    exact Int64.toInt_inj.1 (a2.trans b.2.symm)
  · obtain ⟨_, u', b2, b3⟩ := b.resolve_left (fun q => q.1 a1)
    have E := dus_uniq (H a1).1 (H a1).2 a1.1.2.2 a1.1.1 a1.1.2.1 a2 b2
    rcases a3 with ⟨a3, a4⟩ | ⟨a3, a4⟩
    · have b := b3.resolve_right (fun q => a3 (E.1.2 q.1))
      exact Int64.toInt_inj.1 (a4.trans b.2.symm)
    · have b := b3.resolve_left (fun q => q.1 (E.1.1 a3))
      have k := tn a1.2.1
      have k2 := a1.2.2
      rw [a4, b.2, (E.2 a3).2 o.toNatClampNeg (by omega)]
theorem ddQ_uniqW {l f1 f2 f3 f4 f5 f6 l' g1 g2 g3 g4 g5 g6 : Nat → Int32} {n x t p r r' : Int32} (H : hadV n x t p → bothW n l f1 f2 f3 f4 f5 l' g1 g2 g3 g4 g5 ∧ f6 x.toNatClampNeg = g6 x.toNatClampNeg) (a : ddQ l f1 f2 f3 f4 f5 f6 (VALW l f1 f2 f3 f4 f5) n x t p r) (b : ddQ l' g1 g2 g3 g4 g5 g6 (VALW l' g1 g2 g3 g4 g5) n x t p r') : r = r' := by
  rcases a with ⟨a1, a2⟩ | ⟨a1, u, a2, a3⟩
  · have b := b.resolve_right (fun q => a1 q.1)
    exact Int32.toInt_inj.1 (a2.trans b.2.symm)
  · obtain ⟨_, u', b2, b3⟩ := b.resolve_left (fun q => q.1 a1)
    have E := dus_uniq (H a1).1 (H a1).2 a1.2.2 a1.1 a1.2.1 a2 b2
    rcases a3 with ⟨a3, a4⟩ | ⟨a3, a4⟩
    · have b := b3.resolve_right (fun q => a3 (E.1.2 q.1))
      exact Int32.toInt_inj.1 (a4.trans b.2.symm)
    · have b := b3.resolve_left (fun q => q.1 (E.1.1 a3))
      rw [a4, b.2, (E.2 a3).1]
theorem faQ_uniqW {l f1 f2 f3 f4 f5 f6 l' g1 g2 g3 g4 g5 g6 : Nat → Int32} {n x t p o k : Int32} {r r' : Int64} (H : (odV n x t p o ∧ 0 ≤ k.toInt ∧ k.toInt ≤ 9) → bothW n l f1 f2 f3 f4 f5 l' g1 g2 g3 g4 g5 ∧ f6 x.toNatClampNeg = g6 x.toNatClampNeg) (a : faQ l f1 f2 f3 f4 f5 f6 (VALW l f1 f2 f3 f4 f5) n x t p o k r) (b : faQ l' g1 g2 g3 g4 g5 g6 (VALW l' g1 g2 g3 g4 g5) n x t p o k r') : r = r' := by
  rcases a with ⟨a1, a2⟩ | ⟨a1, u, a2, a3⟩
  · have b := b.resolve_right (fun q => a1 q.1)
    exact Int64.toInt_inj.1 (a2.trans b.2.symm)
  · obtain ⟨_, u', b2, b3⟩ := b.resolve_left (fun q => q.1 a1)
    have E := dus_uniq (H a1).1 (H a1).2 a1.1.1.2.2 a1.1.1.1 a1.1.1.2.1 a2 b2
    have q := tn a1.1.2.1
    have q2 := a1.1.2.2
    exact fsR_uniq (by omega) E a3 b3
