/-! both sides against each other, over a call -/
theorem rlC_ext {n m m' : Int32} {fk fn fc fd fk' fn' fc' fd' g1 g2 g3 g4 h1 h2 h3 h4 : Nat → Int32} (R : rlC n fk fn fc fd (rfA m g1 g2 g3 g4)) (hn : n.toInt ≤ 24) (hm : m' = m) (e1 : ∀ j : Nat, j < 24 → fk' j = fk j ∧ fn' j = fn j ∧ fc' j = fc j ∧ fd' j = fd j) (e2 : ∀ j : Nat, j < 24 → h1 j = g1 j ∧ h2 j = g2 j ∧ h3 j = g3 j ∧ h4 j = g4 j) : rlC n fk' fn' fc' fd' (rfA m' h1 h2 h3 h4) := by
  subst hm
  refine ⟨R.1, fun j hj => ?_⟩
  have hR := R.1
  have hj : j < m'.toNatClampNeg := hj
  have hR : n.toInt = (m'.toNatClampNeg : Int) := hR
  obtain ⟨a1, a2, a3, a4⟩ := e1 j (by omega)
  obtain ⟨b1, b2, b3, b4⟩ := e2 j (by omega)
  show fk' j = h1 j ∧ fn' j = h2 j ∧ fc' j = (if 1 ≤ (nmT (h1 j).toNatClampNeg).toInt then h3 j else -1) ∧ fd' j = (if (nmT (h1 j).toNatClampNeg).toInt = 2 then h4 j else -1)
  rw [a1, a2, a3, a4, b1, b2, b3, b4]
  exact R.2 j hj
theorem rlB_ext {bn bn' gn gn' g g' : Nat → Int32} {bf bf' : Nat → Nat → Int32} (R : rlB bn bf gn g) (O : bgOk bn) (e1 : ∀ k : Nat, k < 3 → bn' k = bn k ∧ ∀ j : Nat, j < 12 → bf' k j = bf k j) (e2 : ∀ k : Nat, k < 3 → gn' k = gn k) (e3 : ∀ j : Nat, j < 36 → g' j = g j) : rlB bn' bf' gn' g' := by
  intro k hk
  have o := O k hk
  rw [(e1 k hk).1, e2 k hk]
  refine ⟨(R k hk).1, fun i hi => ?_⟩
  rw [(e1 k hk).2 i (by omega), e3 (12 * k + i) (by omega)]
  exact (R k hk).2 i hi
theorem rlB_list {bn gn g : Nat → Int32} {bf : Nat → Nat → Int32} (R : rlB bn bf gn g) : rlB (fun k => [bn 0, bn 1, bn 2].getD k 0) bf gn g := all3 (R 0 (by decide +kernel)) (R 1 (by decide +kernel)) (R 2 (by decide +kernel))
theorem rlC_kind {n m : Int32} {fk fn fc fd g1 g2 g3 g4 : Nat → Int32} (R : rlC n fk fn fc fd (rfA m g1 g2 g3 g4)) : ∀ j : Nat, (j : Int) < n.toInt → fk j = g1 j := fun j hj => by
  have h := R.1
  have h : n.toInt = (m.toNatClampNeg : Int) := h
  exact (R.2 j (by show j < m.toNatClampNeg; omega)).1
theorem getD4 {a : Nat → Int32} {k : Nat} (h : k < 4) : [a 0, a 1, a 2, a 3].getD k 0 = a k := by
  match k, h with
  | 0, _ => rfl
  | 1, _ => rfl
  | 2, _ => rfl
  | 3, _ => rfl
  | k + 4, h => omega
theorem feed_rel {n x1 x2 : Int32} {f u w : Nat → Int32} (a : ((1 ≤ x1.toInt ∧ x1.toInt ≤ 4) ∧ n.toInt + x1.toInt ≤ 120 → u = fdF f n.toNatClampNeg x2 x1.toNatClampNeg) ∧ (¬ ((1 ≤ x1.toInt ∧ x1.toInt ≤ 4) ∧ n.toInt + x1.toInt ≤ 120) → u = f)) (b : ((1 ≤ x1.toInt ∧ x1.toInt ≤ 4) ∧ n.toInt + x1.toInt ≤ 120 → w = fdF f n.toNatClampNeg x2 x1.toNatClampNeg) ∧ (¬ ((1 ≤ x1.toInt ∧ x1.toInt ≤ 4) ∧ n.toInt + x1.toInt ≤ 120) → w = f)) : u = w := by
  by_cases c : (1 ≤ x1.toInt ∧ x1.toInt ≤ 4) ∧ n.toInt + x1.toInt ≤ 120
  · rw [a.1 c, b.1 c]
  · rw [a.2 c, b.2 c]
/-- what an image keeps, on both sides -/
def rlK (n : Int32) (fk fn fc fd : Nat → Int32) (bn : Nat → Int32) (bf : Nat → Nat → Int32) (g : Nat → Int32) : Prop := rlC n fk fn fc fd (rfA (g 7) (fun j => g (8 + j)) (fun j => g (32 + j)) (fun j => g (56 + j)) (fun j => g (80 + j))) ∧ rlB bn bf (fun k => g (140 + k)) (fun k => g (104 + k))
