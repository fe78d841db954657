/-! the reference, on any state: numbers -/
/-- 0 or 1 -/
def isB (x : Int32) : Prop := x = 0 ∨ x = 1
theorem isB.nar {x : Int32} (h : isB x) : narrow .boolean (.int x) = .int x := by
  rcases h with rfl | rfl <;> rfl
theorem isB.fits {x : Int32} (h : isB x) : fits .boolean (.int x) = true := by
  rcases h with rfl | rfl <;> rfl
theorem isB.or {x y : Int32} (h : isB x) (h2 : isB y) : isB (x ||| y) := by
  rcases h with rfl | rfl <;> rcases h2 with rfl | rfl <;> first | exact Or.inl (by decide +kernel) | exact Or.inr (by decide +kernel)
theorem isB.or0 {x y : Int32} (h : isB x) (h2 : isB y) (e : (x ||| y).toInt = 0) : x.toInt = 0 ∧ y.toInt = 0 := by
  rcases h with rfl | rfl <;> rcases h2 with rfl | rfl <;> first | exact ⟨by decide, by decide⟩ | exact absurd e (by decide +kernel)
theorem isB.n {x : Int32} (h : isB x) : isB (vp_nar .boolean x) ∧ ((vp_nar .boolean x).toInt = x.toInt) := by
  rcases h with rfl | rfl
  · exact ⟨Or.inl rfl, rfl⟩
  · exact ⟨Or.inr rfl, rfl⟩
theorem isB.in {x : Int32} (h : isB x) : 0 ≤ x.toInt ∧ x.toInt ≤ 1 := by
  rcases h with rfl | rfl <;> decide
theorem isB0 : isB 0 := Or.inl rfl
theorem isB1 : isB 1 := Or.inr rfl
theorem in13i {x : Int32} (h : 0 ≤ x.toInt ∧ x.toInt ≤ 12) : x = 0 ∨ x = 1 ∨ x = 2 ∨ x = 3 ∨ x = 4 ∨ x = 5 ∨ x = 6 ∨ x = 7 ∨ x = 8 ∨ x = 9 ∨ x = 10 ∨ x = 11 ∨ x = 12 := by
  simp only [fa_eq, ti_0, ti_1, ti_2, ti_3, ti_4, ti_5, ti_6, ti_7, ti_8, ti_9, ti_10, ti_11, ti_12]
  omega
/-- what lies ahead of day d in a clause's row of spots -/
def tri (d : Int) : Int := d * (d + 1) / 2
theorem tri_in {d : Int} (h : 0 ≤ d ∧ d ≤ 6) : 0 ≤ tri d ∧ tri d + d < 28 ∧ tri (d + 1) = tri d + d + 1 := by
  rcases (show d = 0 ∨ d = 1 ∨ d = 2 ∨ d = 3 ∨ d = 4 ∨ d = 5 ∨ d = 6 by omega) with rfl | rfl | rfl | rfl | rfl | rfl | rfl <;> decide
theorem tri_eq {x : Int32} (h : 0 ≤ x.toInt ∧ x.toInt ≤ 6) : ((x * (x + 1)) / 2).toInt = tri x.toInt := by
  rcases (show x = 0 ∨ x = 1 ∨ x = 2 ∨ x = 3 ∨ x = 4 ∨ x = 5 ∨ x = 6 by
    simp only [fa_eq, ti_0, ti_1, ti_2, ti_3, ti_4, ti_5, ti_6]
    omega) with rfl | rfl | rfl | rfl | rfl | rfl | rfl <;> decide
theorem at_eq {x y z : Int32} (hx : 0 ≤ x.toInt ∧ x.toInt < 24) (hy : 0 ≤ y.toInt ∧ y.toInt ≤ 6) (hz : 0 ≤ z.toInt ∧ z.toInt ≤ y.toInt) : (((28 * x) + ((y * (y + 1)) / 2)) + z).toInt = 28 * x.toInt + tri y.toInt + z.toInt := by
  have h1 := tri_in hy
  have h2 := tri_eq hy
  have e : (28 * x).toInt = 28 * x.toInt := by
    have e28 : (28 : Int32).toInt = 28 := by decide
    rw [fb_mulI (by rw [e28]; omega) (by rw [e28]; omega), e28]
  have e2 : ((28 * x) + ((y * (y + 1)) / 2)).toInt = 28 * x.toInt + tri y.toInt := by
    rw [fb_addI (by rw [e, h2]; omega) (by rw [e, h2]; omega), e, h2]
  rw [fb_addI (by rw [e2]; omega) (by rw [e2]; omega), e2]
/-- the reference's clauses: every place holds a kind, and names earlier places where its kind names some -/
def okR (fk fc fd : Nat → Int32) : Prop := ∀ j : Nat, j < 24 → (0 ≤ (fk j).toInt ∧ (fk j).toInt ≤ 12) ∧ (1 ≤ (nmT (fk j).toNatClampNeg).toInt → 0 ≤ (fc j).toInt ∧ (fc j).toInt < j) ∧ ((nmT (fk j).toNatClampNeg).toInt = 2 → 0 ≤ (fd j).toInt ∧ (fd j).toInt < j)
/-- the first n ends: none behind the last day; what waits ends with what it names -/
def okE (fk fc fe : Nat → Int32) (n : Int) : Prop := ∀ j : Nat, (j : Int) < n → (fe j).toInt ≤ 6 ∧ ((fk j).toInt = 10 ∨ (fk j).toInt = 11 → (fe j).toInt = (fe (fc j).toNatClampNeg).toInt)
/-- what is laid of clause x: its days behind d, and all of the earlier clauses -/
def wbK (g : Nat → Int64) (x d : Int) : Prop := (∀ j : Nat, (j : Int) < 28 * x → 1 ≤ (g j).toInt) ∧ ∀ j : Nat, 28 * x + tri (d + 1) ≤ j → (j : Int) < 28 * x + 28 → 1 ≤ (g j).toInt
