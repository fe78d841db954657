/-! the reference, on any state: numbers -/
theorem l_rng (x : Int64) : -9223372036854775808 ≤ x.toInt ∧ x.toInt < 9223372036854775808 := by
  have h1 := Int64.le_toInt x
  have h2 := Int64.toInt_lt x
  omega
theorem l_div {x y : Int64} (h : 1 ≤ y.toInt) : (x / y).toInt = x.toInt.tdiv y.toInt := Int64.toInt_div_of_ne_right _ _ (by
  intro e
  rw [e] at h
  exact absurd h (by decide +kernel))
theorem l_neg {x : Int64} (h : -9223372036854775807 ≤ x.toInt) : (-x).toInt = -x.toInt := by
  have h2 := l_rng x
  rw [Int64.toInt_neg, Int.bmod_eq_of_le (by omega) (by omega)]
theorem l_sub {x y : Int64} (h1 : -9223372036854775808 ≤ x.toInt - y.toInt) (h2 : x.toInt - y.toInt < 9223372036854775808) : (x - y).toInt = x.toInt - y.toInt := by
  rw [Int64.toInt_sub, Int.bmod_eq_of_le (by omega) (by omega)]
theorem l_mul {x y : Int64} (h1 : -9223372036854775808 ≤ x.toInt * y.toInt) (h2 : x.toInt * y.toInt < 9223372036854775808) : (x * y).toInt = x.toInt * y.toInt := by
  rw [Int64.toInt_mul, Int.bmod_eq_of_le (by omega) (by omega)]
theorem div_pos64 {x y : Int64} (hy : 1 ≤ y.toInt) (hx : y.toInt ≤ x.toInt) : 1 ≤ (x / y).toInt := by
  rw [l_div hy, Int.tdiv_eq_ediv_of_nonneg (by omega)]
  exact Int.le_ediv_of_mul_le (by omega) (by omega)
theorem times_pos {x y z : Int64} (hx : 1 ≤ x.toInt) (hy : 1 ≤ y.toInt) (h : (z / y).toInt = x.toInt) : 1 ≤ z.toInt := by
  rw [l_div hy] at h
  by_cases hz : 1 ≤ z.toInt
  · exact hz
  · exfalso
    have h2 : 0 ≤ (-z.toInt).tdiv y.toInt := Int.tdiv_nonneg (by omega) (by omega)
    rw [Int.neg_tdiv] at h2
    omega
theorem l_small {x y : Int32} (hx : 1 ≤ x.toInt ∧ x.toInt ≤ 9) (hy : 1 ≤ y.toInt ∧ y.toInt ≤ 9) : 1 ≤ (x.toInt64 * y.toInt64).toInt := by
  have h1 : x.toInt * y.toInt ≤ 9 * 9 := Int.mul_le_mul hx.2 hy.2 (by omega) (by omega)
  have h2 : 1 * 1 ≤ x.toInt * y.toInt := Int.mul_le_mul hx.1 hy.1 (by omega) (by omega)
  rw [l_mul (by rw [Int32.toInt_toInt64, Int32.toInt_toInt64]; omega) (by rw [Int32.toInt_toInt64, Int32.toInt_toInt64]; omega), Int32.toInt_toInt64, Int32.toInt_toInt64]
  omega
theorem xor_neg {x y : Int64} (hy : 0 ≤ y.toInt) : (x ^^^ y).toInt < 0 ↔ x.toInt < 0 := by
  have h : (x ^^^ y).toBitVec.msb = (x.toBitVec.msb ^^ y.toBitVec.msb) := by
    rw [Int64.toBitVec_xor, BitVec.msb_xor]
  have e1 : (x ^^^ y).toBitVec.msb = decide ((x ^^^ y).toInt < 0) := BitVec.msb_eq_toInt
  have e2 : x.toBitVec.msb = decide (x.toInt < 0) := BitVec.msb_eq_toInt
  have e3 : y.toBitVec.msb = decide (y.toInt < 0) := BitVec.msb_eq_toInt
  rw [e1, e2, e3, decide_eq_false (show ¬ y.toInt < 0 by omega), Bool.xor_false] at h
  exact decide_eq_decide.mp h
theorem fdA {x y z : Int64} (hy : 1 ≤ y.toInt) (hz : z = x / y) (h : 0 ≤ (x ^^^ y).toInt) : z.toInt = x.toInt / y.toInt := by
  have h2 := xor_neg (x := x) (y := y) (by omega)
  rw [hz, l_div hy, Int.tdiv_eq_ediv_of_nonneg (by omega)]
theorem td_neg {x y : Int} (hy : 1 ≤ y) (hx : x < 0) : x ≤ x.tdiv y * y ∧ x.tdiv y * y ≤ 0 := by
  have h1 : 0 ≤ (-x).tdiv y := Int.tdiv_nonneg (by omega) (by omega)
  have h2 : (-x).tdiv y * y ≤ -x := by
    rw [Int.tdiv_eq_ediv_of_nonneg (by omega)]
    exact Int.ediv_mul_le _ (by omega)
  have h3 : 0 ≤ (-x).tdiv y * y := Int.mul_nonneg h1 (by omega)
  rw [Int.neg_tdiv, Int.neg_mul] at h2 h3
  omega
theorem fdB {x y z : Int64} (hy : 1 ≤ y.toInt) (hz : z = x / y) (h : ¬ 0 ≤ (x ^^^ y).toInt) (h2 : (z * y).toInt = x.toInt) : z.toInt = x.toInt / y.toInt := by
  have hx := (xor_neg (x := x) (y := y) (by omega)).mp (by omega)
  have e : z.toInt = x.toInt.tdiv y.toInt := by rw [hz, l_div hy]
  have h3 := td_neg hy hx
  have h4 := l_rng x
  rw [l_mul (by rw [e]; omega) (by rw [e]; omega)] at h2
  rw [← h2, Int.mul_ediv_cancel _ (by omega)]
theorem fdC {x y z : Int64} (hy : 1 ≤ y.toInt) (hz : z = x / y) (h : ¬ 0 ≤ (x ^^^ y).toInt) (h2 : ¬ (z * y).toInt = x.toInt) : (z - 1).toInt = x.toInt / y.toInt := by
  have hx := (xor_neg (x := x) (y := y) (by omega)).mp (by omega)
  have e : z.toInt = x.toInt.tdiv y.toInt := by rw [hz, l_div hy]
  have h3 := td_neg hy hx
  have h4 := l_rng x
  rw [l_mul (by rw [e]; omega) (by rw [e]; omega), e] at h2
  have hnd : ¬ (0 ≤ x.toInt ∨ y.toInt ∣ x.toInt) := by
    rintro (h5 | h5)
    · omega
    · exact h2 (Int.tdiv_mul_cancel h5)
  have e2 := Int.tdiv_eq_ediv (a := x.toInt) (b := y.toInt)
  rw [if_neg hnd, Int.sign_eq_one_of_pos (by omega)] at e2
  have h6 : x.toInt * y.toInt ≤ x.toInt * 1 := Int.mul_le_mul_of_nonpos_left (by omega) hy
  have h7 : x.toInt ≤ x.toInt / y.toInt := Int.le_ediv_of_mul_le (by omega) (by omega)
  have e1 : (1 : Int64).toInt = 1 := by decide
  have h8 : x.toInt / y.toInt < 0 := by
    first | exact Int.ediv_neg_of_neg_of_pos (by omega) (by omega) | exact Int.ediv_neg' (by omega) (by omega) | exact Int.ediv_lt_of_lt_mul (by omega) (by omega)
  rw [l_sub (by omega) (by omega), e1]
  omega
theorem cmpS {x y z : Int64} (hy : 1 ≤ y.toInt) (hz : z.toInt = x.toInt / y.toInt) : (x - z * y).toInt = x.toInt % y.toInt ∧ 0 ≤ x.toInt % y.toInt ∧ x.toInt % y.toInt < y.toInt := by
  have h1 := Int.emod_nonneg x.toInt (show y.toInt ≠ 0 by omega)
  have h2 := Int.emod_lt_of_pos x.toInt (show 0 < y.toInt by omega)
  have h3 := l_rng y
  refine ⟨?_, h1, h2⟩
  have e : (x - z * y).toInt = (x.toInt - z.toInt * y.toInt).bmod (2 ^ 64) := by
    simp [Int64.toInt_sub, Int64.toInt_mul]
  have e2 : x.toInt - z.toInt * y.toInt = x.toInt % y.toInt := by
    rw [hz, Int.emod_def, Int.mul_comm]
  rw [e, e2, Int.bmod_eq_of_le (by omega) (by omega)]
theorem mod_half {x y : Int} (hy : 0 < y) (h : y ≤ x) : 2 * (x % y) + 1 ≤ x := by
  have h1 := Int.emod_lt_of_pos x hy
  have h2 := Int.mul_ediv_add_emod x y
  have h3 : 1 ≤ x / y := Int.le_ediv_of_mul_le hy (by omega)
  have h4 : y * 1 ≤ y * (x / y) := Int.mul_le_mul_of_nonneg_left h3 (by omega)
  omega
theorem cmpK {x y z t : Int} {k : Nat} (hy : 1 ≤ y) (hr : 1 ≤ x % y) (hs : 1 ≤ z % t) (hk : (z % t) * y + 1 < 2 ^ (k + 1)) : (y % (x % y)) * (z % t) + 1 < 2 ^ k := by
  have h1 := Int.emod_lt_of_pos x (show 0 < y by omega)
  have h2 := mod_half (x := y) (y := x % y) (by omega) (by omega)
  have h3 : (2 * (y % (x % y)) + 1) * (z % t) ≤ y * (z % t) := Int.mul_le_mul_of_nonneg_right h2 (by omega)
  have h4 : (2 : Int) ^ (k + 1) = 2 ^ k * 2 := Int.pow_succ 2 k
  rw [Int.add_mul, Int.mul_assoc] at h3
  rw [Int.mul_comm y] at h3
  omega
theorem cmpT {x y z : Int64} (hy : 1 ≤ y.toInt) (hz : 1 ≤ z.toInt) : (x.toInt % z.toInt) * y.toInt + 1 < 2 ^ 127 := by
  have h1 := Int.emod_lt_of_pos x.toInt (show 0 < z.toInt by omega)
  have h2 := l_rng y
  have h3 := l_rng z
  have h4 : (x.toInt % z.toInt) * y.toInt ≤ 9223372036854775808 * 9223372036854775808 := Int.mul_le_mul (by omega) (by omega) (by omega) (by omega)
  have h5 : (9223372036854775808 * 9223372036854775808 : Int) + 1 < 2 ^ 127 := by decide
  omega
/-- 0 or 1 -/
def isB (x : Int32) : Prop := x = 0 ∨ x = 1
theorem isB.nar {x : Int32} (h : isB x) : narrow .boolean (.int x) = .int x := by
  rcases h with rfl | rfl <;> rfl
theorem isB.fits {x : Int32} (h : isB x) : fits .boolean (.int x) = true := by
  rcases h with rfl | rfl <;> rfl
theorem isB.or {x y : Int32} (h : isB x) (h2 : isB y) : isB (x ||| y) := by
  rcases h with rfl | rfl <;> rcases h2 with rfl | rfl <;> first | exact Or.inl (by decide +kernel) | exact Or.inr (by decide +kernel)
theorem isB.or0 {x y : Int32} (h : isB x) (h2 : isB y) (e : (x ||| y).toInt = 0) : x.toInt = 0 ∧ y.toInt = 0 := by
  rcases h with rfl | rfl <;> rcases h2 with rfl | rfl <;> first | exact ⟨by decide, by decide⟩ | exact absurd e (by decide +kernel)
theorem isB.n {x : Int32} (h : isB x) : isB (vp_nar .boolean x) ∧ ((vp_nar .boolean x).toInt = x.toInt) := by
  rcases h with rfl | rfl
  · exact ⟨Or.inl rfl, rfl⟩
  · exact ⟨Or.inr rfl, rfl⟩
theorem isB.in {x : Int32} (h : isB x) : 0 ≤ x.toInt ∧ x.toInt ≤ 1 := by
  rcases h with rfl | rfl <;> decide
theorem isB0 : isB 0 := Or.inl rfl
theorem isB1 : isB 1 := Or.inr rfl
theorem in13i {x : Int32} (h : 0 ≤ x.toInt ∧ x.toInt ≤ 12) : x = 0 ∨ x = 1 ∨ x = 2 ∨ x = 3 ∨ x = 4 ∨ x = 5 ∨ x = 6 ∨ x = 7 ∨ x = 8 ∨ x = 9 ∨ x = 10 ∨ x = 11 ∨ x = 12 := by
  simp only [fa_eq, ti_0, ti_1, ti_2, ti_3, ti_4, ti_5, ti_6, ti_7, ti_8, ti_9, ti_10, ti_11, ti_12]
  omega
/-- what lies ahead of day d in a clause's row of spots -/
def tri (d : Int) : Int := d * (d + 1) / 2
theorem tri_in {d : Int} (h : 0 ≤ d ∧ d ≤ 6) : 0 ≤ tri d ∧ tri d + d < 28 ∧ tri (d + 1) = tri d + d + 1 := by
  rcases (show d = 0 ∨ d = 1 ∨ d = 2 ∨ d = 3 ∨ d = 4 ∨ d = 5 ∨ d = 6 by omega) with rfl | rfl | rfl | rfl | rfl | rfl | rfl <;> decide
theorem tri_eq {x : Int32} (h : 0 ≤ x.toInt ∧ x.toInt ≤ 6) : ((x * (x + 1)) / 2).toInt = tri x.toInt := by
  rcases (show x = 0 ∨ x = 1 ∨ x = 2 ∨ x = 3 ∨ x = 4 ∨ x = 5 ∨ x = 6 by
    simp only [fa_eq, ti_0, ti_1, ti_2, ti_3, ti_4, ti_5, ti_6]
    omega) with rfl | rfl | rfl | rfl | rfl | rfl | rfl <;> decide
theorem at_eq {x y z : Int32} (hx : 0 ≤ x.toInt ∧ x.toInt < 24) (hy : 0 ≤ y.toInt ∧ y.toInt ≤ 6) (hz : 0 ≤ z.toInt ∧ z.toInt ≤ y.toInt) : (((28 * x) + ((y * (y + 1)) / 2)) + z).toInt = 28 * x.toInt + tri y.toInt + z.toInt := by
  have h1 := tri_in hy
  have h2 := tri_eq hy
  have e : (28 * x).toInt = 28 * x.toInt := by
    have e28 : (28 : Int32).toInt = 28 := by decide
    rw [fb_mulI (by rw [e28]; omega) (by rw [e28]; omega), e28]
  have e2 : ((28 * x) + ((y * (y + 1)) / 2)).toInt = 28 * x.toInt + tri y.toInt := by
    rw [fb_addI (by rw [e, h2]; omega) (by rw [e, h2]; omega), e, h2]
  rw [fb_addI (by rw [e2]; omega) (by rw [e2]; omega), e2]
/-- the reference's clauses: every place holds a kind, and names earlier places where its kind names some -/
def okR (fk fc fd : Nat → Int32) : Prop := ∀ j : Nat, j < 24 → (0 ≤ (fk j).toInt ∧ (fk j).toInt ≤ 12) ∧ (1 ≤ (nmT (fk j).toNatClampNeg).toInt → 0 ≤ (fc j).toInt ∧ (fc j).toInt < j) ∧ ((nmT (fk j).toNatClampNeg).toInt = 2 → 0 ≤ (fd j).toInt ∧ (fd j).toInt < j)
/-- the first n ends: none behind the last day; what waits ends with what it names -/
def okE (fk fc fe : Nat → Int32) (n : Int) : Prop := ∀ j : Nat, (j : Int) < n → (fe j).toInt ≤ 6 ∧ ((fk j).toInt = 10 ∨ (fk j).toInt = 11 → (fe j).toInt = (fe (fc j).toNatClampNeg).toInt)
/-- what is laid of clause x: its days behind d, and all of the earlier clauses -/
def wbK (g : Nat → Int64) (x d : Int) : Prop := (∀ j : Nat, (j : Int) < 28 * x → 1 ≤ (g j).toInt) ∧ ∀ j : Nat, 28 * x + tri (d + 1) ≤ j → (j : Int) < 28 * x + 28 → 1 ≤ (g j).toInt
