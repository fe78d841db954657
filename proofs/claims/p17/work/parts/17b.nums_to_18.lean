section
theorem l_rng (x : Int64) : -9223372036854775808 ≤ x.toInt ∧ x.toInt < 9223372036854775808 := by
  have h1 := Int64.le_toInt x
  have h2 := Int64.toInt_lt x
  omega
theorem l_div {x y : Int64} (h : 1 ≤ y.toInt) : (x / y).toInt = x.toInt.tdiv y.toInt := Int64.toInt_div_of_ne_right _ _ (by
  intro e
  rw [e] at h
  exact absurd h (by decide +kernel))
theorem l_neg {x : Int64} (h : -9223372036854775807 ≤ x.toInt) : (-x).toInt = -x.toInt := by
  have h2 := l_rng x
  rw [Int64.toInt_neg, Int.bmod_eq_of_le (by omega) (by omega)]
theorem l_sub {x y : Int64} (h1 : -9223372036854775808 ≤ x.toInt - y.toInt) (h2 : x.toInt - y.toInt < 9223372036854775808) : (x - y).toInt = x.toInt - y.toInt := by
  rw [Int64.toInt_sub, Int.bmod_eq_of_le (by omega) (by omega)]
theorem l_mul {x y : Int64} (h1 : -9223372036854775808 ≤ x.toInt * y.toInt) (h2 : x.toInt * y.toInt < 9223372036854775808) : (x * y).toInt = x.toInt * y.toInt := by
  rw [Int64.toInt_mul, Int.bmod_eq_of_le (by omega) (by omega)]
theorem div_pos64 {x y : Int64} (hy : 1 ≤ y.toInt) (hx : y.toInt ≤ x.toInt) : 1 ≤ (x / y).toInt := by
  rw [l_div hy, Int.tdiv_eq_ediv_of_nonneg (by omega)]
  exact Int.le_ediv_of_mul_le (by omega) (by omega)
theorem times_pos {x y z : Int64} (hx : 1 ≤ x.toInt) (hy : 1 ≤ y.toInt) (h : (z / y).toInt = x.toInt) : 1 ≤ z.toInt := by
  rw [l_div hy] at h
  by_cases hz : 1 ≤ z.toInt
  · exact hz
  · exfalso
    have h2 : 0 ≤ (-z.toInt).tdiv y.toInt := Int.tdiv_nonneg (by omega) (by omega)
    rw [Int.neg_tdiv] at h2
    omega
theorem l_small {x y : Int32} (hx : 1 ≤ x.toInt ∧ x.toInt ≤ 9) (hy : 1 ≤ y.toInt ∧ y.toInt ≤ 9) : 1 ≤ (x.toInt64 * y.toInt64).toInt := by
  have h1 : x.toInt * y.toInt ≤ 9 * 9 := Int.mul_le_mul hx.2 hy.2 (by omega) (by omega)
  have h2 : 1 * 1 ≤ x.toInt * y.toInt := Int.mul_le_mul hx.1 hy.1 (by omega) (by omega)
  rw [l_mul (by rw [Int32.toInt_toInt64, Int32.toInt_toInt64]; omega) (by rw [Int32.toInt_toInt64, Int32.toInt_toInt64]; omega), Int32.toInt_toInt64, Int32.toInt_toInt64]
  omega
theorem xor_neg {x y : Int64} (hy : 0 ≤ y.toInt) : (x ^^^ y).toInt < 0 ↔ x.toInt < 0 := by
  have h : (x ^^^ y).toBitVec.msb = (x.toBitVec.msb ^^ y.toBitVec.msb) := by
    rw [Int64.toBitVec_xor, BitVec.msb_xor]
  have e1 : (x ^^^ y).toBitVec.msb = decide ((x ^^^ y).toInt < 0) := BitVec.msb_eq_toInt
  have e2 : x.toBitVec.msb = decide (x.toInt < 0) := BitVec.msb_eq_toInt
  have e3 : y.toBitVec.msb = decide (y.toInt < 0) := BitVec.msb_eq_toInt
  rw [e1, e2, e3, decide_eq_false (show ¬ y.toInt < 0 by omega), Bool.xor_false] at h
  exact decide_eq_decide.mp h
theorem fdA {x y z : Int64} (hy : 1 ≤ y.toInt) (hz : z = x / y) (h : 0 ≤ (x ^^^ y).toInt) : z.toInt = x.toInt / y.toInt := by
  have h2 := xor_neg (x := x) (y := y) (by omega)
  rw [hz, l_div hy, Int.tdiv_eq_ediv_of_nonneg (by omega)]
theorem td_neg {x y : Int} (hy : 1 ≤ y) (hx : x < 0) : x ≤ x.tdiv y * y ∧ x.tdiv y * y ≤ 0 := by
  have h1 : 0 ≤ (-x).tdiv y := Int.tdiv_nonneg (by omega) (by omega)
  have h2 : (-x).tdiv y * y ≤ -x := by
    rw [Int.tdiv_eq_ediv_of_nonneg (by omega)]
    exact Int.ediv_mul_le _ (by omega)
  have h3 : 0 ≤ (-x).tdiv y * y := Int.mul_nonneg h1 (by omega)
  rw [Int.neg_tdiv, Int.neg_mul] at h2 h3
  omega
theorem fdB {x y z : Int64} (hy : 1 ≤ y.toInt) (hz : z = x / y) (h : ¬ 0 ≤ (x ^^^ y).toInt) (h2 : (z * y).toInt = x.toInt) : z.toInt = x.toInt / y.toInt := by
  have hx := (xor_neg (x := x) (y := y) (by omega)).mp (by omega)
  have e : z.toInt = x.toInt.tdiv y.toInt := by rw [hz, l_div hy]
  have h3 := td_neg hy hx
  have h4 := l_rng x
  rw [l_mul (by rw [e]; omega) (by rw [e]; omega)] at h2
  rw [← h2, Int.mul_ediv_cancel _ (by omega)]
theorem fdC {x y z : Int64} (hy : 1 ≤ y.toInt) (hz : z = x / y) (h : ¬ 0 ≤ (x ^^^ y).toInt) (h2 : ¬ (z * y).toInt = x.toInt) : (z - 1).toInt = x.toInt / y.toInt := by
  have hx := (xor_neg (x := x) (y := y) (by omega)).mp (by omega)
  have e : z.toInt = x.toInt.tdiv y.toInt := by rw [hz, l_div hy]
  have h3 := td_neg hy hx
  have h4 := l_rng x
  rw [l_mul (by rw [e]; omega) (by rw [e]; omega), e] at h2
  have hnd : ¬ (0 ≤ x.toInt ∨ y.toInt ∣ x.toInt) := by
    rintro (h5 | h5)
    · omega
    · exact h2 (Int.tdiv_mul_cancel h5)
  have e2 := Int.tdiv_eq_ediv (a := x.toInt) (b := y.toInt)
  rw [if_neg hnd, Int.sign_eq_one_of_pos (by omega)] at e2
  have h6 : x.toInt * y.toInt ≤ x.toInt * 1 := Int.mul_le_mul_of_nonpos_left (by omega) hy
  have h7 : x.toInt ≤ x.toInt / y.toInt := Int.le_ediv_of_mul_le (by omega) (by omega)
  have e1 : (1 : Int64).toInt = 1 := by decide
  have h8 : x.toInt / y.toInt < 0 := by
    first | exact Int.ediv_neg_of_neg_of_pos (by omega) (by omega) | exact Int.ediv_neg' (by omega) (by omega) | exact Int.ediv_lt_of_lt_mul (by omega) (by omega)
  rw [l_sub (by omega) (by omega), e1]
  omega
theorem cmpS {x y z : Int64} (hy : 1 ≤ y.toInt) (hz : z.toInt = x.toInt / y.toInt) : (x - z * y).toInt = x.toInt % y.toInt ∧ 0 ≤ x.toInt % y.toInt ∧ x.toInt % y.toInt < y.toInt := by
  have h1 := Int.emod_nonneg x.toInt (show y.toInt ≠ 0 by omega)
  have h2 := Int.emod_lt_of_pos x.toInt (show 0 < y.toInt by omega)
  have h3 := l_rng y
  refine ⟨?_, h1, h2⟩
  have e : (x - z * y).toInt = (x.toInt - z.toInt * y.toInt).bmod (2 ^ 64) := by
    simp [Int64.toInt_sub, Int64.toInt_mul]
  have e2 : x.toInt - z.toInt * y.toInt = x.toInt % y.toInt := by
    rw [hz, Int.emod_def, Int.mul_comm]
  rw [e, e2, Int.bmod_eq_of_le (by omega) (by omega)]
theorem mod_half {x y : Int} (hy : 0 < y) (h : y ≤ x) : 2 * (x % y) + 1 ≤ x := by
  have h1 := Int.emod_lt_of_pos x hy
  have h2 := Int.mul_ediv_add_emod x y
  have h3 : 1 ≤ x / y := Int.le_ediv_of_mul_le hy (by omega)
  have h4 : y * 1 ≤ y * (x / y) := Int.mul_le_mul_of_nonneg_left h3 (by omega)
  omega
theorem cmpK {x y z t : Int} {k : Nat} (hy : 1 ≤ y) (hr : 1 ≤ x % y) (hs : 1 ≤ z % t) (hk : (z % t) * y + 1 < 2 ^ (k + 1)) : (y % (x % y)) * (z % t) + 1 < 2 ^ k := by
  have h1 := Int.emod_lt_of_pos x (show 0 < y by omega)
  have h2 := mod_half (x := y) (y := x % y) (by omega) (by omega)
  have h3 : (2 * (y % (x % y)) + 1) * (z % t) ≤ y * (z % t) := Int.mul_le_mul_of_nonneg_right h2 (by omega)
  have h4 : (2 : Int) ^ (k + 1) = 2 ^ k * 2 := Int.pow_succ 2 k
  rw [Int.add_mul, Int.mul_assoc] at h3
  rw [Int.mul_comm y] at h3
  omega
theorem cmpT {x y z : Int64} (hy : 1 ≤ y.toInt) (hz : 1 ≤ z.toInt) : (x.toInt % z.toInt) * y.toInt + 1 < 2 ^ 127 := by
  have h1 := Int.emod_lt_of_pos x.toInt (show 0 < z.toInt by omega)
  have h2 := l_rng y
  have h3 := l_rng z
  have h4 : (x.toInt % z.toInt) * y.toInt ≤ 9223372036854775808 * 9223372036854775808 := Int.mul_le_mul (by omega) (by omega) (by omega) (by omega)
  have h5 : (9223372036854775808 * 9223372036854775808 : Int) + 1 < 2 ^ 127 := by decide
  omega
/-! numbers of 64 bits: products and sums that fit, lowest terms, which of two fractions is more -/
theorem l_rem {x y : Int64} (hy : y.toInt ≠ 0) (h : -9223372036854775808 < x.toInt ∨ 1 ≤ y.toInt) : (x - x / y * y).toInt = x.toInt.tmod y.toInt := by
  have e : (x / y).toInt = x.toInt.tdiv y.toInt := by
    rcases h with h | h
    · exact Int64.toInt_div_of_ne_left _ _ (by intro e; rw [e] at h; exact absurd h (by decide +kernel))
    · exact l_div h
  obtain ⟨z, hz⟩ : ∃ z, z = x / y := ⟨_, rfl⟩
  rw [← hz] at e ⊢
  have h1 : (x - z * y).toInt = (x.toInt - z.toInt * y.toInt).bmod (2 ^ 64) := by
    simp [Int64.toInt_sub, Int64.toInt_mul]
  have h2 : x.toInt - z.toInt * y.toInt = x.toInt.tmod y.toInt := by
    rw [e, Int.tmod_def, Int.mul_comm]
  have h3 : (x.toInt.tmod y.toInt).natAbs < y.toInt.natAbs := by
    rw [Int.natAbs_tmod]
    exact Nat.mod_lt _ (by omega)
  have h4 := l_rng y
  rw [h1, h2, Int.bmod_eq_of_le (by omega) (by omega)]
theorem gcd_turn {x y z : Int} (h : z.natAbs = x.natAbs % y.natAbs) : Nat.gcd y.natAbs z.natAbs = Nat.gcd x.natAbs y.natAbs := by
  rw [h, Nat.gcd_comm x.natAbs y.natAbs, Nat.gcd_rec y.natAbs x.natAbs]
  exact Nat.gcd_comm _ _
/-- the greatest number by which both can be divided -/
def gI (x y : Int64) : Int64 := Int64.ofInt ((Nat.gcd x.toInt.natAbs y.toInt.natAbs : Nat) : Int)
theorem gI_toInt {x y : Int64} (hy : 1 ≤ y.toInt) : (gI x y).toInt = ((Nat.gcd x.toInt.natAbs y.toInt.natAbs : Nat) : Int) ∧ 1 ≤ (gI x y).toInt ∧ (gI x y).toInt ≤ y.toInt := by
  have h1 : Nat.gcd x.toInt.natAbs y.toInt.natAbs ≤ y.toInt.natAbs := Nat.gcd_le_right _ (by omega)
  have h2 : 0 < Nat.gcd x.toInt.natAbs y.toInt.natAbs := Nat.gcd_pos_of_pos_right _ (by omega)
  have h3 := l_rng y
  have e : (gI x y).toInt = ((Nat.gcd x.toInt.natAbs y.toInt.natAbs : Nat) : Int) := Int64.toInt_ofInt_of_le (by omega) (by omega)
  exact ⟨e, by omega, by omega⟩
theorem gI_eq {x y z : Int64} (hy : 1 ≤ y.toInt) (h : z.toInt = ((Nat.gcd x.toInt.natAbs y.toInt.natAbs : Nat) : Int)) : z = gI x y := Int64.toInt_inj.1 (h.trans (gI_toInt hy).1.symm)
/-- in lowest terms -/
def redW (x y : Int64) : Int64 × Int64 := (x / gI x y, y / gI x y)
theorem redW_pos {x y : Int64} (hy : 1 ≤ y.toInt) : 1 ≤ (redW x y).2.toInt := by
  have h := gI_toInt (x := x) hy
  exact div_pos64 h.2.1 h.2.2
/-- the class's turns: what is left halves -/
theorem red_turn {c r n : Int64} {i : Nat} {G : Nat} (hc : 1 ≤ c.toInt) (hr : 1 ≤ r.toInt) (hrc : r.toInt < c.toInt) (hG : Nat.gcd c.toInt.natAbs r.toInt.natAbs = G) (hk : (c.toInt * r.toInt) * 2 ^ i < 2 ^ 127) (hn : n = c - c / r * r) : (0 ≤ n.toInt ∧ n.toInt < r.toInt) ∧ Nat.gcd r.toInt.natAbs n.toInt.natAbs = G ∧ (r.toInt * n.toInt) * 2 ^ (i + 1) < 2 ^ 127 := by
  have e : n.toInt = c.toInt.tmod r.toInt := by rw [hn]; exact l_rem (by omega) (Or.inr hr)
  have e2 : n.toInt = c.toInt % r.toInt := by rw [e]; exact Int.tmod_eq_emod_of_nonneg (by omega)
  have h1 := Int.emod_nonneg c.toInt (show r.toInt ≠ 0 by omega)
  have h2 := Int.emod_lt_of_pos c.toInt (show 0 < r.toInt by omega)
  have h3 := mod_half (x := c.toInt) (y := r.toInt) (by omega) (by omega)
  refine ⟨⟨by omega, by omega⟩, ?_, ?_⟩
  · rw [← hG]
    exact gcd_turn (by rw [e, Int.natAbs_tmod])
  · have h4 : (r.toInt * n.toInt) * 2 ≤ c.toInt * r.toInt := by
      rw [Int.mul_comm c.toInt, Int.mul_assoc]
      exact Int.mul_le_mul_of_nonneg_left (by omega) (by omega)
    have h5 : (0 : Int) < 2 ^ i := Int.pow_pos (by decide +kernel)
    have h6 : ((r.toInt * n.toInt) * 2) * 2 ^ i ≤ (c.toInt * r.toInt) * 2 ^ i := Int.mul_le_mul_of_nonneg_right h4 (by omega)
    have h7 : (r.toInt * n.toInt) * 2 ^ (i + 1) = ((r.toInt * n.toInt) * 2) * 2 ^ i := by
      rw [Int.pow_succ, Int.mul_comm ((2 : Int) ^ i) 2, Int.mul_assoc]
      simp only [Int.mul_assoc]
    omega
theorem red_first {x y r : Int64} (hy : 1 ≤ y.toInt) (hr : r.toInt = ((x.toInt.tmod y.toInt).natAbs : Int)) : (0 ≤ r.toInt ∧ r.toInt < y.toInt) ∧ Nat.gcd y.toInt.natAbs r.toInt.natAbs = Nat.gcd x.toInt.natAbs y.toInt.natAbs ∧ (y.toInt * r.toInt) * 2 ^ 0 < 2 ^ 127 := by
  have h1 : (x.toInt.tmod y.toInt).natAbs = x.toInt.natAbs % y.toInt.natAbs := Int.natAbs_tmod _ _
  have h2 : x.toInt.natAbs % y.toInt.natAbs < y.toInt.natAbs := Nat.mod_lt _ (by omega)
  have h3 := l_rng y
  refine ⟨⟨by omega, by omega⟩, gcd_turn (by omega), ?_⟩
  have h4 : y.toInt * r.toInt ≤ 9223372036854775808 * 9223372036854775808 := Int.mul_le_mul (by omega) (by omega) (by omega) (by omega)
  have h5 : (9223372036854775808 * 9223372036854775808 : Int) < 2 ^ 127 := by decide
  rw [Int.pow_zero, Int.mul_one]
  omega
theorem turn_end {a b : Int} {i : Nat} (ha : 1 ≤ a) (hb : 1 ≤ b) (hi : 127 ≤ i) (h : (a * b) * 2 ^ i < 2 ^ 127) : False := by
  have h1 : 1 * 1 ≤ a * b := Int.mul_le_mul ha hb (by omega) (by omega)
  have h2 : (2 : Int) ^ 127 ≤ 2 ^ i := by
    have h3 : (2 : Nat) ^ 127 ≤ 2 ^ i := Nat.pow_le_pow_right (by omega) hi
    exact_mod_cast h3
  have h4 : 1 * 2 ^ i ≤ (a * b) * 2 ^ i := Int.mul_le_mul_of_nonneg_right (by omega) (by omega)
  omega
/-! products and sums -/
theorem mul_bm (a b : Int64) : ∃ k : Int, (a * b).toInt = a.toInt * b.toInt + 18446744073709551616 * k := by
  refine ⟨-(Int.bdiv (a.toInt * b.toInt) (2 ^ 64)), ?_⟩
  have h := Int.bmod_add_bdiv (a.toInt * b.toInt) (2 ^ 64)
  rw [Int64.toInt_mul]
  have e : ((2 ^ 64 : Nat) : Int) = 18446744073709551616 := by decide
  rw [e] at h
  omega
theorem add_bm (a b : Int64) : ∃ k : Int, (a + b).toInt = a.toInt + b.toInt + 18446744073709551616 * k := by
  refine ⟨-(Int.bdiv (a.toInt + b.toInt) (2 ^ 64)), ?_⟩
  have h := Int.bmod_add_bdiv (a.toInt + b.toInt) (2 ^ 64)
  rw [Int64.toInt_add]
  have e : ((2 ^ 64 : Nat) : Int) = 18446744073709551616 := by decide
  rw [e] at h
  omega
/-- the product, the sum is one of 64 bits -/
abbrev fitM (a b : Int64) : Prop := -9223372036854775808 ≤ a.toInt * b.toInt ∧ a.toInt * b.toInt < 9223372036854775808
abbrev fitA (a b : Int64) : Prop := -9223372036854775808 ≤ a.toInt + b.toInt ∧ a.toInt + b.toInt < 9223372036854775808
theorem fitM_c {a b : Int64} : fitM a b ↔ fitM b a := by
  unfold fitM
  rw [Int.mul_comm]
theorem fitM_0 {a b : Int64} (h : a.toInt = 0 ∨ b.toInt = 0) : fitM a b := by
  have e : a.toInt * b.toInt = 0 := by
    rcases h with h | h
    · rw [h, Int.zero_mul]
    · rw [h, Int.mul_zero]
  unfold fitM
  omega
theorem fitM_n1 {a b : Int64} (h : b.toInt = -1) : fitM a b ↔ a.toInt ≠ -9223372036854775808 := by
  have h1 := l_rng a
  have e : a.toInt * b.toInt = -a.toInt := by rw [h, Int.mul_neg, Int.mul_one]
  unfold fitM
  omega
theorem fitM_yes {a b z : Int64} (h : fitM a b) (hb : b.toInt ≠ 0) (hz : z = a * b) : (z / b).toInt = a.toInt := by
  have e : z.toInt = a.toInt * b.toInt := by rw [hz]; exact l_mul h.1 h.2
  by_cases h1 : b.toInt = -1
  · have h2 := (fitM_n1 h1).1 h
    have h3 : z.toInt = -a.toInt := by rw [e, h1, Int.mul_neg, Int.mul_one]
    have h4 := l_rng a
    have h6 : z ≠ Int64.minValue := by
      intro q
      rw [q] at h3
      have h5 : Int64.minValue.toInt = -9223372036854775808 := by decide
      omega
    rw [Int64.toInt_div_of_ne_left _ _ h6, e, Int.mul_tdiv_cancel _ hb]
  · rw [Int64.toInt_div_of_ne_right _ _ (by intro q; rw [q] at h1; exact h1 (by decide +kernel)), e, Int.mul_tdiv_cancel _ hb]
theorem fitM_no {a b z : Int64} (hb : b.toInt ≠ 0) (hs : ¬ (b.toInt = -1 ∧ a.toInt = -9223372036854775808)) (hz : z = a * b) (h : (z / b).toInt = a.toInt) : fitM a b := by
  by_cases h1 : b.toInt = -1
  · exact (fitM_n1 h1).2 (fun q => hs ⟨h1, q⟩)
  · rw [Int64.toInt_div_of_ne_right _ _ (by intro q; rw [q] at h1; exact h1 (by decide +kernel))] at h
    obtain ⟨k, hk⟩ := mul_bm a b
    rw [← hz] at hk
    have h2 := Int.tmod_def z.toInt b.toInt
    have h3 : (z.toInt.tmod b.toInt).natAbs < b.toInt.natAbs := by
      rw [Int.natAbs_tmod]
      exact Nat.mod_lt _ (by omega)
    rw [h, Int.mul_comm] at h2
    have h4 := l_rng b
    have h5 := l_rng z
    unfold fitM
    omega
theorem xor_sgn {x y : Int64} : (x ^^^ y).toInt < 0 ↔ ¬ (x.toInt < 0 ↔ y.toInt < 0) := by
  have h : (x ^^^ y).toBitVec.msb = (x.toBitVec.msb ^^ y.toBitVec.msb) := by
    rw [Int64.toBitVec_xor, BitVec.msb_xor]
  have e1 : (x ^^^ y).toBitVec.msb = decide ((x ^^^ y).toInt < 0) := BitVec.msb_eq_toInt
  have e2 : x.toBitVec.msb = decide (x.toInt < 0) := BitVec.msb_eq_toInt
  have e3 : y.toBitVec.msb = decide (y.toInt < 0) := BitVec.msb_eq_toInt
  rw [e1, e2, e3] at h
  by_cases hx : x.toInt < 0 <;> by_cases hy : y.toInt < 0 <;> simp [hx, hy] at h ⊢ <;> omega
theorem and_sgn {x y : Int64} : (x &&& y).toInt < 0 ↔ (x.toInt < 0 ∧ y.toInt < 0) := by
  have h : (x &&& y).toBitVec.msb = (x.toBitVec.msb && y.toBitVec.msb) := by
    rw [Int64.toBitVec_and, BitVec.msb_and]
  have e1 : (x &&& y).toBitVec.msb = decide ((x &&& y).toInt < 0) := BitVec.msb_eq_toInt
  have e2 : x.toBitVec.msb = decide (x.toInt < 0) := BitVec.msb_eq_toInt
  have e3 : y.toBitVec.msb = decide (y.toInt < 0) := BitVec.msb_eq_toInt
  rw [e1, e2, e3] at h
  by_cases hx : x.toInt < 0 <;> by_cases hy : y.toInt < 0 <;> simp [hx, hy] at h ⊢ <;> omega
theorem fitA_iff {a b z : Int64} (hz : z = a + b) : fitA a b ↔ ¬ ((a ^^^ z).toInt < 0 ∧ (b ^^^ z).toInt < 0) := by
  obtain ⟨k, hk⟩ := add_bm a b
  rw [← hz] at hk
  have h1 := l_rng a
  have h2 := l_rng b
  have h3 := l_rng z
  rw [xor_sgn, xor_sgn]
  unfold fitA
  have h4 : k = 0 ∨ k = 1 ∨ k = -1 := by omega
  rcases h4 with rfl | rfl | rfl <;> constructor <;> intro h <;> omega
theorem fitA_and {a b z : Int64} (hz : z = a + b) : fitA a b ↔ 0 ≤ ((a ^^^ z) &&& (b ^^^ z)).toInt := by
  have h1 := and_sgn (x := a ^^^ z) (y := b ^^^ z)
  have h2 := fitA_iff hz
  by_cases h3 : (a ^^^ z).toInt < 0 ∧ (b ^^^ z).toInt < 0
  · have h4 := h1.2 h3
    exact ⟨fun q => absurd h3 (h2.1 q), fun q => by omega⟩
  · exact ⟨fun _ => by
      by_cases h5 : ((a ^^^ z) &&& (b ^^^ z)).toInt < 0
      · exact absurd (h1.1 h5) h3
      · omega, fun _ => h2.2 h3⟩
/-! which of two fractions is more -/
theorem cmp_lt {x y v w : Int} (hy : 0 < y) (hw : 0 < w) (h : x / y < v / w) : x * w - v * y < 0 := by
  have h1 := Int.lt_ediv_add_one_mul_self x hy
  have h2 : v / w * w ≤ v := Int.ediv_mul_le v (by omega)
  have h3 : x * w < (x / y + 1) * y * w := Int.mul_lt_mul_of_pos_right h1 hw
  have h4 : (v / w) * w * y ≤ v * y := Int.mul_le_mul_of_nonneg_right h2 (by omega)
  have h5 : (x / y + 1) * (y * w) ≤ (v / w) * (y * w) := Int.mul_le_mul_of_nonneg_right (by omega) (Int.mul_nonneg (by omega) (by omega))
  rw [Int.mul_assoc] at h3 h4
  rw [Int.mul_comm w y] at h4
  omega
theorem cmp_eq {x y v w : Int} (h : x / y = v / w) : x * w - v * y = (x % y) * w - (v % w) * y := by
  have h1 := Int.mul_ediv_add_emod x y
  have h2 := Int.mul_ediv_add_emod v w
  have h3 : x * w = y * (x / y) * w + (x % y) * w := by rw [← Int.add_mul, h1]
  have h4 : v * y = w * (v / w) * y + (v % w) * y := by rw [← Int.add_mul, h2]
  have h5 : y * (x / y) * w = w * (v / w) * y := by
    rw [h, Int.mul_comm y, Int.mul_comm w, Int.mul_assoc, Int.mul_assoc, Int.mul_comm y w]
  omega
/-- -1, 0, 1 -/
def cmpW (x y v w : Int) : Int := (x * w - v * y).sign
theorem cmpW_lt {x y v w : Int} (hy : 0 < y) (hw : 0 < w) (h : x / y < v / w) : cmpW x y v w = -1 := Int.sign_eq_neg_one_of_neg (cmp_lt hy hw h)
theorem cmpW_gt {x y v w : Int} (hy : 0 < y) (hw : 0 < w) (h : v / w < x / y) : cmpW x y v w = 1 := by
  have h1 := cmp_lt hw hy h
  exact Int.sign_eq_one_of_pos (by omega)
theorem cmpW_0 {x y v w : Int} (h : x / y = v / w) (hr : x % y = 0) (hs : v % w = 0) : cmpW x y v w = 0 := by
  unfold cmpW
  rw [cmp_eq h, hr, hs, Int.zero_mul, Int.zero_mul]
  rfl
theorem cmpW_r {x y v w : Int} (hy : 0 < y) (h : x / y = v / w) (hr : x % y = 0) (hs : 0 < v % w) : cmpW x y v w = -1 := by
  unfold cmpW
  rw [cmp_eq h, hr, Int.zero_mul]
  have h1 : 0 < (v % w) * y := Int.mul_pos hs hy
  exact Int.sign_eq_neg_one_of_neg (by omega)
theorem cmpW_s {x y v w : Int} (hw : 0 < w) (h : x / y = v / w) (hr : 0 < x % y) (hs : v % w = 0) : cmpW x y v w = 1 := by
  unfold cmpW
  rw [cmp_eq h, hs, Int.zero_mul]
  have h1 : 0 < (x % y) * w := Int.mul_pos hr hw
  exact Int.sign_eq_one_of_pos (by omega)
theorem cmpW_turn {x y v w : Int} (h : x / y = v / w) : cmpW x y v w = -(cmpW y (x % y) w (v % w)) := by
  unfold cmpW
  rw [cmp_eq h, ← Int.sign_neg]
  congr 1
  rw [Int.mul_comm y, Int.mul_comm w]
  omega
theorem cmpW_flip {x y v w : Int} (h : x / y = v / w) : cmpW x y v w = cmpW w (v % w) y (x % y) := by
  unfold cmpW
  rw [cmp_eq h]
  congr 1
  rw [Int.mul_comm w, Int.mul_comm y]
theorem cmpW_in (x y v w : Int) : cmpW x y v w = -1 ∨ cmpW x y v w = 0 ∨ cmpW x y v w = 1 := by
  unfold cmpW
  rcases Int.lt_trichotomy (x * w - v * y) 0 with h | h | h
  · exact Or.inl (Int.sign_eq_neg_one_of_neg h)
  · exact Or.inr (Or.inl (by rw [h]; rfl))
  · exact Or.inr (Or.inr (Int.sign_eq_one_of_pos h))
theorem cmpW_anti (x y v w : Int) : cmpW v w x y = -cmpW x y v w := by
  unfold cmpW
  rw [← Int.sign_neg]
  congr 1
  omega
/-! the class's way to lowest terms, turn by turn -/
theorem abs_rem {x y z : Int64} (hy : 1 ≤ y.toInt) (hz : z = (if 0 < (x - x / y * y) then (x - x / y * y) else -(x - x / y * y))) : z.toInt = ((x.toInt.tmod y.toInt).natAbs : Int) := by
  have e := l_rem (x := x) (y := y) (by omega) (Or.inr hy)
  have h3 : (x.toInt.tmod y.toInt).natAbs < y.toInt.natAbs := by
    rw [Int.natAbs_tmod]
    exact Nat.mod_lt _ (by omega)
  have h4 := l_rng y
  by_cases h : 0 < (x - x / y * y)
  · rw [if_pos h] at hz
    rw [fa_lt64] at h
    have h0 : (0 : Int64).toInt = 0 := by decide
    rw [hz]
    omega
  · rw [if_neg h] at hz
    rw [fa_lt64] at h
    have h0 : (0 : Int64).toInt = 0 := by decide
    rw [hz, l_neg (by omega)]
    omega
def redI (x y : Int64) (ii : Int32) (cm rs : Int64) : Prop := (0 ≤ ii.toInt ∧ ii.toInt ≤ 200) ∧ (1 ≤ cm.toInt ∧ 0 ≤ rs.toInt ∧ rs.toInt < cm.toInt) ∧ Nat.gcd cm.toInt.natAbs rs.toInt.natAbs = Nat.gcd x.toInt.natAbs y.toInt.natAbs ∧ (cm.toInt * rs.toInt) * 2 ^ ii.toNatClampNeg < 2 ^ 127
theorem red_init {x y z : Int64} (hy : 1 ≤ y.toInt) (hz : z.toInt = ((x.toInt.tmod y.toInt).natAbs : Int)) : redI x y 0 y z := by
  obtain ⟨h1, h2, h3⟩ := red_first hy hz
  exact ⟨by decide, ⟨hy, h1.1, h1.2⟩, h2, h3⟩
theorem red_back {x y cm rs n : Int64} {ii i' : Int32} (h : redI x y ii cm rs) (h2 : ii.toInt < 200) (hr : rs.toInt ≠ 0) (hn : n = cm - cm / rs * rs) (hi : i'.toInt = ii.toInt + 1) : redI x y i' rs n := by
  obtain ⟨a, ⟨b1, b2, b3⟩, c, d⟩ := h
  obtain ⟨e1, e2, e3⟩ := red_turn b1 (by omega) b3 c d hn
  refine ⟨⟨by omega, by omega⟩, ⟨by omega, e1.1, e1.2⟩, e2, ?_⟩
  rw [tnS a.1 hi]
  exact e3
theorem red_end {x y cm rs : Int64} {ii : Int32} (h : redI x y ii cm rs) (h2 : 200 ≤ ii.toInt ∨ rs.toInt = 0) (hy : 1 ≤ y.toInt) : cm = gI x y := by
  obtain ⟨a, ⟨b1, b2, b3⟩, c, d⟩ := h
  have h0 : rs.toInt = 0 := by
    rcases h2 with h2 | h2
    · by_cases e : rs.toInt = 0
      · exact e
      · exact (turn_end b1 (show 1 ≤ rs.toInt by omega) (i := ii.toNatClampNeg) (by have t := tn a.1; omega) d).elim
    · exact h2
  refine gI_eq hy ?_
  rw [← c, h0]
  show cm.toInt = ((Nat.gcd cm.toInt.natAbs 0 : Nat) : Int)
  rw [Nat.gcd_zero_right]
  omega
theorem updL_updL {f : Nat → Int64} {k : Nat} {v z : Int64} : vp_updL (vp_updL f k v) k z = vp_updL f k z := by
  funext j
  simp only [vp_updL]
  by_cases h : j = k
  · simp only [if_pos h]
  · simp only [if_neg h]
theorem red_close {f0 f1 g0 g1 : Nat → Int64} {X : Nat} {x y cm rs : Int64} {ii : Int32} (hy : 1 ≤ y.toInt) (h : redI x y ii cm rs) (h2 : 200 ≤ ii.toInt ∨ rs.toInt = 0) (e0 : g0 = vp_updL (vp_updL f0 X 0) X (x / cm)) (e1 : g1 = vp_updL (vp_updL f1 X 0) X (y / cm)) : g0 = vp_updL f0 X (redW x y).1 ∧ g1 = vp_updL f1 X (redW x y).2 := by
  have e := red_end h h2 hy
  subst e
  rw [e0, e1, updL_updL, updL_updL]
  exact ⟨rfl, rfl⟩
/-! fractions in hands -/
theorem updL_at {f : Nat → Int64} {k : Nat} {v : Int64} : vp_updL f k v k = v := by simp only [vp_updL, if_pos]
def holdF (n9 h s : Int32) (v w : Int64) (ja jb ua ub : Nat → Int64) : Prop := (¬ hdV n9 h s v w ∧ ∀ k : Nat, k < 4 → ua k = ja k ∧ ub k = jb k) ∨ (hdV n9 h s v w ∧ ∀ k : Nat, k < 4 → (k = h.toNatClampNeg → s.toInt = 2 → ua k = (redW v w).1 ∧ ub k = (redW v w).2) ∧ (¬ (k = h.toNatClampNeg ∧ s.toInt = 2) → ua k = ja k ∧ ub k = jb k))
def holdG (n9 h s : Int32) (v w : Int64) (ha hb wa wb : Nat → Int64) : Prop := (¬ hdV n9 h s v w ∧ wa = ha ∧ wb = hb) ∨ (hdV n9 h s v w ∧ (s.toInt = 2 → wa h.toNatClampNeg = (redW v w).1 ∧ wb h.toNatClampNeg = (redW v w).2) ∧ ∀ k : Nat, k ≠ h.toNatClampNeg → wa k = ha k ∧ wb k = hb k)
def rlF (jz : Nat → Int32) (ja jb ha hb : Nat → Int64) : Prop := ∀ k : Nat, k < 4 → (jz k).toInt = 2 → ja k = ha k ∧ jb k = hb k
theorem holdF_rel {n9 h s r : Int32} {v w : Int64} {jz jn uz un : Nat → Int32} {ja jb ha hb ua ub wa wb : Nat → Int64} (R : rlF jz ja jb ha hb) (c : holdC n9 h s r v w jz jn uz un) (a : holdF n9 h s v w ja jb ua ub) (b : holdG n9 h s v w ha hb wa wb) : rlF uz ua ub wa wb := by
  intro k hk h2
  rcases c with ⟨c1, c2, c3⟩ | ⟨c1, c2, c3⟩
  · rcases a with ⟨a1, a2⟩ | ⟨a1, _⟩
    · rcases b with ⟨b1, b2, b3⟩ | ⟨b1, _⟩
      · rw [(c3 k hk).1] at h2
        rw [(a2 k hk).1, (a2 k hk).2, b2, b3]
        exact R k hk h2
      · exact absurd b1 c1
    · exact absurd a1 c1
  · rcases a with ⟨a1, _⟩ | ⟨a1, a2⟩
    · exact absurd c1 a1
    · rcases b with ⟨b1, _⟩ | ⟨b1, b2, b3⟩
      · exact absurd c1 b1
      · by_cases e : k = h.toNatClampNeg
        · rw [((c3 k hk).1 e).1] at h2
          obtain ⟨p1, p2⟩ := (a2 k hk).1 e h2
          obtain ⟨q1, q2⟩ := b2 h2
          rw [p1, p2, e, q1, q2]
          exact ⟨rfl, rfl⟩
        · rw [((c3 k hk).2 e).1] at h2
          obtain ⟨p1, p2⟩ := (a2 k hk).2 (fun q => e q.1)
          obtain ⟨q1, q2⟩ := b3 k e
          rw [p1, p2, q1, q2]
          exact R k hk h2
/-- what asFraction answers: z, a, b are what the hand holds -/
def asFr (h p z : Int32) (a b r : Int64) : Prop := (¬ ((0 ≤ h.toInt ∧ h.toInt ≤ 3) ∧ 0 ≤ p.toInt ∧ p.toInt ≤ 1) ∧ r.toInt = -4611686018427387906) ∨ (((0 ≤ h.toInt ∧ h.toInt ≤ 3) ∧ 0 ≤ p.toInt ∧ p.toInt ≤ 1) ∧ ((z.toInt = 0 ∧ r.toInt = -4611686018427387915) ∨ (z.toInt ≠ 0 ∧ z.toInt ≠ 2 ∧ r.toInt = -4611686018427387917) ∨ (z.toInt = 2 ∧ p.toInt = 0 ∧ r.toInt = a.toInt) ∨ (z.toInt = 2 ∧ p.toInt ≠ 0 ∧ r.toInt = b.toInt)))
theorem asFr_rel {h p z z' : Int32} {a b a' b' r r' : Int64} (hz : (0 ≤ h.toInt ∧ h.toInt ≤ 3) → z = z' ∧ (z.toInt = 2 → a = a' ∧ b = b')) (x : asFr h p z a b r) (y : asFr h p z' a' b' r') : r = r' := by
  refine Int64.toInt_inj.1 ?_
  unfold asFr at x y
  by_cases hh : 0 ≤ h.toInt ∧ h.toInt ≤ 3
  · obtain ⟨e1, e2⟩ := hz hh
    subst e1
    by_cases h2 : z.toInt = 2
    · obtain ⟨e3, e4⟩ := e2 h2
      subst e3; subst e4
      omega
    · omega
  · omega
theorem ff_post {z r : Int32} (h : r = if z.toInt = 0 then -11 else if z.toInt = 2 then 0 else -13) : (z.toInt = 0 ∧ r = -11) ∨ ((z.toInt ≠ 0 ∧ z.toInt = 2) ∧ r = 0) ∨ ((z.toInt ≠ 0 ∧ z.toInt ≠ 2) ∧ r = -13) := by
  by_cases h0 : z.toInt = 0
  · rw [if_pos h0] at h; exact Or.inl ⟨h0, h⟩
  · rw [if_neg h0] at h
    by_cases h2 : z.toInt = 2
    · rw [if_pos h2] at h; exact Or.inr (Or.inl ⟨⟨h0, h2⟩, h⟩)
    · rw [if_neg h2] at h; exact Or.inr (Or.inr ⟨⟨h0, h2⟩, h⟩)
theorem getD4L {a : Nat → Int64} {k : Nat} (h : k < 4) : [a 0, a 1, a 2, a 3].getD k 0 = a k := by
  match k, h with
  | 0, _ => rfl
  | 1, _ => rfl
  | 2, _ => rfl
  | 3, _ => rfl
  | k + 4, h => omega
end
section
theorem dX4_fractionFault_0 : decode cX4_fractionFault 0 = .ok (.aload_n 0, 1) := by decide +kernel
theorem dX4_fractionFault_1 : decode cX4_fractionFault 1 = .ok (.getfield 9, 3) := by decide +kernel
theorem dX4_fractionFault_10 : decode cX4_fractionFault 10 = .ok (.aload_n 0, 1) := by decide +kernel
theorem dX4_fractionFault_11 : decode cX4_fractionFault 11 = .ok (.getfield 9, 3) := by decide +kernel
theorem dX4_fractionFault_14 : decode cX4_fractionFault 14 = .ok (.iconst 2, 1) := by decide +kernel
theorem dX4_fractionFault_15 : decode cX4_fractionFault 15 = .ok (.if_icmp .ne 7, 3) := by decide +kernel
theorem dX4_fractionFault_18 : decode cX4_fractionFault 18 = .ok (.iconst 0, 1) := by decide +kernel
theorem dX4_fractionFault_19 : decode cX4_fractionFault 19 = .ok (.goto 5, 3) := by decide +kernel
theorem dX4_fractionFault_22 : decode cX4_fractionFault 22 = .ok (.bipush (-13), 2) := by decide +kernel
theorem dX4_fractionFault_24 : decode cX4_fractionFault 24 = .ok (.ireturn, 1) := by decide +kernel
theorem dX4_fractionFault_4 : decode cX4_fractionFault 4 = .ok (.ifCond .ne 6, 3) := by decide +kernel
theorem dX4_fractionFault_7 : decode cX4_fractionFault 7 = .ok (.bipush (-11), 2) := by decide +kernel
theorem dX4_fractionFault_9 : decode cX4_fractionFault 9 = .ok (.ireturn, 1) := by decide +kernel
set_option maxRecDepth 20000 in
theorem in_X4_fractionFault_X4 : ∀ w ∈ wsX40, w ∈ wsX4_fractionFault := sub_r [2, 3, 4, 5] rfl
set_option maxHeartbeats 4000000 in
set_option maxRecDepth 100000 in
theorem c_X4_fractionFault (l : Launch) (D : va_G) (T : Nat → ClassId) (h0 : Nat) (fs0 : List Value) (n : Int32) (e0_0 : fs0[0]? = some (.int n)) : Met l yX4_fractionFault wsX4_fractionFault ({ frames := 0, cells := 0, slots := 0, locals := 0 }) (pR [.ref h0] D T [(h0, .inr (3, fs0))]) (vp_Si (fun r => r = if n.toInt = 0 then -11 else if n.toInt = 2 then 0 else -13)) 0 0 (fun _ => False) := by
  refine Met.ofW (cc := cX4_fractionFault) (maxL := 1) (ret := (some .int)) (by decide +kernel) rfl ?_
  intro p e s m args below meth c s₁ B hml hv
  obtain ⟨rfl, hP, hE⟩ := hv
  have hx := B.exec
  have hb := B.bytes
  have hr := B.returns
  have hts := atoms_spec (ws := wsX4_fractionFault) B.pre
  have hown : s.vm.findClass RX4 = some m.cls := findClass_of_methodNamed B.named
  have hlocks := B.notSynchronized
  have hP : va_P D vwCl [(h0, .inr (3, fs0))] s.heap := hP
  have hl := lv_entry ([.ref h0]) (n := 1) (Nat.le_of_ble_eq_true rfl)
  rw [lg_entry_eq]
  generalize (lg_sl ([.ref h0]) ++ List.replicate (1 - (lg_sl ([.ref h0])).length) Slot.unset).toArray = ls at hl ⊢
  have hl : lv_has ls 1 [(0, .ref h0)] := hl
  refine lv_aload_n hx hb dX4_fractionFault_0 rfl (lv_at hl 0 rfl) ?_
  refine va_get (D := D) (ci := 3) (v := .int n) (C := RX4) (T := TX4) (N := 4) hx hb hts in_X4_fractionFault_X4 hown hE.1 hP 0 rfl rfl 0 (by decide +kernel) (hts (.fieldLink RX4 9 "ClauseBook$Hand" "sort" "I") (List.mem_of_getElem? (i := 1) rfl)) (fun _ h9 => h9) e0_0 dX4_fractionFault_1 ?_
  refine lv_if_ne (tgt := 10) hx hb dX4_fractionFault_4 (by decide +kernel) (fun c_1 => ?_) (fun c_1 => ?_)
  · rw [fa_eq] at c_1
    try rw [ti_0] at c_1
    refine lv_aload_n hx hb dX4_fractionFault_10 rfl (lv_at hl 0 rfl) ?_
    refine va_get (D := D) (ci := 3) (v := .int n) (C := RX4) (T := TX4) (N := 4) hx hb hts in_X4_fractionFault_X4 hown hE.1 hP 0 rfl rfl 0 (by decide +kernel) (hts (.fieldLink RX4 9 "ClauseBook$Hand" "sort" "I") (List.mem_of_getElem? (i := 1) rfl)) (fun _ h9 => h9) e0_0 dX4_fractionFault_11 ?_
    refine lv_iconst (v := 2) hx hb dX4_fractionFault_14 (by decide +kernel) ?_
    refine lv_icmp_ne (tgt := 22) hx hb dX4_fractionFault_15 (by decide +kernel) (fun c_2 => ?_) (fun c_2 => ?_)
    · rw [fa_eq] at c_2
      try rw [ti_2] at c_2
      refine lv_bipush (v := (-13)) hx hb dX4_fractionFault_22 (by decide +kernel) ?_
      exact W.iret hx hb hr (fun t ht hW => ⟨_, rfl, (by rw [if_neg (by omega), if_neg (by omega)]), ht⟩) (fun _ h => by cases h) dX4_fractionFault_24
    · rw [fa_eq] at c_2
      try rw [ti_2] at c_2
      refine lv_iconst (v := 0) hx hb dX4_fractionFault_18 (by decide +kernel) ?_
      refine lv_goto (tgt := 24) hx hb dX4_fractionFault_19 (by decide +kernel) ?_
      exact W.iret hx hb hr (fun t ht hW => ⟨_, rfl, (by rw [if_neg (by omega), if_pos (by omega)]), ht⟩) (fun _ h => by cases h) dX4_fractionFault_24
  · rw [fa_eq] at c_1
    try rw [ti_0] at c_1
    refine lv_bipush (v := (-11)) hx hb dX4_fractionFault_7 (by decide +kernel) ?_
    exact W.iret hx hb hr (fun t ht hW => ⟨_, rfl, (by exact (if_pos (by omega)).symm), ht⟩) (fun _ h => by cases h) dX4_fractionFault_9
theorem dX12_asFraction_0 : decode cX12_asFraction 0 = .ok (.iload_n 1, 1) := by decide +kernel
theorem dX12_asFraction_1 : decode cX12_asFraction 1 = .ok (.invokestatic 352, 3) := by decide +kernel
theorem dX12_asFraction_10 : decode cX12_asFraction 10 = .ok (.invokestatic 77, 3) := by decide +kernel
theorem dX12_asFraction_13 : decode cX12_asFraction 13 = .ok (.ifCond .ne 7, 3) := by decide +kernel
theorem dX12_asFraction_16 : decode cX12_asFraction 16 = .ok (.ldc2_w 183, 3) := by decide +kernel
theorem dX12_asFraction_19 : decode cX12_asFraction 19 = .ok (.lreturn, 1) := by decide +kernel
theorem dX12_asFraction_20 : decode cX12_asFraction 20 = .ok (.aload_n 0, 1) := by decide +kernel
theorem dX12_asFraction_21 : decode cX12_asFraction 21 = .ok (.getfield 71, 3) := by decide +kernel
theorem dX12_asFraction_24 : decode cX12_asFraction 24 = .ok (.iload_n 1, 1) := by decide +kernel
theorem dX12_asFraction_25 : decode cX12_asFraction 25 = .ok (.aaload, 1) := by decide +kernel
theorem dX12_asFraction_26 : decode cX12_asFraction 26 = .ok (.invokevirtual 373, 3) := by decide +kernel
theorem dX12_asFraction_29 : decode cX12_asFraction 29 = .ok (.istore_n 3, 1) := by decide +kernel
theorem dX12_asFraction_30 : decode cX12_asFraction 30 = .ok (.iload_n 3, 1) := by decide +kernel
theorem dX12_asFraction_31 : decode cX12_asFraction 31 = .ok (.ifCond .eq 10, 3) := by decide +kernel
theorem dX12_asFraction_34 : decode cX12_asFraction 34 = .ok (.ldc2_w 324, 3) := by decide +kernel
theorem dX12_asFraction_37 : decode cX12_asFraction 37 = .ok (.iload_n 3, 1) := by decide +kernel
theorem dX12_asFraction_38 : decode cX12_asFraction 38 = .ok (.i2l, 1) := by decide +kernel
theorem dX12_asFraction_39 : decode cX12_asFraction 39 = .ok (.ladd, 1) := by decide +kernel
theorem dX12_asFraction_4 : decode cX12_asFraction 4 = .ok (.ifCond .eq 12, 3) := by decide +kernel
theorem dX12_asFraction_40 : decode cX12_asFraction 40 = .ok (.lreturn, 1) := by decide +kernel
theorem dX12_asFraction_41 : decode cX12_asFraction 41 = .ok (.iload_n 2, 1) := by decide +kernel
theorem dX12_asFraction_42 : decode cX12_asFraction 42 = .ok (.ifCond .ne 15, 3) := by decide +kernel
theorem dX12_asFraction_45 : decode cX12_asFraction 45 = .ok (.aload_n 0, 1) := by decide +kernel
theorem dX12_asFraction_46 : decode cX12_asFraction 46 = .ok (.getfield 71, 3) := by decide +kernel
theorem dX12_asFraction_49 : decode cX12_asFraction 49 = .ok (.iload_n 1, 1) := by decide +kernel
theorem dX12_asFraction_50 : decode cX12_asFraction 50 = .ok (.aaload, 1) := by decide +kernel
theorem dX12_asFraction_51 : decode cX12_asFraction 51 = .ok (.getfield 365, 3) := by decide +kernel
theorem dX12_asFraction_54 : decode cX12_asFraction 54 = .ok (.goto 12, 3) := by decide +kernel
theorem dX12_asFraction_57 : decode cX12_asFraction 57 = .ok (.aload_n 0, 1) := by decide +kernel
theorem dX12_asFraction_58 : decode cX12_asFraction 58 = .ok (.getfield 71, 3) := by decide +kernel
theorem dX12_asFraction_61 : decode cX12_asFraction 61 = .ok (.iload_n 1, 1) := by decide +kernel
theorem dX12_asFraction_62 : decode cX12_asFraction 62 = .ok (.aaload, 1) := by decide +kernel
theorem dX12_asFraction_63 : decode cX12_asFraction 63 = .ok (.getfield 368, 3) := by decide +kernel
theorem dX12_asFraction_66 : decode cX12_asFraction 66 = .ok (.lreturn, 1) := by decide +kernel
theorem dX12_asFraction_7 : decode cX12_asFraction 7 = .ok (.iload_n 2, 1) := by decide +kernel
theorem dX12_asFraction_8 : decode cX12_asFraction 8 = .ok (.iconst 0, 1) := by decide +kernel
theorem dX12_asFraction_9 : decode cX12_asFraction 9 = .ok (.iconst 1, 1) := by decide +kernel
set_option maxRecDepth 20000 in
theorem ggX12_asFraction_X12_isHand : GoodIn wsX12_asFraction wsX12_isHand := goodIn_r _ [9, 10, 11, 8, 12] rfl (by decide +kernel)
set_option maxRecDepth 20000 in
theorem ggX12_asFraction_X12_within : GoodIn wsX12_asFraction wsX12_within := goodIn_r _ [12] rfl (by decide +kernel)
set_option maxRecDepth 20000 in
theorem ggX12_asFraction_X4_fractionFault : GoodIn wsX12_asFraction wsX4_fractionFault := goodIn_r _ [17, 18, 30, 31, 32, 33] rfl (by decide +kernel)
set_option maxRecDepth 20000 in
theorem gX12_asFraction_X12_isHand : GoodIn wsX12_asFraction (va_wsS RX12 352 yX12_isHand wsX12_isHand) := goodIn_app (goodIn_of _ (by decide +kernel)) ggX12_asFraction_X12_isHand
set_option maxRecDepth 20000 in
theorem gX12_asFraction_X12_within : GoodIn wsX12_asFraction (va_wsS RX12 77 yX12_within wsX12_within) := goodIn_app (goodIn_of _ (by decide +kernel)) ggX12_asFraction_X12_within
set_option maxRecDepth 20000 in
theorem gX12_asFraction_X4_fractionFault : GoodIn wsX12_asFraction (wsV RX12 373 RX4 yX4_fractionFault wsX4_fractionFault) := goodIn_app (goodIn_r _ [13, 14, 15, 16] rfl (by decide +kernel)) ggX12_asFraction_X4_fractionFault
theorem hs_X12_isHand : yX12_isHand.cls ≠ "java/lang/invoke/MethodHandle" ∧ yX12_isHand.cls ≠ "java/lang/invoke/VarHandle" ∧ (parseMethodDescriptor yX12_isHand.desc).map (fun d => d.parameters.length) = some 1 := by decide +kernel
theorem hv_X4_fractionFault : yX4_fractionFault.cls = RX4 ∧ yX4_fractionFault.cls ≠ "java/lang/invoke/MethodHandle" ∧ yX4_fractionFault.cls ≠ "java/lang/invoke/VarHandle" ∧ (parseMethodDescriptor yX4_fractionFault.desc).map (fun d => d.parameters.length) = some 0 := by decide +kernel
set_option maxRecDepth 20000 in
theorem in_X12_asFraction_X12 : ∀ w ∈ wsX120, w ∈ wsX12_asFraction := sub_r [19, 20, 21, 22, 23, 24, 25, 26, 27, 28, 29] rfl
set_option maxRecDepth 20000 in
theorem in_X12_asFraction_X4 : ∀ w ∈ wsX40, w ∈ wsX12_asFraction := sub_r [30, 31, 32, 33] rfl
set_option maxHeartbeats 4000000 in
set_option maxRecDepth 100000 in
theorem c_X12_asFraction (l : Launch) (D : va_G) (T : Nat → ClassId) (h0 : Nat) (fs0 : List Value) (h1 : Nat) (f1 : Nat → Option Nat) (h2 : Nat) (fs2 : List Value) (h3 : Nat) (fs3 : List Value) (h4 : Nat) (fs4 : List Value) (h5 : Nat) (fs5 : List Value) (x1 : Int32) (x2 : Int32) (n0 : Int32) (p0 : Int64) (q0 : Int64) (n1 : Int32) (p1 : Int64) (q1 : Int64) (n2 : Int32) (p2 : Int64) (q2 : Int64) (n3 : Int32) (p3 : Int64) (q3 : Int64) (e0_10 : fs0[10]? = some (.ref h1)) (e1_0 : f1 0 = some h2) (e1_1 : f1 1 = some h3) (e1_2 : f1 2 = some h4) (e1_3 : f1 3 = some h5) (e2_0 : fs2[0]? = some (.int n0)) (e2_2 : fs2[2]? = some (.long p0)) (e2_3 : fs2[3]? = some (.long q0)) (e3_0 : fs3[0]? = some (.int n1)) (e3_2 : fs3[2]? = some (.long p1)) (e3_3 : fs3[3]? = some (.long q1)) (e4_0 : fs4[0]? = some (.int n2)) (e4_2 : fs4[2]? = some (.long p2)) (e4_3 : fs4[3]? = some (.long q2)) (e5_0 : fs5[0]? = some (.int n3)) (e5_2 : fs5[2]? = some (.long p3)) (e5_3 : fs5[3]? = some (.long q3)) : Met l yX12_asFraction wsX12_asFraction ({ frames := 2, cells := 0, slots := 0, locals := 42 }) (pR [.ref h0, .int x1, .int x2] D T [(h0, .inr (9, fs0)), (h1, .inl (T 7, 4, .inr (.inr (.inr (.inr f1))))), (h2, .inr (3, fs2)), (h3, .inr (3, fs3)), (h4, .inr (3, fs4)), (h5, .inr (3, fs5))]) (vp_Sl (fun r => asFr x1 x2 ([n0, n1, n2, n3].getD x1.toNatClampNeg 0) ([p0, p1, p2, p3].getD x1.toNatClampNeg 0) ([q0, q1, q2, q3].getD x1.toNatClampNeg 0) r)) 0 0 (fun _ => False) := by
  refine Met.ofW (cc := cX12_asFraction) (maxL := 4) (ret := (some .long)) (by decide +kernel) rfl ?_
  intro p e s m args below meth c s₁ B hml hv
  obtain ⟨rfl, hP, hE⟩ := hv
  have hx := B.exec
  have hb := B.bytes
  have hr := B.returns
  have hts := atoms_spec (ws := wsX12_asFraction) B.pre
  have hown : s.vm.findClass RX12 = some m.cls := findClass_of_methodNamed B.named
  have hlocks := B.notSynchronized
  have hP : va_P D vwCl [(h0, .inr (9, fs0)), (h1, .inl (T 7, 4, .inr (.inr (.inr (.inr f1))))), (h2, .inr (3, fs2)), (h3, .inr (3, fs3)), (h4, .inr (3, fs4)), (h5, .inr (3, fs5))] s.heap := hP
  have hl := lv_entry ([.ref h0, .int x1, .int x2]) (n := 4) (Nat.le_of_ble_eq_true rfl)
  rw [lg_entry_eq]
  generalize (lg_sl ([.ref h0, .int x1, .int x2]) ++ List.replicate (4 - (lg_sl ([.ref h0, .int x1, .int x2])).length) Slot.unset).toArray = ls at hl ⊢
  have hl : lv_has ls 4 [(0, .ref h0), (1, .int x1), (2, .int x2)] := hl
  refine lv_iload_n hx hb dX12_asFraction_0 rfl (lv_at hl 1 rfl) ?_
  refine vp_callSi (W.runS (As := [.int x1]) (rest := []) ⟨hx, hb, hml, hown, hts⟩ (c_X12_isHand l D T x1) (va_cwS 1 hts gX12_asFraction_X12_isHand rfl rfl rfl hs_X12_isHand ⟨Nat.le_of_ble_eq_true rfl, Nat.le_of_ble_eq_true rfl⟩) (pR_S hP hE [] rfl) rfl rfl hl.1 rfl (lv_room (Nat.le_of_ble_eq_true rfl)) dX12_asFraction_1 ⟨Nat.le_of_ble_eq_true rfl, Nat.le_of_ble_eq_true rfl⟩) (fun r_1 hr_1 => ?_)
  rcases bool_post hr_1 with ⟨c_2, rfl⟩ | ⟨c_2, rfl⟩
  · refine lv_if_eq (tgt := 16) hx hb dX12_asFraction_4 (by decide +kernel) (fun c9 => absurd c9 (by decide +kernel)) (fun _ => ?_)
    refine lv_iload_n hx hb dX12_asFraction_7 rfl (lv_at hl 2 rfl) ?_
    refine lv_iconst (v := 0) hx hb dX12_asFraction_8 (by decide +kernel) ?_
    refine lv_iconst (v := 1) hx hb dX12_asFraction_9 (by decide +kernel) ?_
    refine vp_callSi (W.runS (As := [.int x2, .int 0, .int 1]) (rest := []) ⟨hx, hb, hml, hown, hts⟩ (c_X12_within l D T x2 0 1 0 1 (by decide +kernel) (by decide +kernel)) (va_cwS 3 hts gX12_asFraction_X12_within rfl rfl rfl hs_X12_within ⟨Nat.le_of_ble_eq_true rfl, Nat.le_of_ble_eq_true rfl⟩) (pR_S hP hE [] rfl) rfl rfl hl.1 rfl (lv_room (Nat.le_of_ble_eq_true rfl)) dX12_asFraction_10 ⟨Nat.le_of_ble_eq_true rfl, Nat.le_of_ble_eq_true rfl⟩) (fun r_3 hr_3 => ?_)
    rcases bool_post hr_3 with ⟨c_4, rfl⟩ | ⟨c_4, rfl⟩
    · refine lv_if_ne (tgt := 20) hx hb dX12_asFraction_13 (by decide +kernel) (fun _ => ?_) (fun c9 => absurd c9 (by decide +kernel))
      refine lv_aload_n hx hb dX12_asFraction_20 rfl (lv_at hl 0 rfl) ?_
      refine va_get (D := D) (ci := 9) (v := .ref h1) (C := RX12) (T := TX12) (N := 11) hx hb hts in_X12_asFraction_X12 hown hE.1 hP 0 rfl rfl 10 (by decide +kernel) (hts (.fieldLink RX12 71 "ClauseBook" "hands" "[LClauseBook$Hand;") (List.mem_of_getElem? (i := 2) rfl)) (fun _ h9 => h9) e0_10 dX12_asFraction_21 ?_
      refine lv_iload_n hx hb dX12_asFraction_24 rfl (lv_at hl 1 rfl) ?_
      rcases in4 (x := x1) (by omega) with rfl | rfl | rfl | rfl
      · refine va_aldq hx hb hE.1 hP 1 7 rfl rfl (by unfold vp_in; decide) dX12_asFraction_25 ?_
        refine W.eq (g2 := F0 m 26 ls [.ref h2]) (by rw [show (0 : Int32).toNatClampNeg = 0 from rfl, e1_0]; rfl) ?_
        refine vp_callSi (W.runV (As := []) (rest := []) ⟨hx, hb, hml, hown, hts⟩ (c_X4_fractionFault l D T h2 fs2 n0 e2_0) (cwV 0 hts gX12_asFraction_X4_fractionFault rfl rfl rfl hv_X4_fractionFault ⟨Nat.le_of_ble_eq_true rfl, Nat.le_of_ble_eq_true rfl⟩) (pR_V (q := (RX4, TX4, 4)) (ci := 3) (q0 := 2) hP hE rfl rfl [2] rfl) rfl rfl hl.1 rfl (lv_room (Nat.le_of_ble_eq_true rfl)) dX12_asFraction_26 ⟨Nat.le_of_ble_eq_true rfl, Nat.le_of_ble_eq_true rfl⟩) (fun r_5 hr_5 => ?_)
        rcases ff_post hr_5 with ⟨c_6, rfl⟩ | ⟨c_6, rfl⟩ | ⟨c_6, rfl⟩
        · refine lv_istore_n (lv' := [(3, .int (-11)), (0, .ref h0), (1, .int 0), (2, .int x2)]) hx hb dX12_asFraction_29 rfl hl (by decide +kernel) rfl (fun ls hl => ?_)
          refine lv_iload_n hx hb dX12_asFraction_30 rfl (lv_at hl 0 rfl) ?_
          refine lv_if_eq (tgt := 41) hx hb dX12_asFraction_31 (by decide +kernel) (fun c9 => absurd c9 (by decide +kernel)) (fun _ => ?_)
          refine lv_ldc2 (v := (-4611686018427387904)) hx hb hown (hts (.constantLong RX12 324 (-4611686018427387904)) (List.mem_of_getElem? (i := 3) rfl)) dX12_asFraction_34 ?_
          refine lv_iload_n hx hb dX12_asFraction_37 rfl (lv_at hl 0 rfl) ?_
          refine lv_i2l (v := (-11)) hx hb dX12_asFraction_38 (by decide +kernel) ?_
          refine lv_ladd hx hb dX12_asFraction_39 ?_
          refine lv_topl (fun z_7 ez_7 => ?_)
          obtain rfl : z_7 = (-4611686018427387915) := ez_7.trans (by decide +kernel)
          exact W.lret hx hb hr (fun t ht hW => ⟨_, rfl, (Or.inr ⟨⟨(by decide +kernel), (by omega)⟩, (show ((n0).toInt = 0 ∧ ((-4611686018427387915) : Int64).toInt = -4611686018427387915) ∨ ((n0).toInt ≠ 0 ∧ (n0).toInt ≠ 2 ∧ ((-4611686018427387915) : Int64).toInt = -4611686018427387917) ∨ ((n0).toInt = 2 ∧ x2.toInt = 0 ∧ ((-4611686018427387915) : Int64).toInt = (p0).toInt) ∨ ((n0).toInt = 2 ∧ x2.toInt ≠ 0 ∧ ((-4611686018427387915) : Int64).toInt = (q0).toInt) from by have h9r : ((-4611686018427387915) : Int64).toInt = -4611686018427387915 := (by decide +kernel); omega)⟩), ht⟩) (fun _ h => by cases h) dX12_asFraction_40
        · refine lv_istore_n (lv' := [(3, .int 0), (0, .ref h0), (1, .int 0), (2, .int x2)]) hx hb dX12_asFraction_29 rfl hl (by decide +kernel) rfl (fun ls hl => ?_)
          refine lv_iload_n hx hb dX12_asFraction_30 rfl (lv_at hl 0 rfl) ?_
          refine lv_if_eq (tgt := 41) hx hb dX12_asFraction_31 (by decide +kernel) (fun _ => ?_) (fun c9 => absurd c9 (by decide +kernel))
          refine lv_iload_n hx hb dX12_asFraction_41 rfl (lv_at hl 3 rfl) ?_
          refine lv_if_ne (tgt := 57) hx hb dX12_asFraction_42 (by decide +kernel) (fun c_8 => ?_) (fun c_8 => ?_)
          · rw [fa_eq] at c_8
            try rw [ti_0] at c_8
            refine lv_aload_n hx hb dX12_asFraction_57 rfl (lv_at hl 1 rfl) ?_
            refine va_get (D := D) (ci := 9) (v := .ref h1) (C := RX12) (T := TX12) (N := 11) hx hb hts in_X12_asFraction_X12 hown hE.1 hP 0 rfl rfl 10 (by decide +kernel) (hts (.fieldLink RX12 71 "ClauseBook" "hands" "[LClauseBook$Hand;") (List.mem_of_getElem? (i := 2) rfl)) (fun _ h9 => h9) e0_10 dX12_asFraction_58 ?_
            refine lv_iload_n hx hb dX12_asFraction_61 rfl (lv_at hl 2 rfl) ?_
            refine va_aldq hx hb hE.1 hP 1 7 rfl rfl (by unfold vp_in; decide) dX12_asFraction_62 ?_
            refine W.eq (g2 := F0 m 63 ls [.ref h2]) (by rw [show (0 : Int32).toNatClampNeg = 0 from rfl, e1_0]; rfl) ?_
            refine va_get (D := D) (ci := 3) (v := .long q0) (C := RX4) (T := TX4) (N := 4) hx hb hts in_X12_asFraction_X4 hown hE.1 hP 2 rfl rfl 3 (by decide +kernel) (hts (.fieldLink RX12 368 "ClauseBook$Hand" "below" "J") (List.mem_of_getElem? (i := 5) rfl)) (fun _ h9 => h9) e2_3 dX12_asFraction_63 ?_
            exact W.lret hx hb hr (fun t ht hW => ⟨_, rfl, (Or.inr ⟨⟨(by decide +kernel), (by omega)⟩, (show ((n0).toInt = 0 ∧ (q0 : Int64).toInt = -4611686018427387915) ∨ ((n0).toInt ≠ 0 ∧ (n0).toInt ≠ 2 ∧ (q0 : Int64).toInt = -4611686018427387917) ∨ ((n0).toInt = 2 ∧ x2.toInt = 0 ∧ (q0 : Int64).toInt = (p0).toInt) ∨ ((n0).toInt = 2 ∧ x2.toInt ≠ 0 ∧ (q0 : Int64).toInt = (q0).toInt) from by omega)⟩), ht⟩) (fun _ h => by cases h) dX12_asFraction_66
          · rw [fa_eq] at c_8
            try rw [ti_0] at c_8
            refine lv_aload_n hx hb dX12_asFraction_45 rfl (lv_at hl 1 rfl) ?_
            refine va_get (D := D) (ci := 9) (v := .ref h1) (C := RX12) (T := TX12) (N := 11) hx hb hts in_X12_asFraction_X12 hown hE.1 hP 0 rfl rfl 10 (by decide +kernel) (hts (.fieldLink RX12 71 "ClauseBook" "hands" "[LClauseBook$Hand;") (List.mem_of_getElem? (i := 2) rfl)) (fun _ h9 => h9) e0_10 dX12_asFraction_46 ?_
            refine lv_iload_n hx hb dX12_asFraction_49 rfl (lv_at hl 2 rfl) ?_
            refine va_aldq hx hb hE.1 hP 1 7 rfl rfl (by unfold vp_in; decide) dX12_asFraction_50 ?_
            refine W.eq (g2 := F0 m 51 ls [.ref h2]) (by rw [show (0 : Int32).toNatClampNeg = 0 from rfl, e1_0]; rfl) ?_
            refine va_get (D := D) (ci := 3) (v := .long p0) (C := RX4) (T := TX4) (N := 4) hx hb hts in_X12_asFraction_X4 hown hE.1 hP 2 rfl rfl 2 (by decide +kernel) (hts (.fieldLink RX12 365 "ClauseBook$Hand" "above" "J") (List.mem_of_getElem? (i := 4) rfl)) (fun _ h9 => h9) e2_2 dX12_asFraction_51 ?_
            refine lv_goto (tgt := 66) hx hb dX12_asFraction_54 (by decide +kernel) ?_
            exact W.lret hx hb hr (fun t ht hW => ⟨_, rfl, (Or.inr ⟨⟨(by decide +kernel), (by omega)⟩, (show ((n0).toInt = 0 ∧ (p0 : Int64).toInt = -4611686018427387915) ∨ ((n0).toInt ≠ 0 ∧ (n0).toInt ≠ 2 ∧ (p0 : Int64).toInt = -4611686018427387917) ∨ ((n0).toInt = 2 ∧ x2.toInt = 0 ∧ (p0 : Int64).toInt = (p0).toInt) ∨ ((n0).toInt = 2 ∧ x2.toInt ≠ 0 ∧ (p0 : Int64).toInt = (q0).toInt) from by omega)⟩), ht⟩) (fun _ h => by cases h) dX12_asFraction_66
        · refine lv_istore_n (lv' := [(3, .int (-13)), (0, .ref h0), (1, .int 0), (2, .int x2)]) hx hb dX12_asFraction_29 rfl hl (by decide +kernel) rfl (fun ls hl => ?_)
          refine lv_iload_n hx hb dX12_asFraction_30 rfl (lv_at hl 0 rfl) ?_
          refine lv_if_eq (tgt := 41) hx hb dX12_asFraction_31 (by decide +kernel) (fun c9 => absurd c9 (by decide +kernel)) (fun _ => ?_)
          refine lv_ldc2 (v := (-4611686018427387904)) hx hb hown (hts (.constantLong RX12 324 (-4611686018427387904)) (List.mem_of_getElem? (i := 3) rfl)) dX12_asFraction_34 ?_
          refine lv_iload_n hx hb dX12_asFraction_37 rfl (lv_at hl 0 rfl) ?_
          refine lv_i2l (v := (-13)) hx hb dX12_asFraction_38 (by decide +kernel) ?_
          refine lv_ladd hx hb dX12_asFraction_39 ?_
          refine lv_topl (fun z_9 ez_9 => ?_)
          obtain rfl : z_9 = (-4611686018427387917) := ez_9.trans (by decide +kernel)
          exact W.lret hx hb hr (fun t ht hW => ⟨_, rfl, (Or.inr ⟨⟨(by decide +kernel), (by omega)⟩, (show ((n0).toInt = 0 ∧ ((-4611686018427387917) : Int64).toInt = -4611686018427387915) ∨ ((n0).toInt ≠ 0 ∧ (n0).toInt ≠ 2 ∧ ((-4611686018427387917) : Int64).toInt = -4611686018427387917) ∨ ((n0).toInt = 2 ∧ x2.toInt = 0 ∧ ((-4611686018427387917) : Int64).toInt = (p0).toInt) ∨ ((n0).toInt = 2 ∧ x2.toInt ≠ 0 ∧ ((-4611686018427387917) : Int64).toInt = (q0).toInt) from by have h9r : ((-4611686018427387917) : Int64).toInt = -4611686018427387917 := (by decide +kernel); omega)⟩), ht⟩) (fun _ h => by cases h) dX12_asFraction_40
      · refine va_aldq hx hb hE.1 hP 1 7 rfl rfl (by unfold vp_in; decide) dX12_asFraction_25 ?_
        refine W.eq (g2 := F0 m 26 ls [.ref h3]) (by rw [show (1 : Int32).toNatClampNeg = 1 from rfl, e1_1]; rfl) ?_
        refine vp_callSi (W.runV (As := []) (rest := []) ⟨hx, hb, hml, hown, hts⟩ (c_X4_fractionFault l D T h3 fs3 n1 e3_0) (cwV 0 hts gX12_asFraction_X4_fractionFault rfl rfl rfl hv_X4_fractionFault ⟨Nat.le_of_ble_eq_true rfl, Nat.le_of_ble_eq_true rfl⟩) (pR_V (q := (RX4, TX4, 4)) (ci := 3) (q0 := 3) hP hE rfl rfl [3] rfl) rfl rfl hl.1 rfl (lv_room (Nat.le_of_ble_eq_true rfl)) dX12_asFraction_26 ⟨Nat.le_of_ble_eq_true rfl, Nat.le_of_ble_eq_true rfl⟩) (fun r_10 hr_10 => ?_)
        rcases ff_post hr_10 with ⟨c_11, rfl⟩ | ⟨c_11, rfl⟩ | ⟨c_11, rfl⟩
        · refine lv_istore_n (lv' := [(3, .int (-11)), (0, .ref h0), (1, .int 1), (2, .int x2)]) hx hb dX12_asFraction_29 rfl hl (by decide +kernel) rfl (fun ls hl => ?_)
          refine lv_iload_n hx hb dX12_asFraction_30 rfl (lv_at hl 0 rfl) ?_
          refine lv_if_eq (tgt := 41) hx hb dX12_asFraction_31 (by decide +kernel) (fun c9 => absurd c9 (by decide +kernel)) (fun _ => ?_)
          refine lv_ldc2 (v := (-4611686018427387904)) hx hb hown (hts (.constantLong RX12 324 (-4611686018427387904)) (List.mem_of_getElem? (i := 3) rfl)) dX12_asFraction_34 ?_
          refine lv_iload_n hx hb dX12_asFraction_37 rfl (lv_at hl 0 rfl) ?_
          refine lv_i2l (v := (-11)) hx hb dX12_asFraction_38 (by decide +kernel) ?_
          refine lv_ladd hx hb dX12_asFraction_39 ?_
          refine lv_topl (fun z_12 ez_12 => ?_)
          obtain rfl : z_12 = (-4611686018427387915) := ez_12.trans (by decide +kernel)
          exact W.lret hx hb hr (fun t ht hW => ⟨_, rfl, (Or.inr ⟨⟨(by decide +kernel), (by omega)⟩, (show ((n1).toInt = 0 ∧ ((-4611686018427387915) : Int64).toInt = -4611686018427387915) ∨ ((n1).toInt ≠ 0 ∧ (n1).toInt ≠ 2 ∧ ((-4611686018427387915) : Int64).toInt = -4611686018427387917) ∨ ((n1).toInt = 2 ∧ x2.toInt = 0 ∧ ((-4611686018427387915) : Int64).toInt = (p1).toInt) ∨ ((n1).toInt = 2 ∧ x2.toInt ≠ 0 ∧ ((-4611686018427387915) : Int64).toInt = (q1).toInt) from by have h9r : ((-4611686018427387915) : Int64).toInt = -4611686018427387915 := (by decide +kernel); omega)⟩), ht⟩) (fun _ h => by cases h) dX12_asFraction_40
        · refine lv_istore_n (lv' := [(3, .int 0), (0, .ref h0), (1, .int 1), (2, .int x2)]) hx hb dX12_asFraction_29 rfl hl (by decide +kernel) rfl (fun ls hl => ?_)
          refine lv_iload_n hx hb dX12_asFraction_30 rfl (lv_at hl 0 rfl) ?_
          refine lv_if_eq (tgt := 41) hx hb dX12_asFraction_31 (by decide +kernel) (fun _ => ?_) (fun c9 => absurd c9 (by decide +kernel))
          refine lv_iload_n hx hb dX12_asFraction_41 rfl (lv_at hl 3 rfl) ?_
          refine lv_if_ne (tgt := 57) hx hb dX12_asFraction_42 (by decide +kernel) (fun c_13 => ?_) (fun c_13 => ?_)
          · rw [fa_eq] at c_13
            try rw [ti_0] at c_13
            refine lv_aload_n hx hb dX12_asFraction_57 rfl (lv_at hl 1 rfl) ?_
            refine va_get (D := D) (ci := 9) (v := .ref h1) (C := RX12) (T := TX12) (N := 11) hx hb hts in_X12_asFraction_X12 hown hE.1 hP 0 rfl rfl 10 (by decide +kernel) (hts (.fieldLink RX12 71 "ClauseBook" "hands" "[LClauseBook$Hand;") (List.mem_of_getElem? (i := 2) rfl)) (fun _ h9 => h9) e0_10 dX12_asFraction_58 ?_
            refine lv_iload_n hx hb dX12_asFraction_61 rfl (lv_at hl 2 rfl) ?_
            refine va_aldq hx hb hE.1 hP 1 7 rfl rfl (by unfold vp_in; decide) dX12_asFraction_62 ?_
            refine W.eq (g2 := F0 m 63 ls [.ref h3]) (by rw [show (1 : Int32).toNatClampNeg = 1 from rfl, e1_1]; rfl) ?_
            refine va_get (D := D) (ci := 3) (v := .long q1) (C := RX4) (T := TX4) (N := 4) hx hb hts in_X12_asFraction_X4 hown hE.1 hP 3 rfl rfl 3 (by decide +kernel) (hts (.fieldLink RX12 368 "ClauseBook$Hand" "below" "J") (List.mem_of_getElem? (i := 5) rfl)) (fun _ h9 => h9) e3_3 dX12_asFraction_63 ?_
            exact W.lret hx hb hr (fun t ht hW => ⟨_, rfl, (Or.inr ⟨⟨(by decide +kernel), (by omega)⟩, (show ((n1).toInt = 0 ∧ (q1 : Int64).toInt = -4611686018427387915) ∨ ((n1).toInt ≠ 0 ∧ (n1).toInt ≠ 2 ∧ (q1 : Int64).toInt = -4611686018427387917) ∨ ((n1).toInt = 2 ∧ x2.toInt = 0 ∧ (q1 : Int64).toInt = (p1).toInt) ∨ ((n1).toInt = 2 ∧ x2.toInt ≠ 0 ∧ (q1 : Int64).toInt = (q1).toInt) from by omega)⟩), ht⟩) (fun _ h => by cases h) dX12_asFraction_66
          · rw [fa_eq] at c_13
            try rw [ti_0] at c_13
            refine lv_aload_n hx hb dX12_asFraction_45 rfl (lv_at hl 1 rfl) ?_
            refine va_get (D := D) (ci := 9) (v := .ref h1) (C := RX12) (T := TX12) (N := 11) hx hb hts in_X12_asFraction_X12 hown hE.1 hP 0 rfl rfl 10 (by decide +kernel) (hts (.fieldLink RX12 71 "ClauseBook" "hands" "[LClauseBook$Hand;") (List.mem_of_getElem? (i := 2) rfl)) (fun _ h9 => h9) e0_10 dX12_asFraction_46 ?_
            refine lv_iload_n hx hb dX12_asFraction_49 rfl (lv_at hl 2 rfl) ?_
            refine va_aldq hx hb hE.1 hP 1 7 rfl rfl (by unfold vp_in; decide) dX12_asFraction_50 ?_
            refine W.eq (g2 := F0 m 51 ls [.ref h3]) (by rw [show (1 : Int32).toNatClampNeg = 1 from rfl, e1_1]; rfl) ?_
            refine va_get (D := D) (ci := 3) (v := .long p1) (C := RX4) (T := TX4) (N := 4) hx hb hts in_X12_asFraction_X4 hown hE.1 hP 3 rfl rfl 2 (by decide +kernel) (hts (.fieldLink RX12 365 "ClauseBook$Hand" "above" "J") (List.mem_of_getElem? (i := 4) rfl)) (fun _ h9 => h9) e3_2 dX12_asFraction_51 ?_
            refine lv_goto (tgt := 66) hx hb dX12_asFraction_54 (by decide +kernel) ?_
            exact W.lret hx hb hr (fun t ht hW => ⟨_, rfl, (Or.inr ⟨⟨(by decide +kernel), (by omega)⟩, (show ((n1).toInt = 0 ∧ (p1 : Int64).toInt = -4611686018427387915) ∨ ((n1).toInt ≠ 0 ∧ (n1).toInt ≠ 2 ∧ (p1 : Int64).toInt = -4611686018427387917) ∨ ((n1).toInt = 2 ∧ x2.toInt = 0 ∧ (p1 : Int64).toInt = (p1).toInt) ∨ ((n1).toInt = 2 ∧ x2.toInt ≠ 0 ∧ (p1 : Int64).toInt = (q1).toInt) from by omega)⟩), ht⟩) (fun _ h => by cases h) dX12_asFraction_66
        · refine lv_istore_n (lv' := [(3, .int (-13)), (0, .ref h0), (1, .int 1), (2, .int x2)]) hx hb dX12_asFraction_29 rfl hl (by decide +kernel) rfl (fun ls hl => ?_)
          refine lv_iload_n hx hb dX12_asFraction_30 rfl (lv_at hl 0 rfl) ?_
          refine lv_if_eq (tgt := 41) hx hb dX12_asFraction_31 (by decide +kernel) (fun c9 => absurd c9 (by decide +kernel)) (fun _ => ?_)
          refine lv_ldc2 (v := (-4611686018427387904)) hx hb hown (hts (.constantLong RX12 324 (-4611686018427387904)) (List.mem_of_getElem? (i := 3) rfl)) dX12_asFraction_34 ?_
          refine lv_iload_n hx hb dX12_asFraction_37 rfl (lv_at hl 0 rfl) ?_
          refine lv_i2l (v := (-13)) hx hb dX12_asFraction_38 (by decide +kernel) ?_
          refine lv_ladd hx hb dX12_asFraction_39 ?_
          refine lv_topl (fun z_14 ez_14 => ?_)
          obtain rfl : z_14 = (-4611686018427387917) := ez_14.trans (by decide +kernel)
          exact W.lret hx hb hr (fun t ht hW => ⟨_, rfl, (Or.inr ⟨⟨(by decide +kernel), (by omega)⟩, (show ((n1).toInt = 0 ∧ ((-4611686018427387917) : Int64).toInt = -4611686018427387915) ∨ ((n1).toInt ≠ 0 ∧ (n1).toInt ≠ 2 ∧ ((-4611686018427387917) : Int64).toInt = -4611686018427387917) ∨ ((n1).toInt = 2 ∧ x2.toInt = 0 ∧ ((-4611686018427387917) : Int64).toInt = (p1).toInt) ∨ ((n1).toInt = 2 ∧ x2.toInt ≠ 0 ∧ ((-4611686018427387917) : Int64).toInt = (q1).toInt) from by have h9r : ((-4611686018427387917) : Int64).toInt = -4611686018427387917 := (by decide +kernel); omega)⟩), ht⟩) (fun _ h => by cases h) dX12_asFraction_40
      · refine va_aldq hx hb hE.1 hP 1 7 rfl rfl (by unfold vp_in; decide) dX12_asFraction_25 ?_
        refine W.eq (g2 := F0 m 26 ls [.ref h4]) (by rw [show (2 : Int32).toNatClampNeg = 2 from rfl, e1_2]; rfl) ?_
        refine vp_callSi (W.runV (As := []) (rest := []) ⟨hx, hb, hml, hown, hts⟩ (c_X4_fractionFault l D T h4 fs4 n2 e4_0) (cwV 0 hts gX12_asFraction_X4_fractionFault rfl rfl rfl hv_X4_fractionFault ⟨Nat.le_of_ble_eq_true rfl, Nat.le_of_ble_eq_true rfl⟩) (pR_V (q := (RX4, TX4, 4)) (ci := 3) (q0 := 4) hP hE rfl rfl [4] rfl) rfl rfl hl.1 rfl (lv_room (Nat.le_of_ble_eq_true rfl)) dX12_asFraction_26 ⟨Nat.le_of_ble_eq_true rfl, Nat.le_of_ble_eq_true rfl⟩) (fun r_15 hr_15 => ?_)
        rcases ff_post hr_15 with ⟨c_16, rfl⟩ | ⟨c_16, rfl⟩ | ⟨c_16, rfl⟩
        · refine lv_istore_n (lv' := [(3, .int (-11)), (0, .ref h0), (1, .int 2), (2, .int x2)]) hx hb dX12_asFraction_29 rfl hl (by decide +kernel) rfl (fun ls hl => ?_)
          refine lv_iload_n hx hb dX12_asFraction_30 rfl (lv_at hl 0 rfl) ?_
          refine lv_if_eq (tgt := 41) hx hb dX12_asFraction_31 (by decide +kernel) (fun c9 => absurd c9 (by decide +kernel)) (fun _ => ?_)
          refine lv_ldc2 (v := (-4611686018427387904)) hx hb hown (hts (.constantLong RX12 324 (-4611686018427387904)) (List.mem_of_getElem? (i := 3) rfl)) dX12_asFraction_34 ?_
          refine lv_iload_n hx hb dX12_asFraction_37 rfl (lv_at hl 0 rfl) ?_
          refine lv_i2l (v := (-11)) hx hb dX12_asFraction_38 (by decide +kernel) ?_
          refine lv_ladd hx hb dX12_asFraction_39 ?_
          refine lv_topl (fun z_17 ez_17 => ?_)
          obtain rfl : z_17 = (-4611686018427387915) := ez_17.trans (by decide +kernel)
          exact W.lret hx hb hr (fun t ht hW => ⟨_, rfl, (Or.inr ⟨⟨(by decide +kernel), (by omega)⟩, (show ((n2).toInt = 0 ∧ ((-4611686018427387915) : Int64).toInt = -4611686018427387915) ∨ ((n2).toInt ≠ 0 ∧ (n2).toInt ≠ 2 ∧ ((-4611686018427387915) : Int64).toInt = -4611686018427387917) ∨ ((n2).toInt = 2 ∧ x2.toInt = 0 ∧ ((-4611686018427387915) : Int64).toInt = (p2).toInt) ∨ ((n2).toInt = 2 ∧ x2.toInt ≠ 0 ∧ ((-4611686018427387915) : Int64).toInt = (q2).toInt) from by have h9r : ((-4611686018427387915) : Int64).toInt = -4611686018427387915 := (by decide +kernel); omega)⟩), ht⟩) (fun _ h => by cases h) dX12_asFraction_40
        · refine lv_istore_n (lv' := [(3, .int 0), (0, .ref h0), (1, .int 2), (2, .int x2)]) hx hb dX12_asFraction_29 rfl hl (by decide +kernel) rfl (fun ls hl => ?_)
          refine lv_iload_n hx hb dX12_asFraction_30 rfl (lv_at hl 0 rfl) ?_
          refine lv_if_eq (tgt := 41) hx hb dX12_asFraction_31 (by decide +kernel) (fun _ => ?_) (fun c9 => absurd c9 (by decide +kernel))
          refine lv_iload_n hx hb dX12_asFraction_41 rfl (lv_at hl 3 rfl) ?_
          refine lv_if_ne (tgt := 57) hx hb dX12_asFraction_42 (by decide +kernel) (fun c_18 => ?_) (fun c_18 => ?_)
          · rw [fa_eq] at c_18
            try rw [ti_0] at c_18
            refine lv_aload_n hx hb dX12_asFraction_57 rfl (lv_at hl 1 rfl) ?_
            refine va_get (D := D) (ci := 9) (v := .ref h1) (C := RX12) (T := TX12) (N := 11) hx hb hts in_X12_asFraction_X12 hown hE.1 hP 0 rfl rfl 10 (by decide +kernel) (hts (.fieldLink RX12 71 "ClauseBook" "hands" "[LClauseBook$Hand;") (List.mem_of_getElem? (i := 2) rfl)) (fun _ h9 => h9) e0_10 dX12_asFraction_58 ?_
            refine lv_iload_n hx hb dX12_asFraction_61 rfl (lv_at hl 2 rfl) ?_
            refine va_aldq hx hb hE.1 hP 1 7 rfl rfl (by unfold vp_in; decide) dX12_asFraction_62 ?_
            refine W.eq (g2 := F0 m 63 ls [.ref h4]) (by rw [show (2 : Int32).toNatClampNeg = 2 from rfl, e1_2]; rfl) ?_
            refine va_get (D := D) (ci := 3) (v := .long q2) (C := RX4) (T := TX4) (N := 4) hx hb hts in_X12_asFraction_X4 hown hE.1 hP 4 rfl rfl 3 (by decide +kernel) (hts (.fieldLink RX12 368 "ClauseBook$Hand" "below" "J") (List.mem_of_getElem? (i := 5) rfl)) (fun _ h9 => h9) e4_3 dX12_asFraction_63 ?_
            exact W.lret hx hb hr (fun t ht hW => ⟨_, rfl, (Or.inr ⟨⟨(by decide +kernel), (by omega)⟩, (show ((n2).toInt = 0 ∧ (q2 : Int64).toInt = -4611686018427387915) ∨ ((n2).toInt ≠ 0 ∧ (n2).toInt ≠ 2 ∧ (q2 : Int64).toInt = -4611686018427387917) ∨ ((n2).toInt = 2 ∧ x2.toInt = 0 ∧ (q2 : Int64).toInt = (p2).toInt) ∨ ((n2).toInt = 2 ∧ x2.toInt ≠ 0 ∧ (q2 : Int64).toInt = (q2).toInt) from by omega)⟩), ht⟩) (fun _ h => by cases h) dX12_asFraction_66
          · rw [fa_eq] at c_18
            try rw [ti_0] at c_18
            refine lv_aload_n hx hb dX12_asFraction_45 rfl (lv_at hl 1 rfl) ?_
            refine va_get (D := D) (ci := 9) (v := .ref h1) (C := RX12) (T := TX12) (N := 11) hx hb hts in_X12_asFraction_X12 hown hE.1 hP 0 rfl rfl 10 (by decide +kernel) (hts (.fieldLink RX12 71 "ClauseBook" "hands" "[LClauseBook$Hand;") (List.mem_of_getElem? (i := 2) rfl)) (fun _ h9 => h9) e0_10 dX12_asFraction_46 ?_
            refine lv_iload_n hx hb dX12_asFraction_49 rfl (lv_at hl 2 rfl) ?_
            refine va_aldq hx hb hE.1 hP 1 7 rfl rfl (by unfold vp_in; decide) dX12_asFraction_50 ?_
            refine W.eq (g2 := F0 m 51 ls [.ref h4]) (by rw [show (2 : Int32).toNatClampNeg = 2 from rfl, e1_2]; rfl) ?_
            refine va_get (D := D) (ci := 3) (v := .long p2) (C := RX4) (T := TX4) (N := 4) hx hb hts in_X12_asFraction_X4 hown hE.1 hP 4 rfl rfl 2 (by decide +kernel) (hts (.fieldLink RX12 365 "ClauseBook$Hand" "above" "J") (List.mem_of_getElem? (i := 4) rfl)) (fun _ h9 => h9) e4_2 dX12_asFraction_51 ?_
            refine lv_goto (tgt := 66) hx hb dX12_asFraction_54 (by decide +kernel) ?_
            exact W.lret hx hb hr (fun t ht hW => ⟨_, rfl, (Or.inr ⟨⟨(by decide +kernel), (by omega)⟩, (show ((n2).toInt = 0 ∧ (p2 : Int64).toInt = -4611686018427387915) ∨ ((n2).toInt ≠ 0 ∧ (n2).toInt ≠ 2 ∧ (p2 : Int64).toInt = -4611686018427387917) ∨ ((n2).toInt = 2 ∧ x2.toInt = 0 ∧ (p2 : Int64).toInt = (p2).toInt) ∨ ((n2).toInt = 2 ∧ x2.toInt ≠ 0 ∧ (p2 : Int64).toInt = (q2).toInt) from by omega)⟩), ht⟩) (fun _ h => by cases h) dX12_asFraction_66
        · refine lv_istore_n (lv' := [(3, .int (-13)), (0, .ref h0), (1, .int 2), (2, .int x2)]) hx hb dX12_asFraction_29 rfl hl (by decide +kernel) rfl (fun ls hl => ?_)
          refine lv_iload_n hx hb dX12_asFraction_30 rfl (lv_at hl 0 rfl) ?_
          refine lv_if_eq (tgt := 41) hx hb dX12_asFraction_31 (by decide +kernel) (fun c9 => absurd c9 (by decide +kernel)) (fun _ => ?_)
          refine lv_ldc2 (v := (-4611686018427387904)) hx hb hown (hts (.constantLong RX12 324 (-4611686018427387904)) (List.mem_of_getElem? (i := 3) rfl)) dX12_asFraction_34 ?_
          refine lv_iload_n hx hb dX12_asFraction_37 rfl (lv_at hl 0 rfl) ?_
          refine lv_i2l (v := (-13)) hx hb dX12_asFraction_38 (by decide +kernel) ?_
          refine lv_ladd hx hb dX12_asFraction_39 ?_
          refine lv_topl (fun z_19 ez_19 => ?_)
          obtain rfl : z_19 = (-4611686018427387917) := ez_19.trans (by decide +kernel)
          exact W.lret hx hb hr (fun t ht hW => ⟨_, rfl, (Or.inr ⟨⟨(by decide +kernel), (by omega)⟩, (show ((n2).toInt = 0 ∧ ((-4611686018427387917) : Int64).toInt = -4611686018427387915) ∨ ((n2).toInt ≠ 0 ∧ (n2).toInt ≠ 2 ∧ ((-4611686018427387917) : Int64).toInt = -4611686018427387917) ∨ ((n2).toInt = 2 ∧ x2.toInt = 0 ∧ ((-4611686018427387917) : Int64).toInt = (p2).toInt) ∨ ((n2).toInt = 2 ∧ x2.toInt ≠ 0 ∧ ((-4611686018427387917) : Int64).toInt = (q2).toInt) from by have h9r : ((-4611686018427387917) : Int64).toInt = -4611686018427387917 := (by decide +kernel); omega)⟩), ht⟩) (fun _ h => by cases h) dX12_asFraction_40
      · refine va_aldq hx hb hE.1 hP 1 7 rfl rfl (by unfold vp_in; decide) dX12_asFraction_25 ?_
        refine W.eq (g2 := F0 m 26 ls [.ref h5]) (by rw [show (3 : Int32).toNatClampNeg = 3 from rfl, e1_3]; rfl) ?_
        refine vp_callSi (W.runV (As := []) (rest := []) ⟨hx, hb, hml, hown, hts⟩ (c_X4_fractionFault l D T h5 fs5 n3 e5_0) (cwV 0 hts gX12_asFraction_X4_fractionFault rfl rfl rfl hv_X4_fractionFault ⟨Nat.le_of_ble_eq_true rfl, Nat.le_of_ble_eq_true rfl⟩) (pR_V (q := (RX4, TX4, 4)) (ci := 3) (q0 := 5) hP hE rfl rfl [5] rfl) rfl rfl hl.1 rfl (lv_room (Nat.le_of_ble_eq_true rfl)) dX12_asFraction_26 ⟨Nat.le_of_ble_eq_true rfl, Nat.le_of_ble_eq_true rfl⟩) (fun r_20 hr_20 => ?_)
        rcases ff_post hr_20 with ⟨c_21, rfl⟩ | ⟨c_21, rfl⟩ | ⟨c_21, rfl⟩
        · refine lv_istore_n (lv' := [(3, .int (-11)), (0, .ref h0), (1, .int 3), (2, .int x2)]) hx hb dX12_asFraction_29 rfl hl (by decide +kernel) rfl (fun ls hl => ?_)
          refine lv_iload_n hx hb dX12_asFraction_30 rfl (lv_at hl 0 rfl) ?_
          refine lv_if_eq (tgt := 41) hx hb dX12_asFraction_31 (by decide +kernel) (fun c9 => absurd c9 (by decide +kernel)) (fun _ => ?_)
          refine lv_ldc2 (v := (-4611686018427387904)) hx hb hown (hts (.constantLong RX12 324 (-4611686018427387904)) (List.mem_of_getElem? (i := 3) rfl)) dX12_asFraction_34 ?_
          refine lv_iload_n hx hb dX12_asFraction_37 rfl (lv_at hl 0 rfl) ?_
          refine lv_i2l (v := (-11)) hx hb dX12_asFraction_38 (by decide +kernel) ?_
          refine lv_ladd hx hb dX12_asFraction_39 ?_
          refine lv_topl (fun z_22 ez_22 => ?_)
          obtain rfl : z_22 = (-4611686018427387915) := ez_22.trans (by decide +kernel)
          exact W.lret hx hb hr (fun t ht hW => ⟨_, rfl, (Or.inr ⟨⟨(by decide +kernel), (by omega)⟩, (show ((n3).toInt = 0 ∧ ((-4611686018427387915) : Int64).toInt = -4611686018427387915) ∨ ((n3).toInt ≠ 0 ∧ (n3).toInt ≠ 2 ∧ ((-4611686018427387915) : Int64).toInt = -4611686018427387917) ∨ ((n3).toInt = 2 ∧ x2.toInt = 0 ∧ ((-4611686018427387915) : Int64).toInt = (p3).toInt) ∨ ((n3).toInt = 2 ∧ x2.toInt ≠ 0 ∧ ((-4611686018427387915) : Int64).toInt = (q3).toInt) from by have h9r : ((-4611686018427387915) : Int64).toInt = -4611686018427387915 := (by decide +kernel); omega)⟩), ht⟩) (fun _ h => by cases h) dX12_asFraction_40
        · refine lv_istore_n (lv' := [(3, .int 0), (0, .ref h0), (1, .int 3), (2, .int x2)]) hx hb dX12_asFraction_29 rfl hl (by decide +kernel) rfl (fun ls hl => ?_)
          refine lv_iload_n hx hb dX12_asFraction_30 rfl (lv_at hl 0 rfl) ?_
          refine lv_if_eq (tgt := 41) hx hb dX12_asFraction_31 (by decide +kernel) (fun _ => ?_) (fun c9 => absurd c9 (by decide +kernel))
          refine lv_iload_n hx hb dX12_asFraction_41 rfl (lv_at hl 3 rfl) ?_
          refine lv_if_ne (tgt := 57) hx hb dX12_asFraction_42 (by decide +kernel) (fun c_23 => ?_) (fun c_23 => ?_)
          · rw [fa_eq] at c_23
            try rw [ti_0] at c_23
            refine lv_aload_n hx hb dX12_asFraction_57 rfl (lv_at hl 1 rfl) ?_
            refine va_get (D := D) (ci := 9) (v := .ref h1) (C := RX12) (T := TX12) (N := 11) hx hb hts in_X12_asFraction_X12 hown hE.1 hP 0 rfl rfl 10 (by decide +kernel) (hts (.fieldLink RX12 71 "ClauseBook" "hands" "[LClauseBook$Hand;") (List.mem_of_getElem? (i := 2) rfl)) (fun _ h9 => h9) e0_10 dX12_asFraction_58 ?_
            refine lv_iload_n hx hb dX12_asFraction_61 rfl (lv_at hl 2 rfl) ?_
            refine va_aldq hx hb hE.1 hP 1 7 rfl rfl (by unfold vp_in; decide) dX12_asFraction_62 ?_
            refine W.eq (g2 := F0 m 63 ls [.ref h5]) (by rw [show (3 : Int32).toNatClampNeg = 3 from rfl, e1_3]; rfl) ?_
            refine va_get (D := D) (ci := 3) (v := .long q3) (C := RX4) (T := TX4) (N := 4) hx hb hts in_X12_asFraction_X4 hown hE.1 hP 5 rfl rfl 3 (by decide +kernel) (hts (.fieldLink RX12 368 "ClauseBook$Hand" "below" "J") (List.mem_of_getElem? (i := 5) rfl)) (fun _ h9 => h9) e5_3 dX12_asFraction_63 ?_
            exact W.lret hx hb hr (fun t ht hW => ⟨_, rfl, (Or.inr ⟨⟨(by decide +kernel), (by omega)⟩, (show ((n3).toInt = 0 ∧ (q3 : Int64).toInt = -4611686018427387915) ∨ ((n3).toInt ≠ 0 ∧ (n3).toInt ≠ 2 ∧ (q3 : Int64).toInt = -4611686018427387917) ∨ ((n3).toInt = 2 ∧ x2.toInt = 0 ∧ (q3 : Int64).toInt = (p3).toInt) ∨ ((n3).toInt = 2 ∧ x2.toInt ≠ 0 ∧ (q3 : Int64).toInt = (q3).toInt) from by omega)⟩), ht⟩) (fun _ h => by cases h) dX12_asFraction_66
          · rw [fa_eq] at c_23
            try rw [ti_0] at c_23
            refine lv_aload_n hx hb dX12_asFraction_45 rfl (lv_at hl 1 rfl) ?_
            refine va_get (D := D) (ci := 9) (v := .ref h1) (C := RX12) (T := TX12) (N := 11) hx hb hts in_X12_asFraction_X12 hown hE.1 hP 0 rfl rfl 10 (by decide +kernel) (hts (.fieldLink RX12 71 "ClauseBook" "hands" "[LClauseBook$Hand;") (List.mem_of_getElem? (i := 2) rfl)) (fun _ h9 => h9) e0_10 dX12_asFraction_46 ?_
            refine lv_iload_n hx hb dX12_asFraction_49 rfl (lv_at hl 2 rfl) ?_
            refine va_aldq hx hb hE.1 hP 1 7 rfl rfl (by unfold vp_in; decide) dX12_asFraction_50 ?_
            refine W.eq (g2 := F0 m 51 ls [.ref h5]) (by rw [show (3 : Int32).toNatClampNeg = 3 from rfl, e1_3]; rfl) ?_
            refine va_get (D := D) (ci := 3) (v := .long p3) (C := RX4) (T := TX4) (N := 4) hx hb hts in_X12_asFraction_X4 hown hE.1 hP 5 rfl rfl 2 (by decide +kernel) (hts (.fieldLink RX12 365 "ClauseBook$Hand" "above" "J") (List.mem_of_getElem? (i := 4) rfl)) (fun _ h9 => h9) e5_2 dX12_asFraction_51 ?_
            refine lv_goto (tgt := 66) hx hb dX12_asFraction_54 (by decide +kernel) ?_
            exact W.lret hx hb hr (fun t ht hW => ⟨_, rfl, (Or.inr ⟨⟨(by decide +kernel), (by omega)⟩, (show ((n3).toInt = 0 ∧ (p3 : Int64).toInt = -4611686018427387915) ∨ ((n3).toInt ≠ 0 ∧ (n3).toInt ≠ 2 ∧ (p3 : Int64).toInt = -4611686018427387917) ∨ ((n3).toInt = 2 ∧ x2.toInt = 0 ∧ (p3 : Int64).toInt = (p3).toInt) ∨ ((n3).toInt = 2 ∧ x2.toInt ≠ 0 ∧ (p3 : Int64).toInt = (q3).toInt) from by omega)⟩), ht⟩) (fun _ h => by cases h) dX12_asFraction_66
        · refine lv_istore_n (lv' := [(3, .int (-13)), (0, .ref h0), (1, .int 3), (2, .int x2)]) hx hb dX12_asFraction_29 rfl hl (by decide +kernel) rfl (fun ls hl => ?_)
          refine lv_iload_n hx hb dX12_asFraction_30 rfl (lv_at hl 0 rfl) ?_
          refine lv_if_eq (tgt := 41) hx hb dX12_asFraction_31 (by decide +kernel) (fun c9 => absurd c9 (by decide +kernel)) (fun _ => ?_)
          refine lv_ldc2 (v := (-4611686018427387904)) hx hb hown (hts (.constantLong RX12 324 (-4611686018427387904)) (List.mem_of_getElem? (i := 3) rfl)) dX12_asFraction_34 ?_
          refine lv_iload_n hx hb dX12_asFraction_37 rfl (lv_at hl 0 rfl) ?_
          refine lv_i2l (v := (-13)) hx hb dX12_asFraction_38 (by decide +kernel) ?_
          refine lv_ladd hx hb dX12_asFraction_39 ?_
          refine lv_topl (fun z_24 ez_24 => ?_)
          obtain rfl : z_24 = (-4611686018427387917) := ez_24.trans (by decide +kernel)
          exact W.lret hx hb hr (fun t ht hW => ⟨_, rfl, (Or.inr ⟨⟨(by decide +kernel), (by omega)⟩, (show ((n3).toInt = 0 ∧ ((-4611686018427387917) : Int64).toInt = -4611686018427387915) ∨ ((n3).toInt ≠ 0 ∧ (n3).toInt ≠ 2 ∧ ((-4611686018427387917) : Int64).toInt = -4611686018427387917) ∨ ((n3).toInt = 2 ∧ x2.toInt = 0 ∧ ((-4611686018427387917) : Int64).toInt = (p3).toInt) ∨ ((n3).toInt = 2 ∧ x2.toInt ≠ 0 ∧ ((-4611686018427387917) : Int64).toInt = (q3).toInt) from by have h9r : ((-4611686018427387917) : Int64).toInt = -4611686018427387917 := (by decide +kernel); omega)⟩), ht⟩) (fun _ h => by cases h) dX12_asFraction_40
    · refine lv_if_ne (tgt := 20) hx hb dX12_asFraction_13 (by decide +kernel) (fun c9 => absurd c9 (by decide +kernel)) (fun _ => ?_)
      refine lv_ldc2 (v := (-4611686018427387906)) hx hb hown (hts (.constantLong RX12 183 (-4611686018427387906)) (List.mem_of_getElem? (i := 1) rfl)) dX12_asFraction_16 ?_
      exact W.lret hx hb hr (fun t ht hW => ⟨_, rfl, (Or.inl ⟨(by omega), (by decide +kernel)⟩), ht⟩) (fun _ h => by cases h) dX12_asFraction_19
  · refine lv_if_eq (tgt := 16) hx hb dX12_asFraction_4 (by decide +kernel) (fun _ => ?_) (fun c9 => absurd c9 (by decide +kernel))
    refine lv_ldc2 (v := (-4611686018427387906)) hx hb hown (hts (.constantLong RX12 183 (-4611686018427387906)) (List.mem_of_getElem? (i := 1) rfl)) dX12_asFraction_16 ?_
    exact W.lret hx hb hr (fun t ht hW => ⟨_, rfl, (Or.inl ⟨(by omega), (by decide +kernel)⟩), ht⟩) (fun _ h => by cases h) dX12_asFraction_19
theorem ti_200 : (200 : Int32).toInt = 200 := by decide
theorem tl_min : (-9223372036854775808 : Int64).toInt = -9223372036854775808 := by decide
theorem dX11_reduce_0 : decode cX11_reduce 0 = .ok (.aload_n 0, 1) := by decide +kernel
theorem dX11_reduce_1 : decode cX11_reduce 1 = .ok (.getfield 11, 3) := by decide +kernel
theorem dX11_reduce_101 : decode cX11_reduce 101 = .ok (.ldiv, 1) := by decide +kernel
theorem dX11_reduce_102 : decode cX11_reduce 102 = .ok (.lastore, 1) := by decide +kernel
theorem dX11_reduce_103 : decode cX11_reduce 103 = .ok (.return_, 1) := by decide +kernel
theorem dX11_reduce_11 : decode cX11_reduce 11 = .ok (.iload_n 1, 1) := by decide +kernel
theorem dX11_reduce_12 : decode cX11_reduce 12 = .ok (.lconst 0, 1) := by decide +kernel
theorem dX11_reduce_13 : decode cX11_reduce 13 = .ok (.lastore, 1) := by decide +kernel
theorem dX11_reduce_14 : decode cX11_reduce 14 = .ok (.lload 4, 2) := by decide +kernel
theorem dX11_reduce_16 : decode cX11_reduce 16 = .ok (.lconst 0, 1) := by decide +kernel
theorem dX11_reduce_17 : decode cX11_reduce 17 = .ok (.lcmp, 1) := by decide +kernel
theorem dX11_reduce_18 : decode cX11_reduce 18 = .ok (.ifCond .gt 4, 3) := by decide +kernel
theorem dX11_reduce_21 : decode cX11_reduce 21 = .ok (.return_, 1) := by decide +kernel
theorem dX11_reduce_22 : decode cX11_reduce 22 = .ok (.lload 4, 2) := by decide +kernel
theorem dX11_reduce_24 : decode cX11_reduce 24 = .ok (.lstore 6, 2) := by decide +kernel
theorem dX11_reduce_26 : decode cX11_reduce 26 = .ok (.lload_n 2, 1) := by decide +kernel
theorem dX11_reduce_27 : decode cX11_reduce 27 = .ok (.lload 4, 2) := by decide +kernel
theorem dX11_reduce_29 : decode cX11_reduce 29 = .ok (.lrem, 1) := by decide +kernel
theorem dX11_reduce_30 : decode cX11_reduce 30 = .ok (.invokestatic 154, 3) := by decide +kernel
theorem dX11_reduce_33 : decode cX11_reduce 33 = .ok (.lstore 8, 2) := by decide +kernel
theorem dX11_reduce_35 : decode cX11_reduce 35 = .ok (.iconst 0, 1) := by decide +kernel
theorem dX11_reduce_36 : decode cX11_reduce 36 = .ok (.istore 10, 2) := by decide +kernel
theorem dX11_reduce_38 : decode cX11_reduce 38 = .ok (.iload 10, 2) := by decide +kernel
theorem dX11_reduce_4 : decode cX11_reduce 4 = .ok (.iload_n 1, 1) := by decide +kernel
theorem dX11_reduce_40 : decode cX11_reduce 40 = .ok (.sipush 200, 3) := by decide +kernel
theorem dX11_reduce_43 : decode cX11_reduce 43 = .ok (.if_icmp .ge 31, 3) := by decide +kernel
theorem dX11_reduce_46 : decode cX11_reduce 46 = .ok (.lload 8, 2) := by decide +kernel
theorem dX11_reduce_48 : decode cX11_reduce 48 = .ok (.lconst 0, 1) := by decide +kernel
theorem dX11_reduce_49 : decode cX11_reduce 49 = .ok (.lcmp, 1) := by decide +kernel
theorem dX11_reduce_5 : decode cX11_reduce 5 = .ok (.lconst 0, 1) := by decide +kernel
theorem dX11_reduce_50 : decode cX11_reduce 50 = .ok (.ifCond .eq 24, 3) := by decide +kernel
theorem dX11_reduce_53 : decode cX11_reduce 53 = .ok (.lload 6, 2) := by decide +kernel
theorem dX11_reduce_55 : decode cX11_reduce 55 = .ok (.lload 8, 2) := by decide +kernel
theorem dX11_reduce_57 : decode cX11_reduce 57 = .ok (.lrem, 1) := by decide +kernel
theorem dX11_reduce_58 : decode cX11_reduce 58 = .ok (.lstore 11, 2) := by decide +kernel
theorem dX11_reduce_6 : decode cX11_reduce 6 = .ok (.lastore, 1) := by decide +kernel
theorem dX11_reduce_60 : decode cX11_reduce 60 = .ok (.lload 8, 2) := by decide +kernel
theorem dX11_reduce_62 : decode cX11_reduce 62 = .ok (.lstore 6, 2) := by decide +kernel
theorem dX11_reduce_64 : decode cX11_reduce 64 = .ok (.lload 11, 2) := by decide +kernel
theorem dX11_reduce_66 : decode cX11_reduce 66 = .ok (.lstore 8, 2) := by decide +kernel
theorem dX11_reduce_68 : decode cX11_reduce 68 = .ok (.iinc 10 1, 3) := by decide +kernel
theorem dX11_reduce_7 : decode cX11_reduce 7 = .ok (.aload_n 0, 1) := by decide +kernel
theorem dX11_reduce_71 : decode cX11_reduce 71 = .ok (.goto (-33), 3) := by decide +kernel
theorem dX11_reduce_74 : decode cX11_reduce 74 = .ok (.lload 6, 2) := by decide +kernel
theorem dX11_reduce_76 : decode cX11_reduce 76 = .ok (.lconst 0, 1) := by decide +kernel
theorem dX11_reduce_77 : decode cX11_reduce 77 = .ok (.lcmp, 1) := by decide +kernel
theorem dX11_reduce_78 : decode cX11_reduce 78 = .ok (.ifCond .ne 4, 3) := by decide +kernel
theorem dX11_reduce_8 : decode cX11_reduce 8 = .ok (.getfield 15, 3) := by decide +kernel
theorem dX11_reduce_81 : decode cX11_reduce 81 = .ok (.return_, 1) := by decide +kernel
theorem dX11_reduce_82 : decode cX11_reduce 82 = .ok (.aload_n 0, 1) := by decide +kernel
theorem dX11_reduce_83 : decode cX11_reduce 83 = .ok (.getfield 11, 3) := by decide +kernel
theorem dX11_reduce_86 : decode cX11_reduce 86 = .ok (.iload_n 1, 1) := by decide +kernel
theorem dX11_reduce_87 : decode cX11_reduce 87 = .ok (.lload_n 2, 1) := by decide +kernel
theorem dX11_reduce_88 : decode cX11_reduce 88 = .ok (.lload 6, 2) := by decide +kernel
theorem dX11_reduce_90 : decode cX11_reduce 90 = .ok (.ldiv, 1) := by decide +kernel
theorem dX11_reduce_91 : decode cX11_reduce 91 = .ok (.lastore, 1) := by decide +kernel
theorem dX11_reduce_92 : decode cX11_reduce 92 = .ok (.aload_n 0, 1) := by decide +kernel
theorem dX11_reduce_93 : decode cX11_reduce 93 = .ok (.getfield 15, 3) := by decide +kernel
theorem dX11_reduce_96 : decode cX11_reduce 96 = .ok (.iload_n 1, 1) := by decide +kernel
theorem dX11_reduce_97 : decode cX11_reduce 97 = .ok (.lload 4, 2) := by decide +kernel
theorem dX11_reduce_99 : decode cX11_reduce 99 = .ok (.lload 6, 2) := by decide +kernel
set_option maxRecDepth 20000 in
theorem in_X11_reduce_X11 : ∀ w ∈ wsX110, w ∈ wsX11_reduce := sub_r [7, 8, 9, 10, 11, 12] rfl
set_option maxHeartbeats 4000000 in
set_option maxRecDepth 100000 in
theorem c_X11_reduce (l : Launch) (D : va_G) (T : Nat → ClassId) (sz : Nat) (h0 : Nat) (p0 : Nat) (p1 : Nat) (v0 : Value) (v1 : Value) (v4 : Value) (n : Int32) (f0 : Nat → Int64) (f1 : Nat → Int64) (x1 : Int32) (x2 : Int64) (x3 : Int64) (hx1 : 0 ≤ x1.toInt ∧ x1.toInt < 676) (hx3 : 1 ≤ x3.toInt) : Met l yX11_reduce wsX11_reduce ({ frames := 1, cells := 0, slots := 0, locals := 40 }) (pW [.ref h0, .int x1, .long x2, .long x3] D T [(h0, .inr (8, [v0, v1, .ref p0, .ref p1, v4, .int n])), (p0, .inl (T 1, 676, .inr (.inl f0))), (p1, .inl (T 1, 676, .inr (.inl f1)))] sz) (va_Qv (fun (u : (Nat → Int64) × (Nat → Int64)) => (u.1 = vp_updL f0 (x1.toNatClampNeg) (redW x2 x3).1) ∧ u.2 = vp_updL f1 (x1.toNatClampNeg) (redW x2 x3).2) (bW D (va_A [(h0, .inr (8, [v0, v1, .ref p0, .ref p1, v4, .int n])), (p0, .inl (T 1, 676, .inr (.inl f0))), (p1, .inl (T 1, 676, .inr (.inl f1)))] sz) (fun (u : (Nat → Int64) × (Nat → Int64)) => [(h0, .inr (8, [v0, v1, .ref p0, .ref p1, v4, .int n])), (p0, .inl (T 1, 676, .inr (.inl u.1))), (p1, .inl (T 1, 676, .inr (.inl u.2)))])) (va_A [(h0, .inr (8, [v0, v1, .ref p0, .ref p1, v4, .int n])), (p0, .inl (T 1, 676, .inr (.inl f0))), (p1, .inl (T 1, 676, .inr (.inl f1)))] sz)) 0 0 (va_A [(h0, .inr (8, [v0, v1, .ref p0, .ref p1, v4, .int n])), (p0, .inl (T 1, 676, .inr (.inl f0))), (p1, .inl (T 1, 676, .inr (.inl f1)))] sz) := by
  refine Met.ofW (cc := cX11_reduce) (maxL := 13) (ret := none) (by decide +kernel) rfl ?_
  intro p e s m args below meth c s₁ B hml hv
  obtain ⟨rfl, hsz, hP, hE, hD0⟩ := hv
  have hx := B.exec
  have hb := B.bytes
  have hr := B.returns
  have hts := atoms_spec (ws := wsX11_reduce) B.pre
  have hown : s.vm.findClass RX11 = some m.cls := findClass_of_methodNamed B.named
  have hlocks := B.notSynchronized
  subst hsz
  have hD := hD0.self (sz := s.heap.size)
  generalize hAe : va_A [(h0, .inr (8, [v0, v1, .ref p0, .ref p1, v4, .int n])), (p0, .inl (T 1, 676, .inr (.inl f0))), (p1, .inl (T 1, 676, .inr (.inl f1)))] s.heap.size = A at hD ⊢
  have hA : ∀ q : Nat, s.heap.size ≤ q → A q := fun q h => by rw [← hAe]; exact Or.inr h
  have hS : va_S A s.heap s.heap [] := va_S.rf
  have hP : va_P D vwCl [(h0, .inr (8, [v0, v1, .ref p0, .ref p1, v4, .int n])), (p0, .inl (T 1, 676, .inr (.inl f0))), (p1, .inl (T 1, 676, .inr (.inl f1)))] s.heap := hP
  have hl := lv_entry ([.ref h0, .int x1, .long x2, .long x3]) (n := 13) (Nat.le_of_ble_eq_true rfl)
  rw [lg_entry_eq]
  generalize (lg_sl ([.ref h0, .int x1, .long x2, .long x3]) ++ List.replicate (13 - (lg_sl ([.ref h0, .int x1, .long x2, .long x3])).length) Slot.unset).toArray = ls at hl ⊢
  have hl : lv_has ls 13 [(0, .ref h0), (1, .int x1), (2, .long x2), (4, .long x3)] := hl
  clear hD0
  refine lv_aload_n hx hb dX11_reduce_0 rfl (lv_at hl 0 rfl) ?_
  refine va_get (D := D) (ci := 8) (v := .ref p0) (C := RX11) (T := TX11) (N := 6) hx hb hts in_X11_reduce_X11 hown hE.1 hP 0 rfl rfl 2 (by decide +kernel) (hts (.fieldLink RX11 11 "ClauseBook$Worth" "above" "[J") (List.mem_of_getElem? (i := 1) rfl)) (fun _ h9 => h9) rfl dX11_reduce_1 ?_
  refine lv_iload_n hx hb dX11_reduce_4 rfl (lv_at hl 1 rfl) ?_
  refine lv_lconst (v := 0) hx hb dX11_reduce_5 (by decide +kernel) ?_
  refine va_last hx hb hE.1 hP hD hS 1 1 rfl rfl (by rw [vp_in_iff]; omega) dX11_reduce_6 (fun H locs hP hD hS => ?_)
  obtain ⟨hP, hD⟩ := wPD [(h0, .inr (8, [v0, v1, .ref p0, .ref p1, v4, .int n])), (p0, .inl (T 1, 676, .inr (.inl (vp_updL f0 (x1.toNatClampNeg) 0)))), (p1, .inl (T 1, 676, .inr (.inl f1)))] hP hD rfl
  refine lv_aload_n hx hb dX11_reduce_7 rfl (lv_at hl 0 rfl) ?_
  refine va_get (D := D) (ci := 8) (v := .ref p1) (C := RX11) (T := TX11) (N := 6) hx hb hts in_X11_reduce_X11 hown hE.1 hP 0 rfl rfl 3 (by decide +kernel) (hts (.fieldLink RX11 15 "ClauseBook$Worth" "below" "[J") (List.mem_of_getElem? (i := 2) rfl)) (fun _ h9 => h9) rfl dX11_reduce_8 ?_
  refine lv_iload_n hx hb dX11_reduce_11 rfl (lv_at hl 1 rfl) ?_
  refine lv_lconst (v := 0) hx hb dX11_reduce_12 (by decide +kernel) ?_
  refine va_last hx hb hE.1 hP hD hS 2 1 rfl rfl (by rw [vp_in_iff]; omega) dX11_reduce_13 (fun H locs hP hD hS => ?_)
  obtain ⟨hP, hD⟩ := wPD [(h0, .inr (8, [v0, v1, .ref p0, .ref p1, v4, .int n])), (p0, .inl (T 1, 676, .inr (.inl (vp_updL f0 (x1.toNatClampNeg) 0)))), (p1, .inl (T 1, 676, .inr (.inl (vp_updL f1 (x1.toNatClampNeg) 0))))] hP hD rfl
  refine lv_lload hx hb dX11_reduce_14 (lv_at hl 3 rfl) ?_
  refine lv_lconst (v := 0) hx hb dX11_reduce_16 (by decide +kernel) ?_
  refine W.lcmp hx hb dX11_reduce_17 ?_
  refine lv_if_gt (tgt := 22) hx hb dX11_reduce_18 (by decide +kernel) (fun c_1 => ?_) (fun c_1 => ?_)
  · rw [lcmp_gt] at c_1
    try rw [tl_0] at c_1
    refine lv_lload hx hb dX11_reduce_22 (lv_at hl 3 rfl) ?_
    refine lv_lstore (lv' := [(6, .long x3), (0, .ref h0), (1, .int x1), (2, .long x2), (4, .long x3)]) hx hb dX11_reduce_24 hl (by decide +kernel) rfl (fun ls hl => ?_)
    refine lv_lload_n hx hb dX11_reduce_26 rfl (lv_at hl 3 rfl) ?_
    refine lv_lload hx hb dX11_reduce_27 (lv_at hl 4 rfl) ?_
    refine lv_lrem hx hb dX11_reduce_29 (nz64 (by omega)) ?_
    refine va_mabs_long hx hb (hml.trans hl.1.symm) hown (hts (.methodLink RX11 154 Lib.MathLoose.abs_long.x) (List.mem_of_getElem? (i := 3) rfl)) (hts (.static Lib.MathLoose.abs_long.x) (List.mem_of_getElem? (i := 4) rfl)) (hts (.initialized "java/lang/Math") (List.mem_of_getElem? (i := 5) rfl)) (hts (.code Lib.MathLoose.abs_long.x Lib.MathLoose.abs_long.code 2 (some .long)) (List.mem_of_getElem? (i := 6) rfl)) (Nat.le_of_ble_eq_true rfl) (Nat.le_of_ble_eq_true rfl) (Nat.le_of_ble_eq_true rfl) (Nat.le_of_ble_eq_true rfl) dX11_reduce_30 ?_
    refine lv_topl (fun z_2 ez_2 => ?_)
    refine lv_lstore (lv' := [(8, .long z_2), (6, .long x3), (0, .ref h0), (1, .int x1), (2, .long x2), (4, .long x3)]) hx hb dX11_reduce_33 hl (by decide +kernel) rfl (fun ls hl => ?_)
    refine lv_iconst (v := 0) hx hb dX11_reduce_35 (by decide +kernel) ?_
    refine lv_istore (lv' := [(10, .int 0), (8, .long z_2), (6, .long x3), (0, .ref h0), (1, .int x1), (2, .long x2), (4, .long x3)]) hx hb dX11_reduce_36 hl (by decide +kernel) rfl (fun ls hl => ?_)
    have hab := abs_rem (x := x2) hx3 ez_2
    refine loopR (σ := (Int32) × (Int64) × (Int64)) (fun x9 ls => lv_has ls 13 [(10, .int x9.1), (6, .long x9.2.1), (8, .long x9.2.2), (0, .ref h0), (1, .int x1), (2, .long x2), (4, .long x3)] ∧ (redI x2 x3 x9.1 x9.2.1 x9.2.2)) (fun x9 => (200 - x9.1.toInt).toNat) (fun x9 ls hI ih => ?_) (0, x3, z_2) ls ⟨lv_sub hl [0, 2, 1, 3, 4, 5, 6] rfl, (red_init hx3 hab)⟩
    obtain ⟨ii, cm, rs⟩ := x9
    obtain ⟨hl, hinv⟩ := hI
    have hl : lv_has ls 13 [(10, .int ii), (6, .long cm), (8, .long rs), (0, .ref h0), (1, .int x1), (2, .long x2), (4, .long x3)] := hl
    have hinv : redI x2 x3 ii cm rs := hinv
    refine lv_iload hx hb dX11_reduce_38 (lv_at hl 0 rfl) ?_
    refine lv_sipush (v := 200) hx hb dX11_reduce_40 (by decide +kernel) ?_
    refine lv_icmp_ge (tgt := 74) hx hb dX11_reduce_43 (by decide +kernel) (fun c_3 => ?_) (fun c_3 => ?_)
    · rw [fa_le] at c_3
      try rw [ti_200] at c_3
      refine lv_lload hx hb dX11_reduce_74 (lv_at hl 1 rfl) ?_
      refine lv_lconst (v := 0) hx hb dX11_reduce_76 (by decide +kernel) ?_
      refine W.lcmp hx hb dX11_reduce_77 ?_
      refine lv_if_ne (tgt := 82) hx hb dX11_reduce_78 (by decide +kernel) (fun c_4 => ?_) (fun c_4 => ?_)
      · rw [lcmp_eq] at c_4
        try rw [tl_0] at c_4
        refine lv_aload_n hx hb dX11_reduce_82 rfl (lv_at hl 3 rfl) ?_
        refine va_get (D := D) (ci := 8) (v := .ref p0) (C := RX11) (T := TX11) (N := 6) hx hb hts in_X11_reduce_X11 hown hE.1 hP 0 rfl rfl 2 (by decide +kernel) (hts (.fieldLink RX11 11 "ClauseBook$Worth" "above" "[J") (List.mem_of_getElem? (i := 1) rfl)) (fun _ h9 => h9) rfl dX11_reduce_83 ?_
        refine lv_iload_n hx hb dX11_reduce_86 rfl (lv_at hl 4 rfl) ?_
        refine lv_lload_n hx hb dX11_reduce_87 rfl (lv_at hl 5 rfl) ?_
        refine lv_lload hx hb dX11_reduce_88 (lv_at hl 1 rfl) ?_
        refine lv_ldiv hx hb dX11_reduce_90 (nz64 (by omega)) ?_
        refine va_last hx hb hE.1 hP hD hS 1 1 rfl rfl (by rw [vp_in_iff]; omega) dX11_reduce_91 (fun H locs hP hD hS => ?_)
        obtain ⟨hP, hD⟩ := wPD [(h0, .inr (8, [v0, v1, .ref p0, .ref p1, v4, .int n])), (p0, .inl (T 1, 676, .inr (.inl (vp_updL (vp_updL f0 (x1.toNatClampNeg) 0) (x1.toNatClampNeg) (x2 / cm))))), (p1, .inl (T 1, 676, .inr (.inl (vp_updL f1 (x1.toNatClampNeg) 0))))] hP hD rfl
        refine lv_aload_n hx hb dX11_reduce_92 rfl (lv_at hl 3 rfl) ?_
        refine va_get (D := D) (ci := 8) (v := .ref p1) (C := RX11) (T := TX11) (N := 6) hx hb hts in_X11_reduce_X11 hown hE.1 hP 0 rfl rfl 3 (by decide +kernel) (hts (.fieldLink RX11 15 "ClauseBook$Worth" "below" "[J") (List.mem_of_getElem? (i := 2) rfl)) (fun _ h9 => h9) rfl dX11_reduce_93 ?_
        refine lv_iload_n hx hb dX11_reduce_96 rfl (lv_at hl 4 rfl) ?_
        refine lv_lload hx hb dX11_reduce_97 (lv_at hl 6 rfl) ?_
        refine lv_lload hx hb dX11_reduce_99 (lv_at hl 1 rfl) ?_
        refine lv_ldiv hx hb dX11_reduce_101 (nz64 (by omega)) ?_
        refine va_last hx hb hE.1 hP hD hS 2 1 rfl rfl (by rw [vp_in_iff]; omega) dX11_reduce_102 (fun H locs hP hD hS => ?_)
        obtain ⟨hP, hD⟩ := wPD [(h0, .inr (8, [v0, v1, .ref p0, .ref p1, v4, .int n])), (p0, .inl (T 1, 676, .inr (.inl (vp_updL (vp_updL f0 (x1.toNatClampNeg) 0) (x1.toNatClampNeg) (x2 / cm))))), (p1, .inl (T 1, 676, .inr (.inl (vp_updL (vp_updL f1 (x1.toNatClampNeg) 0) (x1.toNatClampNeg) (x3 / cm)))))] hP hD rfl
        exact W.vret hx hb hr (fun t ht hW => ⟨⟨((vp_updL (vp_updL f0 (x1.toNatClampNeg) 0) (x1.toNatClampNeg) (x2 / cm)), (vp_updL (vp_updL f1 (x1.toNatClampNeg) 0) (x1.toNatClampNeg) (x3 / cm))), rfl, (red_close hx3 hinv (by omega) rfl rfl), by rw [ht]; exact hP.sub [0, 1, 2] rfl, hD.sub [0, 1, 2] (by decide +kernel) rfl⟩, hS.F ht⟩) hS.2.2 dX11_reduce_103
      · rw [lcmp_eq] at c_4
        try rw [tl_0] at c_4
        exact W.vret hx hb hr (fun t ht hW => ⟨⟨((vp_updL f0 (x1.toNatClampNeg) 0), (vp_updL f1 (x1.toNatClampNeg) 0)), rfl, (by exfalso; have h9 := hinv.2.1; omega), by rw [ht]; exact hP.sub [0, 1, 2] rfl, hD.sub [0, 1, 2] (by decide +kernel) rfl⟩, hS.F ht⟩) hS.2.2 dX11_reduce_81
    · rw [fa_le] at c_3
      try rw [ti_200] at c_3
      refine lv_lload hx hb dX11_reduce_46 (lv_at hl 2 rfl) ?_
      refine lv_lconst (v := 0) hx hb dX11_reduce_48 (by decide +kernel) ?_
      refine W.lcmp hx hb dX11_reduce_49 ?_
      refine lv_if_eq (tgt := 74) hx hb dX11_reduce_50 (by decide +kernel) (fun c_5 => ?_) (fun c_5 => ?_)
      · rw [lcmp_eq] at c_5
        try rw [tl_0] at c_5
        refine lv_lload hx hb dX11_reduce_74 (lv_at hl 1 rfl) ?_
        refine lv_lconst (v := 0) hx hb dX11_reduce_76 (by decide +kernel) ?_
        refine W.lcmp hx hb dX11_reduce_77 ?_
        refine lv_if_ne (tgt := 82) hx hb dX11_reduce_78 (by decide +kernel) (fun c_6 => ?_) (fun c_6 => ?_)
        · rw [lcmp_eq] at c_6
          try rw [tl_0] at c_6
          refine lv_aload_n hx hb dX11_reduce_82 rfl (lv_at hl 3 rfl) ?_
          refine va_get (D := D) (ci := 8) (v := .ref p0) (C := RX11) (T := TX11) (N := 6) hx hb hts in_X11_reduce_X11 hown hE.1 hP 0 rfl rfl 2 (by decide +kernel) (hts (.fieldLink RX11 11 "ClauseBook$Worth" "above" "[J") (List.mem_of_getElem? (i := 1) rfl)) (fun _ h9 => h9) rfl dX11_reduce_83 ?_
          refine lv_iload_n hx hb dX11_reduce_86 rfl (lv_at hl 4 rfl) ?_
          refine lv_lload_n hx hb dX11_reduce_87 rfl (lv_at hl 5 rfl) ?_
          refine lv_lload hx hb dX11_reduce_88 (lv_at hl 1 rfl) ?_
          refine lv_ldiv hx hb dX11_reduce_90 (nz64 (by omega)) ?_
          refine va_last hx hb hE.1 hP hD hS 1 1 rfl rfl (by rw [vp_in_iff]; omega) dX11_reduce_91 (fun H locs hP hD hS => ?_)
          obtain ⟨hP, hD⟩ := wPD [(h0, .inr (8, [v0, v1, .ref p0, .ref p1, v4, .int n])), (p0, .inl (T 1, 676, .inr (.inl (vp_updL (vp_updL f0 (x1.toNatClampNeg) 0) (x1.toNatClampNeg) (x2 / cm))))), (p1, .inl (T 1, 676, .inr (.inl (vp_updL f1 (x1.toNatClampNeg) 0))))] hP hD rfl
          refine lv_aload_n hx hb dX11_reduce_92 rfl (lv_at hl 3 rfl) ?_
          refine va_get (D := D) (ci := 8) (v := .ref p1) (C := RX11) (T := TX11) (N := 6) hx hb hts in_X11_reduce_X11 hown hE.1 hP 0 rfl rfl 3 (by decide +kernel) (hts (.fieldLink RX11 15 "ClauseBook$Worth" "below" "[J") (List.mem_of_getElem? (i := 2) rfl)) (fun _ h9 => h9) rfl dX11_reduce_93 ?_
          refine lv_iload_n hx hb dX11_reduce_96 rfl (lv_at hl 4 rfl) ?_
          refine lv_lload hx hb dX11_reduce_97 (lv_at hl 6 rfl) ?_
          refine lv_lload hx hb dX11_reduce_99 (lv_at hl 1 rfl) ?_
          refine lv_ldiv hx hb dX11_reduce_101 (nz64 (by omega)) ?_
          refine va_last hx hb hE.1 hP hD hS 2 1 rfl rfl (by rw [vp_in_iff]; omega) dX11_reduce_102 (fun H locs hP hD hS => ?_)
          obtain ⟨hP, hD⟩ := wPD [(h0, .inr (8, [v0, v1, .ref p0, .ref p1, v4, .int n])), (p0, .inl (T 1, 676, .inr (.inl (vp_updL (vp_updL f0 (x1.toNatClampNeg) 0) (x1.toNatClampNeg) (x2 / cm))))), (p1, .inl (T 1, 676, .inr (.inl (vp_updL (vp_updL f1 (x1.toNatClampNeg) 0) (x1.toNatClampNeg) (x3 / cm)))))] hP hD rfl
          exact W.vret hx hb hr (fun t ht hW => ⟨⟨((vp_updL (vp_updL f0 (x1.toNatClampNeg) 0) (x1.toNatClampNeg) (x2 / cm)), (vp_updL (vp_updL f1 (x1.toNatClampNeg) 0) (x1.toNatClampNeg) (x3 / cm))), rfl, (red_close hx3 hinv (by omega) rfl rfl), by rw [ht]; exact hP.sub [0, 1, 2] rfl, hD.sub [0, 1, 2] (by decide +kernel) rfl⟩, hS.F ht⟩) hS.2.2 dX11_reduce_103
        · rw [lcmp_eq] at c_6
          try rw [tl_0] at c_6
          exact W.vret hx hb hr (fun t ht hW => ⟨⟨((vp_updL f0 (x1.toNatClampNeg) 0), (vp_updL f1 (x1.toNatClampNeg) 0)), rfl, (by exfalso; have h9 := hinv.2.1; omega), by rw [ht]; exact hP.sub [0, 1, 2] rfl, hD.sub [0, 1, 2] (by decide +kernel) rfl⟩, hS.F ht⟩) hS.2.2 dX11_reduce_81
      · rw [lcmp_eq] at c_5
        try rw [tl_0] at c_5
        refine lv_lload hx hb dX11_reduce_53 (lv_at hl 1 rfl) ?_
        refine lv_lload hx hb dX11_reduce_55 (lv_at hl 2 rfl) ?_
        refine lv_lrem hx hb dX11_reduce_57 (nz64 (by omega)) ?_
        refine lv_topl (fun z_7 ez_7 => ?_)
        refine lv_lstore (lv' := [(11, .long z_7), (10, .int ii), (6, .long cm), (8, .long rs), (0, .ref h0), (1, .int x1), (2, .long x2), (4, .long x3)]) hx hb dX11_reduce_58 hl (by decide +kernel) rfl (fun ls hl => ?_)
        refine lv_lload hx hb dX11_reduce_60 (lv_at hl 3 rfl) ?_
        refine lv_lstore (lv' := [(6, .long rs), (11, .long z_7), (10, .int ii), (8, .long rs), (0, .ref h0), (1, .int x1), (2, .long x2), (4, .long x3)]) hx hb dX11_reduce_62 hl (by decide +kernel) rfl (fun ls hl => ?_)
        refine lv_lload hx hb dX11_reduce_64 (lv_at hl 1 rfl) ?_
        refine lv_lstore (lv' := [(8, .long z_7), (6, .long rs), (11, .long z_7), (10, .int ii), (0, .ref h0), (1, .int x1), (2, .long x2), (4, .long x3)]) hx hb dX11_reduce_66 hl (by decide +kernel) rfl (fun ls hl => ?_)
        obtain ⟨z_8, ez_8⟩ : ∃ y : Int32, y = ii + 1 := ⟨_, rfl⟩
        refine lv_iinc (v := z_8) (lv' := [(10, .int z_8), (8, .long z_7), (6, .long rs), (11, .long z_7), (0, .ref h0), (1, .int x1), (2, .long x2), (4, .long x3)]) hx hb dX11_reduce_68 hl (k := 3) rfl (by rw [ez_8]; rfl) (by decide +kernel) rfl (fun ls hl => ?_)
        refine lv_goto (tgt := 38) hx hb dX11_reduce_71 (by decide +kernel) ?_
        exact ih (z_8, rs, z_7) ls ⟨lv_sub hl [0, 2, 1, 4, 5, 6, 7] rfl, (red_back hinv (by omega) (by omega) ez_7 (by rw [ez_8]; exact inc1 (n := 200) (by omega) (by decide +kernel)))⟩ (by subst_vars; (try dsimp only); rw [inc1 (n := 200) (by omega) (by decide +kernel)]; omega)
  · rw [lcmp_gt] at c_1
    try rw [tl_0] at c_1
    exact W.vret hx hb hr (fun t ht hW => ⟨⟨((vp_updL f0 (x1.toNatClampNeg) 0), (vp_updL f1 (x1.toNatClampNeg) 0)), rfl, (by exfalso; omega), by rw [ht]; exact hP.sub [0, 1, 2] rfl, hD.sub [0, 1, 2] (by decide +kernel) rfl⟩, hS.F ht⟩) hS.2.2 dX11_reduce_21
end
