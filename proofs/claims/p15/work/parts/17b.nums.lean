theorem l_rng (x : Int64) : -9223372036854775808 ≤ x.toInt ∧ x.toInt < 9223372036854775808 := by
  have h1 := Int64.le_toInt x
  have h2 := Int64.toInt_lt x
  omega
theorem l_div {x y : Int64} (h : 1 ≤ y.toInt) : (x / y).toInt = x.toInt.tdiv y.toInt := Int64.toInt_div_of_ne_right _ _ (by
  intro e
  rw [e] at h
  exact absurd h (by decide +kernel))
theorem l_neg {x : Int64} (h : -9223372036854775807 ≤ x.toInt) : (-x).toInt = -x.toInt := by
  have h2 := l_rng x
  rw [Int64.toInt_neg, Int.bmod_eq_of_le (by omega) (by omega)]
theorem l_sub {x y : Int64} (h1 : -9223372036854775808 ≤ x.toInt - y.toInt) (h2 : x.toInt - y.toInt < 9223372036854775808) : (x - y).toInt = x.toInt - y.toInt := by
  rw [Int64.toInt_sub, Int.bmod_eq_of_le (by omega) (by omega)]
theorem l_mul {x y : Int64} (h1 : -9223372036854775808 ≤ x.toInt * y.toInt) (h2 : x.toInt * y.toInt < 9223372036854775808) : (x * y).toInt = x.toInt * y.toInt := by
  rw [Int64.toInt_mul, Int.bmod_eq_of_le (by omega) (by omega)]
theorem div_pos64 {x y : Int64} (hy : 1 ≤ y.toInt) (hx : y.toInt ≤ x.toInt) : 1 ≤ (x / y).toInt := by
  rw [l_div hy, Int.tdiv_eq_ediv_of_nonneg (by omega)]
  exact Int.le_ediv_of_mul_le (by omega) (by omega)
theorem times_pos {x y z : Int64} (hx : 1 ≤ x.toInt) (hy : 1 ≤ y.toInt) (h : (z / y).toInt = x.toInt) : 1 ≤ z.toInt := by
  rw [l_div hy] at h
  by_cases hz : 1 ≤ z.toInt
  · exact hz
  · exfalso
    have h2 : 0 ≤ (-z.toInt).tdiv y.toInt := Int.tdiv_nonneg (by omega) (by omega)
    rw [Int.neg_tdiv] at h2
    omega
theorem l_small {x y : Int32} (hx : 1 ≤ x.toInt ∧ x.toInt ≤ 9) (hy : 1 ≤ y.toInt ∧ y.toInt ≤ 9) : 1 ≤ (x.toInt64 * y.toInt64).toInt := by
  have h1 : x.toInt * y.toInt ≤ 9 * 9 := Int.mul_le_mul hx.2 hy.2 (by omega) (by omega)
  have h2 : 1 * 1 ≤ x.toInt * y.toInt := Int.mul_le_mul hx.1 hy.1 (by omega) (by omega)
  rw [l_mul (by rw [Int32.toInt_toInt64, Int32.toInt_toInt64]; omega) (by rw [Int32.toInt_toInt64, Int32.toInt_toInt64]; omega), Int32.toInt_toInt64, Int32.toInt_toInt64]
  omega
theorem xor_neg {x y : Int64} (hy : 0 ≤ y.toInt) : (x ^^^ y).toInt < 0 ↔ x.toInt < 0 := by
  have h : (x ^^^ y).toBitVec.msb = (x.toBitVec.msb ^^ y.toBitVec.msb) := by
    rw [Int64.toBitVec_xor, BitVec.msb_xor]
  have e1 : (x ^^^ y).toBitVec.msb = decide ((x ^^^ y).toInt < 0) := BitVec.msb_eq_toInt
  have e2 : x.toBitVec.msb = decide (x.toInt < 0) := BitVec.msb_eq_toInt
  have e3 : y.toBitVec.msb = decide (y.toInt < 0) := BitVec.msb_eq_toInt
  rw [e1, e2, e3, decide_eq_false (show ¬ y.toInt < 0 by omega), Bool.xor_false] at h
  exact decide_eq_decide.mp h
theorem fdA {x y z : Int64} (hy : 1 ≤ y.toInt) (hz : z = x / y) (h : 0 ≤ (x ^^^ y).toInt) : z.toInt = x.toInt / y.toInt := by
  have h2 := xor_neg (x := x) (y := y) (by omega)
  rw [hz, l_div hy, Int.tdiv_eq_ediv_of_nonneg (by omega)]
theorem td_neg {x y : Int} (hy : 1 ≤ y) (hx : x < 0) : x ≤ x.tdiv y * y ∧ x.tdiv y * y ≤ 0 := by
  have h1 : 0 ≤ (-x).tdiv y := Int.tdiv_nonneg (by omega) (by omega)
  have h2 : (-x).tdiv y * y ≤ -x := by
    rw [Int.tdiv_eq_ediv_of_nonneg (by omega)]
    exact Int.ediv_mul_le _ (by omega)
  have h3 : 0 ≤ (-x).tdiv y * y := Int.mul_nonneg h1 (by omega)
  rw [Int.neg_tdiv, Int.neg_mul] at h2 h3
  omega
theorem fdB {x y z : Int64} (hy : 1 ≤ y.toInt) (hz : z = x / y) (h : ¬ 0 ≤ (x ^^^ y).toInt) (h2 : (z * y).toInt = x.toInt) : z.toInt = x.toInt / y.toInt := by
  have hx := (xor_neg (x := x) (y := y) (by omega)).mp (by omega)
  have e : z.toInt = x.toInt.tdiv y.toInt := by rw [hz, l_div hy]
  have h3 := td_neg hy hx
  have h4 := l_rng x
  rw [l_mul (by rw [e]; omega) (by rw [e]; omega)] at h2
  rw [← h2, Int.mul_ediv_cancel _ (by omega)]
theorem fdC {x y z : Int64} (hy : 1 ≤ y.toInt) (hz : z = x / y) (h : ¬ 0 ≤ (x ^^^ y).toInt) (h2 : ¬ (z * y).toInt = x.toInt) : (z - 1).toInt = x.toInt / y.toInt := by
  have hx := (xor_neg (x := x) (y := y) (by omega)).mp (by omega)
  have e : z.toInt = x.toInt.tdiv y.toInt := by rw [hz, l_div hy]
  have h3 := td_neg hy hx
  have h4 := l_rng x
  rw [l_mul (by rw [e]; omega) (by rw [e]; omega), e] at h2
  have hnd : ¬ (0 ≤ x.toInt ∨ y.toInt ∣ x.toInt) := by
    rintro (h5 | h5)
    · omega
    · exact h2 (Int.tdiv_mul_cancel h5)
  have e2 := Int.tdiv_eq_ediv (a := x.toInt) (b := y.toInt)
  rw [if_neg hnd, Int.sign_eq_one_of_pos (by omega)] at e2
  have h6 : x.toInt * y.toInt ≤ x.toInt * 1 := Int.mul_le_mul_of_nonpos_left (by omega) hy
  have h7 : x.toInt ≤ x.toInt / y.toInt := Int.le_ediv_of_mul_le (by omega) (by omega)
  have e1 : (1 : Int64).toInt = 1 := by decide
  have h8 : x.toInt / y.toInt < 0 := by
    first | exact Int.ediv_neg_of_neg_of_pos (by omega) (by omega) | exact Int.ediv_neg' (by omega) (by omega) | exact Int.ediv_lt_of_lt_mul (by omega) (by omega)
  rw [l_sub (by omega) (by omega), e1]
  omega
theorem cmpS {x y z : Int64} (hy : 1 ≤ y.toInt) (hz : z.toInt = x.toInt / y.toInt) : (x - z * y).toInt = x.toInt % y.toInt ∧ 0 ≤ x.toInt % y.toInt ∧ x.toInt % y.toInt < y.toInt := by
  have h1 := Int.emod_nonneg x.toInt (show y.toInt ≠ 0 by omega)
  have h2 := Int.emod_lt_of_pos x.toInt (show 0 < y.toInt by omega)
  have h3 := l_rng y
  refine ⟨?_, h1, h2⟩
  have e : (x - z * y).toInt = (x.toInt - z.toInt * y.toInt).bmod (2 ^ 64) := by
    simp [Int64.toInt_sub, Int64.toInt_mul]
  have e2 : x.toInt - z.toInt * y.toInt = x.toInt % y.toInt := by
    rw [hz, Int.emod_def, Int.mul_comm]
  rw [e, e2, Int.bmod_eq_of_le (by omega) (by omega)]
theorem mod_half {x y : Int} (hy : 0 < y) (h : y ≤ x) : 2 * (x % y) + 1 ≤ x := by
  have h1 := Int.emod_lt_of_pos x hy
  have h2 := Int.mul_ediv_add_emod x y
  have h3 : 1 ≤ x / y := Int.le_ediv_of_mul_le hy (by omega)
  have h4 : y * 1 ≤ y * (x / y) := Int.mul_le_mul_of_nonneg_left h3 (by omega)
  omega
theorem cmpK {x y z t : Int} {k : Nat} (hy : 1 ≤ y) (hr : 1 ≤ x % y) (hs : 1 ≤ z % t) (hk : (z % t) * y + 1 < 2 ^ (k + 1)) : (y % (x % y)) * (z % t) + 1 < 2 ^ k := by
  have h1 := Int.emod_lt_of_pos x (show 0 < y by omega)
  have h2 := mod_half (x := y) (y := x % y) (by omega) (by omega)
  have h3 : (2 * (y % (x % y)) + 1) * (z % t) ≤ y * (z % t) := Int.mul_le_mul_of_nonneg_right h2 (by omega)
  have h4 : (2 : Int) ^ (k + 1) = 2 ^ k * 2 := Int.pow_succ 2 k
  rw [Int.add_mul, Int.mul_assoc] at h3
  rw [Int.mul_comm y] at h3
  omega
theorem cmpT {x y z : Int64} (hy : 1 ≤ y.toInt) (hz : 1 ≤ z.toInt) : (x.toInt % z.toInt) * y.toInt + 1 < 2 ^ 127 := by
  have h1 := Int.emod_lt_of_pos x.toInt (show 0 < z.toInt by omega)
  have h2 := l_rng y
  have h3 := l_rng z
  have h4 : (x.toInt % z.toInt) * y.toInt ≤ 9223372036854775808 * 9223372036854775808 := Int.mul_le_mul (by omega) (by omega) (by omega) (by omega)
  have h5 : (9223372036854775808 * 9223372036854775808 : Int) + 1 < 2 ^ 127 := by decide
  omega
/-! numbers of 64 bits: products and sums that fit, lowest terms, which of two fractions is more -/
theorem l_rem {x y : Int64} (hy : y.toInt ≠ 0) (h : -9223372036854775808 < x.toInt ∨ 1 ≤ y.toInt) : (x - x / y * y).toInt = x.toInt.tmod y.toInt := by
  have e : (x / y).toInt = x.toInt.tdiv y.toInt := by
    rcases h with h | h
    · exact Int64.toInt_div_of_ne_left _ _ (by intro e; rw [e] at h; exact absurd h (by decide +kernel))
    · exact l_div h
  obtain ⟨z, hz⟩ : ∃ z, z = x / y := ⟨_, rfl⟩
  rw [← hz] at e ⊢
  have h1 : (x - z * y).toInt = (x.toInt - z.toInt * y.toInt).bmod (2 ^ 64) := by
    simp [Int64.toInt_sub, Int64.toInt_mul]
  have h2 : x.toInt - z.toInt * y.toInt = x.toInt.tmod y.toInt := by
    rw [e, Int.tmod_def, Int.mul_comm]
  have h3 : (x.toInt.tmod y.toInt).natAbs < y.toInt.natAbs := by
    rw [Int.natAbs_tmod]
    exact Nat.mod_lt _ (by omega)
  have h4 := l_rng y
  rw [h1, h2, Int.bmod_eq_of_le (by omega) (by omega)]
theorem gcd_turn {x y z : Int} (h : z.natAbs = x.natAbs % y.natAbs) : Nat.gcd y.natAbs z.natAbs = Nat.gcd x.natAbs y.natAbs := by
  rw [h, Nat.gcd_comm x.natAbs y.natAbs, Nat.gcd_rec y.natAbs x.natAbs]
  exact Nat.gcd_comm _ _
/-- the greatest number by which both can be divided -/
def gI (x y : Int64) : Int64 := Int64.ofInt ((Nat.gcd x.toInt.natAbs y.toInt.natAbs : Nat) : Int)
theorem gI_toInt {x y : Int64} (hy : 1 ≤ y.toInt) : (gI x y).toInt = ((Nat.gcd x.toInt.natAbs y.toInt.natAbs : Nat) : Int) ∧ 1 ≤ (gI x y).toInt ∧ (gI x y).toInt ≤ y.toInt := by
  have h1 : Nat.gcd x.toInt.natAbs y.toInt.natAbs ≤ y.toInt.natAbs := Nat.gcd_le_right _ (by omega)
  have h2 : 0 < Nat.gcd x.toInt.natAbs y.toInt.natAbs := Nat.gcd_pos_of_pos_right _ (by omega)
  have h3 := l_rng y
  have e : (gI x y).toInt = ((Nat.gcd x.toInt.natAbs y.toInt.natAbs : Nat) : Int) := Int64.toInt_ofInt_of_le (by omega) (by omega)
  exact ⟨e, by omega, by omega⟩
theorem gI_eq {x y z : Int64} (hy : 1 ≤ y.toInt) (h : z.toInt = ((Nat.gcd x.toInt.natAbs y.toInt.natAbs : Nat) : Int)) : z = gI x y := Int64.toInt_inj.1 (h.trans (gI_toInt hy).1.symm)
/-- in lowest terms -/
def redW (x y : Int64) : Int64 × Int64 := (x / gI x y, y / gI x y)
theorem redW_pos {x y : Int64} (hy : 1 ≤ y.toInt) : 1 ≤ (redW x y).2.toInt := by
  have h := gI_toInt (x := x) hy
  exact div_pos64 h.2.1 h.2.2
/-- the class's turns: what is left halves -/
theorem red_turn {c r n : Int64} {i : Nat} {G : Nat} (hc : 1 ≤ c.toInt) (hr : 1 ≤ r.toInt) (hrc : r.toInt < c.toInt) (hG : Nat.gcd c.toInt.natAbs r.toInt.natAbs = G) (hk : (c.toInt * r.toInt) * 2 ^ i < 2 ^ 127) (hn : n = c - c / r * r) : (0 ≤ n.toInt ∧ n.toInt < r.toInt) ∧ Nat.gcd r.toInt.natAbs n.toInt.natAbs = G ∧ (r.toInt * n.toInt) * 2 ^ (i + 1) < 2 ^ 127 := by
  have e : n.toInt = c.toInt.tmod r.toInt := by rw [hn]; exact l_rem (by omega) (Or.inr hr)
  have e2 : n.toInt = c.toInt % r.toInt := by rw [e]; exact Int.tmod_eq_emod_of_nonneg (by omega)
  have h1 := Int.emod_nonneg c.toInt (show r.toInt ≠ 0 by omega)
  have h2 := Int.emod_lt_of_pos c.toInt (show 0 < r.toInt by omega)
  have h3 := mod_half (x := c.toInt) (y := r.toInt) (by omega) (by omega)
  refine ⟨⟨by omega, by omega⟩, ?_, ?_⟩
  · rw [← hG]
    exact gcd_turn (by rw [e, Int.natAbs_tmod])
  · have h4 : (r.toInt * n.toInt) * 2 ≤ c.toInt * r.toInt := by
      rw [Int.mul_comm c.toInt, Int.mul_assoc]
      exact Int.mul_le_mul_of_nonneg_left (by omega) (by omega)
    have h5 : (0 : Int) < 2 ^ i := Int.pow_pos (by decide +kernel)
    have h6 : ((r.toInt * n.toInt) * 2) * 2 ^ i ≤ (c.toInt * r.toInt) * 2 ^ i := Int.mul_le_mul_of_nonneg_right h4 (by omega)
    have h7 : (r.toInt * n.toInt) * 2 ^ (i + 1) = ((r.toInt * n.toInt) * 2) * 2 ^ i := by
      rw [Int.pow_succ, Int.mul_comm ((2 : Int) ^ i) 2, Int.mul_assoc]
      simp only [Int.mul_assoc]
    omega
theorem red_first {x y r : Int64} (hy : 1 ≤ y.toInt) (hr : r.toInt = ((x.toInt.tmod y.toInt).natAbs : Int)) : (0 ≤ r.toInt ∧ r.toInt < y.toInt) ∧ Nat.gcd y.toInt.natAbs r.toInt.natAbs = Nat.gcd x.toInt.natAbs y.toInt.natAbs ∧ (y.toInt * r.toInt) * 2 ^ 0 < 2 ^ 127 := by
  have h1 : (x.toInt.tmod y.toInt).natAbs = x.toInt.natAbs % y.toInt.natAbs := Int.natAbs_tmod _ _
  have h2 : x.toInt.natAbs % y.toInt.natAbs < y.toInt.natAbs := Nat.mod_lt _ (by omega)
  have h3 := l_rng y
  refine ⟨⟨by omega, by omega⟩, gcd_turn (by omega), ?_⟩
  have h4 : y.toInt * r.toInt ≤ 9223372036854775808 * 9223372036854775808 := Int.mul_le_mul (by omega) (by omega) (by omega) (by omega)
  have h5 : (9223372036854775808 * 9223372036854775808 : Int) < 2 ^ 127 := by decide
  rw [Int.pow_zero, Int.mul_one]
  omega
theorem turn_end {a b : Int} {i : Nat} (ha : 1 ≤ a) (hb : 1 ≤ b) (hi : 127 ≤ i) (h : (a * b) * 2 ^ i < 2 ^ 127) : False := by
  have h1 : 1 * 1 ≤ a * b := Int.mul_le_mul ha hb (by omega) (by omega)
  have h2 : (2 : Int) ^ 127 ≤ 2 ^ i := by
    have h3 : (2 : Nat) ^ 127 ≤ 2 ^ i := Nat.pow_le_pow_right (by omega) hi
    exact_mod_cast h3
  have h4 : 1 * 2 ^ i ≤ (a * b) * 2 ^ i := Int.mul_le_mul_of_nonneg_right (by omega) (by omega)
  omega
/-! products and sums -/
theorem mul_bm (a b : Int64) : ∃ k : Int, (a * b).toInt = a.toInt * b.toInt + 18446744073709551616 * k := by
  refine ⟨-(Int.bdiv (a.toInt * b.toInt) (2 ^ 64)), ?_⟩
  have h := Int.bmod_add_bdiv (a.toInt * b.toInt) (2 ^ 64)
  rw [Int64.toInt_mul]
  have e : ((2 ^ 64 : Nat) : Int) = 18446744073709551616 := by decide
  rw [e] at h
  omega
theorem add_bm (a b : Int64) : ∃ k : Int, (a + b).toInt = a.toInt + b.toInt + 18446744073709551616 * k := by
  refine ⟨-(Int.bdiv (a.toInt + b.toInt) (2 ^ 64)), ?_⟩
  have h := Int.bmod_add_bdiv (a.toInt + b.toInt) (2 ^ 64)
  rw [Int64.toInt_add]
  have e : ((2 ^ 64 : Nat) : Int) = 18446744073709551616 := by decide
  rw [e] at h
  omega
/-- the product, the sum is one of 64 bits -/
abbrev fitM (a b : Int64) : Prop := -9223372036854775808 ≤ a.toInt * b.toInt ∧ a.toInt * b.toInt < 9223372036854775808
abbrev fitA (a b : Int64) : Prop := -9223372036854775808 ≤ a.toInt + b.toInt ∧ a.toInt + b.toInt < 9223372036854775808
theorem fitM_c {a b : Int64} : fitM a b ↔ fitM b a := by
  unfold fitM
  rw [Int.mul_comm]
theorem fitM_0 {a b : Int64} (h : a.toInt = 0 ∨ b.toInt = 0) : fitM a b := by
  have e : a.toInt * b.toInt = 0 := by
    rcases h with h | h
    · rw [h, Int.zero_mul]
    · rw [h, Int.mul_zero]
  unfold fitM
  omega
theorem fitM_n1 {a b : Int64} (h : b.toInt = -1) : fitM a b ↔ a.toInt ≠ -9223372036854775808 := by
  have h1 := l_rng a
  have e : a.toInt * b.toInt = -a.toInt := by rw [h, Int.mul_neg, Int.mul_one]
  unfold fitM
  omega
theorem fitM_yes {a b z : Int64} (h : fitM a b) (hb : b.toInt ≠ 0) (hz : z = a * b) : (z / b).toInt = a.toInt := by
  have e : z.toInt = a.toInt * b.toInt := by rw [hz]; exact l_mul h.1 h.2
  by_cases h1 : b.toInt = -1
  · have h2 := (fitM_n1 h1).1 h
    have h3 : z.toInt = -a.toInt := by rw [e, h1, Int.mul_neg, Int.mul_one]
    have h4 := l_rng a
    have h6 : z ≠ Int64.minValue := by
      intro q
      rw [q] at h3
      have h5 : Int64.minValue.toInt = -9223372036854775808 := by decide
      omega
    rw [Int64.toInt_div_of_ne_left _ _ h6, e, Int.mul_tdiv_cancel _ hb]
  · rw [Int64.toInt_div_of_ne_right _ _ (by intro q; rw [q] at h1; exact h1 (by decide +kernel)), e, Int.mul_tdiv_cancel _ hb]
theorem fitM_no {a b z : Int64} (hb : b.toInt ≠ 0) (hs : ¬ (b.toInt = -1 ∧ a.toInt = -9223372036854775808)) (hz : z = a * b) (h : (z / b).toInt = a.toInt) : fitM a b := by
  by_cases h1 : b.toInt = -1
  · exact (fitM_n1 h1).2 (fun q => hs ⟨h1, q⟩)
  · rw [Int64.toInt_div_of_ne_right _ _ (by intro q; rw [q] at h1; exact h1 (by decide +kernel))] at h
    obtain ⟨k, hk⟩ := mul_bm a b
    rw [← hz] at hk
    have h2 := Int.tmod_def z.toInt b.toInt
    have h3 : (z.toInt.tmod b.toInt).natAbs < b.toInt.natAbs := by
      rw [Int.natAbs_tmod]
      exact Nat.mod_lt _ (by omega)
    rw [h, Int.mul_comm] at h2
    have h4 := l_rng b
    have h5 := l_rng z
    unfold fitM
    omega
theorem xor_sgn {x y : Int64} : (x ^^^ y).toInt < 0 ↔ ¬ (x.toInt < 0 ↔ y.toInt < 0) := by
  have h : (x ^^^ y).toBitVec.msb = (x.toBitVec.msb ^^ y.toBitVec.msb) := by
    rw [Int64.toBitVec_xor, BitVec.msb_xor]
  have e1 : (x ^^^ y).toBitVec.msb = decide ((x ^^^ y).toInt < 0) := BitVec.msb_eq_toInt
  have e2 : x.toBitVec.msb = decide (x.toInt < 0) := BitVec.msb_eq_toInt
  have e3 : y.toBitVec.msb = decide (y.toInt < 0) := BitVec.msb_eq_toInt
  rw [e1, e2, e3] at h
  by_cases hx : x.toInt < 0 <;> by_cases hy : y.toInt < 0 <;> simp [hx, hy] at h ⊢ <;> omega
theorem and_sgn {x y : Int64} : (x &&& y).toInt < 0 ↔ (x.toInt < 0 ∧ y.toInt < 0) := by
  have h : (x &&& y).toBitVec.msb = (x.toBitVec.msb && y.toBitVec.msb) := by
    rw [Int64.toBitVec_and, BitVec.msb_and]
  have e1 : (x &&& y).toBitVec.msb = decide ((x &&& y).toInt < 0) := BitVec.msb_eq_toInt
  have e2 : x.toBitVec.msb = decide (x.toInt < 0) := BitVec.msb_eq_toInt
  have e3 : y.toBitVec.msb = decide (y.toInt < 0) := BitVec.msb_eq_toInt
  rw [e1, e2, e3] at h
  by_cases hx : x.toInt < 0 <;> by_cases hy : y.toInt < 0 <;> simp [hx, hy] at h ⊢ <;> omega
theorem fitA_iff {a b z : Int64} (hz : z = a + b) : fitA a b ↔ ¬ ((a ^^^ z).toInt < 0 ∧ (b ^^^ z).toInt < 0) := by
  obtain ⟨k, hk⟩ := add_bm a b
  rw [← hz] at hk
  have h1 := l_rng a
  have h2 := l_rng b
  have h3 := l_rng z
  rw [xor_sgn, xor_sgn]
  unfold fitA
  have h4 : k = 0 ∨ k = 1 ∨ k = -1 := by omega
  rcases h4 with rfl | rfl | rfl <;> constructor <;> intro h <;> omega
theorem fitA_and {a b z : Int64} (hz : z = a + b) : fitA a b ↔ 0 ≤ ((a ^^^ z) &&& (b ^^^ z)).toInt := by
  have h1 := and_sgn (x := a ^^^ z) (y := b ^^^ z)
  have h2 := fitA_iff hz
  by_cases h3 : (a ^^^ z).toInt < 0 ∧ (b ^^^ z).toInt < 0
  · have h4 := h1.2 h3
    exact ⟨fun q => absurd h3 (h2.1 q), fun q => by omega⟩
  · exact ⟨fun _ => by
      by_cases h5 : ((a ^^^ z) &&& (b ^^^ z)).toInt < 0
      · exact absurd (h1.1 h5) h3
      · omega, fun _ => h2.2 h3⟩
/-! which of two fractions is more -/
theorem cmp_lt {x y v w : Int} (hy : 0 < y) (hw : 0 < w) (h : x / y < v / w) : x * w - v * y < 0 := by
  have h1 := Int.lt_ediv_add_one_mul_self x hy
  have h2 : v / w * w ≤ v := Int.ediv_mul_le v (by omega)
  have h3 : x * w < (x / y + 1) * y * w := Int.mul_lt_mul_of_pos_right h1 hw
  have h4 : (v / w) * w * y ≤ v * y := Int.mul_le_mul_of_nonneg_right h2 (by omega)
  have h5 : (x / y + 1) * (y * w) ≤ (v / w) * (y * w) := Int.mul_le_mul_of_nonneg_right (by omega) (Int.mul_nonneg (by omega) (by omega))
  rw [Int.mul_assoc] at h3 h4
  rw [Int.mul_comm w y] at h4
  omega
theorem cmp_eq {x y v w : Int} (h : x / y = v / w) : x * w - v * y = (x % y) * w - (v % w) * y := by
  have h1 := Int.mul_ediv_add_emod x y
  have h2 := Int.mul_ediv_add_emod v w
  have h3 : x * w = y * (x / y) * w + (x % y) * w := by rw [← Int.add_mul, h1]
  have h4 : v * y = w * (v / w) * y + (v % w) * y := by rw [← Int.add_mul, h2]
  have h5 : y * (x / y) * w = w * (v / w) * y := by
    rw [h, Int.mul_comm y, Int.mul_comm w, Int.mul_assoc, Int.mul_assoc, Int.mul_comm y w]
  omega
/-- -1, 0, 1 -/
def cmpW (x y v w : Int) : Int := (x * w - v * y).sign
theorem cmpW_lt {x y v w : Int} (hy : 0 < y) (hw : 0 < w) (h : x / y < v / w) : cmpW x y v w = -1 := Int.sign_eq_neg_one_of_neg (cmp_lt hy hw h)
theorem cmpW_gt {x y v w : Int} (hy : 0 < y) (hw : 0 < w) (h : v / w < x / y) : cmpW x y v w = 1 := by
  have h1 := cmp_lt hw hy h
  exact Int.sign_eq_one_of_pos (by omega)
theorem cmpW_0 {x y v w : Int} (h : x / y = v / w) (hr : x % y = 0) (hs : v % w = 0) : cmpW x y v w = 0 := by
  unfold cmpW
  rw [cmp_eq h, hr, hs, Int.zero_mul, Int.zero_mul]
  rfl
theorem cmpW_r {x y v w : Int} (hy : 0 < y) (h : x / y = v / w) (hr : x % y = 0) (hs : 0 < v % w) : cmpW x y v w = -1 := by
  unfold cmpW
  rw [cmp_eq h, hr, Int.zero_mul]
  have h1 : 0 < (v % w) * y := Int.mul_pos hs hy
  exact Int.sign_eq_neg_one_of_neg (by omega)
theorem cmpW_s {x y v w : Int} (hw : 0 < w) (h : x / y = v / w) (hr : 0 < x % y) (hs : v % w = 0) : cmpW x y v w = 1 := by
  unfold cmpW
  rw [cmp_eq h, hs, Int.zero_mul]
  have h1 : 0 < (x % y) * w := Int.mul_pos hr hw
  exact Int.sign_eq_one_of_pos (by omega)
theorem cmpW_turn {x y v w : Int} (h : x / y = v / w) : cmpW x y v w = -(cmpW y (x % y) w (v % w)) := by
  unfold cmpW
  rw [cmp_eq h, ← Int.sign_neg]
  congr 1
  rw [Int.mul_comm y, Int.mul_comm w]
  omega
theorem cmpW_flip {x y v w : Int} (h : x / y = v / w) : cmpW x y v w = cmpW w (v % w) y (x % y) := by
  unfold cmpW
  rw [cmp_eq h]
  congr 1
  rw [Int.mul_comm w, Int.mul_comm y]
theorem cmpW_in (x y v w : Int) : cmpW x y v w = -1 ∨ cmpW x y v w = 0 ∨ cmpW x y v w = 1 := by
  unfold cmpW
  rcases Int.lt_trichotomy (x * w - v * y) 0 with h | h | h
  · exact Or.inl (Int.sign_eq_neg_one_of_neg h)
  · exact Or.inr (Or.inl (by rw [h]; rfl))
  · exact Or.inr (Or.inr (Int.sign_eq_one_of_pos h))
theorem cmpW_anti (x y v w : Int) : cmpW v w x y = -cmpW x y v w := by
  unfold cmpW
  rw [← Int.sign_neg]
  congr 1
  omega
/-! the class's way to lowest terms, turn by turn -/
theorem abs_rem {x y z : Int64} (hy : 1 ≤ y.toInt) (hz : z = (if 0 < (x - x / y * y) then (x - x / y * y) else -(x - x / y * y))) : z.toInt = ((x.toInt.tmod y.toInt).natAbs : Int) := by
  have e := l_rem (x := x) (y := y) (by omega) (Or.inr hy)
  have h3 : (x.toInt.tmod y.toInt).natAbs < y.toInt.natAbs := by
    rw [Int.natAbs_tmod]
    exact Nat.mod_lt _ (by omega)
  have h4 := l_rng y
  by_cases h : 0 < (x - x / y * y)
  · rw [if_pos h] at hz
    rw [fa_lt64] at h
    have h0 : (0 : Int64).toInt = 0 := by decide
    rw [hz]
    omega
  · rw [if_neg h] at hz
    rw [fa_lt64] at h
    have h0 : (0 : Int64).toInt = 0 := by decide
    rw [hz, l_neg (by omega)]
    omega
def redI (x y : Int64) (ii : Int32) (cm rs : Int64) : Prop := (0 ≤ ii.toInt ∧ ii.toInt ≤ 200) ∧ (1 ≤ cm.toInt ∧ 0 ≤ rs.toInt ∧ rs.toInt < cm.toInt) ∧ Nat.gcd cm.toInt.natAbs rs.toInt.natAbs = Nat.gcd x.toInt.natAbs y.toInt.natAbs ∧ (cm.toInt * rs.toInt) * 2 ^ ii.toNatClampNeg < 2 ^ 127
theorem red_init {x y z : Int64} (hy : 1 ≤ y.toInt) (hz : z.toInt = ((x.toInt.tmod y.toInt).natAbs : Int)) : redI x y 0 y z := by
  obtain ⟨h1, h2, h3⟩ := red_first hy hz
  exact ⟨by decide, ⟨hy, h1.1, h1.2⟩, h2, h3⟩
theorem red_back {x y cm rs n : Int64} {ii i' : Int32} (h : redI x y ii cm rs) (h2 : ii.toInt < 200) (hr : rs.toInt ≠ 0) (hn : n = cm - cm / rs * rs) (hi : i'.toInt = ii.toInt + 1) : redI x y i' rs n := by
  obtain ⟨a, ⟨b1, b2, b3⟩, c, d⟩ := h
  obtain ⟨e1, e2, e3⟩ := red_turn b1 (by omega) b3 c d hn
  refine ⟨⟨by omega, by omega⟩, ⟨by omega, e1.1, e1.2⟩, e2, ?_⟩
  rw [tnS a.1 hi]
  exact e3
theorem red_end {x y cm rs : Int64} {ii : Int32} (h : redI x y ii cm rs) (h2 : 200 ≤ ii.toInt ∨ rs.toInt = 0) (hy : 1 ≤ y.toInt) : cm = gI x y := by
  obtain ⟨a, ⟨b1, b2, b3⟩, c, d⟩ := h
  have h0 : rs.toInt = 0 := by
    rcases h2 with h2 | h2
    · by_cases e : rs.toInt = 0
      · exact e
      · exact (turn_end b1 (show 1 ≤ rs.toInt by omega) (i := ii.toNatClampNeg) (by have t := tn a.1; omega) d).elim
    · exact h2
  refine gI_eq hy ?_
  rw [← c, h0]
  show cm.toInt = ((Nat.gcd cm.toInt.natAbs 0 : Nat) : Int)
  rw [Nat.gcd_zero_right]
  omega
theorem updL_updL {f : Nat → Int64} {k : Nat} {v z : Int64} : vp_updL (vp_updL f k v) k z = vp_updL f k z := by
  funext j
  simp only [vp_updL]
  by_cases h : j = k
  · simp only [if_pos h]
  · simp only [if_neg h]
theorem red_close {f0 f1 g0 g1 : Nat → Int64} {X : Nat} {x y cm rs : Int64} {ii : Int32} (hy : 1 ≤ y.toInt) (h : redI x y ii cm rs) (h2 : 200 ≤ ii.toInt ∨ rs.toInt = 0) (e0 : g0 = vp_updL (vp_updL f0 X 0) X (x / cm)) (e1 : g1 = vp_updL (vp_updL f1 X 0) X (y / cm)) : g0 = vp_updL f0 X (redW x y).1 ∧ g1 = vp_updL f1 X (redW x y).2 := by
  have e := red_end h h2 hy
  subst e
  rw [e0, e1, updL_updL, updL_updL]
  exact ⟨rfl, rfl⟩
/-! fractions in hands -/
theorem updL_at {f : Nat → Int64} {k : Nat} {v : Int64} : vp_updL f k v k = v := by simp only [vp_updL, if_pos]
def holdF (n9 h s : Int32) (v w : Int64) (ja jb ua ub : Nat → Int64) : Prop := (¬ hdV n9 h s v w ∧ ∀ k : Nat, k < 4 → ua k = ja k ∧ ub k = jb k) ∨ (hdV n9 h s v w ∧ ∀ k : Nat, k < 4 → (k = h.toNatClampNeg → s.toInt = 2 → ua k = (redW v w).1 ∧ ub k = (redW v w).2) ∧ (¬ (k = h.toNatClampNeg ∧ s.toInt = 2) → ua k = ja k ∧ ub k = jb k))
def holdG (n9 h s : Int32) (v w : Int64) (ha hb wa wb : Nat → Int64) : Prop := (¬ hdV n9 h s v w ∧ wa = ha ∧ wb = hb) ∨ (hdV n9 h s v w ∧ (s.toInt = 2 → wa h.toNatClampNeg = (redW v w).1 ∧ wb h.toNatClampNeg = (redW v w).2) ∧ ∀ k : Nat, k ≠ h.toNatClampNeg → wa k = ha k ∧ wb k = hb k)
def rlF (jz : Nat → Int32) (ja jb ha hb : Nat → Int64) : Prop := ∀ k : Nat, k < 4 → (jz k).toInt = 2 → ja k = ha k ∧ jb k = hb k
theorem holdF_rel {n9 h s r : Int32} {v w : Int64} {jz jn uz un : Nat → Int32} {ja jb ha hb ua ub wa wb : Nat → Int64} (R : rlF jz ja jb ha hb) (c : holdC n9 h s r v w jz jn uz un) (a : holdF n9 h s v w ja jb ua ub) (b : holdG n9 h s v w ha hb wa wb) : rlF uz ua ub wa wb := by
  intro k hk h2
  rcases c with ⟨c1, c2, c3⟩ | ⟨c1, c2, c3⟩
  · rcases a with ⟨a1, a2⟩ | ⟨a1, _⟩
    · rcases b with ⟨b1, b2, b3⟩ | ⟨b1, _⟩
      · rw [(c3 k hk).1] at h2
        rw [(a2 k hk).1, (a2 k hk).2, b2, b3]
        exact R k hk h2
      · exact absurd b1 c1
    · exact absurd a1 c1
  · rcases a with ⟨a1, _⟩ | ⟨a1, a2⟩
    · exact absurd c1 a1
    · rcases b with ⟨b1, _⟩ | ⟨b1, b2, b3⟩
      · exact absurd c1 b1
      · by_cases e : k = h.toNatClampNeg
        · rw [((c3 k hk).1 e).1] at h2
          obtain ⟨p1, p2⟩ := (a2 k hk).1 e h2
          obtain ⟨q1, q2⟩ := b2 h2
          rw [p1, p2, e, q1, q2]
          exact ⟨rfl, rfl⟩
        · rw [((c3 k hk).2 e).1] at h2
          obtain ⟨p1, p2⟩ := (a2 k hk).2 (fun q => e q.1)
          obtain ⟨q1, q2⟩ := b3 k e
          rw [p1, p2, q1, q2]
          exact R k hk h2
/-- what asFraction answers: z, a, b are what the hand holds -/
def asFr (h p z : Int32) (a b r : Int64) : Prop := (¬ ((0 ≤ h.toInt ∧ h.toInt ≤ 3) ∧ 0 ≤ p.toInt ∧ p.toInt ≤ 1) ∧ r.toInt = -4611686018427387906) ∨ (((0 ≤ h.toInt ∧ h.toInt ≤ 3) ∧ 0 ≤ p.toInt ∧ p.toInt ≤ 1) ∧ ((z.toInt = 0 ∧ r.toInt = -4611686018427387915) ∨ (z.toInt ≠ 0 ∧ z.toInt ≠ 2 ∧ r.toInt = -4611686018427387917) ∨ (z.toInt = 2 ∧ p.toInt = 0 ∧ r.toInt = a.toInt) ∨ (z.toInt = 2 ∧ p.toInt ≠ 0 ∧ r.toInt = b.toInt)))
theorem asFr_rel {h p z z' : Int32} {a b a' b' r r' : Int64} (hz : (0 ≤ h.toInt ∧ h.toInt ≤ 3) → z = z' ∧ (z.toInt = 2 → a = a' ∧ b = b')) (x : asFr h p z a b r) (y : asFr h p z' a' b' r') : r = r' := by
  refine Int64.toInt_inj.1 ?_
  unfold asFr at x y
  by_cases hh : 0 ≤ h.toInt ∧ h.toInt ≤ 3
  · obtain ⟨e1, e2⟩ := hz hh
    subst e1
    by_cases h2 : z.toInt = 2
    · obtain ⟨e3, e4⟩ := e2 h2
      subst e3; subst e4
      omega
    · omega
  · omega
theorem ff_post {z r : Int32} (h : r = if z.toInt = 0 then -11 else if z.toInt = 2 then 0 else -13) : (z.toInt = 0 ∧ r = -11) ∨ ((z.toInt ≠ 0 ∧ z.toInt = 2) ∧ r = 0) ∨ ((z.toInt ≠ 0 ∧ z.toInt ≠ 2) ∧ r = -13) := by
  by_cases h0 : z.toInt = 0
  · rw [if_pos h0] at h; exact Or.inl ⟨h0, h⟩
  · rw [if_neg h0] at h
    by_cases h2 : z.toInt = 2
    · rw [if_pos h2] at h; exact Or.inr (Or.inl ⟨⟨h0, h2⟩, h⟩)
    · rw [if_neg h2] at h; exact Or.inr (Or.inr ⟨⟨h0, h2⟩, h⟩)
theorem getD4L {a : Nat → Int64} {k : Nat} (h : k < 4) : [a 0, a 1, a 2, a 3].getD k 0 = a k := by
  match k, h with
  | 0, _ => rfl
  | 1, _ => rfl
  | 2, _ => rfl
  | 3, _ => rfl
  | k + 4, h => omega
