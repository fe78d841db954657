/-! counting: the bits of a mask by bytes, what is named by none, what lies in bags -/
def cntN (f : Nat → Bool) : Nat → Nat
  | 0 => 0
  | n + 1 => cntN f n + (if f n = true then 1 else 0)
theorem cntN_le (f : Nat → Bool) : ∀ n : Nat, cntN f n ≤ n
  | 0 => Nat.le_refl 0
  | n + 1 => by
    have := cntN_le f n
    show cntN f n + (if f n = true then 1 else 0) ≤ n + 1
    split <;> omega
theorem cntN_not (f : Nat → Bool) : ∀ n : Nat, cntN f n + cntN (fun k => !f k) n = n
  | 0 => rfl
  | n + 1 => by
    have := cntN_not f n
    show cntN f n + (if f n = true then 1 else 0) + (cntN (fun k => !f k) n + (if (!f n) = true then 1 else 0)) = n + 1
    cases f n <;> simp <;> omega
theorem cntN_congr {f g : Nat → Bool} : ∀ n : Nat, (∀ k, k < n → f k = g k) → cntN f n = cntN g n
  | 0, _ => rfl
  | n + 1, h => by
    show cntN f n + (if f n = true then 1 else 0) = cntN g n + (if g n = true then 1 else 0)
    rw [cntN_congr n (fun k hk => h k (by omega)), h n (by omega)]
theorem cntN_more {f : Nat → Bool} {n : Nat} : ∀ d : Nat, (∀ k, n ≤ k → k < n + d → f k = false) → cntN f (n + d) = cntN f n
  | 0, _ => rfl
  | d + 1, h => by
    show cntN f (n + d) + (if f (n + d) = true then 1 else 0) = cntN f n
    rw [cntN_more d (fun k h1 h2 => h k h1 (by omega)), h (n + d) (by omega) (by omega)]; rfl
def pop8 (b : Nat) : Nat := b % 2 + b / 2 % 2 + b / 4 % 2 + b / 8 % 2 + b / 16 % 2 + b / 32 % 2 + b / 64 % 2 + b / 128 % 2
theorem land_lane {a c : Nat} (y z : Nat) (ha : a < 256) (hc : c < 256) : (a + 256 * y) &&& (c + 256 * z) = (a &&& c) + 256 * (y &&& z) := by
  have e1 : a + 256 * y = 2 ^ 8 * y + a := by omega
  have e2 : c + 256 * z = 2 ^ 8 * z + c := by omega
  have e3 : (a &&& c) + 256 * (y &&& z) = 2 ^ 8 * (y &&& z) + (a &&& c) := by omega
  have hac : (a &&& c) < 2 ^ 8 := Nat.and_lt_two_pow a hc
  rw [e1, e2, e3]
  apply Nat.eq_of_testBit_eq
  intro j
  rw [Nat.testBit_and, Nat.testBit_two_pow_mul_add _ (show a < 2 ^ 8 from ha), Nat.testBit_two_pow_mul_add _ (show c < 2 ^ 8 from hc), Nat.testBit_two_pow_mul_add _ hac]
  split
  · rw [Nat.testBit_and]
  · rw [Nat.testBit_and]
theorem land_lanes {a b c d a' b' c' d' : Nat} (ha : a < 256) (hb : b < 256) (hc : c < 256) (ha' : a' < 256) (hb' : b' < 256) (hc' : c' < 256) : (a + 256 * (b + 256 * (c + 256 * d))) &&& (a' + 256 * (b' + 256 * (c' + 256 * d'))) = (a &&& a') + 256 * ((b &&& b') + 256 * ((c &&& c') + 256 * (d &&& d'))) := by
  rw [land_lane _ _ ha ha', land_lane _ _ hb hb', land_lane _ _ hc hc']
def s1B (b : Nat) : Nat := b - (b / 2 &&& 85)
def s2B (t : Nat) : Nat := (t &&& 51) + (t / 4 &&& 51)
theorem b1_f : ∀ b : Fin 256, (b.val / 2 &&& 85) ≤ b.val ∧ s1B b.val < 256 ∧ (∀ e : Fin 2, (b.val / 2 + 128 * e.val) &&& 85 = (b.val / 2 &&& 85)) ∧ (∀ e : Fin 4, (b.val / 4 + 64 * e.val) &&& 51 = (b.val / 4 &&& 51)) := by decide +kernel
theorem b2_f : ∀ b : Fin 256, s2B (s1B b.val) ≤ 68 ∧ s2B (s1B b.val) % 16 ≤ 4 ∧ (∀ e : Fin 5, (s2B (s1B b.val) + s2B (s1B b.val) / 16 + 16 * e.val) &&& 15 = pop8 b.val) ∧ pop8 b.val ≤ 8 := by decide +kernel
theorem b1_n {b : Nat} (h : b < 256) : (b / 2 &&& 85) ≤ b ∧ s1B b < 256 ∧ (∀ e : Nat, e < 2 → (b / 2 + 128 * e) &&& 85 = (b / 2 &&& 85)) ∧ (∀ e : Nat, e < 4 → (b / 4 + 64 * e) &&& 51 = (b / 4 &&& 51)) :=
  ⟨(b1_f ⟨b, h⟩).1, (b1_f ⟨b, h⟩).2.1, fun e he => (b1_f ⟨b, h⟩).2.2.1 ⟨e, he⟩, fun e he => (b1_f ⟨b, h⟩).2.2.2 ⟨e, he⟩⟩
theorem b2_n {b : Nat} (h : b < 256) : s2B (s1B b) ≤ 68 ∧ s2B (s1B b) % 16 ≤ 4 ∧ (∀ e : Nat, e < 5 → (s2B (s1B b) + s2B (s1B b) / 16 + 16 * e) &&& 15 = pop8 b) ∧ pop8 b ≤ 8 :=
  ⟨(b2_f ⟨b, h⟩).1, (b2_f ⟨b, h⟩).2.1, fun e he => (b2_f ⟨b, h⟩).2.2.1 ⟨e, he⟩, (b2_f ⟨b, h⟩).2.2.2⟩
def L4 (a b c d : Nat) : Nat := a + 256 * (b + 256 * (c + 256 * d))
theorem step1_n {a b c : Nat} (ha : a < 256) (hb : b < 256) (hc : c < 256) : (L4 a b c 0 / 2 &&& 1431655765) = L4 (a / 2 &&& 85) (b / 2 &&& 85) (c / 2 &&& 85) 0 := by
  have e : L4 a b c 0 / 2 = (a / 2 + 128 * (b % 2)) + 256 * ((b / 2 + 128 * (c % 2)) + 256 * ((c / 2 + 128 * 0) + 256 * 0)) := by unfold L4; omega
  rw [e, show (1431655765 : Nat) = 85 + 256 * (85 + 256 * (85 + 256 * 85)) from rfl, land_lanes (by omega) (by omega) (by omega) (by omega) (by omega) (by omega), (b1_n ha).2.2.1 _ (by omega), (b1_n hb).2.2.1 _ (by omega), (b1_n hc).2.2.1 _ (by omega), Nat.zero_and]
  rfl
theorem step1_s {a b c : Nat} (ha : a < 256) (hb : b < 256) (hc : c < 256) : L4 a b c 0 - (L4 a b c 0 / 2 &&& 1431655765) = L4 (s1B a) (s1B b) (s1B c) 0 ∧ (L4 a b c 0 / 2 &&& 1431655765) ≤ L4 a b c 0 := by
  rw [step1_n ha hb hc]
  have h1 := (b1_n ha).1
  have h2 := (b1_n hb).1
  have h3 := (b1_n hc).1
  unfold L4 s1B
  constructor <;> omega
theorem step2_n {a b c : Nat} (ha : a < 256) (hb : b < 256) (hc : c < 256) : (L4 a b c 0 &&& 858993459) = L4 (a &&& 51) (b &&& 51) (c &&& 51) 0 ∧ (L4 a b c 0 / 4 &&& 858993459) = L4 (a / 4 &&& 51) (b / 4 &&& 51) (c / 4 &&& 51) 0 := by
  constructor
  · unfold L4
    rw [show (858993459 : Nat) = 51 + 256 * (51 + 256 * (51 + 256 * 51)) from rfl, land_lanes ha hb hc (by omega) (by omega) (by omega), Nat.zero_and]
  · have e : L4 a b c 0 / 4 = (a / 4 + 64 * (b % 4)) + 256 * ((b / 4 + 64 * (c % 4)) + 256 * ((c / 4 + 64 * 0) + 256 * 0)) := by unfold L4; omega
    rw [e, show (858993459 : Nat) = 51 + 256 * (51 + 256 * (51 + 256 * 51)) from rfl, land_lanes (by omega) (by omega) (by omega) (by omega) (by omega) (by omega), (b1_n ha).2.2.2 _ (by omega), (b1_n hb).2.2.2 _ (by omega), (b1_n hc).2.2.2 _ (by omega), Nat.zero_and]
    rfl
theorem step3_n {a b c : Nat} (ha : a < 256) (hb : b < 256) (hc : c < 256) : (L4 (s2B (s1B a)) (s2B (s1B b)) (s2B (s1B c)) 0 + L4 (s2B (s1B a)) (s2B (s1B b)) (s2B (s1B c)) 0 / 16 &&& 252645135) = L4 (pop8 a) (pop8 b) (pop8 c) 0 := by
  have xa := b2_n ha
  have xb := b2_n hb
  have xc := b2_n hc
  generalize hu : s2B (s1B a) = u at *
  generalize hv : s2B (s1B b) = v at *
  generalize hw : s2B (s1B c) = w at *
  have e : L4 u v w 0 + L4 u v w 0 / 16 = (u + u / 16 + 16 * (v % 16)) + 256 * ((v + v / 16 + 16 * (w % 16)) + 256 * ((w + w / 16 + 16 * 0) + 256 * 0)) := by unfold L4; omega
  rw [e, show (252645135 : Nat) = 15 + 256 * (15 + 256 * (15 + 256 * 15)) from rfl, land_lanes (by omega) (by omega) (by omega) (by omega) (by omega) (by omega), xa.2.2.1 _ (by omega), xb.2.2.1 _ (by omega), xc.2.2.1 _ (by omega), Nat.zero_and]
  rfl
theorem ush_toNat (x : Int32) (k : Nat) (hk : k < 32) (kk : Int32) (e : kk.toUInt32 &&& Int32.toUInt32 31 = UInt32.ofNat k) : (sp_ush x kk).toUInt32.toNat = x.toUInt32.toNat / 2 ^ k := by
  unfold sp_ush
  rw [e, UInt32.toUInt32_toInt32, UInt32.toNat_shiftRight, Nat.shiftRight_eq_div_pow]
  congr 2
  rw [UInt32.toNat_ofNat', Nat.mod_eq_of_lt (show k < 2 ^ 32 by omega)]
  exact Nat.mod_eq_of_lt hk
theorem bits_L4 (x : Int32) {a b c : Nat} (ha : a < 256) (hb : b < 256) (hc : c < 256) (hx : x.toUInt32.toNat = L4 a b c 0) : (sp_bits x).toUInt32.toNat = pop8 a + pop8 b + pop8 c := by
  have b1 := step1_s ha hb hc
  have t1 := (b1_n ha).2.1
  have t2 := (b1_n hb).2.1
  have t3 := (b1_n hc).2.1
  have b2 := step2_n t1 t2 t3
  have b3 := step3_n ha hb hc
  have ua := b2_n ha
  have ub := b2_n hb
  have uc := b2_n hc
  have n1 : (sp_ush x 1 &&& 1431655765).toUInt32.toNat = (L4 a b c 0 / 2 &&& 1431655765) := by
    rw [Int32.toUInt32_and, UInt32.toNat_and, ush_toNat x 1 (by omega) 1 rfl, hx]; rfl
  have n2 : (x - (sp_ush x 1 &&& 1431655765)).toUInt32.toNat = L4 (s1B a) (s1B b) (s1B c) 0 := by
    rw [Int32.toUInt32_sub, UInt32.toNat_sub_of_le _ _ (by rw [UInt32.le_iff_toNat_le, n1, hx]; exact b1.2), n1, hx]; exact b1.1
  have n3 : ((x - (sp_ush x 1 &&& 1431655765)) &&& 858993459).toUInt32.toNat = L4 (s1B a &&& 51) (s1B b &&& 51) (s1B c &&& 51) 0 := by
    rw [Int32.toUInt32_and, UInt32.toNat_and, n2]; exact b2.1
  have n4 : (sp_ush (x - (sp_ush x 1 &&& 1431655765)) 2 &&& 858993459).toUInt32.toNat = L4 (s1B a / 4 &&& 51) (s1B b / 4 &&& 51) (s1B c / 4 &&& 51) 0 := by
    rw [Int32.toUInt32_and, UInt32.toNat_and, ush_toNat _ 2 (by omega) 2 rfl, n2]; exact b2.2
  have n5 : (((x - (sp_ush x 1 &&& 1431655765)) &&& 858993459) + (sp_ush (x - (sp_ush x 1 &&& 1431655765)) 2 &&& 858993459)).toUInt32.toNat = L4 (s2B (s1B a)) (s2B (s1B b)) (s2B (s1B c)) 0 := by
    have e : L4 (s1B a &&& 51) (s1B b &&& 51) (s1B c &&& 51) 0 + L4 (s1B a / 4 &&& 51) (s1B b / 4 &&& 51) (s1B c / 4 &&& 51) 0 = L4 (s2B (s1B a)) (s2B (s1B b)) (s2B (s1B c)) 0 := by unfold L4 s2B; omega
    rw [Int32.toUInt32_add, UInt32.toNat_add, n3, n4, e]
    refine Nat.mod_eq_of_lt ?_
    have := ua.1; have := ub.1; have := uc.1
    unfold L4; omega
  generalize hB : ((x - (sp_ush x 1 &&& 1431655765)) &&& 858993459) + (sp_ush (x - (sp_ush x 1 &&& 1431655765)) 2 &&& 858993459) = B at n5
  have n6 : ((B + sp_ush B 4) &&& 252645135).toUInt32.toNat = L4 (pop8 a) (pop8 b) (pop8 c) 0 := by
    rw [Int32.toUInt32_and, UInt32.toNat_and, Int32.toUInt32_add, UInt32.toNat_add, ush_toNat _ 4 (by omega) 4 rfl, n5, Nat.mod_eq_of_lt (by have := ua.1; have := ub.1; have := uc.1; unfold L4; omega)]
    exact b3
  generalize hC : (B + sp_ush B 4) &&& 252645135 = C at n6
  have p1 := ua.2.2.2
  have p2 := ub.2.2.2
  have p3 := uc.2.2.2
  have n7 : (C + sp_ush C 8).toUInt32.toNat = L4 (pop8 a + pop8 b) (pop8 b + pop8 c) (pop8 c) 0 := by
    rw [Int32.toUInt32_add, UInt32.toNat_add, ush_toNat _ 8 (by omega) 8 rfl, n6]
    unfold L4; omega
  generalize hD : C + sp_ush C 8 = D at n7
  have n8 : (D + sp_ush D 16).toUInt32.toNat = L4 (pop8 a + pop8 b + pop8 c) (pop8 b + pop8 c) (pop8 c) 0 := by
    rw [Int32.toUInt32_add, UInt32.toNat_add, ush_toNat _ 16 (by omega) 16 rfl, n7, show (2 : Nat) ^ 16 = 65536 from rfl]
    have q : L4 (pop8 a + pop8 b) (pop8 b + pop8 c) (pop8 c) 0 / 65536 = pop8 c := by
      have : L4 (pop8 a + pop8 b) (pop8 b + pop8 c) (pop8 c) 0 = (pop8 a + pop8 b + 256 * (pop8 b + pop8 c)) + 65536 * pop8 c := by unfold L4; omega
      rw [this, Nat.add_mul_div_left _ _ (by omega), Nat.div_eq_of_lt (by omega), Nat.zero_add]
    rw [q]
    unfold L4; omega
  generalize hE : D + sp_ush D 16 = E at n8
  have e : sp_bits x = E &&& 63 := by
    unfold sp_bits
    simp only []
    rw [hB, hC, hD, hE]
  rw [e, Int32.toUInt32_and, UInt32.toNat_and, n8, show (Int32.toUInt32 63).toNat = 2 ^ 6 - 1 from rfl, Nat.and_two_pow_sub_one_eq_mod]
  unfold L4; omega
def mskA (x : Int32) : Nat := x.toUInt32.toNat
theorem cnt24 (m : Nat) : cntN (fun k => m.testBit k) 24 = pop8 (m % 256) + pop8 (m / 256 % 256) + pop8 (m / 65536 % 256) := by
  have tb : ∀ k : Nat, (if (m.testBit k) = true then 1 else 0) = m / 2 ^ k % 2 := by
    intro k
    rw [Nat.testBit_eq_decide_div_mod_eq]
    have : m / 2 ^ k % 2 < 2 := Nat.mod_lt _ (by omega)
    by_cases h : m / 2 ^ k % 2 = 1
    · rw [if_pos (by simpa using h), h]
    · rw [if_neg (by simpa using h)]; omega
  simp only [cntN, tb]
  have f : ∀ i : Nat, i < 8 → m % 256 / 2 ^ i % 2 = m / 2 ^ i % 2 ∧ m / 256 % 256 / 2 ^ i % 2 = m / 2 ^ (8 + i) % 2 ∧ m / 65536 % 256 / 2 ^ i % 2 = m / 2 ^ (16 + i) % 2 := by
    intro i hi
    have g : ∀ w : Nat, w % 256 / 2 ^ i % 2 = w / 2 ^ i % 2 := by
      intro w
      have h1 : (w % 2 ^ 8).testBit i = w.testBit i := by rw [Nat.testBit_mod_two_pow]; simp [hi]
      rw [Nat.testBit_eq_decide_div_mod_eq, Nat.testBit_eq_decide_div_mod_eq] at h1
      have h2 : w % 2 ^ 8 / 2 ^ i % 2 < 2 := Nat.mod_lt _ (by omega)
      have h3 : w / 2 ^ i % 2 < 2 := Nat.mod_lt _ (by omega)
      have h4 : (w % 2 ^ 8 / 2 ^ i % 2 = 1) ↔ (w / 2 ^ i % 2 = 1) := by simpa using h1
      show w % 2 ^ 8 / 2 ^ i % 2 = w / 2 ^ i % 2
      omega
    refine ⟨g m, ?_, ?_⟩
    · rw [g, Nat.pow_add, ← Nat.div_div_eq_div_mul]
    · rw [g, Nat.pow_add, ← Nat.div_div_eq_div_mul]
  have f0 := f 0 (by omega); have f1 := f 1 (by omega); have f2 := f 2 (by omega); have f3 := f 3 (by omega); have f4 := f 4 (by omega); have f5 := f 5 (by omega); have f6 := f 6 (by omega); have f7 := f 7 (by omega)
  simp only [Nat.pow_zero, Nat.div_one, Nat.reducePow, Nat.reduceAdd] at *
  unfold pop8
  rw [f0.1, f1.1, f2.1, f3.1, f4.1, f5.1, f6.1, f7.1, f0.2.1, f1.2.1, f2.2.1, f3.2.1, f4.2.1, f5.2.1, f6.2.1, f7.2.1, f0.2.2, f1.2.2, f2.2.2, f3.2.2, f4.2.2, f5.2.2, f6.2.2, f7.2.2]
  omega
theorem bits_cnt {x : Int32} (h : mskA x < 16777216) : (sp_bits x).toInt = (cntN (fun k => (mskA x).testBit k) 24 : Nat) := by
  have e : x.toUInt32.toNat = L4 (mskA x % 256) (mskA x / 256 % 256) (mskA x / 65536 % 256) 0 := by
    show mskA x = _
    unfold L4; omega
  have k := bits_L4 x (Nat.mod_lt _ (by omega)) (Nat.mod_lt _ (by omega)) (Nat.mod_lt _ (by omega)) e
  rw [← cnt24] at k
  have b := cntN_le (fun k => (mskA x).testBit k) 24
  generalize cntN (fun k => (mskA x).testBit k) 24 = N at k b ⊢
  have hh : (sp_bits x).toInt = (((sp_bits x).toUInt32.toNat : Nat) : Int).bmod (2 ^ 32) := by
    rw [← Int32.toInt_toBitVec, BitVec.toInt_eq_toNat_bmod]; rfl
  rw [hh, k]
  exact Int.bmod_eq_of_le (by omega) (by omega)
/-- who is named by one of the first n -/
def nmdB (fc fd : Nat → Int32) : Nat → Nat → Bool
  | 0, _ => false
  | n + 1, k => nmdB fc fd n k || decide ((fc n).toInt = (k : Int)) || decide ((fd n).toInt = (k : Int))
def mskI (fc fd : Nat → Int32) (n : Nat) (x : Int32) : Prop := mskA x < 16777216 ∧ ∀ k : Nat, k < 24 → (mskA x).testBit k = nmdB fc fd n k
theorem msk_0 (fc fd : Nat → Int32) : mskI fc fd 0 0 := ⟨by decide, fun k _ => by show (0 : Nat).testBit k = false; exact Nat.zero_testBit k⟩
theorem one_f : ∀ a : Fin 24, ((1 : Int32) <<< (Int32.ofNat a.val &&& 31)).toUInt32.toNat = 2 ^ a.val := by decide +kernel
theorem one_n {c : Int32} (h : 0 ≤ c.toInt ∧ c.toInt < 24) : ((1 : Int32) <<< (c &&& 31)).toUInt32.toNat = 2 ^ c.toInt.toNat := by
  have e : c = Int32.ofNat c.toInt.toNat := by
    apply Int32.toInt.inj
    rw [Int32.toInt_ofNat_of_lt (by omega)]; omega
  have k := one_f ⟨c.toInt.toNat, by omega⟩
  rw [← e] at k; exact k
theorem msk_or {x c : Int32} (hx : mskA x < 16777216) (h : 0 ≤ c.toInt ∧ c.toInt < 24) : mskA (x ||| ((1 : Int32) <<< (c &&& 31))) < 16777216 ∧ ∀ k : Nat, (mskA (x ||| ((1 : Int32) <<< (c &&& 31)))).testBit k = ((mskA x).testBit k || decide (c.toInt = (k : Int))) := by
  have e : mskA (x ||| ((1 : Int32) <<< (c &&& 31))) = mskA x ||| 2 ^ c.toInt.toNat := by
    unfold mskA
    rw [Int32.toUInt32_or, UInt32.toNat_or, one_n h]
  rw [e]
  refine ⟨?_, ?_⟩
  · exact Nat.or_lt_two_pow (n := 24) hx (Nat.pow_lt_pow_right (by omega) (by omega))
  · intro k
    rw [Nat.testBit_or, Nat.testBit_two_pow]
    congr 1
    exact decide_eq_decide.mpr (show c.toInt.toNat = k ↔ c.toInt = (k : Int) by omega)
theorem msk_step {fc fd : Nat → Int32} {n : Nat} {x x1 x2 : Int32} (h : mskI fc fd n x) (h1 : ((fc n).toInt = -1 ∧ x1 = x) ∨ ((0 ≤ (fc n).toInt ∧ (fc n).toInt < 24) ∧ x1 = (x ||| ((1 : Int32) <<< (fc n &&& 31))))) (h2 : ((fd n).toInt = -1 ∧ x2 = x1) ∨ ((0 ≤ (fd n).toInt ∧ (fd n).toInt < 24) ∧ x2 = (x1 ||| ((1 : Int32) <<< (fd n &&& 31))))) : mskI fc fd (n + 1) x2 := by
  have a : mskA x1 < 16777216 ∧ ∀ k : Nat, k < 24 → (mskA x1).testBit k = (nmdB fc fd n k || decide ((fc n).toInt = (k : Int))) := by
    rcases h1 with ⟨a, rfl⟩ | ⟨a, rfl⟩
    · refine ⟨h.1, fun k hk => ?_⟩
      rw [h.2 k hk, decide_eq_false (show ¬ (fc n).toInt = (k : Int) by omega), Bool.or_false]
    · have b := msk_or h.1 a
      refine ⟨b.1, fun k hk => ?_⟩
      rw [b.2, h.2 k hk]
  rcases h2 with ⟨b, rfl⟩ | ⟨b, rfl⟩
  · refine ⟨a.1, fun k hk => ?_⟩
    show _ = (nmdB fc fd n k || decide ((fc n).toInt = (k : Int)) || decide ((fd n).toInt = (k : Int)))
    rw [a.2 k hk, decide_eq_false (show ¬ (fd n).toInt = (k : Int) by omega), Bool.or_false]
  · have c := msk_or a.1 b
    refine ⟨c.1, fun k hk => ?_⟩
    show _ = (nmdB fc fd n k || decide ((fc n).toInt = (k : Int)) || decide ((fd n).toInt = (k : Int)))
    rw [c.2, a.2 k hk]
theorem nmd_far {fc fd : Nat → Int32} : ∀ n : Nat, (∀ j : Nat, j < n → (fc j).toInt < (j : Int) ∧ (fd j).toInt < (j : Int)) → ∀ k : Nat, n ≤ k → nmdB fc fd n k = false
  | 0, _, _, _ => rfl
  | n + 1, h, k, hk => by
    show (nmdB fc fd n k || decide ((fc n).toInt = (k : Int)) || decide ((fd n).toInt = (k : Int))) = false
    have a := h n (by omega)
    rw [nmd_far n (fun j hj => h j (by omega)) k (by omega), decide_eq_false (show ¬ (fc n).toInt = (k : Int) by omega), decide_eq_false (show ¬ (fd n).toInt = (k : Int) by omega)]; rfl
/-- how many of n clauses none names -/
def alN (fc fd : Nat → Int32) (n : Nat) : Nat := cntN (fun k => !nmdB fc fd n k) n
theorem al_bits {fc fd : Nat → Int32} {n : Nat} {x : Int32} (h : mskI fc fd n x) (hn : n ≤ 24) (ho : ∀ j : Nat, j < n → (fc j).toInt < (j : Int) ∧ (fd j).toInt < (j : Int)) : (n : Int) - (sp_bits x).toInt = (alN fc fd n : Nat) ∧ 0 ≤ (sp_bits x).toInt ∧ (sp_bits x).toInt ≤ 24 := by
  rw [bits_cnt h.1, cntN_congr 24 h.2]
  have e := cntN_more (f := fun k => nmdB fc fd n k) (n := n) (24 - n) (fun k h1 _ => nmd_far n ho k h1)
  rw [show n + (24 - n) = 24 by omega] at e
  have e2 := cntN_not (fun k => nmdB fc fd n k) n
  have e3 := cntN_le (fun k => nmdB fc fd n k) n
  have e4 : cntN (nmdB fc fd n) 24 = cntN (nmdB fc fd n) n := e
  have e5 : cntN (nmdB fc fd n) n + alN fc fd n = n := e2
  have e6 : cntN (nmdB fc fd n) n ≤ n := e3
  rw [e4]
  omega
theorem nmd_congr {fc fd gc gd : Nat → Int32} : ∀ n : Nat, ∀ k : Nat, (∀ j : Nat, j < n → (((fc j).toInt = (k : Int)) ↔ ((gc j).toInt = (k : Int))) ∧ (((fd j).toInt = (k : Int)) ↔ ((gd j).toInt = (k : Int)))) → nmdB fc fd n k = nmdB gc gd n k
  | 0, _, _ => rfl
  | n + 1, k, h => by
    show (nmdB fc fd n k || decide ((fc n).toInt = (k : Int)) || decide ((fd n).toInt = (k : Int))) = (nmdB gc gd n k || decide ((gc n).toInt = (k : Int)) || decide ((gd n).toInt = (k : Int)))
    rw [nmd_congr n k (fun j hj => h j (by omega)), decide_eq_decide.mpr (h n (by omega)).1, decide_eq_decide.mpr (h n (by omega)).2]
/-- how many of the numbers in the bags are clauses: bag by bag -/
def lieN (has : Int32 → Prop) [DecidablePred has] (sz : Nat → Nat) (nums : Nat → Nat → Int32) : Nat → Nat
  | 0 => 0
  | b + 1 => lieN has sz nums b + cntN (fun i => decide (has (nums b i))) (sz b)
theorem lieN_congr {has : Int32 → Prop} [DecidablePred has] {sz sz' : Nat → Nat} {nums nums' : Nat → Nat → Int32} : ∀ n : Nat, (∀ b : Nat, b < n → sz b = sz' b ∧ ∀ i : Nat, i < sz b → nums b i = nums' b i) → lieN has sz nums n = lieN has sz' nums' n
  | 0, _ => rfl
  | n + 1, h => by
    show lieN has sz nums n + cntN _ (sz n) = lieN has sz' nums' n + cntN _ (sz' n)
    rw [lieN_congr n (fun b hb => h b (by omega)), (h n (by omega)).1]
    congr 1
    refine cntN_congr _ (fun k hk => ?_)
    rw [(h n (by omega)).2 k (by rw [(h n (by omega)).1]; exact hk)]
/-- a clause names one that stands ahead of it, or none -/
def nmC (n : Int32) (fc fd : Nat → Int32) : Prop := ∀ j : Nat, (j : Int) < n.toInt → ((fc j).toInt = -1 ∨ 0 ≤ (fc j).toInt ∧ (fc j).toInt < (j : Int)) ∧ ((fd j).toInt = -1 ∨ 0 ≤ (fd j).toInt ∧ (fd j).toInt < (j : Int))
theorem un_0 {n : Int32} {fc fd : Nat → Int32} : nmC n fc fd → mskI fc fd (0 : Int32).toNatClampNeg 0 := fun _ => msk_0 fc fd
theorem un_step {n ii ii' nm x1 x2 : Int32} {fc fd : Nat → Int32} (h : nmC n fc fd → mskI fc fd ii.toNatClampNeg nm) (h0 : 0 ≤ ii.toInt) (hn : ii.toInt < n.toInt) (h24 : n.toInt ≤ 24) (hi : ii'.toInt = ii.toInt + 1) (a : (¬ (fc ii.toNatClampNeg).toInt = -1 → x1 = (nm ||| ((1 : Int32) <<< (fc ii.toNatClampNeg &&& 31)))) ∧ ((fc ii.toNatClampNeg).toInt = -1 → x1 = nm)) (b : (¬ (fd ii.toNatClampNeg).toInt = -1 → x2 = (x1 ||| ((1 : Int32) <<< (fd ii.toNatClampNeg &&& 31)))) ∧ ((fd ii.toNatClampNeg).toInt = -1 → x2 = x1)) : nmC n fc fd → mskI fc fd ii'.toNatClampNeg x2 := by
  intro hC
  have t := tn h0
  have t2 := tnS h0 hi
  have c := hC ii.toNatClampNeg (by omega)
  rw [t2]
  refine msk_step (x1 := x1) (h hC) ?_ ?_
  · rcases c.1 with e | e
    · exact Or.inl ⟨e, a.2 e⟩
    · exact Or.inr ⟨⟨e.1, by omega⟩, a.1 (by omega)⟩
  · rcases c.2 with e | e
    · exact Or.inl ⟨e, b.2 e⟩
    · exact Or.inr ⟨⟨e.1, by omega⟩, b.1 (by omega)⟩
theorem un_end {n ii nm : Int32} {fc fd : Nat → Int32} (h : nmC n fc fd → mskI fc fd ii.toNatClampNeg nm) (hn : 0 ≤ n.toInt ∧ n.toInt ≤ 24) (e : ii.toInt = n.toInt) : nmC n fc fd → (n - sp_bits nm).toInt = (alN fc fd n.toNatClampNeg : Nat) := by
  intro hC
  have e2 : ii = n := Int32.toInt_inj.1 e
  subst e2
  have t := tn hn.1
  have k := al_bits (h hC) (by omega) (fun j hj => by
    have := hC j (by omega)
    omega)
  rw [fb_subI (by omega) (by omega), ← t]
  exact k.1
/-- how many of the first k are clauses -/
def hasN (n : Int32) (f : Nat → Int32) (k : Nat) : Nat := cntN (fun i => decide (0 ≤ (f i).toInt ∧ (f i).toInt < n.toInt)) k
theorem has_0 {n : Int32} {f : Nat → Int32} : hasN n f (0 : Int32).toNatClampNeg = 0 := rfl
theorem has_le (n : Int32) (f : Nat → Int32) (k : Nat) : hasN n f k ≤ k := cntN_le _ k
theorem has_step {n ii ii' al al' z : Int32} {f : Nat → Int32} {A : Nat} (h : al.toInt = ((A + hasN n f ii.toNatClampNeg : Nat) : Int)) (h0 : 0 ≤ ii.toInt) (hi : ii'.toInt = ii.toInt + 1) (hz : z = f ii.toNatClampNeg) (ha : ((0 ≤ z.toInt ∧ z.toInt < n.toInt) ∧ al'.toInt = al.toInt + 1) ∨ (¬ (0 ≤ z.toInt ∧ z.toInt < n.toInt) ∧ al' = al)) : al'.toInt = ((A + hasN n f ii'.toNatClampNeg : Nat) : Int) := by
  have t2 := tnS h0 hi
  subst hz
  rw [t2]
  show al'.toInt = ((A + (cntN _ ii.toNatClampNeg + (if decide (0 ≤ (f ii.toNatClampNeg).toInt ∧ (f ii.toNatClampNeg).toInt < n.toInt) = true then 1 else 0)) : Nat) : Int)
  have h2 : al.toInt = ((A + cntN (fun i => decide (0 ≤ (f i).toInt ∧ (f i).toInt < n.toInt)) ii.toNatClampNeg : Nat) : Int) := h
  rcases ha with ⟨a, b⟩ | ⟨a, b⟩
  · rw [if_pos (decide_eq_true a)]; omega
  · rw [if_neg (fun h9 => a (of_decide_eq_true h9)), b]; omega
def lie3 (n n0 n1 n2 : Int32) (f0 f1 f2 : Nat → Int32) : Nat := hasN n f0 n0.toNatClampNeg + hasN n f1 n1.toNatClampNeg + hasN n f2 n2.toNatClampNeg
/-- the same, of the reference's row -/
def lieR (n : Int32) (gn g : Nat → Int32) : Nat → Nat
  | 0 => 0
  | b + 1 => lieR n gn g b + hasN n (fun i => g (12 * b + i)) (gn b).toNatClampNeg
theorem lieR_le (n : Int32) (gn g : Nat → Int32) (h : ∀ b : Nat, b < 3 → (gn b).toInt ≤ 12) : ∀ b : Nat, b ≤ 3 → lieR n gn g b ≤ 12 * b
  | 0, _ => Nat.le_refl 0
  | b + 1, hb => by
    have a := lieR_le n gn g h b (by omega)
    have c := has_le n (fun i => g (12 * b + i)) (gn b).toNatClampNeg
    have d := h b (by omega)
    show lieR n gn g b + _ ≤ _
    by_cases e : 0 ≤ (gn b).toInt
    · have := tn e; omega
    · have : (gn b).toNatClampNeg = 0 := by rw [← Int32.toNat_toInt]; omega
      omega
/-- what count answers -/
def ctQ (n l0 : Int32) (A : Prop) (al lie : Nat) (w r : Int32) : Prop := (w.toInt = 0 → r = n) ∧ (w.toInt = 1 → r = l0) ∧ (w.toInt = 2 → A → r.toInt = (al : Int)) ∧ (w.toInt = 3 → r.toInt = (lie : Int)) ∧ (¬ (0 ≤ w.toInt ∧ w.toInt ≤ 3) → r.toInt = -2)
theorem ctQ_uniq {n l0 : Int32} {A : Prop} {al al' lie lie' : Nat} {w r r' : Int32} (h : ctQ n l0 A al lie w r) (h' : ctQ n l0 True al' lie' w r') (a : A) (e1 : al = al') (e2 : lie = lie') : r = r' := by
  subst e1 e2
  obtain ⟨a0, a1, a2, a3, a4⟩ := h
  obtain ⟨b0, b1, b2, b3, b4⟩ := h'
  by_cases c : 0 ≤ w.toInt ∧ w.toInt ≤ 3
  · rcases (by omega : w.toInt = 0 ∨ w.toInt = 1 ∨ w.toInt = 2 ∨ w.toInt = 3) with e | e | e | e
    · rw [a0 e, b0 e]
    · rw [a1 e, b1 e]
    · exact Int32.toInt_inj.1 (by rw [a2 e a, b2 e trivial])
    · exact Int32.toInt_inj.1 (by rw [a3 e, b3 e])
  · exact Int32.toInt_inj.1 (by rw [a4 c, b4 c])
/-- what the reference's clause j names -/
def efC (fk fc : Nat → Int32) (j : Nat) : Int32 := if 1 ≤ (nmT (fk j).toNatClampNeg).toInt then fc j else -1
def efD (fk fd : Nat → Int32) (j : Nat) : Int32 := if (nmT (fk j).toNatClampNeg).toInt = 2 then fd j else -1
def nmV (fc fd : Nat → Int32) (n k : Nat) : Int32 := if nmdB fc fd n k = true then 1 else 0
theorem nmV_B (fc fd : Nat → Int32) (n k : Nat) : (nmV fc fd n k = 1 ∧ nmdB fc fd n k = true) ∨ (nmV fc fd n k = 0 ∧ nmdB fc fd n k = false) := by
  unfold nmV
  cases nmdB fc fd n k
  · exact Or.inr ⟨rfl, rfl⟩
  · exact Or.inl ⟨rfl, rfl⟩
theorem nm_step {fk fc fd : Nat → Int32} {y : Nat} {x is v : Int32} (h : is = nmV (efC fk fc) (efD fk fd) y x.toNatClampNeg) (hx : 0 ≤ x.toInt) (hv : (v = 1 ∧ ((1 ≤ (nmT (fk y).toNatClampNeg).toInt ∧ (fc y).toInt = x.toInt) ∨ (1 < (nmT (fk y).toNatClampNeg).toInt ∧ (fd y).toInt = x.toInt))) ∨ (v = 0 ∧ ¬ ((1 ≤ (nmT (fk y).toNatClampNeg).toInt ∧ (fc y).toInt = x.toInt) ∨ (1 < (nmT (fk y).toNatClampNeg).toInt ∧ (fd y).toInt = x.toInt)))) : (is ||| v) = nmV (efC fk fc) (efD fk fd) (y + 1) x.toNatClampNeg := by
  have t := tn hx
  have k2 := nmT_in (fk y).toNatClampNeg
  have eC : decide ((efC fk fc y).toInt = (x.toNatClampNeg : Int)) = decide (1 ≤ (nmT (fk y).toNatClampNeg).toInt ∧ (fc y).toInt = x.toInt) := by
    apply decide_eq_decide.mpr
    unfold efC
    split
    · omega
    · have : (-1 : Int32).toInt = -1 := by decide
      omega
  have eD : decide ((efD fk fd y).toInt = (x.toNatClampNeg : Int)) = decide (1 < (nmT (fk y).toNatClampNeg).toInt ∧ (fd y).toInt = x.toInt) := by
    apply decide_eq_decide.mpr
    unfold efD
    split
    · omega
    · have : (-1 : Int32).toInt = -1 := by decide
      omega
  have e : nmdB (efC fk fc) (efD fk fd) (y + 1) x.toNatClampNeg = (nmdB (efC fk fc) (efD fk fd) y x.toNatClampNeg || decide (1 ≤ (nmT (fk y).toNatClampNeg).toInt ∧ (fc y).toInt = x.toInt) || decide (1 < (nmT (fk y).toNatClampNeg).toInt ∧ (fd y).toInt = x.toInt)) := by
    show (_ || _ || _) = _
    rw [eC, eD]
  unfold nmV at h ⊢
  rw [e, h]
  rcases hv with ⟨rfl, a⟩ | ⟨rfl, a⟩
  · have : (decide (1 ≤ (nmT (fk y).toNatClampNeg).toInt ∧ (fc y).toInt = x.toInt) || decide (1 < (nmT (fk y).toNatClampNeg).toInt ∧ (fd y).toInt = x.toInt)) = true := by
      rcases a with a | a
      · rw [decide_eq_true a]; rfl
      · rw [decide_eq_true a, Bool.or_true]
    rw [Bool.or_assoc, this, Bool.or_true]
    cases nmdB (efC fk fc) (efD fk fd) y x.toNatClampNeg <;> decide
  · rw [decide_eq_false (fun h9 => a (Or.inl h9)), decide_eq_false (fun h9 => a (Or.inr h9)), Bool.or_false, Bool.or_false]
    cases nmdB (efC fk fc) (efD fk fd) y x.toNatClampNeg <;> decide
theorem al_step {fc fd : Nat → Int32} {n : Nat} {xx xx' al al' r : Int32} (h : al.toInt = (cntN (fun k => !nmdB fc fd n k) xx.toNatClampNeg : Nat)) (h0 : 0 ≤ xx.toInt) (hi : xx'.toInt = xx.toInt + 1) (hr : r = nmV fc fd n xx.toNatClampNeg) (ha : (r = 1 ∧ al' = al) ∨ (r = 0 ∧ al'.toInt = al.toInt + 1)) : al'.toInt = (cntN (fun k => !nmdB fc fd n k) xx'.toNatClampNeg : Nat) := by
  have t2 := tnS h0 hi
  rw [t2]
  show al'.toInt = ((cntN (fun k => !nmdB fc fd n k) xx.toNatClampNeg + (if (!nmdB fc fd n xx.toNatClampNeg) = true then 1 else 0) : Nat) : Int)
  rcases nmV_B fc fd n xx.toNatClampNeg with ⟨a, b⟩ | ⟨a, b⟩
  · rw [b, if_neg (by decide +kernel)]
    rcases ha with ⟨c, rfl⟩ | ⟨c, d⟩
    · rw [h]; rfl
    · rw [c, a] at hr; exact absurd hr (by decide +kernel)
  · rw [b, if_pos (by decide +kernel)]
    rcases ha with ⟨c, rfl⟩ | ⟨c, d⟩
    · rw [c, a] at hr; exact absurd hr (by decide +kernel)
    · rw [d, h]; rfl
