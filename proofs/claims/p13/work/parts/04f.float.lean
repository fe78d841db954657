/-- the datum of a double, of a float -/
def vD (x : UInt64) : FP.Core.Datum := FP.Core.decode FP.Core.b64 x.toNat
def vF (x : UInt32) : FP.Core.Datum := FP.Core.decode FP.Core.b32 x.toNat
theorem fm64 : FP.Core.b64.tails = 4503599627370496 ∧ FP.Core.b64.exps = 2048 ∧ FP.Core.b64.qmin = -1074 ∧ FP.Core.b64.qmax = 971 ∧ (2 : Nat) ^ FP.Core.b64.p = 9007199254740992 ∧ FP.Core.b64.p = 53 := by decide +kernel
theorem fm32 : FP.Core.b32.tails = 8388608 ∧ FP.Core.b32.exps = 256 ∧ FP.Core.b32.qmin = -149 ∧ FP.Core.b32.qmax = 104 ∧ (2 : Nat) ^ FP.Core.b32.p = 16777216 ∧ FP.Core.b32.p = 24 := by decide +kernel
theorem sg_b (s : Bool) : ∃ b : Nat, b ≤ 1 ∧ (b = 1 ↔ s = true) ∧ ∀ A : Nat, (if s = true then A else 0) = b * A := by
  cases s
  · exact ⟨0, by omega, by decide, fun A => by rw [if_neg (by decide +kernel), Nat.zero_mul]⟩
  · exact ⟨1, by omega, by decide, fun A => by rw [if_pos rfl, Nat.one_mul]⟩
theorem vD_bits {x : UInt64} {s : Bool} {c : Nat} {q : Int} (h : vD x = .fin s c q) : (c < 9007199254740992 ∧ -1074 ≤ q ∧ q ≤ 971 ∧ (c < 4503599627370496 → q = -1074)) ∧ x.toNat = (if s = true then 9223372036854775808 else 0) + (if c < 4503599627370496 then c else (q + 1074).toNat * 4503599627370496 + c) := by
  have hx : x.toNat < 18446744073709551616 := x.toNat_lt
  obtain ⟨t1, t2, t3, t4, t5, t6⟩ := fm64
  unfold vD FP.Core.decode FP.Core.fieldE FP.Core.fieldT FP.Core.fieldS at h
  rw [t1, t2, t3] at h
  generalize x.toNat = n at hx h ⊢
  split at h
  · split at h <;> cases h
  · rename_i h1
    split at h
    · rename_i h2
      injection h with e1 e2 e3
      subst e2 e3 e1
      refine ⟨⟨by omega, by omega, by omega, fun _ => rfl⟩, ?_⟩
      rw [if_pos (show n % 4503599627370496 < 4503599627370496 by omega)]
      by_cases e : n / 4503599627370496 / 2048 % 2 = 1
      · rw [if_pos (by rw [e]; rfl)]; omega
      · rw [if_neg (fun h9 => e (eq_of_beq h9))]; omega
    · rename_i h2
      injection h with e1 e2 e3
      subst e2 e3 e1
      refine ⟨⟨by omega, by omega, by omega, fun h9 => absurd h9 (by omega)⟩, ?_⟩
      rw [if_neg (show ¬ 4503599627370496 + n % 4503599627370496 < 4503599627370496 by omega)]
      by_cases e : n / 4503599627370496 / 2048 % 2 = 1
      · rw [if_pos (by rw [e]; rfl)]; omega
      · rw [if_neg (fun h9 => e (eq_of_beq h9))]; omega
theorem vF_bits {x : UInt32} {s : Bool} {c : Nat} {q : Int} (h : vF x = .fin s c q) : (c < 16777216 ∧ -149 ≤ q ∧ q ≤ 104 ∧ (c < 8388608 → q = -149)) ∧ x.toNat = (if s = true then 2147483648 else 0) + (if c < 8388608 then c else (q + 149).toNat * 8388608 + c) := by
  have hx : x.toNat < 4294967296 := x.toNat_lt
  obtain ⟨t1, t2, t3, t4, t5, t6⟩ := fm32
  unfold vF FP.Core.decode FP.Core.fieldE FP.Core.fieldT FP.Core.fieldS at h
  rw [t1, t2, t3] at h
  generalize x.toNat = n at hx h ⊢
  split at h
  · split at h <;> cases h
  · rename_i h1
    split at h
    · rename_i h2
      injection h with e1 e2 e3
      subst e2 e3 e1
      refine ⟨⟨by omega, by omega, by omega, fun _ => rfl⟩, ?_⟩
      rw [if_pos (show n % 8388608 < 8388608 by omega)]
      by_cases e : n / 8388608 / 256 % 2 = 1
      · rw [if_pos (by rw [e]; rfl)]; omega
      · rw [if_neg (fun h9 => e (eq_of_beq h9))]; omega
    · rename_i h2
      injection h with e1 e2 e3
      subst e2 e3 e1
      refine ⟨⟨by omega, by omega, by omega, fun h9 => absurd h9 (by omega)⟩, ?_⟩
      rw [if_neg (show ¬ 8388608 + n % 8388608 < 8388608 by omega)]
      by_cases e : n / 8388608 / 256 % 2 = 1
      · rw [if_pos (by rw [e]; rfl)]; omega
      · rw [if_neg (fun h9 => e (eq_of_beq h9))]; omega
/-- zero, or a number with all its digits -/
def zn64 (c : Nat) (q : Int) : Prop := (c = 0 ∧ q = -1074) ∨ (4503599627370496 ≤ c ∧ c < 9007199254740992 ∧ -1074 ≤ q ∧ q ≤ 971)
def zn32 (c : Nat) (q : Int) : Prop := (c = 0 ∧ q = -149) ∨ (8388608 ≤ c ∧ c < 16777216 ∧ -149 ≤ q ∧ q ≤ 104)
theorem dec64 {n : Nat} {s : Bool} {c : Nat} {q : Int} (h : zn64 c q) (e : n = (if s = true then 9223372036854775808 else 0) + (if c < 4503599627370496 then c else (q + 1074).toNat * 4503599627370496 + c)) : FP.Core.decode FP.Core.b64 n = .fin s c q := by
  obtain ⟨t1, t2, t3, t4, t5, t6⟩ := fm64
  obtain ⟨b, hb, hbs, hA⟩ := sg_b s
  rw [hA] at e
  unfold FP.Core.decode FP.Core.fieldE FP.Core.fieldT FP.Core.fieldS
  rw [t1, t2, t3]
  have hS : n / 4503599627370496 / 2048 % 2 = b → (n / 4503599627370496 / 2048 % 2 == 1) = s := fun h9 => by
    rw [h9]
    cases s
    · have : b = 0 := by
        rcases (by omega : b = 0 ∨ b = 1) with h8 | h8
        · exact h8
        · exact absurd (hbs.1 h8) (by decide +kernel)
      rw [this]; rfl
    · rw [hbs.2 rfl]; rfl
  rcases h with ⟨h1, h2⟩ | ⟨h1, h2, h3, h4⟩
  · subst h1 h2
    rw [if_pos (show 0 < 4503599627370496 by decide)] at e
    rw [if_neg (show ¬ n / 4503599627370496 % 2048 = 2048 - 1 by omega), if_pos (show n / 4503599627370496 % 2048 = 0 by omega), hS (by omega), show n % 4503599627370496 = 0 by omega]
  · rw [if_neg (show ¬ c < 4503599627370496 by omega)] at e
    rw [if_neg (show ¬ n / 4503599627370496 % 2048 = 2048 - 1 by omega), if_neg (show ¬ n / 4503599627370496 % 2048 = 0 by omega), hS (by omega), show 4503599627370496 + n % 4503599627370496 = c by omega, show (-1074 : Int) + (((n / 4503599627370496 % 2048 : Nat) : Int) - 1) = q by omega]
theorem dec32 {n : Nat} {s : Bool} {c : Nat} {q : Int} (h : zn32 c q) (e : n = (if s = true then 2147483648 else 0) + (if c < 8388608 then c else (q + 149).toNat * 8388608 + c)) : FP.Core.decode FP.Core.b32 n = .fin s c q := by
  obtain ⟨t1, t2, t3, t4, t5, t6⟩ := fm32
  obtain ⟨b, hb, hbs, hA⟩ := sg_b s
  rw [hA] at e
  unfold FP.Core.decode FP.Core.fieldE FP.Core.fieldT FP.Core.fieldS
  rw [t1, t2, t3]
  have hS : n / 8388608 / 256 % 2 = b → (n / 8388608 / 256 % 2 == 1) = s := fun h9 => by
    rw [h9]
    cases s
    · have : b = 0 := by
        rcases (by omega : b = 0 ∨ b = 1) with h8 | h8
        · exact h8
        · exact absurd (hbs.1 h8) (by decide +kernel)
      rw [this]; rfl
    · rw [hbs.2 rfl]; rfl
  rcases h with ⟨h1, h2⟩ | ⟨h1, h2, h3, h4⟩
  · subst h1 h2
    rw [if_pos (show 0 < 8388608 by decide)] at e
    rw [if_neg (show ¬ n / 8388608 % 256 = 256 - 1 by omega), if_pos (show n / 8388608 % 256 = 0 by omega), hS (by omega), show n % 8388608 = 0 by omega]
  · rw [if_neg (show ¬ c < 8388608 by omega)] at e
    rw [if_neg (show ¬ n / 8388608 % 256 = 256 - 1 by omega), if_neg (show ¬ n / 8388608 % 256 = 0 by omega), hS (by omega), show 8388608 + n % 8388608 = c by omega, show (-149 : Int) + (((n / 8388608 % 256 : Nat) : Int) - 1) = q by omega]
theorem enc_ar (b E e T c : Nat) (h : T ≤ c) : (b * E + (e + 1)) * T + (c - T) = b * E * T + (e * T + c) := by
  have k : T + (c - T) = c := by omega
  rw [Nat.add_mul, Nat.add_mul, Nat.one_mul, Nat.add_assoc, Nat.add_assoc, k]
theorem enc64 (s : Bool) (c : Nat) (q : Int) (h : zn64 c q) : FP.Core.encode FP.Core.b64 (.fin s c q) = (if s = true then 9223372036854775808 else 0) + (if c < 4503599627370496 then c else (q + 1074).toNat * 4503599627370496 + c) := by
  obtain ⟨t1, t2, t3, t4, t5, t6⟩ := fm64
  show (if c < FP.Core.b64.tails then FP.Core.assemble FP.Core.b64 s 0 c else FP.Core.assemble FP.Core.b64 s ((q - FP.Core.b64.qmin).toNat + 1) (c - FP.Core.b64.tails)) = _
  unfold FP.Core.assemble
  rw [t1, t2, t3]
  have hs : s.toNat * 2048 * 4503599627370496 = (if s = true then 9223372036854775808 else 0) := by cases s <;> rfl
  rw [← hs]
  generalize s.toNat = b
  clear hs
  by_cases hc : c < 4503599627370496
  · rw [if_pos hc, if_pos hc, Nat.add_zero]
  · rw [if_neg hc, if_neg hc]
    have hc2 : 4503599627370496 ≤ c := by omega
    have hq : (q - -1074).toNat = (q + 1074).toNat := by omega
    rw [hq]
    exact enc_ar b 2048 (q + 1074).toNat 4503599627370496 c hc2
theorem enc32 (s : Bool) (c : Nat) (q : Int) (h : zn32 c q) : FP.Core.encode FP.Core.b32 (.fin s c q) = (if s = true then 2147483648 else 0) + (if c < 8388608 then c else (q + 149).toNat * 8388608 + c) := by
  obtain ⟨t1, t2, t3, t4, t5, t6⟩ := fm32
  show (if c < FP.Core.b32.tails then FP.Core.assemble FP.Core.b32 s 0 c else FP.Core.assemble FP.Core.b32 s ((q - FP.Core.b32.qmin).toNat + 1) (c - FP.Core.b32.tails)) = _
  unfold FP.Core.assemble
  rw [t1, t2, t3]
  have hs : s.toNat * 256 * 8388608 = (if s = true then 2147483648 else 0) := by cases s <;> rfl
  rw [← hs]
  generalize s.toNat = b
  clear hs
  by_cases hc : c < 8388608
  · rw [if_pos hc, if_pos hc, Nat.add_zero]
  · rw [if_neg hc, if_neg hc]
    have hc2 : 8388608 ≤ c := by omega
    have hq : (q - -149).toNat = (q + 149).toNat := by omega
    rw [hq]
    exact enc_ar b 256 (q + 149).toNat 8388608 c hc2
theorem mk64 {s : Bool} {c : Nat} {q : Int} (h : zn64 c q) {d : FP.Core.Datum} (e : d = .fin s c q) : vD (UInt64.ofNat (FP.Core.encode FP.Core.b64 d)) = .fin s c q := by
  subst e
  have e := enc64 s c q h
  obtain ⟨b, hb, hbs, hA⟩ := sg_b s
  have l : FP.Core.encode FP.Core.b64 (.fin s c q) < 2 ^ 64 := by
    rw [e, hA]
    unfold zn64 at h
    split <;> omega
  unfold vD
  rw [UInt64.toNat_ofNat', Nat.mod_eq_of_lt l]
  exact dec64 h e
theorem mk32 {s : Bool} {c : Nat} {q : Int} (h : zn32 c q) {d : FP.Core.Datum} (e : d = .fin s c q) : vF (UInt32.ofNat (FP.Core.encode FP.Core.b32 d)) = .fin s c q := by
  subst e
  have e := enc32 s c q h
  obtain ⟨b, hb, hbs, hA⟩ := sg_b s
  have l : FP.Core.encode FP.Core.b32 (.fin s c q) < 2 ^ 32 := by
    rw [e, hA]
    unfold zn32 at h
    split <;> omega
  unfold vF
  rw [UInt32.toNat_ofNat', Nat.mod_eq_of_lt l]
  exact dec32 h e
theorem vD_inj {x y : UInt64} {s : Bool} {c : Nat} {q : Int} (h : vD x = .fin s c q) (k : vD y = .fin s c q) : x = y :=
  UInt64.toNat_inj.1 ((vD_bits h).2.trans (vD_bits k).2.symm)
theorem vF_inj {x y : UInt32} {s : Bool} {c : Nat} {q : Int} (h : vF x = .fin s c q) (k : vF y = .fin s c q) : x = y :=
  UInt32.toNat_inj.1 ((vF_bits h).2.trans (vF_bits k).2.symm)
theorem near_ex (M D : Nat) (hD : 0 < D) : FP.Core.nearest (M * D) D = M := by
  unfold FP.Core.nearest
  rw [Nat.mul_mod_left, Nat.mul_div_cancel _ hD, if_pos (by omega)]
theorem near_ge {X D M : Nat} (hD : 0 < D) (h : M * D ≤ X) : M ≤ FP.Core.nearest X D := by
  have k : M ≤ X / D := (Nat.le_div_iff_mul_le hD).2 h
  unfold FP.Core.nearest
  split
  · exact k
  · split <;> omega
theorem near_le {X D M : Nat} (hD : 0 < D) (h : X ≤ M * D) : FP.Core.nearest X D ≤ M := by
  by_cases e : X = M * D
  · rw [e, near_ex M D hD]; exact Nat.le_refl _
  · have k : X / D < M := (Nat.div_lt_iff_lt_mul hD).2 (by omega)
    unfold FP.Core.nearest
    split
    · omega
    · split <;> omega
theorem lg_is {A N : Nat} (h1 : 2 ^ N ≤ A) (h2 : A < 2 ^ (N + 1)) : A.log2 = N := by
  have h0 : A ≠ 0 := by have := Nat.two_pow_pos N; omega
  have l1 : 2 ^ A.log2 ≤ A := Nat.log2_self_le h0
  have l2 : A < 2 ^ (A.log2 + 1) := Nat.lt_log2_self
  have a := (Nat.pow_lt_pow_iff_right (by decide : 1 < 2)).1 (Nat.lt_of_le_of_lt h1 l2)
  have b := (Nat.pow_lt_pow_iff_right (by decide : 1 < 2)).1 (Nat.lt_of_le_of_lt l1 h2)
  omega
/-- what has its digits is rounded to itself -/
theorem rr_pow {f : FP.Core.Fmt} {s : Bool} {A N b M : Nat} {e q : Int} (hN : 2 ^ N ≤ A) (hN2 : A < 2 ^ (N + 1)) (hq : q = (N : Int) - (b : Int) + e - ((f.p : Int) - 1)) (h1 : f.qmin ≤ q) (h2 : q ≤ f.qmax) (hM : M * (2 ^ b * 2 ^ (q - e).toNat) = A * 2 ^ (e - q).toNat) (hM2 : M < 2 ^ f.p) : FP.Core.roundRatio f s A (2 ^ b) e = .fin s M q := by
  have hA : A ≠ 0 := by have := Nat.two_pow_pos N; omega
  have lA : A.log2 = N := lg_is hN hN2
  have lB : (2 ^ b).log2 = b := lg_is (Nat.le_refl _) (Nat.pow_lt_pow_right (by decide +kernel) (by omega))
  have lead : FP.Core.leading A (2 ^ b) = (N : Int) - (b : Int) := by
    show (if 2 ^ b * 2 ^ ((A.log2 : Int) - ((2 ^ b).log2 : Int)).toNat ≤ A * 2 ^ (-((A.log2 : Int) - ((2 ^ b).log2 : Int))).toNat then (A.log2 : Int) - ((2 ^ b).log2 : Int) else (A.log2 : Int) - ((2 ^ b).log2 : Int) - 1) = _
    rw [lA, lB]
    refine if_pos ?_
    by_cases h : b ≤ N
    · rw [show ((N : Int) - (b : Int)).toNat = N - b by omega, show (-((N : Int) - (b : Int))).toNat = 0 by omega, ← Nat.pow_add, show b + (N - b) = N by omega, Nat.pow_zero, Nat.mul_one]
      exact hN
    · rw [show ((N : Int) - (b : Int)).toNat = 0 by omega, show (-((N : Int) - (b : Int))).toNat = b - N by omega, Nat.pow_zero, Nat.mul_one]
      calc 2 ^ b = 2 ^ N * 2 ^ (b - N) := by rw [← Nat.pow_add, show N + (b - N) = b by omega]
        _ ≤ A * 2 ^ (b - N) := Nat.mul_le_mul_right _ hN
  have hqu : FP.Core.quantum f A (2 ^ b) e = q := by
    unfold FP.Core.quantum
    rw [lead]
    omega
  unfold FP.Core.roundRatio
  rw [if_neg hA, hqu]
  unfold FP.Core.roundAt FP.Core.unitsNum FP.Core.unitsDen
  rw [← hM, near_ex M _ (Nat.mul_pos (Nat.two_pow_pos _) (Nat.two_pow_pos _))]
  unfold FP.Core.settle FP.Core.bound
  rw [if_pos hM2, if_pos h2]
theorem T52 : (4503599627370496 : Nat) = 2 ^ 52 := by decide
/-- a whole number of less than 2^53, times a power of two -/
theorem rr_nat {s : Bool} {K : Nat} {m : Int} (h0 : 0 < K) (h1 : K < 9007199254740992) (h2 : -340 ≤ m) (h3 : m ≤ 500) : ∃ (c : Nat) (q : Int), FP.Core.roundRatio FP.Core.b64 s K 1 m = .fin s c q ∧ 4503599627370496 ≤ c ∧ c < 9007199254740992 ∧ m - 52 ≤ q ∧ q ≤ m ∧ c * 2 ^ (q + 400).toNat = K * 2 ^ (m + 400).toNat := by
  obtain ⟨t1, t2, t3, t4, t5, t6⟩ := fm64
  have l1 : 2 ^ K.log2 ≤ K := Nat.log2_self_le (by omega)
  have l2 : K < 2 ^ (K.log2 + 1) := Nat.lt_log2_self
  have l3 : K.log2 < 53 := (Nat.pow_lt_pow_iff_right (by decide : 1 < 2)).1 (Nat.lt_of_le_of_lt l1 (show K < 2 ^ 53 from h1))
  generalize K.log2 = N at l1 l2 l3
  have a1 : 4503599627370496 ≤ K * 2 ^ (52 - N) := by
    calc 4503599627370496 = 2 ^ N * 2 ^ (52 - N) := by rw [← Nat.pow_add, show N + (52 - N) = 52 by omega]
      _ ≤ K * 2 ^ (52 - N) := Nat.mul_le_mul_right _ l1
  have a2 : K * 2 ^ (52 - N) < 9007199254740992 := by
    calc K * 2 ^ (52 - N) < 2 ^ (N + 1) * 2 ^ (52 - N) := Nat.mul_lt_mul_of_pos_right l2 (Nat.two_pow_pos _)
      _ = 9007199254740992 := by rw [← Nat.pow_add, show N + 1 + (52 - N) = 53 by omega]
  refine ⟨K * 2 ^ (52 - N), m - ((52 - N : Nat) : Int), ?_, a1, a2, by omega, by omega, ?_⟩
  · have e := rr_pow (f := FP.Core.b64) (s := s) (A := K) (N := N) (b := 0) (M := K * 2 ^ (52 - N)) (e := m) (q := m - ((52 - N : Nat) : Int)) l1 l2 (by omega) (by omega) (by omega) (by rw [show (m - ((52 - N : Nat) : Int) - m).toNat = 0 by omega, show (m - (m - ((52 - N : Nat) : Int))).toNat = 52 - N by omega] <;> simp) (by rw [t5]; exact a2)
    exact e
  · rw [Nat.mul_assoc, ← Nat.pow_add, show 52 - N + (m - ((52 - N : Nat) : Int) + 400).toNat = (m + 400).toNat by omega]
/-- a double of sign s and value n / 2^400 -/
def dv (x : UInt64) (s : Bool) (n : Nat) : Prop := ∃ (c : Nat) (q : Int), vD x = .fin s c q ∧ ((c = 0 ∧ q = -1074 ∧ n = 0) ∨ (4503599627370496 ≤ c ∧ c < 9007199254740992 ∧ -400 ≤ q ∧ q ≤ 500 ∧ n = c * 2 ^ (q + 400).toNat))
theorem norm_uniq {c d a b : Nat} (h1 : 4503599627370496 ≤ c) (h2 : c < 9007199254740992) (h3 : 4503599627370496 ≤ d) (h4 : d < 9007199254740992) (e : c * 2 ^ a = d * 2 ^ b) : a = b ∧ c = d := by
  have aux : ∀ {c d a b : Nat}, 4503599627370496 ≤ d → c < 9007199254740992 → c * 2 ^ a = d * 2 ^ b → ¬ a < b := fun {c d a b} hd hc e h => by
    have k : c * 2 ^ a = d * 2 ^ (b - a) * 2 ^ a := by rw [e, Nat.mul_assoc, ← Nat.pow_add, show b - a + a = b by omega]
    have k2 := Nat.eq_of_mul_eq_mul_right (Nat.two_pow_pos a) k
    have k3 : 2 ≤ 2 ^ (b - a) := by
      calc 2 = 2 ^ 1 := rfl
        _ ≤ 2 ^ (b - a) := Nat.pow_le_pow_right (by decide +kernel) (by omega)
    have k4 : d * 2 ≤ d * 2 ^ (b - a) := Nat.mul_le_mul_left d k3
    omega
  rcases Nat.lt_trichotomy a b with h | h | h
  · exact absurd h (aux h3 h2 e)
  · subst h; exact ⟨rfl, Nat.eq_of_mul_eq_mul_right (Nat.two_pow_pos a) e⟩
  · exact absurd h (aux h1 h4 e.symm)
theorem norm_pos {c a : Nat} (h : 4503599627370496 ≤ c) : 0 < c * 2 ^ a := Nat.mul_pos (by omega) (Nat.two_pow_pos a)
theorem dv_inj {x y : UInt64} {s : Bool} {n : Nat} (h : dv x s n) (k : dv y s n) : x = y := by
  obtain ⟨c, q, e, h⟩ := h
  obtain ⟨d, r, g, k⟩ := k
  rcases h with ⟨a1, a2, a3⟩ | ⟨a1, a2, a3, a4, a5⟩ <;> rcases k with ⟨b1, b2, b3⟩ | ⟨b1, b2, b3, b4, b5⟩
  · subst a1 a2 b1 b2; exact vD_inj e g
  · have := norm_pos (a := (r + 400).toNat) b1; omega
  · have := norm_pos (a := (q + 400).toNat) a1; omega
  · have u := norm_uniq a1 a2 b1 b2 (a5.symm.trans b5)
    obtain ⟨u1, u2⟩ := u
    subst u2
    have u3 : q = r := by omega
    subst u3
    exact vD_inj e g
/-- the order of two that are not below zero -/
theorem cmp_scale (a b k : Nat) (hk : 0 < k) : compare ((a : Nat) : Int) ((b : Nat) : Int) = compare ((a * k : Nat) : Int) ((b * k : Nat) : Int) := by
  show (if (a : Int) < (b : Int) then Ordering.lt else if (a : Int) = (b : Int) then Ordering.eq else Ordering.gt) = (if ((a * k : Nat) : Int) < ((b * k : Nat) : Int) then Ordering.lt else if ((a * k : Nat) : Int) = ((b * k : Nat) : Int) then Ordering.eq else Ordering.gt)
  have l : (a * k < b * k) ↔ a < b := Nat.mul_lt_mul_right hk
  have l2 : (a * k = b * k) ↔ a = b := ⟨fun h => Nat.eq_of_mul_eq_mul_right hk h, fun h => by rw [h]⟩
  by_cases h : a < b
  · rw [if_pos (show ((a : Int) < (b : Int)) by omega), if_pos (show ((a * k : Nat) : Int) < ((b * k : Nat) : Int) by have := l.2 h; omega)]
  · have n1 : ¬ a * k < b * k := fun h9 => h (l.1 h9)
    rw [if_neg (show ¬ ((a : Int) < (b : Int)) by omega), if_neg (show ¬ (((a * k : Nat) : Int) < ((b * k : Nat) : Int)) by omega)]
    by_cases h2 : a = b
    · rw [if_pos (show (a : Int) = (b : Int) by omega), if_pos (show ((a * k : Nat) : Int) = ((b * k : Nat) : Int) by have := l2.2 h2; omega)]
    · have n2 : ¬ a * k = b * k := fun h9 => h2 (l2.1 h9)
      rw [if_neg (show ¬ ((a : Int) = (b : Int)) by omega), if_neg (show ¬ (((a * k : Nat) : Int) = ((b * k : Nat) : Int)) by omega)]
theorem in_units {c : Nat} {q m : Int} (h : m ≤ q) (hm : -400 ≤ m) : FP.Core.inUnits c q m * 2 ^ (m + 400).toNat = c * 2 ^ (q + 400).toNat := by
  unfold FP.Core.inUnits
  rw [Nat.mul_assoc, ← Nat.pow_add, show (q - m).toNat + (m + 400).toNat = (q + 400).toNat by omega]
theorem dv_cmp {x y : UInt64} {n m : Nat} (h : dv x false n) (k : dv y false m) : FP.dcmp x y = some (compare (n : Int) (m : Int)) := by
  obtain ⟨c, q, e, h⟩ := h
  obtain ⟨d, r, g, k⟩ := k
  show FP.Core.order (vD x) (vD y) = _
  rw [e, g]
  show some (compare ((FP.Core.inUnits c q (min q r) : Nat) : Int) ((FP.Core.inUnits d r (min q r) : Nat) : Int)) = _
  congr 1
  rcases h with ⟨a1, a2, a3⟩ | ⟨a1, a2, a3, a4, a5⟩ <;> rcases k with ⟨b1, b2, b3⟩ | ⟨b1, b2, b3, b4, b5⟩
  · subst a1 a2 a3 b1 b2 b3; rfl
  · subst a1 a2 a3
    have p1 := norm_pos (a := (r + 400).toNat) b1
    have p2 := norm_pos (a := (r - min (-1074) r).toNat) b1
    show compare ((0 * _ : Nat) : Int) ((d * 2 ^ (r - min (-1074) r).toNat : Nat) : Int) = _
    rw [Nat.zero_mul, b5]
    generalize d * 2 ^ (r - min (-1074) r).toNat = u at p2 ⊢
    generalize d * 2 ^ (r + 400).toNat = w at p1 ⊢
    show (if ((0 : Nat) : Int) < (u : Int) then Ordering.lt else _) = (if ((0 : Nat) : Int) < (w : Int) then Ordering.lt else _)
    rw [if_pos (by omega), if_pos (by omega)]
  · subst b1 b2 b3
    have p1 := norm_pos (a := (q + 400).toNat) a1
    have p2 := norm_pos (a := (q - min q (-1074)).toNat) a1
    show compare ((c * 2 ^ (q - min q (-1074)).toNat : Nat) : Int) ((0 * _ : Nat) : Int) = _
    rw [Nat.zero_mul, a5]
    generalize c * 2 ^ (q - min q (-1074)).toNat = u at p2 ⊢
    generalize c * 2 ^ (q + 400).toNat = w at p1 ⊢
    show (if (u : Int) < ((0 : Nat) : Int) then Ordering.lt else if (u : Int) = ((0 : Nat) : Int) then Ordering.eq else Ordering.gt) = (if (w : Int) < ((0 : Nat) : Int) then Ordering.lt else if (w : Int) = ((0 : Nat) : Int) then Ordering.eq else Ordering.gt)
    rw [if_neg (by omega), if_neg (by omega), if_neg (by omega), if_neg (by omega)]
  · rw [cmp_scale _ _ (2 ^ (min q r + 400).toNat) (Nat.two_pow_pos _), in_units (by omega) (by omega), in_units (by omega) (by omega), a5, b5]
/-- what a comparison leaves -/
def cmQ (z : Int32) (n m : Nat) : Prop := (z.toInt < 0 ↔ n < m) ∧ (z.toInt = 0 ↔ n = m) ∧ (0 < z.toInt ↔ m < n)
theorem dv_cm {x y : UInt64} {n m : Nat} {z : Int32} {op : CmpOp} (h : dv x false n) (k : dv y false m) (e : z = Op.cmpValue (FP.dcmp x y) op) : cmQ z n m := by
  subst e
  rw [dv_cmp h k]
  have o : compare (n : Int) (m : Int) = (if (n : Int) < (m : Int) then Ordering.lt else if (n : Int) = (m : Int) then Ordering.eq else Ordering.gt) := rfl
  have c1 : (-1 : Int32).toInt = -1 := by decide
  have c0 : (0 : Int32).toInt = 0 := by decide
  have c2 : (1 : Int32).toInt = 1 := by decide
  rw [o]
  unfold cmQ
  by_cases h1 : (n : Int) < (m : Int)
  · rw [if_pos h1]
    show ((-1 : Int32).toInt < 0 ↔ _) ∧ ((-1 : Int32).toInt = 0 ↔ _) ∧ (0 < (-1 : Int32).toInt ↔ _)
    rw [c1]; omega
  · rw [if_neg h1]
    by_cases h2 : (n : Int) = (m : Int)
    · rw [if_pos h2]
      show ((0 : Int32).toInt < 0 ↔ _) ∧ ((0 : Int32).toInt = 0 ↔ _) ∧ (0 < (0 : Int32).toInt ↔ _)
      rw [c0]; omega
    · rw [if_neg h2]
      show ((1 : Int32).toInt < 0 ↔ _) ∧ ((1 : Int32).toInt = 0 ↔ _) ∧ (0 < (1 : Int32).toInt ↔ _)
      rw [c2]; omega
theorem vD_0 : vD FP.dconst0 = .fin false 0 (-1074) := by decide +kernel
theorem vD_1 : vD FP.dconst1 = .fin false 4503599627370496 (-52) := by decide +kernel
theorem vD_2 : vD 4611686018427387904 = .fin false 4503599627370496 (-51) := by decide +kernel
theorem dv_0 : dv FP.dconst0 false 0 := ⟨0, -1074, vD_0, Or.inl ⟨rfl, rfl, rfl⟩⟩
theorem dv_2 : dv 4611686018427387904 false (4503599627370496 * 2 ^ ((-51 : Int) + 400).toNat) := ⟨4503599627370496, -51, vD_2, Or.inr ⟨by decide, by decide, by decide, by decide, rfl⟩⟩
theorem dv_1 : dv FP.dconst1 false (4503599627370496 * 2 ^ ((-52 : Int) + 400).toNat) := ⟨4503599627370496, -52, vD_1, Or.inr ⟨by decide, by decide, by decide, by decide, rfl⟩⟩
theorem dv_nz {x : UInt64} {s : Bool} {n : Nat} (h : dv x s n) : ∃ (c : Nat) (q : Int), vD x = .fin s c q ∧ zn64 c q := by
  obtain ⟨c, q, e, h⟩ := h
  refine ⟨c, q, e, ?_⟩
  rcases h with ⟨a1, a2, a3⟩ | ⟨a1, a2, a3, a4, a5⟩
  · exact Or.inl ⟨a1, a2⟩
  · exact Or.inr ⟨a1, a2, by omega, by omega⟩
/-- what is no NaN comes as it is -/
theorem fin_al {r y : UInt64} {s : Bool} {c : Nat} {q : Int} (h : vD y = .fin s c q) (a : alike64 r y = true) : r = y := by
  have b := vD_bits h
  have m : y.toNat % 2 ^ 63 ≤ 9218868437227405311 := by
    rw [b.2]
    obtain ⟨k, hk, _, hA⟩ := sg_b s
    rw [hA]
    split <;> omega
  have n : ¬ isNaN64 y = true := fun h9 => by
    rw [isNaN64_iff] at h9
    have e : y.toNat &&& 9223372036854775807 = y.toNat % 2 ^ 63 := Nat.and_two_pow_sub_one_eq_mod y.toNat 63
    have h8 : 9218868437227405312 < y.toNat &&& 9223372036854775807 := h9
    omega
  unfold alike64 at a
  rw [Bool.or_eq_true, Bool.and_eq_true] at a
  rcases a with a | a
  · exact of_decide_eq_true a
  · exact absurd a.2 n
theorem dv_al {r y : UInt64} {s : Bool} {n : Nat} (h : dv y s n) (a : alike64 r y = true) : dv r s n := by
  obtain ⟨c, q, e, k⟩ := h
  rw [fin_al e a]
  exact ⟨c, q, e, k⟩
theorem fin_al32 {r y : UInt32} {s : Bool} {c : Nat} {q : Int} (h : vF y = .fin s c q) (a : alike32 r y = true) : r = y := by
  have b := vF_bits h
  have m : y.toNat % 2 ^ 31 ≤ 2139095039 := by
    rw [b.2]
    obtain ⟨k, hk, _, hA⟩ := sg_b s
    rw [hA]
    split <;> omega
  have n : ¬ isNaN32 y = true := fun h9 => by
    rw [isNaN32_iff] at h9
    have e : y.toNat &&& 2147483647 = y.toNat % 2 ^ 31 := Nat.and_two_pow_sub_one_eq_mod y.toNat 31
    have h8 : 2139095040 < y.toNat &&& 2147483647 := h9
    omega
  unfold alike32 at a
  rw [Bool.or_eq_true, Bool.and_eq_true] at a
  rcases a with a | a
  · exact of_decide_eq_true a
  · exact absurd a.2 n
/-- the sign -/
theorem dv_sg {x : UInt64} {s : Bool} {n : Nat} {z : Int32} {op : CmpOp} (h : dv x s n) (e : z = Op.cmpValue (FP.dcmp x FP.dconst0) op) : (z.toInt < 0 ↔ (s = true ∧ n ≠ 0)) ∧ (z.toInt = 0 ↔ n = 0) := by
  cases s
  · have k := dv_cm h dv_0 e
    unfold cmQ at k
    refine ⟨⟨fun h9 => ?_, fun h9 => absurd h9.1 (by decide +kernel)⟩, k.2.1⟩
    have := k.1.1 h9
    omega
  · obtain ⟨c, q, g, h⟩ := h
    subst e
    have o : FP.dcmp x FP.dconst0 = some (compare (-((FP.Core.inUnits c q (min q (-1074)) : Nat) : Int)) ((FP.Core.inUnits 0 (-1074) (min q (-1074)) : Nat) : Int)) := by
      show FP.Core.order (vD x) (vD FP.dconst0) = _
      rw [g, vD_0]; rfl
    have z0 : FP.Core.inUnits 0 (-1074) (min q (-1074)) = 0 := Nat.zero_mul _
    rw [o, z0]
    have c1 : (-1 : Int32).toInt = -1 := by decide
    have c0 : (0 : Int32).toInt = 0 := by decide
    rcases h with ⟨a1, a2, a3⟩ | ⟨a1, a2, a3, a4, a5⟩
    · subst a1 a2 a3
      have z1 : FP.Core.inUnits 0 (-1074) (min (-1074) (-1074)) = 0 := Nat.zero_mul _
      rw [z1]
      show ((0 : Int32).toInt < 0 ↔ _) ∧ ((0 : Int32).toInt = 0 ↔ _)
      rw [c0]
      exact ⟨⟨fun h9 => absurd h9 (by decide +kernel), fun h9 => absurd rfl h9.2⟩, ⟨fun _ => rfl, fun _ => rfl⟩⟩
    · have p1 := norm_pos (a := (q + 400).toNat) a1
      have p2 : 0 < FP.Core.inUnits c q (min q (-1074)) := norm_pos a1
      generalize FP.Core.inUnits c q (min q (-1074)) = u at p2 ⊢
      have o2 : compare (-(u : Int)) ((0 : Nat) : Int) = Ordering.lt := by
        show (if -(u : Int) < ((0 : Nat) : Int) then Ordering.lt else _) = _
        rw [if_pos (by omega)]
      rw [o2]
      show ((-1 : Int32).toInt < 0 ↔ _) ∧ ((-1 : Int32).toInt = 0 ↔ _)
      rw [c1]
      exact ⟨⟨fun _ => ⟨rfl, by omega⟩, fun _ => by decide⟩, ⟨fun h9 => absurd h9 (by decide +kernel), fun h9 => by omega⟩⟩
theorem lxor63 {a b : Nat} (ha : a < 2 ^ 63) : (2 ^ 63 * b + a) ^^^ (2 ^ 63 * 1 + 0) = 2 ^ 63 * (b ^^^ 1) + a := by
  apply Nat.eq_of_testBit_eq
  intro j
  rw [Nat.testBit_xor, Nat.testBit_two_pow_mul_add _ ha, Nat.testBit_two_pow_mul_add _ (show 0 < 2 ^ 63 by decide), Nat.testBit_two_pow_mul_add _ ha]
  split
  · rw [Nat.zero_testBit, Bool.xor_false]
  · rw [Nat.testBit_xor]
theorem dneg_toNat (x : UInt64) : (FP.dneg x).toNat = if x.toNat < 9223372036854775808 then x.toNat + 9223372036854775808 else x.toNat - 9223372036854775808 := by
  have hx : x.toNat < 18446744073709551616 := x.toNat_lt
  show (x ^^^ 0x8000000000000000).toNat = _
  rw [UInt64.toNat_xor]
  have e2 : (0x8000000000000000 : UInt64).toNat = 2 ^ 63 * 1 + 0 := by decide
  rw [e2]
  by_cases h : x.toNat < 9223372036854775808
  · have e := lxor63 (a := x.toNat) (b := 0) h
    rw [Nat.mul_zero, Nat.zero_add] at e
    rw [if_pos h, e]
    have : (0 ^^^ 1 : Nat) = 1 := by decide
    rw [this]; omega
  · have e := lxor63 (a := x.toNat - 9223372036854775808) (b := 1) (by omega)
    rw [show 2 ^ 63 * 1 + (x.toNat - 9223372036854775808) = x.toNat by omega] at e
    rw [if_neg h, e]
    have : (1 ^^^ 1 : Nat) = 0 := by decide
    rw [this]; omega
theorem vD_neg {x : UInt64} {s : Bool} {c : Nat} {q : Int} (h : vD x = .fin s c q) (n : zn64 c q) : vD (FP.dneg x) = .fin (!s) c q := by
  refine dec64 n ?_
  rw [dneg_toNat, (vD_bits h).2]
  have hv : (if c < 4503599627370496 then c else (q + 1074).toNat * 4503599627370496 + c) < 9223372036854775808 := by
    unfold zn64 at n
    split <;> omega
  generalize (if c < 4503599627370496 then c else (q + 1074).toNat * 4503599627370496 + c) = u at hv ⊢
  cases s
  · rw [if_neg (show ¬ (false = true) by decide), if_pos (by omega), if_pos (show (!false) = true by decide)]; omega
  · rw [if_pos (show (true = true) from rfl), if_neg (by omega), if_neg (show ¬ ((!true) = true) by decide)]; omega
theorem dv_neg {x : UInt64} {s : Bool} {n : Nat} (h : dv x s n) : dv (FP.dneg x) (!s) n := by
  obtain ⟨c, q, e, k⟩ := h
  refine ⟨c, q, vD_neg e ?_, k⟩
  rcases k with ⟨a1, a2, a3⟩ | ⟨a1, a2, a3, a4, a5⟩
  · exact Or.inl ⟨a1, a2⟩
  · exact Or.inr ⟨a1, a2, by omega, by omega⟩
/-- without its sign -/
theorem dv_abs {x y : UInt64} {s : Bool} {n : Nat} {z : Int32} {op : CmpOp} (h : dv x s n) (hz : n = 0 → s = false) (e : z = Op.cmpValue (FP.dcmp x FP.dconst0) op) (hy : (z.toInt < 0 ∧ y = FP.dneg x) ∨ (¬ z.toInt < 0 ∧ y = x)) : dv y false n := by
  have k := dv_sg h e
  cases s
  · rcases hy with ⟨a, b⟩ | ⟨a, b⟩
    · exact absurd (k.1.1 a).1 (by decide +kernel)
    · rw [b]; exact h
  · have hn : n ≠ 0 := fun h9 => absurd (hz h9) (by decide +kernel)
    rcases hy with ⟨a, b⟩ | ⟨a, b⟩
    · rw [b]; exact dv_neg h
    · exact absurd (k.1.2 ⟨rfl, hn⟩) a
theorem bne_f (s : Bool) : (s != false) = s := by cases s <;> rfl
theorem div2 {x : UInt64} {s : Bool} {c : Nat} {q : Int} (h : vD x = .fin s c q) (h1 : 4503599627370496 ≤ c) (h2 : c < 9007199254740992) (h3 : -1000 ≤ q) (h4 : q ≤ 900) : vD (FP.ddiv x 4611686018427387904) = .fin s c (q - 1) := by
  obtain ⟨t1, t2, t3, t4, t5, t6⟩ := fm64
  show vD (UInt64.ofNat (FP.Core.encode FP.Core.b64 (FP.Core.quotient FP.Core.b64 (vD x) (vD 4611686018427387904)))) = _
  refine mk64 (Or.inr ⟨h1, h2, by omega, by omega⟩) ?_
  rw [h, vD_2]
  show FP.Core.roundRatio FP.Core.b64 (s != false) c 4503599627370496 (q - -51) = _
  rw [bne_f]
  have e := rr_pow (f := FP.Core.b64) (s := s) (A := c) (N := 52) (b := 52) (M := c) (e := q - -51) (q := q - 1) h1 h2 (by omega) (by omega) (by omega) (by rw [show (q - 1 - (q - -51)).toNat = 0 by omega, show (q - -51 - (q - 1)).toNat = 52 by omega] <;> simp) (by rw [t5]; exact h2)
  exact e
theorem mulp {x y : UInt64} {s : Bool} {c : Nat} {q k : Int} (h : vD x = .fin s c q) (hy : vD y = .fin false 4503599627370496 k) (h1 : 4503599627370496 ≤ c) (h2 : c < 9007199254740992) (h3 : -1000 ≤ q + k + 52) (h4 : q + k + 52 ≤ 900) : vD (FP.dmul x y) = .fin s c (q + k + 52) := by
  obtain ⟨t1, t2, t3, t4, t5, t6⟩ := fm64
  show vD (UInt64.ofNat (FP.Core.encode FP.Core.b64 (FP.Core.round FP.Core.b64 (FP.Core.exactProduct (vD x) (vD y))))) = _
  refine mk64 (Or.inr ⟨h1, h2, by omega, by omega⟩) ?_
  rw [h, hy]
  show FP.Core.roundRatio FP.Core.b64 (s != false) (c * 4503599627370496) 1 (q + k) = _
  rw [bne_f]
  have a1 : 2 ^ 104 ≤ c * 4503599627370496 := Nat.le_trans (show 2 ^ 104 ≤ 4503599627370496 * 4503599627370496 by decide) (Nat.mul_le_mul_right 4503599627370496 h1)
  have a2 : c * 4503599627370496 < 2 ^ 105 := Nat.lt_of_lt_of_le (Nat.mul_lt_mul_of_pos_right h2 (by decide +kernel)) (show 9007199254740992 * 4503599627370496 ≤ 2 ^ 105 by decide)
  have e := rr_pow (f := FP.Core.b64) (s := s) (A := c * 4503599627370496) (N := 104) (b := 0) (M := c) (e := q + k) (q := q + k + 52) a1 a2 (by omega) (by omega) (by omega) (by rw [show (q + k + 52 - (q + k)).toNat = 52 by omega, show (q + k - (q + k + 52)).toNat = 0 by omega] <;> simp) (by rw [t5]; exact h2)
  exact e
theorem rr_0 (s : Bool) (B : Nat) (e : Int) : FP.Core.roundRatio FP.Core.b64 s 0 B e = .fin s 0 (-1074) := by
  unfold FP.Core.roundRatio
  rw [if_pos rfl, fm64.2.2.1]
/-- powers of two that are not to be counted out -/
def pw (k : Nat) : Nat := 2 ^ k
theorem pw_lt {a k : Nat} (h : a < k) : pw a < 2 ^ k := Nat.pow_lt_pow_right (by decide +kernel) h
theorem pw_le {a k : Nat} (h : a ≤ k) : 2 ^ a ≤ pw k := Nat.pow_le_pow_right (by decide +kernel) h
theorem pw_pos (k : Nat) : 0 < pw k := Nat.two_pow_pos k
theorem dv_q {c n : Nat} {q : Int} (h1 : 4503599627370496 ≤ c) (h2 : c < 9007199254740992) (e : n = c * 2 ^ (q + 400).toNat) (k : Nat) : (n ≤ pw k → 52 + (q + 400).toNat ≤ k) ∧ (pw k ≤ n → k < 53 + (q + 400).toNat) := by
  unfold pw
  generalize (q + 400).toNat = a at e
  refine ⟨fun h => ?_, fun h => ?_⟩
  · refine (Nat.pow_le_pow_iff_right (by decide : 1 < 2)).1 (Nat.le_trans ?_ h)
    rw [e, Nat.pow_add]
    exact Nat.mul_le_mul_right _ h1
  · refine (Nat.pow_lt_pow_iff_right (by decide : 1 < 2)).1 (Nat.lt_of_le_of_lt h ?_)
    rw [e, Nat.pow_add]
    exact Nat.mul_lt_mul_of_pos_right h2 (Nat.two_pow_pos _)
theorem dv_half {x : UInt64} {s : Bool} {n : Nat} (h : dv x s n) (hn : n = 0 ∨ 9007199254740992 ≤ n) : dv (FP.ddiv x 4611686018427387904) s (n / 2) := by
  obtain ⟨c, q, e, k⟩ := h
  rcases k with ⟨a1, a2, a3⟩ | ⟨a1, a2, a3, a4, a5⟩
  · subst a1 a2 a3
    refine ⟨0, -1074, ?_, Or.inl ⟨rfl, rfl, rfl⟩⟩
    show vD (UInt64.ofNat (FP.Core.encode FP.Core.b64 (FP.Core.quotient FP.Core.b64 (vD x) (vD 4611686018427387904)))) = _
    refine mk64 (Or.inl ⟨rfl, rfl⟩) ?_
    rw [e, vD_2]
    show FP.Core.roundRatio FP.Core.b64 (s != false) 0 4503599627370496 (-1074 - -51) = _
    rw [bne_f, rr_0]
  · have hq : q ≠ -400 := fun h9 => by
      subst h9
      have : c * 2 ^ ((-400 : Int) + 400).toNat = c := Nat.mul_one c
      have := norm_pos (a := ((-400 : Int) + 400).toNat) a1
      omega
    refine ⟨c, q - 1, div2 e a1 a2 (by omega) (by omega), Or.inr ⟨a1, a2, by omega, by omega, ?_⟩⟩
    have e2 : (q + 400).toNat = (q - 1 + 400).toNat + 1 := by omega
    rw [a5, e2, Nat.pow_succ, ← Nat.mul_assoc, Nat.mul_div_cancel _ (by decide +kernel)]
theorem dv_dbl {x : UInt64} {s : Bool} {n : Nat} (h : dv x s n) (hn : n ≤ pw 800) : dv (FP.dmul x 4611686018427387904) s (2 * n) := by
  obtain ⟨c, q, e, k⟩ := h
  rcases k with ⟨a1, a2, a3⟩ | ⟨a1, a2, a3, a4, a5⟩
  · subst a1 a2 a3
    refine ⟨0, -1074, ?_, Or.inl ⟨rfl, rfl, rfl⟩⟩
    show vD (UInt64.ofNat (FP.Core.encode FP.Core.b64 (FP.Core.round FP.Core.b64 (FP.Core.exactProduct (vD x) (vD 4611686018427387904))))) = _
    refine mk64 (Or.inl ⟨rfl, rfl⟩) ?_
    rw [e, vD_2]
    show FP.Core.roundRatio FP.Core.b64 (s != false) (0 * 4503599627370496) 1 (-1074 + -51) = _
    rw [bne_f, Nat.zero_mul, rr_0]
  · have b := (dv_q a1 a2 a5 800).1 hn
    have m := mulp e vD_2 a1 a2 (by omega) (by omega)
    refine ⟨c, q + -51 + 52, m, Or.inr ⟨a1, a2, by omega, by omega, ?_⟩⟩
    have e2 : (q + -51 + 52 + 400).toNat = (q + 400).toNat + 1 := by omega
    rw [a5, e2, Nat.pow_succ, ← Nat.mul_assoc c, Nat.mul_comm 2]
theorem dv_sub {x y : UInt64} {n m : Nat} (h : dv x false n) (k : dv y false m) (h0 : pw 280 ≤ m) (h1 : m ≤ n) (h2 : n < 2 * m) : dv (FP.dsub x y) false (n - m) := by
  have hp := pw_pos 280
  obtain ⟨c, q, e, h⟩ := h
  obtain ⟨d, r, g, k⟩ := k
  rcases h with ⟨a1, a2, a3⟩ | ⟨a1, a2, a3, a4, a5⟩
  · omega
  rcases k with ⟨b1, b2, b3⟩ | ⟨b1, b2, b3, b4, b5⟩
  · omega
  have qa := (dv_q a1 a2 a5 280).2 (by omega)
  have qb := (dv_q b1 b2 b5 280).2 h0
  have u1 := in_units (c := c) (q := q) (m := min q r) (by omega) (by omega)
  have u2 := in_units (c := d) (q := r) (m := min q r) (by omega) (by omega)
  rw [← a5] at u1
  rw [← b5] at u2
  have hC : q ≤ r → FP.Core.inUnits c q (min q r) = c := fun h9 => by
    unfold FP.Core.inUnits
    rw [show (q - min q r).toNat = 0 by omega, Nat.pow_zero, Nat.mul_one]
  have hD : r ≤ q → FP.Core.inUnits d r (min q r) = d := fun h9 => by
    unfold FP.Core.inUnits
    rw [show (r - min q r).toNat = 0 by omega, Nat.pow_zero, Nat.mul_one]
  have sh : vD (FP.dsub x y) = vD (UInt64.ofNat (FP.Core.encode FP.Core.b64 (FP.Core.round FP.Core.b64 (FP.Core.exactSum (vD x) (FP.Core.negate (vD y)))))) := rfl
  have hx : FP.Core.exactSum (vD x) (FP.Core.negate (vD y)) = .fin (FP.Core.sumSign false (!false) (((FP.Core.inUnits c q (min q r) : Nat) : Int) + -((FP.Core.inUnits d r (min q r) : Nat) : Int))) ((((FP.Core.inUnits c q (min q r) : Nat) : Int) + -((FP.Core.inUnits d r (min q r) : Nat) : Int))).natAbs (min q r) := by rw [e, g]; rfl
  generalize FP.Core.inUnits c q (min q r) = C at u1 hC hx
  generalize FP.Core.inUnits d r (min q r) = D at u2 hD hx
  have hpw := Nat.two_pow_pos (min q r + 400).toNat
  have hDC : D ≤ C := by
    refine Nat.le_of_mul_le_mul_right ?_ hpw
    rw [u1, u2]; exact h1
  have hC2 : C < 2 * D := by
    refine Nat.lt_of_mul_lt_mul_right (a := 2 ^ (min q r + 400).toNat) ?_
    rw [u1, Nat.mul_assoc, u2]; exact h2
  have hK : C - D < 9007199254740992 := by
    rcases (by omega : q ≤ r ∨ r ≤ q) with h9 | h9
    · have := hC h9; omega
    · have := hD h9; omega
  have hn : (C - D) * 2 ^ (min q r + 400).toNat = n - m := by rw [Nat.sub_mul, u1, u2]
  have hs : (((C : Nat) : Int) + -((D : Nat) : Int)).natAbs = C - D := by omega
  have hsg : FP.Core.sumSign false (!false) (((C : Nat) : Int) + -((D : Nat) : Int)) = false := by
    unfold FP.Core.sumSign
    split
    · rfl
    · exact decide_eq_false (by omega)
  rw [hs, hsg] at hx
  by_cases hz : C - D = 0
  · rw [hz] at hx hn
    refine ⟨0, -1074, ?_, Or.inl ⟨rfl, rfl, by omega⟩⟩
    rw [sh]
    refine mk64 (Or.inl ⟨rfl, rfl⟩) ?_
    rw [hx]
    exact rr_0 _ _ _
  · obtain ⟨c', q', w1, w2, w3, w4, w5, w6⟩ := rr_nat (s := false) (K := C - D) (m := min q r) (by omega) hK (by omega) (by omega)
    refine ⟨c', q', ?_, Or.inr ⟨w2, w3, by omega, by omega, by rw [w6, hn]⟩⟩
    rw [sh]
    refine mk64 (Or.inr ⟨w2, w3, by omega, by omega⟩) ?_
    rw [hx]
    exact w1
theorem dv_rem {x y : UInt64} {s : Bool} {n m : Nat} (h : dv x s n) (k : dv y false m) (h0 : pw 280 ≤ m) (h1 : n = 0 ∨ pw 280 ≤ n) : dv (FP.drem x y) s (n % m) := by
  have hp := pw_pos 280
  obtain ⟨c, q, e, h⟩ := h
  obtain ⟨d, r, g, k⟩ := k
  rcases k with ⟨b1, b2, b3⟩ | ⟨b1, b2, b3, b4, b5⟩
  · omega
  have qb := (dv_q b1 b2 b5 280).2 h0
  have sh : vD (FP.drem x y) = vD (UInt64.ofNat (FP.Core.encode FP.Core.b64 (FP.Core.round FP.Core.b64 (FP.Core.exactRemainder (vD x) (vD y))))) := rfl
  have hx : FP.Core.exactRemainder (vD x) (vD y) = .fin s (FP.Core.inUnits c q (min q r) % FP.Core.inUnits d r (min q r)) (min q r) := by
    rw [e, g]
    show (if d = 0 then _ else _) = _
    rw [if_neg (by omega)]
  rcases h with ⟨a1, a2, a3⟩ | ⟨a1, a2, a3, a4, a5⟩
  · subst a1 a3
    have z1 : FP.Core.inUnits 0 q (min q r) = 0 := Nat.zero_mul _
    rw [z1, Nat.zero_mod] at hx
    refine ⟨0, -1074, ?_, Or.inl ⟨rfl, rfl, Nat.zero_mod _⟩⟩
    rw [sh]
    refine mk64 (Or.inl ⟨rfl, rfl⟩) ?_
    rw [hx]
    exact rr_0 _ _ _
  · have hn0 : pw 280 ≤ n := by
      rcases h1 with h9 | h9
      · have := norm_pos (a := (q + 400).toNat) a1; omega
      · exact h9
    have qa := (dv_q a1 a2 a5 280).2 hn0
    have u1 := in_units (c := c) (q := q) (m := min q r) (by omega) (by omega)
    have u2 := in_units (c := d) (q := r) (m := min q r) (by omega) (by omega)
    rw [← a5] at u1
    rw [← b5] at u2
    have hC : q ≤ r → FP.Core.inUnits c q (min q r) = c := fun h9 => by
      unfold FP.Core.inUnits
      rw [show (q - min q r).toNat = 0 by omega, Nat.pow_zero, Nat.mul_one]
    have hD : r ≤ q → FP.Core.inUnits d r (min q r) = d := fun h9 => by
      unfold FP.Core.inUnits
      rw [show (r - min q r).toNat = 0 by omega, Nat.pow_zero, Nat.mul_one]
    generalize FP.Core.inUnits c q (min q r) = C at u1 hC hx
    generalize FP.Core.inUnits d r (min q r) = D at u2 hD hx
    have hpw := Nat.two_pow_pos (min q r + 400).toNat
    have hD0 : 0 < D := by
      rcases Nat.eq_zero_or_pos D with h9 | h9
      · rw [h9, Nat.zero_mul] at u2; omega
      · exact h9
    have hK : C % D < 9007199254740992 := by
      have m1 := Nat.mod_lt C hD0
      have m2 := Nat.mod_le C D
      rcases (by omega : q ≤ r ∨ r ≤ q) with h9 | h9
      · have := hC h9; omega
      · have := hD h9; omega
    have hn : (C % D) * 2 ^ (min q r + 400).toNat = n % m := by rw [← Nat.mul_mod_mul_right, u1, u2]
    by_cases hz : C % D = 0
    · rw [hz] at hx hn
      refine ⟨0, -1074, ?_, Or.inl ⟨rfl, rfl, by omega⟩⟩
      rw [sh]
      refine mk64 (Or.inl ⟨rfl, rfl⟩) ?_
      rw [hx]
      exact rr_0 _ _ _
    · obtain ⟨c', q', w1, w2, w3, w4, w5, w6⟩ := rr_nat (s := s) (K := C % D) (m := min q r) (by omega) hK (by omega) (by omega)
      refine ⟨c', q', ?_, Or.inr ⟨w2, w3, by omega, by omega, by rw [w6, hn]⟩⟩
      rw [sh]
      refine mk64 (Or.inr ⟨w2, w3, by omega, by omega⟩) ?_
      rw [hx]
      exact w1
/-- what remainder is asked of -/
def rmH (x0 x1 : UInt64) (s : Bool) (n m : Nat) : Prop := dv x0 s n ∧ dv x1 false m ∧ (n = 0 → s = false) ∧ (n = 0 ∨ pw 280 ≤ n) ∧ n ≤ pw 500 ∧ pw 390 ≤ m ∧ m ≤ pw 500
def rm1 (x0 x1 lf sp : UInt64) (k : Nat) : Prop := ∀ s n m, rmH x0 x1 s n m → dv lf false n ∧ dv sp false (m * 2 ^ k) ∧ (k = 0 ∨ m * 2 ^ k ≤ n)
def rm2 (x0 x1 lf sp : UInt64) (k j : Nat) : Prop := ∀ s n m, rmH x0 x1 s n m → ∃ t : Nat, dv lf false t ∧ t % m = n % m ∧ ((j ≤ k ∧ dv sp false (m * 2 ^ (k - j)) ∧ t < 2 * (m * 2 ^ (k - j))) ∨ (j = k + 1 ∧ t < m))
theorem big280 : 9007199254740992 ≤ pw 280 ∧ pw 280 ≤ pw 390 ∧ 9007199254740992 ≤ pw 390 ∧ pw 500 ≤ pw 800 := by decide +kernel
theorem rm1_0 {x0 x1 lf : UInt64} {z : Int32} {op : CmpOp} (e : z = Op.cmpValue (FP.dcmp x0 FP.dconst0) op) (hl : (z.toInt < 0 ∧ lf = FP.dneg x0) ∨ (¬ z.toInt < 0 ∧ lf = x0)) : rm1 x0 x1 lf x1 0 := fun s n m h => by
  obtain ⟨h1, h2, h3, h4, h5, h6, h7⟩ := h
  refine ⟨dv_abs h1 h3 e hl, ?_, Or.inl rfl⟩
  rw [Nat.pow_zero, Nat.mul_one]
  exact h2
theorem rm1_step {x0 x1 lf sp r1 r2 : UInt64} {k : Nat} {z : Int32} {op : CmpOp} (h : rm1 x0 x1 lf sp k) (a1 : alike64 r1 (FP.ddiv lf 4611686018427387904) = true) (e : z = Op.cmpValue (FP.dcmp sp r1) op) (hz : ¬ 0 < z.toInt) (a2 : alike64 r2 (FP.dmul sp 4611686018427387904) = true) : rm1 x0 x1 lf r2 (k + 1) := fun s n m H => by
  obtain ⟨b0, b1, b2, b3⟩ := big280
  obtain ⟨g1, g2, g3⟩ := h s n m H
  obtain ⟨h1, h2, h3, h4, h5, h6, h7⟩ := H
  have hh := dv_al (dv_half g1 (by omega)) a1
  have cm := dv_cm g2 hh e
  unfold cmQ at cm
  have le : m * 2 ^ k ≤ n / 2 := Nat.le_of_not_lt (fun h9 => hz (cm.2.2.2 h9))
  have d := dv_al (dv_dbl g2 (by omega)) a2
  have e2 : m * 2 ^ (k + 1) = 2 * (m * 2 ^ k) := by rw [Nat.pow_succ, ← Nat.mul_assoc, Nat.mul_comm]
  rw [← e2] at d
  exact ⟨g1, d, Or.inr (by omega)⟩
theorem rm2_0 {x0 x1 lf sp r1 : UInt64} {k : Nat} (h : rm1 x0 x1 lf sp k) (hx : k = 2200 ∨ ∃ (z : Int32) (op : CmpOp), alike64 r1 (FP.ddiv lf 4611686018427387904) = true ∧ z = Op.cmpValue (FP.dcmp sp r1) op ∧ 0 < z.toInt) : rm2 x0 x1 lf sp k 0 := fun s n m H => by
  obtain ⟨b0, b1, b2, b3⟩ := big280
  obtain ⟨g1, g2, g3⟩ := h s n m H
  obtain ⟨h1, h2, h3, h4, h5, h6, h7⟩ := H
  refine ⟨n, g1, rfl, Or.inl ⟨Nat.zero_le k, by rw [Nat.sub_zero]; exact g2, ?_⟩⟩
  rw [Nat.sub_zero]
  rcases hx with hx | ⟨z, op, a1, e, hz⟩
  · exfalso
    have p : 0 < m := Nat.lt_of_lt_of_le (pw_pos 390) h6
    have l : 1 * 2 ^ k ≤ m * 2 ^ k := Nat.mul_le_mul_right _ p
    have l2 : pw 500 < 2 ^ k := pw_lt (by omega)
    rw [Nat.one_mul] at l
    rcases g3 with g3 | g3
    · omega
    · omega
  · have hh := dv_al (dv_half g1 (by omega)) a1
    have cm := dv_cm g2 hh e
    unfold cmQ at cm
    have := cm.2.2.1 hz
    omega
theorem rm2_step {x0 x1 lf sp lf' r : UInt64} {k j : Nat} {z : Int32} {op : CmpOp} (h : rm2 x0 x1 lf sp k j) (hj : j ≤ k) (e : z = Op.cmpValue (FP.dcmp lf sp) op) (hl : (z.toInt < 0 ∧ lf' = lf) ∨ (¬ z.toInt < 0 ∧ alike64 lf' (FP.dsub lf sp) = true)) (a : alike64 r (FP.ddiv sp 4611686018427387904) = true) : rm2 x0 x1 lf' r k (j + 1) := fun s n m H => by
  obtain ⟨b0, b1, b2, b3⟩ := big280
  obtain ⟨t, g1, g2, g3⟩ := h s n m H
  obtain ⟨h1, h2, h3, h4, h5, h6, h7⟩ := H
  rcases g3 with ⟨g3, g4, g5⟩ | ⟨g3, _⟩
  · have hm : m ≤ m * 2 ^ (k - j) := Nat.le_mul_of_pos_right _ (Nat.two_pow_pos _)
    have cm := dv_cm g1 g4 e
    unfold cmQ at cm
    have hf := dv_al (dv_half g4 (by omega)) a
    have hT : ∃ t' : Nat, dv lf' false t' ∧ t' % m = n % m ∧ t' < m * 2 ^ (k - j) := by
      rcases hl with ⟨hz, rfl⟩ | ⟨hz, a2⟩
      · exact ⟨t, g1, g2, cm.1.1 hz⟩
      · have ge : m * 2 ^ (k - j) ≤ t := Nat.le_of_not_lt (fun h9 => hz (cm.1.2 h9))
        refine ⟨t - m * 2 ^ (k - j), dv_al (dv_sub g1 g4 (by omega) ge g5) a2, ?_, by omega⟩
        have e3 : t - m * 2 ^ (k - j) + m * 2 ^ (k - j) = t := by omega
        have e5 : (t - m * 2 ^ (k - j) + m * 2 ^ (k - j)) % m = (t - m * 2 ^ (k - j)) % m := Nat.add_mul_mod_self_left _ _ _
        rw [e3] at e5
        rw [← e5, g2]
    obtain ⟨t', u1, u2, u3⟩ := hT
    refine ⟨t', u1, u2, ?_⟩
    by_cases hk : j = k
    · subst hk
      rw [Nat.sub_self, Nat.pow_zero, Nat.mul_one] at u3
      exact Or.inr ⟨rfl, u3⟩
    · have e4 : k - j = k - (j + 1) + 1 := by omega
      rw [e4, Nat.pow_succ, ← Nat.mul_assoc] at u3 hf
      rw [Nat.mul_div_cancel _ (by decide +kernel)] at hf
      exact Or.inl ⟨by omega, hf, by omega⟩
  · omega
/-- what remainder answers -/
def rmQ (x0 x1 r : UInt64) : Prop := ∀ s n m, rmH x0 x1 s n m → r = FP.drem x0 x1
theorem rm2_end {x0 x1 lf sp r : UInt64} {k j : Nat} {z : Int32} {op : CmpOp} (h : rm2 x0 x1 lf sp k j) (hj : k < j) (e : z = Op.cmpValue (FP.dcmp x0 FP.dconst0) op) (hr : (z.toInt < 0 ∧ r = FP.dneg lf) ∨ (¬ z.toInt < 0 ∧ r = lf)) : rmQ x0 x1 r := fun s n m H => by
  obtain ⟨b0, b1, b2, b3⟩ := big280
  obtain ⟨t, g1, g2, g3⟩ := h s n m H
  obtain ⟨h1, h2, h3, h4, h5, h6, h7⟩ := H
  rcases g3 with ⟨g3, _⟩ | ⟨g3, g4⟩
  · omega
  have et : t = n % m := by rw [← g2, Nat.mod_eq_of_lt g4]
  subst et
  have d := dv_rem h1 h2 (by omega) h4
  have sg := dv_sg h1 e
  refine dv_inj ?_ d
  rcases hr with ⟨hz, hr⟩ | ⟨hz, hr⟩
  · have := (sg.1.1 hz).1
    subst this
    rw [hr]
    exact dv_neg g1
  · have hs : s = false := by
      cases s
      · rfl
      · exact h3 (by
          rcases Nat.eq_zero_or_pos n with h9 | h9
          · exact h9
          · exact absurd (sg.1.2 ⟨rfl, by omega⟩) hz)
    subst hs
    rw [hr]
    exact g1
/-- what packed is asked of: w, l are the width and the least exponent -/
def pkH (x0 : UInt64) (w l : Int) (s : Bool) (c : Nat) (q : Int) : Prop := vD x0 = .fin s c q ∧ (4503599627370496 ≤ c ∧ c < 9007199254740992) ∧ (-400 ≤ q ∧ q ≤ 500) ∧ ((w = 52 ∧ l = -1022) ∨ (w = 23 ∧ l = -126)) ∧ l ≤ q + 52
def pk1 (x0 mm : UInt64) (w l ex : Int) : Prop := ∀ s c q, pkH x0 w l s c q → vD mm = .fin false c (q - ex) ∧ (ex = 0 ∨ -52 ≤ q - ex)
def pk2 (x0 mm : UInt64) (w l ex ii : Int) : Prop := ∀ s c q, pkH x0 w l s c q → vD mm = .fin false c (q - ex) ∧ ((0 < ex ∧ q - ex = -52) ∨ (ex = -ii ∧ q - ex ≤ -52))
theorem lt_pow {c d : Nat} {q k : Int} (h1 : 4503599627370496 ≤ c) (h2 : c < 9007199254740992) (h3 : d = 4503599627370496) (hq : -400 ≤ q) (hk : -400 ≤ k) : c * 2 ^ (q + 400).toNat < d * 2 ^ (k + 400).toNat ↔ q < k := by
  subst h3
  constructor
  · intro h
    refine Int.lt_of_not_ge fun h9 => ?_
    have e : (q + 400).toNat = (k + 400).toNat + (q - k).toNat := by omega
    have l : 4503599627370496 * 2 ^ (k + 400).toNat ≤ c * 2 ^ (q + 400).toNat := Nat.mul_le_mul h1 (Nat.pow_le_pow_right (by decide +kernel) (by omega))
    omega
  · intro h
    have e : (k + 400).toNat = (q + 400).toNat + 1 + (k - q - 1).toNat := by omega
    have l : 2 ^ ((q + 400).toNat + 1) ≤ 2 ^ (k + 400).toNat := Nat.pow_le_pow_right (by decide +kernel) (by omega)
    have l2 : 4503599627370496 * 2 ^ ((q + 400).toNat + 1) ≤ 4503599627370496 * 2 ^ (k + 400).toNat := Nat.mul_le_mul_left _ l
    have l3 : c * 2 ^ (q + 400).toNat < 9007199254740992 * 2 ^ (q + 400).toNat := Nat.mul_lt_mul_of_pos_right h2 (Nat.two_pow_pos _)
    rw [Nat.pow_succ] at l2
    omega
theorem fin_dv {x : UInt64} {c : Nat} {q : Int} (h : vD x = .fin false c q) (h1 : 4503599627370496 ≤ c) (h2 : c < 9007199254740992) (h3 : -400 ≤ q) (h4 : q ≤ 500) : dv x false (c * 2 ^ (q + 400).toNat) := ⟨c, q, h, Or.inr ⟨h1, h2, h3, h4, rfl⟩⟩
theorem pk1_0 {x0 mm : UInt64} {w l : Int} {z : Int32} {op : CmpOp} (e : z = Op.cmpValue (FP.dcmp x0 FP.dconst0) op) (hl : (z.toInt < 0 ∧ mm = FP.dneg x0) ∨ (¬ z.toInt < 0 ∧ mm = x0)) : pk1 x0 mm w l 0 := fun s c q H => by
  obtain ⟨h1, h2, h3, h4, h5⟩ := H
  refine ⟨?_, Or.inl rfl⟩
  rw [show q - 0 = q by omega]
  have d : dv x0 s (c * 2 ^ (q + 400).toNat) := ⟨c, q, h1, Or.inr ⟨h2.1, h2.2, h3.1, h3.2, rfl⟩⟩
  have np := norm_pos (a := (q + 400).toNat) h2.1
  have k := dv_sg d e
  rcases hl with ⟨a, b⟩ | ⟨a, b⟩
  · have := (k.1.1 a).1
    subst this
    rw [b]
    exact vD_neg h1 (Or.inr ⟨h2.1, h2.2, by omega, by omega⟩)
  · rw [b]
    cases s
    · exact h1
    · exact absurd (k.1.2 ⟨rfl, by omega⟩) a
theorem pk1_step {x0 mm r : UInt64} {w l ex : Int} {z : Int32} {op : CmpOp} (h : pk1 x0 mm w l ex) (h0 : 0 ≤ ex) (e : z = Op.cmpValue (FP.dcmp mm 4611686018427387904) op) (hz : ¬ z.toInt < 0) (a : alike64 r (FP.ddiv mm 4611686018427387904) = true) : pk1 x0 r w l (ex + 1) := fun s c q H => by
  obtain ⟨g1, g2⟩ := h s c q H
  obtain ⟨h1, h2, h3, h4, h5⟩ := H
  have cm := dv_cm (fin_dv g1 h2.1 h2.2 (by omega) (by omega)) dv_2 e
  unfold cmQ at cm
  have lt := lt_pow (d := 4503599627370496) (k := -51) h2.1 h2.2 rfl (show -400 ≤ q - ex by omega) (by decide +kernel)
  have ge : ¬ q - ex < -51 := fun h9 => hz (cm.1.2 (lt.2 h9))
  have d := div2 g1 h2.1 h2.2 (by omega) (by omega)
  have er := fin_al d a
  rw [er, show q - (ex + 1) = q - ex - 1 by omega]
  exact ⟨d, Or.inr (by omega)⟩
theorem pk2_0 {x0 mm : UInt64} {w l ex : Int} (h : pk1 x0 mm w l ex) (h0 : 0 ≤ ex) (hx : ex = 2200 ∨ ∃ (z : Int32) (op : CmpOp), z = Op.cmpValue (FP.dcmp mm 4611686018427387904) op ∧ z.toInt < 0) : pk2 x0 mm w l ex 0 := fun s c q H => by
  obtain ⟨g1, g2⟩ := h s c q H
  obtain ⟨h1, h2, h3, h4, h5⟩ := H
  refine ⟨g1, ?_⟩
  rcases hx with hx | ⟨z, op, e, hz⟩
  · omega
  · have cm := dv_cm (fin_dv g1 h2.1 h2.2 (by omega) (by omega)) dv_2 e
    unfold cmQ at cm
    have lt := lt_pow (d := 4503599627370496) (k := -51) h2.1 h2.2 rfl (show -400 ≤ q - ex by omega) (by decide +kernel)
    have := lt.1 (cm.1.1 hz)
    omega
theorem pk2_step {x0 mm r : UInt64} {w l ex ii : Int} {z : Int32} {op : CmpOp} (h : pk2 x0 mm w l ex ii) (h0 : 0 ≤ ii) (e : z = Op.cmpValue (FP.dcmp mm FP.dconst1) op) (hz : z.toInt < 0) (a : alike64 r (FP.dmul mm 4611686018427387904) = true) : pk2 x0 r w l (ex - 1) (ii + 1) := fun s c q H => by
  obtain ⟨g1, g2⟩ := h s c q H
  obtain ⟨h1, h2, h3, h4, h5⟩ := H
  have cm := dv_cm (fin_dv g1 h2.1 h2.2 (by omega) (by omega)) dv_1 e
  unfold cmQ at cm
  have lt := lt_pow (d := 4503599627370496) (k := -52) h2.1 h2.2 rfl (show -400 ≤ q - ex by omega) (by decide +kernel)
  have l2 := lt.1 (cm.1.1 hz)
  have d := mulp g1 vD_2 h2.1 h2.2 (by omega) (by omega)
  have er := fin_al d a
  rw [er, show q - (ex - 1) = q - ex + -51 + 52 by omega]
  exact ⟨d, Or.inr (by omega)⟩
theorem pk2_end {x0 mm : UInt64} {w l ex ii : Int} (h : pk2 x0 mm w l ex ii) (h0 : 0 ≤ ii) (hx : ii = 2200 ∨ ex ≤ l ∨ ∃ (z : Int32) (op : CmpOp), z = Op.cmpValue (FP.dcmp mm FP.dconst1) op ∧ ¬ z.toInt < 0) : ∀ s c q, pkH x0 w l s c q → vD mm = .fin false c (-52) ∧ ex = q + 52 := fun s c q H => by
  obtain ⟨g1, g2⟩ := h s c q H
  obtain ⟨h1, h2, h3, h4, h5⟩ := H
  have k : q - ex = -52 := by
    rcases hx with hx | hx | ⟨z, op, e, hz⟩
    · omega
    · omega
    · have cm := dv_cm (fin_dv g1 h2.1 h2.2 (by omega) (by omega)) dv_1 e
      unfold cmQ at cm
      have lt := lt_pow (d := 4503599627370496) (k := -52) h2.1 h2.2 rfl (show -400 ≤ q - ex by omega) (by decide +kernel)
      have : ¬ q - ex < -52 := fun h9 => hz (cm.1.2 (lt.2 h9))
      omega
  rw [k] at g1
  exact ⟨g1, by omega⟩
theorem pk_x52 {w : Int32} (h : w.toInt = 52) : w = 52 := Int32.toInt_inj.1 (h.trans (by decide +kernel))
theorem pk_x23 {w : Int32} (h : w.toInt = 23) : w = 23 := Int32.toInt_inj.1 (h.trans (by decide +kernel))
theorem vD_w52 : vD (FP.l2d ((1 : Int64) <<< ((52 : Int32).toInt64 &&& 63))) = .fin false 4503599627370496 0 := by decide +kernel
theorem vD_w23 : vD (FP.l2d ((1 : Int64) <<< ((23 : Int32).toInt64 &&& 63))) = .fin false 4503599627370496 (-29) := by decide +kernel
theorem sh52_f : ∀ a : Fin 2048, ((Int64.ofInt (a.val : Int)) <<< ((52 : Int32).toInt64 &&& 63)).toInt = (a.val : Int) * 4503599627370496 := by decide +kernel
theorem sh23_f : ∀ a : Fin 2048, ((Int64.ofInt (a.val : Int)) <<< ((23 : Int32).toInt64 &&& 63)).toInt = (a.val : Int) * 8388608 := by decide +kernel
theorem l_ofInt {x : Int64} {k : Int} (h : x.toInt = k) : x = Int64.ofInt k := by
  apply Int64.toInt_inj.1
  rw [h, Int64.toInt_ofInt_of_le (by have := Int64.le_toInt x; omega) (by have := Int64.toInt_lt x; omega)]
theorem sh_52 {x : Int64} (h : 0 ≤ x.toInt ∧ x.toInt < 2048) : (x <<< ((52 : Int32).toInt64 &&& 63)).toInt = x.toInt * 4503599627370496 := by
  have k : ((Int64.ofInt ((x.toInt.toNat : Nat) : Int)) <<< ((52 : Int32).toInt64 &&& 63)).toInt = ((x.toInt.toNat : Nat) : Int) * 4503599627370496 := sh52_f ⟨x.toInt.toNat, by omega⟩
  have e : ((x.toInt.toNat : Nat) : Int) = x.toInt := by omega
  have e3 : Int64.ofInt x.toInt = x := (l_ofInt rfl).symm
  rw [e, e3] at k
  exact k
theorem sh_23 {x : Int64} (h : 0 ≤ x.toInt ∧ x.toInt < 2048) : (x <<< ((23 : Int32).toInt64 &&& 63)).toInt = x.toInt * 8388608 := by
  have k : ((Int64.ofInt ((x.toInt.toNat : Nat) : Int)) <<< ((23 : Int32).toInt64 &&& 63)).toInt = ((x.toInt.toNat : Nat) : Int) * 8388608 := sh23_f ⟨x.toInt.toNat, by omega⟩
  have e : ((x.toInt.toNat : Nat) : Int) = x.toInt := by omega
  have e3 : Int64.ofInt x.toInt = x := (l_ofInt rfl).symm
  rw [e, e3] at k
  exact k
theorem d2l_fin {x : UInt64} {c : Nat} {q : Int} (h : vD x = .fin false c q) (hc : c * 2 ^ q.toNat / 2 ^ (-q).toNat < 2 ^ 62) : (FP.d2l x).toInt = ((c * 2 ^ q.toNat / 2 ^ (-q).toNat : Nat) : Int) := by
  show (Int64.ofInt (FP.Core.toInt (-2 ^ 63) (2 ^ 63 - 1) (vD x))).toInt = _
  rw [h]
  show (Int64.ofInt (max (-2 ^ 63) (min (2 ^ 63 - 1) ((c * 2 ^ q.toNat / 2 ^ (-q).toNat : Nat) : Int)))).toInt = _
  generalize c * 2 ^ q.toNat / 2 ^ (-q).toNat = K at hc ⊢
  have e : max (-2 ^ 63) (min (2 ^ 63 - 1) ((K : Nat) : Int)) = (K : Int) := by omega
  rw [e, Int64.toInt_ofInt_of_le (by omega) (by omega)]
theorem l_addi {x y : Int64} (h1 : -9223372036854775808 ≤ x.toInt + y.toInt) (h2 : x.toInt + y.toInt < 9223372036854775808) : (x + y).toInt = x.toInt + y.toInt := by
  rw [Int64.toInt_add]
  exact Int.bmod_eq_of_le (by omega) (by omega)
/-- what packed answers -/
def pkQ (x0 : UInt64) (w l : Int) (r : Int64) : Prop := (∀ s c q, pkH x0 w l s c q → (w = 52 → r.toInt = (q + 1074) * 4503599627370496 + (c : Int)) ∧ (w = 23 → r.toInt = (q + 178) * 8388608 + ((c / 536870912 : Nat) : Int))) ∧ (∀ s q, vD x0 = .fin s 0 q → r.toInt = 0)
theorem pk_fin {x0 mm p : UInt64} {w l ex : Int32} {d r : Int64} {i : Int32} (h : ∀ s c q, pkH x0 w.toInt l.toInt s c q → vD mm = .fin false c (-52) ∧ ex.toInt = q + 52) (a : alike64 p (FP.dmul mm (FP.l2d ((1 : Int64) <<< (w.toInt64 &&& 63)))) = true) (hd : d = FP.d2l p) (hi : i = ex - l) (hr : r = (i.toInt64 <<< (w.toInt64 &&& 63)) + d) (n0 : ∀ s q, ¬ vD x0 = .fin s 0 q) : pkQ x0 w.toInt l.toInt r := by
  refine ⟨fun s c q H => ?_, fun s q h9 => absurd h9 (n0 s q)⟩
  obtain ⟨g1, g2⟩ := h s c q H
  obtain ⟨h1, h2, h3, h4, h5⟩ := H
  have ei : i.toInt = ex.toInt - l.toInt := by
    rw [hi, Int32.toInt_sub]
    exact Int.bmod_eq_of_le (by omega) (by omega)
  have eL : i.toInt64.toInt = i.toInt := Int32.toInt_toInt64 i
  rcases h4 with ⟨w1, l1⟩ | ⟨w1, l1⟩
  · have ew := pk_x52 w1
    subst ew
    have m := mulp g1 vD_w52 h2.1 h2.2 (by decide +kernel) (by decide +kernel)
    rw [fin_al m a] at hd
    have k := d2l_fin (c := c) (q := -52 + 0 + 52) m (show c * 1 / 1 < 2 ^ 62 by omega)
    rw [← hd] at k
    have k2 : d.toInt = (c : Int) := by rw [k]; show ((c * 1 / 1 : Nat) : Int) = _; omega
    have s1 := sh_52 (x := i.toInt64) (by omega)
    have r1 : r.toInt = i.toInt64.toInt * 4503599627370496 + (c : Int) := by
      rw [hr, l_addi (by rw [s1, k2]; omega) (by rw [s1, k2]; omega), s1, k2]
    refine ⟨fun _ => ?_, fun h9 => absurd (h9.symm.trans w1) (by decide +kernel)⟩
    rw [r1, eL, ei, g2, l1]
    omega
  · have ew := pk_x23 w1
    subst ew
    have m := mulp g1 vD_w23 h2.1 h2.2 (by decide +kernel) (by decide +kernel)
    rw [fin_al m a] at hd
    have k := d2l_fin (c := c) (q := -52 + -29 + 52) m (show c * 1 / 536870912 < 2 ^ 62 by omega)
    rw [← hd] at k
    have k2 : d.toInt = ((c / 536870912 : Nat) : Int) := by rw [k]; show ((c * 1 / 536870912 : Nat) : Int) = _; omega
    have s1 := sh_23 (x := i.toInt64) (by omega)
    have r1 : r.toInt = i.toInt64.toInt * 8388608 + ((c / 536870912 : Nat) : Int) := by
      rw [hr, l_addi (by rw [s1, k2]; omega) (by rw [s1, k2]; omega), s1, k2]
    refine ⟨fun h9 => absurd (h9.symm.trans w1) (by decide +kernel), fun _ => ?_⟩
    rw [r1, eL, ei, g2, l1]
    omega
theorem pk_zero {x0 mm : UInt64} {w l : Int} {z z1 : Int32} {op op1 : CmpOp} (e1 : z1 = Op.cmpValue (FP.dcmp x0 FP.dconst0) op1) (hl : (z1.toInt < 0 ∧ mm = FP.dneg x0) ∨ (¬ z1.toInt < 0 ∧ mm = x0)) (e : z = Op.cmpValue (FP.dcmp mm FP.dconst0) op) (hz : z.toInt = 0) : pkQ x0 w l 0 := by
  refine ⟨fun s c q H => ?_, fun s q _ => rfl⟩
  have k := pk1_0 (w := w) (l := l) e1 hl s c q H
  obtain ⟨h1, h2, h3, h4, h5⟩ := H
  rw [show q - 0 = q by omega] at k
  have d := fin_dv k.1 h2.1 h2.2 h3.1 h3.2
  have np := norm_pos (a := (q + 400).toNat) h2.1
  have sg := (dv_sg d e).2.1 hz
  exact absurd sg (by omega)
theorem pk_nz {x0 mm : UInt64} {z z1 : Int32} {op op1 : CmpOp} (e1 : z1 = Op.cmpValue (FP.dcmp x0 FP.dconst0) op1) (hl : (z1.toInt < 0 ∧ mm = FP.dneg x0) ∨ (¬ z1.toInt < 0 ∧ mm = x0)) (e : z = Op.cmpValue (FP.dcmp mm FP.dconst0) op) (hz : ¬ z.toInt = 0) : ∀ s q, ¬ vD x0 = .fin s 0 q := fun s q h => by
  have b := (vD_bits h).1.2.2.2 (by decide +kernel)
  have d : dv x0 s 0 := ⟨0, q, h, Or.inl ⟨rfl, b, rfl⟩⟩
  have s1 := dv_sg d e1
  rcases hl with ⟨a, b⟩ | ⟨a, b⟩
  · exact absurd rfl (s1.1.1 a).2
  · rw [b] at e
    exact hz ((dv_sg d e).2.2 rfl)
/-- what isNegative answers -/
def ngQ (x0 : UInt64) (r : Int32) : Prop := ∀ s n, dv x0 s n → (r.toInt = 0 ↔ s = false)
theorem ng_1 {x0 : UInt64} {z : Int32} {op : CmpOp} {r : Int32} (e : z = Op.cmpValue (FP.dcmp x0 FP.dconst0) op) (hz : z.toInt < 0) (hr : r.toInt = 1) : ngQ x0 r := fun s n h => by
  have k := (dv_sg h e).1.1 hz
  rw [k.1, hr]
  exact ⟨fun h9 => absurd h9 (by decide +kernel), fun h9 => absurd h9 (by decide +kernel)⟩
theorem ng_2 {x0 : UInt64} {z z2 : Int32} {op op2 : CmpOp} {r : Int32} (e : z = Op.cmpValue (FP.dcmp x0 FP.dconst0) op) (hz : ¬ z.toInt < 0) (e2 : z2 = Op.cmpValue (FP.dcmp x0 FP.dconst0) op2) (hz2 : ¬ z2.toInt = 0) (hr : r.toInt = 0) : ngQ x0 r := fun s n h => by
  have k := (dv_sg h e)
  have k2 := (dv_sg h e2)
  refine ⟨fun _ => ?_, fun _ => hr⟩
  cases s
  · rfl
  · exact absurd (k.1.2 ⟨rfl, fun h9 => hz2 (k2.2.2 h9)⟩) hz
theorem vD_inf (s : Bool) : vD (UInt64.ofNat (FP.Core.encode FP.Core.b64 (.inf s))) = .inf s := by cases s <;> decide +kernel
theorem nan_inf (s : Bool) : isNaN64 (UInt64.ofNat (FP.Core.encode FP.Core.b64 (.inf s))) = false := by cases s <;> decide +kernel
theorem cmp_inf (s : Bool) (op : CmpOp) : ((Op.cmpValue (FP.dcmp (UInt64.ofNat (FP.Core.encode FP.Core.b64 (.inf s))) FP.dconst0) op).toInt < 0) ↔ s = true := by cases s <;> cases op <;> decide +kernel
theorem ng_3 {x0 p : UInt64} {z2 z3 : Int32} {op2 op3 : CmpOp} {r : Int32} (e2 : z2 = Op.cmpValue (FP.dcmp x0 FP.dconst0) op2) (hz2 : z2.toInt = 0) (a : alike64 p (FP.ddiv FP.dconst1 x0) = true) (e3 : z3 = Op.cmpValue (FP.dcmp p FP.dconst0) op3) (hr : (z3.toInt < 0 ∧ r.toInt = 1) ∨ (¬ z3.toInt < 0 ∧ r.toInt = 0)) : ngQ x0 r := fun s n h => by
  have k2 := (dv_sg h e2).2.1 hz2
  subst k2
  obtain ⟨c, q, g, h⟩ := h
  have hc : c = 0 := by
    rcases h with ⟨a1, a2, a3⟩ | ⟨a1, a2, a3, a4, a5⟩
    · exact a1
    · have := norm_pos (a := (q + 400).toNat) a1; omega
  subst hc
  have sh : FP.ddiv FP.dconst1 x0 = UInt64.ofNat (FP.Core.encode FP.Core.b64 (.inf s)) := by
    show UInt64.ofNat (FP.Core.encode FP.Core.b64 (FP.Core.quotient FP.Core.b64 (vD FP.dconst1) (vD x0))) = _
    rw [vD_1, g]
    show UInt64.ofNat (FP.Core.encode FP.Core.b64 (.inf (false != s))) = _
    cases s <;> rfl
  rw [sh] at a
  have hp : p = UInt64.ofNat (FP.Core.encode FP.Core.b64 (.inf s)) := by
    unfold alike64 at a
    rw [nan_inf, Bool.and_false, Bool.or_false] at a
    exact of_decide_eq_true a
  rw [hp] at e3
  have c := cmp_inf s op3
  rw [← e3] at c
  rcases hr with ⟨u, v⟩ | ⟨u, v⟩
  · rw [v, c.1 u]
    exact ⟨fun h9 => absurd h9 (by decide +kernel), fun h9 => absurd h9 (by decide +kernel)⟩
  · refine ⟨fun _ => ?_, fun _ => v⟩
    cases s
    · rfl
    · exact absurd (c.2 rfl) u
theorem l_u {b : Int64} {K : Nat} (h : b.toInt = (K : Int)) : b.toUInt64.toNat = K := by
  have hh : b.toInt = ((b.toUInt64.toNat : Nat) : Int).bmod (2 ^ 64) := by
    rw [← Int64.toInt_toBitVec, BitVec.toInt_eq_toNat_bmod]; rfl
  have hb : b.toUInt64.toNat < 18446744073709551616 := b.toUInt64.toNat_lt
  have ht := Int64.toInt_lt b
  rw [h] at hh ht
  generalize b.toUInt64.toNat = n at hh hb ⊢
  simp only [Int.bmod] at hh
  split at hh <;> omega
theorem i_u {b : Int32} {K : Nat} (h : b.toInt = (K : Int)) : b.toUInt32.toNat = K := by
  have hh : b.toInt = ((b.toUInt32.toNat : Nat) : Int).bmod (2 ^ 32) := by
    rw [← Int32.toInt_toBitVec, BitVec.toInt_eq_toNat_bmod]; rfl
  have hb : b.toUInt32.toNat < 4294967296 := b.toUInt32.toNat_lt
  have ht := Int32.toInt_lt b
  rw [h] at hh ht
  generalize b.toUInt32.toNat = n at hh hb ⊢
  simp only [Int.bmod] at hh
  split at hh <;> omega
theorem l_of_u {b : Int64} {x : UInt64} (h : b.toUInt64 = x) : b = x.toInt64 := by subst h; rfl
theorem i_of_u {b : Int32} {x : UInt32} (h : b.toUInt32 = x) : b = x.toInt32 := by subst h; rfl
theorem lor_pw {a i : Nat} (ha : a < 2 ^ i) : a ||| 2 ^ i = a + 2 ^ i := by
  have e : (2 ^ i * 0 + a) ||| (2 ^ i * 1 + 0) = 2 ^ i * 1 + a := by
    apply Nat.eq_of_testBit_eq
    intro j
    rw [Nat.testBit_or, Nat.testBit_two_pow_mul_add _ ha, Nat.testBit_two_pow_mul_add _ (Nat.two_pow_pos i), Nat.testBit_two_pow_mul_add _ ha]
    split
    · rw [Nat.zero_testBit, Bool.or_false]
    · rw [Nat.zero_testBit, Bool.false_or]
  rw [Nat.mul_zero, Nat.zero_add, Nat.mul_one, Nat.add_zero] at e
  rw [e, Nat.add_comm]
theorem bits_end {x : UInt64} {b r : Int64} {g : Int32} {s : Bool} {K : Nat} (hb : b.toInt = (K : Int)) (hx : x.toNat = (if s = true then 9223372036854775808 else 0) + K) (hK : K < 9223372036854775808) (hg : g.toInt = 0 ↔ s = false) (hr : (g.toInt = 0 ∧ r = b) ∨ (¬ g.toInt = 0 ∧ r = (b ||| (-9223372036854775808)))) : r = x.toInt64 := by
  apply l_of_u
  apply UInt64.toNat_inj.1
  have u := l_u hb
  cases s
  · rw [if_neg (show ¬ (false = true) by decide)] at hx
    rcases hr with ⟨a, rfl⟩ | ⟨a, _⟩
    · rw [u, hx, Nat.zero_add]
    · exact absurd (hg.2 rfl) a
  · rw [if_pos rfl] at hx
    rcases hr with ⟨a, _⟩ | ⟨a, rfl⟩
    · exact absurd (hg.1 a) (by decide +kernel)
    · rw [Int64.toUInt64_or, UInt64.toNat_or, u, hx]
      have e : ((-9223372036854775808 : Int64)).toUInt64.toNat = 2 ^ 63 := by decide
      rw [e, lor_pw (show K < 2 ^ 63 from hK)]
      omega
theorem bits_end32 {x : UInt32} {b r : Int32} {g : Int32} {s : Bool} {K : Nat} (hb : b.toInt = (K : Int)) (hx : x.toNat = (if s = true then 2147483648 else 0) + K) (hK : K < 2147483648) (hg : g.toInt = 0 ↔ s = false) (hr : (g.toInt = 0 ∧ r = b) ∨ (¬ g.toInt = 0 ∧ r = (b ||| (-2147483648)))) : r = x.toInt32 := by
  apply i_of_u
  apply UInt32.toNat_inj.1
  have u := i_u hb
  cases s
  · rw [if_neg (show ¬ (false = true) by decide)] at hx
    rcases hr with ⟨a, rfl⟩ | ⟨a, _⟩
    · rw [u, hx, Nat.zero_add]
    · exact absurd (hg.2 rfl) a
  · rw [if_pos rfl] at hx
    rcases hr with ⟨a, _⟩ | ⟨a, rfl⟩
    · exact absurd (hg.1 a) (by decide +kernel)
    · rw [Int32.toUInt32_or, UInt32.toNat_or, u, hx]
      have e : ((-2147483648 : Int32)).toUInt32.toNat = 2 ^ 31 := by decide
      rw [e, lor_pw (show K < 2 ^ 31 from hK)]
      omega
/-- what doubleBits answers -/
def dbQ (x0 : UInt64) (r : Int64) : Prop := ∀ s n, dv x0 s n → r = x0.toInt64
theorem db_fin {x0 : UInt64} {w l : Int} {b r : Int64} {g : Int32} (hb : pkQ x0 w l b) (hw : w = 52) (hl : l = -1022) (hg : ngQ x0 g) (hr : (g.toInt = 0 ∧ r = b) ∨ (¬ g.toInt = 0 ∧ r = (b ||| (-9223372036854775808)))) : dbQ x0 r := fun s n h => by
  have hs := hg s n h
  obtain ⟨c, q, e, h⟩ := h
  have xb := (vD_bits e).2
  rcases h with ⟨a1, a2, a3⟩ | ⟨a1, a2, a3, a4, a5⟩
  · subst a1
    rw [if_pos (show 0 < 4503599627370496 by decide)] at xb
    exact bits_end (K := 0) (hb.2 s q e) xb (by decide +kernel) hs hr
  · rw [if_neg (show ¬ c < 4503599627370496 by omega)] at xb
    have k := (hb.1 s c q ⟨e, ⟨a1, a2⟩, ⟨a3, a4⟩, Or.inl ⟨hw, hl⟩, by omega⟩).1 hw
    refine bits_end (K := (q + 1074).toNat * 4503599627370496 + c) ?_ xb (by omega) hs hr
    rw [k]
    omega
theorem vD_f2d {x : UInt32} {s : Bool} {c : Nat} {q : Int} (h : vF x = .fin s c q) (n : zn32 c q) : ∃ (c' : Nat) (q' : Int), vD (FP.f2d x) = .fin s c' q' ∧ ((c = 0 ∧ c' = 0 ∧ q' = -1074) ∨ ((8388608 ≤ c ∧ c < 16777216 ∧ -149 ≤ q ∧ q ≤ 104) ∧ c' = c * 536870912 ∧ q' = q - 29)) := by
  obtain ⟨t1, t2, t3, t4, t5, t6⟩ := fm64
  have e1 : FP.f2d x = UInt64.ofNat (FP.Core.encode FP.Core.b64 (FP.Core.round FP.Core.b64 (vF x))) := by
    show (if FP.Core.fIsNaN x = true then _ else _) = _
    rw [if_neg (fun h9 => by
      have h8 : vF x = .nan := of_decide_eq_true h9
      rw [h] at h8
      cases h8)]
    rfl
  rw [e1, h]
  rcases n with ⟨a1, a2⟩ | ⟨a1, a2, a3, a4⟩
  · subst a1
    exact ⟨0, -1074, mk64 (Or.inl ⟨rfl, rfl⟩) (rr_0 _ _ _), Or.inl ⟨rfl, rfl, rfl⟩⟩
  · refine ⟨c * 536870912, q - 29, mk64 (Or.inr ⟨by omega, by omega, by omega, by omega⟩) ?_, Or.inr ⟨⟨a1, a2, a3, a4⟩, rfl, rfl⟩⟩
    exact rr_pow (f := FP.Core.b64) (s := s) (A := c) (N := 23) (b := 0) (M := c * 536870912) (e := q) (q := q - 29) a1 a2 (by omega) (by omega) (by omega) (by rw [show (q - 29 - q).toNat = 0 by omega, show (q - (q - 29)).toNat = 29 by omega] <;> simp) (by rw [t5]; omega)
/-- what floatBits answers -/
def fbQ (x0 : UInt32) (r : Int32) : Prop := ∀ s c q, vF x0 = .fin s c q → zn32 c q → r = x0.toInt32
theorem fb_fin {x0 : UInt32} {y1 y2 : UInt64} {w l : Int} {b : Int64} {bi g r : Int32} (a1 : alike64 y1 (FP.f2d x0) = true) (hb : pkQ y1 w l b) (hw : w = 23) (hl : l = -126) (hi : bi = b.toInt32) (a2 : alike64 y2 (FP.f2d x0) = true) (hg : ngQ y2 g) (hr : (g.toInt = 0 ∧ r = bi) ∨ (¬ g.toInt = 0 ∧ r = (bi ||| (-2147483648)))) : fbQ x0 r := fun s c q h n => by
  obtain ⟨c', q', e, k⟩ := vD_f2d h n
  have ey1 := fin_al e a1
  have ey2 := fin_al e a2
  subst ey1 ey2
  have xb := (vF_bits h).2
  have bi' : ∀ K : Nat, K < 2147483648 → b.toInt = (K : Int) → bi.toInt = (K : Int) := fun K hK hb => by
    rw [hi, Int64.toInt_toInt32, hb]
    exact Int.bmod_eq_of_le (by omega) (by omega)
  rcases k with ⟨k1, k2, k3⟩ | ⟨⟨k1, k2, k3, k4⟩, k5, k6⟩
  · subst k1 k2 k3
    rw [if_pos (show 0 < 8388608 by decide)] at xb
    have hs := hg s 0 ⟨0, -1074, e, Or.inl ⟨rfl, rfl, rfl⟩⟩
    exact bits_end32 (K := 0) (bi' 0 (by decide +kernel) (hb.2 s _ e)) xb (by decide +kernel) hs hr
  · rw [if_neg (show ¬ c < 8388608 by omega)] at xb
    subst k5 k6
    have hs := hg s _ ⟨c * 536870912, q - 29, e, Or.inr ⟨by omega, by omega, by omega, by omega, rfl⟩⟩
    have k := (hb.1 s _ _ ⟨e, ⟨by omega, by omega⟩, ⟨by omega, by omega⟩, Or.inr ⟨hw, hl⟩, by omega⟩).2 hw
    rw [Nat.mul_div_cancel _ (by decide +kernel)] at k
    refine bits_end32 (K := (q + 149).toNat * 8388608 + c) (bi' _ (by omega) ?_) xb (by omega) hs hr
    rw [k]
    omega
theorem rr_int {s : Bool} {K : Nat} (h0 : 0 < K) (h1 : K < 18446744073709551616) : ∃ (c : Nat) (q : Int), FP.Core.roundRatio FP.Core.b64 s K 1 0 = .fin s c q ∧ (4503599627370496 ≤ c ∧ c < 9007199254740992) ∧ -52 ≤ q ∧ q ≤ 12 := by
  by_cases hb : K < 9007199254740992
  · obtain ⟨c, q, w1, w2, w3, w4, w5, w6⟩ := rr_nat (s := s) (K := K) (m := 0) h0 hb (by decide +kernel) (by decide +kernel)
    exact ⟨c, q, w1, ⟨w2, w3⟩, by omega, by omega⟩
  obtain ⟨t1, t2, t3, t4, t5, t6⟩ := fm64
  have l1 : 2 ^ K.log2 ≤ K := Nat.log2_self_le (by omega)
  have l2 : K < 2 ^ (K.log2 + 1) := Nat.lt_log2_self
  have l3 : K.log2 < 64 := (Nat.pow_lt_pow_iff_right (by decide : 1 < 2)).1 (Nat.lt_of_le_of_lt l1 (show K < 2 ^ 64 from h1))
  have l4 : 53 < K.log2 + 1 + 1 := (Nat.pow_lt_pow_iff_right (by decide : 1 < 2)).1 (Nat.lt_of_le_of_lt (show 2 ^ 53 ≤ K by omega) (Nat.lt_of_lt_of_le l2 (Nat.pow_le_pow_right (by decide +kernel) (by omega))))
  have lead : FP.Core.leading K 1 = (K.log2 : Int) := by
    have lB : (1 : Nat).log2 = 0 := by decide
    show (if 1 * 2 ^ ((K.log2 : Int) - (((1 : Nat).log2 : Nat) : Int)).toNat ≤ K * 2 ^ (-((K.log2 : Int) - (((1 : Nat).log2 : Nat) : Int))).toNat then (K.log2 : Int) - (((1 : Nat).log2 : Nat) : Int) else (K.log2 : Int) - (((1 : Nat).log2 : Nat) : Int) - 1) = _
    rw [lB]
    generalize K.log2 = N at l1
    rw [show ((N : Int) - ((0 : Nat) : Int)).toNat = N by omega, show (-((N : Int) - ((0 : Nat) : Int))).toNat = 0 by omega, Nat.pow_zero, Nat.one_mul, Nat.mul_one, if_pos l1]
    omega
  generalize K.log2 = N at l1 l2 l3 l4 lead
  have hq : FP.Core.quantum FP.Core.b64 K 1 0 = (N : Int) - 52 := by unfold FP.Core.quantum; rw [lead, t3, t6]; omega
  have en : FP.Core.unitsNum K 0 ((N : Int) - 52) = K := by
    unfold FP.Core.unitsNum
    rw [show (0 - ((N : Int) - 52)).toNat = 0 by omega, Nat.pow_zero, Nat.mul_one]
  have ed : FP.Core.unitsDen 1 0 ((N : Int) - 52) = 2 ^ (N - 52) := by
    unfold FP.Core.unitsDen
    rw [show ((N : Int) - 52 - 0).toNat = N - 52 by omega, Nat.one_mul]
  have n1 : 4503599627370496 ≤ FP.Core.nearest K (2 ^ (N - 52)) := by
    refine near_ge (Nat.two_pow_pos _) ?_
    calc 4503599627370496 * 2 ^ (N - 52) = 2 ^ 52 * 2 ^ (N - 52) := rfl
      _ = 2 ^ N := by rw [← Nat.pow_add, show 52 + (N - 52) = N by omega]
      _ ≤ K := l1
  have n2 : FP.Core.nearest K (2 ^ (N - 52)) ≤ 9007199254740992 := by
    refine near_le (Nat.two_pow_pos _) ?_
    calc K ≤ 2 ^ (N + 1) := Nat.le_of_lt l2
      _ = 2 ^ 53 * 2 ^ (N - 52) := by rw [← Nat.pow_add, show 53 + (N - 52) = N + 1 by omega]
      _ = 9007199254740992 * 2 ^ (N - 52) := rfl
  have sh : FP.Core.roundRatio FP.Core.b64 s K 1 0 = FP.Core.settle FP.Core.b64 s (FP.Core.nearest K (2 ^ (N - 52))) ((N : Int) - 52) := by
    unfold FP.Core.roundRatio
    rw [if_neg (by omega), hq]
    unfold FP.Core.roundAt
    rw [en, ed]
  rw [sh]
  generalize FP.Core.nearest K (2 ^ (N - 52)) = M at n1 n2
  unfold FP.Core.settle FP.Core.bound
  rw [t5, t1]
  by_cases hN : M < 9007199254740992
  · rw [if_pos hN, if_pos (by omega)]
    exact ⟨M, (N : Int) - 52, rfl, ⟨n1, hN⟩, by omega, by omega⟩
  · rw [if_neg hN, if_pos (by omega)]
    exact ⟨4503599627370496, (N : Int) - 52 + 1, rfl, ⟨by decide, by decide⟩, by omega, by omega⟩
theorem vD_l2d {a : Int64} (h0 : a.toInt ≠ 0) : ∃ (c : Nat) (q : Int), vD (FP.l2d a) = .fin (decide (a.toInt < 0)) c q ∧ (4503599627370496 ≤ c ∧ c < 9007199254740992) ∧ -52 ≤ q ∧ q ≤ 12 := by
  have r1 := Int64.le_toInt a
  have r2 := Int64.toInt_lt a
  obtain ⟨c, q, w1, w2, w3, w4⟩ := rr_int (s := decide (a.toInt < 0)) (K := a.toInt.natAbs) (by omega) (by omega)
  refine ⟨c, q, ?_, w2, w3, w4⟩
  show vD (UInt64.ofNat (FP.Core.encode FP.Core.b64 (FP.Core.roundRatio FP.Core.b64 (decide (a.toInt < 0)) a.toInt.natAbs 1 0))) = _
  exact mk64 (Or.inr ⟨w2.1, w2.2, by omega, by omega⟩) w1
theorem rr_div {s : Bool} {A B : Nat} {e : Int} (hA : 4503599627370496 ≤ A) (hA2 : A < 9007199254740992) (hB : 4503599627370496 ≤ B) (hB2 : B < 9007199254740992) (he : -500 ≤ e) (he2 : e ≤ 500) : ∃ (c : Nat) (q : Int), FP.Core.roundRatio FP.Core.b64 s A B e = .fin s c q ∧ (4503599627370496 ≤ c ∧ c < 9007199254740992) ∧ e - 53 ≤ q ∧ q ≤ e - 51 := by
  obtain ⟨t1, t2, t3, t4, t5, t6⟩ := fm64
  have lA : A.log2 = 52 := lg_is hA hA2
  have lB : B.log2 = 52 := lg_is hB hB2
  have lead : (B ≤ A ∧ FP.Core.leading A B = 0) ∨ (A < B ∧ FP.Core.leading A B = -1) := by
    have sh : FP.Core.leading A B = (if B * 2 ^ ((A.log2 : Int) - (B.log2 : Int)).toNat ≤ A * 2 ^ (-((A.log2 : Int) - (B.log2 : Int))).toNat then (A.log2 : Int) - (B.log2 : Int) else (A.log2 : Int) - (B.log2 : Int) - 1) := rfl
    rw [lA, lB] at sh
    rw [show (((52 : Nat) : Int) - ((52 : Nat) : Int)).toNat = 0 by decide, show (-(((52 : Nat) : Int) - ((52 : Nat) : Int))).toNat = 0 by decide, Nat.pow_zero, Nat.mul_one, Nat.mul_one] at sh
    by_cases h : B ≤ A
    · rw [if_pos h] at sh; exact Or.inl ⟨h, by rw [sh]; rfl⟩
    · rw [if_neg h] at sh; exact Or.inr ⟨by omega, by rw [sh]; rfl⟩
  have main : ∀ (q0 : Int) (N : Nat), FP.Core.quantum FP.Core.b64 A B e = q0 → FP.Core.nearest (FP.Core.unitsNum A e q0) (FP.Core.unitsDen B e q0) = N → 4503599627370496 ≤ N → N ≤ 9007199254740992 → -600 ≤ q0 → q0 ≤ 600 → ∃ (c : Nat) (q : Int), FP.Core.roundRatio FP.Core.b64 s A B e = .fin s c q ∧ (4503599627370496 ≤ c ∧ c < 9007199254740992) ∧ q0 ≤ q ∧ q ≤ q0 + 1 := fun q0 N hq hN n1 n2 q1 q2 => by
    have sh : FP.Core.roundRatio FP.Core.b64 s A B e = FP.Core.settle FP.Core.b64 s N q0 := by
      unfold FP.Core.roundRatio
      rw [if_neg (by omega), hq]
      unfold FP.Core.roundAt
      rw [hN]
    rw [sh]
    unfold FP.Core.settle FP.Core.bound
    rw [t5, t1]
    by_cases h : N < 9007199254740992
    · rw [if_pos h, if_pos (by omega)]
      exact ⟨N, q0, rfl, ⟨n1, h⟩, by omega, by omega⟩
    · rw [if_neg h, if_pos (by omega)]
      exact ⟨4503599627370496, q0 + 1, rfl, ⟨by decide, by decide⟩, by omega, by omega⟩
  rcases lead with ⟨h, l⟩ | ⟨h, l⟩
  · have hq : FP.Core.quantum FP.Core.b64 A B e = e - 52 := by unfold FP.Core.quantum; rw [l, t3, t6]; omega
    have h8 : (e - (e - 52)).toNat = 52 := by omega
    have en : FP.Core.unitsNum A e (e - 52) = A * 4503599627370496 := congrArg (fun z => A * 2 ^ z) h8
    have ed : FP.Core.unitsDen B e (e - 52) = B := by
      unfold FP.Core.unitsDen
      rw [show (e - 52 - e).toNat = 0 by omega, Nat.pow_zero, Nat.mul_one]
    obtain ⟨c, q, w1, w2, w3, w4⟩ := main (e - 52) _ hq rfl (by rw [en, ed]; exact near_ge (by omega) (by omega)) (by rw [en, ed]; exact near_le (by omega) (by omega)) (by omega) (by omega)
    exact ⟨c, q, w1, w2, by omega, by omega⟩
  · have hq : FP.Core.quantum FP.Core.b64 A B e = e - 53 := by unfold FP.Core.quantum; rw [l, t3, t6]; omega
    have h8 : (e - (e - 53)).toNat = 53 := by omega
    have en : FP.Core.unitsNum A e (e - 53) = A * 9007199254740992 := congrArg (fun z => A * 2 ^ z) h8
    have ed : FP.Core.unitsDen B e (e - 53) = B := by
      unfold FP.Core.unitsDen
      rw [show (e - 53 - e).toNat = 0 by omega, Nat.pow_zero, Nat.mul_one]
    obtain ⟨c, q, w1, w2, w3, w4⟩ := main (e - 53) _ hq rfl (by rw [en, ed]; exact near_ge (by omega) (by omega)) (by rw [en, ed]; exact near_le (by omega) (by omega)) (by omega) (by omega)
    exact ⟨c, q, w1, w2, by omega, by omega⟩
/-- a worth that is no zero, or zero itself -/
def wdH (v : UInt64) : Prop := ∃ (s : Bool) (c : Nat) (q : Int), vD v = .fin s c q ∧ ((c = 0 ∧ q = -1074 ∧ s = false) ∨ ((4503599627370496 ≤ c ∧ c < 9007199254740992) ∧ -120 ≤ q ∧ q ≤ 20))
/-- the same, but for a little more room above -/
def wdG (v : UInt64) : Prop := ∃ (s : Bool) (c : Nat) (q : Int), vD v = .fin s c q ∧ ((c = 0 ∧ q = -1074 ∧ s = false) ∨ ((4503599627370496 ≤ c ∧ c < 9007199254740992) ∧ -120 ≤ q ∧ q ≤ 40))
theorem wdH.G {v : UInt64} (h : wdH v) : wdG v := by
  obtain ⟨s, c, q, e, h⟩ := h
  refine ⟨s, c, q, e, ?_⟩
  rcases h with h | ⟨h1, h2, h3⟩
  · exact Or.inl h
  · exact Or.inr ⟨h1, h2, by omega⟩
theorem wd_div {a b : Int64} (hb : 1 ≤ b.toInt) : wdH (FP.ddiv (FP.l2d a) (FP.l2d b)) := by
  obtain ⟨d, r, g1, g2, g3, g4⟩ := vD_l2d (a := b) (by omega)
  have sb : decide (b.toInt < 0) = false := decide_eq_false (by omega)
  rw [sb] at g1
  have sh : vD (FP.ddiv (FP.l2d a) (FP.l2d b)) = vD (UInt64.ofNat (FP.Core.encode FP.Core.b64 (FP.Core.quotient FP.Core.b64 (vD (FP.l2d a)) (vD (FP.l2d b))))) := rfl
  by_cases h0 : a.toInt = 0
  · have e : vD (FP.l2d a) = .fin false 0 (-1074) := by
      have : a = 0 := Int64.toInt_inj.1 (h0.trans (by decide +kernel))
      subst this
      decide +kernel
    refine ⟨false, 0, -1074, ?_, Or.inl ⟨rfl, rfl, rfl⟩⟩
    rw [sh]
    refine mk64 (Or.inl ⟨rfl, rfl⟩) ?_
    rw [e, g1]
    show (if d = 0 then _ else FP.Core.roundRatio FP.Core.b64 (false != false) 0 d (-1074 - r)) = _
    rw [if_neg (by omega)]
    exact rr_0 _ _ _
  · obtain ⟨c, q, w1, w2, w3, w4⟩ := vD_l2d h0
    obtain ⟨c', q', u1, u2, u3, u4⟩ := rr_div (s := decide (a.toInt < 0)) (A := c) (B := d) (e := q - r) w2.1 w2.2 g2.1 g2.2 (by omega) (by omega)
    refine ⟨decide (a.toInt < 0), c', q', ?_, Or.inr ⟨u2, by omega, by omega⟩⟩
    rw [sh]
    refine mk64 (Or.inr ⟨u2.1, u2.2, by omega, by omega⟩) ?_
    rw [w1, g1]
    show (if d = 0 then _ else FP.Core.roundRatio FP.Core.b64 (decide (a.toInt < 0) != false) c d (q - r)) = _
    rw [if_neg (by omega), bne_f, u1]
theorem wd_dv {v : UInt64} (h : wdG v) : ∃ s n, dv v s n ∧ (n = 0 → s = false) ∧ (n = 0 ∨ pw 280 ≤ n) ∧ n ≤ pw 500 := by
  obtain ⟨s, c, q, e, h⟩ := h
  rcases h with ⟨a1, a2, a3⟩ | ⟨⟨a1, a2⟩, a3, a4⟩
  · exact ⟨s, 0, ⟨c, q, e, Or.inl ⟨a1, a2, rfl⟩⟩, fun _ => a3, Or.inl rfl, Nat.zero_le _⟩
  · have np := norm_pos (a := (q + 400).toNat) a1
    refine ⟨s, c * 2 ^ (q + 400).toNat, ⟨c, q, e, Or.inr ⟨a1, a2, by omega, by omega, rfl⟩⟩, fun h9 => by omega, Or.inr ?_, ?_⟩
    · calc pw 280 ≤ 4503599627370496 * 2 ^ 228 := by decide +kernel
        _ ≤ c * 2 ^ (q + 400).toNat := Nat.mul_le_mul a1 (Nat.pow_le_pow_right (by decide +kernel) (by omega))
    · calc c * 2 ^ (q + 400).toNat ≤ 9007199254740992 * pw 440 := Nat.mul_le_mul (Nat.le_of_lt a2) (pw_le (by omega))
        _ ≤ pw 500 := by decide +kernel
theorem vD_375 : vD 4600427019358961664 = .fin false 6755399441055744 (-54) := by decide +kernel
theorem vD_75 : vD 4604930618986332160 = .fin false 6755399441055744 (-53) := by decide +kernel
theorem vF_75 : vF 1061158912 = .fin false 12582912 (-24) := by decide +kernel
theorem rm_1 {v r : UInt64} (h : wdG v) (k : rmQ v FP.dconst1 r) : r = FP.drem v FP.dconst1 := by
  obtain ⟨s, n, d, n1, n2, n3⟩ := wd_dv h
  exact k s n _ ⟨d, dv_1, n1, n2, n3, by decide +kernel, by decide +kernel⟩
theorem dv_375 : dv 4600427019358961664 false (6755399441055744 * 2 ^ ((-54 : Int) + 400).toNat) := ⟨_, _, vD_375, Or.inr ⟨by decide, by decide, by decide, by decide, rfl⟩⟩
theorem dv_75 : dv 4604930618986332160 false (6755399441055744 * 2 ^ ((-53 : Int) + 400).toNat) := ⟨_, _, vD_75, Or.inr ⟨by decide, by decide, by decide, by decide, rfl⟩⟩
theorem rm_375 {v r : UInt64} (h : wdG v) (k : rmQ v 4600427019358961664 r) : r = FP.drem v 4600427019358961664 ∧ ∃ s n, dv r s n := by
  obtain ⟨s, n, d, n1, n2, n3⟩ := wd_dv h
  have e := k s n _ ⟨d, dv_375, n1, n2, n3, by decide +kernel, by decide +kernel⟩
  refine ⟨e, s, n % (6755399441055744 * 2 ^ ((-54 : Int) + 400).toNat), ?_⟩
  rw [e]
  exact dv_rem d dv_375 (by decide +kernel) n2
/-- a worth as a float -/
def wfH (f : UInt32) : Prop := ∃ (s : Bool) (c : Nat) (q : Int), vF f = .fin s c q ∧ ((c = 0 ∧ q = -149 ∧ s = false) ∨ ((8388608 ≤ c ∧ c < 16777216) ∧ -91 ≤ q ∧ q ≤ 50))
theorem d2f_fin {v : UInt64} {s : Bool} {c : Nat} {q : Int} (h : vD v = .fin s c q) : FP.d2f v = UInt32.ofNat (FP.Core.encode FP.Core.b32 (FP.Core.roundRatio FP.Core.b32 s c 1 q)) := by
  show (if FP.Core.dIsNaN v = true then _ else _) = _
  rw [if_neg (fun h9 => by
    have h8 : vD v = .nan := of_decide_eq_true h9
    rw [h] at h8
    cases h8)]
  show UInt32.ofNat (FP.Core.encode FP.Core.b32 (FP.Core.round FP.Core.b32 (vD v))) = _
  rw [h]; rfl
theorem rr_032 (s : Bool) (B : Nat) (e : Int) : FP.Core.roundRatio FP.Core.b32 s 0 B e = .fin s 0 (-149) := by
  unfold FP.Core.roundRatio
  rw [if_pos rfl, fm32.2.2.1]
theorem wf_d2f {v : UInt64} (h : wdH v) : wfH (FP.d2f v) := by
  obtain ⟨t1, t2, t3, t4, t5, t6⟩ := fm32
  obtain ⟨s, c, q, e, h⟩ := h
  rw [d2f_fin e]
  rcases h with ⟨a1, a2, a3⟩ | ⟨⟨a1, a2⟩, a3, a4⟩
  · subst a1
    exact ⟨s, 0, -149, mk32 (Or.inl ⟨rfl, rfl⟩) (rr_032 _ _ _), Or.inl ⟨rfl, rfl, a3⟩⟩
  · have lA : c.log2 = 52 := lg_is a1 a2
    have lB : (1 : Nat).log2 = 0 := by decide
    have lead : FP.Core.leading c 1 = 52 := by
      show (if 1 * 2 ^ ((c.log2 : Int) - (((1 : Nat).log2 : Nat) : Int)).toNat ≤ c * 2 ^ (-((c.log2 : Int) - (((1 : Nat).log2 : Nat) : Int))).toNat then (c.log2 : Int) - (((1 : Nat).log2 : Nat) : Int) else (c.log2 : Int) - (((1 : Nat).log2 : Nat) : Int) - 1) = 52
      rw [lA, lB]
      show (if 1 * 4503599627370496 ≤ c * 1 then (52 : Int) else 51) = 52
      rw [if_pos (by omega)]
    have hq : FP.Core.quantum FP.Core.b32 c 1 q = q + 29 := by unfold FP.Core.quantum; rw [lead, t3, t6]; omega
    have en : FP.Core.unitsNum c q (q + 29) = c := by
      unfold FP.Core.unitsNum
      rw [show (q - (q + 29)).toNat = 0 by omega, Nat.pow_zero, Nat.mul_one]
    have h8 : (q + 29 - q).toNat = 29 := by omega
    have ed : FP.Core.unitsDen 1 q (q + 29) = 536870912 := congrArg (fun z => 1 * 2 ^ z) h8
    have n1 : 8388608 ≤ FP.Core.nearest c 536870912 := near_ge (by decide +kernel) (by omega)
    have n2 : FP.Core.nearest c 536870912 ≤ 16777216 := near_le (by decide +kernel) (by omega)
    have sh : FP.Core.roundRatio FP.Core.b32 s c 1 q = FP.Core.settle FP.Core.b32 s (FP.Core.nearest c 536870912) (q + 29) := by
      unfold FP.Core.roundRatio
      rw [if_neg (by omega), hq]
      unfold FP.Core.roundAt
      rw [en, ed]
    rw [sh]
    generalize FP.Core.nearest c 536870912 = N at n1 n2
    unfold FP.Core.settle FP.Core.bound
    rw [t5, t1]
    by_cases hN : N < 16777216
    · rw [if_pos hN, if_pos (by omega)]
      exact ⟨s, N, q + 29, mk32 (Or.inr ⟨n1, hN, by omega, by omega⟩) rfl, Or.inr ⟨⟨n1, hN⟩, by omega, by omega⟩⟩
    · rw [if_neg hN, if_pos (by omega)]
      exact ⟨s, 8388608, q + 29 + 1, mk32 (Or.inr ⟨by decide, by decide, by omega, by omega⟩) rfl, Or.inr ⟨⟨by decide, by decide⟩, by omega, by omega⟩⟩
theorem wf_nz {f : UInt32} (h : wfH f) : ∃ s c q, vF f = .fin s c q ∧ zn32 c q := by
  obtain ⟨s, c, q, e, h⟩ := h
  refine ⟨s, c, q, e, ?_⟩
  rcases h with ⟨a1, a2, a3⟩ | ⟨⟨a1, a2⟩, a3, a4⟩
  · exact Or.inl ⟨a1, a2⟩
  · exact Or.inr ⟨a1, a2, by omega, by omega⟩
theorem wf_al {r f : UInt32} (h : wfH f) (a : alike32 r f = true) : r = f := by
  obtain ⟨s, c, q, e, _⟩ := h
  exact fin_al32 e a
theorem wf_f2d {f : UInt32} (h : wfH f) : wdG (FP.f2d f) := by
  obtain ⟨s, c, q, e, h⟩ := h
  rcases h with ⟨a1, a2, a3⟩ | ⟨⟨a1, a2⟩, a3, a4⟩
  · obtain ⟨c', q', g, k⟩ := vD_f2d e (Or.inl ⟨a1, a2⟩)
    refine ⟨s, c', q', g, Or.inl ?_⟩
    rcases k with ⟨k1, k2, k3⟩ | ⟨⟨k1, k2, k3, k4⟩, k5, k6⟩
    · exact ⟨k2, k3, a3⟩
    · omega
  · obtain ⟨c', q', g, k⟩ := vD_f2d e (Or.inr ⟨a1, a2, by omega, by omega⟩)
    refine ⟨s, c', q', g, Or.inr ?_⟩
    rcases k with ⟨k1, k2, k3⟩ | ⟨⟨k1, k2, k3, k4⟩, k5, k6⟩
    · omega
    · exact ⟨⟨by omega, by omega⟩, by omega, by omega⟩
/-- the remainder of floats is that of the same doubles -/
theorem fr_eq {f : UInt32} (h : wfH f) : FP.d2f (FP.drem (FP.f2d f) 4604930618986332160) = FP.frem f 1061158912 ∧ ∃ s c q, vF (FP.frem f 1061158912) = .fin s c q ∧ zn32 c q := by
  obtain ⟨t1, t2, t3, t4, t5, t6⟩ := fm64
  obtain ⟨u1, u2, u3, u4, u5, u6⟩ := fm32
  obtain ⟨s, c, q, e, h⟩ := h
  have shF : vF (FP.frem f 1061158912) = vF (UInt32.ofNat (FP.Core.encode FP.Core.b32 (FP.Core.round FP.Core.b32 (FP.Core.exactRemainder (vF f) (vF 1061158912))))) := rfl
  have hxF : FP.Core.exactRemainder (vF f) (vF 1061158912) = .fin s (FP.Core.inUnits c q (min q (-24)) % FP.Core.inUnits 12582912 (-24) (min q (-24))) (min q (-24)) := by
    rw [e, vF_75]; rfl
  have shD : vD (FP.drem (FP.f2d f) 4604930618986332160) = vD (UInt64.ofNat (FP.Core.encode FP.Core.b64 (FP.Core.round FP.Core.b64 (FP.Core.exactRemainder (vD (FP.f2d f)) (vD 4604930618986332160))))) := rfl
  rcases h with ⟨a1, a2, a3⟩ | ⟨⟨a1, a2⟩, a3, a4⟩
  · obtain ⟨c', q', g, k⟩ := vD_f2d e (Or.inl ⟨a1, a2⟩)
    have hc' : c' = 0 ∧ q' = -1074 := by
      rcases k with ⟨k1, k2, k3⟩ | ⟨⟨k1, k2, k3, k4⟩, k5, k6⟩
      · exact ⟨k2, k3⟩
      · omega
    obtain ⟨k2, k3⟩ := hc'
    subst a1 k2 k3
    have z1 : FP.Core.inUnits 0 q (min q (-24)) = 0 := Nat.zero_mul _
    rw [z1, Nat.zero_mod] at hxF
    have r1 : vF (FP.frem f 1061158912) = .fin s 0 (-149) := by
      rw [shF, hxF]
      exact mk32 (Or.inl ⟨rfl, rfl⟩) (rr_032 _ _ _)
    have r2 : vD (FP.drem (FP.f2d f) 4604930618986332160) = .fin s 0 (-1074) := by
      have hxD : FP.Core.exactRemainder (vD (FP.f2d f)) (vD 4604930618986332160) = .fin s (FP.Core.inUnits 0 (-1074) (min (-1074) (-53)) % FP.Core.inUnits 6755399441055744 (-53) (min (-1074) (-53))) (min (-1074) (-53)) := by
        rw [g, vD_75]; rfl
      have z2 : FP.Core.inUnits 0 (-1074) (min (-1074) (-53)) = 0 := Nat.zero_mul _
      rw [z2, Nat.zero_mod] at hxD
      rw [shD, hxD]
      exact mk64 (Or.inl ⟨rfl, rfl⟩) (rr_0 _ _ _)
    refine ⟨vF_inj (s := s) (c := 0) (q := -149) ?_ r1, s, 0, -149, r1, Or.inl ⟨rfl, rfl⟩⟩
    rw [d2f_fin r2]
    exact mk32 (Or.inl ⟨rfl, rfl⟩) (rr_032 _ _ _)
  · obtain ⟨c', q', g, k⟩ := vD_f2d e (Or.inr ⟨a1, a2, by omega, by omega⟩)
    have hc' : c' = c * 536870912 ∧ q' = q - 29 := by
      rcases k with ⟨k1, k2, k3⟩ | ⟨⟨k1, k2, k3, k4⟩, k5, k6⟩
      · omega
      · exact ⟨k5, k6⟩
    obtain ⟨k5, k6⟩ := hc'
    subst k5 k6
    have hxD : FP.Core.exactRemainder (vD (FP.f2d f)) (vD 4604930618986332160) = .fin s (FP.Core.inUnits (c * 536870912) (q - 29) (min (q - 29) (-53)) % FP.Core.inUnits 6755399441055744 (-53) (min (q - 29) (-53))) (min (q - 29) (-53)) := by
      rw [g, vD_75]; rfl
    have em : min (q - 29) (-53) = min q (-24) - 29 := by omega
    have i1 : FP.Core.inUnits (c * 536870912) (q - 29) (min (q - 29) (-53)) = FP.Core.inUnits c q (min q (-24)) * 536870912 := by
      unfold FP.Core.inUnits
      rw [em, show (q - 29 - (min q (-24) - 29)).toNat = (q - min q (-24)).toNat by omega, Nat.mul_assoc, Nat.mul_assoc, Nat.mul_comm 536870912]
    have i2 : FP.Core.inUnits 6755399441055744 (-53) (min (q - 29) (-53)) = FP.Core.inUnits 12582912 (-24) (min q (-24)) * 536870912 := by
      unfold FP.Core.inUnits
      rw [em, show (-53 - (min q (-24) - 29)).toNat = (-24 - min q (-24)).toNat by omega]
      omega
    rw [i1, i2, Nat.mul_mod_mul_right, em] at hxD
    have hC : q ≤ -24 → FP.Core.inUnits c q (min q (-24)) = c := fun h9 => by
      unfold FP.Core.inUnits
      rw [show (q - min q (-24)).toNat = 0 by omega, Nat.pow_zero, Nat.mul_one]
    have hD : -24 ≤ q → FP.Core.inUnits 12582912 (-24) (min q (-24)) = 12582912 := fun h9 => by
      unfold FP.Core.inUnits
      rw [show (-24 - min q (-24)).toNat = 0 by omega, Nat.pow_zero, Nat.mul_one]
    have hD0 : 0 < FP.Core.inUnits 12582912 (-24) (min q (-24)) := by
      show 0 < 12582912 * 2 ^ (-24 - min q (-24)).toNat
      exact Nat.mul_pos (by decide +kernel) (Nat.two_pow_pos _)
    have hR : FP.Core.inUnits c q (min q (-24)) % FP.Core.inUnits 12582912 (-24) (min q (-24)) < 16777216 := by
      have m1 := Nat.mod_lt (FP.Core.inUnits c q (min q (-24))) hD0
      have m2 := Nat.mod_le (FP.Core.inUnits c q (min q (-24))) (FP.Core.inUnits 12582912 (-24) (min q (-24)))
      rcases (by omega : q ≤ -24 ∨ -24 ≤ q) with h9 | h9
      · have := hC h9; omega
      · have := hD h9; omega
    have hm : -91 ≤ min q (-24) ∧ min q (-24) ≤ -24 := by omega
    generalize FP.Core.inUnits c q (min q (-24)) % FP.Core.inUnits 12582912 (-24) (min q (-24)) = R at hR hxF hxD
    generalize min q (-24) = mn at hm hxF hxD
    rcases Nat.eq_zero_or_pos R with hz | hz
    · subst hz
      rw [Nat.zero_mul] at hxD
      have r1 : vF (FP.frem f 1061158912) = .fin s 0 (-149) := by
        rw [shF, hxF]
        exact mk32 (Or.inl ⟨rfl, rfl⟩) (rr_032 _ _ _)
      have r2 : vD (FP.drem (FP.f2d f) 4604930618986332160) = .fin s 0 (-1074) := by
        rw [shD, hxD]
        exact mk64 (Or.inl ⟨rfl, rfl⟩) (rr_0 _ _ _)
      refine ⟨vF_inj (s := s) (c := 0) (q := -149) ?_ r1, s, 0, -149, r1, Or.inl ⟨rfl, rfl⟩⟩
      rw [d2f_fin r2]
      exact mk32 (Or.inl ⟨rfl, rfl⟩) (rr_032 _ _ _)
    · have l1 : 2 ^ R.log2 ≤ R := Nat.log2_self_le (by omega)
      have l2 : R < 2 ^ (R.log2 + 1) := Nat.lt_log2_self
      have l3 : R.log2 < 24 := (Nat.pow_lt_pow_iff_right (by decide : 1 < 2)).1 (Nat.lt_of_le_of_lt l1 (show R < 2 ^ 24 from hR))
      generalize R.log2 = N at l1 l2 l3
      have b1 : 8388608 ≤ R * 2 ^ (23 - N) := by
        calc 8388608 = 2 ^ N * 2 ^ (23 - N) := by rw [← Nat.pow_add, show N + (23 - N) = 23 by omega]
          _ ≤ R * 2 ^ (23 - N) := Nat.mul_le_mul_right _ l1
      have b2 : R * 2 ^ (23 - N) < 16777216 := by
        calc R * 2 ^ (23 - N) < 2 ^ (N + 1) * 2 ^ (23 - N) := Nat.mul_lt_mul_of_pos_right l2 (Nat.two_pow_pos _)
          _ = 16777216 := by rw [← Nat.pow_add, show N + 1 + (23 - N) = 24 by omega]
      have e52 : R * 536870912 * 2 ^ (23 - N) = R * 2 ^ (23 - N) * 536870912 := by rw [Nat.mul_assoc, Nat.mul_assoc, Nat.mul_comm 536870912]
      have r1 : vF (FP.frem f 1061158912) = .fin s (R * 2 ^ (23 - N)) (mn - ((23 - N : Nat) : Int)) := by
        rw [shF, hxF]
        refine mk32 (Or.inr ⟨b1, b2, by omega, by omega⟩) ?_
        exact rr_pow (f := FP.Core.b32) (s := s) (A := R) (N := N) (b := 0) (M := R * 2 ^ (23 - N)) (e := mn) (q := mn - ((23 - N : Nat) : Int)) l1 l2 (by omega) (by omega) (by omega) (by rw [show (mn - ((23 - N : Nat) : Int) - mn).toNat = 0 by omega, show (mn - (mn - ((23 - N : Nat) : Int))).toNat = 23 - N by omega] <;> simp) (by rw [u5]; exact b2)
      have r2 : vD (FP.drem (FP.f2d f) 4604930618986332160) = .fin s (R * 2 ^ (23 - N) * 536870912) (mn - 29 - ((23 - N : Nat) : Int)) := by
        rw [shD, hxD]
        refine mk64 (Or.inr ⟨by omega, by omega, by omega, by omega⟩) ?_
        refine rr_pow (f := FP.Core.b64) (s := s) (A := R * 536870912) (N := N + 29) (b := 0) (M := R * 2 ^ (23 - N) * 536870912) (e := mn - 29) (q := mn - 29 - ((23 - N : Nat) : Int)) ?_ ?_ (by omega) (by omega) (by omega) (by rw [show (mn - 29 - ((23 - N : Nat) : Int) - (mn - 29)).toNat = 0 by omega, show (mn - 29 - (mn - 29 - ((23 - N : Nat) : Int))).toNat = 23 - N by omega, e52] <;> simp) (by rw [t5]; omega)
        · rw [Nat.pow_add]; exact Nat.mul_le_mul_right _ l1
        · rw [show N + 29 + 1 = N + 1 + 29 by omega, Nat.pow_add]; exact Nat.mul_lt_mul_of_pos_right l2 (by decide +kernel)
      refine ⟨vF_inj ?_ r1, s, _, _, r1, Or.inr ⟨b1, b2, by omega, by omega⟩⟩
      rw [d2f_fin r2]
      refine mk32 (Or.inr ⟨b1, b2, by omega, by omega⟩) ?_
      exact rr_pow (f := FP.Core.b32) (s := s) (A := R * 2 ^ (23 - N) * 536870912) (N := 52) (b := 0) (M := R * 2 ^ (23 - N)) (e := mn - 29 - ((23 - N : Nat) : Int)) (q := mn - ((23 - N : Nat) : Int)) (by omega) (by omega) (by omega) (by omega) (by omega) (by rw [show (mn - ((23 - N : Nat) : Int) - (mn - 29 - ((23 - N : Nat) : Int))).toNat = 29 by omega, show (mn - 29 - ((23 - N : Nat) : Int) - (mn - ((23 - N : Nat) : Int))).toNat = 0 by omega] <;> simp) (by rw [u5]; exact b2)
theorem nan_dec {p : UInt64} (h : isNaN64 p = true) : vD p = .nan := by
  have hx : p.toNat < 18446744073709551616 := p.toNat_lt
  rw [isNaN64_iff] at h
  have e : p.toNat &&& 9223372036854775807 = p.toNat % 2 ^ 63 := Nat.and_two_pow_sub_one_eq_mod p.toNat 63
  have h8 : 9218868437227405312 < p.toNat &&& 9223372036854775807 := h
  obtain ⟨t1, t2, t3, t4, t5, t6⟩ := fm64
  unfold vD FP.Core.decode FP.Core.fieldE FP.Core.fieldT
  rw [t1, t2]
  rw [if_pos (by omega), if_neg (by omega)]
theorem al_2 {p p' x : UInt64} (a : alike64 p x = true) (b : alike64 p' x = true) : p = p' ∨ (vD p = .nan ∧ vD p' = .nan) := by
  unfold alike64 at a b
  rw [Bool.or_eq_true, Bool.and_eq_true] at a b
  rcases a with a | a
  · have a := of_decide_eq_true a
    rcases b with b | b
    · have b := of_decide_eq_true b
      exact Or.inl (a.trans b.symm)
    · subst a
      exact Or.inr ⟨nan_dec b.2, nan_dec b.1⟩
  · rcases b with b | b
    · have b := of_decide_eq_true b
      subst b
      exact Or.inr ⟨nan_dec a.1, nan_dec a.2⟩
    · exact Or.inr ⟨nan_dec a.1, nan_dec b.1⟩
theorem al_d2l {p p' x : UInt64} (a : alike64 p x = true) (b : alike64 p' x = true) : FP.d2l p = FP.d2l p' := by
  rcases al_2 a b with h | ⟨h, k⟩
  · rw [h]
  · show FP.Core.toL (vD p) = FP.Core.toL (vD p')
    rw [h, k]
theorem al_d2i {p p' x : UInt64} (a : alike64 p x = true) (b : alike64 p' x = true) : FP.d2i p = FP.d2i p' := by
  rcases al_2 a b with h | ⟨h, k⟩
  · rw [h]
  · show FP.Core.toI (vD p) = FP.Core.toI (vD p')
    rw [h, k]
/-- what valueAs answers of a worth -/
def vaV (v : UInt64) (how : Int) (r : Int64) : Prop := (how = 0 → ∃ p, alike64 p (FP.dmul v 4636737291354636288) = true ∧ r = FP.d2l p) ∧ (how = 1 → r = (FP.d2f v).toInt32.toInt64) ∧ (how = 2 → r = v.toInt64) ∧ (how = 3 → ∃ p, alike64 p (FP.dmul (FP.drem v FP.dconst1) 4652007308841189376) = true ∧ r = (FP.d2i p).toInt64) ∧ (how = 4 → r = (FP.drem v 4600427019358961664).toInt64) ∧ (how = 5 → r = (FP.frem (FP.d2f v) 1061158912).toInt32.toInt64)
theorem vaV_uniq {v : UInt64} {how : Int} {r r' : Int64} (h : vaV v how r) (k : vaV v how r') (hh : 0 ≤ how ∧ how ≤ 5) : r = r' := by
  obtain ⟨h0, h1, h2, h3, h4, h5⟩ := h
  obtain ⟨k0, k1, k2, k3, k4, k5⟩ := k
  rcases (by omega : how = 0 ∨ how = 1 ∨ how = 2 ∨ how = 3 ∨ how = 4 ∨ how = 5) with e | e | e | e | e | e
  · obtain ⟨p, a, b⟩ := h0 e
    obtain ⟨p', a', b'⟩ := k0 e
    rw [b, b']; exact al_d2l a a'
  · rw [h1 e, k1 e]
  · rw [h2 e, k2 e]
  · obtain ⟨p, a, b⟩ := h3 e
    obtain ⟨p', a', b'⟩ := k3 e
    rw [b, b', al_d2i a a']
  · rw [h4 e, k4 e]
  · rw [h5 e, k5 e]
theorem wd_al {v r : UInt64} (h : wdG v) (a : alike64 r v = true) : r = v := by
  obtain ⟨s, c, q, e, _⟩ := h
  exact fin_al e a
theorem vaV_0 {v : UInt64} {how : Int} {r : Int64} (h : how = 0) (a : ∃ p, alike64 p (FP.dmul v 4636737291354636288) = true ∧ r = FP.d2l p) : vaV v how r := by
  subst h
  exact ⟨fun _ => a, fun h9 => absurd h9 (by decide +kernel), fun h9 => absurd h9 (by decide +kernel), fun h9 => absurd h9 (by decide +kernel), fun h9 => absurd h9 (by decide +kernel), fun h9 => absurd h9 (by decide +kernel)⟩
theorem vaV_1 {v : UInt64} {how : Int} {r : Int64} (h : how = 1) (a : r = (FP.d2f v).toInt32.toInt64) : vaV v how r := by
  subst h
  exact ⟨fun h9 => absurd h9 (by decide +kernel), fun _ => a, fun h9 => absurd h9 (by decide +kernel), fun h9 => absurd h9 (by decide +kernel), fun h9 => absurd h9 (by decide +kernel), fun h9 => absurd h9 (by decide +kernel)⟩
theorem vaV_2 {v : UInt64} {how : Int} {r : Int64} (h : how = 2) (a : r = v.toInt64) : vaV v how r := by
  subst h
  exact ⟨fun h9 => absurd h9 (by decide +kernel), fun h9 => absurd h9 (by decide +kernel), fun _ => a, fun h9 => absurd h9 (by decide +kernel), fun h9 => absurd h9 (by decide +kernel), fun h9 => absurd h9 (by decide +kernel)⟩
theorem vaV_3 {v : UInt64} {how : Int} {r : Int64} (h : how = 3) (a : ∃ p, alike64 p (FP.dmul (FP.drem v FP.dconst1) 4652007308841189376) = true ∧ r = (FP.d2i p).toInt64) : vaV v how r := by
  subst h
  exact ⟨fun h9 => absurd h9 (by decide +kernel), fun h9 => absurd h9 (by decide +kernel), fun h9 => absurd h9 (by decide +kernel), fun _ => a, fun h9 => absurd h9 (by decide +kernel), fun h9 => absurd h9 (by decide +kernel)⟩
theorem vaV_4 {v : UInt64} {how : Int} {r : Int64} (h : how = 4) (a : r = (FP.drem v 4600427019358961664).toInt64) : vaV v how r := by
  subst h
  exact ⟨fun h9 => absurd h9 (by decide +kernel), fun h9 => absurd h9 (by decide +kernel), fun h9 => absurd h9 (by decide +kernel), fun h9 => absurd h9 (by decide +kernel), fun _ => a, fun h9 => absurd h9 (by decide +kernel)⟩
theorem vaV_5 {v : UInt64} {how : Int} {r : Int64} (h : how = 5) (a : r = (FP.frem (FP.d2f v) 1061158912).toInt32.toInt64) : vaV v how r := by
  subst h
  exact ⟨fun h9 => absurd h9 (by decide +kernel), fun h9 => absurd h9 (by decide +kernel), fun h9 => absurd h9 (by decide +kernel), fun h9 => absurd h9 (by decide +kernel), fun h9 => absurd h9 (by decide +kernel), fun _ => a⟩
/-- the class's ways -/
theorem vc_1 {v : UInt64} {f : UInt32} {r : Int32} (h : wdH v) (a : alike32 f (FP.d2f v) = true) (k : fbQ f r) : r = (FP.d2f v).toInt32 := by
  have w := wf_d2f h
  rw [wf_al w a] at k
  obtain ⟨s, c, q, e, n⟩ := wf_nz w
  exact k s c q e n
theorem vc_2 {v : UInt64} {r : Int64} (h : wdH v) (k : dbQ v r) : r = v.toInt64 := by
  obtain ⟨s, n, d, _⟩ := wd_dv h.G
  exact k s n d
theorem vc_3 {v a p : UInt64} {z : Int32} (h : wdH v) (k : rmQ v FP.dconst1 a) (b : alike64 p (FP.dmul a 4652007308841189376) = true) (e : z = FP.d2i p) : ∃ p, alike64 p (FP.dmul (FP.drem v FP.dconst1) 4652007308841189376) = true ∧ z.toInt64 = (FP.d2i p).toInt64 := by
  rw [rm_1 h.G k] at b
  exact ⟨p, b, by rw [e]⟩
theorem vc_4 {v a : UInt64} {r : Int64} (h : wdH v) (k : rmQ v 4600427019358961664 a) (b : dbQ a r) : r = (FP.drem v 4600427019358961664).toInt64 := by
  obtain ⟨e, s, n, d⟩ := rm_375 h.G k
  rw [b s n d, e]
theorem vc_5 {v y a : UInt64} {f g : UInt32} {r : Int32} (h : wdH v) (a1 : alike32 f (FP.d2f v) = true) (a2 : alike64 y (FP.f2d f) = true) (k : rmQ y 4604930618986332160 a) (a3 : alike32 g (FP.d2f a) = true) (b : fbQ g r) : r = (FP.frem (FP.d2f v) 1061158912).toInt32 := by
  have w := wf_d2f h
  have ef := wf_al w a1
  subst ef
  have w2 := wf_f2d w
  have ey := wd_al w2 a2
  subst ey
  obtain ⟨s, n, d, n1, n2, n3⟩ := wd_dv w2
  have e := k s n _ ⟨d, dv_75, n1, n2, n3, by decide +kernel, by decide +kernel⟩
  subst e
  obtain ⟨fe, s', c, q, e2, n4⟩ := fr_eq w
  rw [fe] at a3
  have eg := fin_al32 e2 a3
  subst eg
  exact b s' c q e2 n4
/-- the reference's ways -/
def fiQ (x0 : UInt32) (r : Int32) : Prop := ∀ s c q, vF x0 = .fin s c q → r = x0.toInt32
def diQ (x0 : UInt64) (r : Int64) : Prop := ∀ s c q, vD x0 = .fin s c q → r = x0.toInt64
def niF (x0 : UInt32) (r : Int32) : Prop := ∀ s c q, vF x0 = .fin s c q → r.toInt = 0
def niD (x0 : UInt64) (r : Int32) : Prop := ∀ s c q, vD x0 = .fin s c q → r.toInt = 0
theorem cmp_same (a : Int) : compare a a = Ordering.eq := by
  show (if a < a then Ordering.lt else if a = a then Ordering.eq else Ordering.gt) = _
  rw [if_neg (by omega), if_pos rfl]
theorem self_F {x0 : UInt32} {z : Int32} {op : CmpOp} (e : z = Op.cmpValue (FP.fcmp x0 x0) op) {s : Bool} {c : Nat} {q : Int} (h : vF x0 = .fin s c q) : z.toInt = 0 := by
  have o : FP.fcmp x0 x0 = some (compare (FP.Core.signed s (FP.Core.inUnits c q (min q q))) (FP.Core.signed s (FP.Core.inUnits c q (min q q)))) := by
    show FP.Core.order (vF x0) (vF x0) = _
    rw [h]; rfl
  rw [e, o, cmp_same]
  rfl
theorem self_D {x0 : UInt64} {z : Int32} {op : CmpOp} (e : z = Op.cmpValue (FP.dcmp x0 x0) op) {s : Bool} {c : Nat} {q : Int} (h : vD x0 = .fin s c q) : z.toInt = 0 := by
  have o : FP.dcmp x0 x0 = some (compare (FP.Core.signed s (FP.Core.inUnits c q (min q q))) (FP.Core.signed s (FP.Core.inUnits c q (min q q)))) := by
    show FP.Core.order (vD x0) (vD x0) = _
    rw [h]; rfl
  rw [e, o, cmp_same]
  rfl
theorem vr_1 {v : UInt64} {f : UInt32} {r : Int32} (h : wdH v) (a : alike32 f (FP.d2f v) = true) (k : fiQ f r) : r = (FP.d2f v).toInt32 := by
  have w := wf_d2f h
  rw [wf_al w a] at k
  obtain ⟨s, c, q, e, n⟩ := wf_nz w
  exact k s c q e
theorem vr_2 {v : UInt64} {r : Int64} (h : wdH v) (k : diQ v r) : r = v.toInt64 := by
  obtain ⟨s, c, q, e, _⟩ := h
  exact k s c q e
theorem vr_3 {v a p : UInt64} {z : Int32} (h : wdH v) (k : alike64 a (FP.drem v FP.dconst1) = true) (b : alike64 p (FP.dmul a 4652007308841189376) = true) (e : z = FP.d2i p) : ∃ p, alike64 p (FP.dmul (FP.drem v FP.dconst1) 4652007308841189376) = true ∧ z.toInt64 = (FP.d2i p).toInt64 := by
  obtain ⟨s, n, d, n1, n2, n3⟩ := wd_dv h.G
  obtain ⟨c, q, e2, _⟩ := dv_nz (dv_rem d dv_1 (by decide +kernel) n2)
  rw [fin_al e2 k] at b
  exact ⟨p, b, by rw [e]⟩
theorem vr_4 {v a : UInt64} {r : Int64} (h : wdH v) (k : alike64 a (FP.drem v 4600427019358961664) = true) (b : diQ a r) : r = (FP.drem v 4600427019358961664).toInt64 := by
  obtain ⟨s, n, d, n1, n2, n3⟩ := wd_dv h.G
  obtain ⟨c, q, e2, _⟩ := dv_nz (dv_rem d dv_375 (by decide +kernel) n2)
  have e := fin_al e2 k
  subst e
  exact b s c q e2
theorem vr_5 {v : UInt64} {f g : UInt32} {r : Int32} (h : wdH v) (a1 : alike32 f (FP.d2f v) = true) (a2 : alike32 g (FP.frem f 1061158912) = true) (b : fiQ g r) : r = (FP.frem (FP.d2f v) 1061158912).toInt32 := by
  have w := wf_d2f h
  have ef := wf_al w a1
  subst ef
  obtain ⟨fe, s', c, q, e2, n4⟩ := fr_eq w
  have eg := fin_al32 e2 a2
  subst eg
  exact b s' c q e2
