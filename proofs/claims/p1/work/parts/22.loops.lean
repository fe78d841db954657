theorem fb_rng (x : Int32) : -2147483648 ≤ x.toInt ∧ x.toInt < 2147483648 := by
  have h1 := Int32.le_toInt x
  have h2 := Int32.toInt_lt x
  omega
theorem fb_bmod {z : Int} (h1 : -2147483648 ≤ z) (h2 : z < 2147483648) : z.bmod (2 ^ 32) = z := by
  rw [Int.bmod_eq_of_le (by omega) (by omega)]
theorem fb_addI {x y : Int32} (h1 : -2147483648 ≤ x.toInt + y.toInt) (h2 : x.toInt + y.toInt < 2147483648) : (x + y).toInt = x.toInt + y.toInt := by
  rw [Int32.toInt_add, fb_bmod h1 h2]
theorem fb_subI {x y : Int32} (h1 : -2147483648 ≤ x.toInt - y.toInt) (h2 : x.toInt - y.toInt < 2147483648) : (x - y).toInt = x.toInt - y.toInt := by
  rw [Int32.toInt_sub, fb_bmod h1 h2]
theorem fb_mulI {x y : Int32} (h1 : -2147483648 ≤ x.toInt * y.toInt) (h2 : x.toInt * y.toInt < 2147483648) : (x * y).toInt = x.toInt * y.toInt := by
  rw [Int32.toInt_mul, fb_bmod h1 h2]
theorem inc1 {i : Int32} {n : Int} (h : i.toInt < n) (hn : n ≤ 2147483647) : (i + 1).toInt = i.toInt + 1 := by
  have h0 := fb_rng i
  have e : (1 : Int32).toInt = 1 := ti_1
  rw [fb_addI (by omega) (by omega), e]
theorem nz64 {y : Int64} (h : y.toInt ≠ 0) : ¬ y = 0 := fun e => h (by rw [e]; decide)
theorem rem_abs (x y : Int64) (h : y.toInt ≠ 0) : (x - x / y * y).toInt.natAbs < y.toInt.natAbs := by
  have e : (x - x / y * y).toInt = x.toInt.tmod y.toInt := by
    have hy1 := Int64.le_toInt y
    have hy2 := Int64.toInt_lt y
    have h1 : (x - x / y * y).toInt = (x.toInt - x.toInt.tdiv y.toInt * y.toInt).bmod (2 ^ 64) := by
      simp [Int64.toInt_sub, Int64.toInt_mul, Int64.toInt_div]
    have h2 : x.toInt - x.toInt.tdiv y.toInt * y.toInt = x.toInt.tmod y.toInt := by
      rw [Int.tmod_def, Int.mul_comm]
    rw [h1, h2]
    have h3 : (x.toInt.tmod y.toInt).natAbs < y.toInt.natAbs := by
      rw [Int.natAbs_tmod]
      exact Nat.mod_lt _ (by omega)
    rw [Int.bmod_eq_of_le (by omega) (by omega)]
  rw [e, Int.natAbs_tmod]
  exact Nat.mod_lt _ (by omega)
theorem neg_nz {x : Int64} (h : x.toInt ≠ 0) : (-x).toInt ≠ 0 := by
  intro e
  have e2 : (-x) = 0 := Int64.toInt_inj.1 (by rw [e]; decide)
  have e3 : - -x = -(0 : Int64) := by rw [e2]
  rw [Int64.neg_neg] at e3
  subst e3
  exact h (by decide)
section Loops
variable {p : Program} {l : Launch} {e : Env} {R : Room} {s : State} {m : MethodId} {args : Array Value} {below : List Frame} {meth : Method} {c : Code} {H : Heap} {locs : List Loc} {cells slots : Nat} {Q : State → Prop} {pc : Nat}
theorem loopR {σ : Type} (I : σ → Array Slot → Prop) (μ : σ → Nat) (step : ∀ (x : σ) (ls : Array Slot), I x ls → (∀ (y : σ) (ls' : Array Slot), I y ls' → μ y < μ x → W p l e R s m args below meth c H locs cells slots Q (F0 m pc ls' [])) → W p l e R s m args below meth c H locs cells slots Q (F0 m pc ls [])) (x : σ) (ls : Array Slot) (h : I x ls) : W p l e R s m args below meth c H locs cells slots Q (F0 m pc ls []) := by
  have key : ∀ (n : Nat) (x : σ) (ls : Array Slot), μ x < n → I x ls → W p l e R s m args below meth c H locs cells slots Q (F0 m pc ls []) := by
    intro n
    induction n with
    | zero => intro x ls h; exact absurd h (Nat.not_lt_zero _)
    | succ n ih => intro x ls h hI; exact step x ls hI (fun y ls' hy hlt => ih y ls' (by omega) hy)
  exact key _ x ls (Nat.lt_succ_self _) h
theorem loopW {σ : Type} (I : σ → Array Slot → Heap → List Loc → Prop) (μ : σ → Nat) (step : ∀ (x : σ) (ls : Array Slot) (H : Heap) (locs : List Loc), I x ls H locs → (∀ (y : σ) (ls' : Array Slot) (H' : Heap) (locs' : List Loc), I y ls' H' locs' → μ y < μ x → W p l e R s m args below meth c H' locs' cells slots Q (F0 m pc ls' [])) → W p l e R s m args below meth c H locs cells slots Q (F0 m pc ls [])) (x : σ) (ls : Array Slot) (h : I x ls H locs) : W p l e R s m args below meth c H locs cells slots Q (F0 m pc ls []) := by
  have key : ∀ (n : Nat) (x : σ) (ls : Array Slot) (H : Heap) (locs : List Loc), μ x < n → I x ls H locs → W p l e R s m args below meth c H locs cells slots Q (F0 m pc ls []) := by
    intro n
    induction n with
    | zero => intro x ls H locs h; exact absurd h (Nat.not_lt_zero _)
    | succ n ih => intro x ls H locs h hI; exact step x ls H locs hI (fun y ls' H' locs' hy hlt => ih y ls' H' locs' (by omega) hy)
  exact key _ x ls H locs (Nat.lt_succ_self _) h
end Loops
theorem spot_0 {x : Int32} (h : 0 ≤ x.toInt ∧ x.toInt ≤ 63) : ((0 : Int32) : Int32) = sp_bits (x &&& (((1 : Int32) <<< ((0 : Int32) &&& 31)) - 1)) := by
  obtain ⟨j, hj, rfl⟩ : ∃ j : Nat, j < 64 ∧ x = nI j := by
    obtain ⟨j, hj, e⟩ := nI_of (x := x) (by rw [fa_lt, ti_0]; omega)
    subst e
    rw [nI_toInt hj] at h
    exact ⟨j, by omega, rfl⟩
  have key : ∀ j : Fin 64, (fun x : Int32 => ((0 : Int32) : Int32) = sp_bits (x &&& (((1 : Int32) <<< ((0 : Int32) &&& 31)) - 1))) (nI j.val) := by decide +kernel
  exact key ⟨j, hj⟩
theorem spot_1 {x : Int32} (h : 0 ≤ x.toInt ∧ x.toInt ≤ 63) : (((0 : Int32) + ((x >>> ((0 : Int32) &&& 31)) &&& 1)) : Int32) = sp_bits (x &&& (((1 : Int32) <<< ((1 : Int32) &&& 31)) - 1)) := by
  obtain ⟨j, hj, rfl⟩ : ∃ j : Nat, j < 64 ∧ x = nI j := by
    obtain ⟨j, hj, e⟩ := nI_of (x := x) (by rw [fa_lt, ti_0]; omega)
    subst e
    rw [nI_toInt hj] at h
    exact ⟨j, by omega, rfl⟩
  have key : ∀ j : Fin 64, (fun x : Int32 => (((0 : Int32) + ((x >>> ((0 : Int32) &&& 31)) &&& 1)) : Int32) = sp_bits (x &&& (((1 : Int32) <<< ((1 : Int32) &&& 31)) - 1))) (nI j.val) := by decide +kernel
  exact key ⟨j, hj⟩
theorem spot_2 {x : Int32} (h : 0 ≤ x.toInt ∧ x.toInt ≤ 63) : ((((0 : Int32) + ((x >>> ((0 : Int32) &&& 31)) &&& 1)) + ((x >>> ((1 : Int32) &&& 31)) &&& 1)) : Int32) = sp_bits (x &&& (((1 : Int32) <<< ((2 : Int32) &&& 31)) - 1)) := by
  obtain ⟨j, hj, rfl⟩ : ∃ j : Nat, j < 64 ∧ x = nI j := by
    obtain ⟨j, hj, e⟩ := nI_of (x := x) (by rw [fa_lt, ti_0]; omega)
    subst e
    rw [nI_toInt hj] at h
    exact ⟨j, by omega, rfl⟩
  have key : ∀ j : Fin 64, (fun x : Int32 => ((((0 : Int32) + ((x >>> ((0 : Int32) &&& 31)) &&& 1)) + ((x >>> ((1 : Int32) &&& 31)) &&& 1)) : Int32) = sp_bits (x &&& (((1 : Int32) <<< ((2 : Int32) &&& 31)) - 1))) (nI j.val) := by decide +kernel
  exact key ⟨j, hj⟩
theorem spot_3 {x : Int32} (h : 0 ≤ x.toInt ∧ x.toInt ≤ 63) : (((((0 : Int32) + ((x >>> ((0 : Int32) &&& 31)) &&& 1)) + ((x >>> ((1 : Int32) &&& 31)) &&& 1)) + ((x >>> ((2 : Int32) &&& 31)) &&& 1)) : Int32) = sp_bits (x &&& (((1 : Int32) <<< ((3 : Int32) &&& 31)) - 1)) := by
  obtain ⟨j, hj, rfl⟩ : ∃ j : Nat, j < 64 ∧ x = nI j := by
    obtain ⟨j, hj, e⟩ := nI_of (x := x) (by rw [fa_lt, ti_0]; omega)
    subst e
    rw [nI_toInt hj] at h
    exact ⟨j, by omega, rfl⟩
  have key : ∀ j : Fin 64, (fun x : Int32 => (((((0 : Int32) + ((x >>> ((0 : Int32) &&& 31)) &&& 1)) + ((x >>> ((1 : Int32) &&& 31)) &&& 1)) + ((x >>> ((2 : Int32) &&& 31)) &&& 1)) : Int32) = sp_bits (x &&& (((1 : Int32) <<< ((3 : Int32) &&& 31)) - 1))) (nI j.val) := by decide +kernel
  exact key ⟨j, hj⟩
theorem spot_4 {x : Int32} (h : 0 ≤ x.toInt ∧ x.toInt ≤ 63) : ((((((0 : Int32) + ((x >>> ((0 : Int32) &&& 31)) &&& 1)) + ((x >>> ((1 : Int32) &&& 31)) &&& 1)) + ((x >>> ((2 : Int32) &&& 31)) &&& 1)) + ((x >>> ((3 : Int32) &&& 31)) &&& 1)) : Int32) = sp_bits (x &&& (((1 : Int32) <<< ((4 : Int32) &&& 31)) - 1)) := by
  obtain ⟨j, hj, rfl⟩ : ∃ j : Nat, j < 64 ∧ x = nI j := by
    obtain ⟨j, hj, e⟩ := nI_of (x := x) (by rw [fa_lt, ti_0]; omega)
    subst e
    rw [nI_toInt hj] at h
    exact ⟨j, by omega, rfl⟩
  have key : ∀ j : Fin 64, (fun x : Int32 => ((((((0 : Int32) + ((x >>> ((0 : Int32) &&& 31)) &&& 1)) + ((x >>> ((1 : Int32) &&& 31)) &&& 1)) + ((x >>> ((2 : Int32) &&& 31)) &&& 1)) + ((x >>> ((3 : Int32) &&& 31)) &&& 1)) : Int32) = sp_bits (x &&& (((1 : Int32) <<< ((4 : Int32) &&& 31)) - 1))) (nI j.val) := by decide +kernel
  exact key ⟨j, hj⟩
theorem spot_5 {x : Int32} (h : 0 ≤ x.toInt ∧ x.toInt ≤ 63) : (((((((0 : Int32) + ((x >>> ((0 : Int32) &&& 31)) &&& 1)) + ((x >>> ((1 : Int32) &&& 31)) &&& 1)) + ((x >>> ((2 : Int32) &&& 31)) &&& 1)) + ((x >>> ((3 : Int32) &&& 31)) &&& 1)) + ((x >>> ((4 : Int32) &&& 31)) &&& 1)) : Int32) = sp_bits (x &&& (((1 : Int32) <<< ((5 : Int32) &&& 31)) - 1)) := by
  obtain ⟨j, hj, rfl⟩ : ∃ j : Nat, j < 64 ∧ x = nI j := by
    obtain ⟨j, hj, e⟩ := nI_of (x := x) (by rw [fa_lt, ti_0]; omega)
    subst e
    rw [nI_toInt hj] at h
    exact ⟨j, by omega, rfl⟩
  have key : ∀ j : Fin 64, (fun x : Int32 => (((((((0 : Int32) + ((x >>> ((0 : Int32) &&& 31)) &&& 1)) + ((x >>> ((1 : Int32) &&& 31)) &&& 1)) + ((x >>> ((2 : Int32) &&& 31)) &&& 1)) + ((x >>> ((3 : Int32) &&& 31)) &&& 1)) + ((x >>> ((4 : Int32) &&& 31)) &&& 1)) : Int32) = sp_bits (x &&& (((1 : Int32) <<< ((5 : Int32) &&& 31)) - 1))) (nI j.val) := by decide +kernel
  exact key ⟨j, hj⟩
theorem spot_6 {x : Int32} (h : 0 ≤ x.toInt ∧ x.toInt ≤ 63) : ((((((((0 : Int32) + ((x >>> ((0 : Int32) &&& 31)) &&& 1)) + ((x >>> ((1 : Int32) &&& 31)) &&& 1)) + ((x >>> ((2 : Int32) &&& 31)) &&& 1)) + ((x >>> ((3 : Int32) &&& 31)) &&& 1)) + ((x >>> ((4 : Int32) &&& 31)) &&& 1)) + ((x >>> ((5 : Int32) &&& 31)) &&& 1)) : Int32) = sp_bits (x &&& (((1 : Int32) <<< ((6 : Int32) &&& 31)) - 1)) := by
  obtain ⟨j, hj, rfl⟩ : ∃ j : Nat, j < 64 ∧ x = nI j := by
    obtain ⟨j, hj, e⟩ := nI_of (x := x) (by rw [fa_lt, ti_0]; omega)
    subst e
    rw [nI_toInt hj] at h
    exact ⟨j, by omega, rfl⟩
  have key : ∀ j : Fin 64, (fun x : Int32 => ((((((((0 : Int32) + ((x >>> ((0 : Int32) &&& 31)) &&& 1)) + ((x >>> ((1 : Int32) &&& 31)) &&& 1)) + ((x >>> ((2 : Int32) &&& 31)) &&& 1)) + ((x >>> ((3 : Int32) &&& 31)) &&& 1)) + ((x >>> ((4 : Int32) &&& 31)) &&& 1)) + ((x >>> ((5 : Int32) &&& 31)) &&& 1)) : Int32) = sp_bits (x &&& (((1 : Int32) <<< ((6 : Int32) &&& 31)) - 1))) (nI j.val) := by decide +kernel
  exact key ⟨j, hj⟩
theorem in7 {x : Int32} (h : 0 ≤ x.toInt ∧ x.toInt ≤ 6) : x = 0 ∨ x = 1 ∨ x = 2 ∨ x = 3 ∨ x = 4 ∨ x = 5 ∨ x = 6 := by
  simp only [fa_eq, ti_0, ti_1, ti_2, ti_3, ti_4, ti_5, ti_6]
  omega
