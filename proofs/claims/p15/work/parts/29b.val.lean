/-! worth of clauses, by numbers: l the lattice's seven numbers, fk fn fc fd kinds, numbers, names, fe ends; MUCH is (0, 0) -/
def mulW (p : Int64 × Int64) (v w : Int64) : Int64 × Int64 := if p.2.toInt = 0 ∨ ¬ fitM p.1 v ∨ ¬ fitM p.2 w then (0, 0) else redW (p.1 * v) (p.2 * w)
def addW (p q : Int64 × Int64) : Int64 × Int64 := if p.2.toInt = 0 ∨ q.2.toInt = 0 ∨ ¬ fitM p.1 q.2 ∨ ¬ fitM q.1 p.2 ∨ ¬ fitM p.2 q.2 ∨ ¬ fitA (p.1 * q.2) (q.1 * p.2) then (0, 0) else redW (p.1 * q.2 + q.1 * p.2) (p.2 * q.2)
def cmpP (p q : Int64 × Int64) : Int := cmpW p.1.toInt p.2.toInt q.1.toInt q.2.toInt
/-- the greater one; the first, if they are alike -/
def maxW (p q : Int64 × Int64) : Int64 × Int64 := if p.2.toInt = 0 ∨ q.2.toInt = 0 then (0, 0) else if 0 < cmpP q p then q else p
def prW (l : Nat → Int32) (t k : Int32) : Int32 := ((l 0 + (l 1 * k)) - (l 2 * (t - k)))
def wtW (l : Nat → Int32) : Int64 × Int64 := redW (l 5).toInt64 ((l 6 * l 4).toInt64)
/-- MEAN of the next day's -/
def avgW (l : Nat → Int32) (V : Int32 → Int32 → Int32 → Int64 × Int64) (x t k : Int32) : Int64 × Int64 := mulW (addW (mulW (V x (t + 1) (k + 1)) (l 3).toInt64 1) (mulW (V x (t + 1) k) (l 4 - l 3).toInt64 1)) (wtW l).1 (wtW l).2
/-- which one stands for x there; -5, if that can't be told -/
def pickW (l fk fn fc fd fe : Nat → Int32) (V : Int32 → Int32 → Int32 → Int64 × Int64) (x t k : Int32) : Int32 := if (fk x.toNatClampNeg).toNatClampNeg = 8 then fc x.toNatClampNeg else if (fk x.toNatClampNeg).toNatClampNeg = 12 then (if (fn x.toNatClampNeg).toInt ≤ (prW l t k).toInt then fc x.toNatClampNeg else fd x.toNatClampNeg) else if (fe (fc x.toNatClampNeg).toNatClampNeg).toInt < t.toInt then fd x.toNatClampNeg else if (fk x.toNatClampNeg).toNatClampNeg = 9 ∨ (fe (fd x.toNatClampNeg).toNatClampNeg).toInt < t.toInt then fc x.toNatClampNeg else if (V (fc x.toNatClampNeg) t k).2.toInt = 0 ∨ (V (fd x.toNatClampNeg) t k).2.toInt = 0 then -5 else if ((fk x.toNatClampNeg).toNatClampNeg = 6 ∧ 0 < cmpP (V (fd x.toNatClampNeg) t k) (V (fc x.toNatClampNeg) t k)) ∨ ((fk x.toNatClampNeg).toNatClampNeg ≠ 6 ∧ cmpP (V (fd x.toNatClampNeg) t k) (V (fc x.toNatClampNeg) t k) < 0) then fd x.toNatClampNeg else fc x.toNatClampNeg
/-- VALUE, out of that of earlier clauses and later days -/
def stepW (l fk fn fc fd fe : Nat → Int32) (V : Int32 → Int32 → Int32 → Int64 × Int64) (x t k : Int32) : Int64 × Int64 := if (fe x.toNatClampNeg).toInt < t.toInt then (0, 1) else if (fk x.toNatClampNeg).toNatClampNeg = 0 then (0, 1) else if (fk x.toNatClampNeg).toNatClampNeg = 1 then (1, 1) else if (fk x.toNatClampNeg).toNatClampNeg = 2 then mulW (V (fc x.toNatClampNeg) t k) (-1) 1 else if (fk x.toNatClampNeg).toNatClampNeg = 3 then mulW (V (fc x.toNatClampNeg) t k) (fn x.toNatClampNeg).toInt64 1 else if (fk x.toNatClampNeg).toNatClampNeg = 4 then mulW (V (fc x.toNatClampNeg) t k) (prW l t k).toInt64 1 else if (fk x.toNatClampNeg).toNatClampNeg = 5 then addW (V (fc x.toNatClampNeg) t k) (V (fd x.toNatClampNeg) t k) else if (fk x.toNatClampNeg).toNatClampNeg = 10 then (if t.toInt = (fe x.toNatClampNeg).toInt then V (fc x.toNatClampNeg) t k else avgW l V x t k) else if (fk x.toNatClampNeg).toNatClampNeg = 11 then (if t.toInt = (fe x.toNatClampNeg).toInt then V (fc x.toNatClampNeg) t k else maxW (avgW l V x t k) (V (fc x.toNatClampNeg) t k)) else if pickW l fk fn fc fd fe V x t k = -5 then (0, 0) else V (pickW l fk fn fc fd fe V x t k) t k
def valF (l fk fn fc fd fe : Nat → Int32) : Nat → Int32 → Int32 → Int32 → Int64 × Int64
  | 0, _, _, _ => (0, 0)
  | d + 1, x, t, k => stepW l fk fn fc fd fe (valF l fk fn fc fd fe d) x t k
/-- VALUE of clause x at spot k of day t -/
abbrev VALW (l fk fn fc fd fe : Nat → Int32) : Int32 → Int32 → Int32 → Int64 × Int64 := valF l fk fn fc fd fe 31
theorem pick_ext {l l' fk fk' fn fn' fc fc' fd fd' fe fe' : Nat → Int32} {V V' : Int32 → Int32 → Int32 → Int64 × Int64} {x t k : Int32} (hl : l 0 = l' 0 ∧ l 1 = l' 1 ∧ l 2 = l' 2) (hk : fk x.toNatClampNeg = fk' x.toNatClampNeg) (hn : fn x.toNatClampNeg = fn' x.toNatClampNeg)
    (hc : fc x.toNatClampNeg = fc' x.toNatClampNeg ∧ fe (fc x.toNatClampNeg).toNatClampNeg = fe' (fc x.toNatClampNeg).toNatClampNeg ∧ V (fc x.toNatClampNeg) t k = V' (fc x.toNatClampNeg) t k)
    (hd : (fk x.toNatClampNeg).toNatClampNeg = 8 ∨ (fd x.toNatClampNeg = fd' x.toNatClampNeg ∧ fe (fd x.toNatClampNeg).toNatClampNeg = fe' (fd x.toNatClampNeg).toNatClampNeg ∧ V (fd x.toNatClampNeg) t k = V' (fd x.toNatClampNeg) t k)) : pickW l fk fn fc fd fe V x t k = pickW l' fk' fn' fc' fd' fe' V' x t k := by
  have hp : prW l t k = prW l' t k := by unfold prW; rw [hl.1, hl.2.1, hl.2.2]
  unfold pickW
  rcases hd with hd | hd
  · rw [if_pos hd, if_pos (by rw [← hk]; exact hd)]
    exact hc.1
  · rw [← hk, ← hn, ← hc.1, ← hd.1, ← hc.2.1, ← hd.2.1, ← hc.2.2, ← hd.2.2, hp]
theorem pick_in {l fk fn fc fd fe : Nat → Int32} {V : Int32 → Int32 → Int32 → Int64 × Int64} {x t k : Int32} : pickW l fk fn fc fd fe V x t k = -5 ∨ pickW l fk fn fc fd fe V x t k = fc x.toNatClampNeg ∨ ((fk x.toNatClampNeg).toNatClampNeg ≠ 8 ∧ pickW l fk fn fc fd fe V x t k = fd x.toNatClampNeg) := by
  unfold pickW
  by_cases h8 : (fk x.toNatClampNeg).toNatClampNeg = 8
  · rw [if_pos h8]; exact Or.inr (Or.inl rfl)
  · rw [if_neg h8]
    split
    · split
      · exact Or.inr (Or.inl rfl)
      · exact Or.inr (Or.inr ⟨h8, rfl⟩)
    · split
      · exact Or.inr (Or.inr ⟨h8, rfl⟩)
      · split
        · exact Or.inr (Or.inl rfl)
        · split
          · exact Or.inl rfl
          · split
            · exact Or.inr (Or.inr ⟨h8, rfl⟩)
            · exact Or.inr (Or.inl rfl)
theorem avg_ext {l l' : Nat → Int32} {V V' : Int32 → Int32 → Int32 → Int64 × Int64} {x t k : Int32} (hl : l 3 = l' 3 ∧ l 4 = l' 4 ∧ l 5 = l' 5 ∧ l 6 = l' 6) (h : V x (t + 1) (k + 1) = V' x (t + 1) (k + 1) ∧ V x (t + 1) k = V' x (t + 1) k) : avgW l V x t k = avgW l' V' x t k := by
  unfold avgW wtW
  rw [h.1, h.2, hl.1, hl.2.1, hl.2.2.1, hl.2.2.2]
/-- how many a clause of kind K names -/
theorem nmT_tab : ∀ K : Fin 13, (nmT K.val).toInt = if K.val < 2 then 0 else if K.val = 5 ∨ K.val = 6 ∨ K.val = 7 ∨ K.val = 9 ∨ K.val = 12 then 2 else 1 := by decide
theorem step_ext {l l' fk fk' fn fn' fc fc' fd fd' fe fe' : Nat → Int32} {V V' : Int32 → Int32 → Int32 → Int64 × Int64} {x t k : Int32} (hl : ∀ j : Nat, j < 7 → l j = l' j) (hK : (fk x.toNatClampNeg).toNatClampNeg < 13) (hk : fk x.toNatClampNeg = fk' x.toNatClampNeg) (hn : fn x.toNatClampNeg = fn' x.toNatClampNeg) (he : fe x.toNatClampNeg = fe' x.toNatClampNeg) (h6 : (fe x.toNatClampNeg).toInt ≤ 6)
    (hc : 1 ≤ (nmT (fk x.toNatClampNeg).toNatClampNeg).toInt → fc x.toNatClampNeg = fc' x.toNatClampNeg ∧ fe (fc x.toNatClampNeg).toNatClampNeg = fe' (fc x.toNatClampNeg).toNatClampNeg ∧ V (fc x.toNatClampNeg) t k = V' (fc x.toNatClampNeg) t k)
    (hd : (nmT (fk x.toNatClampNeg).toNatClampNeg).toInt = 2 → fd x.toNatClampNeg = fd' x.toNatClampNeg ∧ fe (fd x.toNatClampNeg).toNatClampNeg = fe' (fd x.toNatClampNeg).toNatClampNeg ∧ V (fd x.toNatClampNeg) t k = V' (fd x.toNatClampNeg) t k)
    (hm : t.toInt < 6 → V x (t + 1) (k + 1) = V' x (t + 1) (k + 1) ∧ V x (t + 1) k = V' x (t + 1) k) : stepW l fk fn fc fd fe V x t k = stepW l' fk' fn' fc' fd' fe' V' x t k := by
  have hT := nmT_tab ⟨_, hK⟩
  have hT : (nmT (fk x.toNatClampNeg).toNatClampNeg).toInt = if (fk x.toNatClampNeg).toNatClampNeg < 2 then 0 else if (fk x.toNatClampNeg).toNatClampNeg = 5 ∨ (fk x.toNatClampNeg).toNatClampNeg = 6 ∨ (fk x.toNatClampNeg).toNatClampNeg = 7 ∨ (fk x.toNatClampNeg).toNatClampNeg = 9 ∨ (fk x.toNatClampNeg).toNatClampNeg = 12 then 2 else 1 := hT
  have hp : prW l t k = prW l' t k := by unfold prW; rw [hl 0 (by decide +kernel), hl 1 (by decide +kernel), hl 2 (by decide +kernel)]
  have hA : t.toInt < 6 → avgW l V x t k = avgW l' V' x t k := fun h => avg_ext ⟨hl 3 (by decide +kernel), hl 4 (by decide +kernel), hl 5 (by decide +kernel), hl 6 (by decide +kernel)⟩ (hm h)
  unfold stepW
  rw [← he, ← hk]
  by_cases h0 : (fe x.toNatClampNeg).toInt < t.toInt
  · rw [if_pos h0, if_pos h0]
  rw [if_neg h0, if_neg h0]
  by_cases k0 : (fk x.toNatClampNeg).toNatClampNeg = 0
  · rw [if_pos k0, if_pos k0]
  rw [if_neg k0, if_neg k0]
  by_cases k1 : (fk x.toNatClampNeg).toNatClampNeg = 1
  · rw [if_pos k1, if_pos k1]
  rw [if_neg k1, if_neg k1]
  rw [if_neg (by omega)] at hT
  have hc := hc (by rw [hT]; split <;> decide)
  by_cases k2 : (fk x.toNatClampNeg).toNatClampNeg = 2
  · rw [if_pos k2, if_pos k2, ← hc.1, ← hc.2.2]
  rw [if_neg k2, if_neg k2]
  by_cases k3 : (fk x.toNatClampNeg).toNatClampNeg = 3
  · rw [if_pos k3, if_pos k3, ← hc.1, ← hc.2.2, hn]
  rw [if_neg k3, if_neg k3]
  by_cases k4 : (fk x.toNatClampNeg).toNatClampNeg = 4
  · rw [if_pos k4, if_pos k4, ← hc.1, ← hc.2.2, hp]
  rw [if_neg k4, if_neg k4]
  by_cases k5 : (fk x.toNatClampNeg).toNatClampNeg = 5
  · have hd := hd (by rw [hT, if_pos (by omega)])
    rw [if_pos k5, if_pos k5, ← hc.1, ← hc.2.2, ← hd.1, ← hd.2.2]
  rw [if_neg k5, if_neg k5]
  by_cases k10 : (fk x.toNatClampNeg).toNatClampNeg = 10
  · rw [if_pos k10, if_pos k10]
    by_cases h1 : t.toInt = (fe x.toNatClampNeg).toInt
    · rw [if_pos h1, if_pos h1, ← hc.1, ← hc.2.2]
    · rw [if_neg h1, if_neg h1, hA (by omega)]
  rw [if_neg k10, if_neg k10]
  by_cases k11 : (fk x.toNatClampNeg).toNatClampNeg = 11
  · rw [if_pos k11, if_pos k11]
    by_cases h1 : t.toInt = (fe x.toNatClampNeg).toInt
    · rw [if_pos h1, if_pos h1, ← hc.1, ← hc.2.2]
    · rw [if_neg h1, if_neg h1, hA (by omega), ← hc.1, ← hc.2.2]
  rw [if_neg k11, if_neg k11]
  have hd8 : (fk x.toNatClampNeg).toNatClampNeg = 8 ∨ (fd x.toNatClampNeg = fd' x.toNatClampNeg ∧ fe (fd x.toNatClampNeg).toNatClampNeg = fe' (fd x.toNatClampNeg).toNatClampNeg ∧ V (fd x.toNatClampNeg) t k = V' (fd x.toNatClampNeg) t k) := by
    by_cases k8 : (fk x.toNatClampNeg).toNatClampNeg = 8
    · exact Or.inl k8
    · exact Or.inr (hd (by rw [hT, if_pos (by omega)]))
  have hP := pick_ext (l := l) (l' := l') (t := t) (k := k) ⟨hl 0 (by decide +kernel), hl 1 (by decide +kernel), hl 2 (by decide +kernel)⟩ hk hn hc hd8
  rw [← hP]
  by_cases h5 : pickW l fk fn fc fd fe V x t k = -5
  · rw [if_pos h5, if_pos h5]
  rw [if_neg h5, if_neg h5]
  rcases pick_in (l := l) (fk := fk) (fn := fn) (fc := fc) (fd := fd) (fe := fe) (V := V) (x := x) (t := t) (k := k) with h | h | ⟨h8, h⟩
  · exact absurd h h5
  · rw [h]; exact hc.2.2
  · rw [h]; exact (hd8.resolve_left h8).2.2
theorem valF_ext {l l' fk fk' fn fn' fc fc' fd fd' fe fe' : Nat → Int32} {n : Nat} (hn : n ≤ 24) (hok : okC fk fc fd fe) (hl : ∀ j : Nat, j < 7 → l j = l' j) (h : ∀ j : Nat, j < n → fk j = fk' j ∧ fn j = fn' j ∧ (1 ≤ (nmT (fk j).toNatClampNeg).toInt → fc j = fc' j) ∧ ((nmT (fk j).toNatClampNeg).toInt = 2 → fd j = fd' j) ∧ fe j = fe' j) : ∀ (d : Nat) (x t k : Int32), 0 ≤ x.toInt ∧ x.toInt < n → 0 ≤ t.toInt ∧ t.toInt ≤ 6 → valF l fk fn fc fd fe d x t k = valF l' fk' fn' fc' fd' fe' d x t k
  | 0, _, _, _, _, _ => rfl
  | d + 1, x, t, k, hx, ht => by
    have ih := valF_ext hn hok hl h d
    have h1 := tn hx.1
    obtain ⟨a1, a2, a3, a4, a5⟩ := h x.toNatClampNeg (by omega)
    obtain ⟨o1, o2, o3, o4⟩ := hok x.toNatClampNeg (by omega)
    have h2 := tn o1.1
    refine step_ext hl (by omega) a1 a2 a5 o4 (fun q => ?_) (fun q => ?_) (fun q => ?_)
    · have c := o2 q
      have c2 := tn c.1
      exact ⟨a3 q, (h _ (by omega)).2.2.2.2, ih _ _ _ ⟨c.1, by omega⟩ ht⟩
    · have c := o3 q
      have c2 := tn c.1
      exact ⟨a4 q, (h _ (by omega)).2.2.2.2, ih _ _ _ ⟨c.1, by omega⟩ ht⟩
    · have e := inc1 (i := t) (n := 6) q (by decide +kernel)
      exact ⟨ih _ _ _ hx ⟨by omega, by omega⟩, ih _ _ _ hx ⟨by omega, by omega⟩⟩
theorem valF_succ {l fk fn fc fd fe : Nat → Int32} (hok : okC fk fc fd fe) : ∀ (d : Nat) (x t k : Int32), 0 ≤ x.toInt ∧ x.toInt < 24 → 0 ≤ t.toInt ∧ t.toInt ≤ 6 → x.toInt + (6 - t.toInt) < d → valF l fk fn fc fd fe (d + 1) x t k = valF l fk fn fc fd fe d x t k
  | 0, x, t, k, hx, ht, hd => by omega
  | d + 1, x, t, k, hx, ht, hd => by
    have ih := valF_succ (l := l) (fn := fn) hok d
    have h1 := tn hx.1
    obtain ⟨o1, o2, o3, o4⟩ := hok x.toNatClampNeg (by omega)
    have h2 := tn o1.1
    show stepW l fk fn fc fd fe (valF l fk fn fc fd fe (d + 1)) x t k = stepW l fk fn fc fd fe (valF l fk fn fc fd fe d) x t k
    refine step_ext (fun _ _ => rfl) (by omega) rfl rfl rfl o4 (fun q => ?_) (fun q => ?_) (fun q => ?_)
    · have c := o2 q
      exact ⟨rfl, rfl, ih _ _ _ ⟨c.1, by omega⟩ ht (by omega)⟩
    · have c := o3 q
      exact ⟨rfl, rfl, ih _ _ _ ⟨c.1, by omega⟩ ht (by omega)⟩
    · have e := inc1 (i := t) (n := 6) q (by decide +kernel)
      exact ⟨ih _ _ _ hx ⟨by omega, by omega⟩ (by omega), ih _ _ _ hx ⟨by omega, by omega⟩ (by omega)⟩
theorem VAL_step {l fk fn fc fd fe : Nat → Int32} (hok : okC fk fc fd fe) {x t k : Int32} (hx : 0 ≤ x.toInt ∧ x.toInt < 24) (ht : 0 ≤ t.toInt ∧ t.toInt ≤ 6) : VALW l fk fn fc fd fe x t k = stepW l fk fn fc fd fe (VALW l fk fn fc fd fe) x t k := (valF_succ hok 31 x t k hx ht (by omega)).symm
/-! lowest terms -/
def lowW (p : Int64 × Int64) : Prop := p = (0, 0) ∨ (1 ≤ p.2.toInt ∧ Nat.gcd p.1.toInt.natAbs p.2.toInt.natAbs = 1)
theorem redW_low {x y : Int64} (hy : 1 ≤ y.toInt) : lowW (redW x y) := by
  have h := gI_toInt (x := x) hy
  refine Or.inr ⟨redW_pos hy, ?_⟩
  show Nat.gcd (x / gI x y).toInt.natAbs (y / gI x y).toInt.natAbs = 1
  rw [l_div h.2.1, l_div h.2.1, Int.natAbs_tdiv, Int.natAbs_tdiv]
  have e : (gI x y).toInt.natAbs = Nat.gcd x.toInt.natAbs y.toInt.natAbs := by omega
  rw [e]
  exact Nat.gcd_div_gcd_div_gcd_of_pos_right (by omega)
theorem mulW_low {p : Int64 × Int64} {v w : Int64} (hp : lowW p) (hw : 1 ≤ w.toInt) : lowW (mulW p v w) := by
  unfold mulW
  by_cases h : p.2.toInt = 0 ∨ ¬ fitM p.1 v ∨ ¬ fitM p.2 w
  · rw [if_pos h]; exact Or.inl rfl
  · rw [if_neg h]
    have h1 : 1 ≤ p.2.toInt := by
      rcases hp with e | e
      · rw [e] at h; exact absurd (Or.inl (by decide +kernel)) h
      · exact e.1
    have h2 : fitM p.2 w := Classical.byContradiction fun q => h (Or.inr (Or.inr q))
    refine redW_low ?_
    rw [l_mul h2.1 h2.2]
    have h3 : 1 * 1 ≤ p.2.toInt * w.toInt := Int.mul_le_mul h1 hw (by omega) (by omega)
    omega
theorem addW_low {p q : Int64 × Int64} (hp : lowW p) (hq : lowW q) : lowW (addW p q) := by
  unfold addW
  by_cases h : p.2.toInt = 0 ∨ q.2.toInt = 0 ∨ ¬ fitM p.1 q.2 ∨ ¬ fitM q.1 p.2 ∨ ¬ fitM p.2 q.2 ∨ ¬ fitA (p.1 * q.2) (q.1 * p.2)
  · rw [if_pos h]; exact Or.inl rfl
  · rw [if_neg h]
    have h1 : 1 ≤ p.2.toInt := by
      rcases hp with e | e
      · rw [e] at h; exact absurd (Or.inl (by decide +kernel)) h
      · exact e.1
    have h1' : 1 ≤ q.2.toInt := by
      rcases hq with e | e
      · rw [e] at h; exact absurd (Or.inr (Or.inl (by decide +kernel))) h
      · exact e.1
    have h2 : fitM p.2 q.2 := Classical.byContradiction fun q => h (Or.inr (Or.inr (Or.inr (Or.inr (Or.inl q)))))
    refine redW_low ?_
    rw [l_mul h2.1 h2.2]
    have h3 : 1 * 1 ≤ p.2.toInt * q.2.toInt := Int.mul_le_mul h1 h1' (by omega) (by omega)
    omega
theorem low_01 : lowW (0, 1) := Or.inr ⟨by decide, by decide⟩
theorem low_11 : lowW (1, 1) := Or.inr ⟨by decide, by decide⟩
theorem wt_pos {l : Nat → Int32} (hq : 1 ≤ (l 4).toInt ∧ (l 4).toInt ≤ 9) (hb : 1 ≤ (l 6).toInt ∧ (l 6).toInt ≤ 9) : 1 ≤ (wtW l).2.toInt := by
  refine redW_pos ?_
  rw [Int32.toInt_toInt64]
  have h1 : (l 6).toInt * (l 4).toInt ≤ 9 * 9 := Int.mul_le_mul hb.2 hq.2 (by omega) (by omega)
  have h2 : 1 * 1 ≤ (l 6).toInt * (l 4).toInt := Int.mul_le_mul hb.1 hq.1 (by omega) (by omega)
  rw [fb_mulI (by omega) (by omega)]
  omega
theorem maxW_low {p q : Int64 × Int64} (hp : lowW p) (hq : lowW q) : lowW (maxW p q) := by
  unfold maxW
  split
  · exact Or.inl rfl
  · split
    · exact hq
    · exact hp
theorem VAL_low {l fk fn fc fd fe : Nat → Int32} (hq : 1 ≤ (l 4).toInt ∧ (l 4).toInt ≤ 9) (hb : 1 ≤ (l 6).toInt ∧ (l 6).toInt ≤ 9) : ∀ (d : Nat) (x t k : Int32), lowW (valF l fk fn fc fd fe d x t k)
  | 0, _, _, _ => Or.inl rfl
  | d + 1, x, t, k => by
    have ih := VAL_low (fk := fk) (fn := fn) (fc := fc) (fd := fd) (fe := fe) hq hb d
    have hA : lowW (avgW l (valF l fk fn fc fd fe d) x t k) := mulW_low (addW_low (mulW_low (ih _ _ _) (by decide +kernel)) (mulW_low (ih _ _ _) (by decide +kernel))) (wt_pos hq hb)
    show lowW (stepW l fk fn fc fd fe (valF l fk fn fc fd fe d) x t k)
    unfold stepW
    split
    · exact low_01
    split
    · exact low_01
    split
    · exact low_11
    split
    · exact mulW_low (ih _ _ _) (by decide +kernel)
    split
    · exact mulW_low (ih _ _ _) (by decide +kernel)
    split
    · exact mulW_low (ih _ _ _) (by decide +kernel)
    split
    · exact addW_low (ih _ _ _) (ih _ _ _)
    split
    · split
      · exact ih _ _ _
      · exact hA
    split
    · split
      · exact ih _ _ _
      · exact maxW_low hA (ih _ _ _)
    split
    · exact Or.inl rfl
    · exact ih _ _ _
/-- alike, in lowest terms: the same -/
theorem low_eq {p q : Int64 × Int64} (hp : lowW p) (hq : lowW q) (p1 : p.2.toInt ≠ 0) (q1 : q.2.toInt ≠ 0) (h : cmpP p q = 0) : p = q := by
  rcases hp with e | ⟨a1, a2⟩
  · rw [e] at p1; exact absurd (by decide +kernel) p1
  rcases hq with e | ⟨b1, b2⟩
  · rw [e] at q1; exact absurd (by decide +kernel) q1
  have h1 : p.1.toInt * q.2.toInt = q.1.toInt * p.2.toInt := by
    have h2 : (p.1.toInt * q.2.toInt - q.1.toInt * p.2.toInt).sign = 0 := h
    have h3 := Int.sign_eq_zero_iff_zero.mp h2
    omega
  have h4 : p.1.toInt.natAbs * q.2.toInt.natAbs = q.1.toInt.natAbs * p.2.toInt.natAbs := by
    rw [← Int.natAbs_mul, ← Int.natAbs_mul, h1]
  have d1 : p.2.toInt.natAbs ∣ q.2.toInt.natAbs := by
    refine Nat.Coprime.dvd_of_dvd_mul_left (m := p.1.toInt.natAbs) ?_ ?_
    · show Nat.gcd _ _ = 1
      rw [Nat.gcd_comm]; exact a2
    · rw [h4]; exact Nat.dvd_mul_left _ _
  have d2 : q.2.toInt.natAbs ∣ p.2.toInt.natAbs := by
    refine Nat.Coprime.dvd_of_dvd_mul_left (m := q.1.toInt.natAbs) ?_ ?_
    · show Nat.gcd _ _ = 1
      rw [Nat.gcd_comm]; exact b2
    · rw [← h4]; exact Nat.dvd_mul_left _ _
  have e2 : p.2.toInt = q.2.toInt := by
    have h5 := Nat.dvd_antisymm d1 d2
    omega
  have e1 : p.1.toInt = q.1.toInt := by
    rw [e2] at h1
    exact Int.eq_of_mul_eq_mul_right (by omega) h1
  exact Prod.ext (Int64.toInt_inj.1 e1) (Int64.toInt_inj.1 e2)
/-! slots: what is put there, which of two is more -/
theorem updL_self {f : Nat → Int64} {k : Nat} : vp_updL f k (f k) = f := by
  funext j
  simp only [vp_updL]
  by_cases h : j = k
  · rw [if_pos h, h]
  · rw [if_neg h]
theorem updL_ne {f : Nat → Int64} {k j : Nat} {v : Int64} (h : j ≠ k) : vp_updL f k v j = f j := by
  simp only [vp_updL, if_neg h]
theorem fitM_pos {a b : Int64} (ha : 1 ≤ a.toInt) (hb : 1 ≤ b.toInt) (h : fitM a b) : 1 ≤ (a * b).toInt := by
  rw [l_mul h.1 h.2]
  have h3 : 1 * 1 ≤ a.toInt * b.toInt := Int.mul_le_mul ha hb (by omega) (by omega)
  omega
theorem mulW_no {p : Int64 × Int64} {v w : Int64} (h : p.2.toInt = 0 ∨ ¬ fitM p.1 v ∨ ¬ fitM p.2 w) : mulW p v w = (0, 0) := if_pos h
theorem mulW_yes {p : Int64 × Int64} {v w : Int64} (h0 : ¬ p.2.toInt = 0) (h1 : fitM p.1 v) (h2 : fitM p.2 w) : mulW p v w = redW (p.1 * v) (p.2 * w) := if_neg (fun q => by
  rcases q with q | q | q
  · exact h0 q
  · exact q h1
  · exact q h2)
theorem addW_no {p q : Int64 × Int64} (h : p.2.toInt = 0 ∨ q.2.toInt = 0 ∨ ¬ fitM p.1 q.2 ∨ ¬ fitM q.1 p.2 ∨ ¬ fitM p.2 q.2 ∨ ¬ fitA (p.1 * q.2) (q.1 * p.2)) : addW p q = (0, 0) := if_pos h
theorem addW_yes {p q : Int64 × Int64} (h0 : ¬ p.2.toInt = 0) (h1 : ¬ q.2.toInt = 0) (h2 : fitM p.1 q.2) (h3 : fitM q.1 p.2) (h4 : fitM p.2 q.2) (h5 : fitA (p.1 * q.2) (q.1 * p.2)) : addW p q = redW (p.1 * q.2 + q.1 * p.2) (p.2 * q.2) := if_neg (fun q => by
  rcases q with q | q | q | q | q | q
  · exact h0 q
  · exact h1 q
  · exact q h2
  · exact q h3
  · exact q h4
  · exact q h5)
theorem maxW_much {p q : Int64 × Int64} (h : p.2.toInt = 0 ∨ q.2.toInt = 0) : maxW p q = (0, 0) := if_pos h
theorem maxW_q {p q : Int64 × Int64} (h : ¬ (p.2.toInt = 0 ∨ q.2.toInt = 0)) (c : 0 < cmpP q p) : maxW p q = q := by
  unfold maxW
  rw [if_neg h, if_pos c]
theorem maxW_p {p q : Int64 × Int64} (h : ¬ (p.2.toInt = 0 ∨ q.2.toInt = 0)) (c : ¬ 0 < cmpP q p) : maxW p q = p := by
  unfold maxW
  rw [if_neg h, if_neg c]
/-- floorMod -/
theorem fmA {x y z : Int64} (hy : 1 ≤ y.toInt) (hz : z = x - x / y * y) (h : 0 ≤ (x ^^^ y).toInt) : z.toInt = x.toInt % y.toInt := by
  have h2 := xor_neg (x := x) (y := y) (by omega)
  rw [hz, l_rem (by omega) (Or.inr hy), Int.tmod_eq_emod_of_nonneg (by omega)]
theorem fmB {x y z : Int64} (hy : 1 ≤ y.toInt) (hz : z = x - x / y * y) (h0 : z.toInt = 0) : z.toInt = x.toInt % y.toInt := by
  have e : z.toInt = x.toInt.tmod y.toInt := by rw [hz]; exact l_rem (by omega) (Or.inr hy)
  rw [h0] at e
  have h1 := Int.dvd_of_tmod_eq_zero e.symm
  rw [h0, Int.emod_eq_zero_of_dvd h1]
theorem fmC {x y z : Int64} (hy : 1 ≤ y.toInt) (hz : z = x - x / y * y) (h : ¬ 0 ≤ (x ^^^ y).toInt) (h0 : ¬ z.toInt = 0) : (z + y).toInt = x.toInt % y.toInt := by
  have hx := (xor_neg (x := x) (y := y) (by omega)).mp (by omega)
  have e : z.toInt = x.toInt.tmod y.toInt := by rw [hz]; exact l_rem (by omega) (Or.inr hy)
  have hnd : ¬ (0 ≤ x.toInt ∨ y.toInt ∣ x.toInt) := by
    intro q
    rcases q with q | q
    · omega
    · exact h0 (by rw [e]; exact Int.tmod_eq_zero_of_dvd q)
  have e2 := Int.tmod_eq_emod (a := x.toInt) (b := y.toInt)
  rw [if_neg hnd, ← e] at e2
  have h3 := Int.emod_nonneg x.toInt (show y.toInt ≠ 0 by omega)
  have h4 := Int.emod_lt_of_pos x.toInt (show 0 < y.toInt by omega)
  have h5 := l_rng y
  obtain ⟨k, hk⟩ := add_bm z y
  have h6 := l_rng (z + y)
  omega
/-- order, turn by turn: C is what it is to answer -/
def ordI (C : Int) (ii mo : Int32) (ww vv yy xx : Int64) : Prop := (0 ≤ ii.toInt ∧ ii.toInt ≤ 200) ∧ (1 ≤ yy.toInt ∧ 1 ≤ ww.toInt) ∧ (mo.toInt = 1 ∨ mo.toInt = -1) ∧ mo.toInt * cmpW xx.toInt yy.toInt vv.toInt ww.toInt = C ∧ (ii.toInt = 0 ∨ (yy.toInt < xx.toInt ∧ (xx.toInt * yy.toInt) * 2 ^ ii.toNatClampNeg < 2 ^ 128))
theorem ord_init {x y v w : Int64} (hy : 1 ≤ y.toInt) (hw : 1 ≤ w.toInt) : ordI (cmpW x.toInt y.toInt v.toInt w.toInt) 0 1 w v y x := by
  refine ⟨by decide, ⟨hy, hw⟩, Or.inl (by decide +kernel), ?_, Or.inl (by decide +kernel)⟩
  rw [show (1 : Int32).toInt = 1 from by decide, Int.one_mul]
theorem neg_mo {mo : Int32} (h : mo.toInt = 1 ∨ mo.toInt = -1) : (-mo).toInt = -mo.toInt := by
  rw [Int32.toInt_neg, Int.bmod_eq_of_le (by omega) (by omega)]
theorem ord_back {C : Int} {ii mo ii' : Int32} {ww vv yy xx r s : Int64} (h : ordI C ii mo ww vv yy xx) (h2 : ii.toInt < 200) (hi : ii'.toInt = ii.toInt + 1) (he : xx.toInt / yy.toInt = vv.toInt / ww.toInt) (hr : r.toInt = xx.toInt % yy.toInt) (hs : s.toInt = vv.toInt % ww.toInt) (r0 : ¬ r.toInt = 0) (s0 : ¬ s.toInt = 0) : ordI C ii' (-mo) s ww r yy := by
  obtain ⟨a, ⟨b1, b2⟩, c, d, e⟩ := h
  have r1 := Int.emod_nonneg xx.toInt (show yy.toInt ≠ 0 by omega)
  have r2 := Int.emod_lt_of_pos xx.toInt (show 0 < yy.toInt by omega)
  have s1 := Int.emod_nonneg vv.toInt (show ww.toInt ≠ 0 by omega)
  refine ⟨⟨by omega, by omega⟩, ⟨by omega, by omega⟩, by rw [neg_mo c]; omega, ?_, Or.inr ⟨by omega, ?_⟩⟩
  · rw [neg_mo c, hr, hs, ← d, cmpW_turn he, Int.neg_mul, Int.mul_neg]
  · rw [tnS a.1 hi]
    rcases e with e | ⟨e1, e2⟩
    · have t := tn a.1
      have e0 : ii.toNatClampNeg = 0 := by omega
      rw [e0]
      have h3 := l_rng yy
      have h4 : yy.toInt * r.toInt ≤ 9223372036854775808 * 9223372036854775808 := Int.mul_le_mul (by omega) (by omega) (by omega) (by omega)
      have h5 : (9223372036854775808 * 9223372036854775808 : Int) * 2 ^ (0 + 1) < 2 ^ 128 := by decide
      have h6 : yy.toInt * r.toInt * 2 ^ (0 + 1) ≤ (9223372036854775808 * 9223372036854775808 : Int) * 2 ^ (0 + 1) := Int.mul_le_mul_of_nonneg_right h4 (by decide +kernel)
      omega
    · have h3 := mod_half (x := xx.toInt) (y := yy.toInt) (by omega) (by omega)
      have h4 : (yy.toInt * r.toInt) * 2 ≤ xx.toInt * yy.toInt := by
        rw [Int.mul_comm xx.toInt, Int.mul_assoc]
        exact Int.mul_le_mul_of_nonneg_left (by omega) (by omega)
      have h5 : (0 : Int) < 2 ^ ii.toNatClampNeg := Int.pow_pos (by decide +kernel)
      have h6 : ((yy.toInt * r.toInt) * 2) * 2 ^ ii.toNatClampNeg ≤ (xx.toInt * yy.toInt) * 2 ^ ii.toNatClampNeg := Int.mul_le_mul_of_nonneg_right h4 (by omega)
      have h7 : (yy.toInt * r.toInt) * 2 ^ (ii.toNatClampNeg + 1) = ((yy.toInt * r.toInt) * 2) * 2 ^ ii.toNatClampNeg := by
        rw [Int.pow_succ, Int.mul_comm ((2 : Int) ^ ii.toNatClampNeg) 2, Int.mul_assoc]
        simp only [Int.mul_assoc]
      omega
theorem ord_end {C : Int} {ii mo : Int32} {ww vv yy xx : Int64} (h : ordI C ii mo ww vv yy xx) (h2 : 200 ≤ ii.toInt) : False := by
  obtain ⟨a, ⟨b1, b2⟩, c, d, e⟩ := h
  rcases e with e | ⟨e1, e2⟩
  · omega
  · have t := tn a.1
    have h1 : 1 * 1 ≤ xx.toInt * yy.toInt := Int.mul_le_mul (by omega) b1 (by omega) (by omega)
    have h3 : (2 : Nat) ^ 128 ≤ 2 ^ ii.toNatClampNeg := Nat.pow_le_pow_right (by omega) (by omega)
    have h2 : (2 : Int) ^ 128 ≤ 2 ^ ii.toNatClampNeg := by exact_mod_cast h3
    have h4 : 1 * 2 ^ ii.toNatClampNeg ≤ (xx.toInt * yy.toInt) * 2 ^ ii.toNatClampNeg := Int.mul_le_mul_of_nonneg_right (by omega) (by omega)
    omega
theorem ord_gt {C : Int} {ii mo : Int32} {ww vv yy xx q p : Int64} (h : ordI C ii mo ww vv yy xx) (hq : q.toInt = xx.toInt / yy.toInt) (hp : p.toInt = vv.toInt / ww.toInt) (c : p.toInt < q.toInt) : mo.toInt = C := by
  obtain ⟨a, ⟨b1, b2⟩, c9, d, e⟩ := h
  rw [← d, cmpW_gt (by omega) (by omega) (by omega), Int.mul_one]
theorem ord_lt {C : Int} {ii mo : Int32} {ww vv yy xx q p : Int64} (h : ordI C ii mo ww vv yy xx) (hq : q.toInt = xx.toInt / yy.toInt) (hp : p.toInt = vv.toInt / ww.toInt) (c : q.toInt < p.toInt) : (-mo).toInt = C := by
  obtain ⟨a, ⟨b1, b2⟩, c9, d, e⟩ := h
  rw [neg_mo c9, ← d, cmpW_lt (by omega) (by omega) (by omega), Int.mul_neg, Int.mul_one]
theorem ord_0 {C : Int} {ii mo : Int32} {ww vv yy xx r s : Int64} (h : ordI C ii mo ww vv yy xx) (he : xx.toInt / yy.toInt = vv.toInt / ww.toInt) (hr : r.toInt = xx.toInt % yy.toInt) (hs : s.toInt = vv.toInt % ww.toInt) (r0 : r.toInt = 0) (s0 : s.toInt = 0) : (0 : Int32).toInt = C := by
  obtain ⟨a, ⟨b1, b2⟩, c9, d, e⟩ := h
  rw [← d, cmpW_0 he (by omega) (by omega), Int.mul_zero]
  decide
theorem ord_s {C : Int} {ii mo : Int32} {ww vv yy xx r s : Int64} (h : ordI C ii mo ww vv yy xx) (he : xx.toInt / yy.toInt = vv.toInt / ww.toInt) (hr : r.toInt = xx.toInt % yy.toInt) (hs : s.toInt = vv.toInt % ww.toInt) (r0 : ¬ r.toInt = 0) (s0 : s.toInt = 0) : mo.toInt = C := by
  obtain ⟨a, ⟨b1, b2⟩, c9, d, e⟩ := h
  have r1 := Int.emod_nonneg xx.toInt (show yy.toInt ≠ 0 by omega)
  rw [← d, cmpW_s (by omega) he (by omega) (by omega), Int.mul_one]
theorem ord_r {C : Int} {ii mo : Int32} {ww vv yy xx r s : Int64} (h : ordI C ii mo ww vv yy xx) (he : xx.toInt / yy.toInt = vv.toInt / ww.toInt) (hr : r.toInt = xx.toInt % yy.toInt) (hs : s.toInt = vv.toInt % ww.toInt) (r0 : r.toInt = 0) (s0 : ¬ s.toInt = 0) : (-mo).toInt = C := by
  obtain ⟨a, ⟨b1, b2⟩, c9, d, e⟩ := h
  have s1 := Int.emod_nonneg vv.toInt (show ww.toInt ≠ 0 by omega)
  rw [neg_mo c9, ← d, cmpW_r (by omega) he (by omega) (by omega), Int.mul_neg, Int.mul_one]
/-- a part of what lies in a slot; NO and MUCH, if it is too much -/
def partW (p : Int64 × Int64) (k : Int32) (r : Int64) : Prop := (p.2.toInt = 0 ∧ r.toInt = -4611686018427387909) ∨ (p.2.toInt ≠ 0 ∧ ((k.toInt = 0 ∧ r = p.1) ∨ (k.toInt ≠ 0 ∧ r = p.2)))
theorem partW_uniq {p : Int64 × Int64} {k : Int32} {r r' : Int64} (a : partW p k r) (b : partW p k r') : r = r' := by
  rcases a with ⟨a1, a2⟩ | ⟨a1, a2⟩
  · rcases b with ⟨b1, b2⟩ | ⟨b1, b2⟩
    · exact Int64.toInt_inj.1 (by omega)
    · exact absurd a1 b1
  · rcases b with ⟨b1, b2⟩ | ⟨b1, b2⟩
    · exact absurd b1 a1
    · rcases a2 with ⟨a2, a3⟩ | ⟨a2, a3⟩
      · rcases b2 with ⟨b2, b3⟩ | ⟨b2, b3⟩
        · rw [a3, b3]
        · exact absurd a2 b2
      · rcases b2 with ⟨b2, b3⟩ | ⟨b2, b3⟩
        · exact absurd b2 a2
        · rw [a3, b3]
