section
/-! base: order of ints (of kit/laws/NUMBERS), the fixed surroundings of every contract (array classes, nest links), contracts' forms -/
theorem fa_lt (a b : Int32) : a < b ↔ a.toInt < b.toInt := Int32.lt_iff_toInt_lt
theorem fa_le (a b : Int32) : a ≤ b ↔ a.toInt ≤ b.toInt := Int32.le_iff_toInt_le
theorem fa_eq (a b : Int32) : a = b ↔ a.toInt = b.toInt := Int32.toInt_inj.symm
theorem fa_lt64 (a b : Int64) : a < b ↔ a.toInt < b.toInt := Int64.lt_iff_toInt_lt
theorem fa_le64 (a b : Int64) : a ≤ b ↔ a.toInt ≤ b.toInt := Int64.le_iff_toInt_le
theorem fa_eq64 (a b : Int64) : a = b ↔ a.toInt = b.toInt := Int64.toInt_inj.symm
/-- the array classes by their places -/
abbrev tyL (T : Nat → ClassId) : List (ClassId × FieldType) := [(T 0, .int), (T 1, .long), (T 2, .float), (T 3, .double), (T 4, .boolean), (T 5, .object "ClauseBook$Bag"), (T 6, .object "ClauseBook$Sheet"), (T 7, .object "ClauseBook$Hand"), (T 8, .object "java/lang/String")]
/-- the nest links -/
def nwM : List (String × Nat × MethodName) := [(RX6, 11, yX8_init), (RX6, 20, yX2_init), (RX6, 31, yX1_init), (RX12, 58, yX10_init), (RX12, 75, yX9_init), (RX12, 76, yX4_init), (RX7, 79, yX12_within), (RX2, 37, yX12_within), (RX10, 50, yX12_within)]
def nwF : List (String × Nat) := [(RX12, 126), (RX2, 41), (RX10, 34)]
def nwAll (U : State) : Prop := (∀ q ∈ nwM, va_Nw (.methodLinkNest q.1 q.2.1 q.2.2 RX12) U) ∧ (∀ q ∈ nwF, va_Nw (.fieldLinkNest q.1 q.2 RX7 "ALL" "[LClauseBook$Kind;" RX12) U) ∧ (∀ q ∈ (["ClauseBook$Bag", "ClauseBook$Sheet", "ClauseBook$Hand", "java/lang/String"] : List String), va_AO q U)
def ekK (D : va_G) (T : Nat → ClassId) (U : State) : Prop := va_K D vwCl (tyL T) U ∧ nwAll U
theorem ekK.warm {D : va_G} {T : Nat → ClassId} {s U : State} (hW : s.WarmedH U.vm) (h : ekK D T s) : ekK D T U :=
  ⟨va_K.moved hW.alike h.1, fun q hq => va_Nw.warmM hW (h.2.1 q hq), fun q hq => va_Nw.warmF hW (h.2.2.1 q hq), fun q hq => va_AO.moved hW.alike (h.2.2.2 q hq)⟩
theorem ekK.same {D : va_G} {T : Nat → ClassId} {u U : State} (hv : u.vm = U.vm) (h : ekK D T u) : ekK D T U :=
  ⟨va_K.moved (hv ▸ Vm.Alike.refl u.vm) h.1, fun q hq => va_Nw.same rfl hv (h.2.1 q hq), fun q hq => va_Nw.same rfl hv (h.2.2.1 q hq), fun q hq => va_AO.moved (hv ▸ Vm.Alike.refl u.vm) (h.2.2.2 q hq)⟩
/-- a reading contract's start -/
def pR (av : List Value) (D : va_G) (T : Nat → ClassId) (ws : va_W) : Array Value → State → Prop := va_Pc av (fun U => va_P D vwCl ws U.heap ∧ ekK D T U)
/-- a writing contract's start -/
def pW (av : List Value) (D : va_G) (T : Nat → ClassId) (ws : va_W) (sz : Nat) : Array Value → State → Prop := va_Pc av (fun U => U.heap.size = sz ∧ va_P D vwCl ws U.heap ∧ ekK D T U ∧ va_D (fun _ => True) ws)
theorem pR_blind {av : List Value} {D : va_G} {T : Nat → ClassId} {ws : va_W} : FrameBlind (pR av D T ws) := fun a U g mk q => by
  obtain ⟨q0, qP, qE⟩ := q
  exact ⟨q0, qP, ekK.same (u := U) (U := U.calling g mk a) rfl qE⟩
theorem pW_blind {av : List Value} {D : va_G} {T : Nat → ClassId} {ws : va_W} {sz : Nat} : FrameBlind (pW av D T ws sz) := fun a U g mk q => by
  obtain ⟨q0, q1, qP, qE, qD⟩ := q
  exact ⟨q0, q1, qP, ekK.same (u := U) (U := U.calling g mk a) rfl qE, qD⟩
theorem pR_S {As : List Value} {D : va_G} {T : Nat → ClassId} {ws wc : va_W} {s : State} {H : Heap} (hP : va_P D vwCl ws H) (hE : ekK D T s) (is : List Nat) (hs : is.filterMap (fun i => ws[i]?) = wc) : PreS s H (pR As D T wc) As :=
  ⟨pR_blind, fun U hU hW => ⟨rfl, by rw [hU]; exact hP.sub is hs, ekK.warm hW hE⟩⟩
theorem pR_V {As : List Value} {D : va_G} {T : Nat → ClassId} {ws wc : va_W} {s : State} {H : Heap} {b ci q0 : Nat} {q : vw_C} {fs : List Value} (hP : va_P D vwCl ws H) (hE : ekK D T s) (hc : vwCl[ci]? = some q) (he : ws[q0]? = some (b, .inr (ci, fs))) (is : List Nat) (hs : is.filterMap (fun i => ws[i]?) = wc) : PreV s H q.1 b (pR (.ref b :: As) D T wc) As :=
  ⟨pR_blind, va_recv hE.1 hP hc he, fun U hU hW => ⟨rfl, by rw [hU]; exact hP.sub is hs, ekK.warm hW hE⟩⟩
theorem pW_S {As : List Value} {D : va_G} {T : Nat → ClassId} {ws wc : va_W} {s : State} {H : Heap} {A : Nat → Prop} (hP : va_P D vwCl ws H) (hE : ekK D T s) (hD : va_D A ws) (is : List Nat) (hn : va_nd is = true) (hs : is.map (fun i => ws[i]?) = wc.map some) (hs2 : is.filterMap (fun i => ws[i]?) = wc) : PreS s H (pW As D T wc H.size) As :=
  ⟨pW_blind, fun U hU hW => ⟨rfl, by rw [hU], by rw [hU]; exact hP.sub is hs2, ekK.warm hW hE, (hD.sub is hn hs).weaken (fun _ _ _ _ => trivial)⟩⟩
theorem pW_V {As : List Value} {D : va_G} {T : Nat → ClassId} {ws wc : va_W} {s : State} {H : Heap} {A : Nat → Prop} {b ci q0 : Nat} {q : vw_C} {fs : List Value} (hP : va_P D vwCl ws H) (hE : ekK D T s) (hD : va_D A ws) (hc : vwCl[ci]? = some q) (he : ws[q0]? = some (b, .inr (ci, fs))) (is : List Nat) (hn : va_nd is = true) (hs : is.map (fun i => ws[i]?) = wc.map some) (hs2 : is.filterMap (fun i => ws[i]?) = wc) : PreV s H q.1 b (pW (.ref b :: As) D T wc H.size) As :=
  ⟨pW_blind, va_recv hE.1 hP hc he, fun U hU hW => ⟨rfl, by rw [hU], by rw [hU]; exact hP.sub is hs2, ekK.warm hW hE, (hD.sub is hn hs).weaken (fun _ _ _ _ => trivial)⟩⟩
/-- a writing contract's world behind it -/
def bW (D : va_G) (A : Nat → Prop) {S : Type} (w1 : S → va_W) (u : S) (t : State) : Prop := va_P D vwCl (w1 u) t.heap ∧ va_D A (w1 u)
/-- a test's answer -/
theorem bool_post {c : Prop} [Decidable c] {r : Int32} (h : r = if c then 1 else 0) : (c ∧ r = 1) ∨ (¬ c ∧ r = 0) := by
  by_cases hc : c
  · left; rw [if_pos hc] at h; exact ⟨hc, h⟩
  · right; rw [if_neg hc] at h; exact ⟨hc, h⟩
theorem lcmp_lt (x y : Int64) : lg_cmp x y < 0 ↔ x.toInt < y.toInt := by
  unfold lg_cmp
  by_cases h1 : x > y
  · have h : y.toInt < x.toInt := (fa_lt64 y x).1 h1
    rw [if_pos h1]; exact ⟨fun h9 => absurd h9 (by decide), fun h9 => by omega⟩
  · by_cases h2 : x = y
    · subst h2; rw [if_neg h1, if_pos rfl]; exact ⟨fun h9 => absurd h9 (by decide), fun h9 => by omega⟩
    · rw [if_neg h1, if_neg h2]
      have h3 : ¬ y.toInt < x.toInt := fun h => h1 ((fa_lt64 y x).2 h)
      have h4 : ¬ x.toInt = y.toInt := fun h => h2 ((fa_eq64 x y).2 h)
      exact ⟨fun _ => by omega, fun _ => by decide⟩
theorem lcmp_gt (x y : Int64) : 0 < lg_cmp x y ↔ y.toInt < x.toInt := by
  unfold lg_cmp
  by_cases h1 : x > y
  · have h : y.toInt < x.toInt := (fa_lt64 y x).1 h1
    rw [if_pos h1]; exact ⟨fun _ => h, fun _ => by decide⟩
  · have h3 : ¬ y.toInt < x.toInt := fun h => h1 ((fa_lt64 y x).2 h)
    by_cases h2 : x = y
    · rw [if_neg h1, if_pos h2]; exact ⟨fun h9 => absurd h9 (by decide), fun h9 => absurd h9 h3⟩
    · rw [if_neg h1, if_neg h2]; exact ⟨fun h9 => absurd h9 (by decide), fun h9 => absurd h9 h3⟩
theorem lcmp_ge (x y : Int64) : 0 ≤ lg_cmp x y ↔ y.toInt ≤ x.toInt := by
  have h := lcmp_lt x y
  rw [fa_lt] at h
  rw [fa_le]
  have e0 : (0 : Int32).toInt = 0 := rfl
  omega
theorem lcmp_le (x y : Int64) : lg_cmp x y ≤ 0 ↔ x.toInt ≤ y.toInt := by
  have h := lcmp_gt x y
  rw [fa_lt] at h
  rw [fa_le]
  have e0 : (0 : Int32).toInt = 0 := rfl
  omega
theorem lcmp_eq (x y : Int64) : lg_cmp x y = 0 ↔ x.toInt = y.toInt := by
  have h := lcmp_gt x y
  have g := lcmp_lt x y
  rw [fa_lt] at h g
  rw [fa_eq]
  have e0 : (0 : Int32).toInt = 0 := rfl
  omega
theorem in2 {x : Int32} (h : 0 ≤ x.toInt ∧ x.toInt ≤ 1) : x = 0 ∨ x = 1 := by
  simp only [fa_eq]
  have e0 : (0 : Int32).toInt = 0 := rfl
  have e1 : (1 : Int32).toInt = 1 := rfl
  omega
theorem in3 {x : Int32} (h : 0 ≤ x.toInt ∧ x.toInt ≤ 2) : x = 0 ∨ x = 1 ∨ x = 2 := by
  simp only [fa_eq]
  have e0 : (0 : Int32).toInt = 0 := rfl
  have e1 : (1 : Int32).toInt = 1 := rfl
  have e2 : (2 : Int32).toInt = 2 := rfl
  omega
theorem in4 {x : Int32} (h : 0 ≤ x.toInt ∧ x.toInt ≤ 3) : x = 0 ∨ x = 1 ∨ x = 2 ∨ x = 3 := by
  simp only [fa_eq]
  have e0 : (0 : Int32).toInt = 0 := rfl
  have e1 : (1 : Int32).toInt = 1 := rfl
  have e2 : (2 : Int32).toInt = 2 := rfl
  have e3 : (3 : Int32).toInt = 3 := rfl
  omega
section NewArr
variable {p : Program} {l : Launch} {e : Env} {R : Room} {s : State} {m : MethodId} {args : Array Value} {below : List Frame} {meth : Method} {c : Code} {H : Heap} {locs : List Loc} {cells slots : Nat} {Q : State → Prop}
variable {cc : ByteArray} {pc : Nat} {ls : Array Slot} {rest : List Value} {D : va_G} {cl : List vw_C} {A : Nat → Prop} {a : Nat} {tys : List (ClassId × FieldType)} {ws : va_W} {H0 : Heap}
theorem va_RA.one {U : State} {cA cB : ClassId} {ty : FieldType} (h1 : va_RA U cA ty) (h2 : va_RA U cB ty) : cA = cB := by
  cases ty with
  | object C =>
    obtain ⟨kA, comp, -, -, -, h⟩ := h1
    obtain ⟨kB, comp2, -, -, -, g⟩ := h2
    exact Option.some.inj (h.symm.trans g)
  | _ => exact Option.some.inj (h1.symm.trans h2)
/-- a new array of a type that the surroundings name -/
theorem nw_newa (hexec : p.tables.exec = Jvm.exec) (hb : c.code = cc) {atype : ArrayType} (harr : (Cond.arrayClass (newarray.typeOf atype)).before args s = true) {ty : FieldType} (hty : newarray.typeOf atype = ty) (hK : va_K D cl tys s) (hP : va_P D cl ws H) (hD : va_D A ws) (hS : va_S A H0 H locs) (hA : ∀ q, H0.size ≤ q → A q) (t0 : Nat) {cT : ClassId} (ht : tys[t0]? = some (cT, ty))
    {n : Int32} {N' : Nat} {a0 : vp_A} (ha : ∀ cA : ClassId, vp_cell cA a0 = arrV cA N' (fun _ => defaultValue ty)) (hn : ¬ n < 0) (hN : n.toNatClampNeg = N') (hbytes : N' * componentBytes ty ≤ 536870912) (hcells : cells + 1 ≤ R.cells) (hslots : slots + N' ≤ R.slots) (hdg : decode cc pc = .ok (.newarray atype, 2))
    (kk : ∀ (q : Nat) (H1 : Heap), va_P D cl (ws ++ [(q, .inl (cT, a0))]) H1 → va_D A (ws ++ [(q, .inl (cT, a0))]) → va_S A H0 H1 locs →
      W p l e R s m args below meth c H1 locs (cells + 1) (slots + N') Q (F0 m (pc + 2) ls (.ref q :: rest))) : W p l e R s m args below meth c H locs cells slots Q (F0 m pc ls (.int n :: rest)) := by
  refine va_newa hexec hb harr hty hK hP hD hS hA ha hn hN hbytes hcells hslots hdg (fun q cA H1 hK1 hP1 hD1 hS1 => ?_)
  have e1 := (hK.2 t0 _ ht).2
  have e2 := (hK1.2 tys.length (cA, ty) (by rw [List.getElem?_append_right (Nat.le_refl _), Nat.sub_self]; rfl)).2
  have e3 : cA = cT := va_RA.one e2 e1
  subst e3
  exact kk q H1 hP1 hD1 hS1
theorem nw_newq (hexec : p.tables.exec = Jvm.exec) (hb : c.code = cc) {own C : String} {index : Nat} (hown : s.vm.findClass own = some m.cls) (hclink : (Cond.classLink own index C).before args s = true) (hover : va_AO C s) (hK : va_K D cl tys s) (hP : va_P D cl ws H) (hD : va_D A ws) (hS : va_S A H0 H locs) (hA : ∀ q, H0.size ≤ q → A q) (t0 : Nat) {cT : ClassId} (ht : tys[t0]? = some (cT, .object C))
    {n : Int32} {N' : Nat} (hn : ¬ n < 0) (hN : n.toNatClampNeg = N') (hbytes : N' * 4 ≤ 536870912) (hcells : cells + 1 ≤ R.cells) (hslots : slots + N' ≤ R.slots) (hdg : decode cc pc = .ok (.anewarray index, 3))
    (kk : ∀ (q : Nat) (H1 : Heap), va_P D cl (ws ++ [(q, .inl (cT, N', .inr (.inr (.inr (.inr (fun _ => none))))))]) H1 → va_D A (ws ++ [(q, .inl (cT, N', .inr (.inr (.inr (.inr (fun _ => none))))))]) → va_S A H0 H1 locs →
      W p l e R s m args below meth c H1 locs (cells + 1) (slots + N') Q (F0 m (pc + 3) ls (.ref q :: rest))) : W p l e R s m args below meth c H locs cells slots Q (F0 m pc ls (.int n :: rest)) := by
  refine va_newq hexec hb hown hclink hover hK hP hD hS hA hn hN hbytes hcells hslots hdg (fun q cA H1 hK1 hP1 hD1 hS1 => ?_)
  have e1 := (hK.2 t0 _ ht).2
  have e2 := (hK1.2 tys.length (cA, .object C) (by rw [List.getElem?_append_right (Nat.le_refl _), Nat.sub_self]; rfl)).2
  have e3 : cA = cT := va_RA.one e2 e1
  subst e3
  exact kk q H1 hP1 hD1 hS1
end NewArr
theorem ti_n100 : ((-100) : Int32).toInt = (-100) := by decide
theorem ti_n99 : ((-99) : Int32).toInt = (-99) := by decide
theorem ti_n14 : ((-14) : Int32).toInt = (-14) := by decide
theorem ti_n13 : ((-13) : Int32).toInt = (-13) := by decide
theorem ti_n12 : ((-12) : Int32).toInt = (-12) := by decide
theorem ti_n11 : ((-11) : Int32).toInt = (-11) := by decide
theorem ti_n10 : ((-10) : Int32).toInt = (-10) := by decide
theorem ti_n9 : ((-9) : Int32).toInt = (-9) := by decide
theorem ti_n8 : ((-8) : Int32).toInt = (-8) := by decide
theorem ti_n7 : ((-7) : Int32).toInt = (-7) := by decide
theorem ti_n6 : ((-6) : Int32).toInt = (-6) := by decide
theorem ti_n5 : ((-5) : Int32).toInt = (-5) := by decide
theorem ti_n4 : ((-4) : Int32).toInt = (-4) := by decide
theorem ti_n3 : ((-3) : Int32).toInt = (-3) := by decide
theorem ti_n2 : ((-2) : Int32).toInt = (-2) := by decide
theorem ti_n1 : ((-1) : Int32).toInt = (-1) := by decide
theorem ti_0 : (0 : Int32).toInt = 0 := by decide
theorem ti_1 : (1 : Int32).toInt = 1 := by decide
theorem ti_2 : (2 : Int32).toInt = 2 := by decide
theorem ti_3 : (3 : Int32).toInt = 3 := by decide
theorem ti_4 : (4 : Int32).toInt = 4 := by decide
theorem ti_5 : (5 : Int32).toInt = 5 := by decide
theorem ti_6 : (6 : Int32).toInt = 6 := by decide
theorem ti_7 : (7 : Int32).toInt = 7 := by decide
theorem ti_8 : (8 : Int32).toInt = 8 := by decide
theorem ti_9 : (9 : Int32).toInt = 9 := by decide
theorem ti_10 : (10 : Int32).toInt = 10 := by decide
theorem ti_11 : (11 : Int32).toInt = 11 := by decide
theorem ti_12 : (12 : Int32).toInt = 12 := by decide
theorem ti_13 : (13 : Int32).toInt = 13 := by decide
theorem ti_14 : (14 : Int32).toInt = 14 := by decide
theorem ti_15 : (15 : Int32).toInt = 15 := by decide
theorem ti_16 : (16 : Int32).toInt = 16 := by decide
theorem ti_17 : (17 : Int32).toInt = 17 := by decide
theorem ti_18 : (18 : Int32).toInt = 18 := by decide
theorem ti_19 : (19 : Int32).toInt = 19 := by decide
theorem ti_20 : (20 : Int32).toInt = 20 := by decide
theorem ti_21 : (21 : Int32).toInt = 21 := by decide
theorem ti_22 : (22 : Int32).toInt = 22 := by decide
theorem ti_23 : (23 : Int32).toInt = 23 := by decide
theorem ti_24 : (24 : Int32).toInt = 24 := by decide
theorem ti_25 : (25 : Int32).toInt = 25 := by decide
theorem ti_26 : (26 : Int32).toInt = 26 := by decide
theorem ti_27 : (27 : Int32).toInt = 27 := by decide
theorem ti_28 : (28 : Int32).toInt = 28 := by decide
theorem ti_29 : (29 : Int32).toInt = 29 := by decide
theorem ti_30 : (30 : Int32).toInt = 30 := by decide
theorem ti_31 : (31 : Int32).toInt = 31 := by decide
theorem ti_32 : (32 : Int32).toInt = 32 := by decide
theorem ti_33 : (33 : Int32).toInt = 33 := by decide
theorem ti_34 : (34 : Int32).toInt = 34 := by decide
theorem ti_35 : (35 : Int32).toInt = 35 := by decide
theorem ti_36 : (36 : Int32).toInt = 36 := by decide
theorem ti_37 : (37 : Int32).toInt = 37 := by decide
theorem ti_38 : (38 : Int32).toInt = 38 := by decide
theorem ti_39 : (39 : Int32).toInt = 39 := by decide
theorem ti_40 : (40 : Int32).toInt = 40 := by decide
theorem ti_41 : (41 : Int32).toInt = 41 := by decide
theorem ti_42 : (42 : Int32).toInt = 42 := by decide
theorem ti_43 : (43 : Int32).toInt = 43 := by decide
theorem ti_44 : (44 : Int32).toInt = 44 := by decide
theorem ti_45 : (45 : Int32).toInt = 45 := by decide
theorem ti_46 : (46 : Int32).toInt = 46 := by decide
theorem ti_47 : (47 : Int32).toInt = 47 := by decide
theorem ti_48 : (48 : Int32).toInt = 48 := by decide
theorem ti_49 : (49 : Int32).toInt = 49 := by decide
theorem ti_50 : (50 : Int32).toInt = 50 := by decide
theorem ti_51 : (51 : Int32).toInt = 51 := by decide
theorem ti_52 : (52 : Int32).toInt = 52 := by decide
theorem ti_53 : (53 : Int32).toInt = 53 := by decide
theorem ti_54 : (54 : Int32).toInt = 54 := by decide
theorem ti_55 : (55 : Int32).toInt = 55 := by decide
theorem ti_56 : (56 : Int32).toInt = 56 := by decide
theorem ti_57 : (57 : Int32).toInt = 57 := by decide
theorem ti_58 : (58 : Int32).toInt = 58 := by decide
theorem ti_59 : (59 : Int32).toInt = 59 := by decide
theorem ti_60 : (60 : Int32).toInt = 60 := by decide
theorem ti_61 : (61 : Int32).toInt = 61 := by decide
theorem ti_62 : (62 : Int32).toInt = 62 := by decide
theorem ti_63 : (63 : Int32).toInt = 63 := by decide
theorem ti_64 : (64 : Int32).toInt = 64 := by decide
theorem ti_99 : (99 : Int32).toInt = 99 := by decide
theorem ti_100 : (100 : Int32).toInt = 100 := by decide
theorem ti_120 : (120 : Int32).toInt = 120 := by decide
theorem ti_255 : (255 : Int32).toInt = 255 := by decide
theorem ti_672 : (672 : Int32).toInt = 672 := by decide
theorem ti_676 : (676 : Int32).toInt = 676 := by decide
theorem ti_1000 : (1000 : Int32).toInt = 1000 := by decide
theorem ti_2000 : (2000 : Int32).toInt = 2000 := by decide
theorem tl_n100 : ((-100) : Int64).toInt = (-100) := by decide
theorem tl_n99 : ((-99) : Int64).toInt = (-99) := by decide
theorem tl_n14 : ((-14) : Int64).toInt = (-14) := by decide
theorem tl_n13 : ((-13) : Int64).toInt = (-13) := by decide
theorem tl_n12 : ((-12) : Int64).toInt = (-12) := by decide
theorem tl_n11 : ((-11) : Int64).toInt = (-11) := by decide
theorem tl_n10 : ((-10) : Int64).toInt = (-10) := by decide
theorem tl_n9 : ((-9) : Int64).toInt = (-9) := by decide
theorem tl_n8 : ((-8) : Int64).toInt = (-8) := by decide
theorem tl_n7 : ((-7) : Int64).toInt = (-7) := by decide
theorem tl_n6 : ((-6) : Int64).toInt = (-6) := by decide
theorem tl_n5 : ((-5) : Int64).toInt = (-5) := by decide
theorem tl_n4 : ((-4) : Int64).toInt = (-4) := by decide
theorem tl_n3 : ((-3) : Int64).toInt = (-3) := by decide
theorem tl_n2 : ((-2) : Int64).toInt = (-2) := by decide
theorem tl_n1 : ((-1) : Int64).toInt = (-1) := by decide
theorem tl_0 : (0 : Int64).toInt = 0 := by decide
theorem tl_1 : (1 : Int64).toInt = 1 := by decide
theorem tl_2 : (2 : Int64).toInt = 2 := by decide
theorem tl_3 : (3 : Int64).toInt = 3 := by decide
theorem tl_4 : (4 : Int64).toInt = 4 := by decide
theorem tl_5 : (5 : Int64).toInt = 5 := by decide
theorem tl_6 : (6 : Int64).toInt = 6 := by decide
theorem tl_7 : (7 : Int64).toInt = 7 := by decide
theorem tl_8 : (8 : Int64).toInt = 8 := by decide
theorem tl_9 : (9 : Int64).toInt = 9 := by decide
theorem tl_10 : (10 : Int64).toInt = 10 := by decide
theorem tl_11 : (11 : Int64).toInt = 11 := by decide
theorem tl_12 : (12 : Int64).toInt = 12 := by decide
theorem tl_13 : (13 : Int64).toInt = 13 := by decide
theorem tl_14 : (14 : Int64).toInt = 14 := by decide
theorem tl_15 : (15 : Int64).toInt = 15 := by decide
theorem tl_16 : (16 : Int64).toInt = 16 := by decide
theorem tl_17 : (17 : Int64).toInt = 17 := by decide
theorem tl_18 : (18 : Int64).toInt = 18 := by decide
theorem tl_19 : (19 : Int64).toInt = 19 := by decide
theorem tl_20 : (20 : Int64).toInt = 20 := by decide
theorem tl_21 : (21 : Int64).toInt = 21 := by decide
theorem tl_22 : (22 : Int64).toInt = 22 := by decide
theorem tl_23 : (23 : Int64).toInt = 23 := by decide
theorem tl_24 : (24 : Int64).toInt = 24 := by decide
theorem tl_25 : (25 : Int64).toInt = 25 := by decide
theorem tl_26 : (26 : Int64).toInt = 26 := by decide
theorem tl_27 : (27 : Int64).toInt = 27 := by decide
theorem tl_28 : (28 : Int64).toInt = 28 := by decide
theorem tl_29 : (29 : Int64).toInt = 29 := by decide
theorem tl_30 : (30 : Int64).toInt = 30 := by decide
theorem tl_31 : (31 : Int64).toInt = 31 := by decide
theorem tl_32 : (32 : Int64).toInt = 32 := by decide
theorem tl_33 : (33 : Int64).toInt = 33 := by decide
theorem tl_34 : (34 : Int64).toInt = 34 := by decide
theorem tl_35 : (35 : Int64).toInt = 35 := by decide
theorem tl_36 : (36 : Int64).toInt = 36 := by decide
theorem tl_37 : (37 : Int64).toInt = 37 := by decide
theorem tl_38 : (38 : Int64).toInt = 38 := by decide
theorem tl_39 : (39 : Int64).toInt = 39 := by decide
theorem tl_40 : (40 : Int64).toInt = 40 := by decide
theorem tl_41 : (41 : Int64).toInt = 41 := by decide
theorem tl_42 : (42 : Int64).toInt = 42 := by decide
theorem tl_43 : (43 : Int64).toInt = 43 := by decide
theorem tl_44 : (44 : Int64).toInt = 44 := by decide
theorem tl_45 : (45 : Int64).toInt = 45 := by decide
theorem tl_46 : (46 : Int64).toInt = 46 := by decide
theorem tl_47 : (47 : Int64).toInt = 47 := by decide
theorem tl_48 : (48 : Int64).toInt = 48 := by decide
theorem tl_49 : (49 : Int64).toInt = 49 := by decide
theorem tl_50 : (50 : Int64).toInt = 50 := by decide
theorem tl_51 : (51 : Int64).toInt = 51 := by decide
theorem tl_52 : (52 : Int64).toInt = 52 := by decide
theorem tl_53 : (53 : Int64).toInt = 53 := by decide
theorem tl_54 : (54 : Int64).toInt = 54 := by decide
theorem tl_55 : (55 : Int64).toInt = 55 := by decide
theorem tl_56 : (56 : Int64).toInt = 56 := by decide
theorem tl_57 : (57 : Int64).toInt = 57 := by decide
theorem tl_58 : (58 : Int64).toInt = 58 := by decide
theorem tl_59 : (59 : Int64).toInt = 59 := by decide
theorem tl_60 : (60 : Int64).toInt = 60 := by decide
theorem tl_61 : (61 : Int64).toInt = 61 := by decide
theorem tl_62 : (62 : Int64).toInt = 62 := by decide
theorem tl_63 : (63 : Int64).toInt = 63 := by decide
theorem tl_64 : (64 : Int64).toInt = 64 := by decide
theorem tl_99 : (99 : Int64).toInt = 99 := by decide
theorem tl_100 : (100 : Int64).toInt = 100 := by decide
theorem tl_120 : (120 : Int64).toInt = 120 := by decide
theorem tl_255 : (255 : Int64).toInt = 255 := by decide
theorem tl_672 : (672 : Int64).toInt = 672 := by decide
theorem tl_676 : (676 : Int64).toInt = 676 := by decide
theorem tl_1000 : (1000 : Int64).toInt = 1000 := by decide
theorem tl_2000 : (2000 : Int64).toInt = 2000 := by decide
end
section
/-! what each call answers on a fresh object -/
def sp_start (a b c : Int32) : Int32 := if (-99 ≤ a.toInt ∧ a.toInt ≤ 99) ∧ (0 ≤ b.toInt ∧ b.toInt ≤ 9) ∧ 0 ≤ c.toInt ∧ c.toInt ≤ 9 then 1 else -2
def sp_odds (p q : Int32) : Int32 := if (2 ≤ q.toInt ∧ q.toInt ≤ 9) ∧ 0 ≤ p.toInt ∧ p.toInt ≤ q.toInt then 1 else -2
def sp_wait (a b : Int32) : Int32 := if (1 ≤ b.toInt ∧ b.toInt ≤ 9) ∧ 1 ≤ a.toInt ∧ a.toInt ≤ b.toInt then 1 else -2
def sp_price (d s : Int32) : Int32 := if (0 ≤ d.toInt ∧ d.toInt ≤ 6) ∧ 0 ≤ s.toInt ∧ s.toInt ≤ d.toInt then ((0 + (1 * s)) - (1 * (d - s))) else -2
def sp_ush (x k : Int32) : Int32 := (x.toUInt32 >>> (k.toUInt32 &&& Int32.toUInt32 31)).toInt32
def sp_bits (x : Int32) : Int32 :=
  let a := x - (sp_ush x 1 &&& 1431655765)
  let b := (a &&& 858993459) + (sp_ush a 2 &&& 858993459)
  let c := (b + sp_ush b 4) &&& 252645135
  let d := c + sp_ush c 8
  let e := d + sp_ush d 16
  e &&& 63
def sp_spotOf (p d : Int32) : Int32 := if (0 ≤ p.toInt ∧ p.toInt ≤ 63) ∧ 0 ≤ d.toInt ∧ d.toInt ≤ 6 then sp_bits (p &&& ((1 <<< (d &&& 31)) - 1)) else -2
def sp_clause (k n c d : Int32) : Int32 := if (0 ≤ k.toInt ∧ k.toInt ≤ 1) ∧ n.toInt = 0 ∧ c.toInt = 0 ∧ d.toInt = 0 then 0 else -2
def sp_feed (n : Int32) : Int32 := if 1 ≤ n.toInt ∧ n.toInt ≤ 4 then n else -2
def sp_take (b : Int32) : Int32 := if 0 ≤ b.toInt ∧ b.toInt ≤ 2 then -1 else -2
def sp_bagOf (b : Int32) : Int32 := if 0 ≤ b.toInt ∧ b.toInt ≤ 2 then -12 else -2
def sp_pour (f t k : Int32) : Int32 := if (0 ≤ f.toInt ∧ f.toInt ≤ 2) ∧ (0 ≤ t.toInt ∧ t.toInt ≤ 2) ∧ f.toInt ≠ t.toInt ∧ -1 ≤ k.toInt ∧ k.toInt ≤ 12 then 0 else -2
def sp_bagBest (b d s : Int32) : Int32 := if (0 ≤ b.toInt ∧ b.toInt ≤ 2) ∧ (0 ≤ d.toInt ∧ d.toInt ≤ 6) ∧ 0 ≤ s.toInt ∧ s.toInt ≤ d.toInt then -1 else -2
def sp_sheet (s sort n : Int32) : Int32 := if (0 ≤ s.toInt ∧ s.toInt ≤ 3) ∧ -1 ≤ sort.toInt ∧ sort.toInt ≤ 3 then (if sort.toInt = -1 then 1 else if 30 < n.toInt then -2 else if n.toInt < 0 then -14 else 1) else -2
def sp_cell (s : Int32) : Int32 := if 0 ≤ s.toInt ∧ s.toInt ≤ 3 then -11 else -2
def sp_read (s how : Int32) : Int64 := if (0 ≤ s.toInt ∧ s.toInt ≤ 3) ∧ 0 ≤ how.toInt ∧ how.toInt ≤ 3 then -4611686018427387915 else -4611686018427387906
def sp_copy (a b : Int32) : Int32 := if (0 ≤ a.toInt ∧ a.toInt ≤ 3) ∧ 0 ≤ b.toInt ∧ b.toInt ≤ 3 then -11 else -2
def sp_hold (h sort : Int32) (v w : Int64) : Int32 := if (0 ≤ h.toInt ∧ h.toInt ≤ 3) ∧ (sort.toInt = 0 ∨ sort.toInt = 2 ∧ 1 ≤ w.toInt ∧ v.toInt ≠ -9223372036854775808) then 0 else -2
def sp_asClause (h k : Int32) : Int32 := if (0 ≤ h.toInt ∧ h.toInt ≤ 3) ∧ 0 ≤ k.toInt ∧ k.toInt ≤ 3 then -11 else -2
def sp_asFraction (h k : Int32) : Int64 := if (0 ≤ h.toInt ∧ h.toInt ≤ 3) ∧ 0 ≤ k.toInt ∧ k.toInt ≤ 1 then -4611686018427387915 else -4611686018427387906
def sp_count (w : Int32) : Int32 := if 0 ≤ w.toInt ∧ w.toInt ≤ 3 then 0 else -2
theorem pf_post {s r : Int32} (h : r = sp_cell s) : ((0 ≤ s.toInt ∧ s.toInt ≤ 3) ∧ r = -11) ∨ (¬ (0 ≤ s.toInt ∧ s.toInt ≤ 3) ∧ r = -2) := by
  unfold sp_cell at h
  by_cases hc : 0 ≤ s.toInt ∧ s.toInt ≤ 3
  · left; rw [if_pos hc] at h; exact ⟨hc, h⟩
  · right; rw [if_neg hc] at h; exact ⟨hc, h⟩
end
section
theorem sub_r {big ws : List Cond} (ps : List Nat) (hp : ws = ps.filterMap (fun i => big[i]?)) : ∀ w ∈ ws, w ∈ big := by
  intro w hw
  rw [hp] at hw
  obtain ⟨i, -, hi⟩ := List.mem_filterMap.mp hw
  first | exact List.mem_of_getElem? hi | exact List.getElem?_mem hi
theorem wPD {D : va_G} {cl : List vw_C} {w' : va_W} {A : Nat → Prop} {H : Heap} (w : va_W) (hP : va_P D cl w' H) (hD : va_D A w') (e : w' = w) : va_P D cl w H ∧ va_D A w := by
  subst e
  exact ⟨hP, hD⟩
theorem fm_some {ws : va_W} : ∀ (is : List Nat), (∀ i ∈ is, i < ws.length) → is.map (fun i => ws[i]?) = (is.filterMap (fun i => ws[i]?)).map some
  | [], _ => rfl
  | i :: t, h => by
    have hi : ws[i]? = some (ws[i]'(h i List.mem_cons_self)) := List.getElem?_eq_getElem _
    have ih := fm_some t (fun j hj => h j (List.mem_cons_of_mem _ hj))
    rw [List.map_cons, List.filterMap_cons, hi]
    show some _ :: _ = some _ :: _
    rw [ih]
theorem va_joinN {A0 : Nat → Prop} {D : va_G} {cl : List vw_C} {ws wc w1 : va_W} {H H1 : Heap} (w : va_W) (hP : va_P D cl ws H) (hD : va_D A0 ws) (isC isR : List Nat) (n : Nat) (hl : ws.length = n) (hC : isC.map (fun i => ws[i]?) = wc.map some) (hw : isR.filterMap (fun i => ws[i]?) ++ w1 = w) (hb : (va_nd isR && isR.all (fun i => Nat.blt i n && !isC.contains i)) = true)
    (hk : ∀ q : Nat, q < H.size → ¬ va_A wc H.size q → H1[q]? = H[q]?) (hF : ∀ q, va_A wc H.size q → A0 q) (hP1 : va_P D cl w1 H1) (hD1 : va_D (va_A wc H.size) w1) : va_P D cl w H1 ∧ va_D A0 w := by
  subst hw
  subst hl
  rw [Bool.and_eq_true, List.all_eq_true] at hb
  refine va_join hP hD isC isR hC (fm_some isR (fun i hi => ?_)) hb.1 (fun i hi hc => ?_) hk hF hP1 hD1
  · have h := hb.2 i hi
    rw [Bool.and_eq_true] at h
    exact Nat.le_of_ble_eq_true h.1
  · have h := hb.2 i hi
    rw [Bool.and_eq_true, List.contains_iff_mem.mpr hc] at h
    exact absurd h.2 (by decide)
theorem fm_of {ws w : va_W} : ∀ (is : List Nat) (w : va_W), is.map (fun i => ws[i]?) = w.map some → is.filterMap (fun i => ws[i]?) = w
  | [], [], _ => rfl
  | [], _ :: _, h => by cases h
  | _ :: _, [], h => by cases h
  | i :: t, x :: w, h => by
    rw [List.map_cons, List.map_cons] at h
    have h1 : ws[i]? = some x := (List.cons.inj h).1
    rw [List.filterMap_cons, h1]
    show x :: _ = x :: _
    rw [fm_of (w := w) t w (List.cons.inj h).2]
theorem va_joinL {A0 : Nat → Prop} {D : va_G} {cl : List vw_C} {ws wc w1 : va_W} {H H1 : Heap} (w : va_W) (hP : va_P D cl ws H) (hD : va_D A0 ws) (isC isR pm : List Nat) (n : Nat) (hl : ws.length = n) (hC : isC.map (fun i => ws[i]?) = wc.map some) (hw : pm.map (fun i => (isR.filterMap (fun i => ws[i]?) ++ w1)[i]?) = w.map some) (hb : (va_nd isR && isR.all (fun i => Nat.blt i n && !isC.contains i)) = true) (hb2 : va_nd pm = true)
    (hk : ∀ q : Nat, q < H.size → ¬ va_A wc H.size q → H1[q]? = H[q]?) (hF : ∀ q, va_A wc H.size q → A0 q) (hP1 : va_P D cl w1 H1) (hD1 : va_D (va_A wc H.size) w1) : va_P D cl w H1 ∧ va_D A0 w := by
  obtain ⟨p, d⟩ := va_joinN (isR.filterMap (fun i => ws[i]?) ++ w1) hP hD isC isR n hl hC rfl hb hk hF hP1 hD1
  exact ⟨p.sub pm (fm_of (w := w) pm w hw), d.sub pm hb2 hw⟩
/-- the cells at these places (in order) become others -/
def zipR : Nat → va_W → List Nat → va_W → va_W
  | _, ws, [], _ => ws
  | _, ws, _ :: _, [] => ws
  | _, [], _ :: _, _ :: _ => []
  | i, c :: t, j :: js, n :: ns => cond (Nat.beq i j) (n :: zipR (i + 1) t js ns) (c :: zipR (i + 1) t (j :: js) (n :: ns))
def incF : Nat → List Nat → Bool
  | _, [] => true
  | i, j :: js => Nat.ble i j && incF (j + 1) js
theorem incF_ge : ∀ (js : List Nat) (i k : Nat), incF i js = true → k ∈ js → i ≤ k
  | [], _, _, _, h => absurd h List.not_mem_nil
  | j :: js, i, k, h, hk => by
    have h2 : (Nat.ble i j && incF (j + 1) js) = true := h
    rw [Bool.and_eq_true] at h2
    have h3 := Nat.le_of_ble_eq_true h2.1
    rcases List.mem_cons.mp hk with e | e
    · omega
    · have := incF_ge js (j + 1) k h2.2 e
      omega
theorem zipR_at : ∀ (ws : va_W) (i : Nat) (js : List Nat) (ns : va_W) (k : Nat) (q : Nat × va_E), incF i js = true → js.length = ns.length → (zipR i ws js ns)[k]? = some q → q ∈ ns ∨ (ws[k]? = some q ∧ i + k ∉ js)
  | ws, _, [], _, _, _, _, _, h => by
    unfold zipR at h
    exact Or.inr ⟨h, List.not_mem_nil⟩
  | _, _, _ :: _, [], _, _, _, hl, _ => by cases hl
  | [], _, _ :: _, _ :: _, _, _, _, _, h => by
    unfold zipR at h
    cases h
  | c :: t, i, j :: js, n :: ns, k, q, hi, hl, h => by
    have h2 : (Nat.ble i j && incF (j + 1) js) = true := hi
    rw [Bool.and_eq_true] at h2
    have h3 := Nat.le_of_ble_eq_true h2.1
    have h : (cond (Nat.beq i j) (n :: zipR (i + 1) t js ns) (c :: zipR (i + 1) t (j :: js) (n :: ns)))[k]? = some q := h
    by_cases e : i = j
    · subst e
      rw [Nat.beq_refl] at h
      have h : (n :: zipR (i + 1) t js ns)[k]? = some q := h
      cases k with
      | zero => exact Or.inl (by rw [List.getElem?_cons_zero] at h; rw [← Option.some.inj h]; exact List.mem_cons_self)
      | succ k =>
        rw [List.getElem?_cons_succ] at h
        rcases zipR_at t (i + 1) js ns k q h2.2 (Nat.succ.inj hl) h with g | ⟨g, g2⟩
        · exact Or.inl (List.mem_cons_of_mem _ g)
        · refine Or.inr ⟨by rw [List.getElem?_cons_succ]; exact g, fun m => ?_⟩
          rcases List.mem_cons.mp m with m | m
          · omega
          · exact g2 (by rw [show i + 1 + k = i + (k + 1) by omega]; exact m)
    · have hb : Nat.beq i j = false := by
        cases hb : Nat.beq i j with
        | false => rfl
        | true => exact absurd (Nat.eq_of_beq_eq_true hb) e
      rw [hb] at h
      have h : (c :: zipR (i + 1) t (j :: js) (n :: ns))[k]? = some q := h
      have hi2 : incF (i + 1) (j :: js) = true := by
        show (Nat.ble (i + 1) j && incF (j + 1) js) = true
        rw [Bool.and_eq_true]
        exact ⟨Nat.ble_eq_true_of_le (by omega), h2.2⟩
      cases k with
      | zero =>
        rw [List.getElem?_cons_zero] at h
        refine Or.inr ⟨by rw [List.getElem?_cons_zero]; exact h, fun m => ?_⟩
        have := incF_ge (j :: js) (i + 1) (i + 0) hi2 m
        omega
      | succ k =>
        rw [List.getElem?_cons_succ] at h
        rcases zipR_at t (i + 1) (j :: js) (n :: ns) k q hi2 hl h with g | ⟨g, g2⟩
        · exact Or.inl g
        · exact Or.inr ⟨by rw [List.getElem?_cons_succ]; exact g, fun m => g2 (by rw [show i + 1 + k = i + (k + 1) by omega]; exact m)⟩
theorem va_repl {A0 : Nat → Prop} {D : va_G} {cl : List vw_C} {ws wc w1 : va_W} {H H1 : Heap} (w : va_W) (hP : va_P D cl ws H) (hD : va_D A0 ws) (isC isS : List Nat) (hC : isC.map (fun i => ws[i]?) = wc.map some) (hb : (incF 0 isS && isC.all (fun i => isS.contains i)) = true) (hw : zipR 0 ws isS w1 = w) (hl : isS.length = w1.length) (ha : w.map Prod.fst = ws.map Prod.fst)
    (hk : ∀ q : Nat, q < H.size → ¬ va_A wc H.size q → H1[q]? = H[q]?) (hP1 : va_P D cl w1 H1) : va_P D cl w H1 ∧ va_D A0 w := by
  rw [Bool.and_eq_true, List.all_eq_true] at hb
  have at' : ∀ (k : Nat) (q : Nat × va_E), wc[k]? = some q → ∃ i, isC[k]? = some i ∧ ws[i]? = some q := by
    intro k q hq
    have h1 : (isC.map (fun i => ws[i]?))[k]? = some (some q) := by rw [hC, List.getElem?_map, hq]; rfl
    rw [List.getElem?_map] at h1
    cases hi : isC[k]? with
    | none => rw [hi] at h1; cases h1
    | some i => rw [hi] at h1; exact ⟨i, rfl, Option.some.inj h1⟩
  have ad : ∀ (k : Nat) (q : Nat × va_E), w[k]? = some q → ∃ p, ws[k]? = some p ∧ p.1 = q.1 := by
    intro k q hq
    have h1 : (w.map Prod.fst)[k]? = some q.1 := by rw [List.getElem?_map, hq]; rfl
    rw [ha, List.getElem?_map] at h1
    cases hi : ws[k]? with
    | none => rw [hi] at h1; cases h1
    | some p => rw [hi] at h1; exact ⟨p, rfl, Option.some.inj h1⟩
  refine ⟨fun k q hq => ?_, fun i j p q hp hq e => ?_, fun k q hq => ?_⟩
  · rw [← hw] at hq
    rcases zipR_at ws 0 isS w1 k q hb.1 hl hq with g | ⟨g, g2⟩
    · obtain ⟨n, hn⟩ := List.getElem?_of_mem g
      exact hP1 n q hn
    · have hlt := (hP k q g).lt
      refine (hP k q g).kept (hk q.1 hlt (fun h => ?_))
      rcases h with ⟨k2, e, h⟩ | h
      · obtain ⟨j, h3, h4⟩ := at' k2 (q.1, e) h
        have hij := hD.1 k j q (q.1, e) g h4 rfl
        subst hij
        exact g2 (by rw [Nat.zero_add]; exact List.contains_iff_mem.mp (hb.2 k (List.mem_of_getElem? h3)))
      · omega
  · obtain ⟨p', hp', e1⟩ := ad i p hp
    obtain ⟨q', hq', e2⟩ := ad j q hq
    exact hD.1 i j p' q' hp' hq' (by rw [e1, e2]; exact e)
  · obtain ⟨q', hq', e2⟩ := ad k q hq
    rw [← e2]
    exact hD.2 k q' hq'
theorem fb_rng (x : Int32) : -2147483648 ≤ x.toInt ∧ x.toInt < 2147483648 := by
  have h1 := Int32.le_toInt x
  have h2 := Int32.toInt_lt x
  omega
theorem fb_bmod {z : Int} (h1 : -2147483648 ≤ z) (h2 : z < 2147483648) : z.bmod (2 ^ 32) = z := by
  rw [Int.bmod_eq_of_le (by omega) (by omega)]
theorem fb_addI {x y : Int32} (h1 : -2147483648 ≤ x.toInt + y.toInt) (h2 : x.toInt + y.toInt < 2147483648) : (x + y).toInt = x.toInt + y.toInt := by
  rw [Int32.toInt_add, fb_bmod h1 h2]
theorem fb_subI {x y : Int32} (h1 : -2147483648 ≤ x.toInt - y.toInt) (h2 : x.toInt - y.toInt < 2147483648) : (x - y).toInt = x.toInt - y.toInt := by
  rw [Int32.toInt_sub, fb_bmod h1 h2]
theorem fb_mulI {x y : Int32} (h1 : -2147483648 ≤ x.toInt * y.toInt) (h2 : x.toInt * y.toInt < 2147483648) : (x * y).toInt = x.toInt * y.toInt := by
  rw [Int32.toInt_mul, fb_bmod h1 h2]
theorem inc1 {i : Int32} {n : Int} (h : i.toInt < n) (hn : n ≤ 2147483647) : (i + 1).toInt = i.toInt + 1 := by
  have h0 := fb_rng i
  have e : (1 : Int32).toInt = 1 := ti_1
  rw [fb_addI (by omega) (by omega), e]
theorem dec1 {i : Int32} (h : -100 ≤ i.toInt) : (i - 1).toInt = i.toInt - 1 := by
  have h0 := fb_rng i
  have e : (1 : Int32).toInt = 1 := ti_1
  rw [fb_subI (by omega) (by omega), e]
theorem nz64 {y : Int64} (h : y.toInt ≠ 0) : ¬ y = 0 := fun e => h (by rw [e]; decide)
theorem rem_abs (x y : Int64) (h : y.toInt ≠ 0) : (x - x / y * y).toInt.natAbs < y.toInt.natAbs := by
  have e : (x - x / y * y).toInt = x.toInt.tmod y.toInt := by
    have hy1 := Int64.le_toInt y
    have hy2 := Int64.toInt_lt y
    have h1 : (x - x / y * y).toInt = (x.toInt - x.toInt.tdiv y.toInt * y.toInt).bmod (2 ^ 64) := by
      simp [Int64.toInt_sub, Int64.toInt_mul, Int64.toInt_div]
    have h2 : x.toInt - x.toInt.tdiv y.toInt * y.toInt = x.toInt.tmod y.toInt := by
      rw [Int.tmod_def, Int.mul_comm]
    rw [h1, h2]
    have h3 : (x.toInt.tmod y.toInt).natAbs < y.toInt.natAbs := by
      rw [Int.natAbs_tmod]
      exact Nat.mod_lt _ (by omega)
    rw [Int.bmod_eq_of_le (by omega) (by omega)]
  rw [e, Int.natAbs_tmod]
  exact Nat.mod_lt _ (by omega)
theorem neg_nz {x : Int64} (h : x.toInt ≠ 0) : (-x).toInt ≠ 0 := by
  intro e
  have e2 : (-x) = 0 := Int64.toInt_inj.1 (by rw [e]; decide)
  have e3 : - -x = -(0 : Int64) := by rw [e2]
  rw [Int64.neg_neg] at e3
  subst e3
  exact h (by decide +kernel)
section Loops
variable {p : Program} {l : Launch} {e : Env} {R : Room} {s : State} {m : MethodId} {args : Array Value} {below : List Frame} {meth : Method} {c : Code} {H : Heap} {locs : List Loc} {cells slots : Nat} {Q : State → Prop} {pc : Nat}
theorem loopR {σ : Type} (I : σ → Array Slot → Prop) (μ : σ → Nat) (step : ∀ (x : σ) (ls : Array Slot), I x ls → (∀ (y : σ) (ls' : Array Slot), I y ls' → μ y < μ x → W p l e R s m args below meth c H locs cells slots Q (F0 m pc ls' [])) → W p l e R s m args below meth c H locs cells slots Q (F0 m pc ls [])) (x : σ) (ls : Array Slot) (h : I x ls) : W p l e R s m args below meth c H locs cells slots Q (F0 m pc ls []) := by
  have key : ∀ (n : Nat) (x : σ) (ls : Array Slot), μ x < n → I x ls → W p l e R s m args below meth c H locs cells slots Q (F0 m pc ls []) := by
    intro n
    induction n with
    | zero => intro x ls h; exact absurd h (Nat.not_lt_zero _)
    | succ n ih => intro x ls h hI; exact step x ls hI (fun y ls' hy hlt => ih y ls' (by omega) hy)
  exact key _ x ls (Nat.lt_succ_self _) h
theorem loopW {σ : Type} (I : σ → Array Slot → Heap → List Loc → Prop) (μ : σ → Nat) (step : ∀ (x : σ) (ls : Array Slot) (H : Heap) (locs : List Loc), I x ls H locs → (∀ (y : σ) (ls' : Array Slot) (H' : Heap) (locs' : List Loc), I y ls' H' locs' → μ y < μ x → W p l e R s m args below meth c H' locs' cells slots Q (F0 m pc ls' [])) → W p l e R s m args below meth c H locs cells slots Q (F0 m pc ls [])) (x : σ) (ls : Array Slot) (h : I x ls H locs) : W p l e R s m args below meth c H locs cells slots Q (F0 m pc ls []) := by
  have key : ∀ (n : Nat) (x : σ) (ls : Array Slot) (H : Heap) (locs : List Loc), μ x < n → I x ls H locs → W p l e R s m args below meth c H locs cells slots Q (F0 m pc ls []) := by
    intro n
    induction n with
    | zero => intro x ls H locs h; exact absurd h (Nat.not_lt_zero _)
    | succ n ih => intro x ls H locs h hI; exact step x ls H locs hI (fun y ls' H' locs' hy hlt => ih y ls' H' locs' (by omega) hy)
  exact key _ x ls H locs (Nat.lt_succ_self _) h
end Loops
theorem tn {x : Int32} (h : 0 ≤ x.toInt) : (x.toNatClampNeg : Int) = x.toInt := by
  obtain ⟨j, hj, e⟩ := nI_of (x := x) (by rw [fa_lt, ti_0]; omega)
  subst e
  rw [nI_clamp hj, nI_toInt hj]
theorem dX12_within_0 : decode cX12_within 0 = .ok (.iload_n 0, 1) := by decide +kernel
theorem dX12_within_1 : decode cX12_within 1 = .ok (.iload_n 1, 1) := by decide +kernel
theorem dX12_within_10 : decode cX12_within 10 = .ok (.iconst 1, 1) := by decide +kernel
theorem dX12_within_11 : decode cX12_within 11 = .ok (.goto 4, 3) := by decide +kernel
theorem dX12_within_14 : decode cX12_within 14 = .ok (.iconst 0, 1) := by decide +kernel
theorem dX12_within_15 : decode cX12_within 15 = .ok (.ireturn, 1) := by decide +kernel
theorem dX12_within_2 : decode cX12_within 2 = .ok (.if_icmp .lt 12, 3) := by decide +kernel
theorem dX12_within_5 : decode cX12_within 5 = .ok (.iload_n 0, 1) := by decide +kernel
theorem dX12_within_6 : decode cX12_within 6 = .ok (.iload_n 2, 1) := by decide +kernel
theorem dX12_within_7 : decode cX12_within 7 = .ok (.if_icmp .gt 7, 3) := by decide +kernel
set_option maxHeartbeats 4000000 in
set_option maxRecDepth 100000 in
theorem c_X12_within (l : Launch) (D : va_G) (T : Nat → ClassId) (x0 : Int32) (x1 : Int32) (x2 : Int32) (LO : Int) (HI : Int) (hLO : x1.toInt = LO) (hHI : x2.toInt = HI) : Met l yX12_within wsX12_within ({ frames := 0, cells := 0, slots := 0, locals := 0 }) (pR [.int x0, .int x1, .int x2] D T []) (vp_Si (fun r => r = if LO ≤ x0.toInt ∧ x0.toInt ≤ HI then 1 else 0)) 0 0 (fun _ => False) := by
  refine Met.ofW (cc := cX12_within) (maxL := 3) (ret := (some .boolean)) (by decide +kernel) rfl ?_
  intro p e s m args below meth c s₁ B hml hv
  obtain ⟨rfl, hP, hE⟩ := hv
  have hx := B.exec
  have hb := B.bytes
  have hr := B.returns
  have hts := atoms_spec (ws := wsX12_within) B.pre
  have hown : s.vm.findClass RX12 = some m.cls := findClass_of_methodNamed B.named
  have hlocks := B.notSynchronized
  have hP : va_P D vwCl [] s.heap := hP
  have hl := lv_entry ([.int x0, .int x1, .int x2]) (n := 3) (Nat.le_of_ble_eq_true rfl)
  rw [lg_entry_eq]
  generalize (lg_sl ([.int x0, .int x1, .int x2]) ++ List.replicate (3 - (lg_sl ([.int x0, .int x1, .int x2])).length) Slot.unset).toArray = ls at hl ⊢
  have hl : lv_has ls 3 [(0, .int x0), (1, .int x1), (2, .int x2)] := hl
  refine lv_iload_n hx hb dX12_within_0 rfl (lv_at hl 0 rfl) ?_
  refine lv_iload_n hx hb dX12_within_1 rfl (lv_at hl 1 rfl) ?_
  refine lv_icmp_lt (tgt := 14) hx hb dX12_within_2 (by decide +kernel) (fun c_1 => ?_) (fun c_1 => ?_)
  · rw [fa_lt] at c_1
    refine lv_iconst (v := 0) hx hb dX12_within_14 (by decide +kernel) ?_
    exact W.zret hx hb hr rfl (fun t ht hW => ⟨_, rfl, (by exact (if_neg (by omega)).symm), ht⟩) (fun _ h => by cases h) dX12_within_15
  · rw [fa_lt] at c_1
    refine lv_iload_n hx hb dX12_within_5 rfl (lv_at hl 0 rfl) ?_
    refine lv_iload_n hx hb dX12_within_6 rfl (lv_at hl 2 rfl) ?_
    refine lv_icmp_gt (tgt := 14) hx hb dX12_within_7 (by decide +kernel) (fun c_2 => ?_) (fun c_2 => ?_)
    · rw [fa_lt] at c_2
      refine lv_iconst (v := 0) hx hb dX12_within_14 (by decide +kernel) ?_
      exact W.zret hx hb hr rfl (fun t ht hW => ⟨_, rfl, (by exact (if_neg (by omega)).symm), ht⟩) (fun _ h => by cases h) dX12_within_15
    · rw [fa_lt] at c_2
      refine lv_iconst (v := 1) hx hb dX12_within_10 (by decide +kernel) ?_
      refine lv_goto (tgt := 15) hx hb dX12_within_11 (by decide +kernel) ?_
      exact W.zret hx hb hr rfl (fun t ht hW => ⟨_, rfl, (by exact (if_pos (by omega)).symm), ht⟩) (fun _ h => by cases h) dX12_within_15
theorem dX12_isDay_0 : decode cX12_isDay 0 = .ok (.iload_n 0, 1) := by decide +kernel
theorem dX12_isDay_1 : decode cX12_isDay 1 = .ok (.iconst 0, 1) := by decide +kernel
theorem dX12_isDay_2 : decode cX12_isDay 2 = .ok (.bipush 6, 2) := by decide +kernel
theorem dX12_isDay_4 : decode cX12_isDay 4 = .ok (.invokestatic 77, 3) := by decide +kernel
theorem dX12_isDay_7 : decode cX12_isDay 7 = .ok (.ireturn, 1) := by decide +kernel
set_option maxRecDepth 20000 in
theorem ggX12_isDay_X12_within : GoodIn wsX12_isDay wsX12_within := goodIn_r _ [4] rfl (by decide +kernel)
set_option maxRecDepth 20000 in
theorem gX12_isDay_X12_within : GoodIn wsX12_isDay (va_wsS RX12 77 yX12_within wsX12_within) := goodIn_app (goodIn_of _ (by decide +kernel)) ggX12_isDay_X12_within
theorem hs_X12_within : yX12_within.cls ≠ "java/lang/invoke/MethodHandle" ∧ yX12_within.cls ≠ "java/lang/invoke/VarHandle" ∧ (parseMethodDescriptor yX12_within.desc).map (fun d => d.parameters.length) = some 3 := by decide +kernel
set_option maxHeartbeats 4000000 in
set_option maxRecDepth 100000 in
theorem c_X12_isDay (l : Launch) (D : va_G) (T : Nat → ClassId) (x0 : Int32)  : Met l yX12_isDay wsX12_isDay ({ frames := 1, cells := 0, slots := 0, locals := 22 }) (pR [.int x0] D T []) (vp_Si (fun r => r = if 0 ≤ x0.toInt ∧ x0.toInt ≤ 6 then 1 else 0)) 0 0 (fun _ => False) := by
  refine Met.ofW (cc := cX12_isDay) (maxL := 1) (ret := (some .boolean)) (by decide +kernel) rfl ?_
  intro p e s m args below meth c s₁ B hml hv
  obtain ⟨rfl, hP, hE⟩ := hv
  have hx := B.exec
  have hb := B.bytes
  have hr := B.returns
  have hts := atoms_spec (ws := wsX12_isDay) B.pre
  have hown : s.vm.findClass RX12 = some m.cls := findClass_of_methodNamed B.named
  have hlocks := B.notSynchronized
  have hP : va_P D vwCl [] s.heap := hP
  have hl := lv_entry ([.int x0]) (n := 1) (Nat.le_of_ble_eq_true rfl)
  rw [lg_entry_eq]
  generalize (lg_sl ([.int x0]) ++ List.replicate (1 - (lg_sl ([.int x0])).length) Slot.unset).toArray = ls at hl ⊢
  have hl : lv_has ls 1 [(0, .int x0)] := hl
  refine lv_iload_n hx hb dX12_isDay_0 rfl (lv_at hl 0 rfl) ?_
  refine lv_iconst (v := 0) hx hb dX12_isDay_1 (by decide +kernel) ?_
  refine lv_bipush (v := 6) hx hb dX12_isDay_2 (by decide +kernel) ?_
  refine vp_callSi (W.runS (As := [.int x0, .int 0, .int 6]) (rest := []) ⟨hx, hb, hml, hown, hts⟩ (c_X12_within l D T x0 0 6 0 6 (by decide +kernel) (by decide +kernel)) (va_cwS 3 hts gX12_isDay_X12_within rfl rfl rfl hs_X12_within ⟨Nat.le_of_ble_eq_true rfl, Nat.le_of_ble_eq_true rfl⟩) (pR_S hP hE [] rfl) rfl rfl hl.1 rfl (lv_room (Nat.le_of_ble_eq_true rfl)) dX12_isDay_4 ⟨Nat.le_of_ble_eq_true rfl, Nat.le_of_ble_eq_true rfl⟩) (fun r_1 hr_1 => ?_)
  rcases bool_post hr_1 with ⟨c_2, rfl⟩ | ⟨c_2, rfl⟩
  · exact W.zret hx hb hr rfl (fun t ht hW => ⟨_, rfl, (by exact (if_pos (by omega)).symm), ht⟩) (fun _ h => by cases h) dX12_isDay_7
  · exact W.zret hx hb hr rfl (fun t ht hW => ⟨_, rfl, (by exact (if_neg (by omega)).symm), ht⟩) (fun _ h => by cases h) dX12_isDay_7
theorem dX12_isPath_0 : decode cX12_isPath 0 = .ok (.iload_n 0, 1) := by decide +kernel
theorem dX12_isPath_1 : decode cX12_isPath 1 = .ok (.iconst 0, 1) := by decide +kernel
theorem dX12_isPath_2 : decode cX12_isPath 2 = .ok (.bipush 63, 2) := by decide +kernel
theorem dX12_isPath_4 : decode cX12_isPath 4 = .ok (.invokestatic 77, 3) := by decide +kernel
theorem dX12_isPath_7 : decode cX12_isPath 7 = .ok (.ireturn, 1) := by decide +kernel
set_option maxRecDepth 20000 in
theorem ggX12_isPath_X12_within : GoodIn wsX12_isPath wsX12_within := goodIn_r _ [4] rfl (by decide +kernel)
set_option maxRecDepth 20000 in
theorem gX12_isPath_X12_within : GoodIn wsX12_isPath (va_wsS RX12 77 yX12_within wsX12_within) := goodIn_app (goodIn_of _ (by decide +kernel)) ggX12_isPath_X12_within
set_option maxHeartbeats 4000000 in
set_option maxRecDepth 100000 in
theorem c_X12_isPath (l : Launch) (D : va_G) (T : Nat → ClassId) (x0 : Int32)  : Met l yX12_isPath wsX12_isPath ({ frames := 1, cells := 0, slots := 0, locals := 22 }) (pR [.int x0] D T []) (vp_Si (fun r => r = if 0 ≤ x0.toInt ∧ x0.toInt ≤ 63 then 1 else 0)) 0 0 (fun _ => False) := by
  refine Met.ofW (cc := cX12_isPath) (maxL := 1) (ret := (some .boolean)) (by decide +kernel) rfl ?_
  intro p e s m args below meth c s₁ B hml hv
  obtain ⟨rfl, hP, hE⟩ := hv
  have hx := B.exec
  have hb := B.bytes
  have hr := B.returns
  have hts := atoms_spec (ws := wsX12_isPath) B.pre
  have hown : s.vm.findClass RX12 = some m.cls := findClass_of_methodNamed B.named
  have hlocks := B.notSynchronized
  have hP : va_P D vwCl [] s.heap := hP
  have hl := lv_entry ([.int x0]) (n := 1) (Nat.le_of_ble_eq_true rfl)
  rw [lg_entry_eq]
  generalize (lg_sl ([.int x0]) ++ List.replicate (1 - (lg_sl ([.int x0])).length) Slot.unset).toArray = ls at hl ⊢
  have hl : lv_has ls 1 [(0, .int x0)] := hl
  refine lv_iload_n hx hb dX12_isPath_0 rfl (lv_at hl 0 rfl) ?_
  refine lv_iconst (v := 0) hx hb dX12_isPath_1 (by decide +kernel) ?_
  refine lv_bipush (v := 63) hx hb dX12_isPath_2 (by decide +kernel) ?_
  refine vp_callSi (W.runS (As := [.int x0, .int 0, .int 63]) (rest := []) ⟨hx, hb, hml, hown, hts⟩ (c_X12_within l D T x0 0 63 0 63 (by decide +kernel) (by decide +kernel)) (va_cwS 3 hts gX12_isPath_X12_within rfl rfl rfl hs_X12_within ⟨Nat.le_of_ble_eq_true rfl, Nat.le_of_ble_eq_true rfl⟩) (pR_S hP hE [] rfl) rfl rfl hl.1 rfl (lv_room (Nat.le_of_ble_eq_true rfl)) dX12_isPath_4 ⟨Nat.le_of_ble_eq_true rfl, Nat.le_of_ble_eq_true rfl⟩) (fun r_1 hr_1 => ?_)
  rcases bool_post hr_1 with ⟨c_2, rfl⟩ | ⟨c_2, rfl⟩
  · exact W.zret hx hb hr rfl (fun t ht hW => ⟨_, rfl, (by exact (if_pos (by omega)).symm), ht⟩) (fun _ h => by cases h) dX12_isPath_7
  · exact W.zret hx hb hr rfl (fun t ht hW => ⟨_, rfl, (by exact (if_neg (by omega)).symm), ht⟩) (fun _ h => by cases h) dX12_isPath_7
theorem dX12_isBag_0 : decode cX12_isBag 0 = .ok (.iload_n 0, 1) := by decide +kernel
theorem dX12_isBag_1 : decode cX12_isBag 1 = .ok (.iconst 0, 1) := by decide +kernel
theorem dX12_isBag_2 : decode cX12_isBag 2 = .ok (.iconst 2, 1) := by decide +kernel
theorem dX12_isBag_3 : decode cX12_isBag 3 = .ok (.invokestatic 77, 3) := by decide +kernel
theorem dX12_isBag_6 : decode cX12_isBag 6 = .ok (.ireturn, 1) := by decide +kernel
set_option maxRecDepth 20000 in
theorem ggX12_isBag_X12_within : GoodIn wsX12_isBag wsX12_within := goodIn_r _ [4] rfl (by decide +kernel)
set_option maxRecDepth 20000 in
theorem gX12_isBag_X12_within : GoodIn wsX12_isBag (va_wsS RX12 77 yX12_within wsX12_within) := goodIn_app (goodIn_of _ (by decide +kernel)) ggX12_isBag_X12_within
set_option maxHeartbeats 4000000 in
set_option maxRecDepth 100000 in
theorem c_X12_isBag (l : Launch) (D : va_G) (T : Nat → ClassId) (x0 : Int32)  : Met l yX12_isBag wsX12_isBag ({ frames := 1, cells := 0, slots := 0, locals := 22 }) (pR [.int x0] D T []) (vp_Si (fun r => r = if 0 ≤ x0.toInt ∧ x0.toInt ≤ 2 then 1 else 0)) 0 0 (fun _ => False) := by
  refine Met.ofW (cc := cX12_isBag) (maxL := 1) (ret := (some .boolean)) (by decide +kernel) rfl ?_
  intro p e s m args below meth c s₁ B hml hv
  obtain ⟨rfl, hP, hE⟩ := hv
  have hx := B.exec
  have hb := B.bytes
  have hr := B.returns
  have hts := atoms_spec (ws := wsX12_isBag) B.pre
  have hown : s.vm.findClass RX12 = some m.cls := findClass_of_methodNamed B.named
  have hlocks := B.notSynchronized
  have hP : va_P D vwCl [] s.heap := hP
  have hl := lv_entry ([.int x0]) (n := 1) (Nat.le_of_ble_eq_true rfl)
  rw [lg_entry_eq]
  generalize (lg_sl ([.int x0]) ++ List.replicate (1 - (lg_sl ([.int x0])).length) Slot.unset).toArray = ls at hl ⊢
  have hl : lv_has ls 1 [(0, .int x0)] := hl
  refine lv_iload_n hx hb dX12_isBag_0 rfl (lv_at hl 0 rfl) ?_
  refine lv_iconst (v := 0) hx hb dX12_isBag_1 (by decide +kernel) ?_
  refine lv_iconst (v := 2) hx hb dX12_isBag_2 (by decide +kernel) ?_
  refine vp_callSi (W.runS (As := [.int x0, .int 0, .int 2]) (rest := []) ⟨hx, hb, hml, hown, hts⟩ (c_X12_within l D T x0 0 2 0 2 (by decide +kernel) (by decide +kernel)) (va_cwS 3 hts gX12_isBag_X12_within rfl rfl rfl hs_X12_within ⟨Nat.le_of_ble_eq_true rfl, Nat.le_of_ble_eq_true rfl⟩) (pR_S hP hE [] rfl) rfl rfl hl.1 rfl (lv_room (Nat.le_of_ble_eq_true rfl)) dX12_isBag_3 ⟨Nat.le_of_ble_eq_true rfl, Nat.le_of_ble_eq_true rfl⟩) (fun r_1 hr_1 => ?_)
  rcases bool_post hr_1 with ⟨c_2, rfl⟩ | ⟨c_2, rfl⟩
  · exact W.zret hx hb hr rfl (fun t ht hW => ⟨_, rfl, (by exact (if_pos (by omega)).symm), ht⟩) (fun _ h => by cases h) dX12_isBag_6
  · exact W.zret hx hb hr rfl (fun t ht hW => ⟨_, rfl, (by exact (if_neg (by omega)).symm), ht⟩) (fun _ h => by cases h) dX12_isBag_6
theorem dX12_isHand_0 : decode cX12_isHand 0 = .ok (.iload_n 0, 1) := by decide +kernel
theorem dX12_isHand_1 : decode cX12_isHand 1 = .ok (.iconst 0, 1) := by decide +kernel
theorem dX12_isHand_2 : decode cX12_isHand 2 = .ok (.iconst 3, 1) := by decide +kernel
theorem dX12_isHand_3 : decode cX12_isHand 3 = .ok (.invokestatic 77, 3) := by decide +kernel
theorem dX12_isHand_6 : decode cX12_isHand 6 = .ok (.ireturn, 1) := by decide +kernel
set_option maxRecDepth 20000 in
theorem ggX12_isHand_X12_within : GoodIn wsX12_isHand wsX12_within := goodIn_r _ [4] rfl (by decide +kernel)
set_option maxRecDepth 20000 in
theorem gX12_isHand_X12_within : GoodIn wsX12_isHand (va_wsS RX12 77 yX12_within wsX12_within) := goodIn_app (goodIn_of _ (by decide +kernel)) ggX12_isHand_X12_within
set_option maxHeartbeats 4000000 in
set_option maxRecDepth 100000 in
theorem c_X12_isHand (l : Launch) (D : va_G) (T : Nat → ClassId) (x0 : Int32)  : Met l yX12_isHand wsX12_isHand ({ frames := 1, cells := 0, slots := 0, locals := 22 }) (pR [.int x0] D T []) (vp_Si (fun r => r = if 0 ≤ x0.toInt ∧ x0.toInt ≤ 3 then 1 else 0)) 0 0 (fun _ => False) := by
  refine Met.ofW (cc := cX12_isHand) (maxL := 1) (ret := (some .boolean)) (by decide +kernel) rfl ?_
  intro p e s m args below meth c s₁ B hml hv
  obtain ⟨rfl, hP, hE⟩ := hv
  have hx := B.exec
  have hb := B.bytes
  have hr := B.returns
  have hts := atoms_spec (ws := wsX12_isHand) B.pre
  have hown : s.vm.findClass RX12 = some m.cls := findClass_of_methodNamed B.named
  have hlocks := B.notSynchronized
  have hP : va_P D vwCl [] s.heap := hP
  have hl := lv_entry ([.int x0]) (n := 1) (Nat.le_of_ble_eq_true rfl)
  rw [lg_entry_eq]
  generalize (lg_sl ([.int x0]) ++ List.replicate (1 - (lg_sl ([.int x0])).length) Slot.unset).toArray = ls at hl ⊢
  have hl : lv_has ls 1 [(0, .int x0)] := hl
  refine lv_iload_n hx hb dX12_isHand_0 rfl (lv_at hl 0 rfl) ?_
  refine lv_iconst (v := 0) hx hb dX12_isHand_1 (by decide +kernel) ?_
  refine lv_iconst (v := 3) hx hb dX12_isHand_2 (by decide +kernel) ?_
  refine vp_callSi (W.runS (As := [.int x0, .int 0, .int 3]) (rest := []) ⟨hx, hb, hml, hown, hts⟩ (c_X12_within l D T x0 0 3 0 3 (by decide +kernel) (by decide +kernel)) (va_cwS 3 hts gX12_isHand_X12_within rfl rfl rfl hs_X12_within ⟨Nat.le_of_ble_eq_true rfl, Nat.le_of_ble_eq_true rfl⟩) (pR_S hP hE [] rfl) rfl rfl hl.1 rfl (lv_room (Nat.le_of_ble_eq_true rfl)) dX12_isHand_3 ⟨Nat.le_of_ble_eq_true rfl, Nat.le_of_ble_eq_true rfl⟩) (fun r_1 hr_1 => ?_)
  rcases bool_post hr_1 with ⟨c_2, rfl⟩ | ⟨c_2, rfl⟩
  · exact W.zret hx hb hr rfl (fun t ht hW => ⟨_, rfl, (by exact (if_pos (by omega)).symm), ht⟩) (fun _ h => by cases h) dX12_isHand_6
  · exact W.zret hx hb hr rfl (fun t ht hW => ⟨_, rfl, (by exact (if_neg (by omega)).symm), ht⟩) (fun _ h => by cases h) dX12_isHand_6
theorem dX12_isSpot_0 : decode cX12_isSpot 0 = .ok (.iload_n 0, 1) := by decide +kernel
theorem dX12_isSpot_1 : decode cX12_isSpot 1 = .ok (.invokestatic 120, 3) := by decide +kernel
theorem dX12_isSpot_10 : decode cX12_isSpot 10 = .ok (.invokestatic 77, 3) := by decide +kernel
theorem dX12_isSpot_13 : decode cX12_isSpot 13 = .ok (.ifCond .eq 7, 3) := by decide +kernel
theorem dX12_isSpot_16 : decode cX12_isSpot 16 = .ok (.iconst 1, 1) := by decide +kernel
theorem dX12_isSpot_17 : decode cX12_isSpot 17 = .ok (.goto 4, 3) := by decide +kernel
theorem dX12_isSpot_20 : decode cX12_isSpot 20 = .ok (.iconst 0, 1) := by decide +kernel
theorem dX12_isSpot_21 : decode cX12_isSpot 21 = .ok (.ireturn, 1) := by decide +kernel
theorem dX12_isSpot_4 : decode cX12_isSpot 4 = .ok (.ifCond .eq 16, 3) := by decide +kernel
theorem dX12_isSpot_7 : decode cX12_isSpot 7 = .ok (.iload_n 1, 1) := by decide +kernel
theorem dX12_isSpot_8 : decode cX12_isSpot 8 = .ok (.iconst 0, 1) := by decide +kernel
theorem dX12_isSpot_9 : decode cX12_isSpot 9 = .ok (.iload_n 0, 1) := by decide +kernel
set_option maxRecDepth 20000 in
theorem ggX12_isSpot_X12_isDay : GoodIn wsX12_isSpot wsX12_isDay := goodIn_r _ [4, 5, 6, 3, 7] rfl (by decide +kernel)
set_option maxRecDepth 20000 in
theorem ggX12_isSpot_X12_within : GoodIn wsX12_isSpot wsX12_within := goodIn_r _ [7] rfl (by decide +kernel)
set_option maxRecDepth 20000 in
theorem gX12_isSpot_X12_isDay : GoodIn wsX12_isSpot (va_wsS RX12 120 yX12_isDay wsX12_isDay) := goodIn_app (goodIn_of _ (by decide +kernel)) ggX12_isSpot_X12_isDay
set_option maxRecDepth 20000 in
theorem gX12_isSpot_X12_within : GoodIn wsX12_isSpot (va_wsS RX12 77 yX12_within wsX12_within) := goodIn_app (goodIn_of _ (by decide +kernel)) ggX12_isSpot_X12_within
theorem hs_X12_isDay : yX12_isDay.cls ≠ "java/lang/invoke/MethodHandle" ∧ yX12_isDay.cls ≠ "java/lang/invoke/VarHandle" ∧ (parseMethodDescriptor yX12_isDay.desc).map (fun d => d.parameters.length) = some 1 := by decide +kernel
set_option maxHeartbeats 4000000 in
set_option maxRecDepth 100000 in
theorem c_X12_isSpot (l : Launch) (D : va_G) (T : Nat → ClassId) (x0 : Int32) (x1 : Int32)  : Met l yX12_isSpot wsX12_isSpot ({ frames := 2, cells := 0, slots := 0, locals := 42 }) (pR [.int x0, .int x1] D T []) (vp_Si (fun r => r = if (0 ≤ x0.toInt ∧ x0.toInt ≤ 6) ∧ 0 ≤ x1.toInt ∧ x1.toInt ≤ x0.toInt then 1 else 0)) 0 0 (fun _ => False) := by
  refine Met.ofW (cc := cX12_isSpot) (maxL := 2) (ret := (some .boolean)) (by decide +kernel) rfl ?_
  intro p e s m args below meth c s₁ B hml hv
  obtain ⟨rfl, hP, hE⟩ := hv
  have hx := B.exec
  have hb := B.bytes
  have hr := B.returns
  have hts := atoms_spec (ws := wsX12_isSpot) B.pre
  have hown : s.vm.findClass RX12 = some m.cls := findClass_of_methodNamed B.named
  have hlocks := B.notSynchronized
  have hP : va_P D vwCl [] s.heap := hP
  have hl := lv_entry ([.int x0, .int x1]) (n := 2) (Nat.le_of_ble_eq_true rfl)
  rw [lg_entry_eq]
  generalize (lg_sl ([.int x0, .int x1]) ++ List.replicate (2 - (lg_sl ([.int x0, .int x1])).length) Slot.unset).toArray = ls at hl ⊢
  have hl : lv_has ls 2 [(0, .int x0), (1, .int x1)] := hl
  refine lv_iload_n hx hb dX12_isSpot_0 rfl (lv_at hl 0 rfl) ?_
  refine vp_callSi (W.runS (As := [.int x0]) (rest := []) ⟨hx, hb, hml, hown, hts⟩ (c_X12_isDay l D T x0) (va_cwS 1 hts gX12_isSpot_X12_isDay rfl rfl rfl hs_X12_isDay ⟨Nat.le_of_ble_eq_true rfl, Nat.le_of_ble_eq_true rfl⟩) (pR_S hP hE [] rfl) rfl rfl hl.1 rfl (lv_room (Nat.le_of_ble_eq_true rfl)) dX12_isSpot_1 ⟨Nat.le_of_ble_eq_true rfl, Nat.le_of_ble_eq_true rfl⟩) (fun r_1 hr_1 => ?_)
  rcases bool_post hr_1 with ⟨c_2, rfl⟩ | ⟨c_2, rfl⟩
  · refine lv_if_eq (tgt := 20) hx hb dX12_isSpot_4 (by decide +kernel) (fun c9 => absurd c9 (by decide +kernel)) (fun _ => ?_)
    refine lv_iload_n hx hb dX12_isSpot_7 rfl (lv_at hl 1 rfl) ?_
    refine lv_iconst (v := 0) hx hb dX12_isSpot_8 (by decide +kernel) ?_
    refine lv_iload_n hx hb dX12_isSpot_9 rfl (lv_at hl 0 rfl) ?_
    refine vp_callSi (W.runS (As := [.int x1, .int 0, .int x0]) (rest := []) ⟨hx, hb, hml, hown, hts⟩ (c_X12_within l D T x1 0 x0 0 x0.toInt (by decide +kernel) rfl) (va_cwS 3 hts gX12_isSpot_X12_within rfl rfl rfl hs_X12_within ⟨Nat.le_of_ble_eq_true rfl, Nat.le_of_ble_eq_true rfl⟩) (pR_S hP hE [] rfl) rfl rfl hl.1 rfl (lv_room (Nat.le_of_ble_eq_true rfl)) dX12_isSpot_10 ⟨Nat.le_of_ble_eq_true rfl, Nat.le_of_ble_eq_true rfl⟩) (fun r_3 hr_3 => ?_)
    rcases bool_post hr_3 with ⟨c_4, rfl⟩ | ⟨c_4, rfl⟩
    · refine lv_if_eq (tgt := 20) hx hb dX12_isSpot_13 (by decide +kernel) (fun c9 => absurd c9 (by decide +kernel)) (fun _ => ?_)
      refine lv_iconst (v := 1) hx hb dX12_isSpot_16 (by decide +kernel) ?_
      refine lv_goto (tgt := 21) hx hb dX12_isSpot_17 (by decide +kernel) ?_
      exact W.zret hx hb hr rfl (fun t ht hW => ⟨_, rfl, (by exact (if_pos (by omega)).symm), ht⟩) (fun _ h => by cases h) dX12_isSpot_21
    · refine lv_if_eq (tgt := 20) hx hb dX12_isSpot_13 (by decide +kernel) (fun _ => ?_) (fun c9 => absurd c9 (by decide +kernel))
      refine lv_iconst (v := 0) hx hb dX12_isSpot_20 (by decide +kernel) ?_
      exact W.zret hx hb hr rfl (fun t ht hW => ⟨_, rfl, (by exact (if_neg (by omega)).symm), ht⟩) (fun _ h => by cases h) dX12_isSpot_21
  · refine lv_if_eq (tgt := 20) hx hb dX12_isSpot_4 (by decide +kernel) (fun _ => ?_) (fun c9 => absurd c9 (by decide +kernel))
    refine lv_iconst (v := 0) hx hb dX12_isSpot_20 (by decide +kernel) ?_
    exact W.zret hx hb hr rfl (fun t ht hW => ⟨_, rfl, (by exact (if_neg (by omega)).symm), ht⟩) (fun _ h => by cases h) dX12_isSpot_21
theorem dX2_has_0 : decode cX2_has 0 = .ok (.iload_n 1, 1) := by decide +kernel
theorem dX2_has_1 : decode cX2_has 1 = .ok (.iconst 0, 1) := by decide +kernel
theorem dX2_has_11 : decode cX2_has 11 = .ok (.ireturn, 1) := by decide +kernel
theorem dX2_has_2 : decode cX2_has 2 = .ok (.aload_n 0, 1) := by decide +kernel
theorem dX2_has_3 : decode cX2_has 3 = .ok (.getfield 9, 3) := by decide +kernel
theorem dX2_has_6 : decode cX2_has 6 = .ok (.iconst 1, 1) := by decide +kernel
theorem dX2_has_7 : decode cX2_has 7 = .ok (.isub, 1) := by decide +kernel
theorem dX2_has_8 : decode cX2_has 8 = .ok (.invokestatic 37, 3) := by decide +kernel
set_option maxRecDepth 20000 in
theorem ggX2_has_X12_within : GoodIn wsX2_has wsX12_within := goodIn_r _ [4] rfl (by decide +kernel)
set_option maxRecDepth 20000 in
theorem gX2_has_X12_within_n37 : GoodIn wsX2_has (wsX12_within) := ggX2_has_X12_within
set_option maxRecDepth 20000 in
theorem in_X2_has_X2 : ∀ w ∈ wsX20, w ∈ wsX2_has := sub_r [5, 6, 7, 8, 9, 10, 11, 12] rfl
set_option maxHeartbeats 4000000 in
set_option maxRecDepth 100000 in
theorem c_X2_has (l : Launch) (D : va_G) (T : Nat → ClassId) (h0 : Nat) (fs0 : List Value) (x1 : Int32) (n : Int32) (e0_0 : fs0[0]? = some (.int n)) (hn0 : 0 ≤ n.toInt) : Met l yX2_has wsX2_has ({ frames := 1, cells := 0, slots := 0, locals := 22 }) (pR [.ref h0, .int x1] D T [(h0, .inr (1, fs0))]) (vp_Si (fun r => r = if 0 ≤ x1.toInt ∧ x1.toInt ≤ n.toInt - 1 then 1 else 0)) 0 0 (fun _ => False) := by
  refine Met.ofW (cc := cX2_has) (maxL := 2) (ret := (some .boolean)) (by decide +kernel) rfl ?_
  intro p e s m args below meth c s₁ B hml hv
  obtain ⟨rfl, hP, hE⟩ := hv
  have hx := B.exec
  have hb := B.bytes
  have hr := B.returns
  have hts := atoms_spec (ws := wsX2_has) B.pre
  have hown : s.vm.findClass RX2 = some m.cls := findClass_of_methodNamed B.named
  have hlocks := B.notSynchronized
  have hP : va_P D vwCl [(h0, .inr (1, fs0))] s.heap := hP
  have hl := lv_entry ([.ref h0, .int x1]) (n := 2) (Nat.le_of_ble_eq_true rfl)
  rw [lg_entry_eq]
  generalize (lg_sl ([.ref h0, .int x1]) ++ List.replicate (2 - (lg_sl ([.ref h0, .int x1])).length) Slot.unset).toArray = ls at hl ⊢
  have hl : lv_has ls 2 [(0, .ref h0), (1, .int x1)] := hl
  have hd1 := dec1 (i := n) (by omega)
  refine lv_iload_n hx hb dX2_has_0 rfl (lv_at hl 1 rfl) ?_
  refine lv_iconst (v := 0) hx hb dX2_has_1 (by decide +kernel) ?_
  refine lv_aload_n hx hb dX2_has_2 rfl (lv_at hl 0 rfl) ?_
  refine va_get (D := D) (ci := 1) (v := .int n) (C := RX2) (T := TX2) (N := 8) hx hb hts in_X2_has_X2 hown hE.1 hP 0 rfl rfl 0 (by decide +kernel) (hts (.fieldLink RX2 9 "ClauseBook$Clauses" "size" "I") (List.mem_of_getElem? (i := 1) rfl)) (fun _ h9 => h9) e0_0 dX2_has_3 ?_
  refine lv_iconst (v := 1) hx hb dX2_has_6 (by decide +kernel) ?_
  refine lv_isub hx hb dX2_has_7 ?_
  refine vp_callSi (va_Run.run (va_runSN (As := [.int x1, .int 0, .int (n - 1)]) (rest := []) ⟨hx, hb, hml, hown, hts⟩ (c_X12_within l D T x1 0 (n - 1) 0 ((n - 1)).toInt (by decide +kernel) rfl) ⟨(va_cnB 3 hts gX2_has_X12_within_n37 rfl rfl rfl (hE.2.1 (RX2, 37, yX12_within) (List.mem_of_getElem? (i := 7) rfl)) (hts (.initialized RX12) (List.mem_of_getElem? (i := 3) rfl)) hs_X12_within ⟨Nat.le_of_ble_eq_true rfl, Nat.le_of_ble_eq_true rfl⟩), (hts (.static yX12_within) (List.mem_of_getElem? (i := 2) rfl)), trivial⟩ (pR_S hP hE [] rfl) rfl rfl hl.1 rfl (lv_room (Nat.le_of_ble_eq_true rfl)) dX2_has_8 ⟨Nat.le_of_ble_eq_true rfl, Nat.le_of_ble_eq_true rfl⟩)) (fun r_1 hr_1 => ?_)
  rcases bool_post hr_1 with ⟨c_2, rfl⟩ | ⟨c_2, rfl⟩
  · exact W.zret hx hb hr rfl (fun t ht hW => ⟨_, rfl, (by exact (if_pos (by omega)).symm), ht⟩) (fun _ h => by cases h) dX2_has_11
  · exact W.zret hx hb hr rfl (fun t ht hW => ⟨_, rfl, (by exact (if_neg (by omega)).symm), ht⟩) (fun _ h => by cases h) dX2_has_11
theorem dX12_isHad_0 : decode cX12_isHad 0 = .ok (.aload_n 0, 1) := by decide +kernel
theorem dX12_isHad_1 : decode cX12_isHad 1 = .ok (.getfield 32, 3) := by decide +kernel
theorem dX12_isHad_11 : decode cX12_isHad 11 = .ok (.iload_n 2, 1) := by decide +kernel
theorem dX12_isHad_12 : decode cX12_isHad 12 = .ok (.invokestatic 120, 3) := by decide +kernel
theorem dX12_isHad_15 : decode cX12_isHad 15 = .ok (.ifCond .eq 14, 3) := by decide +kernel
theorem dX12_isHad_18 : decode cX12_isHad 18 = .ok (.iload_n 3, 1) := by decide +kernel
theorem dX12_isHad_19 : decode cX12_isHad 19 = .ok (.invokestatic 116, 3) := by decide +kernel
theorem dX12_isHad_22 : decode cX12_isHad 22 = .ok (.ifCond .eq 7, 3) := by decide +kernel
theorem dX12_isHad_25 : decode cX12_isHad 25 = .ok (.iconst 1, 1) := by decide +kernel
theorem dX12_isHad_26 : decode cX12_isHad 26 = .ok (.goto 4, 3) := by decide +kernel
theorem dX12_isHad_29 : decode cX12_isHad 29 = .ok (.iconst 0, 1) := by decide +kernel
theorem dX12_isHad_30 : decode cX12_isHad 30 = .ok (.ireturn, 1) := by decide +kernel
theorem dX12_isHad_4 : decode cX12_isHad 4 = .ok (.iload_n 1, 1) := by decide +kernel
theorem dX12_isHad_5 : decode cX12_isHad 5 = .ok (.invokevirtual 150, 3) := by decide +kernel
theorem dX12_isHad_8 : decode cX12_isHad 8 = .ok (.ifCond .eq 21, 3) := by decide +kernel
set_option maxRecDepth 20000 in
theorem ggX12_isHad_X12_isDay : GoodIn wsX12_isHad wsX12_isDay := goodIn_r _ [13, 14, 8, 9, 10] rfl (by decide +kernel)
set_option maxRecDepth 20000 in
theorem ggX12_isHad_X12_isPath : GoodIn wsX12_isHad wsX12_isPath := goodIn_r _ [17, 14, 8, 9, 10] rfl (by decide +kernel)
set_option maxRecDepth 20000 in
theorem ggX12_isHad_X2_has : GoodIn wsX12_isHad wsX2_has := goodIn_r _ [6, 7, 8, 9, 10, 29, 30, 31, 32, 33, 34, 35, 36] rfl (by decide +kernel)
set_option maxRecDepth 20000 in
theorem gX12_isHad_X12_isDay : GoodIn wsX12_isHad (va_wsS RX12 120 yX12_isDay wsX12_isDay) := goodIn_app (goodIn_of _ (by decide +kernel)) ggX12_isHad_X12_isDay
set_option maxRecDepth 20000 in
theorem gX12_isHad_X12_isPath : GoodIn wsX12_isHad (va_wsS RX12 116 yX12_isPath wsX12_isPath) := goodIn_app (goodIn_of _ (by decide +kernel)) ggX12_isHad_X12_isPath
set_option maxRecDepth 20000 in
theorem gX12_isHad_X2_has : GoodIn wsX12_isHad (wsV RX12 150 RX2 yX2_has wsX2_has) := goodIn_app (goodIn_r _ [2, 3, 4, 5] rfl (by decide +kernel)) ggX12_isHad_X2_has
theorem hs_X12_isPath : yX12_isPath.cls ≠ "java/lang/invoke/MethodHandle" ∧ yX12_isPath.cls ≠ "java/lang/invoke/VarHandle" ∧ (parseMethodDescriptor yX12_isPath.desc).map (fun d => d.parameters.length) = some 1 := by decide +kernel
theorem hv_X2_has : yX2_has.cls = RX2 ∧ yX2_has.cls ≠ "java/lang/invoke/MethodHandle" ∧ yX2_has.cls ≠ "java/lang/invoke/VarHandle" ∧ (parseMethodDescriptor yX2_has.desc).map (fun d => d.parameters.length) = some 1 := by decide +kernel
set_option maxRecDepth 20000 in
theorem in_X12_isHad_X12 : ∀ w ∈ wsX120, w ∈ wsX12_isHad := sub_r [18, 19, 20, 21, 22, 23, 24, 25, 26, 27, 28] rfl
set_option maxHeartbeats 4000000 in
set_option maxRecDepth 100000 in
theorem c_X12_isHad (l : Launch) (D : va_G) (T : Nat → ClassId) (h0 : Nat) (fs0 : List Value) (h1 : Nat) (fs1 : List Value) (x1 : Int32) (x2 : Int32) (x3 : Int32) (n : Int32) (e0_4 : fs0[4]? = some (.ref h1)) (e1_0 : fs1[0]? = some (.int n)) (hn0 : 0 ≤ n.toInt) : Met l yX12_isHad wsX12_isHad ({ frames := 2, cells := 0, slots := 0, locals := 43 }) (pR [.ref h0, .int x1, .int x2, .int x3] D T [(h0, .inr (9, fs0)), (h1, .inr (1, fs1))]) (vp_Si (fun r => r = if (0 ≤ x1.toInt ∧ x1.toInt ≤ n.toInt - 1) ∧ (0 ≤ x2.toInt ∧ x2.toInt ≤ 6) ∧ 0 ≤ x3.toInt ∧ x3.toInt ≤ 63 then 1 else 0)) 0 0 (fun _ => False) := by
  refine Met.ofW (cc := cX12_isHad) (maxL := 4) (ret := (some .boolean)) (by decide +kernel) rfl ?_
  intro p e s m args below meth c s₁ B hml hv
  obtain ⟨rfl, hP, hE⟩ := hv
  have hx := B.exec
  have hb := B.bytes
  have hr := B.returns
  have hts := atoms_spec (ws := wsX12_isHad) B.pre
  have hown : s.vm.findClass RX12 = some m.cls := findClass_of_methodNamed B.named
  have hlocks := B.notSynchronized
  have hP : va_P D vwCl [(h0, .inr (9, fs0)), (h1, .inr (1, fs1))] s.heap := hP
  have hl := lv_entry ([.ref h0, .int x1, .int x2, .int x3]) (n := 4) (Nat.le_of_ble_eq_true rfl)
  rw [lg_entry_eq]
  generalize (lg_sl ([.ref h0, .int x1, .int x2, .int x3]) ++ List.replicate (4 - (lg_sl ([.ref h0, .int x1, .int x2, .int x3])).length) Slot.unset).toArray = ls at hl ⊢
  have hl : lv_has ls 4 [(0, .ref h0), (1, .int x1), (2, .int x2), (3, .int x3)] := hl
  refine lv_aload_n hx hb dX12_isHad_0 rfl (lv_at hl 0 rfl) ?_
  refine va_get (D := D) (ci := 9) (v := .ref h1) (C := RX12) (T := TX12) (N := 11) hx hb hts in_X12_isHad_X12 hown hE.1 hP 0 rfl rfl 4 (by decide +kernel) (hts (.fieldLink RX12 32 "ClauseBook" "clauses" "LClauseBook$Clauses;") (List.mem_of_getElem? (i := 1) rfl)) (fun _ h9 => h9) e0_4 dX12_isHad_1 ?_
  refine lv_iload_n hx hb dX12_isHad_4 rfl (lv_at hl 1 rfl) ?_
  refine vp_callSi (W.runV (As := [.int x1]) (rest := []) ⟨hx, hb, hml, hown, hts⟩ (c_X2_has l D T h1 fs1 x1 n e1_0 (by omega)) (cwV 1 hts gX12_isHad_X2_has rfl rfl rfl hv_X2_has ⟨Nat.le_of_ble_eq_true rfl, Nat.le_of_ble_eq_true rfl⟩) (pR_V (q := (RX2, TX2, 8)) (ci := 1) (q0 := 1) hP hE rfl rfl [1] rfl) rfl rfl hl.1 rfl (lv_room (Nat.le_of_ble_eq_true rfl)) dX12_isHad_5 ⟨Nat.le_of_ble_eq_true rfl, Nat.le_of_ble_eq_true rfl⟩) (fun r_1 hr_1 => ?_)
  rcases bool_post hr_1 with ⟨c_2, rfl⟩ | ⟨c_2, rfl⟩
  · refine lv_if_eq (tgt := 29) hx hb dX12_isHad_8 (by decide +kernel) (fun c9 => absurd c9 (by decide +kernel)) (fun _ => ?_)
    refine lv_iload_n hx hb dX12_isHad_11 rfl (lv_at hl 2 rfl) ?_
    refine vp_callSi (W.runS (As := [.int x2]) (rest := []) ⟨hx, hb, hml, hown, hts⟩ (c_X12_isDay l D T x2) (va_cwS 1 hts gX12_isHad_X12_isDay rfl rfl rfl hs_X12_isDay ⟨Nat.le_of_ble_eq_true rfl, Nat.le_of_ble_eq_true rfl⟩) (pR_S hP hE [] rfl) rfl rfl hl.1 rfl (lv_room (Nat.le_of_ble_eq_true rfl)) dX12_isHad_12 ⟨Nat.le_of_ble_eq_true rfl, Nat.le_of_ble_eq_true rfl⟩) (fun r_3 hr_3 => ?_)
    rcases bool_post hr_3 with ⟨c_4, rfl⟩ | ⟨c_4, rfl⟩
    · refine lv_if_eq (tgt := 29) hx hb dX12_isHad_15 (by decide +kernel) (fun c9 => absurd c9 (by decide +kernel)) (fun _ => ?_)
      refine lv_iload_n hx hb dX12_isHad_18 rfl (lv_at hl 3 rfl) ?_
      refine vp_callSi (W.runS (As := [.int x3]) (rest := []) ⟨hx, hb, hml, hown, hts⟩ (c_X12_isPath l D T x3) (va_cwS 1 hts gX12_isHad_X12_isPath rfl rfl rfl hs_X12_isPath ⟨Nat.le_of_ble_eq_true rfl, Nat.le_of_ble_eq_true rfl⟩) (pR_S hP hE [] rfl) rfl rfl hl.1 rfl (lv_room (Nat.le_of_ble_eq_true rfl)) dX12_isHad_19 ⟨Nat.le_of_ble_eq_true rfl, Nat.le_of_ble_eq_true rfl⟩) (fun r_5 hr_5 => ?_)
      rcases bool_post hr_5 with ⟨c_6, rfl⟩ | ⟨c_6, rfl⟩
      · refine lv_if_eq (tgt := 29) hx hb dX12_isHad_22 (by decide +kernel) (fun c9 => absurd c9 (by decide +kernel)) (fun _ => ?_)
        refine lv_iconst (v := 1) hx hb dX12_isHad_25 (by decide +kernel) ?_
        refine lv_goto (tgt := 30) hx hb dX12_isHad_26 (by decide +kernel) ?_
        exact W.zret hx hb hr rfl (fun t ht hW => ⟨_, rfl, (by exact (if_pos (by omega)).symm), ht⟩) (fun _ h => by cases h) dX12_isHad_30
      · refine lv_if_eq (tgt := 29) hx hb dX12_isHad_22 (by decide +kernel) (fun _ => ?_) (fun c9 => absurd c9 (by decide +kernel))
        refine lv_iconst (v := 0) hx hb dX12_isHad_29 (by decide +kernel) ?_
        exact W.zret hx hb hr rfl (fun t ht hW => ⟨_, rfl, (by exact (if_neg (by omega)).symm), ht⟩) (fun _ h => by cases h) dX12_isHad_30
    · refine lv_if_eq (tgt := 29) hx hb dX12_isHad_15 (by decide +kernel) (fun _ => ?_) (fun c9 => absurd c9 (by decide +kernel))
      refine lv_iconst (v := 0) hx hb dX12_isHad_29 (by decide +kernel) ?_
      exact W.zret hx hb hr rfl (fun t ht hW => ⟨_, rfl, (by exact (if_neg (by omega)).symm), ht⟩) (fun _ h => by cases h) dX12_isHad_30
  · refine lv_if_eq (tgt := 29) hx hb dX12_isHad_8 (by decide +kernel) (fun _ => ?_) (fun c9 => absurd c9 (by decide +kernel))
    refine lv_iconst (v := 0) hx hb dX12_isHad_29 (by decide +kernel) ?_
    exact W.zret hx hb hr rfl (fun t ht hW => ⟨_, rfl, (by exact (if_neg (by omega)).symm), ht⟩) (fun _ h => by cases h) dX12_isHad_30
theorem dX8_priceAt_0 : decode cX8_priceAt 0 = .ok (.aload_n 0, 1) := by decide +kernel
theorem dX8_priceAt_1 : decode cX8_priceAt 1 = .ok (.getfield 7, 3) := by decide +kernel
theorem dX8_priceAt_10 : decode cX8_priceAt 10 = .ok (.iadd, 1) := by decide +kernel
theorem dX8_priceAt_11 : decode cX8_priceAt 11 = .ok (.aload_n 0, 1) := by decide +kernel
theorem dX8_priceAt_12 : decode cX8_priceAt 12 = .ok (.getfield 16, 3) := by decide +kernel
theorem dX8_priceAt_15 : decode cX8_priceAt 15 = .ok (.iload_n 1, 1) := by decide +kernel
theorem dX8_priceAt_16 : decode cX8_priceAt 16 = .ok (.iload_n 2, 1) := by decide +kernel
theorem dX8_priceAt_17 : decode cX8_priceAt 17 = .ok (.isub, 1) := by decide +kernel
theorem dX8_priceAt_18 : decode cX8_priceAt 18 = .ok (.imul, 1) := by decide +kernel
theorem dX8_priceAt_19 : decode cX8_priceAt 19 = .ok (.isub, 1) := by decide +kernel
theorem dX8_priceAt_20 : decode cX8_priceAt 20 = .ok (.ireturn, 1) := by decide +kernel
theorem dX8_priceAt_4 : decode cX8_priceAt 4 = .ok (.aload_n 0, 1) := by decide +kernel
theorem dX8_priceAt_5 : decode cX8_priceAt 5 = .ok (.getfield 13, 3) := by decide +kernel
theorem dX8_priceAt_8 : decode cX8_priceAt 8 = .ok (.iload_n 2, 1) := by decide +kernel
theorem dX8_priceAt_9 : decode cX8_priceAt 9 = .ok (.imul, 1) := by decide +kernel
set_option maxRecDepth 20000 in
theorem in_X8_priceAt_X8 : ∀ w ∈ wsX80, w ∈ wsX8_priceAt := sub_r [4, 5, 6, 7, 8, 9, 10] rfl
set_option maxHeartbeats 4000000 in
set_option maxRecDepth 100000 in
theorem c_X8_priceAt (l : Launch) (D : va_G) (T : Nat → ClassId) (h0 : Nat) (fs0 : List Value) (x1 : Int32) (x2 : Int32) (n0 : Int32) (n1 : Int32) (n2 : Int32) (e0_0 : fs0[0]? = some (.int n0)) (e0_1 : fs0[1]? = some (.int n1)) (e0_2 : fs0[2]? = some (.int n2)) : Met l yX8_priceAt wsX8_priceAt ({ frames := 0, cells := 0, slots := 0, locals := 0 }) (pR [.ref h0, .int x1, .int x2] D T [(h0, .inr (5, fs0))]) (vp_Si (fun r => r = ((n0 + (n1 * x2)) - (n2 * (x1 - x2))))) 0 0 (fun _ => False) := by
  refine Met.ofW (cc := cX8_priceAt) (maxL := 3) (ret := (some .int)) (by decide +kernel) rfl ?_
  intro p e s m args below meth c s₁ B hml hv
  obtain ⟨rfl, hP, hE⟩ := hv
  have hx := B.exec
  have hb := B.bytes
  have hr := B.returns
  have hts := atoms_spec (ws := wsX8_priceAt) B.pre
  have hown : s.vm.findClass RX8 = some m.cls := findClass_of_methodNamed B.named
  have hlocks := B.notSynchronized
  have hP : va_P D vwCl [(h0, .inr (5, fs0))] s.heap := hP
  have hl := lv_entry ([.ref h0, .int x1, .int x2]) (n := 3) (Nat.le_of_ble_eq_true rfl)
  rw [lg_entry_eq]
  generalize (lg_sl ([.ref h0, .int x1, .int x2]) ++ List.replicate (3 - (lg_sl ([.ref h0, .int x1, .int x2])).length) Slot.unset).toArray = ls at hl ⊢
  have hl : lv_has ls 3 [(0, .ref h0), (1, .int x1), (2, .int x2)] := hl
  refine lv_aload_n hx hb dX8_priceAt_0 rfl (lv_at hl 0 rfl) ?_
  refine va_get (D := D) (ci := 5) (v := .int n0) (C := RX8) (T := TX8) (N := 7) hx hb hts in_X8_priceAt_X8 hown hE.1 hP 0 rfl rfl 0 (by decide +kernel) (hts (.fieldLink RX8 7 "ClauseBook$Lattice" "start" "I") (List.mem_of_getElem? (i := 1) rfl)) (fun _ h9 => h9) e0_0 dX8_priceAt_1 ?_
  refine lv_aload_n hx hb dX8_priceAt_4 rfl (lv_at hl 0 rfl) ?_
  refine va_get (D := D) (ci := 5) (v := .int n1) (C := RX8) (T := TX8) (N := 7) hx hb hts in_X8_priceAt_X8 hown hE.1 hP 0 rfl rfl 1 (by decide +kernel) (hts (.fieldLink RX8 13 "ClauseBook$Lattice" "up" "I") (List.mem_of_getElem? (i := 2) rfl)) (fun _ h9 => h9) e0_1 dX8_priceAt_5 ?_
  refine lv_iload_n hx hb dX8_priceAt_8 rfl (lv_at hl 2 rfl) ?_
  refine lv_imul hx hb dX8_priceAt_9 ?_
  refine lv_iadd hx hb dX8_priceAt_10 ?_
  refine lv_aload_n hx hb dX8_priceAt_11 rfl (lv_at hl 0 rfl) ?_
  refine va_get (D := D) (ci := 5) (v := .int n2) (C := RX8) (T := TX8) (N := 7) hx hb hts in_X8_priceAt_X8 hown hE.1 hP 0 rfl rfl 2 (by decide +kernel) (hts (.fieldLink RX8 16 "ClauseBook$Lattice" "down" "I") (List.mem_of_getElem? (i := 3) rfl)) (fun _ h9 => h9) e0_2 dX8_priceAt_12 ?_
  refine lv_iload_n hx hb dX8_priceAt_15 rfl (lv_at hl 1 rfl) ?_
  refine lv_iload_n hx hb dX8_priceAt_16 rfl (lv_at hl 2 rfl) ?_
  refine lv_isub hx hb dX8_priceAt_17 ?_
  refine lv_imul hx hb dX8_priceAt_18 ?_
  refine lv_isub hx hb dX8_priceAt_19 ?_
  exact W.iret hx hb hr (fun t ht hW => ⟨_, rfl, rfl, ht⟩) (fun _ h => by cases h) dX8_priceAt_20
theorem dJ6_bitCount_0f7a4_0 : decode cJ6_bitCount_0f7a4 0 = .ok (.iload_n 0, 1) := by decide +kernel
theorem dJ6_bitCount_0f7a4_1 : decode cJ6_bitCount_0f7a4 1 = .ok (.iload_n 0, 1) := by decide +kernel
theorem dJ6_bitCount_0f7a4_10 : decode cJ6_bitCount_0f7a4 10 = .ok (.iload_n 0, 1) := by decide +kernel
theorem dJ6_bitCount_0f7a4_11 : decode cJ6_bitCount_0f7a4 11 = .ok (.ldc_w 266, 3) := by decide +kernel
theorem dJ6_bitCount_0f7a4_14 : decode cJ6_bitCount_0f7a4 14 = .ok (.iand, 1) := by decide +kernel
theorem dJ6_bitCount_0f7a4_15 : decode cJ6_bitCount_0f7a4 15 = .ok (.iload_n 0, 1) := by decide +kernel
theorem dJ6_bitCount_0f7a4_16 : decode cJ6_bitCount_0f7a4 16 = .ok (.iconst 2, 1) := by decide +kernel
theorem dJ6_bitCount_0f7a4_17 : decode cJ6_bitCount_0f7a4 17 = .ok (.iushr, 1) := by decide +kernel
theorem dJ6_bitCount_0f7a4_18 : decode cJ6_bitCount_0f7a4 18 = .ok (.ldc_w 266, 3) := by decide +kernel
theorem dJ6_bitCount_0f7a4_2 : decode cJ6_bitCount_0f7a4 2 = .ok (.iconst 1, 1) := by decide +kernel
theorem dJ6_bitCount_0f7a4_21 : decode cJ6_bitCount_0f7a4 21 = .ok (.iand, 1) := by decide +kernel
theorem dJ6_bitCount_0f7a4_22 : decode cJ6_bitCount_0f7a4 22 = .ok (.iadd, 1) := by decide +kernel
theorem dJ6_bitCount_0f7a4_23 : decode cJ6_bitCount_0f7a4 23 = .ok (.istore_n 0, 1) := by decide +kernel
theorem dJ6_bitCount_0f7a4_24 : decode cJ6_bitCount_0f7a4 24 = .ok (.iload_n 0, 1) := by decide +kernel
theorem dJ6_bitCount_0f7a4_25 : decode cJ6_bitCount_0f7a4 25 = .ok (.iload_n 0, 1) := by decide +kernel
theorem dJ6_bitCount_0f7a4_26 : decode cJ6_bitCount_0f7a4 26 = .ok (.iconst 4, 1) := by decide +kernel
theorem dJ6_bitCount_0f7a4_27 : decode cJ6_bitCount_0f7a4 27 = .ok (.iushr, 1) := by decide +kernel
theorem dJ6_bitCount_0f7a4_28 : decode cJ6_bitCount_0f7a4 28 = .ok (.iadd, 1) := by decide +kernel
theorem dJ6_bitCount_0f7a4_29 : decode cJ6_bitCount_0f7a4 29 = .ok (.ldc_w 267, 3) := by decide +kernel
theorem dJ6_bitCount_0f7a4_3 : decode cJ6_bitCount_0f7a4 3 = .ok (.iushr, 1) := by decide +kernel
theorem dJ6_bitCount_0f7a4_32 : decode cJ6_bitCount_0f7a4 32 = .ok (.iand, 1) := by decide +kernel
theorem dJ6_bitCount_0f7a4_33 : decode cJ6_bitCount_0f7a4 33 = .ok (.istore_n 0, 1) := by decide +kernel
theorem dJ6_bitCount_0f7a4_34 : decode cJ6_bitCount_0f7a4 34 = .ok (.iload_n 0, 1) := by decide +kernel
theorem dJ6_bitCount_0f7a4_35 : decode cJ6_bitCount_0f7a4 35 = .ok (.iload_n 0, 1) := by decide +kernel
theorem dJ6_bitCount_0f7a4_36 : decode cJ6_bitCount_0f7a4 36 = .ok (.bipush 8, 2) := by decide +kernel
theorem dJ6_bitCount_0f7a4_38 : decode cJ6_bitCount_0f7a4 38 = .ok (.iushr, 1) := by decide +kernel
theorem dJ6_bitCount_0f7a4_39 : decode cJ6_bitCount_0f7a4 39 = .ok (.iadd, 1) := by decide +kernel
theorem dJ6_bitCount_0f7a4_4 : decode cJ6_bitCount_0f7a4 4 = .ok (.ldc_w 265, 3) := by decide +kernel
theorem dJ6_bitCount_0f7a4_40 : decode cJ6_bitCount_0f7a4 40 = .ok (.istore_n 0, 1) := by decide +kernel
theorem dJ6_bitCount_0f7a4_41 : decode cJ6_bitCount_0f7a4 41 = .ok (.iload_n 0, 1) := by decide +kernel
theorem dJ6_bitCount_0f7a4_42 : decode cJ6_bitCount_0f7a4 42 = .ok (.iload_n 0, 1) := by decide +kernel
theorem dJ6_bitCount_0f7a4_43 : decode cJ6_bitCount_0f7a4 43 = .ok (.bipush 16, 2) := by decide +kernel
theorem dJ6_bitCount_0f7a4_45 : decode cJ6_bitCount_0f7a4 45 = .ok (.iushr, 1) := by decide +kernel
theorem dJ6_bitCount_0f7a4_46 : decode cJ6_bitCount_0f7a4 46 = .ok (.iadd, 1) := by decide +kernel
theorem dJ6_bitCount_0f7a4_47 : decode cJ6_bitCount_0f7a4 47 = .ok (.istore_n 0, 1) := by decide +kernel
theorem dJ6_bitCount_0f7a4_48 : decode cJ6_bitCount_0f7a4 48 = .ok (.iload_n 0, 1) := by decide +kernel
theorem dJ6_bitCount_0f7a4_49 : decode cJ6_bitCount_0f7a4 49 = .ok (.bipush 63, 2) := by decide +kernel
theorem dJ6_bitCount_0f7a4_51 : decode cJ6_bitCount_0f7a4 51 = .ok (.iand, 1) := by decide +kernel
theorem dJ6_bitCount_0f7a4_52 : decode cJ6_bitCount_0f7a4 52 = .ok (.ireturn, 1) := by decide +kernel
theorem dJ6_bitCount_0f7a4_7 : decode cJ6_bitCount_0f7a4 7 = .ok (.iand, 1) := by decide +kernel
theorem dJ6_bitCount_0f7a4_8 : decode cJ6_bitCount_0f7a4 8 = .ok (.isub, 1) := by decide +kernel
theorem dJ6_bitCount_0f7a4_9 : decode cJ6_bitCount_0f7a4 9 = .ok (.istore_n 0, 1) := by decide +kernel
set_option maxHeartbeats 4000000 in
set_option maxRecDepth 100000 in
theorem c_J6_bitCount_0f7a4 (l : Launch) (D : va_G) (T : Nat → ClassId) (x0 : Int32)  : Met l yJ6_bitCount_0f7a4 wsJ6_bitCount_0f7a4 ({ frames := 0, cells := 0, slots := 0, locals := 0 }) (pR [.int x0] D T []) (vp_Si (fun r => r = sp_bits x0)) 0 0 (fun _ => False) := by
  refine Met.ofW (cc := cJ6_bitCount_0f7a4) (maxL := 1) (ret := (some .int)) (by decide +kernel) rfl ?_
  intro p e s m args below meth c s₁ B hml hv
  obtain ⟨rfl, hP, hE⟩ := hv
  have hx := B.exec
  have hb := B.bytes
  have hr := B.returns
  have hts := atoms_spec (ws := wsJ6_bitCount_0f7a4) B.pre
  have hown : s.vm.findClass RJ6 = some m.cls := findClass_of_methodNamed B.named
  have hlocks := B.notSynchronized
  have hP : va_P D vwCl [] s.heap := hP
  have hl := lv_entry ([.int x0]) (n := 1) (Nat.le_of_ble_eq_true rfl)
  rw [lg_entry_eq]
  generalize (lg_sl ([.int x0]) ++ List.replicate (1 - (lg_sl ([.int x0])).length) Slot.unset).toArray = ls at hl ⊢
  have hl : lv_has ls 1 [(0, .int x0)] := hl
  refine lv_iload_n hx hb dJ6_bitCount_0f7a4_0 rfl (lv_at hl 0 rfl) ?_
  refine lv_iload_n hx hb dJ6_bitCount_0f7a4_1 rfl (lv_at hl 0 rfl) ?_
  refine lv_iconst (v := 1) hx hb dJ6_bitCount_0f7a4_2 (by decide +kernel) ?_
  obtain ⟨z_1, ez_1⟩ : ∃ y : Int32, (x0.toUInt32 >>> ((1 : Int32).toUInt32 &&& Int32.toUInt32 31)).toInt32 = y := ⟨_, rfl⟩
  refine lv_iushr (v := z_1) hx hb dJ6_bitCount_0f7a4_3 ez_1 ?_
  refine lv_ldcw (v := 1431655765) hx hb hown (hts (.constant RJ6 265 (1431655765)) (List.mem_of_getElem? (i := 1) rfl)) dJ6_bitCount_0f7a4_4 ?_
  refine lv_iand hx hb dJ6_bitCount_0f7a4_7 ?_
  refine lv_isub hx hb dJ6_bitCount_0f7a4_8 ?_
  refine lv_topi (fun z_2 ez_2 => ?_)
  refine lv_istore_n (lv' := [(0, .int z_2)]) hx hb dJ6_bitCount_0f7a4_9 rfl hl (by decide +kernel) rfl (fun ls hl => ?_)
  refine lv_iload_n hx hb dJ6_bitCount_0f7a4_10 rfl (lv_at hl 0 rfl) ?_
  refine lv_ldcw (v := 858993459) hx hb hown (hts (.constant RJ6 266 (858993459)) (List.mem_of_getElem? (i := 2) rfl)) dJ6_bitCount_0f7a4_11 ?_
  refine lv_iand hx hb dJ6_bitCount_0f7a4_14 ?_
  refine lv_iload_n hx hb dJ6_bitCount_0f7a4_15 rfl (lv_at hl 0 rfl) ?_
  refine lv_iconst (v := 2) hx hb dJ6_bitCount_0f7a4_16 (by decide +kernel) ?_
  obtain ⟨z_3, ez_3⟩ : ∃ y : Int32, (z_2.toUInt32 >>> ((2 : Int32).toUInt32 &&& Int32.toUInt32 31)).toInt32 = y := ⟨_, rfl⟩
  refine lv_iushr (v := z_3) hx hb dJ6_bitCount_0f7a4_17 ez_3 ?_
  refine lv_ldcw (v := 858993459) hx hb hown (hts (.constant RJ6 266 (858993459)) (List.mem_of_getElem? (i := 2) rfl)) dJ6_bitCount_0f7a4_18 ?_
  refine lv_iand hx hb dJ6_bitCount_0f7a4_21 ?_
  refine lv_iadd hx hb dJ6_bitCount_0f7a4_22 ?_
  refine lv_topi (fun z_4 ez_4 => ?_)
  refine lv_istore_n (lv' := [(0, .int z_4)]) hx hb dJ6_bitCount_0f7a4_23 rfl hl (by decide +kernel) rfl (fun ls hl => ?_)
  refine lv_iload_n hx hb dJ6_bitCount_0f7a4_24 rfl (lv_at hl 0 rfl) ?_
  refine lv_iload_n hx hb dJ6_bitCount_0f7a4_25 rfl (lv_at hl 0 rfl) ?_
  refine lv_iconst (v := 4) hx hb dJ6_bitCount_0f7a4_26 (by decide +kernel) ?_
  obtain ⟨z_5, ez_5⟩ : ∃ y : Int32, (z_4.toUInt32 >>> ((4 : Int32).toUInt32 &&& Int32.toUInt32 31)).toInt32 = y := ⟨_, rfl⟩
  refine lv_iushr (v := z_5) hx hb dJ6_bitCount_0f7a4_27 ez_5 ?_
  refine lv_iadd hx hb dJ6_bitCount_0f7a4_28 ?_
  refine lv_ldcw (v := 252645135) hx hb hown (hts (.constant RJ6 267 (252645135)) (List.mem_of_getElem? (i := 3) rfl)) dJ6_bitCount_0f7a4_29 ?_
  refine lv_iand hx hb dJ6_bitCount_0f7a4_32 ?_
  refine lv_topi (fun z_6 ez_6 => ?_)
  refine lv_istore_n (lv' := [(0, .int z_6)]) hx hb dJ6_bitCount_0f7a4_33 rfl hl (by decide +kernel) rfl (fun ls hl => ?_)
  refine lv_iload_n hx hb dJ6_bitCount_0f7a4_34 rfl (lv_at hl 0 rfl) ?_
  refine lv_iload_n hx hb dJ6_bitCount_0f7a4_35 rfl (lv_at hl 0 rfl) ?_
  refine lv_bipush (v := 8) hx hb dJ6_bitCount_0f7a4_36 (by decide +kernel) ?_
  obtain ⟨z_7, ez_7⟩ : ∃ y : Int32, (z_6.toUInt32 >>> ((8 : Int32).toUInt32 &&& Int32.toUInt32 31)).toInt32 = y := ⟨_, rfl⟩
  refine lv_iushr (v := z_7) hx hb dJ6_bitCount_0f7a4_38 ez_7 ?_
  refine lv_iadd hx hb dJ6_bitCount_0f7a4_39 ?_
  refine lv_topi (fun z_8 ez_8 => ?_)
  refine lv_istore_n (lv' := [(0, .int z_8)]) hx hb dJ6_bitCount_0f7a4_40 rfl hl (by decide +kernel) rfl (fun ls hl => ?_)
  refine lv_iload_n hx hb dJ6_bitCount_0f7a4_41 rfl (lv_at hl 0 rfl) ?_
  refine lv_iload_n hx hb dJ6_bitCount_0f7a4_42 rfl (lv_at hl 0 rfl) ?_
  refine lv_bipush (v := 16) hx hb dJ6_bitCount_0f7a4_43 (by decide +kernel) ?_
  obtain ⟨z_9, ez_9⟩ : ∃ y : Int32, (z_8.toUInt32 >>> ((16 : Int32).toUInt32 &&& Int32.toUInt32 31)).toInt32 = y := ⟨_, rfl⟩
  refine lv_iushr (v := z_9) hx hb dJ6_bitCount_0f7a4_45 ez_9 ?_
  refine lv_iadd hx hb dJ6_bitCount_0f7a4_46 ?_
  refine lv_topi (fun z_10 ez_10 => ?_)
  refine lv_istore_n (lv' := [(0, .int z_10)]) hx hb dJ6_bitCount_0f7a4_47 rfl hl (by decide +kernel) rfl (fun ls hl => ?_)
  refine lv_iload_n hx hb dJ6_bitCount_0f7a4_48 rfl (lv_at hl 0 rfl) ?_
  refine lv_bipush (v := 63) hx hb dJ6_bitCount_0f7a4_49 (by decide +kernel) ?_
  refine lv_iand hx hb dJ6_bitCount_0f7a4_51 ?_
  exact W.iret hx hb hr (fun t ht hW => ⟨_, rfl, (by subst_vars; rfl), ht⟩) (fun _ h => by cases h) dJ6_bitCount_0f7a4_52
theorem dX8_spotOn_0 : decode cX8_spotOn 0 = .ok (.iload_n 0, 1) := by decide +kernel
theorem dX8_spotOn_1 : decode cX8_spotOn 1 = .ok (.iconst 1, 1) := by decide +kernel
theorem dX8_spotOn_10 : decode cX8_spotOn 10 = .ok (.ireturn, 1) := by decide +kernel
theorem dX8_spotOn_2 : decode cX8_spotOn 2 = .ok (.iload_n 1, 1) := by decide +kernel
theorem dX8_spotOn_3 : decode cX8_spotOn 3 = .ok (.ishl, 1) := by decide +kernel
theorem dX8_spotOn_4 : decode cX8_spotOn 4 = .ok (.iconst 1, 1) := by decide +kernel
theorem dX8_spotOn_5 : decode cX8_spotOn 5 = .ok (.isub, 1) := by decide +kernel
theorem dX8_spotOn_6 : decode cX8_spotOn 6 = .ok (.iand, 1) := by decide +kernel
theorem dX8_spotOn_7 : decode cX8_spotOn 7 = .ok (.invokestatic 31, 3) := by decide +kernel
set_option maxRecDepth 20000 in
theorem ggX8_spotOn_J6_bitCount_0f7a4 : GoodIn wsX8_spotOn wsJ6_bitCount_0f7a4 := goodIn_r _ [4, 5, 6, 7] rfl (by decide +kernel)
set_option maxRecDepth 20000 in
theorem gX8_spotOn_J6_bitCount_0f7a4 : GoodIn wsX8_spotOn (va_wsS RX8 31 yJ6_bitCount_0f7a4 wsJ6_bitCount_0f7a4) := goodIn_app (goodIn_of _ (by decide +kernel)) ggX8_spotOn_J6_bitCount_0f7a4
theorem hs_J6_bitCount_0f7a4 : yJ6_bitCount_0f7a4.cls ≠ "java/lang/invoke/MethodHandle" ∧ yJ6_bitCount_0f7a4.cls ≠ "java/lang/invoke/VarHandle" ∧ (parseMethodDescriptor yJ6_bitCount_0f7a4.desc).map (fun d => d.parameters.length) = some 1 := by decide +kernel
set_option maxHeartbeats 4000000 in
set_option maxRecDepth 100000 in
theorem c_X8_spotOn (l : Launch) (D : va_G) (T : Nat → ClassId) (x0 : Int32) (x1 : Int32)  : Met l yX8_spotOn wsX8_spotOn ({ frames := 1, cells := 0, slots := 0, locals := 20 }) (pR [.int x0, .int x1] D T []) (vp_Si (fun r => r = sp_bits (x0 &&& ((1 <<< (x1 &&& 31)) - 1)))) 0 0 (fun _ => False) := by
  refine Met.ofW (cc := cX8_spotOn) (maxL := 2) (ret := (some .int)) (by decide +kernel) rfl ?_
  intro p e s m args below meth c s₁ B hml hv
  obtain ⟨rfl, hP, hE⟩ := hv
  have hx := B.exec
  have hb := B.bytes
  have hr := B.returns
  have hts := atoms_spec (ws := wsX8_spotOn) B.pre
  have hown : s.vm.findClass RX8 = some m.cls := findClass_of_methodNamed B.named
  have hlocks := B.notSynchronized
  have hP : va_P D vwCl [] s.heap := hP
  have hl := lv_entry ([.int x0, .int x1]) (n := 2) (Nat.le_of_ble_eq_true rfl)
  rw [lg_entry_eq]
  generalize (lg_sl ([.int x0, .int x1]) ++ List.replicate (2 - (lg_sl ([.int x0, .int x1])).length) Slot.unset).toArray = ls at hl ⊢
  have hl : lv_has ls 2 [(0, .int x0), (1, .int x1)] := hl
  refine lv_iload_n hx hb dX8_spotOn_0 rfl (lv_at hl 0 rfl) ?_
  refine lv_iconst (v := 1) hx hb dX8_spotOn_1 (by decide +kernel) ?_
  refine lv_iload_n hx hb dX8_spotOn_2 rfl (lv_at hl 1 rfl) ?_
  refine lv_ishl hx hb dX8_spotOn_3 ?_
  refine lv_iconst (v := 1) hx hb dX8_spotOn_4 (by decide +kernel) ?_
  refine lv_isub hx hb dX8_spotOn_5 ?_
  refine lv_iand hx hb dX8_spotOn_6 ?_
  refine vp_callSi (W.runS (As := [.int (x0 &&& ((1 <<< (x1 &&& 31)) - 1))]) (rest := []) ⟨hx, hb, hml, hown, hts⟩ (c_J6_bitCount_0f7a4 l D T (x0 &&& ((1 <<< (x1 &&& 31)) - 1))) (va_cwS 1 hts gX8_spotOn_J6_bitCount_0f7a4 rfl rfl rfl hs_J6_bitCount_0f7a4 ⟨Nat.le_of_ble_eq_true rfl, Nat.le_of_ble_eq_true rfl⟩) (pR_S hP hE [] rfl) rfl rfl hl.1 rfl (lv_room (Nat.le_of_ble_eq_true rfl)) dX8_spotOn_7 ⟨Nat.le_of_ble_eq_true rfl, Nat.le_of_ble_eq_true rfl⟩) (fun r_1 hr_1 => ?_)
  obtain rfl : (sp_bits (x0 &&& ((1 <<< (x1 &&& 31)) - 1))) = r_1 := (hr_1).symm
  exact W.iret hx hb hr (fun t ht hW => ⟨_, rfl, rfl, ht⟩) (fun _ h => by cases h) dX8_spotOn_10
def sp_priceL (x y z d s : Int32) : Int32 := if (0 ≤ d.toInt ∧ d.toInt ≤ 6) ∧ 0 ≤ s.toInt ∧ s.toInt ≤ d.toInt then ((x + (y * s)) - (z * (d - s))) else -2
theorem dX12_price_0 : decode cX12_price 0 = .ok (.iload_n 1, 1) := by decide +kernel
theorem dX12_price_1 : decode cX12_price 1 = .ok (.iload_n 2, 1) := by decide +kernel
theorem dX12_price_12 : decode cX12_price 12 = .ok (.iload_n 1, 1) := by decide +kernel
theorem dX12_price_13 : decode cX12_price 13 = .ok (.iload_n 2, 1) := by decide +kernel
theorem dX12_price_14 : decode cX12_price 14 = .ok (.invokevirtual 112, 3) := by decide +kernel
theorem dX12_price_17 : decode cX12_price 17 = .ok (.goto 5, 3) := by decide +kernel
theorem dX12_price_2 : decode cX12_price 2 = .ok (.invokestatic 108, 3) := by decide +kernel
theorem dX12_price_20 : decode cX12_price 20 = .ok (.bipush (-2), 2) := by decide +kernel
theorem dX12_price_22 : decode cX12_price 22 = .ok (.ireturn, 1) := by decide +kernel
theorem dX12_price_5 : decode cX12_price 5 = .ok (.ifCond .eq 15, 3) := by decide +kernel
theorem dX12_price_8 : decode cX12_price 8 = .ok (.aload_n 0, 1) := by decide +kernel
theorem dX12_price_9 : decode cX12_price 9 = .ok (.getfield 27, 3) := by decide +kernel
set_option maxRecDepth 20000 in
theorem ggX12_price_X12_isSpot : GoodIn wsX12_price wsX12_isSpot := goodIn_r _ [5, 6, 7, 4, 8, 9, 10, 11] rfl (by decide +kernel)
set_option maxRecDepth 20000 in
theorem ggX12_price_X8_priceAt : GoodIn wsX12_price wsX8_priceAt := goodIn_r _ [16, 17, 18, 19, 31, 32, 33, 34, 35, 36, 37] rfl (by decide +kernel)
set_option maxRecDepth 20000 in
theorem gX12_price_X12_isSpot : GoodIn wsX12_price (va_wsS RX12 108 yX12_isSpot wsX12_isSpot) := goodIn_app (goodIn_of _ (by decide +kernel)) ggX12_price_X12_isSpot
set_option maxRecDepth 20000 in
theorem gX12_price_X8_priceAt : GoodIn wsX12_price (wsV RX12 112 RX8 yX8_priceAt wsX8_priceAt) := goodIn_app (goodIn_r _ [12, 13, 14, 15] rfl (by decide +kernel)) ggX12_price_X8_priceAt
theorem hs_X12_isSpot : yX12_isSpot.cls ≠ "java/lang/invoke/MethodHandle" ∧ yX12_isSpot.cls ≠ "java/lang/invoke/VarHandle" ∧ (parseMethodDescriptor yX12_isSpot.desc).map (fun d => d.parameters.length) = some 2 := by decide +kernel
theorem hv_X8_priceAt : yX8_priceAt.cls = RX8 ∧ yX8_priceAt.cls ≠ "java/lang/invoke/MethodHandle" ∧ yX8_priceAt.cls ≠ "java/lang/invoke/VarHandle" ∧ (parseMethodDescriptor yX8_priceAt.desc).map (fun d => d.parameters.length) = some 2 := by decide +kernel
set_option maxRecDepth 20000 in
theorem in_X12_price_X12 : ∀ w ∈ wsX120, w ∈ wsX12_price := sub_r [20, 21, 22, 23, 24, 25, 26, 27, 28, 29, 30] rfl
set_option maxHeartbeats 4000000 in
set_option maxRecDepth 100000 in
theorem c_X12_price (l : Launch) (D : va_G) (T : Nat → ClassId) (h0 : Nat) (fs0 : List Value) (h1 : Nat) (fs1 : List Value) (x1 : Int32) (x2 : Int32) (n0 : Int32) (n1 : Int32) (n2 : Int32) (e0_3 : fs0[3]? = some (.ref h1)) (e1_0 : fs1[0]? = some (.int n0)) (e1_1 : fs1[1]? = some (.int n1)) (e1_2 : fs1[2]? = some (.int n2)) : Met l yX12_price wsX12_price ({ frames := 3, cells := 0, slots := 0, locals := 63 }) (pR [.ref h0, .int x1, .int x2] D T [(h0, .inr (9, fs0)), (h1, .inr (5, fs1))]) (vp_Si (fun r => r = sp_priceL n0 n1 n2 x1 x2)) 0 0 (fun _ => False) := by
  refine Met.ofW (cc := cX12_price) (maxL := 3) (ret := (some .int)) (by decide +kernel) rfl ?_
  intro p e s m args below meth c s₁ B hml hv
  obtain ⟨rfl, hP, hE⟩ := hv
  have hx := B.exec
  have hb := B.bytes
  have hr := B.returns
  have hts := atoms_spec (ws := wsX12_price) B.pre
  have hown : s.vm.findClass RX12 = some m.cls := findClass_of_methodNamed B.named
  have hlocks := B.notSynchronized
  have hP : va_P D vwCl [(h0, .inr (9, fs0)), (h1, .inr (5, fs1))] s.heap := hP
  have hl := lv_entry ([.ref h0, .int x1, .int x2]) (n := 3) (Nat.le_of_ble_eq_true rfl)
  rw [lg_entry_eq]
  generalize (lg_sl ([.ref h0, .int x1, .int x2]) ++ List.replicate (3 - (lg_sl ([.ref h0, .int x1, .int x2])).length) Slot.unset).toArray = ls at hl ⊢
  have hl : lv_has ls 3 [(0, .ref h0), (1, .int x1), (2, .int x2)] := hl
  refine lv_iload_n hx hb dX12_price_0 rfl (lv_at hl 1 rfl) ?_
  refine lv_iload_n hx hb dX12_price_1 rfl (lv_at hl 2 rfl) ?_
  refine vp_callSi (W.runS (As := [.int x1, .int x2]) (rest := []) ⟨hx, hb, hml, hown, hts⟩ (c_X12_isSpot l D T x1 x2) (va_cwS 2 hts gX12_price_X12_isSpot rfl rfl rfl hs_X12_isSpot ⟨Nat.le_of_ble_eq_true rfl, Nat.le_of_ble_eq_true rfl⟩) (pR_S hP hE [] rfl) rfl rfl hl.1 rfl (lv_room (Nat.le_of_ble_eq_true rfl)) dX12_price_2 ⟨Nat.le_of_ble_eq_true rfl, Nat.le_of_ble_eq_true rfl⟩) (fun r_1 hr_1 => ?_)
  rcases bool_post hr_1 with ⟨c_2, rfl⟩ | ⟨c_2, rfl⟩
  · refine lv_if_eq (tgt := 20) hx hb dX12_price_5 (by decide +kernel) (fun c9 => absurd c9 (by decide +kernel)) (fun _ => ?_)
    refine lv_aload_n hx hb dX12_price_8 rfl (lv_at hl 0 rfl) ?_
    refine va_get (D := D) (ci := 9) (v := .ref h1) (C := RX12) (T := TX12) (N := 11) hx hb hts in_X12_price_X12 hown hE.1 hP 0 rfl rfl 3 (by decide +kernel) (hts (.fieldLink RX12 27 "ClauseBook" "lattice" "LClauseBook$Lattice;") (List.mem_of_getElem? (i := 1) rfl)) (fun _ h9 => h9) e0_3 dX12_price_9 ?_
    refine lv_iload_n hx hb dX12_price_12 rfl (lv_at hl 1 rfl) ?_
    refine lv_iload_n hx hb dX12_price_13 rfl (lv_at hl 2 rfl) ?_
    refine vp_callSi (W.runV (As := [.int x1, .int x2]) (rest := []) ⟨hx, hb, hml, hown, hts⟩ (c_X8_priceAt l D T h1 fs1 x1 x2 n0 n1 n2 e1_0 e1_1 e1_2) (cwV 2 hts gX12_price_X8_priceAt rfl rfl rfl hv_X8_priceAt ⟨Nat.le_of_ble_eq_true rfl, Nat.le_of_ble_eq_true rfl⟩) (pR_V (q := (RX8, TX8, 7)) (ci := 5) (q0 := 1) hP hE rfl rfl [1] rfl) rfl rfl hl.1 rfl (lv_room (Nat.le_of_ble_eq_true rfl)) dX12_price_14 ⟨Nat.le_of_ble_eq_true rfl, Nat.le_of_ble_eq_true rfl⟩) (fun r_3 hr_3 => ?_)
    refine lv_goto (tgt := 22) hx hb dX12_price_17 (by decide +kernel) ?_
    exact W.iret hx hb hr (fun t ht hW => ⟨_, rfl, (by unfold sp_priceL; rw [if_pos (by omega)]; first | exact hr_3 | rfl), ht⟩) (fun _ h => by cases h) dX12_price_22
  · refine lv_if_eq (tgt := 20) hx hb dX12_price_5 (by decide +kernel) (fun _ => ?_) (fun c9 => absurd c9 (by decide +kernel))
    refine lv_bipush (v := (-2)) hx hb dX12_price_20 (by decide +kernel) ?_
    exact W.iret hx hb hr (fun t ht hW => ⟨_, rfl, (by unfold sp_priceL; rw [if_neg (by omega)]), ht⟩) (fun _ h => by cases h) dX12_price_22
theorem dX12_spotOf_0 : decode cX12_spotOf 0 = .ok (.iload_n 1, 1) := by decide +kernel
theorem dX12_spotOf_1 : decode cX12_spotOf 1 = .ok (.invokestatic 116, 3) := by decide +kernel
theorem dX12_spotOf_11 : decode cX12_spotOf 11 = .ok (.ifCond .eq 11, 3) := by decide +kernel
theorem dX12_spotOf_14 : decode cX12_spotOf 14 = .ok (.iload_n 1, 1) := by decide +kernel
theorem dX12_spotOf_15 : decode cX12_spotOf 15 = .ok (.iload_n 2, 1) := by decide +kernel
theorem dX12_spotOf_16 : decode cX12_spotOf 16 = .ok (.invokestatic 123, 3) := by decide +kernel
theorem dX12_spotOf_19 : decode cX12_spotOf 19 = .ok (.goto 5, 3) := by decide +kernel
theorem dX12_spotOf_22 : decode cX12_spotOf 22 = .ok (.bipush (-2), 2) := by decide +kernel
theorem dX12_spotOf_24 : decode cX12_spotOf 24 = .ok (.ireturn, 1) := by decide +kernel
theorem dX12_spotOf_4 : decode cX12_spotOf 4 = .ok (.ifCond .eq 18, 3) := by decide +kernel
theorem dX12_spotOf_7 : decode cX12_spotOf 7 = .ok (.iload_n 2, 1) := by decide +kernel
theorem dX12_spotOf_8 : decode cX12_spotOf 8 = .ok (.invokestatic 120, 3) := by decide +kernel
set_option maxRecDepth 20000 in
theorem ggX12_spotOf_X12_isDay : GoodIn wsX12_spotOf wsX12_isDay := goodIn_r _ [10, 5, 6, 3, 7] rfl (by decide +kernel)
set_option maxRecDepth 20000 in
theorem ggX12_spotOf_X12_isPath : GoodIn wsX12_spotOf wsX12_isPath := goodIn_r _ [4, 5, 6, 3, 7] rfl (by decide +kernel)
set_option maxRecDepth 20000 in
theorem ggX12_spotOf_X8_spotOn : GoodIn wsX12_spotOf wsX8_spotOn := goodIn_r _ [14, 15, 16, 17, 18, 19, 20, 21] rfl (by decide +kernel)
set_option maxRecDepth 20000 in
theorem gX12_spotOf_X12_isDay : GoodIn wsX12_spotOf (va_wsS RX12 120 yX12_isDay wsX12_isDay) := goodIn_app (goodIn_of _ (by decide +kernel)) ggX12_spotOf_X12_isDay
set_option maxRecDepth 20000 in
theorem gX12_spotOf_X12_isPath : GoodIn wsX12_spotOf (va_wsS RX12 116 yX12_isPath wsX12_isPath) := goodIn_app (goodIn_of _ (by decide +kernel)) ggX12_spotOf_X12_isPath
set_option maxRecDepth 20000 in
theorem gX12_spotOf_X8_spotOn : GoodIn wsX12_spotOf (va_wsS RX12 123 yX8_spotOn wsX8_spotOn) := goodIn_app (goodIn_of _ (by decide +kernel)) ggX12_spotOf_X8_spotOn
theorem hs_X8_spotOn : yX8_spotOn.cls ≠ "java/lang/invoke/MethodHandle" ∧ yX8_spotOn.cls ≠ "java/lang/invoke/VarHandle" ∧ (parseMethodDescriptor yX8_spotOn.desc).map (fun d => d.parameters.length) = some 2 := by decide +kernel
set_option maxHeartbeats 4000000 in
set_option maxRecDepth 100000 in
theorem c_X12_spotOf (l : Launch) (D : va_G) (T : Nat → ClassId) (h0 : Nat) (fs0 : List Value) (x1 : Int32) (x2 : Int32)  : Met l yX12_spotOf wsX12_spotOf ({ frames := 2, cells := 0, slots := 0, locals := 42 }) (pR [.ref h0, .int x1, .int x2] D T [(h0, .inr (9, fs0))]) (vp_Si (fun r => r = sp_spotOf x1 x2)) 0 0 (fun _ => False) := by
  refine Met.ofW (cc := cX12_spotOf) (maxL := 3) (ret := (some .int)) (by decide +kernel) rfl ?_
  intro p e s m args below meth c s₁ B hml hv
  obtain ⟨rfl, hP, hE⟩ := hv
  have hx := B.exec
  have hb := B.bytes
  have hr := B.returns
  have hts := atoms_spec (ws := wsX12_spotOf) B.pre
  have hown : s.vm.findClass RX12 = some m.cls := findClass_of_methodNamed B.named
  have hlocks := B.notSynchronized
  have hP : va_P D vwCl [(h0, .inr (9, fs0))] s.heap := hP
  have hl := lv_entry ([.ref h0, .int x1, .int x2]) (n := 3) (Nat.le_of_ble_eq_true rfl)
  rw [lg_entry_eq]
  generalize (lg_sl ([.ref h0, .int x1, .int x2]) ++ List.replicate (3 - (lg_sl ([.ref h0, .int x1, .int x2])).length) Slot.unset).toArray = ls at hl ⊢
  have hl : lv_has ls 3 [(0, .ref h0), (1, .int x1), (2, .int x2)] := hl
  refine lv_iload_n hx hb dX12_spotOf_0 rfl (lv_at hl 1 rfl) ?_
  refine vp_callSi (W.runS (As := [.int x1]) (rest := []) ⟨hx, hb, hml, hown, hts⟩ (c_X12_isPath l D T x1) (va_cwS 1 hts gX12_spotOf_X12_isPath rfl rfl rfl hs_X12_isPath ⟨Nat.le_of_ble_eq_true rfl, Nat.le_of_ble_eq_true rfl⟩) (pR_S hP hE [] rfl) rfl rfl hl.1 rfl (lv_room (Nat.le_of_ble_eq_true rfl)) dX12_spotOf_1 ⟨Nat.le_of_ble_eq_true rfl, Nat.le_of_ble_eq_true rfl⟩) (fun r_1 hr_1 => ?_)
  rcases bool_post hr_1 with ⟨c_2, rfl⟩ | ⟨c_2, rfl⟩
  · refine lv_if_eq (tgt := 22) hx hb dX12_spotOf_4 (by decide +kernel) (fun c9 => absurd c9 (by decide +kernel)) (fun _ => ?_)
    refine lv_iload_n hx hb dX12_spotOf_7 rfl (lv_at hl 2 rfl) ?_
    refine vp_callSi (W.runS (As := [.int x2]) (rest := []) ⟨hx, hb, hml, hown, hts⟩ (c_X12_isDay l D T x2) (va_cwS 1 hts gX12_spotOf_X12_isDay rfl rfl rfl hs_X12_isDay ⟨Nat.le_of_ble_eq_true rfl, Nat.le_of_ble_eq_true rfl⟩) (pR_S hP hE [] rfl) rfl rfl hl.1 rfl (lv_room (Nat.le_of_ble_eq_true rfl)) dX12_spotOf_8 ⟨Nat.le_of_ble_eq_true rfl, Nat.le_of_ble_eq_true rfl⟩) (fun r_3 hr_3 => ?_)
    rcases bool_post hr_3 with ⟨c_4, rfl⟩ | ⟨c_4, rfl⟩
    · refine lv_if_eq (tgt := 22) hx hb dX12_spotOf_11 (by decide +kernel) (fun c9 => absurd c9 (by decide +kernel)) (fun _ => ?_)
      refine lv_iload_n hx hb dX12_spotOf_14 rfl (lv_at hl 1 rfl) ?_
      refine lv_iload_n hx hb dX12_spotOf_15 rfl (lv_at hl 2 rfl) ?_
      refine vp_callSi (W.runS (As := [.int x1, .int x2]) (rest := []) ⟨hx, hb, hml, hown, hts⟩ (c_X8_spotOn l D T x1 x2) (va_cwS 2 hts gX12_spotOf_X8_spotOn rfl rfl rfl hs_X8_spotOn ⟨Nat.le_of_ble_eq_true rfl, Nat.le_of_ble_eq_true rfl⟩) (pR_S hP hE [] rfl) rfl rfl hl.1 rfl (lv_room (Nat.le_of_ble_eq_true rfl)) dX12_spotOf_16 ⟨Nat.le_of_ble_eq_true rfl, Nat.le_of_ble_eq_true rfl⟩) (fun r_5 hr_5 => ?_)
      obtain rfl : (sp_bits (x1 &&& ((1 <<< (x2 &&& 31)) - 1))) = r_5 := (hr_5).symm
      refine lv_goto (tgt := 24) hx hb dX12_spotOf_19 (by decide +kernel) ?_
      exact W.iret hx hb hr (fun t ht hW => ⟨_, rfl, (by first | decide | (unfold sp_spotOf; (repeat' split) <;> first | rfl | (exfalso; omega))), ht⟩) (fun _ h => by cases h) dX12_spotOf_24
    · refine lv_if_eq (tgt := 22) hx hb dX12_spotOf_11 (by decide +kernel) (fun _ => ?_) (fun c9 => absurd c9 (by decide +kernel))
      refine lv_bipush (v := (-2)) hx hb dX12_spotOf_22 (by decide +kernel) ?_
      exact W.iret hx hb hr (fun t ht hW => ⟨_, rfl, (by first | decide | (unfold sp_spotOf; (repeat' split) <;> first | rfl | (exfalso; omega))), ht⟩) (fun _ h => by cases h) dX12_spotOf_24
  · refine lv_if_eq (tgt := 22) hx hb dX12_spotOf_4 (by decide +kernel) (fun _ => ?_) (fun c9 => absurd c9 (by decide +kernel))
    refine lv_bipush (v := (-2)) hx hb dX12_spotOf_22 (by decide +kernel) ?_
    exact W.iret hx hb hr (fun t ht hW => ⟨_, rfl, (by first | decide | (unfold sp_spotOf; (repeat' split) <;> first | rfl | (exfalso; omega))), ht⟩) (fun _ h => by cases h) dX12_spotOf_24
/-- clauseOf(), out of seven rows -/
def clOf (n x w r : Int32) (f1 f2 f3 f4 f5 f6 f7 : Nat → Int32) : Prop := (¬ (0 ≤ x.toInt ∧ x.toInt < n.toInt) ∧ r.toInt = -2) ∨ ((0 ≤ x.toInt ∧ x.toInt < n.toInt) ∧ ((w.toInt = 0 ∧ r = f1 x.toNatClampNeg) ∨ (w.toInt = 1 ∧ r = f2 x.toNatClampNeg) ∨ (w.toInt = 2 ∧ r = f3 x.toNatClampNeg) ∨ (w.toInt = 3 ∧ r = f4 x.toNatClampNeg) ∨ (w.toInt = 4 ∧ r = f5 x.toNatClampNeg) ∨ (w.toInt = 5 ∧ r = f6 x.toNatClampNeg) ∨ (w.toInt = 6 ∧ r = f7 x.toNatClampNeg) ∨ (¬ (0 ≤ w.toInt ∧ w.toInt ≤ 6) ∧ r.toInt = -2)))
theorem dX12_clauseOf_0 : decode cX12_clauseOf 0 = .ok (.aload_n 0, 1) := by decide +kernel
theorem dX12_clauseOf_1 : decode cX12_clauseOf 1 = .ok (.getfield 32, 3) := by decide +kernel
theorem dX12_clauseOf_100 : decode cX12_clauseOf 100 = .ok (.getfield 166, 3) := by decide +kernel
theorem dX12_clauseOf_103 : decode cX12_clauseOf 103 = .ok (.iload_n 1, 1) := by decide +kernel
theorem dX12_clauseOf_104 : decode cX12_clauseOf 104 = .ok (.iaload, 1) := by decide +kernel
theorem dX12_clauseOf_105 : decode cX12_clauseOf 105 = .ok (.ireturn, 1) := by decide +kernel
theorem dX12_clauseOf_106 : decode cX12_clauseOf 106 = .ok (.aload_n 0, 1) := by decide +kernel
theorem dX12_clauseOf_107 : decode cX12_clauseOf 107 = .ok (.getfield 32, 3) := by decide +kernel
theorem dX12_clauseOf_11 : decode cX12_clauseOf 11 = .ok (.bipush (-2), 2) := by decide +kernel
theorem dX12_clauseOf_110 : decode cX12_clauseOf 110 = .ok (.getfield 169, 3) := by decide +kernel
theorem dX12_clauseOf_113 : decode cX12_clauseOf 113 = .ok (.iload_n 1, 1) := by decide +kernel
theorem dX12_clauseOf_114 : decode cX12_clauseOf 114 = .ok (.iaload, 1) := by decide +kernel
theorem dX12_clauseOf_115 : decode cX12_clauseOf 115 = .ok (.ireturn, 1) := by decide +kernel
theorem dX12_clauseOf_116 : decode cX12_clauseOf 116 = .ok (.aload_n 0, 1) := by decide +kernel
theorem dX12_clauseOf_117 : decode cX12_clauseOf 117 = .ok (.getfield 32, 3) := by decide +kernel
theorem dX12_clauseOf_120 : decode cX12_clauseOf 120 = .ok (.getfield 172, 3) := by decide +kernel
theorem dX12_clauseOf_123 : decode cX12_clauseOf 123 = .ok (.iload_n 1, 1) := by decide +kernel
theorem dX12_clauseOf_124 : decode cX12_clauseOf 124 = .ok (.iaload, 1) := by decide +kernel
theorem dX12_clauseOf_125 : decode cX12_clauseOf 125 = .ok (.ireturn, 1) := by decide +kernel
theorem dX12_clauseOf_126 : decode cX12_clauseOf 126 = .ok (.bipush (-2), 2) := by decide +kernel
theorem dX12_clauseOf_128 : decode cX12_clauseOf 128 = .ok (.ireturn, 1) := by decide +kernel
theorem dX12_clauseOf_13 : decode cX12_clauseOf 13 = .ok (.ireturn, 1) := by decide +kernel
theorem dX12_clauseOf_14 : decode cX12_clauseOf 14 = .ok (.iload_n 2, 1) := by decide +kernel
theorem dX12_clauseOf_15 : decode cX12_clauseOf 15 = .ok (.tableswitch 111 0 6 #[41, 51, 61, 71, 81, 91, 101], 41) := by decide +kernel
theorem dX12_clauseOf_4 : decode cX12_clauseOf 4 = .ok (.iload_n 1, 1) := by decide +kernel
theorem dX12_clauseOf_5 : decode cX12_clauseOf 5 = .ok (.invokevirtual 150, 3) := by decide +kernel
theorem dX12_clauseOf_56 : decode cX12_clauseOf 56 = .ok (.aload_n 0, 1) := by decide +kernel
theorem dX12_clauseOf_57 : decode cX12_clauseOf 57 = .ok (.getfield 32, 3) := by decide +kernel
theorem dX12_clauseOf_60 : decode cX12_clauseOf 60 = .ok (.getfield 153, 3) := by decide +kernel
theorem dX12_clauseOf_63 : decode cX12_clauseOf 63 = .ok (.iload_n 1, 1) := by decide +kernel
theorem dX12_clauseOf_64 : decode cX12_clauseOf 64 = .ok (.iaload, 1) := by decide +kernel
theorem dX12_clauseOf_65 : decode cX12_clauseOf 65 = .ok (.ireturn, 1) := by decide +kernel
theorem dX12_clauseOf_66 : decode cX12_clauseOf 66 = .ok (.aload_n 0, 1) := by decide +kernel
theorem dX12_clauseOf_67 : decode cX12_clauseOf 67 = .ok (.getfield 32, 3) := by decide +kernel
theorem dX12_clauseOf_70 : decode cX12_clauseOf 70 = .ok (.getfield 157, 3) := by decide +kernel
theorem dX12_clauseOf_73 : decode cX12_clauseOf 73 = .ok (.iload_n 1, 1) := by decide +kernel
theorem dX12_clauseOf_74 : decode cX12_clauseOf 74 = .ok (.iaload, 1) := by decide +kernel
theorem dX12_clauseOf_75 : decode cX12_clauseOf 75 = .ok (.ireturn, 1) := by decide +kernel
theorem dX12_clauseOf_76 : decode cX12_clauseOf 76 = .ok (.aload_n 0, 1) := by decide +kernel
theorem dX12_clauseOf_77 : decode cX12_clauseOf 77 = .ok (.getfield 32, 3) := by decide +kernel
theorem dX12_clauseOf_8 : decode cX12_clauseOf 8 = .ok (.ifCond .ne 6, 3) := by decide +kernel
theorem dX12_clauseOf_80 : decode cX12_clauseOf 80 = .ok (.getfield 160, 3) := by decide +kernel
theorem dX12_clauseOf_83 : decode cX12_clauseOf 83 = .ok (.iload_n 1, 1) := by decide +kernel
theorem dX12_clauseOf_84 : decode cX12_clauseOf 84 = .ok (.iaload, 1) := by decide +kernel
theorem dX12_clauseOf_85 : decode cX12_clauseOf 85 = .ok (.ireturn, 1) := by decide +kernel
theorem dX12_clauseOf_86 : decode cX12_clauseOf 86 = .ok (.aload_n 0, 1) := by decide +kernel
theorem dX12_clauseOf_87 : decode cX12_clauseOf 87 = .ok (.getfield 32, 3) := by decide +kernel
theorem dX12_clauseOf_90 : decode cX12_clauseOf 90 = .ok (.getfield 163, 3) := by decide +kernel
theorem dX12_clauseOf_93 : decode cX12_clauseOf 93 = .ok (.iload_n 1, 1) := by decide +kernel
theorem dX12_clauseOf_94 : decode cX12_clauseOf 94 = .ok (.iaload, 1) := by decide +kernel
theorem dX12_clauseOf_95 : decode cX12_clauseOf 95 = .ok (.ireturn, 1) := by decide +kernel
theorem dX12_clauseOf_96 : decode cX12_clauseOf 96 = .ok (.aload_n 0, 1) := by decide +kernel
theorem dX12_clauseOf_97 : decode cX12_clauseOf 97 = .ok (.getfield 32, 3) := by decide +kernel
set_option maxRecDepth 20000 in
theorem ggX12_clauseOf_X2_has : GoodIn wsX12_clauseOf wsX2_has := goodIn_r _ [13, 14, 15, 16, 17, 29, 30, 31, 32, 33, 34, 35, 36] rfl (by decide +kernel)
set_option maxRecDepth 20000 in
theorem gX12_clauseOf_X2_has : GoodIn wsX12_clauseOf (wsV RX12 150 RX2 yX2_has wsX2_has) := goodIn_app (goodIn_r _ [9, 10, 11, 12] rfl (by decide +kernel)) ggX12_clauseOf_X2_has
set_option maxRecDepth 20000 in
theorem in_X12_clauseOf_X12 : ∀ w ∈ wsX120, w ∈ wsX12_clauseOf := sub_r [18, 19, 20, 21, 22, 23, 24, 25, 26, 27, 28] rfl
set_option maxRecDepth 20000 in
theorem in_X12_clauseOf_X2 : ∀ w ∈ wsX20, w ∈ wsX12_clauseOf := sub_r [29, 30, 31, 32, 33, 34, 35, 36] rfl
set_option maxHeartbeats 4000000 in
set_option maxRecDepth 100000 in
theorem c_X12_clauseOf (l : Launch) (D : va_G) (T : Nat → ClassId) (h0 : Nat) (fs0 : List Value) (h1 : Nat) (fs1 : List Value) (h2 : Nat) (f2 : Nat → Int32) (h3 : Nat) (f3 : Nat → Int32) (h4 : Nat) (f4 : Nat → Int32) (h5 : Nat) (f5 : Nat → Int32) (h6 : Nat) (f6 : Nat → Int32) (h7 : Nat) (f7 : Nat → Int32) (h8 : Nat) (f8 : Nat → Int32) (x1 : Int32) (x2 : Int32) (n : Int32) (e0_4 : fs0[4]? = some (.ref h1)) (e1_0 : fs1[0]? = some (.int n)) (e1_1 : fs1[1]? = some (.ref h2)) (e1_2 : fs1[2]? = some (.ref h3)) (e1_3 : fs1[3]? = some (.ref h4)) (e1_4 : fs1[4]? = some (.ref h5)) (e1_5 : fs1[5]? = some (.ref h6)) (e1_6 : fs1[6]? = some (.ref h7)) (e1_7 : fs1[7]? = some (.ref h8)) (hn0 : 0 ≤ n.toInt ∧ n.toInt ≤ 24) : Met l yX12_clauseOf wsX12_clauseOf ({ frames := 2, cells := 0, slots := 0, locals := 43 }) (pR [.ref h0, .int x1, .int x2] D T [(h0, .inr (9, fs0)), (h1, .inr (1, fs1)), (h2, .inl (T 0, 24, .inl f2)), (h3, .inl (T 0, 24, .inl f3)), (h4, .inl (T 0, 24, .inl f4)), (h5, .inl (T 0, 24, .inl f5)), (h6, .inl (T 0, 24, .inl f6)), (h7, .inl (T 0, 24, .inl f7)), (h8, .inl (T 0, 24, .inl f8))]) (vp_Si (fun r => clOf n x1 x2 r f2 f3 f4 f5 f6 f7 f8)) 0 0 (fun _ => False) := by
  refine Met.ofW (cc := cX12_clauseOf) (maxL := 3) (ret := (some .int)) (by decide +kernel) rfl ?_
  intro p e s m args below meth c s₁ B hml hv
  obtain ⟨rfl, hP, hE⟩ := hv
  have hx := B.exec
  have hb := B.bytes
  have hr := B.returns
  have hts := atoms_spec (ws := wsX12_clauseOf) B.pre
  have hown : s.vm.findClass RX12 = some m.cls := findClass_of_methodNamed B.named
  have hlocks := B.notSynchronized
  have hP : va_P D vwCl [(h0, .inr (9, fs0)), (h1, .inr (1, fs1)), (h2, .inl (T 0, 24, .inl f2)), (h3, .inl (T 0, 24, .inl f3)), (h4, .inl (T 0, 24, .inl f4)), (h5, .inl (T 0, 24, .inl f5)), (h6, .inl (T 0, 24, .inl f6)), (h7, .inl (T 0, 24, .inl f7)), (h8, .inl (T 0, 24, .inl f8))] s.heap := hP
  have hl := lv_entry ([.ref h0, .int x1, .int x2]) (n := 3) (Nat.le_of_ble_eq_true rfl)
  rw [lg_entry_eq]
  generalize (lg_sl ([.ref h0, .int x1, .int x2]) ++ List.replicate (3 - (lg_sl ([.ref h0, .int x1, .int x2])).length) Slot.unset).toArray = ls at hl ⊢
  have hl : lv_has ls 3 [(0, .ref h0), (1, .int x1), (2, .int x2)] := hl
  refine lv_aload_n hx hb dX12_clauseOf_0 rfl (lv_at hl 0 rfl) ?_
  refine va_get (D := D) (ci := 9) (v := .ref h1) (C := RX12) (T := TX12) (N := 11) hx hb hts in_X12_clauseOf_X12 hown hE.1 hP 0 rfl rfl 4 (by decide +kernel) (hts (.fieldLink RX12 32 "ClauseBook" "clauses" "LClauseBook$Clauses;") (List.mem_of_getElem? (i := 1) rfl)) (fun _ h9 => h9) e0_4 dX12_clauseOf_1 ?_
  refine lv_iload_n hx hb dX12_clauseOf_4 rfl (lv_at hl 1 rfl) ?_
  refine vp_callSi (W.runV (As := [.int x1]) (rest := []) ⟨hx, hb, hml, hown, hts⟩ (c_X2_has l D T h1 fs1 x1 n e1_0 (by omega)) (cwV 1 hts gX12_clauseOf_X2_has rfl rfl rfl hv_X2_has ⟨Nat.le_of_ble_eq_true rfl, Nat.le_of_ble_eq_true rfl⟩) (pR_V (q := (RX2, TX2, 8)) (ci := 1) (q0 := 1) hP hE rfl rfl [1] rfl) rfl rfl hl.1 rfl (lv_room (Nat.le_of_ble_eq_true rfl)) dX12_clauseOf_5 ⟨Nat.le_of_ble_eq_true rfl, Nat.le_of_ble_eq_true rfl⟩) (fun r_1 hr_1 => ?_)
  rcases bool_post hr_1 with ⟨c_2, rfl⟩ | ⟨c_2, rfl⟩
  · refine lv_if_ne (tgt := 14) hx hb dX12_clauseOf_8 (by decide +kernel) (fun _ => ?_) (fun c9 => absurd c9 (by decide +kernel))
    refine lv_iload_n hx hb dX12_clauseOf_14 rfl (lv_at hl 2 rfl) ?_
    by_cases k_3 : x2 = 0
    · subst k_3
      refine lv_tableIn (off := 41) (tgt := 56) hx hb dX12_clauseOf_15 (by decide +kernel) (by decide +kernel) (by decide +kernel) (by decide +kernel) ?_
      refine lv_aload_n hx hb dX12_clauseOf_56 rfl (lv_at hl 0 rfl) ?_
      refine va_get (D := D) (ci := 9) (v := .ref h1) (C := RX12) (T := TX12) (N := 11) hx hb hts in_X12_clauseOf_X12 hown hE.1 hP 0 rfl rfl 4 (by decide +kernel) (hts (.fieldLink RX12 32 "ClauseBook" "clauses" "LClauseBook$Clauses;") (List.mem_of_getElem? (i := 1) rfl)) (fun _ h9 => h9) e0_4 dX12_clauseOf_57 ?_
      refine va_get (D := D) (ci := 1) (v := .ref h2) (C := RX2) (T := TX2) (N := 8) hx hb hts in_X12_clauseOf_X2 hown hE.1 hP 1 rfl rfl 1 (by decide +kernel) (hts (.fieldLink RX12 153 "ClauseBook$Clauses" "kind" "[I") (List.mem_of_getElem? (i := 2) rfl)) (fun _ h9 => h9) e1_1 dX12_clauseOf_60 ?_
      refine lv_iload_n hx hb dX12_clauseOf_63 rfl (lv_at hl 1 rfl) ?_
      refine va_iald hx hb hE.1 hP 2 0 rfl rfl (by rw [vp_in_iff]; first | omega | (subst_vars; rw [dec1 (by omega)]; omega) | (subst_vars; rw [inc1 (n := 1000) (by omega) (by decide +kernel)]; omega)) dX12_clauseOf_64 ?_
      refine lv_topi (fun z_4 ez_4 => ?_)
      exact W.iret hx hb hr (fun t ht hW => ⟨_, rfl, (Or.inr ⟨(by omega), Or.inl ⟨(by decide +kernel), (ez_4)⟩⟩), ht⟩) (fun _ h => by cases h) dX12_clauseOf_65
    by_cases k_5 : x2 = 1
    · subst k_5
      refine lv_tableIn (off := 51) (tgt := 66) hx hb dX12_clauseOf_15 (by decide +kernel) (by decide +kernel) (by decide +kernel) (by decide +kernel) ?_
      refine lv_aload_n hx hb dX12_clauseOf_66 rfl (lv_at hl 0 rfl) ?_
      refine va_get (D := D) (ci := 9) (v := .ref h1) (C := RX12) (T := TX12) (N := 11) hx hb hts in_X12_clauseOf_X12 hown hE.1 hP 0 rfl rfl 4 (by decide +kernel) (hts (.fieldLink RX12 32 "ClauseBook" "clauses" "LClauseBook$Clauses;") (List.mem_of_getElem? (i := 1) rfl)) (fun _ h9 => h9) e0_4 dX12_clauseOf_67 ?_
      refine va_get (D := D) (ci := 1) (v := .ref h3) (C := RX2) (T := TX2) (N := 8) hx hb hts in_X12_clauseOf_X2 hown hE.1 hP 1 rfl rfl 2 (by decide +kernel) (hts (.fieldLink RX12 157 "ClauseBook$Clauses" "n" "[I") (List.mem_of_getElem? (i := 3) rfl)) (fun _ h9 => h9) e1_2 dX12_clauseOf_70 ?_
      refine lv_iload_n hx hb dX12_clauseOf_73 rfl (lv_at hl 1 rfl) ?_
      refine va_iald hx hb hE.1 hP 3 0 rfl rfl (by rw [vp_in_iff]; first | omega | (subst_vars; rw [dec1 (by omega)]; omega) | (subst_vars; rw [inc1 (n := 1000) (by omega) (by decide +kernel)]; omega)) dX12_clauseOf_74 ?_
      refine lv_topi (fun z_6 ez_6 => ?_)
      exact W.iret hx hb hr (fun t ht hW => ⟨_, rfl, (Or.inr ⟨(by omega), Or.inr (Or.inl ⟨(by decide +kernel), (ez_6)⟩)⟩), ht⟩) (fun _ h => by cases h) dX12_clauseOf_75
    by_cases k_7 : x2 = 2
    · subst k_7
      refine lv_tableIn (off := 61) (tgt := 76) hx hb dX12_clauseOf_15 (by decide +kernel) (by decide +kernel) (by decide +kernel) (by decide +kernel) ?_
      refine lv_aload_n hx hb dX12_clauseOf_76 rfl (lv_at hl 0 rfl) ?_
      refine va_get (D := D) (ci := 9) (v := .ref h1) (C := RX12) (T := TX12) (N := 11) hx hb hts in_X12_clauseOf_X12 hown hE.1 hP 0 rfl rfl 4 (by decide +kernel) (hts (.fieldLink RX12 32 "ClauseBook" "clauses" "LClauseBook$Clauses;") (List.mem_of_getElem? (i := 1) rfl)) (fun _ h9 => h9) e0_4 dX12_clauseOf_77 ?_
      refine va_get (D := D) (ci := 1) (v := .ref h4) (C := RX2) (T := TX2) (N := 8) hx hb hts in_X12_clauseOf_X2 hown hE.1 hP 1 rfl rfl 3 (by decide +kernel) (hts (.fieldLink RX12 160 "ClauseBook$Clauses" "c" "[I") (List.mem_of_getElem? (i := 4) rfl)) (fun _ h9 => h9) e1_3 dX12_clauseOf_80 ?_
      refine lv_iload_n hx hb dX12_clauseOf_83 rfl (lv_at hl 1 rfl) ?_
      refine va_iald hx hb hE.1 hP 4 0 rfl rfl (by rw [vp_in_iff]; first | omega | (subst_vars; rw [dec1 (by omega)]; omega) | (subst_vars; rw [inc1 (n := 1000) (by omega) (by decide +kernel)]; omega)) dX12_clauseOf_84 ?_
      refine lv_topi (fun z_8 ez_8 => ?_)
      exact W.iret hx hb hr (fun t ht hW => ⟨_, rfl, (Or.inr ⟨(by omega), Or.inr (Or.inr (Or.inl ⟨(by decide +kernel), (ez_8)⟩))⟩), ht⟩) (fun _ h => by cases h) dX12_clauseOf_85
    by_cases k_9 : x2 = 3
    · subst k_9
      refine lv_tableIn (off := 71) (tgt := 86) hx hb dX12_clauseOf_15 (by decide +kernel) (by decide +kernel) (by decide +kernel) (by decide +kernel) ?_
      refine lv_aload_n hx hb dX12_clauseOf_86 rfl (lv_at hl 0 rfl) ?_
      refine va_get (D := D) (ci := 9) (v := .ref h1) (C := RX12) (T := TX12) (N := 11) hx hb hts in_X12_clauseOf_X12 hown hE.1 hP 0 rfl rfl 4 (by decide +kernel) (hts (.fieldLink RX12 32 "ClauseBook" "clauses" "LClauseBook$Clauses;") (List.mem_of_getElem? (i := 1) rfl)) (fun _ h9 => h9) e0_4 dX12_clauseOf_87 ?_
      refine va_get (D := D) (ci := 1) (v := .ref h5) (C := RX2) (T := TX2) (N := 8) hx hb hts in_X12_clauseOf_X2 hown hE.1 hP 1 rfl rfl 4 (by decide +kernel) (hts (.fieldLink RX12 163 "ClauseBook$Clauses" "d" "[I") (List.mem_of_getElem? (i := 5) rfl)) (fun _ h9 => h9) e1_4 dX12_clauseOf_90 ?_
      refine lv_iload_n hx hb dX12_clauseOf_93 rfl (lv_at hl 1 rfl) ?_
      refine va_iald hx hb hE.1 hP 5 0 rfl rfl (by rw [vp_in_iff]; first | omega | (subst_vars; rw [dec1 (by omega)]; omega) | (subst_vars; rw [inc1 (n := 1000) (by omega) (by decide +kernel)]; omega)) dX12_clauseOf_94 ?_
      refine lv_topi (fun z_10 ez_10 => ?_)
      exact W.iret hx hb hr (fun t ht hW => ⟨_, rfl, (Or.inr ⟨(by omega), Or.inr (Or.inr (Or.inr (Or.inl ⟨(by decide +kernel), (ez_10)⟩)))⟩), ht⟩) (fun _ h => by cases h) dX12_clauseOf_95
    by_cases k_11 : x2 = 4
    · subst k_11
      refine lv_tableIn (off := 81) (tgt := 96) hx hb dX12_clauseOf_15 (by decide +kernel) (by decide +kernel) (by decide +kernel) (by decide +kernel) ?_
      refine lv_aload_n hx hb dX12_clauseOf_96 rfl (lv_at hl 0 rfl) ?_
      refine va_get (D := D) (ci := 9) (v := .ref h1) (C := RX12) (T := TX12) (N := 11) hx hb hts in_X12_clauseOf_X12 hown hE.1 hP 0 rfl rfl 4 (by decide +kernel) (hts (.fieldLink RX12 32 "ClauseBook" "clauses" "LClauseBook$Clauses;") (List.mem_of_getElem? (i := 1) rfl)) (fun _ h9 => h9) e0_4 dX12_clauseOf_97 ?_
      refine va_get (D := D) (ci := 1) (v := .ref h6) (C := RX2) (T := TX2) (N := 8) hx hb hts in_X12_clauseOf_X2 hown hE.1 hP 1 rfl rfl 5 (by decide +kernel) (hts (.fieldLink RX12 166 "ClauseBook$Clauses" "end" "[I") (List.mem_of_getElem? (i := 6) rfl)) (fun _ h9 => h9) e1_5 dX12_clauseOf_100 ?_
      refine lv_iload_n hx hb dX12_clauseOf_103 rfl (lv_at hl 1 rfl) ?_
      refine va_iald hx hb hE.1 hP 6 0 rfl rfl (by rw [vp_in_iff]; first | omega | (subst_vars; rw [dec1 (by omega)]; omega) | (subst_vars; rw [inc1 (n := 1000) (by omega) (by decide +kernel)]; omega)) dX12_clauseOf_104 ?_
      refine lv_topi (fun z_12 ez_12 => ?_)
      exact W.iret hx hb hr (fun t ht hW => ⟨_, rfl, (Or.inr ⟨(by omega), Or.inr (Or.inr (Or.inr (Or.inr (Or.inl ⟨(by decide +kernel), (ez_12)⟩))))⟩), ht⟩) (fun _ h => by cases h) dX12_clauseOf_105
    by_cases k_13 : x2 = 5
    · subst k_13
      refine lv_tableIn (off := 91) (tgt := 106) hx hb dX12_clauseOf_15 (by decide +kernel) (by decide +kernel) (by decide +kernel) (by decide +kernel) ?_
      refine lv_aload_n hx hb dX12_clauseOf_106 rfl (lv_at hl 0 rfl) ?_
      refine va_get (D := D) (ci := 9) (v := .ref h1) (C := RX12) (T := TX12) (N := 11) hx hb hts in_X12_clauseOf_X12 hown hE.1 hP 0 rfl rfl 4 (by decide +kernel) (hts (.fieldLink RX12 32 "ClauseBook" "clauses" "LClauseBook$Clauses;") (List.mem_of_getElem? (i := 1) rfl)) (fun _ h9 => h9) e0_4 dX12_clauseOf_107 ?_
      refine va_get (D := D) (ci := 1) (v := .ref h7) (C := RX2) (T := TX2) (N := 8) hx hb hts in_X12_clauseOf_X2 hown hE.1 hP 1 rfl rfl 6 (by decide +kernel) (hts (.fieldLink RX12 169 "ClauseBook$Clauses" "made" "[I") (List.mem_of_getElem? (i := 7) rfl)) (fun _ h9 => h9) e1_6 dX12_clauseOf_110 ?_
      refine lv_iload_n hx hb dX12_clauseOf_113 rfl (lv_at hl 1 rfl) ?_
      refine va_iald hx hb hE.1 hP 7 0 rfl rfl (by rw [vp_in_iff]; first | omega | (subst_vars; rw [dec1 (by omega)]; omega) | (subst_vars; rw [inc1 (n := 1000) (by omega) (by decide +kernel)]; omega)) dX12_clauseOf_114 ?_
      refine lv_topi (fun z_14 ez_14 => ?_)
      exact W.iret hx hb hr (fun t ht hW => ⟨_, rfl, (Or.inr ⟨(by omega), Or.inr (Or.inr (Or.inr (Or.inr (Or.inr (Or.inl ⟨(by decide +kernel), (ez_14)⟩)))))⟩), ht⟩) (fun _ h => by cases h) dX12_clauseOf_115
    by_cases k_15 : x2 = 6
    · subst k_15
      refine lv_tableIn (off := 101) (tgt := 116) hx hb dX12_clauseOf_15 (by decide +kernel) (by decide +kernel) (by decide +kernel) (by decide +kernel) ?_
      refine lv_aload_n hx hb dX12_clauseOf_116 rfl (lv_at hl 0 rfl) ?_
      refine va_get (D := D) (ci := 9) (v := .ref h1) (C := RX12) (T := TX12) (N := 11) hx hb hts in_X12_clauseOf_X12 hown hE.1 hP 0 rfl rfl 4 (by decide +kernel) (hts (.fieldLink RX12 32 "ClauseBook" "clauses" "LClauseBook$Clauses;") (List.mem_of_getElem? (i := 1) rfl)) (fun _ h9 => h9) e0_4 dX12_clauseOf_117 ?_
      refine va_get (D := D) (ci := 1) (v := .ref h8) (C := RX2) (T := TX2) (N := 8) hx hb hts in_X12_clauseOf_X2 hown hE.1 hP 1 rfl rfl 7 (by decide +kernel) (hts (.fieldLink RX12 172 "ClauseBook$Clauses" "deep" "[I") (List.mem_of_getElem? (i := 8) rfl)) (fun _ h9 => h9) e1_7 dX12_clauseOf_120 ?_
      refine lv_iload_n hx hb dX12_clauseOf_123 rfl (lv_at hl 1 rfl) ?_
      refine va_iald hx hb hE.1 hP 8 0 rfl rfl (by rw [vp_in_iff]; first | omega | (subst_vars; rw [dec1 (by omega)]; omega) | (subst_vars; rw [inc1 (n := 1000) (by omega) (by decide +kernel)]; omega)) dX12_clauseOf_124 ?_
      refine lv_topi (fun z_16 ez_16 => ?_)
      exact W.iret hx hb hr (fun t ht hW => ⟨_, rfl, (Or.inr ⟨(by omega), Or.inr (Or.inr (Or.inr (Or.inr (Or.inr (Or.inr (Or.inl ⟨(by decide +kernel), (ez_16)⟩))))))⟩), ht⟩) (fun _ h => by cases h) dX12_clauseOf_125
    rw [fa_eq] at k_3 k_5 k_7 k_9 k_11 k_13 k_15
    try simp only [ti_0, ti_1, ti_2, ti_3, ti_4, ti_5, ti_6] at k_3 k_5 k_7 k_9 k_11 k_13 k_15
    refine lv_tableOut (tgt := 126) hx hb dX12_clauseOf_15 (by omega) (by decide +kernel) ?_
    refine lv_bipush (v := (-2)) hx hb dX12_clauseOf_126 (by decide +kernel) ?_
    exact W.iret hx hb hr (fun t ht hW => ⟨_, rfl, (Or.inr ⟨(by omega), (Or.inr (Or.inr (Or.inr (Or.inr (Or.inr (Or.inr (Or.inr ⟨(by omega), (by decide +kernel)⟩)))))))⟩), ht⟩) (fun _ h => by cases h) dX12_clauseOf_128
  · refine lv_if_ne (tgt := 14) hx hb dX12_clauseOf_8 (by decide +kernel) (fun c9 => absurd c9 (by decide +kernel)) (fun _ => ?_)
    refine lv_bipush (v := (-2)) hx hb dX12_clauseOf_11 (by decide +kernel) ?_
    exact W.iret hx hb hr (fun t ht hW => ⟨_, rfl, (Or.inl ⟨(by omega), (by decide +kernel)⟩), ht⟩) (fun _ h => by cases h) dX12_clauseOf_13
end
section
/-- where a call's ints stand in the script -/
theorem vin_0 {ii : Int32} {L : Nat} (hL : L ≤ 3584) (h : 0 ≤ ii.toInt ∧ ii.toInt + 7 ≤ L) : vp_in ii L := by rw [vp_in_iff]; omega
theorem hin_1 {ii : Int32} {L : Nat} (hL : L ≤ 3584) (h : 0 ≤ ii.toInt ∧ ii.toInt + 7 ≤ L) : (ii + 1).toInt = ii.toInt + 1 := by rw [fb_addI (by rw [ti_1]; omega) (by rw [ti_1]; omega), ti_1]
theorem vin_1 {ii : Int32} {L : Nat} (hL : L ≤ 3584) (h : 0 ≤ ii.toInt ∧ ii.toInt + 7 ≤ L) : vp_in (ii + 1) L := by rw [vp_in_iff, hin_1 hL h]; omega
theorem hin_2 {ii : Int32} {L : Nat} (hL : L ≤ 3584) (h : 0 ≤ ii.toInt ∧ ii.toInt + 7 ≤ L) : (ii + 2).toInt = ii.toInt + 2 := by rw [fb_addI (by rw [ti_2]; omega) (by rw [ti_2]; omega), ti_2]
theorem vin_2 {ii : Int32} {L : Nat} (hL : L ≤ 3584) (h : 0 ≤ ii.toInt ∧ ii.toInt + 7 ≤ L) : vp_in (ii + 2) L := by rw [vp_in_iff, hin_2 hL h]; omega
theorem hin_3 {ii : Int32} {L : Nat} (hL : L ≤ 3584) (h : 0 ≤ ii.toInt ∧ ii.toInt + 7 ≤ L) : (ii + 3).toInt = ii.toInt + 3 := by rw [fb_addI (by rw [ti_3]; omega) (by rw [ti_3]; omega), ti_3]
theorem vin_3 {ii : Int32} {L : Nat} (hL : L ≤ 3584) (h : 0 ≤ ii.toInt ∧ ii.toInt + 7 ≤ L) : vp_in (ii + 3) L := by rw [vp_in_iff, hin_3 hL h]; omega
theorem hin_4 {ii : Int32} {L : Nat} (hL : L ≤ 3584) (h : 0 ≤ ii.toInt ∧ ii.toInt + 7 ≤ L) : (ii + 4).toInt = ii.toInt + 4 := by rw [fb_addI (by rw [ti_4]; omega) (by rw [ti_4]; omega), ti_4]
theorem vin_4 {ii : Int32} {L : Nat} (hL : L ≤ 3584) (h : 0 ≤ ii.toInt ∧ ii.toInt + 7 ≤ L) : vp_in (ii + 4) L := by rw [vp_in_iff, hin_4 hL h]; omega
theorem hin_5 {ii : Int32} {L : Nat} (hL : L ≤ 3584) (h : 0 ≤ ii.toInt ∧ ii.toInt + 7 ≤ L) : (ii + 5).toInt = ii.toInt + 5 := by rw [fb_addI (by rw [ti_5]; omega) (by rw [ti_5]; omega), ti_5]
theorem vin_5 {ii : Int32} {L : Nat} (hL : L ≤ 3584) (h : 0 ≤ ii.toInt ∧ ii.toInt + 7 ≤ L) : vp_in (ii + 5) L := by rw [vp_in_iff, hin_5 hL h]; omega
theorem hin_6 {ii : Int32} {L : Nat} (hL : L ≤ 3584) (h : 0 ≤ ii.toInt ∧ ii.toInt + 7 ≤ L) : (ii + 6).toInt = ii.toInt + 6 := by rw [fb_addI (by rw [ti_6]; omega) (by rw [ti_6]; omega), ti_6]
theorem vin_6 {ii : Int32} {L : Nat} (hL : L ≤ 3584) (h : 0 ≤ ii.toInt ∧ ii.toInt + 7 ≤ L) : vp_in (ii + 6) L := by rw [vp_in_iff, hin_6 hL h]; omega
theorem tn4 {x : Int32} (h : 0 ≤ x.toInt ∧ x.toInt ≤ 3) : x.toNatClampNeg < 4 := by have h9 := tn (x := x) h.1; omega
theorem she_eq {r z k so fo zs rs cs sn fn zn rn cn : Int} (h1 : (r = 1 → z = k → so = zs ∧ (0 ≤ zs → sn = zn)) ∧ (¬ (r = 1 ∧ z = k) → so = cs ∧ sn = cn)) (h2 : (r = 1 → z = k → fo = zs ∧ (0 ≤ zs → fn = zn)) ∧ (¬ (r = 1 ∧ z = k) → fo = rs ∧ fn = rn)) (h3 : cs = rs ∧ (0 ≤ cs → cn = rn)) : so = fo ∧ (0 ≤ so → sn = fn) := by
  by_cases h : r = 1 ∧ z = k
  · obtain ⟨a1, a2⟩ := h1.1 h.1 h.2
    obtain ⟨b1, b2⟩ := h2.1 h.1 h.2
    exact ⟨by omega, fun h9 => by rw [a2 (by omega), b2 (by omega)]⟩
  · obtain ⟨a1, a2⟩ := h1.2 h
    obtain ⟨b1, b2⟩ := h2.2 h
    exact ⟨by omega, fun h9 => by rw [a2, b2, h3.2 (by omega)]⟩
end
section
/-- what VALUE depends on is as it was (S), or the age is another -/
def agW (S : Prop) (a a' : Int32) : Prop := (S ∧ a' = a) ∨ a' = a + 1
theorem all7 {P : Nat → Prop} (h0 : P 0) (h1 : P 1) (h2 : P 2) (h3 : P 3) (h4 : P 4) (h5 : P 5) (h6 : P 6) : ∀ j : Nat, j < 7 → P j := by
  intro j hj
  match j, hj with
  | 0, _ => exact h0
  | 1, _ => exact h1
  | 2, _ => exact h2
  | 3, _ => exact h3
  | 4, _ => exact h4
  | 5, _ => exact h5
  | 6, _ => exact h6
  | j + 7, hj => omega
theorem dX11_forget_0 : decode cX11_forget 0 = .ok (.aload_n 0, 1) := by decide +kernel
theorem dX11_forget_1 : decode cX11_forget 1 = .ok (.dup, 1) := by decide +kernel
theorem dX11_forget_10 : decode cX11_forget 10 = .ok (.return_, 1) := by decide +kernel
theorem dX11_forget_2 : decode cX11_forget 2 = .ok (.getfield 22, 3) := by decide +kernel
theorem dX11_forget_5 : decode cX11_forget 5 = .ok (.iconst 1, 1) := by decide +kernel
theorem dX11_forget_6 : decode cX11_forget 6 = .ok (.iadd, 1) := by decide +kernel
theorem dX11_forget_7 : decode cX11_forget 7 = .ok (.putfield 22, 3) := by decide +kernel
set_option maxRecDepth 20000 in
theorem in_X11_forget_X11 : ∀ w ∈ wsX110, w ∈ wsX11_forget := sub_r [2, 3, 4, 5, 6, 7] rfl
set_option maxHeartbeats 4000000 in
set_option maxRecDepth 100000 in
theorem c_X11_forget (l : Launch) (D : va_G) (T : Nat → ClassId) (sz : Nat) (h0 : Nat) (v0 : Value) (v1 : Value) (v2 : Value) (v3 : Value) (v4 : Value) (n : Int32)  : Met l yX11_forget wsX11_forget ({ frames := 0, cells := 0, slots := 0, locals := 0 }) (pW [.ref h0] D T [(h0, .inr (8, [v0, v1, v2, v3, v4, .int n]))] sz) (va_Qv (fun (u : Int32) => u = n + 1) (bW D (va_A [(h0, .inr (8, [v0, v1, v2, v3, v4, .int n]))] sz) (fun (u : Int32) => [(h0, .inr (8, [v0, v1, v2, v3, v4, .int u]))])) (va_A [(h0, .inr (8, [v0, v1, v2, v3, v4, .int n]))] sz)) 0 0 (va_A [(h0, .inr (8, [v0, v1, v2, v3, v4, .int n]))] sz) := by
  refine Met.ofW (cc := cX11_forget) (maxL := 1) (ret := none) (by decide +kernel) rfl ?_
  intro p e s m args below meth c s₁ B hml hv
  obtain ⟨rfl, hsz, hP, hE, hD0⟩ := hv
  have hx := B.exec
  have hb := B.bytes
  have hr := B.returns
  have hts := atoms_spec (ws := wsX11_forget) B.pre
  have hown : s.vm.findClass RX11 = some m.cls := findClass_of_methodNamed B.named
  have hlocks := B.notSynchronized
  subst hsz
  have hD := hD0.self (sz := s.heap.size)
  generalize hAe : va_A [(h0, .inr (8, [v0, v1, v2, v3, v4, .int n]))] s.heap.size = A at hD ⊢
  have hA : ∀ q : Nat, s.heap.size ≤ q → A q := fun q h => by rw [← hAe]; exact Or.inr h
  have hS : va_S A s.heap s.heap [] := va_S.rf
  have hP : va_P D vwCl [(h0, .inr (8, [v0, v1, v2, v3, v4, .int n]))] s.heap := hP
  have hl := lv_entry ([.ref h0]) (n := 1) (Nat.le_of_ble_eq_true rfl)
  rw [lg_entry_eq]
  generalize (lg_sl ([.ref h0]) ++ List.replicate (1 - (lg_sl ([.ref h0])).length) Slot.unset).toArray = ls at hl ⊢
  have hl : lv_has ls 1 [(0, .ref h0)] := hl
  clear hD0
  refine lv_aload_n hx hb dX11_forget_0 rfl (lv_at hl 0 rfl) ?_
  refine lv_dup hx hb dX11_forget_1 rfl ?_
  refine va_get (D := D) (ci := 8) (v := .int n) (C := RX11) (T := TX11) (N := 6) hx hb hts in_X11_forget_X11 hown hE.1 hP 0 rfl rfl 5 (by decide +kernel) (hts (.fieldLink RX11 22 "ClauseBook$Worth" "age" "I") (List.mem_of_getElem? (i := 1) rfl)) (fun _ h9 => h9) rfl dX11_forget_2 ?_
  refine lv_iconst (v := 1) hx hb dX11_forget_5 (by decide +kernel) ?_
  refine lv_iadd hx hb dX11_forget_6 ?_
  refine lv_topi (fun z_1 ez_1 => ?_)
  refine va_put (D := D) (ci := 8) (v := .int z_1) (ty := .int) (C := RX11) (T := TX11) (N := 6) hx hb hts in_X11_forget_X11 tyX11 tyX11_ok nmX11 hown hE.1 hP hD hS 0 rfl rfl 5 (by decide +kernel) (hts (.fieldLink RX11 22 "ClauseBook$Worth" "age" "I") (List.mem_of_getElem? (i := 1) rfl)) (fun _ h9 => h9) rfl (by decide +kernel) rfl rfl (Nat.le_of_ble_eq_true rfl) dX11_forget_7 (fun H locs hP hD hS => ?_)
  obtain ⟨hP, hD⟩ := wPD [(h0, .inr (8, [v0, v1, v2, v3, v4, .int z_1]))] hP hD rfl
  exact W.vret hx hb hr (fun t ht hW => ⟨⟨z_1, rfl, (show z_1 = n + 1 from ez_1), by rw [ht]; exact hP.sub [0] rfl, hD.sub [0] (by decide +kernel) rfl⟩, hS.F ht⟩) hS.2.2 dX11_forget_10
theorem dX12_start_0 : decode cX12_start 0 = .ok (.iload_n 1, 1) := by decide +kernel
theorem dX12_start_1 : decode cX12_start 1 = .ok (.bipush (-99), 2) := by decide +kernel
theorem dX12_start_11 : decode cX12_start 11 = .ok (.iload_n 2, 1) := by decide +kernel
theorem dX12_start_12 : decode cX12_start 12 = .ok (.iconst 0, 1) := by decide +kernel
theorem dX12_start_13 : decode cX12_start 13 = .ok (.bipush 9, 2) := by decide +kernel
theorem dX12_start_15 : decode cX12_start 15 = .ok (.invokestatic 77, 3) := by decide +kernel
theorem dX12_start_18 : decode cX12_start 18 = .ok (.ifCond .eq 13, 3) := by decide +kernel
theorem dX12_start_21 : decode cX12_start 21 = .ok (.iload_n 3, 1) := by decide +kernel
theorem dX12_start_22 : decode cX12_start 22 = .ok (.iconst 0, 1) := by decide +kernel
theorem dX12_start_23 : decode cX12_start 23 = .ok (.bipush 9, 2) := by decide +kernel
theorem dX12_start_25 : decode cX12_start 25 = .ok (.invokestatic 77, 3) := by decide +kernel
theorem dX12_start_28 : decode cX12_start 28 = .ok (.ifCond .ne 6, 3) := by decide +kernel
theorem dX12_start_3 : decode cX12_start 3 = .ok (.bipush 99, 2) := by decide +kernel
theorem dX12_start_31 : decode cX12_start 31 = .ok (.bipush (-2), 2) := by decide +kernel
theorem dX12_start_33 : decode cX12_start 33 = .ok (.ireturn, 1) := by decide +kernel
theorem dX12_start_34 : decode cX12_start 34 = .ok (.aload_n 0, 1) := by decide +kernel
theorem dX12_start_35 : decode cX12_start 35 = .ok (.getfield 27, 3) := by decide +kernel
theorem dX12_start_38 : decode cX12_start 38 = .ok (.iload_n 1, 1) := by decide +kernel
theorem dX12_start_39 : decode cX12_start 39 = .ok (.putfield 81, 3) := by decide +kernel
theorem dX12_start_42 : decode cX12_start 42 = .ok (.aload_n 0, 1) := by decide +kernel
theorem dX12_start_43 : decode cX12_start 43 = .ok (.getfield 27, 3) := by decide +kernel
theorem dX12_start_46 : decode cX12_start 46 = .ok (.iload_n 2, 1) := by decide +kernel
theorem dX12_start_47 : decode cX12_start 47 = .ok (.putfield 87, 3) := by decide +kernel
theorem dX12_start_5 : decode cX12_start 5 = .ok (.invokestatic 77, 3) := by decide +kernel
theorem dX12_start_50 : decode cX12_start 50 = .ok (.aload_n 0, 1) := by decide +kernel
theorem dX12_start_51 : decode cX12_start 51 = .ok (.getfield 27, 3) := by decide +kernel
theorem dX12_start_54 : decode cX12_start 54 = .ok (.iload_n 3, 1) := by decide +kernel
theorem dX12_start_55 : decode cX12_start 55 = .ok (.putfield 90, 3) := by decide +kernel
theorem dX12_start_58 : decode cX12_start 58 = .ok (.aload_n 0, 1) := by decide +kernel
theorem dX12_start_59 : decode cX12_start 59 = .ok (.getfield 43, 3) := by decide +kernel
theorem dX12_start_62 : decode cX12_start 62 = .ok (.invokevirtual 93, 3) := by decide +kernel
theorem dX12_start_65 : decode cX12_start 65 = .ok (.iconst 1, 1) := by decide +kernel
theorem dX12_start_66 : decode cX12_start 66 = .ok (.ireturn, 1) := by decide +kernel
theorem dX12_start_8 : decode cX12_start 8 = .ok (.ifCond .eq 23, 3) := by decide +kernel
set_option maxRecDepth 20000 in
theorem ggX12_start_X11_forget : GoodIn wsX12_start wsX11_forget := goodIn_r _ [14, 15, 34, 35, 36, 37, 38, 39] rfl (by decide +kernel)
set_option maxRecDepth 20000 in
theorem ggX12_start_X12_within : GoodIn wsX12_start wsX12_within := goodIn_r _ [9] rfl (by decide +kernel)
set_option maxRecDepth 20000 in
theorem gX12_start_X11_forget : GoodIn wsX12_start (wsV RX12 93 RX11 yX11_forget wsX11_forget) := goodIn_app (goodIn_r _ [10, 11, 12, 13] rfl (by decide +kernel)) ggX12_start_X11_forget
set_option maxRecDepth 20000 in
theorem gX12_start_X12_within : GoodIn wsX12_start (va_wsS RX12 77 yX12_within wsX12_within) := goodIn_app (goodIn_of _ (by decide +kernel)) ggX12_start_X12_within
theorem hv_X11_forget : yX11_forget.cls = RX11 ∧ yX11_forget.cls ≠ "java/lang/invoke/MethodHandle" ∧ yX11_forget.cls ≠ "java/lang/invoke/VarHandle" ∧ (parseMethodDescriptor yX11_forget.desc).map (fun d => d.parameters.length) = some 0 := by decide +kernel
set_option maxRecDepth 20000 in
theorem in_X12_start_X12 : ∀ w ∈ wsX120, w ∈ wsX12_start := sub_r [16, 17, 18, 19, 20, 21, 22, 23, 24, 25, 26] rfl
set_option maxRecDepth 20000 in
theorem in_X12_start_X8 : ∀ w ∈ wsX80, w ∈ wsX12_start := sub_r [27, 28, 29, 30, 31, 32, 33] rfl
set_option maxHeartbeats 4000000 in
set_option maxRecDepth 100000 in
theorem c_X12_start (l : Launch) (D : va_G) (T : Nat → ClassId) (sz : Nat) (h0 : Nat) (h1 : Nat) (h2 : Nat) (fs0 : List Value) (l9 : Nat → Int32) (v0 : Value) (v1 : Value) (v2 : Value) (v3 : Value) (v4 : Value) (n : Int32) (x1 : Int32) (x2 : Int32) (x3 : Int32) (e0_3 : fs0[3]? = some (.ref h1)) (e0_6 : fs0[6]? = some (.ref h2)) : Met l yX12_start wsX12_start ({ frames := 1, cells := 0, slots := 0, locals := 22 }) (pW [.ref h0, .int x1, .int x2, .int x3] D T [(h0, .inr (9, fs0)), (h1, .inr (5, [.int (l9 0), .int (l9 1), .int (l9 2), .int (l9 3), .int (l9 4), .int (l9 5), .int (l9 6)])), (h2, .inr (8, [v0, v1, v2, v3, v4, .int n]))] sz) (va_Qi (fun (r : Int32) (u : Nat → Int32) => r = sp_start x1 x2 x3 ∧ ((r = 1 → u 0 = x1 ∧ u 1 = x2 ∧ u 2 = x3) ∧ (¬ r = 1 → u 0 = l9 0 ∧ u 1 = l9 1 ∧ u 2 = l9 2)) ∧ (u 3 = l9 3 ∧ u 4 = l9 4 ∧ u 5 = l9 5 ∧ u 6 = l9 6) ∧ agW (∀ j : Nat, j < 7 → u j = l9 j) n (u 7)) (bW D (va_A [(h0, .inr (9, fs0)), (h1, .inr (5, [.int (l9 0), .int (l9 1), .int (l9 2), .int (l9 3), .int (l9 4), .int (l9 5), .int (l9 6)])), (h2, .inr (8, [v0, v1, v2, v3, v4, .int n]))] sz) (fun (u : Nat → Int32) => [(h0, .inr (9, fs0)), (h1, .inr (5, [.int (u 0), .int (u 1), .int (u 2), .int (u 3), .int (u 4), .int (u 5), .int (u 6)])), (h2, .inr (8, [v0, v1, v2, v3, v4, .int (u 7)]))])) (va_A [(h0, .inr (9, fs0)), (h1, .inr (5, [.int (l9 0), .int (l9 1), .int (l9 2), .int (l9 3), .int (l9 4), .int (l9 5), .int (l9 6)])), (h2, .inr (8, [v0, v1, v2, v3, v4, .int n]))] sz)) 0 0 (va_A [(h0, .inr (9, fs0)), (h1, .inr (5, [.int (l9 0), .int (l9 1), .int (l9 2), .int (l9 3), .int (l9 4), .int (l9 5), .int (l9 6)])), (h2, .inr (8, [v0, v1, v2, v3, v4, .int n]))] sz) := by
  refine Met.ofW (cc := cX12_start) (maxL := 4) (ret := (some .int)) (by decide +kernel) rfl ?_
  intro p e s m args below meth c s₁ B hml hv
  obtain ⟨rfl, hsz, hP, hE, hD0⟩ := hv
  have hx := B.exec
  have hb := B.bytes
  have hr := B.returns
  have hts := atoms_spec (ws := wsX12_start) B.pre
  have hown : s.vm.findClass RX12 = some m.cls := findClass_of_methodNamed B.named
  have hlocks := B.notSynchronized
  subst hsz
  have hD := hD0.self (sz := s.heap.size)
  generalize hAe : va_A [(h0, .inr (9, fs0)), (h1, .inr (5, [.int (l9 0), .int (l9 1), .int (l9 2), .int (l9 3), .int (l9 4), .int (l9 5), .int (l9 6)])), (h2, .inr (8, [v0, v1, v2, v3, v4, .int n]))] s.heap.size = A at hD ⊢
  have hA : ∀ q : Nat, s.heap.size ≤ q → A q := fun q h => by rw [← hAe]; exact Or.inr h
  have hS : va_S A s.heap s.heap [] := va_S.rf
  have hP : va_P D vwCl [(h0, .inr (9, fs0)), (h1, .inr (5, [.int (l9 0), .int (l9 1), .int (l9 2), .int (l9 3), .int (l9 4), .int (l9 5), .int (l9 6)])), (h2, .inr (8, [v0, v1, v2, v3, v4, .int n]))] s.heap := hP
  have hl := lv_entry ([.ref h0, .int x1, .int x2, .int x3]) (n := 4) (Nat.le_of_ble_eq_true rfl)
  rw [lg_entry_eq]
  generalize (lg_sl ([.ref h0, .int x1, .int x2, .int x3]) ++ List.replicate (4 - (lg_sl ([.ref h0, .int x1, .int x2, .int x3])).length) Slot.unset).toArray = ls at hl ⊢
  have hl : lv_has ls 4 [(0, .ref h0), (1, .int x1), (2, .int x2), (3, .int x3)] := hl
  clear hD0
  refine lv_iload_n hx hb dX12_start_0 rfl (lv_at hl 1 rfl) ?_
  refine lv_bipush (v := (-99)) hx hb dX12_start_1 (by decide +kernel) ?_
  refine lv_bipush (v := 99) hx hb dX12_start_3 (by decide +kernel) ?_
  refine vp_callSi (W.runS (As := [.int x1, .int (-99), .int 99]) (rest := []) ⟨hx, hb, hml, hown, hts⟩ (c_X12_within l D T x1 (-99) 99 (-99) 99 (by decide +kernel) (by decide +kernel)) (va_cwS 3 hts gX12_start_X12_within rfl rfl rfl hs_X12_within ⟨Nat.le_of_ble_eq_true rfl, Nat.le_of_ble_eq_true rfl⟩) (pR_S hP hE [] rfl) rfl rfl hl.1 rfl (lv_room (Nat.le_of_ble_eq_true rfl)) dX12_start_5 ⟨Nat.le_of_ble_eq_true rfl, Nat.le_of_ble_eq_true rfl⟩) (fun r_1 hr_1 => ?_)
  rcases bool_post hr_1 with ⟨c_2, rfl⟩ | ⟨c_2, rfl⟩
  · refine lv_if_eq (tgt := 31) hx hb dX12_start_8 (by decide +kernel) (fun c9 => absurd c9 (by decide +kernel)) (fun _ => ?_)
    refine lv_iload_n hx hb dX12_start_11 rfl (lv_at hl 2 rfl) ?_
    refine lv_iconst (v := 0) hx hb dX12_start_12 (by decide +kernel) ?_
    refine lv_bipush (v := 9) hx hb dX12_start_13 (by decide +kernel) ?_
    refine vp_callSi (W.runS (As := [.int x2, .int 0, .int 9]) (rest := []) ⟨hx, hb, hml, hown, hts⟩ (c_X12_within l D T x2 0 9 0 9 (by decide +kernel) (by decide +kernel)) (va_cwS 3 hts gX12_start_X12_within rfl rfl rfl hs_X12_within ⟨Nat.le_of_ble_eq_true rfl, Nat.le_of_ble_eq_true rfl⟩) (pR_S hP hE [] rfl) rfl rfl hl.1 rfl (lv_room (Nat.le_of_ble_eq_true rfl)) dX12_start_15 ⟨Nat.le_of_ble_eq_true rfl, Nat.le_of_ble_eq_true rfl⟩) (fun r_3 hr_3 => ?_)
    rcases bool_post hr_3 with ⟨c_4, rfl⟩ | ⟨c_4, rfl⟩
    · refine lv_if_eq (tgt := 31) hx hb dX12_start_18 (by decide +kernel) (fun c9 => absurd c9 (by decide +kernel)) (fun _ => ?_)
      refine lv_iload_n hx hb dX12_start_21 rfl (lv_at hl 3 rfl) ?_
      refine lv_iconst (v := 0) hx hb dX12_start_22 (by decide +kernel) ?_
      refine lv_bipush (v := 9) hx hb dX12_start_23 (by decide +kernel) ?_
      refine vp_callSi (W.runS (As := [.int x3, .int 0, .int 9]) (rest := []) ⟨hx, hb, hml, hown, hts⟩ (c_X12_within l D T x3 0 9 0 9 (by decide +kernel) (by decide +kernel)) (va_cwS 3 hts gX12_start_X12_within rfl rfl rfl hs_X12_within ⟨Nat.le_of_ble_eq_true rfl, Nat.le_of_ble_eq_true rfl⟩) (pR_S hP hE [] rfl) rfl rfl hl.1 rfl (lv_room (Nat.le_of_ble_eq_true rfl)) dX12_start_25 ⟨Nat.le_of_ble_eq_true rfl, Nat.le_of_ble_eq_true rfl⟩) (fun r_5 hr_5 => ?_)
      rcases bool_post hr_5 with ⟨c_6, rfl⟩ | ⟨c_6, rfl⟩
      · refine lv_if_ne (tgt := 34) hx hb dX12_start_28 (by decide +kernel) (fun _ => ?_) (fun c9 => absurd c9 (by decide +kernel))
        refine lv_aload_n hx hb dX12_start_34 rfl (lv_at hl 0 rfl) ?_
        refine va_get (D := D) (ci := 9) (v := .ref h1) (C := RX12) (T := TX12) (N := 11) hx hb hts in_X12_start_X12 hown hE.1 hP 0 rfl rfl 3 (by decide +kernel) (hts (.fieldLink RX12 27 "ClauseBook" "lattice" "LClauseBook$Lattice;") (List.mem_of_getElem? (i := 1) rfl)) (fun _ h9 => h9) e0_3 dX12_start_35 ?_
        refine lv_iload_n hx hb dX12_start_38 rfl (lv_at hl 1 rfl) ?_
        refine va_put (D := D) (ci := 5) (v := .int x1) (ty := .int) (C := RX8) (T := TX8) (N := 7) hx hb hts in_X12_start_X8 tyX8 tyX8_ok nmX8 hown hE.1 hP hD hS 1 rfl rfl 0 (by decide +kernel) (hts (.fieldLink RX12 81 "ClauseBook$Lattice" "start" "I") (List.mem_of_getElem? (i := 2) rfl)) (fun _ h9 => h9) rfl (by decide +kernel) rfl rfl (Nat.le_of_ble_eq_true rfl) dX12_start_39 (fun H locs hP hD hS => ?_)
        obtain ⟨hP, hD⟩ := wPD [(h0, .inr (9, fs0)), (h1, .inr (5, [.int x1, .int (l9 1), .int (l9 2), .int (l9 3), .int (l9 4), .int (l9 5), .int (l9 6)])), (h2, .inr (8, [v0, v1, v2, v3, v4, .int n]))] hP hD rfl
        refine lv_aload_n hx hb dX12_start_42 rfl (lv_at hl 0 rfl) ?_
        refine va_get (D := D) (ci := 9) (v := .ref h1) (C := RX12) (T := TX12) (N := 11) hx hb hts in_X12_start_X12 hown hE.1 hP 0 rfl rfl 3 (by decide +kernel) (hts (.fieldLink RX12 27 "ClauseBook" "lattice" "LClauseBook$Lattice;") (List.mem_of_getElem? (i := 1) rfl)) (fun _ h9 => h9) e0_3 dX12_start_43 ?_
        refine lv_iload_n hx hb dX12_start_46 rfl (lv_at hl 2 rfl) ?_
        refine va_put (D := D) (ci := 5) (v := .int x2) (ty := .int) (C := RX8) (T := TX8) (N := 7) hx hb hts in_X12_start_X8 tyX8 tyX8_ok nmX8 hown hE.1 hP hD hS 1 rfl rfl 1 (by decide +kernel) (hts (.fieldLink RX12 87 "ClauseBook$Lattice" "up" "I") (List.mem_of_getElem? (i := 3) rfl)) (fun _ h9 => h9) rfl (by decide +kernel) rfl rfl (Nat.le_of_ble_eq_true rfl) dX12_start_47 (fun H locs hP hD hS => ?_)
        obtain ⟨hP, hD⟩ := wPD [(h0, .inr (9, fs0)), (h1, .inr (5, [.int x1, .int x2, .int (l9 2), .int (l9 3), .int (l9 4), .int (l9 5), .int (l9 6)])), (h2, .inr (8, [v0, v1, v2, v3, v4, .int n]))] hP hD rfl
        refine lv_aload_n hx hb dX12_start_50 rfl (lv_at hl 0 rfl) ?_
        refine va_get (D := D) (ci := 9) (v := .ref h1) (C := RX12) (T := TX12) (N := 11) hx hb hts in_X12_start_X12 hown hE.1 hP 0 rfl rfl 3 (by decide +kernel) (hts (.fieldLink RX12 27 "ClauseBook" "lattice" "LClauseBook$Lattice;") (List.mem_of_getElem? (i := 1) rfl)) (fun _ h9 => h9) e0_3 dX12_start_51 ?_
        refine lv_iload_n hx hb dX12_start_54 rfl (lv_at hl 3 rfl) ?_
        refine va_put (D := D) (ci := 5) (v := .int x3) (ty := .int) (C := RX8) (T := TX8) (N := 7) hx hb hts in_X12_start_X8 tyX8 tyX8_ok nmX8 hown hE.1 hP hD hS 1 rfl rfl 2 (by decide +kernel) (hts (.fieldLink RX12 90 "ClauseBook$Lattice" "down" "I") (List.mem_of_getElem? (i := 4) rfl)) (fun _ h9 => h9) rfl (by decide +kernel) rfl rfl (Nat.le_of_ble_eq_true rfl) dX12_start_55 (fun H locs hP hD hS => ?_)
        obtain ⟨hP, hD⟩ := wPD [(h0, .inr (9, fs0)), (h1, .inr (5, [.int x1, .int x2, .int x3, .int (l9 3), .int (l9 4), .int (l9 5), .int (l9 6)])), (h2, .inr (8, [v0, v1, v2, v3, v4, .int n]))] hP hD rfl
        refine lv_aload_n hx hb dX12_start_58 rfl (lv_at hl 0 rfl) ?_
        refine va_get (D := D) (ci := 9) (v := .ref h2) (C := RX12) (T := TX12) (N := 11) hx hb hts in_X12_start_X12 hown hE.1 hP 0 rfl rfl 6 (by decide +kernel) (hts (.fieldLink RX12 43 "ClauseBook" "worth" "LClauseBook$Worth;") (List.mem_of_getElem? (i := 5) rfl)) (fun _ h9 => h9) e0_6 dX12_start_59 ?_
        have hFc := va_free (wc := [(h2, .inr (8, [v0, v1, v2, v3, v4, .int n]))]) hD hS hA [2] rfl
        refine va_callv (va_runV (As := []) (rest := []) ⟨hx, hb, hml, hown, hts⟩ (c_X11_forget l D T _ h2 (v0) (v1) (v2) (v3) (v4) n) (cwV 0 hts gX12_start_X11_forget rfl rfl rfl hv_X11_forget ⟨Nat.le_of_ble_eq_true rfl, Nat.le_of_ble_eq_true rfl⟩) (pW_V (q := (RX11, TX11, 6)) (ci := 8) (q0 := 2) hP hE hD rfl rfl [2] (by decide +kernel) rfl rfl) rfl rfl hl.1 rfl (lv_room (Nat.le_of_ble_eq_true rfl)) dX12_start_62 ⟨Nat.le_of_ble_eq_true rfl, Nat.le_of_ble_eq_true rfl⟩) hS (fun q _ h => hFc q h) hFc (fun u_8 t H1 locs ht hvm hr_7 hB hz1 hk1 hS => ?_)
        have hag9 : u_8 = n + 1 := hr_7
        obtain ⟨hP1, hD1⟩ := hB
        rw [ht] at hP1
        obtain ⟨hP, hD⟩ := va_repl [(h0, .inr (9, fs0)), (h1, .inr (5, [.int x1, .int x2, .int x3, .int (l9 3), .int (l9 4), .int (l9 5), .int (l9 6)])), (h2, .inr (8, [v0, v1, v2, v3, v4, .int u_8]))] hP hD [2] [2] rfl (by decide +kernel) rfl rfl rfl hk1 hP1
        clear hP1 hD1 hFc
        generalize H1 = H at hP hS ⊢
        refine lv_iconst (v := 1) hx hb dX12_start_65 (by decide +kernel) ?_
        exact W.iret hx hb hr (fun t ht hW => ⟨⟨_, (fun k => [x1, x2, x3, (l9 3), (l9 4), (l9 5), (l9 6), u_8].getD k 0), rfl, ⟨(by first | decide | (unfold sp_start; (repeat' split) <;> first | rfl | (exfalso; omega))), ⟨(fun _ => ⟨rfl, rfl, rfl⟩), (fun h => absurd rfl h)⟩, ⟨rfl, rfl, rfl, rfl⟩, (Or.inr hag9)⟩, by rw [ht]; exact hP.sub [0, 1, 2] rfl, hD.sub [0, 1, 2] (by decide +kernel) rfl⟩, hS.F ht⟩) hS.2.2 dX12_start_66
      · refine lv_if_ne (tgt := 34) hx hb dX12_start_28 (by decide +kernel) (fun c9 => absurd c9 (by decide +kernel)) (fun _ => ?_)
        refine lv_bipush (v := (-2)) hx hb dX12_start_31 (by decide +kernel) ?_
        exact W.iret hx hb hr (fun t ht hW => ⟨⟨_, (fun k => [(l9 0), (l9 1), (l9 2), (l9 3), (l9 4), (l9 5), (l9 6), n].getD k 0), rfl, ⟨(by first | decide | (unfold sp_start; (repeat' split) <;> first | rfl | (exfalso; omega))), ⟨(fun h => absurd h (by decide +kernel)), (fun _ => ⟨rfl, rfl, rfl⟩)⟩, ⟨rfl, rfl, rfl, rfl⟩, (Or.inl ⟨all7 rfl rfl rfl rfl rfl rfl rfl, rfl⟩)⟩, by rw [ht]; exact hP.sub [0, 1, 2] rfl, hD.sub [0, 1, 2] (by decide +kernel) rfl⟩, hS.F ht⟩) hS.2.2 dX12_start_33
    · refine lv_if_eq (tgt := 31) hx hb dX12_start_18 (by decide +kernel) (fun _ => ?_) (fun c9 => absurd c9 (by decide +kernel))
      refine lv_bipush (v := (-2)) hx hb dX12_start_31 (by decide +kernel) ?_
      exact W.iret hx hb hr (fun t ht hW => ⟨⟨_, (fun k => [(l9 0), (l9 1), (l9 2), (l9 3), (l9 4), (l9 5), (l9 6), n].getD k 0), rfl, ⟨(by first | decide | (unfold sp_start; (repeat' split) <;> first | rfl | (exfalso; omega))), ⟨(fun h => absurd h (by decide +kernel)), (fun _ => ⟨rfl, rfl, rfl⟩)⟩, ⟨rfl, rfl, rfl, rfl⟩, (Or.inl ⟨all7 rfl rfl rfl rfl rfl rfl rfl, rfl⟩)⟩, by rw [ht]; exact hP.sub [0, 1, 2] rfl, hD.sub [0, 1, 2] (by decide +kernel) rfl⟩, hS.F ht⟩) hS.2.2 dX12_start_33
  · refine lv_if_eq (tgt := 31) hx hb dX12_start_8 (by decide +kernel) (fun _ => ?_) (fun c9 => absurd c9 (by decide +kernel))
    refine lv_bipush (v := (-2)) hx hb dX12_start_31 (by decide +kernel) ?_
    exact W.iret hx hb hr (fun t ht hW => ⟨⟨_, (fun k => [(l9 0), (l9 1), (l9 2), (l9 3), (l9 4), (l9 5), (l9 6), n].getD k 0), rfl, ⟨(by first | decide | (unfold sp_start; (repeat' split) <;> first | rfl | (exfalso; omega))), ⟨(fun h => absurd h (by decide +kernel)), (fun _ => ⟨rfl, rfl, rfl⟩)⟩, ⟨rfl, rfl, rfl, rfl⟩, (Or.inl ⟨all7 rfl rfl rfl rfl rfl rfl rfl, rfl⟩)⟩, by rw [ht]; exact hP.sub [0, 1, 2] rfl, hD.sub [0, 1, 2] (by decide +kernel) rfl⟩, hS.F ht⟩) hS.2.2 dX12_start_33
theorem dX12_odds_0 : decode cX12_odds 0 = .ok (.iload_n 2, 1) := by decide +kernel
theorem dX12_odds_1 : decode cX12_odds 1 = .ok (.iconst 2, 1) := by decide +kernel
theorem dX12_odds_10 : decode cX12_odds 10 = .ok (.iload_n 1, 1) := by decide +kernel
theorem dX12_odds_11 : decode cX12_odds 11 = .ok (.iconst 0, 1) := by decide +kernel
theorem dX12_odds_12 : decode cX12_odds 12 = .ok (.iload_n 2, 1) := by decide +kernel
theorem dX12_odds_13 : decode cX12_odds 13 = .ok (.invokestatic 77, 3) := by decide +kernel
theorem dX12_odds_16 : decode cX12_odds 16 = .ok (.ifCond .ne 6, 3) := by decide +kernel
theorem dX12_odds_19 : decode cX12_odds 19 = .ok (.bipush (-2), 2) := by decide +kernel
theorem dX12_odds_2 : decode cX12_odds 2 = .ok (.bipush 9, 2) := by decide +kernel
theorem dX12_odds_21 : decode cX12_odds 21 = .ok (.ireturn, 1) := by decide +kernel
theorem dX12_odds_22 : decode cX12_odds 22 = .ok (.aload_n 0, 1) := by decide +kernel
theorem dX12_odds_23 : decode cX12_odds 23 = .ok (.getfield 27, 3) := by decide +kernel
theorem dX12_odds_26 : decode cX12_odds 26 = .ok (.iload_n 1, 1) := by decide +kernel
theorem dX12_odds_27 : decode cX12_odds 27 = .ok (.putfield 96, 3) := by decide +kernel
theorem dX12_odds_30 : decode cX12_odds 30 = .ok (.aload_n 0, 1) := by decide +kernel
theorem dX12_odds_31 : decode cX12_odds 31 = .ok (.getfield 27, 3) := by decide +kernel
theorem dX12_odds_34 : decode cX12_odds 34 = .ok (.iload_n 2, 1) := by decide +kernel
theorem dX12_odds_35 : decode cX12_odds 35 = .ok (.putfield 99, 3) := by decide +kernel
theorem dX12_odds_38 : decode cX12_odds 38 = .ok (.aload_n 0, 1) := by decide +kernel
theorem dX12_odds_39 : decode cX12_odds 39 = .ok (.getfield 43, 3) := by decide +kernel
theorem dX12_odds_4 : decode cX12_odds 4 = .ok (.invokestatic 77, 3) := by decide +kernel
theorem dX12_odds_42 : decode cX12_odds 42 = .ok (.invokevirtual 93, 3) := by decide +kernel
theorem dX12_odds_45 : decode cX12_odds 45 = .ok (.iconst 1, 1) := by decide +kernel
theorem dX12_odds_46 : decode cX12_odds 46 = .ok (.ireturn, 1) := by decide +kernel
theorem dX12_odds_7 : decode cX12_odds 7 = .ok (.ifCond .eq 12, 3) := by decide +kernel
set_option maxRecDepth 20000 in
theorem ggX12_odds_X11_forget : GoodIn wsX12_odds wsX11_forget := goodIn_r _ [13, 14, 33, 34, 35, 36, 37, 38] rfl (by decide +kernel)
set_option maxRecDepth 20000 in
theorem ggX12_odds_X12_within : GoodIn wsX12_odds wsX12_within := goodIn_r _ [8] rfl (by decide +kernel)
set_option maxRecDepth 20000 in
theorem gX12_odds_X11_forget : GoodIn wsX12_odds (wsV RX12 93 RX11 yX11_forget wsX11_forget) := goodIn_app (goodIn_r _ [9, 10, 11, 12] rfl (by decide +kernel)) ggX12_odds_X11_forget
set_option maxRecDepth 20000 in
theorem gX12_odds_X12_within : GoodIn wsX12_odds (va_wsS RX12 77 yX12_within wsX12_within) := goodIn_app (goodIn_of _ (by decide +kernel)) ggX12_odds_X12_within
set_option maxRecDepth 20000 in
theorem in_X12_odds_X12 : ∀ w ∈ wsX120, w ∈ wsX12_odds := sub_r [15, 16, 17, 18, 19, 20, 21, 22, 23, 24, 25] rfl
set_option maxRecDepth 20000 in
theorem in_X12_odds_X8 : ∀ w ∈ wsX80, w ∈ wsX12_odds := sub_r [26, 27, 28, 29, 30, 31, 32] rfl
set_option maxHeartbeats 4000000 in
set_option maxRecDepth 100000 in
theorem c_X12_odds (l : Launch) (D : va_G) (T : Nat → ClassId) (sz : Nat) (h0 : Nat) (h1 : Nat) (h2 : Nat) (fs0 : List Value) (l9 : Nat → Int32) (v0 : Value) (v1 : Value) (v2 : Value) (v3 : Value) (v4 : Value) (n : Int32) (x1 : Int32) (x2 : Int32) (e0_3 : fs0[3]? = some (.ref h1)) (e0_6 : fs0[6]? = some (.ref h2)) : Met l yX12_odds wsX12_odds ({ frames := 1, cells := 0, slots := 0, locals := 22 }) (pW [.ref h0, .int x1, .int x2] D T [(h0, .inr (9, fs0)), (h1, .inr (5, [.int (l9 0), .int (l9 1), .int (l9 2), .int (l9 3), .int (l9 4), .int (l9 5), .int (l9 6)])), (h2, .inr (8, [v0, v1, v2, v3, v4, .int n]))] sz) (va_Qi (fun (r : Int32) (u : Nat → Int32) => r = sp_odds x1 x2 ∧ ((r = 1 → u 3 = x1 ∧ u 4 = x2) ∧ (¬ r = 1 → u 3 = l9 3 ∧ u 4 = l9 4)) ∧ (u 0 = l9 0 ∧ u 1 = l9 1 ∧ u 2 = l9 2 ∧ u 5 = l9 5 ∧ u 6 = l9 6) ∧ agW (∀ j : Nat, j < 7 → u j = l9 j) n (u 7)) (bW D (va_A [(h0, .inr (9, fs0)), (h1, .inr (5, [.int (l9 0), .int (l9 1), .int (l9 2), .int (l9 3), .int (l9 4), .int (l9 5), .int (l9 6)])), (h2, .inr (8, [v0, v1, v2, v3, v4, .int n]))] sz) (fun (u : Nat → Int32) => [(h0, .inr (9, fs0)), (h1, .inr (5, [.int (u 0), .int (u 1), .int (u 2), .int (u 3), .int (u 4), .int (u 5), .int (u 6)])), (h2, .inr (8, [v0, v1, v2, v3, v4, .int (u 7)]))])) (va_A [(h0, .inr (9, fs0)), (h1, .inr (5, [.int (l9 0), .int (l9 1), .int (l9 2), .int (l9 3), .int (l9 4), .int (l9 5), .int (l9 6)])), (h2, .inr (8, [v0, v1, v2, v3, v4, .int n]))] sz)) 0 0 (va_A [(h0, .inr (9, fs0)), (h1, .inr (5, [.int (l9 0), .int (l9 1), .int (l9 2), .int (l9 3), .int (l9 4), .int (l9 5), .int (l9 6)])), (h2, .inr (8, [v0, v1, v2, v3, v4, .int n]))] sz) := by
  refine Met.ofW (cc := cX12_odds) (maxL := 3) (ret := (some .int)) (by decide +kernel) rfl ?_
  intro p e s m args below meth c s₁ B hml hv
  obtain ⟨rfl, hsz, hP, hE, hD0⟩ := hv
  have hx := B.exec
  have hb := B.bytes
  have hr := B.returns
  have hts := atoms_spec (ws := wsX12_odds) B.pre
  have hown : s.vm.findClass RX12 = some m.cls := findClass_of_methodNamed B.named
  have hlocks := B.notSynchronized
  subst hsz
  have hD := hD0.self (sz := s.heap.size)
  generalize hAe : va_A [(h0, .inr (9, fs0)), (h1, .inr (5, [.int (l9 0), .int (l9 1), .int (l9 2), .int (l9 3), .int (l9 4), .int (l9 5), .int (l9 6)])), (h2, .inr (8, [v0, v1, v2, v3, v4, .int n]))] s.heap.size = A at hD ⊢
  have hA : ∀ q : Nat, s.heap.size ≤ q → A q := fun q h => by rw [← hAe]; exact Or.inr h
  have hS : va_S A s.heap s.heap [] := va_S.rf
  have hP : va_P D vwCl [(h0, .inr (9, fs0)), (h1, .inr (5, [.int (l9 0), .int (l9 1), .int (l9 2), .int (l9 3), .int (l9 4), .int (l9 5), .int (l9 6)])), (h2, .inr (8, [v0, v1, v2, v3, v4, .int n]))] s.heap := hP
  have hl := lv_entry ([.ref h0, .int x1, .int x2]) (n := 3) (Nat.le_of_ble_eq_true rfl)
  rw [lg_entry_eq]
  generalize (lg_sl ([.ref h0, .int x1, .int x2]) ++ List.replicate (3 - (lg_sl ([.ref h0, .int x1, .int x2])).length) Slot.unset).toArray = ls at hl ⊢
  have hl : lv_has ls 3 [(0, .ref h0), (1, .int x1), (2, .int x2)] := hl
  clear hD0
  refine lv_iload_n hx hb dX12_odds_0 rfl (lv_at hl 2 rfl) ?_
  refine lv_iconst (v := 2) hx hb dX12_odds_1 (by decide +kernel) ?_
  refine lv_bipush (v := 9) hx hb dX12_odds_2 (by decide +kernel) ?_
  refine vp_callSi (W.runS (As := [.int x2, .int 2, .int 9]) (rest := []) ⟨hx, hb, hml, hown, hts⟩ (c_X12_within l D T x2 2 9 2 9 (by decide +kernel) (by decide +kernel)) (va_cwS 3 hts gX12_odds_X12_within rfl rfl rfl hs_X12_within ⟨Nat.le_of_ble_eq_true rfl, Nat.le_of_ble_eq_true rfl⟩) (pR_S hP hE [] rfl) rfl rfl hl.1 rfl (lv_room (Nat.le_of_ble_eq_true rfl)) dX12_odds_4 ⟨Nat.le_of_ble_eq_true rfl, Nat.le_of_ble_eq_true rfl⟩) (fun r_1 hr_1 => ?_)
  rcases bool_post hr_1 with ⟨c_2, rfl⟩ | ⟨c_2, rfl⟩
  · refine lv_if_eq (tgt := 19) hx hb dX12_odds_7 (by decide +kernel) (fun c9 => absurd c9 (by decide +kernel)) (fun _ => ?_)
    refine lv_iload_n hx hb dX12_odds_10 rfl (lv_at hl 1 rfl) ?_
    refine lv_iconst (v := 0) hx hb dX12_odds_11 (by decide +kernel) ?_
    refine lv_iload_n hx hb dX12_odds_12 rfl (lv_at hl 2 rfl) ?_
    refine vp_callSi (W.runS (As := [.int x1, .int 0, .int x2]) (rest := []) ⟨hx, hb, hml, hown, hts⟩ (c_X12_within l D T x1 0 x2 0 x2.toInt (by decide +kernel) rfl) (va_cwS 3 hts gX12_odds_X12_within rfl rfl rfl hs_X12_within ⟨Nat.le_of_ble_eq_true rfl, Nat.le_of_ble_eq_true rfl⟩) (pR_S hP hE [] rfl) rfl rfl hl.1 rfl (lv_room (Nat.le_of_ble_eq_true rfl)) dX12_odds_13 ⟨Nat.le_of_ble_eq_true rfl, Nat.le_of_ble_eq_true rfl⟩) (fun r_3 hr_3 => ?_)
    rcases bool_post hr_3 with ⟨c_4, rfl⟩ | ⟨c_4, rfl⟩
    · refine lv_if_ne (tgt := 22) hx hb dX12_odds_16 (by decide +kernel) (fun _ => ?_) (fun c9 => absurd c9 (by decide +kernel))
      refine lv_aload_n hx hb dX12_odds_22 rfl (lv_at hl 0 rfl) ?_
      refine va_get (D := D) (ci := 9) (v := .ref h1) (C := RX12) (T := TX12) (N := 11) hx hb hts in_X12_odds_X12 hown hE.1 hP 0 rfl rfl 3 (by decide +kernel) (hts (.fieldLink RX12 27 "ClauseBook" "lattice" "LClauseBook$Lattice;") (List.mem_of_getElem? (i := 1) rfl)) (fun _ h9 => h9) e0_3 dX12_odds_23 ?_
      refine lv_iload_n hx hb dX12_odds_26 rfl (lv_at hl 1 rfl) ?_
      refine va_put (D := D) (ci := 5) (v := .int x1) (ty := .int) (C := RX8) (T := TX8) (N := 7) hx hb hts in_X12_odds_X8 tyX8 tyX8_ok nmX8 hown hE.1 hP hD hS 1 rfl rfl 3 (by decide +kernel) (hts (.fieldLink RX12 96 "ClauseBook$Lattice" "p" "I") (List.mem_of_getElem? (i := 2) rfl)) (fun _ h9 => h9) rfl (by decide +kernel) rfl rfl (Nat.le_of_ble_eq_true rfl) dX12_odds_27 (fun H locs hP hD hS => ?_)
      obtain ⟨hP, hD⟩ := wPD [(h0, .inr (9, fs0)), (h1, .inr (5, [.int (l9 0), .int (l9 1), .int (l9 2), .int x1, .int (l9 4), .int (l9 5), .int (l9 6)])), (h2, .inr (8, [v0, v1, v2, v3, v4, .int n]))] hP hD rfl
      refine lv_aload_n hx hb dX12_odds_30 rfl (lv_at hl 0 rfl) ?_
      refine va_get (D := D) (ci := 9) (v := .ref h1) (C := RX12) (T := TX12) (N := 11) hx hb hts in_X12_odds_X12 hown hE.1 hP 0 rfl rfl 3 (by decide +kernel) (hts (.fieldLink RX12 27 "ClauseBook" "lattice" "LClauseBook$Lattice;") (List.mem_of_getElem? (i := 1) rfl)) (fun _ h9 => h9) e0_3 dX12_odds_31 ?_
      refine lv_iload_n hx hb dX12_odds_34 rfl (lv_at hl 2 rfl) ?_
      refine va_put (D := D) (ci := 5) (v := .int x2) (ty := .int) (C := RX8) (T := TX8) (N := 7) hx hb hts in_X12_odds_X8 tyX8 tyX8_ok nmX8 hown hE.1 hP hD hS 1 rfl rfl 4 (by decide +kernel) (hts (.fieldLink RX12 99 "ClauseBook$Lattice" "q" "I") (List.mem_of_getElem? (i := 3) rfl)) (fun _ h9 => h9) rfl (by decide +kernel) rfl rfl (Nat.le_of_ble_eq_true rfl) dX12_odds_35 (fun H locs hP hD hS => ?_)
      obtain ⟨hP, hD⟩ := wPD [(h0, .inr (9, fs0)), (h1, .inr (5, [.int (l9 0), .int (l9 1), .int (l9 2), .int x1, .int x2, .int (l9 5), .int (l9 6)])), (h2, .inr (8, [v0, v1, v2, v3, v4, .int n]))] hP hD rfl
      refine lv_aload_n hx hb dX12_odds_38 rfl (lv_at hl 0 rfl) ?_
      refine va_get (D := D) (ci := 9) (v := .ref h2) (C := RX12) (T := TX12) (N := 11) hx hb hts in_X12_odds_X12 hown hE.1 hP 0 rfl rfl 6 (by decide +kernel) (hts (.fieldLink RX12 43 "ClauseBook" "worth" "LClauseBook$Worth;") (List.mem_of_getElem? (i := 4) rfl)) (fun _ h9 => h9) e0_6 dX12_odds_39 ?_
      have hFc := va_free (wc := [(h2, .inr (8, [v0, v1, v2, v3, v4, .int n]))]) hD hS hA [2] rfl
      refine va_callv (va_runV (As := []) (rest := []) ⟨hx, hb, hml, hown, hts⟩ (c_X11_forget l D T _ h2 (v0) (v1) (v2) (v3) (v4) n) (cwV 0 hts gX12_odds_X11_forget rfl rfl rfl hv_X11_forget ⟨Nat.le_of_ble_eq_true rfl, Nat.le_of_ble_eq_true rfl⟩) (pW_V (q := (RX11, TX11, 6)) (ci := 8) (q0 := 2) hP hE hD rfl rfl [2] (by decide +kernel) rfl rfl) rfl rfl hl.1 rfl (lv_room (Nat.le_of_ble_eq_true rfl)) dX12_odds_42 ⟨Nat.le_of_ble_eq_true rfl, Nat.le_of_ble_eq_true rfl⟩) hS (fun q _ h => hFc q h) hFc (fun u_6 t H1 locs ht hvm hr_5 hB hz1 hk1 hS => ?_)
      have hag9 : u_6 = n + 1 := hr_5
      obtain ⟨hP1, hD1⟩ := hB
      rw [ht] at hP1
      obtain ⟨hP, hD⟩ := va_repl [(h0, .inr (9, fs0)), (h1, .inr (5, [.int (l9 0), .int (l9 1), .int (l9 2), .int x1, .int x2, .int (l9 5), .int (l9 6)])), (h2, .inr (8, [v0, v1, v2, v3, v4, .int u_6]))] hP hD [2] [2] rfl (by decide +kernel) rfl rfl rfl hk1 hP1
      clear hP1 hD1 hFc
      generalize H1 = H at hP hS ⊢
      refine lv_iconst (v := 1) hx hb dX12_odds_45 (by decide +kernel) ?_
      exact W.iret hx hb hr (fun t ht hW => ⟨⟨_, (fun k => [(l9 0), (l9 1), (l9 2), x1, x2, (l9 5), (l9 6), u_6].getD k 0), rfl, ⟨(by first | decide | (unfold sp_odds; (repeat' split) <;> first | rfl | (exfalso; omega))), ⟨(fun _ => ⟨rfl, rfl⟩), (fun h => absurd rfl h)⟩, ⟨rfl, rfl, rfl, rfl, rfl⟩, (Or.inr hag9)⟩, by rw [ht]; exact hP.sub [0, 1, 2] rfl, hD.sub [0, 1, 2] (by decide +kernel) rfl⟩, hS.F ht⟩) hS.2.2 dX12_odds_46
    · refine lv_if_ne (tgt := 22) hx hb dX12_odds_16 (by decide +kernel) (fun c9 => absurd c9 (by decide +kernel)) (fun _ => ?_)
      refine lv_bipush (v := (-2)) hx hb dX12_odds_19 (by decide +kernel) ?_
      exact W.iret hx hb hr (fun t ht hW => ⟨⟨_, (fun k => [(l9 0), (l9 1), (l9 2), (l9 3), (l9 4), (l9 5), (l9 6), n].getD k 0), rfl, ⟨(by first | decide | (unfold sp_odds; (repeat' split) <;> first | rfl | (exfalso; omega))), ⟨(fun h => absurd h (by decide +kernel)), (fun _ => ⟨rfl, rfl⟩)⟩, ⟨rfl, rfl, rfl, rfl, rfl⟩, (Or.inl ⟨all7 rfl rfl rfl rfl rfl rfl rfl, rfl⟩)⟩, by rw [ht]; exact hP.sub [0, 1, 2] rfl, hD.sub [0, 1, 2] (by decide +kernel) rfl⟩, hS.F ht⟩) hS.2.2 dX12_odds_21
  · refine lv_if_eq (tgt := 19) hx hb dX12_odds_7 (by decide +kernel) (fun _ => ?_) (fun c9 => absurd c9 (by decide +kernel))
    refine lv_bipush (v := (-2)) hx hb dX12_odds_19 (by decide +kernel) ?_
    exact W.iret hx hb hr (fun t ht hW => ⟨⟨_, (fun k => [(l9 0), (l9 1), (l9 2), (l9 3), (l9 4), (l9 5), (l9 6), n].getD k 0), rfl, ⟨(by first | decide | (unfold sp_odds; (repeat' split) <;> first | rfl | (exfalso; omega))), ⟨(fun h => absurd h (by decide +kernel)), (fun _ => ⟨rfl, rfl⟩)⟩, ⟨rfl, rfl, rfl, rfl, rfl⟩, (Or.inl ⟨all7 rfl rfl rfl rfl rfl rfl rfl, rfl⟩)⟩, by rw [ht]; exact hP.sub [0, 1, 2] rfl, hD.sub [0, 1, 2] (by decide +kernel) rfl⟩, hS.F ht⟩) hS.2.2 dX12_odds_21
theorem dX12_wait_0 : decode cX12_wait 0 = .ok (.iload_n 2, 1) := by decide +kernel
theorem dX12_wait_1 : decode cX12_wait 1 = .ok (.iconst 1, 1) := by decide +kernel
theorem dX12_wait_10 : decode cX12_wait 10 = .ok (.iload_n 1, 1) := by decide +kernel
theorem dX12_wait_11 : decode cX12_wait 11 = .ok (.iconst 1, 1) := by decide +kernel
theorem dX12_wait_12 : decode cX12_wait 12 = .ok (.iload_n 2, 1) := by decide +kernel
theorem dX12_wait_13 : decode cX12_wait 13 = .ok (.invokestatic 77, 3) := by decide +kernel
theorem dX12_wait_16 : decode cX12_wait 16 = .ok (.ifCond .ne 6, 3) := by decide +kernel
theorem dX12_wait_19 : decode cX12_wait 19 = .ok (.bipush (-2), 2) := by decide +kernel
theorem dX12_wait_2 : decode cX12_wait 2 = .ok (.bipush 9, 2) := by decide +kernel
theorem dX12_wait_21 : decode cX12_wait 21 = .ok (.ireturn, 1) := by decide +kernel
theorem dX12_wait_22 : decode cX12_wait 22 = .ok (.aload_n 0, 1) := by decide +kernel
theorem dX12_wait_23 : decode cX12_wait 23 = .ok (.getfield 27, 3) := by decide +kernel
theorem dX12_wait_26 : decode cX12_wait 26 = .ok (.iload_n 1, 1) := by decide +kernel
theorem dX12_wait_27 : decode cX12_wait 27 = .ok (.putfield 102, 3) := by decide +kernel
theorem dX12_wait_30 : decode cX12_wait 30 = .ok (.aload_n 0, 1) := by decide +kernel
theorem dX12_wait_31 : decode cX12_wait 31 = .ok (.getfield 27, 3) := by decide +kernel
theorem dX12_wait_34 : decode cX12_wait 34 = .ok (.iload_n 2, 1) := by decide +kernel
theorem dX12_wait_35 : decode cX12_wait 35 = .ok (.putfield 105, 3) := by decide +kernel
theorem dX12_wait_38 : decode cX12_wait 38 = .ok (.aload_n 0, 1) := by decide +kernel
theorem dX12_wait_39 : decode cX12_wait 39 = .ok (.getfield 43, 3) := by decide +kernel
theorem dX12_wait_4 : decode cX12_wait 4 = .ok (.invokestatic 77, 3) := by decide +kernel
theorem dX12_wait_42 : decode cX12_wait 42 = .ok (.invokevirtual 93, 3) := by decide +kernel
theorem dX12_wait_45 : decode cX12_wait 45 = .ok (.iconst 1, 1) := by decide +kernel
theorem dX12_wait_46 : decode cX12_wait 46 = .ok (.ireturn, 1) := by decide +kernel
theorem dX12_wait_7 : decode cX12_wait 7 = .ok (.ifCond .eq 12, 3) := by decide +kernel
set_option maxRecDepth 20000 in
theorem ggX12_wait_X11_forget : GoodIn wsX12_wait wsX11_forget := goodIn_r _ [13, 14, 33, 34, 35, 36, 37, 38] rfl (by decide +kernel)
set_option maxRecDepth 20000 in
theorem ggX12_wait_X12_within : GoodIn wsX12_wait wsX12_within := goodIn_r _ [8] rfl (by decide +kernel)
set_option maxRecDepth 20000 in
theorem gX12_wait_X11_forget : GoodIn wsX12_wait (wsV RX12 93 RX11 yX11_forget wsX11_forget) := goodIn_app (goodIn_r _ [9, 10, 11, 12] rfl (by decide +kernel)) ggX12_wait_X11_forget
set_option maxRecDepth 20000 in
theorem gX12_wait_X12_within : GoodIn wsX12_wait (va_wsS RX12 77 yX12_within wsX12_within) := goodIn_app (goodIn_of _ (by decide +kernel)) ggX12_wait_X12_within
set_option maxRecDepth 20000 in
theorem in_X12_wait_X12 : ∀ w ∈ wsX120, w ∈ wsX12_wait := sub_r [15, 16, 17, 18, 19, 20, 21, 22, 23, 24, 25] rfl
set_option maxRecDepth 20000 in
theorem in_X12_wait_X8 : ∀ w ∈ wsX80, w ∈ wsX12_wait := sub_r [26, 27, 28, 29, 30, 31, 32] rfl
set_option maxHeartbeats 4000000 in
set_option maxRecDepth 100000 in
theorem c_X12_wait (l : Launch) (D : va_G) (T : Nat → ClassId) (sz : Nat) (h0 : Nat) (h1 : Nat) (h2 : Nat) (fs0 : List Value) (l9 : Nat → Int32) (v0 : Value) (v1 : Value) (v2 : Value) (v3 : Value) (v4 : Value) (n : Int32) (x1 : Int32) (x2 : Int32) (e0_3 : fs0[3]? = some (.ref h1)) (e0_6 : fs0[6]? = some (.ref h2)) : Met l yX12_wait wsX12_wait ({ frames := 1, cells := 0, slots := 0, locals := 22 }) (pW [.ref h0, .int x1, .int x2] D T [(h0, .inr (9, fs0)), (h1, .inr (5, [.int (l9 0), .int (l9 1), .int (l9 2), .int (l9 3), .int (l9 4), .int (l9 5), .int (l9 6)])), (h2, .inr (8, [v0, v1, v2, v3, v4, .int n]))] sz) (va_Qi (fun (r : Int32) (u : Nat → Int32) => r = sp_wait x1 x2 ∧ ((r = 1 → u 5 = x1 ∧ u 6 = x2) ∧ (¬ r = 1 → u 5 = l9 5 ∧ u 6 = l9 6)) ∧ (u 0 = l9 0 ∧ u 1 = l9 1 ∧ u 2 = l9 2 ∧ u 3 = l9 3 ∧ u 4 = l9 4) ∧ agW (∀ j : Nat, j < 7 → u j = l9 j) n (u 7)) (bW D (va_A [(h0, .inr (9, fs0)), (h1, .inr (5, [.int (l9 0), .int (l9 1), .int (l9 2), .int (l9 3), .int (l9 4), .int (l9 5), .int (l9 6)])), (h2, .inr (8, [v0, v1, v2, v3, v4, .int n]))] sz) (fun (u : Nat → Int32) => [(h0, .inr (9, fs0)), (h1, .inr (5, [.int (u 0), .int (u 1), .int (u 2), .int (u 3), .int (u 4), .int (u 5), .int (u 6)])), (h2, .inr (8, [v0, v1, v2, v3, v4, .int (u 7)]))])) (va_A [(h0, .inr (9, fs0)), (h1, .inr (5, [.int (l9 0), .int (l9 1), .int (l9 2), .int (l9 3), .int (l9 4), .int (l9 5), .int (l9 6)])), (h2, .inr (8, [v0, v1, v2, v3, v4, .int n]))] sz)) 0 0 (va_A [(h0, .inr (9, fs0)), (h1, .inr (5, [.int (l9 0), .int (l9 1), .int (l9 2), .int (l9 3), .int (l9 4), .int (l9 5), .int (l9 6)])), (h2, .inr (8, [v0, v1, v2, v3, v4, .int n]))] sz) := by
  refine Met.ofW (cc := cX12_wait) (maxL := 3) (ret := (some .int)) (by decide +kernel) rfl ?_
  intro p e s m args below meth c s₁ B hml hv
  obtain ⟨rfl, hsz, hP, hE, hD0⟩ := hv
  have hx := B.exec
  have hb := B.bytes
  have hr := B.returns
  have hts := atoms_spec (ws := wsX12_wait) B.pre
  have hown : s.vm.findClass RX12 = some m.cls := findClass_of_methodNamed B.named
  have hlocks := B.notSynchronized
  subst hsz
  have hD := hD0.self (sz := s.heap.size)
  generalize hAe : va_A [(h0, .inr (9, fs0)), (h1, .inr (5, [.int (l9 0), .int (l9 1), .int (l9 2), .int (l9 3), .int (l9 4), .int (l9 5), .int (l9 6)])), (h2, .inr (8, [v0, v1, v2, v3, v4, .int n]))] s.heap.size = A at hD ⊢
  have hA : ∀ q : Nat, s.heap.size ≤ q → A q := fun q h => by rw [← hAe]; exact Or.inr h
  have hS : va_S A s.heap s.heap [] := va_S.rf
  have hP : va_P D vwCl [(h0, .inr (9, fs0)), (h1, .inr (5, [.int (l9 0), .int (l9 1), .int (l9 2), .int (l9 3), .int (l9 4), .int (l9 5), .int (l9 6)])), (h2, .inr (8, [v0, v1, v2, v3, v4, .int n]))] s.heap := hP
  have hl := lv_entry ([.ref h0, .int x1, .int x2]) (n := 3) (Nat.le_of_ble_eq_true rfl)
  rw [lg_entry_eq]
  generalize (lg_sl ([.ref h0, .int x1, .int x2]) ++ List.replicate (3 - (lg_sl ([.ref h0, .int x1, .int x2])).length) Slot.unset).toArray = ls at hl ⊢
  have hl : lv_has ls 3 [(0, .ref h0), (1, .int x1), (2, .int x2)] := hl
  clear hD0
  refine lv_iload_n hx hb dX12_wait_0 rfl (lv_at hl 2 rfl) ?_
  refine lv_iconst (v := 1) hx hb dX12_wait_1 (by decide +kernel) ?_
  refine lv_bipush (v := 9) hx hb dX12_wait_2 (by decide +kernel) ?_
  refine vp_callSi (W.runS (As := [.int x2, .int 1, .int 9]) (rest := []) ⟨hx, hb, hml, hown, hts⟩ (c_X12_within l D T x2 1 9 1 9 (by decide +kernel) (by decide +kernel)) (va_cwS 3 hts gX12_wait_X12_within rfl rfl rfl hs_X12_within ⟨Nat.le_of_ble_eq_true rfl, Nat.le_of_ble_eq_true rfl⟩) (pR_S hP hE [] rfl) rfl rfl hl.1 rfl (lv_room (Nat.le_of_ble_eq_true rfl)) dX12_wait_4 ⟨Nat.le_of_ble_eq_true rfl, Nat.le_of_ble_eq_true rfl⟩) (fun r_1 hr_1 => ?_)
  rcases bool_post hr_1 with ⟨c_2, rfl⟩ | ⟨c_2, rfl⟩
  · refine lv_if_eq (tgt := 19) hx hb dX12_wait_7 (by decide +kernel) (fun c9 => absurd c9 (by decide +kernel)) (fun _ => ?_)
    refine lv_iload_n hx hb dX12_wait_10 rfl (lv_at hl 1 rfl) ?_
    refine lv_iconst (v := 1) hx hb dX12_wait_11 (by decide +kernel) ?_
    refine lv_iload_n hx hb dX12_wait_12 rfl (lv_at hl 2 rfl) ?_
    refine vp_callSi (W.runS (As := [.int x1, .int 1, .int x2]) (rest := []) ⟨hx, hb, hml, hown, hts⟩ (c_X12_within l D T x1 1 x2 1 x2.toInt (by decide +kernel) rfl) (va_cwS 3 hts gX12_wait_X12_within rfl rfl rfl hs_X12_within ⟨Nat.le_of_ble_eq_true rfl, Nat.le_of_ble_eq_true rfl⟩) (pR_S hP hE [] rfl) rfl rfl hl.1 rfl (lv_room (Nat.le_of_ble_eq_true rfl)) dX12_wait_13 ⟨Nat.le_of_ble_eq_true rfl, Nat.le_of_ble_eq_true rfl⟩) (fun r_3 hr_3 => ?_)
    rcases bool_post hr_3 with ⟨c_4, rfl⟩ | ⟨c_4, rfl⟩
    · refine lv_if_ne (tgt := 22) hx hb dX12_wait_16 (by decide +kernel) (fun _ => ?_) (fun c9 => absurd c9 (by decide +kernel))
      refine lv_aload_n hx hb dX12_wait_22 rfl (lv_at hl 0 rfl) ?_
      refine va_get (D := D) (ci := 9) (v := .ref h1) (C := RX12) (T := TX12) (N := 11) hx hb hts in_X12_wait_X12 hown hE.1 hP 0 rfl rfl 3 (by decide +kernel) (hts (.fieldLink RX12 27 "ClauseBook" "lattice" "LClauseBook$Lattice;") (List.mem_of_getElem? (i := 1) rfl)) (fun _ h9 => h9) e0_3 dX12_wait_23 ?_
      refine lv_iload_n hx hb dX12_wait_26 rfl (lv_at hl 1 rfl) ?_
      refine va_put (D := D) (ci := 5) (v := .int x1) (ty := .int) (C := RX8) (T := TX8) (N := 7) hx hb hts in_X12_wait_X8 tyX8 tyX8_ok nmX8 hown hE.1 hP hD hS 1 rfl rfl 5 (by decide +kernel) (hts (.fieldLink RX12 102 "ClauseBook$Lattice" "a" "I") (List.mem_of_getElem? (i := 2) rfl)) (fun _ h9 => h9) rfl (by decide +kernel) rfl rfl (Nat.le_of_ble_eq_true rfl) dX12_wait_27 (fun H locs hP hD hS => ?_)
      obtain ⟨hP, hD⟩ := wPD [(h0, .inr (9, fs0)), (h1, .inr (5, [.int (l9 0), .int (l9 1), .int (l9 2), .int (l9 3), .int (l9 4), .int x1, .int (l9 6)])), (h2, .inr (8, [v0, v1, v2, v3, v4, .int n]))] hP hD rfl
      refine lv_aload_n hx hb dX12_wait_30 rfl (lv_at hl 0 rfl) ?_
      refine va_get (D := D) (ci := 9) (v := .ref h1) (C := RX12) (T := TX12) (N := 11) hx hb hts in_X12_wait_X12 hown hE.1 hP 0 rfl rfl 3 (by decide +kernel) (hts (.fieldLink RX12 27 "ClauseBook" "lattice" "LClauseBook$Lattice;") (List.mem_of_getElem? (i := 1) rfl)) (fun _ h9 => h9) e0_3 dX12_wait_31 ?_
      refine lv_iload_n hx hb dX12_wait_34 rfl (lv_at hl 2 rfl) ?_
      refine va_put (D := D) (ci := 5) (v := .int x2) (ty := .int) (C := RX8) (T := TX8) (N := 7) hx hb hts in_X12_wait_X8 tyX8 tyX8_ok nmX8 hown hE.1 hP hD hS 1 rfl rfl 6 (by decide +kernel) (hts (.fieldLink RX12 105 "ClauseBook$Lattice" "b" "I") (List.mem_of_getElem? (i := 3) rfl)) (fun _ h9 => h9) rfl (by decide +kernel) rfl rfl (Nat.le_of_ble_eq_true rfl) dX12_wait_35 (fun H locs hP hD hS => ?_)
      obtain ⟨hP, hD⟩ := wPD [(h0, .inr (9, fs0)), (h1, .inr (5, [.int (l9 0), .int (l9 1), .int (l9 2), .int (l9 3), .int (l9 4), .int x1, .int x2])), (h2, .inr (8, [v0, v1, v2, v3, v4, .int n]))] hP hD rfl
      refine lv_aload_n hx hb dX12_wait_38 rfl (lv_at hl 0 rfl) ?_
      refine va_get (D := D) (ci := 9) (v := .ref h2) (C := RX12) (T := TX12) (N := 11) hx hb hts in_X12_wait_X12 hown hE.1 hP 0 rfl rfl 6 (by decide +kernel) (hts (.fieldLink RX12 43 "ClauseBook" "worth" "LClauseBook$Worth;") (List.mem_of_getElem? (i := 4) rfl)) (fun _ h9 => h9) e0_6 dX12_wait_39 ?_
      have hFc := va_free (wc := [(h2, .inr (8, [v0, v1, v2, v3, v4, .int n]))]) hD hS hA [2] rfl
      refine va_callv (va_runV (As := []) (rest := []) ⟨hx, hb, hml, hown, hts⟩ (c_X11_forget l D T _ h2 (v0) (v1) (v2) (v3) (v4) n) (cwV 0 hts gX12_wait_X11_forget rfl rfl rfl hv_X11_forget ⟨Nat.le_of_ble_eq_true rfl, Nat.le_of_ble_eq_true rfl⟩) (pW_V (q := (RX11, TX11, 6)) (ci := 8) (q0 := 2) hP hE hD rfl rfl [2] (by decide +kernel) rfl rfl) rfl rfl hl.1 rfl (lv_room (Nat.le_of_ble_eq_true rfl)) dX12_wait_42 ⟨Nat.le_of_ble_eq_true rfl, Nat.le_of_ble_eq_true rfl⟩) hS (fun q _ h => hFc q h) hFc (fun u_6 t H1 locs ht hvm hr_5 hB hz1 hk1 hS => ?_)
      have hag9 : u_6 = n + 1 := hr_5
      obtain ⟨hP1, hD1⟩ := hB
      rw [ht] at hP1
      obtain ⟨hP, hD⟩ := va_repl [(h0, .inr (9, fs0)), (h1, .inr (5, [.int (l9 0), .int (l9 1), .int (l9 2), .int (l9 3), .int (l9 4), .int x1, .int x2])), (h2, .inr (8, [v0, v1, v2, v3, v4, .int u_6]))] hP hD [2] [2] rfl (by decide +kernel) rfl rfl rfl hk1 hP1
      clear hP1 hD1 hFc
      generalize H1 = H at hP hS ⊢
      refine lv_iconst (v := 1) hx hb dX12_wait_45 (by decide +kernel) ?_
      exact W.iret hx hb hr (fun t ht hW => ⟨⟨_, (fun k => [(l9 0), (l9 1), (l9 2), (l9 3), (l9 4), x1, x2, u_6].getD k 0), rfl, ⟨(by first | decide | (unfold sp_wait; (repeat' split) <;> first | rfl | (exfalso; omega))), ⟨(fun _ => ⟨rfl, rfl⟩), (fun h => absurd rfl h)⟩, ⟨rfl, rfl, rfl, rfl, rfl⟩, (Or.inr hag9)⟩, by rw [ht]; exact hP.sub [0, 1, 2] rfl, hD.sub [0, 1, 2] (by decide +kernel) rfl⟩, hS.F ht⟩) hS.2.2 dX12_wait_46
    · refine lv_if_ne (tgt := 22) hx hb dX12_wait_16 (by decide +kernel) (fun c9 => absurd c9 (by decide +kernel)) (fun _ => ?_)
      refine lv_bipush (v := (-2)) hx hb dX12_wait_19 (by decide +kernel) ?_
      exact W.iret hx hb hr (fun t ht hW => ⟨⟨_, (fun k => [(l9 0), (l9 1), (l9 2), (l9 3), (l9 4), (l9 5), (l9 6), n].getD k 0), rfl, ⟨(by first | decide | (unfold sp_wait; (repeat' split) <;> first | rfl | (exfalso; omega))), ⟨(fun h => absurd h (by decide +kernel)), (fun _ => ⟨rfl, rfl⟩)⟩, ⟨rfl, rfl, rfl, rfl, rfl⟩, (Or.inl ⟨all7 rfl rfl rfl rfl rfl rfl rfl, rfl⟩)⟩, by rw [ht]; exact hP.sub [0, 1, 2] rfl, hD.sub [0, 1, 2] (by decide +kernel) rfl⟩, hS.F ht⟩) hS.2.2 dX12_wait_21
  · refine lv_if_eq (tgt := 19) hx hb dX12_wait_7 (by decide +kernel) (fun _ => ?_) (fun c9 => absurd c9 (by decide +kernel))
    refine lv_bipush (v := (-2)) hx hb dX12_wait_19 (by decide +kernel) ?_
    exact W.iret hx hb hr (fun t ht hW => ⟨⟨_, (fun k => [(l9 0), (l9 1), (l9 2), (l9 3), (l9 4), (l9 5), (l9 6), n].getD k 0), rfl, ⟨(by first | decide | (unfold sp_wait; (repeat' split) <;> first | rfl | (exfalso; omega))), ⟨(fun h => absurd h (by decide +kernel)), (fun _ => ⟨rfl, rfl⟩)⟩, ⟨rfl, rfl, rfl, rfl, rfl⟩, (Or.inl ⟨all7 rfl rfl rfl rfl rfl rfl rfl, rfl⟩)⟩, by rw [ht]; exact hP.sub [0, 1, 2] rfl, hD.sub [0, 1, 2] (by decide +kernel) rfl⟩, hS.F ht⟩) hS.2.2 dX12_wait_21
end
section
/-- drop() -/
def dropC (n0 r u0 : Int32) : Prop := (n0.toInt ≤ 0 ∧ r.toInt = -3 ∧ u0 = n0) ∨ (0 < n0.toInt ∧ r = u0 ∧ u0.toInt = n0.toInt - 1)
theorem dX12_drop_0 : decode cX12_drop 0 = .ok (.aload_n 0, 1) := by decide +kernel
theorem dX12_drop_1 : decode cX12_drop 1 = .ok (.getfield 32, 3) := by decide +kernel
theorem dX12_drop_10 : decode cX12_drop 10 = .ok (.bipush (-3), 2) := by decide +kernel
theorem dX12_drop_12 : decode cX12_drop 12 = .ok (.ireturn, 1) := by decide +kernel
theorem dX12_drop_13 : decode cX12_drop 13 = .ok (.aload_n 0, 1) := by decide +kernel
theorem dX12_drop_14 : decode cX12_drop 14 = .ok (.getfield 32, 3) := by decide +kernel
theorem dX12_drop_17 : decode cX12_drop 17 = .ok (.dup, 1) := by decide +kernel
theorem dX12_drop_18 : decode cX12_drop 18 = .ok (.getfield 138, 3) := by decide +kernel
theorem dX12_drop_21 : decode cX12_drop 21 = .ok (.iconst 1, 1) := by decide +kernel
theorem dX12_drop_22 : decode cX12_drop 22 = .ok (.isub, 1) := by decide +kernel
theorem dX12_drop_23 : decode cX12_drop 23 = .ok (.putfield 138, 3) := by decide +kernel
theorem dX12_drop_26 : decode cX12_drop 26 = .ok (.aload_n 0, 1) := by decide +kernel
theorem dX12_drop_27 : decode cX12_drop 27 = .ok (.getfield 43, 3) := by decide +kernel
theorem dX12_drop_30 : decode cX12_drop 30 = .ok (.invokevirtual 93, 3) := by decide +kernel
theorem dX12_drop_33 : decode cX12_drop 33 = .ok (.aload_n 0, 1) := by decide +kernel
theorem dX12_drop_34 : decode cX12_drop 34 = .ok (.getfield 32, 3) := by decide +kernel
theorem dX12_drop_37 : decode cX12_drop 37 = .ok (.getfield 138, 3) := by decide +kernel
theorem dX12_drop_4 : decode cX12_drop 4 = .ok (.getfield 138, 3) := by decide +kernel
theorem dX12_drop_40 : decode cX12_drop 40 = .ok (.ireturn, 1) := by decide +kernel
theorem dX12_drop_7 : decode cX12_drop 7 = .ok (.ifCond .gt 6, 3) := by decide +kernel
set_option maxRecDepth 20000 in
theorem ggX12_drop_X11_forget : GoodIn wsX12_drop wsX11_forget := goodIn_r _ [8, 9, 29, 30, 31, 32, 33, 34] rfl (by decide +kernel)
set_option maxRecDepth 20000 in
theorem gX12_drop_X11_forget : GoodIn wsX12_drop (wsV RX12 93 RX11 yX11_forget wsX11_forget) := goodIn_app (goodIn_r _ [4, 5, 6, 7] rfl (by decide +kernel)) ggX12_drop_X11_forget
set_option maxRecDepth 20000 in
theorem in_X12_drop_X12 : ∀ w ∈ wsX120, w ∈ wsX12_drop := sub_r [10, 11, 12, 13, 14, 15, 16, 17, 18, 19, 20] rfl
set_option maxRecDepth 20000 in
theorem in_X12_drop_X2 : ∀ w ∈ wsX20, w ∈ wsX12_drop := sub_r [21, 22, 23, 24, 25, 26, 27, 28] rfl
set_option maxHeartbeats 4000000 in
set_option maxRecDepth 100000 in
theorem c_X12_drop (l : Launch) (D : va_G) (T : Nat → ClassId) (sz : Nat) (h0 : Nat) (h1 : Nat) (h2 : Nat) (fs0 : List Value) (n9 : Int32) (c1 : Value) (c2 : Value) (c3 : Value) (c4 : Value) (c5 : Value) (c6 : Value) (c7 : Value) (v0 : Value) (v1 : Value) (v2 : Value) (v3 : Value) (v4 : Value) (n : Int32) (e0_4 : fs0[4]? = some (.ref h1)) (e0_6 : fs0[6]? = some (.ref h2)) (hn : 0 ≤ n9.toInt ∧ n9.toInt ≤ 24) : Met l yX12_drop wsX12_drop ({ frames := 1, cells := 0, slots := 0, locals := 20 }) (pW [.ref h0] D T [(h0, .inr (9, fs0)), (h1, .inr (1, [.int n9, c1, c2, c3, c4, c5, c6, c7])), (h2, .inr (8, [v0, v1, v2, v3, v4, .int n]))] sz) (va_Qi (fun (r : Int32) (u : Nat → Int32) => (0 ≤ (u 0).toInt ∧ (u 0).toInt ≤ 24) ∧ dropC n9 r (u 0) ∧ agW ((u 0) = n9) n (u 1)) (bW D (va_A [(h0, .inr (9, fs0)), (h1, .inr (1, [.int n9, c1, c2, c3, c4, c5, c6, c7])), (h2, .inr (8, [v0, v1, v2, v3, v4, .int n]))] sz) (fun (u : Nat → Int32) => [(h0, .inr (9, fs0)), (h1, .inr (1, [.int (u 0), c1, c2, c3, c4, c5, c6, c7])), (h2, .inr (8, [v0, v1, v2, v3, v4, .int (u 1)]))])) (va_A [(h0, .inr (9, fs0)), (h1, .inr (1, [.int n9, c1, c2, c3, c4, c5, c6, c7])), (h2, .inr (8, [v0, v1, v2, v3, v4, .int n]))] sz)) 0 0 (va_A [(h0, .inr (9, fs0)), (h1, .inr (1, [.int n9, c1, c2, c3, c4, c5, c6, c7])), (h2, .inr (8, [v0, v1, v2, v3, v4, .int n]))] sz) := by
  refine Met.ofW (cc := cX12_drop) (maxL := 1) (ret := (some .int)) (by decide +kernel) rfl ?_
  intro p e s m args below meth c s₁ B hml hv
  obtain ⟨rfl, hsz, hP, hE, hD0⟩ := hv
  have hx := B.exec
  have hb := B.bytes
  have hr := B.returns
  have hts := atoms_spec (ws := wsX12_drop) B.pre
  have hown : s.vm.findClass RX12 = some m.cls := findClass_of_methodNamed B.named
  have hlocks := B.notSynchronized
  subst hsz
  have hD := hD0.self (sz := s.heap.size)
  generalize hAe : va_A [(h0, .inr (9, fs0)), (h1, .inr (1, [.int n9, c1, c2, c3, c4, c5, c6, c7])), (h2, .inr (8, [v0, v1, v2, v3, v4, .int n]))] s.heap.size = A at hD ⊢
  have hA : ∀ q : Nat, s.heap.size ≤ q → A q := fun q h => by rw [← hAe]; exact Or.inr h
  have hS : va_S A s.heap s.heap [] := va_S.rf
  have hP : va_P D vwCl [(h0, .inr (9, fs0)), (h1, .inr (1, [.int n9, c1, c2, c3, c4, c5, c6, c7])), (h2, .inr (8, [v0, v1, v2, v3, v4, .int n]))] s.heap := hP
  have hl := lv_entry ([.ref h0]) (n := 1) (Nat.le_of_ble_eq_true rfl)
  rw [lg_entry_eq]
  generalize (lg_sl ([.ref h0]) ++ List.replicate (1 - (lg_sl ([.ref h0])).length) Slot.unset).toArray = ls at hl ⊢
  have hl : lv_has ls 1 [(0, .ref h0)] := hl
  clear hD0
  refine lv_aload_n hx hb dX12_drop_0 rfl (lv_at hl 0 rfl) ?_
  refine va_get (D := D) (ci := 9) (v := .ref h1) (C := RX12) (T := TX12) (N := 11) hx hb hts in_X12_drop_X12 hown hE.1 hP 0 rfl rfl 4 (by decide +kernel) (hts (.fieldLink RX12 32 "ClauseBook" "clauses" "LClauseBook$Clauses;") (List.mem_of_getElem? (i := 1) rfl)) (fun _ h9 => h9) e0_4 dX12_drop_1 ?_
  refine va_get (D := D) (ci := 1) (v := .int n9) (C := RX2) (T := TX2) (N := 8) hx hb hts in_X12_drop_X2 hown hE.1 hP 1 rfl rfl 0 (by decide +kernel) (hts (.fieldLink RX12 138 "ClauseBook$Clauses" "size" "I") (List.mem_of_getElem? (i := 2) rfl)) (fun _ h9 => h9) rfl dX12_drop_4 ?_
  refine lv_if_gt (tgt := 13) hx hb dX12_drop_7 (by decide +kernel) (fun c_1 => ?_) (fun c_1 => ?_)
  · rw [fa_lt] at c_1
    try rw [ti_0] at c_1
    refine lv_aload_n hx hb dX12_drop_13 rfl (lv_at hl 0 rfl) ?_
    refine va_get (D := D) (ci := 9) (v := .ref h1) (C := RX12) (T := TX12) (N := 11) hx hb hts in_X12_drop_X12 hown hE.1 hP 0 rfl rfl 4 (by decide +kernel) (hts (.fieldLink RX12 32 "ClauseBook" "clauses" "LClauseBook$Clauses;") (List.mem_of_getElem? (i := 1) rfl)) (fun _ h9 => h9) e0_4 dX12_drop_14 ?_
    refine lv_dup hx hb dX12_drop_17 rfl ?_
    refine va_get (D := D) (ci := 1) (v := .int n9) (C := RX2) (T := TX2) (N := 8) hx hb hts in_X12_drop_X2 hown hE.1 hP 1 rfl rfl 0 (by decide +kernel) (hts (.fieldLink RX12 138 "ClauseBook$Clauses" "size" "I") (List.mem_of_getElem? (i := 2) rfl)) (fun _ h9 => h9) rfl dX12_drop_18 ?_
    refine lv_iconst (v := 1) hx hb dX12_drop_21 (by decide +kernel) ?_
    refine lv_isub hx hb dX12_drop_22 ?_
    refine lv_topi (fun z_2 ez_2 => ?_)
    refine va_put (D := D) (ci := 1) (v := .int z_2) (ty := .int) (C := RX2) (T := TX2) (N := 8) hx hb hts in_X12_drop_X2 tyX2 tyX2_ok nmX2 hown hE.1 hP hD hS 1 rfl rfl 0 (by decide +kernel) (hts (.fieldLink RX12 138 "ClauseBook$Clauses" "size" "I") (List.mem_of_getElem? (i := 2) rfl)) (fun _ h9 => h9) rfl (by decide +kernel) rfl rfl (Nat.le_of_ble_eq_true rfl) dX12_drop_23 (fun H locs hP hD hS => ?_)
    obtain ⟨hP, hD⟩ := wPD [(h0, .inr (9, fs0)), (h1, .inr (1, [.int z_2, c1, c2, c3, c4, c5, c6, c7])), (h2, .inr (8, [v0, v1, v2, v3, v4, .int n]))] hP hD rfl
    refine lv_aload_n hx hb dX12_drop_26 rfl (lv_at hl 0 rfl) ?_
    refine va_get (D := D) (ci := 9) (v := .ref h2) (C := RX12) (T := TX12) (N := 11) hx hb hts in_X12_drop_X12 hown hE.1 hP 0 rfl rfl 6 (by decide +kernel) (hts (.fieldLink RX12 43 "ClauseBook" "worth" "LClauseBook$Worth;") (List.mem_of_getElem? (i := 3) rfl)) (fun _ h9 => h9) e0_6 dX12_drop_27 ?_
    have hFc := va_free (wc := [(h2, .inr (8, [v0, v1, v2, v3, v4, .int n]))]) hD hS hA [2] rfl
    refine va_callv (va_runV (As := []) (rest := []) ⟨hx, hb, hml, hown, hts⟩ (c_X11_forget l D T _ h2 (v0) (v1) (v2) (v3) (v4) n) (cwV 0 hts gX12_drop_X11_forget rfl rfl rfl hv_X11_forget ⟨Nat.le_of_ble_eq_true rfl, Nat.le_of_ble_eq_true rfl⟩) (pW_V (q := (RX11, TX11, 6)) (ci := 8) (q0 := 2) hP hE hD rfl rfl [2] (by decide +kernel) rfl rfl) rfl rfl hl.1 rfl (lv_room (Nat.le_of_ble_eq_true rfl)) dX12_drop_30 ⟨Nat.le_of_ble_eq_true rfl, Nat.le_of_ble_eq_true rfl⟩) hS (fun q _ h => hFc q h) hFc (fun u_4 t H1 locs ht hvm hr_3 hB hz1 hk1 hS => ?_)
    have hag9 : u_4 = n + 1 := hr_3
    obtain ⟨hP1, hD1⟩ := hB
    rw [ht] at hP1
    obtain ⟨hP, hD⟩ := va_repl [(h0, .inr (9, fs0)), (h1, .inr (1, [.int z_2, c1, c2, c3, c4, c5, c6, c7])), (h2, .inr (8, [v0, v1, v2, v3, v4, .int u_4]))] hP hD [2] [2] rfl (by decide +kernel) rfl rfl rfl hk1 hP1
    clear hP1 hD1 hFc
    generalize H1 = H at hP hS ⊢
    refine lv_aload_n hx hb dX12_drop_33 rfl (lv_at hl 0 rfl) ?_
    refine va_get (D := D) (ci := 9) (v := .ref h1) (C := RX12) (T := TX12) (N := 11) hx hb hts in_X12_drop_X12 hown hE.1 hP 0 rfl rfl 4 (by decide +kernel) (hts (.fieldLink RX12 32 "ClauseBook" "clauses" "LClauseBook$Clauses;") (List.mem_of_getElem? (i := 1) rfl)) (fun _ h9 => h9) e0_4 dX12_drop_34 ?_
    refine va_get (D := D) (ci := 1) (v := .int z_2) (C := RX2) (T := TX2) (N := 8) hx hb hts in_X12_drop_X2 hown hE.1 hP 1 rfl rfl 0 (by decide +kernel) (hts (.fieldLink RX12 138 "ClauseBook$Clauses" "size" "I") (List.mem_of_getElem? (i := 2) rfl)) (fun _ h9 => h9) rfl dX12_drop_37 ?_
    exact W.iret hx hb hr (fun t ht hW => ⟨⟨_, (fun k => [z_2, u_4].getD k 0), rfl, ⟨(show 0 ≤ (z_2).toInt ∧ (z_2).toInt ≤ 24 from by (try subst_vars); first | omega | (rw [dec1 (by omega)]; omega)), (Or.inr ⟨(by omega), rfl, (show (z_2).toInt = n9.toInt - 1 from by rw [ez_2]; exact dec1 (by omega))⟩), (Or.inr hag9)⟩, by rw [ht]; exact hP.sub [0, 1, 2] rfl, hD.sub [0, 1, 2] (by decide +kernel) rfl⟩, hS.F ht⟩) hS.2.2 dX12_drop_40
  · rw [fa_lt] at c_1
    try rw [ti_0] at c_1
    refine lv_bipush (v := (-3)) hx hb dX12_drop_10 (by decide +kernel) ?_
    exact W.iret hx hb hr (fun t ht hW => ⟨⟨_, (fun k => [n9, n].getD k 0), rfl, ⟨(show 0 ≤ (n9).toInt ∧ (n9).toInt ≤ 24 from by (try subst_vars); first | omega | (rw [dec1 (by omega)]; omega)), (Or.inl ⟨(by omega), (by decide +kernel), rfl⟩), (Or.inl ⟨rfl, rfl⟩)⟩, by rw [ht]; exact hP.sub [0, 1, 2] rfl, hD.sub [0, 1, 2] (by decide +kernel) rfl⟩, hS.F ht⟩) hS.2.2 dX12_drop_12
end
section
/-! bags: what put, take, pour do, in the class (three rows) and in the reference (one row of 36) -/
theorem all3 {P : Nat → Prop} (h0 : P 0) (h1 : P 1) (h2 : P 2) : ∀ k : Nat, k < 3 → P k
  | 0, _ => h0
  | 1, _ => h1
  | 2, _ => h2
  | k + 3, h => absurd h (by omega)
theorem tn0' : (0 : Int32).toNatClampNeg = 0 := by decide
theorem tn1' : (1 : Int32).toNatClampNeg = 1 := by decide
theorem tn2' : (2 : Int32).toNatClampNeg = 2 := by decide
/-- how the class's bags lie in the reference's row -/
def rlB (bn : Nat → Int32) (bf : Nat → Nat → Int32) (gn g : Nat → Int32) : Prop := ∀ k : Nat, k < 3 → bn k = gn k ∧ ∀ i : Nat, (i : Int) < (bn k).toInt → bf k i = g (12 * k + i)
/-- one of the class's bags has become n, f -/
def bgC (bn un : Nat → Int32) (bf uf : Nat → Nat → Int32) (x : Nat) (n : Int32) (f : Nat → Int32) : Prop := ∀ k : Nat, k < 3 → (k = x → un k = n ∧ uf k = f) ∧ (k ≠ x → un k = bn k ∧ uf k = bf k)
def bgS (bn un : Nat → Int32) (bf uf : Nat → Nat → Int32) : Prop := ∀ k : Nat, k < 3 → un k = bn k ∧ uf k = bf k
abbrev putV (n9 x1 x2 : Int32) : Prop := (0 ≤ x1.toInt ∧ x1.toInt ≤ 2) ∧ 0 ≤ x2.toInt ∧ x2.toInt < n9.toInt
/-- put, in the class -/
def putC (n9 x1 x2 r : Int32) (bn un : Nat → Int32) (bf uf : Nat → Nat → Int32) : Prop := (¬ putV n9 x1 x2 ∧ r.toInt = -2 ∧ bgS bn un bf uf) ∨ (putV n9 x1 x2 ∧ 12 ≤ (bn x1.toNatClampNeg).toInt ∧ r.toInt = -4 ∧ bgS bn un bf uf) ∨ (putV n9 x1 x2 ∧ (bn x1.toNatClampNeg).toInt < 12 ∧ r.toInt = (bn x1.toNatClampNeg).toInt + 1 ∧ bgC bn un bf uf x1.toNatClampNeg r (upd (bf x1.toNatClampNeg) (bn x1.toNatClampNeg).toNatClampNeg x2))
/-- put, in the reference -/
def putR (n9 x1 x2 r : Int32) (gn hn g h : Nat → Int32) : Prop := (¬ putV n9 x1 x2 ∧ r.toInt = -2 ∧ hn = gn ∧ h = g) ∨ (putV n9 x1 x2 ∧ 12 ≤ (gn x1.toNatClampNeg).toInt ∧ r.toInt = -4 ∧ hn = gn ∧ h = g) ∨ (putV n9 x1 x2 ∧ (gn x1.toNatClampNeg).toInt < 12 ∧ r.toInt = (gn x1.toNatClampNeg).toInt + 1 ∧ hn = upd gn x1.toNatClampNeg r ∧ h = upd g (12 * x1.toNatClampNeg + (gn x1.toNatClampNeg).toNatClampNeg) x2)
def bgOk (bn : Nat → Int32) : Prop := ∀ k : Nat, k < 3 → 0 ≤ (bn k).toInt ∧ (bn k).toInt ≤ 12
theorem rlB_same {bn un : Nat → Int32} {bf uf : Nat → Nat → Int32} {gn g : Nat → Int32} (h : rlB bn bf gn g) (e : bgS bn un bf uf) : rlB un uf gn g := by
  intro k hk
  rw [(e k hk).1, (e k hk).2]
  exact h k hk
theorem put_rel {n9 x1 x2 r r' : Int32} {bn un gn hn g h : Nat → Int32} {bf uf : Nat → Nat → Int32} (R : rlB bn bf gn g) (O : bgOk bn) (c : putC n9 x1 x2 r bn un bf uf) (m : putR n9 x1 x2 r' gn hn g h) : r = r' ∧ rlB un uf hn h := by
  rcases c with ⟨c1, c2, c3⟩ | ⟨c1, c2, c3, c4⟩ | ⟨c1, c2, c3, c4⟩
  · rcases m with ⟨m1, m2, m3, m4⟩ | ⟨m1, _⟩ | ⟨m1, _⟩
    · subst m3; subst m4; exact ⟨Int32.toInt_inj.1 (by omega), rlB_same R c3⟩
    · exact absurd m1 c1
    · exact absurd m1 c1
  · have hx : x1.toNatClampNeg < 3 := by have h1 := c1.1; have h2 := tn h1.1; omega
    have e := (R _ hx).1
    rcases m with ⟨m1, _⟩ | ⟨m1, m2, m3, m4, m5⟩ | ⟨m1, m2, _⟩
    · exact absurd c1 m1
    · subst m4; subst m5; exact ⟨Int32.toInt_inj.1 (by omega), rlB_same R c4⟩
    · rw [← e] at m2; omega
  · have hx : x1.toNatClampNeg < 3 := by have h1 := c1.1; have h2 := tn h1.1; omega
    have e := (R _ hx).1
    rcases m with ⟨m1, _⟩ | ⟨m1, m2, _⟩ | ⟨m1, m2, m3, m4, m5⟩
    · exact absurd c1 m1
    · rw [← e] at m2; omega
    · rw [← e] at m3 m5
      have hr : r = r' := Int32.toInt_inj.1 (by omega)
      subst hr
      refine ⟨rfl, fun k hk => ?_⟩
      have o := O _ hx
      have t := tn o.1
      rw [m4, m5]
      by_cases hkx : k = x1.toNatClampNeg
      · have q := (c4 k hk).1 hkx
        rw [q.1, q.2]
        subst hkx
        refine ⟨by simp only [upd, if_pos], fun i hi => ?_⟩
        simp only [upd]
        by_cases hi2 : i = (bn x1.toNatClampNeg).toNatClampNeg
        · rw [if_pos hi2, if_pos (by omega)]
        · rw [if_neg hi2, if_neg (by omega)]
          exact (R _ hx).2 i (by omega)
      · have q := (c4 k hk).2 hkx
        rw [q.1, q.2]
        refine ⟨by simp only [upd, if_neg hkx]; exact (R k hk).1, fun i hi => ?_⟩
        have o2 := O k hk
        simp only [upd]
        rw [if_neg (by omega)]
        exact (R k hk).2 i hi
/-- take, in the class and in the reference -/
def takeC (x1 r : Int32) (bn un : Nat → Int32) (bf uf : Nat → Nat → Int32) : Prop := (¬ (0 ≤ x1.toInt ∧ x1.toInt ≤ 2) ∧ r.toInt = -2 ∧ bgS bn un bf uf) ∨ ((0 ≤ x1.toInt ∧ x1.toInt ≤ 2) ∧ (bn x1.toNatClampNeg).toInt ≤ 0 ∧ r.toInt = -1 ∧ bgS bn un bf uf) ∨ ((0 ≤ x1.toInt ∧ x1.toInt ≤ 2) ∧ 0 < (bn x1.toNatClampNeg).toInt ∧ ∃ z : Int32, z.toInt = (bn x1.toNatClampNeg).toInt - 1 ∧ r = bf x1.toNatClampNeg z.toNatClampNeg ∧ bgC bn un bf uf x1.toNatClampNeg z (bf x1.toNatClampNeg))
def takeR (x1 r : Int32) (gn hn g h : Nat → Int32) : Prop := h = g ∧ ((¬ (0 ≤ x1.toInt ∧ x1.toInt ≤ 2) ∧ r.toInt = -2 ∧ hn = gn) ∨ ((0 ≤ x1.toInt ∧ x1.toInt ≤ 2) ∧ (gn x1.toNatClampNeg).toInt ≤ 0 ∧ r.toInt = -1 ∧ hn = gn) ∨ ((0 ≤ x1.toInt ∧ x1.toInt ≤ 2) ∧ 0 < (gn x1.toNatClampNeg).toInt ∧ ∃ z : Int32, z.toInt = (gn x1.toNatClampNeg).toInt - 1 ∧ r = g (12 * x1.toNatClampNeg + z.toNatClampNeg) ∧ hn = upd gn x1.toNatClampNeg z))
theorem take_rel {x1 r r' : Int32} {bn un gn hn g h : Nat → Int32} {bf uf : Nat → Nat → Int32} (R : rlB bn bf gn g) (O : bgOk bn) (c : takeC x1 r bn un bf uf) (m : takeR x1 r' gn hn g h) : r = r' ∧ rlB un uf hn h := by
  obtain ⟨hh, m⟩ := m
  subst hh
  rcases c with ⟨c1, c2, c3⟩ | ⟨c1, c2, c3, c4⟩ | ⟨c1, c2, z, c3, c4, c5⟩
  · rcases m with ⟨m1, m2, m3⟩ | ⟨m1, _⟩ | ⟨m1, _⟩
    · subst m3; exact ⟨Int32.toInt_inj.1 (by omega), rlB_same R c3⟩
    · exact absurd m1 c1
    · exact absurd m1 c1
  · have hx : x1.toNatClampNeg < 3 := by have h2 := tn c1.1; omega
    have e := (R _ hx).1
    rcases m with ⟨m1, _⟩ | ⟨m1, m2, m3, m4⟩ | ⟨m1, m2, _⟩
    · exact absurd c1 m1
    · subst m4; exact ⟨Int32.toInt_inj.1 (by omega), rlB_same R c4⟩
    · rw [← e] at m2; omega
  · have hx : x1.toNatClampNeg < 3 := by have h2 := tn c1.1; omega
    have e := (R _ hx).1
    rcases m with ⟨m1, _⟩ | ⟨m1, m2, _⟩ | ⟨m1, m2, z', m3, m4, m5⟩
    · exact absurd c1 m1
    · rw [← e] at m2; omega
    · rw [← e] at m3
      have hz : z = z' := Int32.toInt_inj.1 (by omega)
      subst hz
      have o := O _ hx
      have t := tn (x := z) (by omega)
      refine ⟨by rw [c4, m4]; exact (R _ hx).2 _ (by omega), fun k hk => ?_⟩
      rw [m5]
      by_cases hkx : k = x1.toNatClampNeg
      · have q := (c5 k hk).1 hkx
        rw [q.1, q.2]
        subst hkx
        exact ⟨by simp only [upd, if_pos], fun i hi => (R _ hx).2 i (by omega)⟩
      · have q := (c5 k hk).2 hkx
        rw [q.1, q.2]
        exact ⟨by simp only [upd, if_neg hkx]; exact (R k hk).1, (R k hk).2⟩
/-- bagOf -/
def bagOfC (x1 x2 r : Int32) (bn : Nat → Int32) (bf : Nat → Nat → Int32) : Prop := (¬ (0 ≤ x1.toInt ∧ x1.toInt ≤ 2) ∧ r.toInt = -2) ∨ ((0 ≤ x1.toInt ∧ x1.toInt ≤ 2) ∧ ¬ (0 ≤ x2.toInt ∧ x2.toInt < (bn x1.toNatClampNeg).toInt) ∧ r.toInt = -12) ∨ ((0 ≤ x1.toInt ∧ x1.toInt ≤ 2) ∧ (0 ≤ x2.toInt ∧ x2.toInt < (bn x1.toNatClampNeg).toInt) ∧ r = bf x1.toNatClampNeg x2.toNatClampNeg)
theorem bagOf_rel {x1 x2 r r' : Int32} {bn gn g : Nat → Int32} {bf : Nat → Nat → Int32} (R : rlB bn bf gn g) (c : bagOfC x1 x2 r bn bf) (m : bagOfC x1 x2 r' gn (fun k i => g (12 * k + i))) : r = r' := by
  by_cases hb : 0 ≤ x1.toInt ∧ x1.toInt ≤ 2
  · have hx : x1.toNatClampNeg < 3 := by have h2 := tn hb.1; omega
    have e := (R _ hx).1
    rcases c with ⟨c1, c2⟩ | ⟨c1, c2, c3⟩ | ⟨c1, c2, c3⟩
    · exact absurd hb c1
    · rcases m with ⟨m1, m2⟩ | ⟨m1, m2, m3⟩ | ⟨m1, m2, m3⟩
      · exact absurd hb m1
      · exact Int32.toInt_inj.1 (by omega)
      · rw [← e] at m2; exact absurd m2 c2
    · rcases m with ⟨m1, m2⟩ | ⟨m1, m2, m3⟩ | ⟨m1, m2, m3⟩
      · exact absurd hb m1
      · rw [← e] at m2; exact absurd c2 m2
      · rw [c3, m3]
        have t := tn c2.1
        exact (R _ hx).2 _ (by omega)
  · rcases c with ⟨c1, c2⟩ | ⟨c1, _⟩ | ⟨c1, _⟩
    · rcases m with ⟨m1, m2⟩ | ⟨m1, _⟩ | ⟨m1, _⟩
      · exact Int32.toInt_inj.1 (by omega)
      · exact absurd m1 hb
      · exact absurd m1 hb
    · exact absurd c1 hb
    · exact absurd c1 hb
/-! the tape -/
theorem nI_back {x : Int32} (h : 0 ≤ x.toInt) : nI x.toNatClampNeg = x := by
  obtain ⟨j, hj, e⟩ := nI_of (x := x) (by rw [fa_lt, ti_0]; omega)
  subst e
  rw [nI_clamp hj]
theorem tnS {x y : Int32} (h : 0 ≤ x.toInt) (e : y.toInt = x.toInt + 1) : y.toNatClampNeg = x.toNatClampNeg + 1 := by
  have h1 := tn h
  have h2 := tn (x := y) (by omega)
  omega
theorem tnA {x y z : Int32} (hx : 0 ≤ x.toInt) (hy : 0 ≤ y.toInt) (e : z.toInt = x.toInt + y.toInt) : z.toNatClampNeg = x.toNatClampNeg + y.toNatClampNeg := by
  have h1 := tn hx
  have h2 := tn hy
  have h3 := tn (x := z) (by omega)
  omega
/-- the byte that comes as the i-th -/
def fdV (x i : Int32) : Int32 := ((x.toUInt32 >>> ((24 - (8 * i)).toUInt32 &&& Int32.toUInt32 31)).toInt32 &&& 255)
/-- the tape behind k of them -/
def fdF (f : Nat → Int32) (n : Nat) (x : Int32) : Nat → Nat → Int32
  | 0 => f
  | k + 1 => upd (fdF f n x k) (n + k) (fdV x (nI k))
theorem fdF_step {f g : Nat → Int32} {n ni i i' x v : Int32} (hn : 0 ≤ n.toInt) (h0 : 0 ≤ i.toInt) (hi : i'.toInt = i.toInt + 1) (hni : ni.toInt = n.toInt + i.toInt) (hg : g = fdF f n.toNatClampNeg x i.toNatClampNeg) (hv : v = fdV x i) : upd g ni.toNatClampNeg v = fdF f n.toNatClampNeg x i'.toNatClampNeg := by
  rw [tnS h0 hi, tnA hn h0 hni, hg, hv]
  show _ = upd (fdF f n.toNatClampNeg x i.toNatClampNeg) (n.toNatClampNeg + i.toNatClampNeg) (fdV x (nI i.toNatClampNeg))
  rw [nI_back h0]
/-! pour -/
/-- behind i of the first row F: how many stay, the first row, how many the second one has, the second row -/
def pourF (P : Int32 → Bool) (F G : Nat → Int32) (t0 : Nat) : Nat → Nat × (Nat → Int32) × Nat × (Nat → Int32)
  | 0 => (0, F, t0, G)
  | i + 1 => if P (F i) = true ∧ (pourF P F G t0 i).2.2.1 < 12 then ((pourF P F G t0 i).1, (pourF P F G t0 i).2.1, (pourF P F G t0 i).2.2.1 + 1, upd (pourF P F G t0 i).2.2.2 (pourF P F G t0 i).2.2.1 (F i)) else ((pourF P F G t0 i).1 + 1, upd (pourF P F G t0 i).2.1 (pourF P F G t0 i).1 (F i), (pourF P F G t0 i).2.2)
theorem pourF_yes {P : Int32 → Bool} {F G : Nat → Int32} {t0 i : Nat} (h : P (F i) = true) (h2 : (pourF P F G t0 i).2.2.1 < 12) : pourF P F G t0 (i + 1) = ((pourF P F G t0 i).1, (pourF P F G t0 i).2.1, (pourF P F G t0 i).2.2.1 + 1, upd (pourF P F G t0 i).2.2.2 (pourF P F G t0 i).2.2.1 (F i)) := if_pos ⟨h, h2⟩
theorem pourF_no {P : Int32 → Bool} {F G : Nat → Int32} {t0 i : Nat} (h : ¬ (P (F i) = true ∧ (pourF P F G t0 i).2.2.1 < 12)) : pourF P F G t0 (i + 1) = ((pourF P F G t0 i).1 + 1, upd (pourF P F G t0 i).2.1 (pourF P F G t0 i).1 (F i), (pourF P F G t0 i).2.2) := if_neg h
theorem pourF_le {P : Int32 → Bool} {F G : Nat → Int32} {t0 : Nat} : ∀ i : Nat, (pourF P F G t0 i).1 ≤ i
  | 0 => Nat.le_refl 0
  | i + 1 => by
    have h := pourF_le (P := P) (F := F) (G := G) (t0 := t0) i
    by_cases c : P (F i) = true ∧ (pourF P F G t0 i).2.2.1 < 12
    · rw [pourF_yes c.1 c.2]; show (pourF P F G t0 i).1 ≤ i + 1; omega
    · rw [pourF_no c]; show (pourF P F G t0 i).1 + 1 ≤ i + 1; omega
theorem pourF_keep {P : Int32 → Bool} {F G : Nat → Int32} {t0 : Nat} : ∀ (i j : Nat), (pourF P F G t0 i).1 ≤ j → (pourF P F G t0 i).2.1 j = F j
  | 0, _, _ => rfl
  | i + 1, j, h => by
    by_cases c : P (F i) = true ∧ (pourF P F G t0 i).2.2.1 < 12
    · rw [pourF_yes c.1 c.2] at h ⊢
      exact pourF_keep i j h
    · rw [pourF_no c] at h ⊢
      have h : (pourF P F G t0 i).1 + 1 ≤ j := h
      show upd (pourF P F G t0 i).2.1 (pourF P F G t0 i).1 (F i) j = F j
      simp only [upd]
      rw [if_neg (by omega)]
      exact pourF_keep i j (by omega)
theorem pourF_t {P : Int32 → Bool} {F G : Nat → Int32} {t0 : Nat} (ht : t0 ≤ 12) : ∀ i : Nat, (pourF P F G t0 i).2.2.1 ≤ 12
  | 0 => ht
  | i + 1 => by
    by_cases c : P (F i) = true ∧ (pourF P F G t0 i).2.2.1 < 12
    · rw [pourF_yes c.1 c.2]; show (pourF P F G t0 i).2.2.1 + 1 ≤ 12; omega
    · rw [pourF_no c]; exact pourF_t ht i
theorem pourF_ext {P : Int32 → Bool} {F G F' G' : Nat → Int32} {t0 m : Nat} (hF : ∀ j : Nat, j < m → F j = F' j) (hG : ∀ j : Nat, j < t0 → G j = G' j) : ∀ i : Nat, i ≤ m → (pourF P F G t0 i).1 = (pourF P F' G' t0 i).1 ∧ (pourF P F G t0 i).2.2.1 = (pourF P F' G' t0 i).2.2.1 ∧ (∀ j : Nat, j < (pourF P F G t0 i).1 → (pourF P F G t0 i).2.1 j = (pourF P F' G' t0 i).2.1 j) ∧ ∀ j : Nat, j < (pourF P F G t0 i).2.2.1 → (pourF P F G t0 i).2.2.2 j = (pourF P F' G' t0 i).2.2.2 j
  | 0, _ => ⟨rfl, rfl, fun j hj => absurd hj (Nat.not_lt_zero j), hG⟩
  | i + 1, h => by
    obtain ⟨h1, h2, h3, h4⟩ := pourF_ext (P := P) hF hG i (by omega)
    have e := hF i (by omega)
    by_cases c : P (F i) = true ∧ (pourF P F G t0 i).2.2.1 < 12
    · have c' : P (F' i) = true ∧ (pourF P F' G' t0 i).2.2.1 < 12 := by rw [← e, ← h2]; exact c
      rw [pourF_yes c.1 c.2, pourF_yes c'.1 c'.2]
      refine ⟨h1, by show _ + 1 = _ + 1; rw [h2], h3, fun j hj => ?_⟩
      have hj : j < (pourF P F G t0 i).2.2.1 + 1 := hj
      show upd (pourF P F G t0 i).2.2.2 (pourF P F G t0 i).2.2.1 (F i) j = upd (pourF P F' G' t0 i).2.2.2 (pourF P F' G' t0 i).2.2.1 (F' i) j
      rw [← h2, ← e]
      simp only [upd]
      by_cases q : j = (pourF P F G t0 i).2.2.1
      · rw [if_pos q, if_pos q]
      · rw [if_neg q, if_neg q]
        exact h4 j (by omega)
    · have c' : ¬ (P (F' i) = true ∧ (pourF P F' G' t0 i).2.2.1 < 12) := by rw [← e, ← h2]; exact c
      rw [pourF_no c, pourF_no c']
      refine ⟨by show _ + 1 = _ + 1; rw [h1], h2, fun j hj => ?_, h4⟩
      have hj : j < (pourF P F G t0 i).1 + 1 := hj
      show upd (pourF P F G t0 i).2.1 (pourF P F G t0 i).1 (F i) j = upd (pourF P F' G' t0 i).2.1 (pourF P F' G' t0 i).1 (F' i) j
      rw [← h1, ← e]
      simp only [upd]
      by_cases q : j = (pourF P F G t0 i).1
      · rw [if_pos q, if_pos q]
      · rw [if_neg q, if_neg q]
        exact h3 j (by omega)
/-- which clauses are poured -/
def prP (k n9 : Int32) (fk : Nat → Int32) (x : Int32) : Bool := decide (k.toInt = -1 ∨ ((0 ≤ x.toInt ∧ x.toInt < n9.toInt) ∧ (fk x.toNatClampNeg).toInt = k.toInt))
theorem prP_ext {k n9 : Int32} {fk gk : Nat → Int32} (h : ∀ j : Nat, (j : Int) < n9.toInt → fk j = gk j) : prP k n9 fk = prP k n9 gk := by
  funext x
  unfold prP
  by_cases c : 0 ≤ x.toInt ∧ x.toInt < n9.toInt
  · have h2 := tn c.1
    rw [h x.toNatClampNeg (by omega)]
  · simp only [c, false_and]
abbrev pourV (x1 x2 x3 : Int32) : Prop := ((0 ≤ x1.toInt ∧ x1.toInt ≤ 2) ∧ 0 ≤ x2.toInt ∧ x2.toInt ≤ 2) ∧ x1.toInt ≠ x2.toInt ∧ -1 ≤ x3.toInt ∧ x3.toInt ≤ 12
/-- pour, in the class -/
def pourC (n9 x1 x2 x3 r : Int32) (fk bn un : Nat → Int32) (bf uf : Nat → Nat → Int32) : Prop := (¬ pourV x1 x2 x3 ∧ r.toInt = -2 ∧ bgS bn un bf uf) ∨ (pourV x1 x2 x3 ∧ ∃ p : Nat × (Nat → Int32) × Nat × (Nat → Int32), p = pourF (prP x3 n9 fk) (bf x1.toNatClampNeg) (bf x2.toNatClampNeg) (bn x2.toNatClampNeg).toNatClampNeg (bn x1.toNatClampNeg).toNatClampNeg ∧ r.toInt = (bn x1.toNatClampNeg).toInt - p.1 ∧ ∀ k : Nat, k < 3 → (k = x1.toNatClampNeg → (un k).toInt = p.1 ∧ uf k = p.2.1) ∧ (k = x2.toNatClampNeg → (un k).toInt = p.2.2.1 ∧ uf k = p.2.2.2) ∧ (k ≠ x1.toNatClampNeg → k ≠ x2.toNatClampNeg → un k = bn k ∧ uf k = bf k))
/-- pour, in the reference -/
def pourR (n9 x1 x2 x3 r : Int32) (fk gn hn g h : Nat → Int32) : Prop := (¬ pourV x1 x2 x3 ∧ r.toInt = -2 ∧ hn = gn ∧ h = g) ∨ (pourV x1 x2 x3 ∧ ∃ p : Nat × (Nat → Int32) × Nat × (Nat → Int32), p = pourF (prP x3 n9 fk) (fun i => g (12 * x1.toNatClampNeg + i)) (fun i => g (12 * x2.toNatClampNeg + i)) (gn x2.toNatClampNeg).toNatClampNeg (gn x1.toNatClampNeg).toNatClampNeg ∧ r.toInt = (gn x1.toNatClampNeg).toInt - p.1 ∧ ∀ k : Nat, k < 3 → (k = x1.toNatClampNeg → (hn k).toInt = p.1 ∧ ∀ i : Nat, i < 12 → h (12 * k + i) = p.2.1 i) ∧ (k = x2.toNatClampNeg → (hn k).toInt = p.2.2.1 ∧ ∀ i : Nat, i < 12 → h (12 * k + i) = p.2.2.2 i) ∧ (k ≠ x1.toNatClampNeg → k ≠ x2.toNatClampNeg → hn k = gn k ∧ ∀ i : Nat, i < 12 → h (12 * k + i) = g (12 * k + i)))
theorem pour_rel {n9 x1 x2 x3 r r' : Int32} {fk gk bn un gn hn g h : Nat → Int32} {bf uf : Nat → Nat → Int32} (R : rlB bn bf gn g) (O : bgOk bn) (K : ∀ j : Nat, (j : Int) < n9.toInt → fk j = gk j) (c : pourC n9 x1 x2 x3 r fk bn un bf uf) (m : pourR n9 x1 x2 x3 r' gk gn hn g h) : r = r' ∧ rlB un uf hn h := by
  rcases c with ⟨c1, c2, c3⟩ | ⟨c1, p, c2, c3, c4⟩
  · rcases m with ⟨m1, m2, m3, m4⟩ | ⟨m1, _⟩
    · subst m3; subst m4; exact ⟨Int32.toInt_inj.1 (by omega), rlB_same R c3⟩
    · exact absurd m1 c1
  · rcases m with ⟨m1, _⟩ | ⟨m1, q, m2, m3, m4⟩
    · exact absurd c1 m1
    · have hx1 : x1.toNatClampNeg < 3 := by have h2 := tn c1.1.1.1; omega
      have hx2 : x2.toNatClampNeg < 3 := by have h2 := tn c1.1.2.1; omega
      have hne : x1.toNatClampNeg ≠ x2.toNatClampNeg := by have h2 := tn c1.1.1.1; have h3 := tn c1.1.2.1; omega
      have e1 := (R _ hx1).1
      have e2 := (R _ hx2).1
      have o1 := O _ hx1
      have o2 := O _ hx2
      have t1 := tn o1.1
      have t2 := tn o2.1
      rw [← e1, ← e2, ← prP_ext K] at m2
      obtain ⟨a1, a2, a3, a4⟩ := pourF_ext (P := prP x3 n9 fk) (t0 := (bn x2.toNatClampNeg).toNatClampNeg) (m := (bn x1.toNatClampNeg).toNatClampNeg) (F := bf x1.toNatClampNeg) (F' := fun i => g (12 * x1.toNatClampNeg + i)) (G := bf x2.toNatClampNeg) (G' := fun i => g (12 * x2.toNatClampNeg + i)) (fun j hj => (R _ hx1).2 j (by omega)) (fun j hj => (R _ hx2).2 j (by omega)) _ (Nat.le_refl _)
      have b1 := pourF_le (P := prP x3 n9 fk) (F := bf x1.toNatClampNeg) (G := bf x2.toNatClampNeg) (t0 := (bn x2.toNatClampNeg).toNatClampNeg) (bn x1.toNatClampNeg).toNatClampNeg
      have b2 := pourF_t (P := prP x3 n9 fk) (F := bf x1.toNatClampNeg) (G := bf x2.toNatClampNeg) (t0 := (bn x2.toNatClampNeg).toNatClampNeg) (by omega) (bn x1.toNatClampNeg).toNatClampNeg
      rw [← c2] at a1 a2 a3 a4 b1 b2
      rw [← m2] at a1 a2 a3 a4
      rw [← e1] at m3
      refine ⟨Int32.toInt_inj.1 (by omega), fun k hk => ?_⟩
      obtain ⟨c5, c6, c7⟩ := c4 k hk
      obtain ⟨m5, m6, m7⟩ := m4 k hk
      by_cases k1 : k = x1.toNatClampNeg
      · obtain ⟨u1, u2⟩ := c5 k1
        obtain ⟨v1, v2⟩ := m5 k1
        refine ⟨Int32.toInt_inj.1 (by omega), fun i hi => ?_⟩
        rw [u2, v2 i (by omega)]
        exact a3 i (by omega)
      · by_cases k2 : k = x2.toNatClampNeg
        · obtain ⟨u1, u2⟩ := c6 k2
          obtain ⟨v1, v2⟩ := m6 k2
          refine ⟨Int32.toInt_inj.1 (by omega), fun i hi => ?_⟩
          rw [u2, v2 i (by omega)]
          exact a4 i (by omega)
        · obtain ⟨u1, u2⟩ := c7 k1 k2
          obtain ⟨v1, v2⟩ := m7 k1 k2
          have o := O k hk
          refine ⟨by rw [u1, v1]; exact (R k hk).1, fun i hi => ?_⟩
          rw [u1] at hi
          rw [u2, v2 i (by omega)]
          exact (R k hk).2 i hi
theorem pour_stepY {P : Int32 → Bool} {F G : Nat → Int32} {t0 : Nat} {ii ii' le qq qq' z : Int32} {gf gt gt' : Nat → Int32} (h0 : 0 ≤ ii.toInt) (hi : ii'.toInt = ii.toInt + 1) (h1 : le.toInt = (pourF P F G t0 ii.toNatClampNeg).1) (h2 : gf = (pourF P F G t0 ii.toNatClampNeg).2.1) (h3 : qq.toInt = (pourF P F G t0 ii.toNatClampNeg).2.2.1) (h4 : gt = (pourF P F G t0 ii.toNatClampNeg).2.2.2) (hz : z = F ii.toNatClampNeg) (hP : P z = true) (hq : qq.toInt < 12) (hq' : qq'.toInt = qq.toInt + 1) (hg : gt' = upd gt qq.toNatClampNeg z) : le.toInt = (pourF P F G t0 ii'.toNatClampNeg).1 ∧ gf = (pourF P F G t0 ii'.toNatClampNeg).2.1 ∧ qq'.toInt = (pourF P F G t0 ii'.toNatClampNeg).2.2.1 ∧ gt' = (pourF P F G t0 ii'.toNatClampNeg).2.2.2 := by
  have t := tn (x := qq) (by omega)
  rw [tnS h0 hi, pourF_yes (by rw [← hz]; exact hP) (by omega)]
  refine ⟨h1, h2, by show qq'.toInt = (((pourF P F G t0 ii.toNatClampNeg).2.2.1 + 1 : Nat) : Int); omega, ?_⟩
  show gt' = upd (pourF P F G t0 ii.toNatClampNeg).2.2.2 (pourF P F G t0 ii.toNatClampNeg).2.2.1 (F ii.toNatClampNeg)
  rw [hg, ← h4, hz, show qq.toNatClampNeg = (pourF P F G t0 ii.toNatClampNeg).2.2.1 by omega]
theorem pour_stepN {P : Int32 → Bool} {F G : Nat → Int32} {t0 : Nat} {ii ii' le le' qq qq' z : Int32} {gf gf' gt gt' : Nat → Int32} (h0 : 0 ≤ ii.toInt) (hle : 0 ≤ le.toInt) (hi : ii'.toInt = ii.toInt + 1) (h1 : le.toInt = (pourF P F G t0 ii.toNatClampNeg).1) (h2 : gf = (pourF P F G t0 ii.toNatClampNeg).2.1) (h3 : qq.toInt = (pourF P F G t0 ii.toNatClampNeg).2.2.1) (h4 : gt = (pourF P F G t0 ii.toNatClampNeg).2.2.2) (hz : z = F ii.toNatClampNeg) (hN : ¬ (P z = true ∧ qq.toInt < 12)) (hl : le'.toInt = le.toInt + 1) (hg : gf' = upd gf le.toNatClampNeg z) (hq : qq'.toInt = qq.toInt) (hgt : gt' = gt) : le'.toInt = (pourF P F G t0 ii'.toNatClampNeg).1 ∧ gf' = (pourF P F G t0 ii'.toNatClampNeg).2.1 ∧ qq'.toInt = (pourF P F G t0 ii'.toNatClampNeg).2.2.1 ∧ gt' = (pourF P F G t0 ii'.toNatClampNeg).2.2.2 := by
  have t := tn hle
  rw [tnS h0 hi, pourF_no (by rw [← hz]; intro h9; exact hN ⟨h9.1, by omega⟩)]
  refine ⟨by show le'.toInt = (((pourF P F G t0 ii.toNatClampNeg).1 + 1 : Nat) : Int); omega, ?_, by rw [hq]; exact h3, by rw [hgt]; exact h4⟩
  show gf' = upd (pourF P F G t0 ii.toNatClampNeg).2.1 (pourF P F G t0 ii.toNatClampNeg).1 (F ii.toNatClampNeg)
  rw [hg, ← h2, hz, show le.toNatClampNeg = (pourF P F G t0 ii.toNatClampNeg).1 by omega]
/-! hands -/
theorem all4' {P : Nat → Prop} (h0 : P 0) (h1 : P 1) (h2 : P 2) (h3 : P 3) : ∀ k : Nat, k < 4 → P k
  | 0, _ => h0
  | 1, _ => h1
  | 2, _ => h2
  | 3, _ => h3
  | k + 4, h => absurd h (by omega)
/-- how the class's hands lie in the reference's rows -/
def rlH (jz jn : Nat → Int32) (hz : Nat → Int32) (ha : Nat → Int64) : Prop := ∀ k : Nat, k < 4 → jz k = hz k ∧ ((jz k).toInt = 1 → jn k = (ha k).toInt32)
abbrev hdV (n9 h s : Int32) (v w : Int64) : Prop := (0 ≤ h.toInt ∧ h.toInt ≤ 3) ∧ (0 ≤ s.toInt ∧ s.toInt ≤ 2) ∧ (s.toInt = 1 → 0 ≤ v.toInt ∧ v.toInt < n9.toInt) ∧ (s.toInt = 2 → 1 ≤ w.toInt ∧ v.toInt ≠ -9223372036854775808)
def holdC (n9 h s r : Int32) (v w : Int64) (jz jn uz un : Nat → Int32) : Prop := (¬ hdV n9 h s v w ∧ r.toInt = -2 ∧ ∀ k : Nat, k < 4 → uz k = jz k ∧ un k = jn k) ∨ (hdV n9 h s v w ∧ r = jz h.toNatClampNeg ∧ ∀ k : Nat, k < 4 → (k = h.toNatClampNeg → uz k = s ∧ (s.toInt = 1 → un k = v.toInt32)) ∧ (k ≠ h.toNatClampNeg → uz k = jz k ∧ un k = jn k))
def holdR (n9 h s r : Int32) (v w : Int64) (hz wz : Nat → Int32) (ha wa : Nat → Int64) : Prop := (¬ hdV n9 h s v w ∧ r.toInt = -2 ∧ wz = hz ∧ wa = ha) ∨ (hdV n9 h s v w ∧ r = hz h.toNatClampNeg ∧ wz = upd hz h.toNatClampNeg s ∧ (s.toInt = 1 → wa h.toNatClampNeg = v) ∧ ∀ k : Nat, k ≠ h.toNatClampNeg → wa k = ha k)
theorem hold_rel {n9 h s r r' : Int32} {v w : Int64} {jz jn uz un hz wz : Nat → Int32} {ha wa : Nat → Int64} (R : rlH jz jn hz ha) (c : holdC n9 h s r v w jz jn uz un) (m : holdR n9 h s r' v w hz wz ha wa) : r = r' ∧ rlH uz un wz wa := by
  rcases c with ⟨c1, c2, c3⟩ | ⟨c1, c2, c3⟩
  · rcases m with ⟨m1, m2, m3, m4⟩ | ⟨m1, _⟩
    · subst m3; subst m4
      refine ⟨Int32.toInt_inj.1 (by omega), fun k hk => ?_⟩
      rw [(c3 k hk).1, (c3 k hk).2]
      exact R k hk
    · exact absurd m1 c1
  · rcases m with ⟨m1, _⟩ | ⟨m1, m2, m3, m4, m5⟩
    · exact absurd c1 m1
    · have hh : h.toNatClampNeg < 4 := by have h2 := tn c1.1.1; have h3 := c1.1.2; omega
      refine ⟨by rw [c2, m2]; exact (R _ hh).1, fun k hk => ?_⟩
      rw [m3]
      by_cases e : k = h.toNatClampNeg
      · obtain ⟨a1, a2⟩ := (c3 k hk).1 e
        rw [a1]
        subst e
        refine ⟨by simp only [upd, if_pos], fun h9 => ?_⟩
        rw [a2 h9, m4 h9]
      · obtain ⟨a1, a2⟩ := (c3 k hk).2 e
        rw [a1, a2, m5 k e]
        refine ⟨by simp only [upd, if_neg e]; exact (R k hk).1, (R k hk).2⟩
/-! pour, in the reference's one row -/
abbrev pourG (P : Int32 → Bool) (f12 f13 : Nat → Int32) (X1 X2 i : Nat) : Nat × (Nat → Int32) × Nat × (Nat → Int32) := pourF P (fun j => f12 (12 * X1 + j)) (fun j => f12 (12 * X2 + j)) (f13 X2).toNatClampNeg i
def pourJ (P : Int32 → Bool) (f12 f13 : Nat → Int32) (X1 X2 i : Nat) (st ca : Int32) (g12 g13 : Nat → Int32) : Prop := (st.toInt = (pourG P f12 f13 X1 X2 i).1 ∧ ca.toInt = (i : Int) - (pourG P f12 f13 X1 X2 i).1) ∧ (∀ k : Nat, k < 3 → (k = X2 → (g13 k).toInt = (pourG P f12 f13 X1 X2 i).2.2.1) ∧ (k ≠ X2 → g13 k = f13 k)) ∧ ∀ k : Nat, k < 3 → ∀ j : Nat, j < 12 → g12 (12 * k + j) = if k = X1 then (pourG P f12 f13 X1 X2 i).2.1 j else if k = X2 then (pourG P f12 f13 X1 X2 i).2.2.2 j else f12 (12 * k + j)
theorem pourJ_0 {P : Int32 → Bool} {f12 f13 : Nat → Int32} {X1 X2 : Nat} (hx : X2 < 3) (h0 : 0 ≤ (f13 X2).toInt) : pourJ P f12 f13 X1 X2 0 0 0 f12 f13 := by
  refine ⟨⟨show (0 : Int32).toInt = ((0 : Nat) : Int) by decide, show (0 : Int32).toInt = ((0 : Nat) : Int) - ((0 : Nat) : Int) by decide⟩, fun k hk => ⟨fun e => ?_, fun _ => rfl⟩, fun k hk j hj => ?_⟩
  · rw [e]; exact (tn h0).symm
  · show f12 (12 * k + j) = if k = X1 then f12 (12 * X1 + j) else if k = X2 then f12 (12 * X2 + j) else f12 (12 * k + j)
    by_cases c : k = X1
    · rw [if_pos c, c]
    · rw [if_neg c]
      by_cases c2 : k = X2
      · rw [if_pos c2, c2]
      · rw [if_neg c2]
theorem pourJ_z {P : Int32 → Bool} {f12 f13 g12 g13 : Nat → Int32} {X1 X2 i : Nat} {st ca z : Int32} (h : pourJ P f12 f13 X1 X2 i st ca g12 g13) (h1 : X1 < 3) (hi : i < 12) (hz : z = g12 (12 * X1 + i)) : z = f12 (12 * X1 + i) := by
  rw [hz, h.2.2 X1 h1 i hi, if_pos rfl]
  exact pourF_keep i i (pourF_le i)
theorem pourJ_yes {P : Int32 → Bool} {f12 f13 g12 g13 : Nat → Int32} {X1 X2 i : Nat} {st ca ca' z q q' : Int32} (h : pourJ P f12 f13 X1 X2 i st ca g12 g13) (h1 : X1 < 3) (h2 : X2 < 3) (hne : X1 ≠ X2) (hz : z = f12 (12 * X1 + i)) (hP : P z = true) (hq : q = g13 X2) (hq0 : 0 ≤ q.toInt ∧ q.toInt < 12) (hq' : q'.toInt = q.toInt + 1) (hca : ca'.toInt = ca.toInt + 1) : pourJ P f12 f13 X1 X2 (i + 1) st ca' (upd g12 (12 * X2 + q.toNatClampNeg) z) (upd g13 X2 q') := by
  obtain ⟨⟨a1, a2⟩, a3, a4⟩ := h
  have t := tn hq0.1
  have b := (a3 X2 h2).1 rfl
  rw [← hq] at b
  have e : pourG P f12 f13 X1 X2 (i + 1) = ((pourG P f12 f13 X1 X2 i).1, (pourG P f12 f13 X1 X2 i).2.1, (pourG P f12 f13 X1 X2 i).2.2.1 + 1, upd (pourG P f12 f13 X1 X2 i).2.2.2 (pourG P f12 f13 X1 X2 i).2.2.1 z) := by rw [hz]; exact pourF_yes (by rw [← hz]; exact hP) (show (pourG P f12 f13 X1 X2 i).2.2.1 < 12 by omega)
  unfold pourJ
  rw [e]
  refine ⟨⟨a1, ?_⟩, fun k hk => ⟨fun ek => ?_, fun ek => ?_⟩, fun k hk j hj => ?_⟩
  · show ca'.toInt = ((i + 1 : Nat) : Int) - ((pourG P f12 f13 X1 X2 i).1 : Nat)
    omega
  · show (upd g13 X2 q' k).toInt = (((pourG P f12 f13 X1 X2 i).2.2.1 + 1 : Nat) : Int)
    simp only [upd, if_pos ek]
    omega
  · simp only [upd, if_neg ek]
    exact (a3 k hk).2 ek
  · show upd g12 (12 * X2 + q.toNatClampNeg) z (12 * k + j) = if k = X1 then (pourG P f12 f13 X1 X2 i).2.1 j else if k = X2 then upd (pourG P f12 f13 X1 X2 i).2.2.2 (pourG P f12 f13 X1 X2 i).2.2.1 z j else f12 (12 * k + j)
    have a := a4 k hk j hj
    simp only [upd]
    by_cases c : k = X1
    · rw [if_pos c, if_neg (by omega)]
      rw [if_pos c] at a
      exact a
    · rw [if_neg c] at a ⊢
      by_cases c2 : k = X2
      · rw [if_pos c2] at a ⊢
        by_cases c3 : j = (pourG P f12 f13 X1 X2 i).2.2.1
        · rw [if_pos c3, if_pos (by omega)]
        · rw [if_neg c3, if_neg (by omega)]
          exact a
      · rw [if_neg c2] at a ⊢
        rw [if_neg (by omega)]
        exact a
theorem pourJ_no {P : Int32 → Bool} {f12 f13 g12 g13 : Nat → Int32} {X1 X2 i : Nat} {st st' ca z : Int32} (h : pourJ P f12 f13 X1 X2 i st ca g12 g13) (h1 : X1 < 3) (h2 : X2 < 3) (hne : X1 ≠ X2) (hz : z = f12 (12 * X1 + i)) (hN : ¬ (P z = true ∧ (g13 X2).toInt < 12)) (hs : 0 ≤ st.toInt ∧ st.toInt < 12) (hst : st'.toInt = st.toInt + 1) : pourJ P f12 f13 X1 X2 (i + 1) st' ca (upd g12 (12 * X1 + st.toNatClampNeg) z) g13 := by
  obtain ⟨⟨a1, a2⟩, a3, a4⟩ := h
  have t := tn hs.1
  have b := (a3 X2 h2).1 rfl
  have e : pourG P f12 f13 X1 X2 (i + 1) = ((pourG P f12 f13 X1 X2 i).1 + 1, upd (pourG P f12 f13 X1 X2 i).2.1 (pourG P f12 f13 X1 X2 i).1 z, (pourG P f12 f13 X1 X2 i).2.2) := by rw [hz]; exact pourF_no (by rw [← hz]; intro h9; exact hN ⟨h9.1, by have h8 : (pourG P f12 f13 X1 X2 i).2.2.1 < 12 := h9.2; omega⟩)
  unfold pourJ
  rw [e]
  refine ⟨⟨?_, ?_⟩, a3, fun k hk j hj => ?_⟩
  · show st'.toInt = (((pourG P f12 f13 X1 X2 i).1 + 1 : Nat) : Int)
    omega
  · show ca.toInt = ((i + 1 : Nat) : Int) - (((pourG P f12 f13 X1 X2 i).1 + 1 : Nat) : Int)
    omega
  · show upd g12 (12 * X1 + st.toNatClampNeg) z (12 * k + j) = if k = X1 then upd (pourG P f12 f13 X1 X2 i).2.1 (pourG P f12 f13 X1 X2 i).1 z j else if k = X2 then (pourG P f12 f13 X1 X2 i).2.2.2 j else f12 (12 * k + j)
    have a := a4 k hk j hj
    simp only [upd]
    by_cases c : k = X1
    · rw [if_pos c] at a ⊢
      by_cases c3 : j = (pourG P f12 f13 X1 X2 i).1
      · rw [if_pos c3, if_pos (by omega)]
      · rw [if_neg c3, if_neg (by omega)]
        exact a
    · rw [if_neg c] at a ⊢
      rw [if_neg (by omega)]
      exact a
theorem pourJ_end {n9 x1 x2 x3 r st : Int32} {fk f12 f13 g12 g13 : Nat → Int32} {i : Nat} (V : pourV x1 x2 x3) (h : pourJ (prP x3 n9 fk) f12 f13 x1.toNatClampNeg x2.toNatClampNeg i st r g12 g13) (hi : i = (f13 x1.toNatClampNeg).toNatClampNeg) (h0 : 0 ≤ (f13 x1.toNatClampNeg).toInt) : pourR n9 x1 x2 x3 r fk f13 (upd g13 x1.toNatClampNeg st) f12 g12 := by
  subst hi
  obtain ⟨⟨a1, a2⟩, a3, a4⟩ := h
  have t := tn h0
  have t1 := tn V.1.1.1
  have t2 := tn V.1.2.1
  have hne : x1.toNatClampNeg ≠ x2.toNatClampNeg := by have := V.2.1; omega
  refine Or.inr ⟨V, _, rfl, ?_, fun k hk => ⟨fun e => ⟨?_, fun j hj => ?_⟩, fun e => ⟨?_, fun j hj => ?_⟩, fun e1 e2 => ⟨?_, fun j hj => ?_⟩⟩⟩
  · show r.toInt = (f13 x1.toNatClampNeg).toInt - ((pourG (prP x3 n9 fk) f12 f13 x1.toNatClampNeg x2.toNatClampNeg (f13 x1.toNatClampNeg).toNatClampNeg).1 : Nat)
    omega
  · simp only [upd, if_pos e]; exact a1
  · have a := a4 k hk j hj
    rw [if_pos e] at a
    exact a
  · simp only [upd]
    rw [if_neg (by omega)]
    exact (a3 k hk).1 e
  · have a := a4 k hk j hj
    rw [if_neg (by omega), if_pos e] at a
    exact a
  · simp only [upd, if_neg e1]
    exact (a3 k hk).2 e2
  · have a := a4 k hk j hj
    rw [if_neg e1, if_neg e2] at a
    exact a
theorem dX1_append_0 : decode cX1_append 0 = .ok (.aload_n 0, 1) := by decide +kernel
theorem dX1_append_1 : decode cX1_append 1 = .ok (.getfield 9, 3) := by decide +kernel
theorem dX1_append_10 : decode cX1_append 10 = .ok (.ireturn, 1) := by decide +kernel
theorem dX1_append_11 : decode cX1_append 11 = .ok (.aload_n 0, 1) := by decide +kernel
theorem dX1_append_12 : decode cX1_append 12 = .ok (.getfield 15, 3) := by decide +kernel
theorem dX1_append_15 : decode cX1_append 15 = .ok (.aload_n 0, 1) := by decide +kernel
theorem dX1_append_16 : decode cX1_append 16 = .ok (.getfield 9, 3) := by decide +kernel
theorem dX1_append_19 : decode cX1_append 19 = .ok (.iload_n 1, 1) := by decide +kernel
theorem dX1_append_20 : decode cX1_append 20 = .ok (.iastore, 1) := by decide +kernel
theorem dX1_append_21 : decode cX1_append 21 = .ok (.aload_n 0, 1) := by decide +kernel
theorem dX1_append_22 : decode cX1_append 22 = .ok (.dup, 1) := by decide +kernel
theorem dX1_append_23 : decode cX1_append 23 = .ok (.getfield 9, 3) := by decide +kernel
theorem dX1_append_26 : decode cX1_append 26 = .ok (.iconst 1, 1) := by decide +kernel
theorem dX1_append_27 : decode cX1_append 27 = .ok (.iadd, 1) := by decide +kernel
theorem dX1_append_28 : decode cX1_append 28 = .ok (.putfield 9, 3) := by decide +kernel
theorem dX1_append_31 : decode cX1_append 31 = .ok (.iconst 1, 1) := by decide +kernel
theorem dX1_append_32 : decode cX1_append 32 = .ok (.ireturn, 1) := by decide +kernel
theorem dX1_append_4 : decode cX1_append 4 = .ok (.bipush 12, 2) := by decide +kernel
theorem dX1_append_6 : decode cX1_append 6 = .ok (.if_icmp .lt 5, 3) := by decide +kernel
theorem dX1_append_9 : decode cX1_append 9 = .ok (.iconst 0, 1) := by decide +kernel
set_option maxRecDepth 20000 in
theorem in_X1_append_X1 : ∀ w ∈ wsX10, w ∈ wsX1_append := sub_r [3, 4] rfl
set_option maxHeartbeats 4000000 in
set_option maxRecDepth 100000 in
theorem c_X1_append (l : Launch) (D : va_G) (T : Nat → ClassId) (sz : Nat) (h0 : Nat) (n : Int32) (a0 : Nat) (f : Nat → Int32) (x1 : Int32) (hn : 0 ≤ n.toInt ∧ n.toInt ≤ 12) : Met l yX1_append wsX1_append ({ frames := 0, cells := 0, slots := 0, locals := 0 }) (pW [.ref h0, .int x1] D T [(h0, .inr (0, [.int n, .ref a0])), (a0, .inl (T 0, 12, .inl f))] sz) (va_Qi (fun (r : Int32) (u : Int32 × (Nat → Int32)) => (r = if n.toInt < 12 then 1 else 0) ∧ (0 ≤ u.1.toInt ∧ u.1.toInt ≤ 12) ∧ ((n).toInt < 12 → u.1.toInt = (n).toInt + 1 ∧ u.2 = upd f ((n).toNatClampNeg) x1) ∧ (¬ (n).toInt < 12 → u.1 = n ∧ u.2 = f)) (bW D (va_A [(h0, .inr (0, [.int n, .ref a0])), (a0, .inl (T 0, 12, .inl f))] sz) (fun (u : Int32 × (Nat → Int32)) => [(h0, .inr (0, [.int u.1, .ref a0])), (a0, .inl (T 0, 12, .inl u.2))])) (va_A [(h0, .inr (0, [.int n, .ref a0])), (a0, .inl (T 0, 12, .inl f))] sz)) 0 0 (va_A [(h0, .inr (0, [.int n, .ref a0])), (a0, .inl (T 0, 12, .inl f))] sz) := by
  refine Met.ofW (cc := cX1_append) (maxL := 2) (ret := (some .boolean)) (by decide +kernel) rfl ?_
  intro p e s m args below meth c s₁ B hml hv
  obtain ⟨rfl, hsz, hP, hE, hD0⟩ := hv
  have hx := B.exec
  have hb := B.bytes
  have hr := B.returns
  have hts := atoms_spec (ws := wsX1_append) B.pre
  have hown : s.vm.findClass RX1 = some m.cls := findClass_of_methodNamed B.named
  have hlocks := B.notSynchronized
  subst hsz
  have hD := hD0.self (sz := s.heap.size)
  generalize hAe : va_A [(h0, .inr (0, [.int n, .ref a0])), (a0, .inl (T 0, 12, .inl f))] s.heap.size = A at hD ⊢
  have hA : ∀ q : Nat, s.heap.size ≤ q → A q := fun q h => by rw [← hAe]; exact Or.inr h
  have hS : va_S A s.heap s.heap [] := va_S.rf
  have hP : va_P D vwCl [(h0, .inr (0, [.int n, .ref a0])), (a0, .inl (T 0, 12, .inl f))] s.heap := hP
  have hl := lv_entry ([.ref h0, .int x1]) (n := 2) (Nat.le_of_ble_eq_true rfl)
  rw [lg_entry_eq]
  generalize (lg_sl ([.ref h0, .int x1]) ++ List.replicate (2 - (lg_sl ([.ref h0, .int x1])).length) Slot.unset).toArray = ls at hl ⊢
  have hl : lv_has ls 2 [(0, .ref h0), (1, .int x1)] := hl
  clear hD0
  refine lv_aload_n hx hb dX1_append_0 rfl (lv_at hl 0 rfl) ?_
  refine va_get (D := D) (ci := 0) (v := .int n) (C := RX1) (T := TX1) (N := 2) hx hb hts in_X1_append_X1 hown hE.1 hP 0 rfl rfl 0 (by decide +kernel) (hts (.fieldLink RX1 9 "ClauseBook$Bag" "size" "I") (List.mem_of_getElem? (i := 1) rfl)) (fun _ h9 => h9) rfl dX1_append_1 ?_
  refine lv_bipush (v := 12) hx hb dX1_append_4 (by decide +kernel) ?_
  refine lv_icmp_lt (tgt := 11) hx hb dX1_append_6 (by decide +kernel) (fun c_1 => ?_) (fun c_1 => ?_)
  · rw [fa_lt] at c_1
    try rw [ti_12] at c_1
    refine lv_aload_n hx hb dX1_append_11 rfl (lv_at hl 0 rfl) ?_
    refine va_get (D := D) (ci := 0) (v := .ref a0) (C := RX1) (T := TX1) (N := 2) hx hb hts in_X1_append_X1 hown hE.1 hP 0 rfl rfl 1 (by decide +kernel) (hts (.fieldLink RX1 15 "ClauseBook$Bag" "numbers" "[I") (List.mem_of_getElem? (i := 2) rfl)) (fun _ h9 => h9) rfl dX1_append_12 ?_
    refine lv_aload_n hx hb dX1_append_15 rfl (lv_at hl 0 rfl) ?_
    refine va_get (D := D) (ci := 0) (v := .int n) (C := RX1) (T := TX1) (N := 2) hx hb hts in_X1_append_X1 hown hE.1 hP 0 rfl rfl 0 (by decide +kernel) (hts (.fieldLink RX1 9 "ClauseBook$Bag" "size" "I") (List.mem_of_getElem? (i := 1) rfl)) (fun _ h9 => h9) rfl dX1_append_16 ?_
    refine lv_iload_n hx hb dX1_append_19 rfl (lv_at hl 1 rfl) ?_
    refine va_iast hx hb hE.1 hP hD hS 1 0 rfl rfl (by rw [vp_in_iff]; first | omega | (subst_vars; rw [dec1 (by omega)]; omega) | (subst_vars; rw [inc1 (n := 1000) (by omega) (by decide +kernel)]; omega)) dX1_append_20 (fun H locs hP hD hS => ?_)
    obtain ⟨hP, hD⟩ := wPD [(h0, .inr (0, [.int n, .ref a0])), (a0, .inl (T 0, 12, .inl (upd f (n.toNatClampNeg) x1)))] hP hD rfl
    refine lv_aload_n hx hb dX1_append_21 rfl (lv_at hl 0 rfl) ?_
    refine lv_dup hx hb dX1_append_22 rfl ?_
    refine va_get (D := D) (ci := 0) (v := .int n) (C := RX1) (T := TX1) (N := 2) hx hb hts in_X1_append_X1 hown hE.1 hP 0 rfl rfl 0 (by decide +kernel) (hts (.fieldLink RX1 9 "ClauseBook$Bag" "size" "I") (List.mem_of_getElem? (i := 1) rfl)) (fun _ h9 => h9) rfl dX1_append_23 ?_
    refine lv_iconst (v := 1) hx hb dX1_append_26 (by decide +kernel) ?_
    refine lv_iadd hx hb dX1_append_27 ?_
    refine lv_topi (fun z_2 ez_2 => ?_)
    refine va_put (D := D) (ci := 0) (v := .int z_2) (ty := .int) (C := RX1) (T := TX1) (N := 2) hx hb hts in_X1_append_X1 tyX1 tyX1_ok nmX1 hown hE.1 hP hD hS 0 rfl rfl 0 (by decide +kernel) (hts (.fieldLink RX1 9 "ClauseBook$Bag" "size" "I") (List.mem_of_getElem? (i := 1) rfl)) (fun _ h9 => h9) rfl (by decide +kernel) rfl rfl (Nat.le_of_ble_eq_true rfl) dX1_append_28 (fun H locs hP hD hS => ?_)
    obtain ⟨hP, hD⟩ := wPD [(h0, .inr (0, [.int z_2, .ref a0])), (a0, .inl (T 0, 12, .inl (upd f (n.toNatClampNeg) x1)))] hP hD rfl
    refine lv_iconst (v := 1) hx hb dX1_append_31 (by decide +kernel) ?_
    exact W.zret hx hb hr rfl (fun t ht hW => ⟨⟨_, (z_2, (upd f (n.toNatClampNeg) x1)), rfl, ⟨(by exact (if_pos (by omega)).symm), (by (try subst_vars); (try dsimp only); first | omega | (rw [inc1 (n := 12) (by omega) (by decide +kernel)]; omega)), (fun _ => ⟨(by (try dsimp only); rw [ez_2]; exact inc1 (n := 12) (by omega) (by decide +kernel)), rfl⟩), (fun h9 => absurd (by omega) h9)⟩, by rw [ht]; exact hP.sub [0, 1] rfl, hD.sub [0, 1] (by decide +kernel) rfl⟩, hS.F ht⟩) hS.2.2 dX1_append_32
  · rw [fa_lt] at c_1
    try rw [ti_12] at c_1
    refine lv_iconst (v := 0) hx hb dX1_append_9 (by decide +kernel) ?_
    exact W.zret hx hb hr rfl (fun t ht hW => ⟨⟨_, (n, f), rfl, ⟨(by exact (if_neg (by omega)).symm), (by (try subst_vars); (try dsimp only); first | omega | (rw [inc1 (n := 12) (by omega) (by decide +kernel)]; omega)), (fun h9 => absurd h9 (by omega)), (fun _ => ⟨rfl, rfl⟩)⟩, by rw [ht]; exact hP.sub [0, 1] rfl, hD.sub [0, 1] (by decide +kernel) rfl⟩, hS.F ht⟩) hS.2.2 dX1_append_10
end
section
theorem dX12_put_0 : decode cX12_put 0 = .ok (.iload_n 1, 1) := by decide +kernel
theorem dX12_put_1 : decode cX12_put 1 = .ok (.invokestatic 300, 3) := by decide +kernel
theorem dX12_put_11 : decode cX12_put 11 = .ok (.iload_n 2, 1) := by decide +kernel
theorem dX12_put_12 : decode cX12_put 12 = .ok (.invokevirtual 150, 3) := by decide +kernel
theorem dX12_put_15 : decode cX12_put 15 = .ok (.ifCond .ne 6, 3) := by decide +kernel
theorem dX12_put_18 : decode cX12_put 18 = .ok (.bipush (-2), 2) := by decide +kernel
theorem dX12_put_20 : decode cX12_put 20 = .ok (.ireturn, 1) := by decide +kernel
theorem dX12_put_21 : decode cX12_put 21 = .ok (.aload_n 0, 1) := by decide +kernel
theorem dX12_put_22 : decode cX12_put 22 = .ok (.getfield 37, 3) := by decide +kernel
theorem dX12_put_25 : decode cX12_put 25 = .ok (.iload_n 1, 1) := by decide +kernel
theorem dX12_put_26 : decode cX12_put 26 = .ok (.aaload, 1) := by decide +kernel
theorem dX12_put_27 : decode cX12_put 27 = .ok (.iload_n 2, 1) := by decide +kernel
theorem dX12_put_28 : decode cX12_put 28 = .ok (.invokevirtual 303, 3) := by decide +kernel
theorem dX12_put_31 : decode cX12_put 31 = .ok (.ifCond .eq 15, 3) := by decide +kernel
theorem dX12_put_34 : decode cX12_put 34 = .ok (.aload_n 0, 1) := by decide +kernel
theorem dX12_put_35 : decode cX12_put 35 = .ok (.getfield 37, 3) := by decide +kernel
theorem dX12_put_38 : decode cX12_put 38 = .ok (.iload_n 1, 1) := by decide +kernel
theorem dX12_put_39 : decode cX12_put 39 = .ok (.aaload, 1) := by decide +kernel
theorem dX12_put_4 : decode cX12_put 4 = .ok (.ifCond .eq 14, 3) := by decide +kernel
theorem dX12_put_40 : decode cX12_put 40 = .ok (.getfield 307, 3) := by decide +kernel
theorem dX12_put_43 : decode cX12_put 43 = .ok (.goto 5, 3) := by decide +kernel
theorem dX12_put_46 : decode cX12_put 46 = .ok (.bipush (-4), 2) := by decide +kernel
theorem dX12_put_48 : decode cX12_put 48 = .ok (.ireturn, 1) := by decide +kernel
theorem dX12_put_7 : decode cX12_put 7 = .ok (.aload_n 0, 1) := by decide +kernel
theorem dX12_put_8 : decode cX12_put 8 = .ok (.getfield 32, 3) := by decide +kernel
set_option maxRecDepth 20000 in
theorem ggX12_put_X12_isBag : GoodIn wsX12_put wsX12_isBag := goodIn_r _ [7, 8, 9, 6, 10] rfl (by decide +kernel)
set_option maxRecDepth 20000 in
theorem ggX12_put_X1_append : GoodIn wsX12_put wsX1_append := goodIn_r _ [21, 22, 23, 35, 36] rfl (by decide +kernel)
set_option maxRecDepth 20000 in
theorem ggX12_put_X2_has : GoodIn wsX12_put wsX2_has := goodIn_r _ [15, 16, 9, 6, 10, 37, 38, 39, 40, 41, 42, 43, 44] rfl (by decide +kernel)
set_option maxRecDepth 20000 in
theorem gX12_put_X12_isBag : GoodIn wsX12_put (va_wsS RX12 300 yX12_isBag wsX12_isBag) := goodIn_app (goodIn_of _ (by decide +kernel)) ggX12_put_X12_isBag
set_option maxRecDepth 20000 in
theorem gX12_put_X1_append : GoodIn wsX12_put (wsV RX12 303 RX1 yX1_append wsX1_append) := goodIn_app (goodIn_r _ [17, 18, 19, 20] rfl (by decide +kernel)) ggX12_put_X1_append
set_option maxRecDepth 20000 in
theorem gX12_put_X2_has : GoodIn wsX12_put (wsV RX12 150 RX2 yX2_has wsX2_has) := goodIn_app (goodIn_r _ [11, 12, 13, 14] rfl (by decide +kernel)) ggX12_put_X2_has
theorem hs_X12_isBag : yX12_isBag.cls ≠ "java/lang/invoke/MethodHandle" ∧ yX12_isBag.cls ≠ "java/lang/invoke/VarHandle" ∧ (parseMethodDescriptor yX12_isBag.desc).map (fun d => d.parameters.length) = some 1 := by decide +kernel
theorem hv_X1_append : yX1_append.cls = RX1 ∧ yX1_append.cls ≠ "java/lang/invoke/MethodHandle" ∧ yX1_append.cls ≠ "java/lang/invoke/VarHandle" ∧ (parseMethodDescriptor yX1_append.desc).map (fun d => d.parameters.length) = some 1 := by decide +kernel
set_option maxRecDepth 20000 in
theorem in_X12_put_X1 : ∀ w ∈ wsX10, w ∈ wsX12_put := sub_r [35, 36] rfl
set_option maxRecDepth 20000 in
theorem in_X12_put_X12 : ∀ w ∈ wsX120, w ∈ wsX12_put := sub_r [24, 25, 26, 27, 28, 29, 30, 31, 32, 33, 34] rfl
set_option maxHeartbeats 4000000 in
set_option maxRecDepth 100000 in
theorem c_X12_put (l : Launch) (D : va_G) (T : Nat → ClassId) (sz : Nat) (h0 : Nat) (h1 : Nat) (h2 : Nat) (fs0 : List Value) (fs2 : List Value) (n9 : Int32) (t0 : Nat) (t1 : Nat) (t2 : Nat) (a0 : Nat) (a1 : Nat) (a2 : Nat) (bn : Nat → Int32) (bf : Nat → Nat → Int32) (x1 : Int32) (x2 : Int32) (e0_5 : fs0[5]? = some (.ref h1)) (e0_4 : fs0[4]? = some (.ref h2)) (e2_0 : fs2[0]? = some (.int n9)) (hn : 0 ≤ n9.toInt ∧ n9.toInt ≤ 24) (hb0 : 0 ≤ (bn 0).toInt ∧ (bn 0).toInt ≤ 12) (hb1 : 0 ≤ (bn 1).toInt ∧ (bn 1).toInt ≤ 12) (hb2 : 0 ≤ (bn 2).toInt ∧ (bn 2).toInt ≤ 12) : Met l yX12_put wsX12_put ({ frames := 2, cells := 0, slots := 0, locals := 43 }) (pW [.ref h0, .int x1, .int x2] D T [(h0, .inr (9, fs0)), (h1, .inl (T 5, 3, .inr (.inr (.inr (.inr (va_up (va_up (va_up (fun _ => none) 0 (some t0)) 1 (some t1)) 2 (some t2))))))), (h2, .inr (1, fs2)), (t0, .inr (0, [.int (bn 0), .ref a0])), (t1, .inr (0, [.int (bn 1), .ref a1])), (t2, .inr (0, [.int (bn 2), .ref a2])), (a0, .inl (T 0, 12, .inl (bf 0))), (a1, .inl (T 0, 12, .inl (bf 1))), (a2, .inl (T 0, 12, .inl (bf 2)))] sz) (va_Qi (fun (r : Int32) (u : (Nat → Int32) × (Nat → Nat → Int32)) => (0 ≤ (u.1 0).toInt ∧ (u.1 0).toInt ≤ 12) ∧ (0 ≤ (u.1 1).toInt ∧ (u.1 1).toInt ≤ 12) ∧ (0 ≤ (u.1 2).toInt ∧ (u.1 2).toInt ≤ 12) ∧ putC n9 x1 x2 r bn u.1 bf u.2) (bW D (va_A [(h0, .inr (9, fs0)), (h1, .inl (T 5, 3, .inr (.inr (.inr (.inr (va_up (va_up (va_up (fun _ => none) 0 (some t0)) 1 (some t1)) 2 (some t2))))))), (h2, .inr (1, fs2)), (t0, .inr (0, [.int (bn 0), .ref a0])), (t1, .inr (0, [.int (bn 1), .ref a1])), (t2, .inr (0, [.int (bn 2), .ref a2])), (a0, .inl (T 0, 12, .inl (bf 0))), (a1, .inl (T 0, 12, .inl (bf 1))), (a2, .inl (T 0, 12, .inl (bf 2)))] sz) (fun (u : (Nat → Int32) × (Nat → Nat → Int32)) => [(h0, .inr (9, fs0)), (h1, .inl (T 5, 3, .inr (.inr (.inr (.inr (va_up (va_up (va_up (fun _ => none) 0 (some t0)) 1 (some t1)) 2 (some t2))))))), (h2, .inr (1, fs2)), (t0, .inr (0, [.int (u.1 0), .ref a0])), (t1, .inr (0, [.int (u.1 1), .ref a1])), (t2, .inr (0, [.int (u.1 2), .ref a2])), (a0, .inl (T 0, 12, .inl (u.2 0))), (a1, .inl (T 0, 12, .inl (u.2 1))), (a2, .inl (T 0, 12, .inl (u.2 2)))])) (va_A [(h0, .inr (9, fs0)), (h1, .inl (T 5, 3, .inr (.inr (.inr (.inr (va_up (va_up (va_up (fun _ => none) 0 (some t0)) 1 (some t1)) 2 (some t2))))))), (h2, .inr (1, fs2)), (t0, .inr (0, [.int (bn 0), .ref a0])), (t1, .inr (0, [.int (bn 1), .ref a1])), (t2, .inr (0, [.int (bn 2), .ref a2])), (a0, .inl (T 0, 12, .inl (bf 0))), (a1, .inl (T 0, 12, .inl (bf 1))), (a2, .inl (T 0, 12, .inl (bf 2)))] sz)) 0 0 (va_A [(h0, .inr (9, fs0)), (h1, .inl (T 5, 3, .inr (.inr (.inr (.inr (va_up (va_up (va_up (fun _ => none) 0 (some t0)) 1 (some t1)) 2 (some t2))))))), (h2, .inr (1, fs2)), (t0, .inr (0, [.int (bn 0), .ref a0])), (t1, .inr (0, [.int (bn 1), .ref a1])), (t2, .inr (0, [.int (bn 2), .ref a2])), (a0, .inl (T 0, 12, .inl (bf 0))), (a1, .inl (T 0, 12, .inl (bf 1))), (a2, .inl (T 0, 12, .inl (bf 2)))] sz) := by
  refine Met.ofW (cc := cX12_put) (maxL := 3) (ret := (some .int)) (by decide +kernel) rfl ?_
  intro p e s m args below meth c s₁ B hml hv
  obtain ⟨rfl, hsz, hP, hE, hD0⟩ := hv
  have hx := B.exec
  have hb := B.bytes
  have hr := B.returns
  have hts := atoms_spec (ws := wsX12_put) B.pre
  have hown : s.vm.findClass RX12 = some m.cls := findClass_of_methodNamed B.named
  have hlocks := B.notSynchronized
  subst hsz
  have hD := hD0.self (sz := s.heap.size)
  generalize hAe : va_A [(h0, .inr (9, fs0)), (h1, .inl (T 5, 3, .inr (.inr (.inr (.inr (va_up (va_up (va_up (fun _ => none) 0 (some t0)) 1 (some t1)) 2 (some t2))))))), (h2, .inr (1, fs2)), (t0, .inr (0, [.int (bn 0), .ref a0])), (t1, .inr (0, [.int (bn 1), .ref a1])), (t2, .inr (0, [.int (bn 2), .ref a2])), (a0, .inl (T 0, 12, .inl (bf 0))), (a1, .inl (T 0, 12, .inl (bf 1))), (a2, .inl (T 0, 12, .inl (bf 2)))] s.heap.size = A at hD ⊢
  have hA : ∀ q : Nat, s.heap.size ≤ q → A q := fun q h => by rw [← hAe]; exact Or.inr h
  have hS : va_S A s.heap s.heap [] := va_S.rf
  have hP : va_P D vwCl [(h0, .inr (9, fs0)), (h1, .inl (T 5, 3, .inr (.inr (.inr (.inr (va_up (va_up (va_up (fun _ => none) 0 (some t0)) 1 (some t1)) 2 (some t2))))))), (h2, .inr (1, fs2)), (t0, .inr (0, [.int (bn 0), .ref a0])), (t1, .inr (0, [.int (bn 1), .ref a1])), (t2, .inr (0, [.int (bn 2), .ref a2])), (a0, .inl (T 0, 12, .inl (bf 0))), (a1, .inl (T 0, 12, .inl (bf 1))), (a2, .inl (T 0, 12, .inl (bf 2)))] s.heap := hP
  have hl := lv_entry ([.ref h0, .int x1, .int x2]) (n := 3) (Nat.le_of_ble_eq_true rfl)
  rw [lg_entry_eq]
  generalize (lg_sl ([.ref h0, .int x1, .int x2]) ++ List.replicate (3 - (lg_sl ([.ref h0, .int x1, .int x2])).length) Slot.unset).toArray = ls at hl ⊢
  have hl : lv_has ls 3 [(0, .ref h0), (1, .int x1), (2, .int x2)] := hl
  clear hD0
  refine lv_iload_n hx hb dX12_put_0 rfl (lv_at hl 1 rfl) ?_
  refine vp_callSi (W.runS (As := [.int x1]) (rest := []) ⟨hx, hb, hml, hown, hts⟩ (c_X12_isBag l D T x1) (va_cwS 1 hts gX12_put_X12_isBag rfl rfl rfl hs_X12_isBag ⟨Nat.le_of_ble_eq_true rfl, Nat.le_of_ble_eq_true rfl⟩) (pR_S hP hE [] rfl) rfl rfl hl.1 rfl (lv_room (Nat.le_of_ble_eq_true rfl)) dX12_put_1 ⟨Nat.le_of_ble_eq_true rfl, Nat.le_of_ble_eq_true rfl⟩) (fun r_1 hr_1 => ?_)
  rcases bool_post hr_1 with ⟨c_2, rfl⟩ | ⟨c_2, rfl⟩
  · refine lv_if_eq (tgt := 18) hx hb dX12_put_4 (by decide +kernel) (fun c9 => absurd c9 (by decide +kernel)) (fun _ => ?_)
    refine lv_aload_n hx hb dX12_put_7 rfl (lv_at hl 0 rfl) ?_
    refine va_get (D := D) (ci := 9) (v := .ref h2) (C := RX12) (T := TX12) (N := 11) hx hb hts in_X12_put_X12 hown hE.1 hP 0 rfl rfl 4 (by decide +kernel) (hts (.fieldLink RX12 32 "ClauseBook" "clauses" "LClauseBook$Clauses;") (List.mem_of_getElem? (i := 1) rfl)) (fun _ h9 => h9) e0_4 dX12_put_8 ?_
    refine lv_iload_n hx hb dX12_put_11 rfl (lv_at hl 2 rfl) ?_
    refine vp_callSi (W.runV (As := [.int x2]) (rest := []) ⟨hx, hb, hml, hown, hts⟩ (c_X2_has l D T h2 fs2 x2 n9 e2_0 (by omega)) (cwV 1 hts gX12_put_X2_has rfl rfl rfl hv_X2_has ⟨Nat.le_of_ble_eq_true rfl, Nat.le_of_ble_eq_true rfl⟩) (pR_V (q := (RX2, TX2, 8)) (ci := 1) (q0 := 2) hP hE rfl rfl [2] rfl) rfl rfl hl.1 rfl (lv_room (Nat.le_of_ble_eq_true rfl)) dX12_put_12 ⟨Nat.le_of_ble_eq_true rfl, Nat.le_of_ble_eq_true rfl⟩) (fun r_3 hr_3 => ?_)
    rcases bool_post hr_3 with ⟨c_4, rfl⟩ | ⟨c_4, rfl⟩
    · refine lv_if_ne (tgt := 21) hx hb dX12_put_15 (by decide +kernel) (fun _ => ?_) (fun c9 => absurd c9 (by decide +kernel))
      refine lv_aload_n hx hb dX12_put_21 rfl (lv_at hl 0 rfl) ?_
      refine va_get (D := D) (ci := 9) (v := .ref h1) (C := RX12) (T := TX12) (N := 11) hx hb hts in_X12_put_X12 hown hE.1 hP 0 rfl rfl 5 (by decide +kernel) (hts (.fieldLink RX12 37 "ClauseBook" "bags" "[LClauseBook$Bag;") (List.mem_of_getElem? (i := 2) rfl)) (fun _ h9 => h9) e0_5 dX12_put_22 ?_
      refine lv_iload_n hx hb dX12_put_25 rfl (lv_at hl 1 rfl) ?_
      rcases in3 (x := x1) (by omega) with rfl | rfl | rfl
      · refine va_aldq hx hb hE.1 hP 1 5 rfl rfl (by unfold vp_in; decide) dX12_put_26 ?_
        refine W.eq (g2 := F0 m 27 ls [.ref t0]) rfl ?_
        refine lv_iload_n hx hb dX12_put_27 rfl (lv_at hl 2 rfl) ?_
        have hFc := va_free (wc := [(t0, .inr (0, [.int (bn 0), .ref a0])), (a0, .inl (T 0, 12, .inl (bf 0)))]) hD hS hA [3, 6] rfl
        refine va_calli (va_runV (As := [.int x2]) (rest := []) ⟨hx, hb, hml, hown, hts⟩ (c_X1_append l D T _ t0 (bn 0) a0 (bf 0) x2 (by omega)) (cwV 1 hts gX12_put_X1_append rfl rfl rfl hv_X1_append ⟨Nat.le_of_ble_eq_true rfl, Nat.le_of_ble_eq_true rfl⟩) (pW_V (q := (RX1, TX1, 2)) (ci := 0) (q0 := 3) hP hE hD rfl rfl [3, 6] (by decide +kernel) rfl rfl) rfl rfl hl.1 rfl (lv_room (Nat.le_of_ble_eq_true rfl)) dX12_put_28 ⟨Nat.le_of_ble_eq_true rfl, Nat.le_of_ble_eq_true rfl⟩) hS (fun q _ h => hFc q h) hFc (fun r_5 u_6 t H1 locs ht hvm hr_5 hB hz1 hk1 hS => ?_)
        obtain ⟨n_7, f_8⟩ := u_6
        have hinn_7 : 0 ≤ n_7.toInt ∧ n_7.toInt ≤ 12 := hr_5.2.1
        have hap : (((bn 0)).toInt < 12 → n_7.toInt = ((bn 0)).toInt + 1 ∧ f_8 = upd (bf 0) (((bn 0)).toNatClampNeg) x2) ∧ (¬ ((bn 0)).toInt < 12 → n_7 = (bn 0) ∧ f_8 = (bf 0)) := hr_5.2.2
        have hbo : r_5 = if ((bn 0)).toInt < 12 then 1 else 0 := hr_5.1
        obtain ⟨hP1, hD1⟩ := hB
        rw [ht] at hP1
        obtain ⟨hP, hD⟩ := va_repl [(h0, .inr (9, fs0)), (h1, .inl (T 5, 3, .inr (.inr (.inr (.inr (va_up (va_up (va_up (fun _ => none) 0 (some t0)) 1 (some t1)) 2 (some t2))))))), (h2, .inr (1, fs2)), (t0, .inr (0, [.int n_7, .ref a0])), (t1, .inr (0, [.int (bn 1), .ref a1])), (t2, .inr (0, [.int (bn 2), .ref a2])), (a0, .inl (T 0, 12, .inl f_8)), (a1, .inl (T 0, 12, .inl (bf 1))), (a2, .inl (T 0, 12, .inl (bf 2)))] hP hD [3, 6] [3, 6] rfl (by decide +kernel) rfl rfl rfl hk1 hP1
        clear hP1 hD1 hFc
        generalize H1 = H at hP hS ⊢
        rcases bool_post hbo with ⟨c_9, rfl⟩ | ⟨c_9, rfl⟩
        · refine lv_if_eq (tgt := 46) hx hb dX12_put_31 (by decide +kernel) (fun c9 => absurd c9 (by decide +kernel)) (fun _ => ?_)
          refine lv_aload_n hx hb dX12_put_34 rfl (lv_at hl 0 rfl) ?_
          refine va_get (D := D) (ci := 9) (v := .ref h1) (C := RX12) (T := TX12) (N := 11) hx hb hts in_X12_put_X12 hown hE.1 hP 0 rfl rfl 5 (by decide +kernel) (hts (.fieldLink RX12 37 "ClauseBook" "bags" "[LClauseBook$Bag;") (List.mem_of_getElem? (i := 2) rfl)) (fun _ h9 => h9) e0_5 dX12_put_35 ?_
          refine lv_iload_n hx hb dX12_put_38 rfl (lv_at hl 1 rfl) ?_
          refine va_aldq hx hb hE.1 hP 1 5 rfl rfl (by unfold vp_in; decide) dX12_put_39 ?_
          refine W.eq (g2 := F0 m 40 ls [.ref t0]) rfl ?_
          refine va_get (D := D) (ci := 0) (v := .int n_7) (C := RX1) (T := TX1) (N := 2) hx hb hts in_X12_put_X1 hown hE.1 hP 3 rfl rfl 0 (by decide +kernel) (hts (.fieldLink RX12 307 "ClauseBook$Bag" "size" "I") (List.mem_of_getElem? (i := 3) rfl)) (fun _ h9 => h9) rfl dX12_put_40 ?_
          refine lv_goto (tgt := 48) hx hb dX12_put_43 (by decide +kernel) ?_
          exact W.iret hx hb hr (fun t ht hW => ⟨⟨_, ((fun k => [n_7, (bn 1), (bn 2)].getD k 0), (fun k => [f_8, (bf 1), (bf 2)].getD k f_8)), rfl, ⟨(show 0 ≤ (n_7).toInt ∧ (n_7).toInt ≤ 12 from by (try subst_vars); first | omega | (rw [dec1 (by omega)]; omega)), (show 0 ≤ ((bn 1)).toInt ∧ ((bn 1)).toInt ≤ 12 from by (try subst_vars); first | omega | (rw [dec1 (by omega)]; omega)), (show 0 ≤ ((bn 2)).toInt ∧ ((bn 2)).toInt ≤ 12 from by (try subst_vars); first | omega | (rw [dec1 (by omega)]; omega)), (Or.inr (Or.inr ⟨⟨⟨by decide, by decide⟩, by omega⟩, (show (bn 0).toInt < 12 from by omega), (show n_7.toInt = (bn 0).toInt + 1 from (hap.1 (by omega)).1), all3 ⟨(fun _ => ⟨rfl, (hap.1 (by omega)).2⟩), (fun h9 => absurd (by decide +kernel) h9)⟩ ⟨(fun h9 => absurd h9 (by decide +kernel)), (fun _ => ⟨rfl, rfl⟩)⟩ ⟨(fun h9 => absurd h9 (by decide +kernel)), (fun _ => ⟨rfl, rfl⟩)⟩⟩))⟩, by rw [ht]; exact hP.sub [0, 1, 2, 3, 4, 5, 6, 7, 8] rfl, hD.sub [0, 1, 2, 3, 4, 5, 6, 7, 8] (by decide +kernel) rfl⟩, hS.F ht⟩) hS.2.2 dX12_put_48
        · refine lv_if_eq (tgt := 46) hx hb dX12_put_31 (by decide +kernel) (fun _ => ?_) (fun c9 => absurd c9 (by decide +kernel))
          refine lv_bipush (v := (-4)) hx hb dX12_put_46 (by decide +kernel) ?_
          exact W.iret hx hb hr (fun t ht hW => ⟨⟨_, ((fun k => [n_7, (bn 1), (bn 2)].getD k 0), (fun k => [f_8, (bf 1), (bf 2)].getD k f_8)), rfl, ⟨(show 0 ≤ (n_7).toInt ∧ (n_7).toInt ≤ 12 from by (try subst_vars); first | omega | (rw [dec1 (by omega)]; omega)), (show 0 ≤ ((bn 1)).toInt ∧ ((bn 1)).toInt ≤ 12 from by (try subst_vars); first | omega | (rw [dec1 (by omega)]; omega)), (show 0 ≤ ((bn 2)).toInt ∧ ((bn 2)).toInt ≤ 12 from by (try subst_vars); first | omega | (rw [dec1 (by omega)]; omega)), (Or.inr (Or.inl ⟨⟨⟨by decide, by decide⟩, by omega⟩, (show 12 ≤ (bn 0).toInt from by omega), (by decide +kernel), all3 (hap.2 (by omega)) ⟨rfl, rfl⟩ ⟨rfl, rfl⟩⟩))⟩, by rw [ht]; exact hP.sub [0, 1, 2, 3, 4, 5, 6, 7, 8] rfl, hD.sub [0, 1, 2, 3, 4, 5, 6, 7, 8] (by decide +kernel) rfl⟩, hS.F ht⟩) hS.2.2 dX12_put_48
      · refine va_aldq hx hb hE.1 hP 1 5 rfl rfl (by unfold vp_in; decide) dX12_put_26 ?_
        refine W.eq (g2 := F0 m 27 ls [.ref t1]) rfl ?_
        refine lv_iload_n hx hb dX12_put_27 rfl (lv_at hl 2 rfl) ?_
        have hFc := va_free (wc := [(t1, .inr (0, [.int (bn 1), .ref a1])), (a1, .inl (T 0, 12, .inl (bf 1)))]) hD hS hA [4, 7] rfl
        refine va_calli (va_runV (As := [.int x2]) (rest := []) ⟨hx, hb, hml, hown, hts⟩ (c_X1_append l D T _ t1 (bn 1) a1 (bf 1) x2 (by omega)) (cwV 1 hts gX12_put_X1_append rfl rfl rfl hv_X1_append ⟨Nat.le_of_ble_eq_true rfl, Nat.le_of_ble_eq_true rfl⟩) (pW_V (q := (RX1, TX1, 2)) (ci := 0) (q0 := 4) hP hE hD rfl rfl [4, 7] (by decide +kernel) rfl rfl) rfl rfl hl.1 rfl (lv_room (Nat.le_of_ble_eq_true rfl)) dX12_put_28 ⟨Nat.le_of_ble_eq_true rfl, Nat.le_of_ble_eq_true rfl⟩) hS (fun q _ h => hFc q h) hFc (fun r_10 u_11 t H1 locs ht hvm hr_10 hB hz1 hk1 hS => ?_)
        obtain ⟨n_12, f_13⟩ := u_11
        have hinn_12 : 0 ≤ n_12.toInt ∧ n_12.toInt ≤ 12 := hr_10.2.1
        have hap : (((bn 1)).toInt < 12 → n_12.toInt = ((bn 1)).toInt + 1 ∧ f_13 = upd (bf 1) (((bn 1)).toNatClampNeg) x2) ∧ (¬ ((bn 1)).toInt < 12 → n_12 = (bn 1) ∧ f_13 = (bf 1)) := hr_10.2.2
        have hbo : r_10 = if ((bn 1)).toInt < 12 then 1 else 0 := hr_10.1
        obtain ⟨hP1, hD1⟩ := hB
        rw [ht] at hP1
        obtain ⟨hP, hD⟩ := va_repl [(h0, .inr (9, fs0)), (h1, .inl (T 5, 3, .inr (.inr (.inr (.inr (va_up (va_up (va_up (fun _ => none) 0 (some t0)) 1 (some t1)) 2 (some t2))))))), (h2, .inr (1, fs2)), (t0, .inr (0, [.int (bn 0), .ref a0])), (t1, .inr (0, [.int n_12, .ref a1])), (t2, .inr (0, [.int (bn 2), .ref a2])), (a0, .inl (T 0, 12, .inl (bf 0))), (a1, .inl (T 0, 12, .inl f_13)), (a2, .inl (T 0, 12, .inl (bf 2)))] hP hD [4, 7] [4, 7] rfl (by decide +kernel) rfl rfl rfl hk1 hP1
        clear hP1 hD1 hFc
        generalize H1 = H at hP hS ⊢
        rcases bool_post hbo with ⟨c_14, rfl⟩ | ⟨c_14, rfl⟩
        · refine lv_if_eq (tgt := 46) hx hb dX12_put_31 (by decide +kernel) (fun c9 => absurd c9 (by decide +kernel)) (fun _ => ?_)
          refine lv_aload_n hx hb dX12_put_34 rfl (lv_at hl 0 rfl) ?_
          refine va_get (D := D) (ci := 9) (v := .ref h1) (C := RX12) (T := TX12) (N := 11) hx hb hts in_X12_put_X12 hown hE.1 hP 0 rfl rfl 5 (by decide +kernel) (hts (.fieldLink RX12 37 "ClauseBook" "bags" "[LClauseBook$Bag;") (List.mem_of_getElem? (i := 2) rfl)) (fun _ h9 => h9) e0_5 dX12_put_35 ?_
          refine lv_iload_n hx hb dX12_put_38 rfl (lv_at hl 1 rfl) ?_
          refine va_aldq hx hb hE.1 hP 1 5 rfl rfl (by unfold vp_in; decide) dX12_put_39 ?_
          refine W.eq (g2 := F0 m 40 ls [.ref t1]) rfl ?_
          refine va_get (D := D) (ci := 0) (v := .int n_12) (C := RX1) (T := TX1) (N := 2) hx hb hts in_X12_put_X1 hown hE.1 hP 4 rfl rfl 0 (by decide +kernel) (hts (.fieldLink RX12 307 "ClauseBook$Bag" "size" "I") (List.mem_of_getElem? (i := 3) rfl)) (fun _ h9 => h9) rfl dX12_put_40 ?_
          refine lv_goto (tgt := 48) hx hb dX12_put_43 (by decide +kernel) ?_
          exact W.iret hx hb hr (fun t ht hW => ⟨⟨_, ((fun k => [(bn 0), n_12, (bn 2)].getD k 0), (fun k => [(bf 0), f_13, (bf 2)].getD k (bf 0))), rfl, ⟨(show 0 ≤ ((bn 0)).toInt ∧ ((bn 0)).toInt ≤ 12 from by (try subst_vars); first | omega | (rw [dec1 (by omega)]; omega)), (show 0 ≤ (n_12).toInt ∧ (n_12).toInt ≤ 12 from by (try subst_vars); first | omega | (rw [dec1 (by omega)]; omega)), (show 0 ≤ ((bn 2)).toInt ∧ ((bn 2)).toInt ≤ 12 from by (try subst_vars); first | omega | (rw [dec1 (by omega)]; omega)), (Or.inr (Or.inr ⟨⟨⟨by decide, by decide⟩, by omega⟩, (show (bn 1).toInt < 12 from by omega), (show n_12.toInt = (bn 1).toInt + 1 from (hap.1 (by omega)).1), all3 ⟨(fun h9 => absurd h9 (by decide +kernel)), (fun _ => ⟨rfl, rfl⟩)⟩ ⟨(fun _ => ⟨rfl, (hap.1 (by omega)).2⟩), (fun h9 => absurd (by decide +kernel) h9)⟩ ⟨(fun h9 => absurd h9 (by decide +kernel)), (fun _ => ⟨rfl, rfl⟩)⟩⟩))⟩, by rw [ht]; exact hP.sub [0, 1, 2, 3, 4, 5, 6, 7, 8] rfl, hD.sub [0, 1, 2, 3, 4, 5, 6, 7, 8] (by decide +kernel) rfl⟩, hS.F ht⟩) hS.2.2 dX12_put_48
        · refine lv_if_eq (tgt := 46) hx hb dX12_put_31 (by decide +kernel) (fun _ => ?_) (fun c9 => absurd c9 (by decide +kernel))
          refine lv_bipush (v := (-4)) hx hb dX12_put_46 (by decide +kernel) ?_
          exact W.iret hx hb hr (fun t ht hW => ⟨⟨_, ((fun k => [(bn 0), n_12, (bn 2)].getD k 0), (fun k => [(bf 0), f_13, (bf 2)].getD k (bf 0))), rfl, ⟨(show 0 ≤ ((bn 0)).toInt ∧ ((bn 0)).toInt ≤ 12 from by (try subst_vars); first | omega | (rw [dec1 (by omega)]; omega)), (show 0 ≤ (n_12).toInt ∧ (n_12).toInt ≤ 12 from by (try subst_vars); first | omega | (rw [dec1 (by omega)]; omega)), (show 0 ≤ ((bn 2)).toInt ∧ ((bn 2)).toInt ≤ 12 from by (try subst_vars); first | omega | (rw [dec1 (by omega)]; omega)), (Or.inr (Or.inl ⟨⟨⟨by decide, by decide⟩, by omega⟩, (show 12 ≤ (bn 1).toInt from by omega), (by decide +kernel), all3 ⟨rfl, rfl⟩ (hap.2 (by omega)) ⟨rfl, rfl⟩⟩))⟩, by rw [ht]; exact hP.sub [0, 1, 2, 3, 4, 5, 6, 7, 8] rfl, hD.sub [0, 1, 2, 3, 4, 5, 6, 7, 8] (by decide +kernel) rfl⟩, hS.F ht⟩) hS.2.2 dX12_put_48
      · refine va_aldq hx hb hE.1 hP 1 5 rfl rfl (by unfold vp_in; decide) dX12_put_26 ?_
        refine W.eq (g2 := F0 m 27 ls [.ref t2]) rfl ?_
        refine lv_iload_n hx hb dX12_put_27 rfl (lv_at hl 2 rfl) ?_
        have hFc := va_free (wc := [(t2, .inr (0, [.int (bn 2), .ref a2])), (a2, .inl (T 0, 12, .inl (bf 2)))]) hD hS hA [5, 8] rfl
        refine va_calli (va_runV (As := [.int x2]) (rest := []) ⟨hx, hb, hml, hown, hts⟩ (c_X1_append l D T _ t2 (bn 2) a2 (bf 2) x2 (by omega)) (cwV 1 hts gX12_put_X1_append rfl rfl rfl hv_X1_append ⟨Nat.le_of_ble_eq_true rfl, Nat.le_of_ble_eq_true rfl⟩) (pW_V (q := (RX1, TX1, 2)) (ci := 0) (q0 := 5) hP hE hD rfl rfl [5, 8] (by decide +kernel) rfl rfl) rfl rfl hl.1 rfl (lv_room (Nat.le_of_ble_eq_true rfl)) dX12_put_28 ⟨Nat.le_of_ble_eq_true rfl, Nat.le_of_ble_eq_true rfl⟩) hS (fun q _ h => hFc q h) hFc (fun r_15 u_16 t H1 locs ht hvm hr_15 hB hz1 hk1 hS => ?_)
        obtain ⟨n_17, f_18⟩ := u_16
        have hinn_17 : 0 ≤ n_17.toInt ∧ n_17.toInt ≤ 12 := hr_15.2.1
        have hap : (((bn 2)).toInt < 12 → n_17.toInt = ((bn 2)).toInt + 1 ∧ f_18 = upd (bf 2) (((bn 2)).toNatClampNeg) x2) ∧ (¬ ((bn 2)).toInt < 12 → n_17 = (bn 2) ∧ f_18 = (bf 2)) := hr_15.2.2
        have hbo : r_15 = if ((bn 2)).toInt < 12 then 1 else 0 := hr_15.1
        obtain ⟨hP1, hD1⟩ := hB
        rw [ht] at hP1
        obtain ⟨hP, hD⟩ := va_repl [(h0, .inr (9, fs0)), (h1, .inl (T 5, 3, .inr (.inr (.inr (.inr (va_up (va_up (va_up (fun _ => none) 0 (some t0)) 1 (some t1)) 2 (some t2))))))), (h2, .inr (1, fs2)), (t0, .inr (0, [.int (bn 0), .ref a0])), (t1, .inr (0, [.int (bn 1), .ref a1])), (t2, .inr (0, [.int n_17, .ref a2])), (a0, .inl (T 0, 12, .inl (bf 0))), (a1, .inl (T 0, 12, .inl (bf 1))), (a2, .inl (T 0, 12, .inl f_18))] hP hD [5, 8] [5, 8] rfl (by decide +kernel) rfl rfl rfl hk1 hP1
        clear hP1 hD1 hFc
        generalize H1 = H at hP hS ⊢
        rcases bool_post hbo with ⟨c_19, rfl⟩ | ⟨c_19, rfl⟩
        · refine lv_if_eq (tgt := 46) hx hb dX12_put_31 (by decide +kernel) (fun c9 => absurd c9 (by decide +kernel)) (fun _ => ?_)
          refine lv_aload_n hx hb dX12_put_34 rfl (lv_at hl 0 rfl) ?_
          refine va_get (D := D) (ci := 9) (v := .ref h1) (C := RX12) (T := TX12) (N := 11) hx hb hts in_X12_put_X12 hown hE.1 hP 0 rfl rfl 5 (by decide +kernel) (hts (.fieldLink RX12 37 "ClauseBook" "bags" "[LClauseBook$Bag;") (List.mem_of_getElem? (i := 2) rfl)) (fun _ h9 => h9) e0_5 dX12_put_35 ?_
          refine lv_iload_n hx hb dX12_put_38 rfl (lv_at hl 1 rfl) ?_
          refine va_aldq hx hb hE.1 hP 1 5 rfl rfl (by unfold vp_in; decide) dX12_put_39 ?_
          refine W.eq (g2 := F0 m 40 ls [.ref t2]) rfl ?_
          refine va_get (D := D) (ci := 0) (v := .int n_17) (C := RX1) (T := TX1) (N := 2) hx hb hts in_X12_put_X1 hown hE.1 hP 5 rfl rfl 0 (by decide +kernel) (hts (.fieldLink RX12 307 "ClauseBook$Bag" "size" "I") (List.mem_of_getElem? (i := 3) rfl)) (fun _ h9 => h9) rfl dX12_put_40 ?_
          refine lv_goto (tgt := 48) hx hb dX12_put_43 (by decide +kernel) ?_
          exact W.iret hx hb hr (fun t ht hW => ⟨⟨_, ((fun k => [(bn 0), (bn 1), n_17].getD k 0), (fun k => [(bf 0), (bf 1), f_18].getD k (bf 0))), rfl, ⟨(show 0 ≤ ((bn 0)).toInt ∧ ((bn 0)).toInt ≤ 12 from by (try subst_vars); first | omega | (rw [dec1 (by omega)]; omega)), (show 0 ≤ ((bn 1)).toInt ∧ ((bn 1)).toInt ≤ 12 from by (try subst_vars); first | omega | (rw [dec1 (by omega)]; omega)), (show 0 ≤ (n_17).toInt ∧ (n_17).toInt ≤ 12 from by (try subst_vars); first | omega | (rw [dec1 (by omega)]; omega)), (Or.inr (Or.inr ⟨⟨⟨by decide, by decide⟩, by omega⟩, (show (bn 2).toInt < 12 from by omega), (show n_17.toInt = (bn 2).toInt + 1 from (hap.1 (by omega)).1), all3 ⟨(fun h9 => absurd h9 (by decide +kernel)), (fun _ => ⟨rfl, rfl⟩)⟩ ⟨(fun h9 => absurd h9 (by decide +kernel)), (fun _ => ⟨rfl, rfl⟩)⟩ ⟨(fun _ => ⟨rfl, (hap.1 (by omega)).2⟩), (fun h9 => absurd (by decide +kernel) h9)⟩⟩))⟩, by rw [ht]; exact hP.sub [0, 1, 2, 3, 4, 5, 6, 7, 8] rfl, hD.sub [0, 1, 2, 3, 4, 5, 6, 7, 8] (by decide +kernel) rfl⟩, hS.F ht⟩) hS.2.2 dX12_put_48
        · refine lv_if_eq (tgt := 46) hx hb dX12_put_31 (by decide +kernel) (fun _ => ?_) (fun c9 => absurd c9 (by decide +kernel))
          refine lv_bipush (v := (-4)) hx hb dX12_put_46 (by decide +kernel) ?_
          exact W.iret hx hb hr (fun t ht hW => ⟨⟨_, ((fun k => [(bn 0), (bn 1), n_17].getD k 0), (fun k => [(bf 0), (bf 1), f_18].getD k (bf 0))), rfl, ⟨(show 0 ≤ ((bn 0)).toInt ∧ ((bn 0)).toInt ≤ 12 from by (try subst_vars); first | omega | (rw [dec1 (by omega)]; omega)), (show 0 ≤ ((bn 1)).toInt ∧ ((bn 1)).toInt ≤ 12 from by (try subst_vars); first | omega | (rw [dec1 (by omega)]; omega)), (show 0 ≤ (n_17).toInt ∧ (n_17).toInt ≤ 12 from by (try subst_vars); first | omega | (rw [dec1 (by omega)]; omega)), (Or.inr (Or.inl ⟨⟨⟨by decide, by decide⟩, by omega⟩, (show 12 ≤ (bn 2).toInt from by omega), (by decide +kernel), all3 ⟨rfl, rfl⟩ ⟨rfl, rfl⟩ (hap.2 (by omega))⟩))⟩, by rw [ht]; exact hP.sub [0, 1, 2, 3, 4, 5, 6, 7, 8] rfl, hD.sub [0, 1, 2, 3, 4, 5, 6, 7, 8] (by decide +kernel) rfl⟩, hS.F ht⟩) hS.2.2 dX12_put_48
    · refine lv_if_ne (tgt := 21) hx hb dX12_put_15 (by decide +kernel) (fun c9 => absurd c9 (by decide +kernel)) (fun _ => ?_)
      refine lv_bipush (v := (-2)) hx hb dX12_put_18 (by decide +kernel) ?_
      exact W.iret hx hb hr (fun t ht hW => ⟨⟨_, ((fun k => [(bn 0), (bn 1), (bn 2)].getD k 0), (fun k => [(bf 0), (bf 1), (bf 2)].getD k (bf 0))), rfl, ⟨(show 0 ≤ ((bn 0)).toInt ∧ ((bn 0)).toInt ≤ 12 from by (try subst_vars); first | omega | (rw [dec1 (by omega)]; omega)), (show 0 ≤ ((bn 1)).toInt ∧ ((bn 1)).toInt ≤ 12 from by (try subst_vars); first | omega | (rw [dec1 (by omega)]; omega)), (show 0 ≤ ((bn 2)).toInt ∧ ((bn 2)).toInt ≤ 12 from by (try subst_vars); first | omega | (rw [dec1 (by omega)]; omega)), (Or.inl ⟨(fun h9 => by have h8 := h9.1; have h7 := h9.2; omega), (by decide +kernel), all3 ⟨rfl, rfl⟩ ⟨rfl, rfl⟩ ⟨rfl, rfl⟩⟩)⟩, by rw [ht]; exact hP.sub [0, 1, 2, 3, 4, 5, 6, 7, 8] rfl, hD.sub [0, 1, 2, 3, 4, 5, 6, 7, 8] (by decide +kernel) rfl⟩, hS.F ht⟩) hS.2.2 dX12_put_20
  · refine lv_if_eq (tgt := 18) hx hb dX12_put_4 (by decide +kernel) (fun _ => ?_) (fun c9 => absurd c9 (by decide +kernel))
    refine lv_bipush (v := (-2)) hx hb dX12_put_18 (by decide +kernel) ?_
    exact W.iret hx hb hr (fun t ht hW => ⟨⟨_, ((fun k => [(bn 0), (bn 1), (bn 2)].getD k 0), (fun k => [(bf 0), (bf 1), (bf 2)].getD k (bf 0))), rfl, ⟨(show 0 ≤ ((bn 0)).toInt ∧ ((bn 0)).toInt ≤ 12 from by (try subst_vars); first | omega | (rw [dec1 (by omega)]; omega)), (show 0 ≤ ((bn 1)).toInt ∧ ((bn 1)).toInt ≤ 12 from by (try subst_vars); first | omega | (rw [dec1 (by omega)]; omega)), (show 0 ≤ ((bn 2)).toInt ∧ ((bn 2)).toInt ≤ 12 from by (try subst_vars); first | omega | (rw [dec1 (by omega)]; omega)), (Or.inl ⟨(fun h9 => by have h8 := h9.1; have h7 := h9.2; omega), (by decide +kernel), all3 ⟨rfl, rfl⟩ ⟨rfl, rfl⟩ ⟨rfl, rfl⟩⟩)⟩, by rw [ht]; exact hP.sub [0, 1, 2, 3, 4, 5, 6, 7, 8] rfl, hD.sub [0, 1, 2, 3, 4, 5, 6, 7, 8] (by decide +kernel) rfl⟩, hS.F ht⟩) hS.2.2 dX12_put_20
theorem dX12_take_0 : decode cX12_take 0 = .ok (.iload_n 1, 1) := by decide +kernel
theorem dX12_take_1 : decode cX12_take 1 = .ok (.invokestatic 300, 3) := by decide +kernel
theorem dX12_take_10 : decode cX12_take 10 = .ok (.aload_n 0, 1) := by decide +kernel
theorem dX12_take_11 : decode cX12_take 11 = .ok (.getfield 37, 3) := by decide +kernel
theorem dX12_take_14 : decode cX12_take 14 = .ok (.iload_n 1, 1) := by decide +kernel
theorem dX12_take_15 : decode cX12_take 15 = .ok (.aaload, 1) := by decide +kernel
theorem dX12_take_16 : decode cX12_take 16 = .ok (.astore_n 2, 1) := by decide +kernel
theorem dX12_take_17 : decode cX12_take 17 = .ok (.aload_n 2, 1) := by decide +kernel
theorem dX12_take_18 : decode cX12_take 18 = .ok (.getfield 307, 3) := by decide +kernel
theorem dX12_take_21 : decode cX12_take 21 = .ok (.ifCond .gt 5, 3) := by decide +kernel
theorem dX12_take_24 : decode cX12_take 24 = .ok (.iconst (-1), 1) := by decide +kernel
theorem dX12_take_25 : decode cX12_take 25 = .ok (.ireturn, 1) := by decide +kernel
theorem dX12_take_26 : decode cX12_take 26 = .ok (.aload_n 2, 1) := by decide +kernel
theorem dX12_take_27 : decode cX12_take 27 = .ok (.dup, 1) := by decide +kernel
theorem dX12_take_28 : decode cX12_take 28 = .ok (.getfield 307, 3) := by decide +kernel
theorem dX12_take_31 : decode cX12_take 31 = .ok (.iconst 1, 1) := by decide +kernel
theorem dX12_take_32 : decode cX12_take 32 = .ok (.isub, 1) := by decide +kernel
theorem dX12_take_33 : decode cX12_take 33 = .ok (.putfield 307, 3) := by decide +kernel
theorem dX12_take_36 : decode cX12_take 36 = .ok (.aload_n 2, 1) := by decide +kernel
theorem dX12_take_37 : decode cX12_take 37 = .ok (.getfield 308, 3) := by decide +kernel
theorem dX12_take_4 : decode cX12_take 4 = .ok (.ifCond .ne 6, 3) := by decide +kernel
theorem dX12_take_40 : decode cX12_take 40 = .ok (.aload_n 2, 1) := by decide +kernel
theorem dX12_take_41 : decode cX12_take 41 = .ok (.getfield 307, 3) := by decide +kernel
theorem dX12_take_44 : decode cX12_take 44 = .ok (.iaload, 1) := by decide +kernel
theorem dX12_take_45 : decode cX12_take 45 = .ok (.ireturn, 1) := by decide +kernel
theorem dX12_take_7 : decode cX12_take 7 = .ok (.bipush (-2), 2) := by decide +kernel
theorem dX12_take_9 : decode cX12_take 9 = .ok (.ireturn, 1) := by decide +kernel
set_option maxRecDepth 20000 in
theorem ggX12_take_X12_isBag : GoodIn wsX12_take wsX12_isBag := goodIn_r _ [7, 8, 9, 6, 10] rfl (by decide +kernel)
set_option maxRecDepth 20000 in
theorem gX12_take_X12_isBag : GoodIn wsX12_take (va_wsS RX12 300 yX12_isBag wsX12_isBag) := goodIn_app (goodIn_of _ (by decide +kernel)) ggX12_take_X12_isBag
set_option maxRecDepth 20000 in
theorem in_X12_take_X1 : ∀ w ∈ wsX10, w ∈ wsX12_take := sub_r [22, 23] rfl
set_option maxRecDepth 20000 in
theorem in_X12_take_X12 : ∀ w ∈ wsX120, w ∈ wsX12_take := sub_r [11, 12, 13, 14, 15, 16, 17, 18, 19, 20, 21] rfl
set_option maxHeartbeats 4000000 in
set_option maxRecDepth 100000 in
theorem c_X12_take (l : Launch) (D : va_G) (T : Nat → ClassId) (sz : Nat) (h0 : Nat) (h1 : Nat) (fs0 : List Value) (t0 : Nat) (t1 : Nat) (t2 : Nat) (a0 : Nat) (a1 : Nat) (a2 : Nat) (bn : Nat → Int32) (bf : Nat → Nat → Int32) (x1 : Int32) (e0_5 : fs0[5]? = some (.ref h1)) (hb0 : 0 ≤ (bn 0).toInt ∧ (bn 0).toInt ≤ 12) (hb1 : 0 ≤ (bn 1).toInt ∧ (bn 1).toInt ≤ 12) (hb2 : 0 ≤ (bn 2).toInt ∧ (bn 2).toInt ≤ 12) : Met l yX12_take wsX12_take ({ frames := 2, cells := 0, slots := 0, locals := 42 }) (pW [.ref h0, .int x1] D T [(h0, .inr (9, fs0)), (h1, .inl (T 5, 3, .inr (.inr (.inr (.inr (va_up (va_up (va_up (fun _ => none) 0 (some t0)) 1 (some t1)) 2 (some t2))))))), (t0, .inr (0, [.int (bn 0), .ref a0])), (t1, .inr (0, [.int (bn 1), .ref a1])), (t2, .inr (0, [.int (bn 2), .ref a2])), (a0, .inl (T 0, 12, .inl (bf 0))), (a1, .inl (T 0, 12, .inl (bf 1))), (a2, .inl (T 0, 12, .inl (bf 2)))] sz) (va_Qi (fun (r : Int32) (u : (Nat → Int32) × (Nat → Nat → Int32)) => (0 ≤ (u.1 0).toInt ∧ (u.1 0).toInt ≤ 12) ∧ (0 ≤ (u.1 1).toInt ∧ (u.1 1).toInt ≤ 12) ∧ (0 ≤ (u.1 2).toInt ∧ (u.1 2).toInt ≤ 12) ∧ takeC x1 r bn u.1 bf u.2) (bW D (va_A [(h0, .inr (9, fs0)), (h1, .inl (T 5, 3, .inr (.inr (.inr (.inr (va_up (va_up (va_up (fun _ => none) 0 (some t0)) 1 (some t1)) 2 (some t2))))))), (t0, .inr (0, [.int (bn 0), .ref a0])), (t1, .inr (0, [.int (bn 1), .ref a1])), (t2, .inr (0, [.int (bn 2), .ref a2])), (a0, .inl (T 0, 12, .inl (bf 0))), (a1, .inl (T 0, 12, .inl (bf 1))), (a2, .inl (T 0, 12, .inl (bf 2)))] sz) (fun (u : (Nat → Int32) × (Nat → Nat → Int32)) => [(h0, .inr (9, fs0)), (h1, .inl (T 5, 3, .inr (.inr (.inr (.inr (va_up (va_up (va_up (fun _ => none) 0 (some t0)) 1 (some t1)) 2 (some t2))))))), (t0, .inr (0, [.int (u.1 0), .ref a0])), (t1, .inr (0, [.int (u.1 1), .ref a1])), (t2, .inr (0, [.int (u.1 2), .ref a2])), (a0, .inl (T 0, 12, .inl (u.2 0))), (a1, .inl (T 0, 12, .inl (u.2 1))), (a2, .inl (T 0, 12, .inl (u.2 2)))])) (va_A [(h0, .inr (9, fs0)), (h1, .inl (T 5, 3, .inr (.inr (.inr (.inr (va_up (va_up (va_up (fun _ => none) 0 (some t0)) 1 (some t1)) 2 (some t2))))))), (t0, .inr (0, [.int (bn 0), .ref a0])), (t1, .inr (0, [.int (bn 1), .ref a1])), (t2, .inr (0, [.int (bn 2), .ref a2])), (a0, .inl (T 0, 12, .inl (bf 0))), (a1, .inl (T 0, 12, .inl (bf 1))), (a2, .inl (T 0, 12, .inl (bf 2)))] sz)) 0 0 (va_A [(h0, .inr (9, fs0)), (h1, .inl (T 5, 3, .inr (.inr (.inr (.inr (va_up (va_up (va_up (fun _ => none) 0 (some t0)) 1 (some t1)) 2 (some t2))))))), (t0, .inr (0, [.int (bn 0), .ref a0])), (t1, .inr (0, [.int (bn 1), .ref a1])), (t2, .inr (0, [.int (bn 2), .ref a2])), (a0, .inl (T 0, 12, .inl (bf 0))), (a1, .inl (T 0, 12, .inl (bf 1))), (a2, .inl (T 0, 12, .inl (bf 2)))] sz) := by
  refine Met.ofW (cc := cX12_take) (maxL := 3) (ret := (some .int)) (by decide +kernel) rfl ?_
  intro p e s m args below meth c s₁ B hml hv
  obtain ⟨rfl, hsz, hP, hE, hD0⟩ := hv
  have hx := B.exec
  have hb := B.bytes
  have hr := B.returns
  have hts := atoms_spec (ws := wsX12_take) B.pre
  have hown : s.vm.findClass RX12 = some m.cls := findClass_of_methodNamed B.named
  have hlocks := B.notSynchronized
  subst hsz
  have hD := hD0.self (sz := s.heap.size)
  generalize hAe : va_A [(h0, .inr (9, fs0)), (h1, .inl (T 5, 3, .inr (.inr (.inr (.inr (va_up (va_up (va_up (fun _ => none) 0 (some t0)) 1 (some t1)) 2 (some t2))))))), (t0, .inr (0, [.int (bn 0), .ref a0])), (t1, .inr (0, [.int (bn 1), .ref a1])), (t2, .inr (0, [.int (bn 2), .ref a2])), (a0, .inl (T 0, 12, .inl (bf 0))), (a1, .inl (T 0, 12, .inl (bf 1))), (a2, .inl (T 0, 12, .inl (bf 2)))] s.heap.size = A at hD ⊢
  have hA : ∀ q : Nat, s.heap.size ≤ q → A q := fun q h => by rw [← hAe]; exact Or.inr h
  have hS : va_S A s.heap s.heap [] := va_S.rf
  have hP : va_P D vwCl [(h0, .inr (9, fs0)), (h1, .inl (T 5, 3, .inr (.inr (.inr (.inr (va_up (va_up (va_up (fun _ => none) 0 (some t0)) 1 (some t1)) 2 (some t2))))))), (t0, .inr (0, [.int (bn 0), .ref a0])), (t1, .inr (0, [.int (bn 1), .ref a1])), (t2, .inr (0, [.int (bn 2), .ref a2])), (a0, .inl (T 0, 12, .inl (bf 0))), (a1, .inl (T 0, 12, .inl (bf 1))), (a2, .inl (T 0, 12, .inl (bf 2)))] s.heap := hP
  have hl := lv_entry ([.ref h0, .int x1]) (n := 3) (Nat.le_of_ble_eq_true rfl)
  rw [lg_entry_eq]
  generalize (lg_sl ([.ref h0, .int x1]) ++ List.replicate (3 - (lg_sl ([.ref h0, .int x1])).length) Slot.unset).toArray = ls at hl ⊢
  have hl : lv_has ls 3 [(0, .ref h0), (1, .int x1)] := hl
  clear hD0
  refine lv_iload_n hx hb dX12_take_0 rfl (lv_at hl 1 rfl) ?_
  refine vp_callSi (W.runS (As := [.int x1]) (rest := []) ⟨hx, hb, hml, hown, hts⟩ (c_X12_isBag l D T x1) (va_cwS 1 hts gX12_take_X12_isBag rfl rfl rfl hs_X12_isBag ⟨Nat.le_of_ble_eq_true rfl, Nat.le_of_ble_eq_true rfl⟩) (pR_S hP hE [] rfl) rfl rfl hl.1 rfl (lv_room (Nat.le_of_ble_eq_true rfl)) dX12_take_1 ⟨Nat.le_of_ble_eq_true rfl, Nat.le_of_ble_eq_true rfl⟩) (fun r_1 hr_1 => ?_)
  rcases bool_post hr_1 with ⟨c_2, rfl⟩ | ⟨c_2, rfl⟩
  · refine lv_if_ne (tgt := 10) hx hb dX12_take_4 (by decide +kernel) (fun _ => ?_) (fun c9 => absurd c9 (by decide +kernel))
    refine lv_aload_n hx hb dX12_take_10 rfl (lv_at hl 0 rfl) ?_
    refine va_get (D := D) (ci := 9) (v := .ref h1) (C := RX12) (T := TX12) (N := 11) hx hb hts in_X12_take_X12 hown hE.1 hP 0 rfl rfl 5 (by decide +kernel) (hts (.fieldLink RX12 37 "ClauseBook" "bags" "[LClauseBook$Bag;") (List.mem_of_getElem? (i := 1) rfl)) (fun _ h9 => h9) e0_5 dX12_take_11 ?_
    refine lv_iload_n hx hb dX12_take_14 rfl (lv_at hl 1 rfl) ?_
    rcases in3 (x := x1) (by omega) with rfl | rfl | rfl
    · refine va_aldq hx hb hE.1 hP 1 5 rfl rfl (by unfold vp_in; decide) dX12_take_15 ?_
      refine W.eq (g2 := F0 m 16 ls [.ref t0]) rfl ?_
      refine lv_astore_n (lv' := [(2, .ref t0), (0, .ref h0), (1, .int 0)]) hx hb dX12_take_16 rfl hl (by decide +kernel) rfl (fun ls hl => ?_)
      refine lv_aload_n hx hb dX12_take_17 rfl (lv_at hl 0 rfl) ?_
      refine va_get (D := D) (ci := 0) (v := .int (bn 0)) (C := RX1) (T := TX1) (N := 2) hx hb hts in_X12_take_X1 hown hE.1 hP 2 rfl rfl 0 (by decide +kernel) (hts (.fieldLink RX12 307 "ClauseBook$Bag" "size" "I") (List.mem_of_getElem? (i := 2) rfl)) (fun _ h9 => h9) rfl dX12_take_18 ?_
      refine lv_if_gt (tgt := 26) hx hb dX12_take_21 (by decide +kernel) (fun c_3 => ?_) (fun c_3 => ?_)
      · rw [fa_lt] at c_3
        try rw [ti_0] at c_3
        refine lv_aload_n hx hb dX12_take_26 rfl (lv_at hl 0 rfl) ?_
        refine lv_dup hx hb dX12_take_27 rfl ?_
        refine va_get (D := D) (ci := 0) (v := .int (bn 0)) (C := RX1) (T := TX1) (N := 2) hx hb hts in_X12_take_X1 hown hE.1 hP 2 rfl rfl 0 (by decide +kernel) (hts (.fieldLink RX12 307 "ClauseBook$Bag" "size" "I") (List.mem_of_getElem? (i := 2) rfl)) (fun _ h9 => h9) rfl dX12_take_28 ?_
        refine lv_iconst (v := 1) hx hb dX12_take_31 (by decide +kernel) ?_
        refine lv_isub hx hb dX12_take_32 ?_
        refine lv_topi (fun z_4 ez_4 => ?_)
        refine va_put (D := D) (ci := 0) (v := .int z_4) (ty := .int) (C := RX1) (T := TX1) (N := 2) hx hb hts in_X12_take_X1 tyX1 tyX1_ok nmX1 hown hE.1 hP hD hS 2 rfl rfl 0 (by decide +kernel) (hts (.fieldLink RX12 307 "ClauseBook$Bag" "size" "I") (List.mem_of_getElem? (i := 2) rfl)) (fun _ h9 => h9) rfl (by decide +kernel) rfl rfl (Nat.le_of_ble_eq_true rfl) dX12_take_33 (fun H locs hP hD hS => ?_)
        obtain ⟨hP, hD⟩ := wPD [(h0, .inr (9, fs0)), (h1, .inl (T 5, 3, .inr (.inr (.inr (.inr (va_up (va_up (va_up (fun _ => none) 0 (some t0)) 1 (some t1)) 2 (some t2))))))), (t0, .inr (0, [.int z_4, .ref a0])), (t1, .inr (0, [.int (bn 1), .ref a1])), (t2, .inr (0, [.int (bn 2), .ref a2])), (a0, .inl (T 0, 12, .inl (bf 0))), (a1, .inl (T 0, 12, .inl (bf 1))), (a2, .inl (T 0, 12, .inl (bf 2)))] hP hD rfl
        refine lv_aload_n hx hb dX12_take_36 rfl (lv_at hl 0 rfl) ?_
        refine va_get (D := D) (ci := 0) (v := .ref a0) (C := RX1) (T := TX1) (N := 2) hx hb hts in_X12_take_X1 hown hE.1 hP 2 rfl rfl 1 (by decide +kernel) (hts (.fieldLink RX12 308 "ClauseBook$Bag" "numbers" "[I") (List.mem_of_getElem? (i := 3) rfl)) (fun _ h9 => h9) rfl dX12_take_37 ?_
        refine lv_aload_n hx hb dX12_take_40 rfl (lv_at hl 0 rfl) ?_
        refine va_get (D := D) (ci := 0) (v := .int z_4) (C := RX1) (T := TX1) (N := 2) hx hb hts in_X12_take_X1 hown hE.1 hP 2 rfl rfl 0 (by decide +kernel) (hts (.fieldLink RX12 307 "ClauseBook$Bag" "size" "I") (List.mem_of_getElem? (i := 2) rfl)) (fun _ h9 => h9) rfl dX12_take_41 ?_
        refine va_iald hx hb hE.1 hP 5 0 rfl rfl (by rw [vp_in_iff]; first | omega | (subst_vars; rw [dec1 (by omega)]; omega) | (subst_vars; rw [inc1 (n := 1000) (by omega) (by decide +kernel)]; omega)) dX12_take_44 ?_
        refine lv_topi (fun z_5 ez_5 => ?_)
        exact W.iret hx hb hr (fun t ht hW => ⟨⟨_, ((fun k => [z_4, (bn 1), (bn 2)].getD k 0), (fun k => [(bf 0), (bf 1), (bf 2)].getD k (bf 0))), rfl, ⟨(show 0 ≤ (z_4).toInt ∧ (z_4).toInt ≤ 12 from by (try subst_vars); first | omega | (rw [dec1 (by omega)]; omega)), (show 0 ≤ ((bn 1)).toInt ∧ ((bn 1)).toInt ≤ 12 from by (try subst_vars); first | omega | (rw [dec1 (by omega)]; omega)), (show 0 ≤ ((bn 2)).toInt ∧ ((bn 2)).toInt ≤ 12 from by (try subst_vars); first | omega | (rw [dec1 (by omega)]; omega)), (Or.inr (Or.inr ⟨⟨by decide, by decide⟩, (show 0 < (bn 0).toInt from by omega), z_4, (show z_4.toInt = (bn 0).toInt - 1 from by rw [ez_4]; exact dec1 (by omega)), ez_5, all3 ⟨(fun _ => ⟨rfl, rfl⟩), (fun h9 => absurd (by decide +kernel) h9)⟩ ⟨(fun h9 => absurd h9 (by decide +kernel)), (fun _ => ⟨rfl, rfl⟩)⟩ ⟨(fun h9 => absurd h9 (by decide +kernel)), (fun _ => ⟨rfl, rfl⟩)⟩⟩))⟩, by rw [ht]; exact hP.sub [0, 1, 2, 3, 4, 5, 6, 7] rfl, hD.sub [0, 1, 2, 3, 4, 5, 6, 7] (by decide +kernel) rfl⟩, hS.F ht⟩) hS.2.2 dX12_take_45
      · rw [fa_lt] at c_3
        try rw [ti_0] at c_3
        refine lv_iconst (v := (-1)) hx hb dX12_take_24 (by decide +kernel) ?_
        exact W.iret hx hb hr (fun t ht hW => ⟨⟨_, ((fun k => [(bn 0), (bn 1), (bn 2)].getD k 0), (fun k => [(bf 0), (bf 1), (bf 2)].getD k (bf 0))), rfl, ⟨(show 0 ≤ ((bn 0)).toInt ∧ ((bn 0)).toInt ≤ 12 from by (try subst_vars); first | omega | (rw [dec1 (by omega)]; omega)), (show 0 ≤ ((bn 1)).toInt ∧ ((bn 1)).toInt ≤ 12 from by (try subst_vars); first | omega | (rw [dec1 (by omega)]; omega)), (show 0 ≤ ((bn 2)).toInt ∧ ((bn 2)).toInt ≤ 12 from by (try subst_vars); first | omega | (rw [dec1 (by omega)]; omega)), (Or.inr (Or.inl ⟨⟨by decide, by decide⟩, (show (bn 0).toInt ≤ 0 from by omega), (by decide +kernel), all3 ⟨rfl, rfl⟩ ⟨rfl, rfl⟩ ⟨rfl, rfl⟩⟩))⟩, by rw [ht]; exact hP.sub [0, 1, 2, 3, 4, 5, 6, 7] rfl, hD.sub [0, 1, 2, 3, 4, 5, 6, 7] (by decide +kernel) rfl⟩, hS.F ht⟩) hS.2.2 dX12_take_25
    · refine va_aldq hx hb hE.1 hP 1 5 rfl rfl (by unfold vp_in; decide) dX12_take_15 ?_
      refine W.eq (g2 := F0 m 16 ls [.ref t1]) rfl ?_
      refine lv_astore_n (lv' := [(2, .ref t1), (0, .ref h0), (1, .int 1)]) hx hb dX12_take_16 rfl hl (by decide +kernel) rfl (fun ls hl => ?_)
      refine lv_aload_n hx hb dX12_take_17 rfl (lv_at hl 0 rfl) ?_
      refine va_get (D := D) (ci := 0) (v := .int (bn 1)) (C := RX1) (T := TX1) (N := 2) hx hb hts in_X12_take_X1 hown hE.1 hP 3 rfl rfl 0 (by decide +kernel) (hts (.fieldLink RX12 307 "ClauseBook$Bag" "size" "I") (List.mem_of_getElem? (i := 2) rfl)) (fun _ h9 => h9) rfl dX12_take_18 ?_
      refine lv_if_gt (tgt := 26) hx hb dX12_take_21 (by decide +kernel) (fun c_6 => ?_) (fun c_6 => ?_)
      · rw [fa_lt] at c_6
        try rw [ti_0] at c_6
        refine lv_aload_n hx hb dX12_take_26 rfl (lv_at hl 0 rfl) ?_
        refine lv_dup hx hb dX12_take_27 rfl ?_
        refine va_get (D := D) (ci := 0) (v := .int (bn 1)) (C := RX1) (T := TX1) (N := 2) hx hb hts in_X12_take_X1 hown hE.1 hP 3 rfl rfl 0 (by decide +kernel) (hts (.fieldLink RX12 307 "ClauseBook$Bag" "size" "I") (List.mem_of_getElem? (i := 2) rfl)) (fun _ h9 => h9) rfl dX12_take_28 ?_
        refine lv_iconst (v := 1) hx hb dX12_take_31 (by decide +kernel) ?_
        refine lv_isub hx hb dX12_take_32 ?_
        refine lv_topi (fun z_7 ez_7 => ?_)
        refine va_put (D := D) (ci := 0) (v := .int z_7) (ty := .int) (C := RX1) (T := TX1) (N := 2) hx hb hts in_X12_take_X1 tyX1 tyX1_ok nmX1 hown hE.1 hP hD hS 3 rfl rfl 0 (by decide +kernel) (hts (.fieldLink RX12 307 "ClauseBook$Bag" "size" "I") (List.mem_of_getElem? (i := 2) rfl)) (fun _ h9 => h9) rfl (by decide +kernel) rfl rfl (Nat.le_of_ble_eq_true rfl) dX12_take_33 (fun H locs hP hD hS => ?_)
        obtain ⟨hP, hD⟩ := wPD [(h0, .inr (9, fs0)), (h1, .inl (T 5, 3, .inr (.inr (.inr (.inr (va_up (va_up (va_up (fun _ => none) 0 (some t0)) 1 (some t1)) 2 (some t2))))))), (t0, .inr (0, [.int (bn 0), .ref a0])), (t1, .inr (0, [.int z_7, .ref a1])), (t2, .inr (0, [.int (bn 2), .ref a2])), (a0, .inl (T 0, 12, .inl (bf 0))), (a1, .inl (T 0, 12, .inl (bf 1))), (a2, .inl (T 0, 12, .inl (bf 2)))] hP hD rfl
        refine lv_aload_n hx hb dX12_take_36 rfl (lv_at hl 0 rfl) ?_
        refine va_get (D := D) (ci := 0) (v := .ref a1) (C := RX1) (T := TX1) (N := 2) hx hb hts in_X12_take_X1 hown hE.1 hP 3 rfl rfl 1 (by decide +kernel) (hts (.fieldLink RX12 308 "ClauseBook$Bag" "numbers" "[I") (List.mem_of_getElem? (i := 3) rfl)) (fun _ h9 => h9) rfl dX12_take_37 ?_
        refine lv_aload_n hx hb dX12_take_40 rfl (lv_at hl 0 rfl) ?_
        refine va_get (D := D) (ci := 0) (v := .int z_7) (C := RX1) (T := TX1) (N := 2) hx hb hts in_X12_take_X1 hown hE.1 hP 3 rfl rfl 0 (by decide +kernel) (hts (.fieldLink RX12 307 "ClauseBook$Bag" "size" "I") (List.mem_of_getElem? (i := 2) rfl)) (fun _ h9 => h9) rfl dX12_take_41 ?_
        refine va_iald hx hb hE.1 hP 6 0 rfl rfl (by rw [vp_in_iff]; first | omega | (subst_vars; rw [dec1 (by omega)]; omega) | (subst_vars; rw [inc1 (n := 1000) (by omega) (by decide +kernel)]; omega)) dX12_take_44 ?_
        refine lv_topi (fun z_8 ez_8 => ?_)
        exact W.iret hx hb hr (fun t ht hW => ⟨⟨_, ((fun k => [(bn 0), z_7, (bn 2)].getD k 0), (fun k => [(bf 0), (bf 1), (bf 2)].getD k (bf 0))), rfl, ⟨(show 0 ≤ ((bn 0)).toInt ∧ ((bn 0)).toInt ≤ 12 from by (try subst_vars); first | omega | (rw [dec1 (by omega)]; omega)), (show 0 ≤ (z_7).toInt ∧ (z_7).toInt ≤ 12 from by (try subst_vars); first | omega | (rw [dec1 (by omega)]; omega)), (show 0 ≤ ((bn 2)).toInt ∧ ((bn 2)).toInt ≤ 12 from by (try subst_vars); first | omega | (rw [dec1 (by omega)]; omega)), (Or.inr (Or.inr ⟨⟨by decide, by decide⟩, (show 0 < (bn 1).toInt from by omega), z_7, (show z_7.toInt = (bn 1).toInt - 1 from by rw [ez_7]; exact dec1 (by omega)), ez_8, all3 ⟨(fun h9 => absurd h9 (by decide +kernel)), (fun _ => ⟨rfl, rfl⟩)⟩ ⟨(fun _ => ⟨rfl, rfl⟩), (fun h9 => absurd (by decide +kernel) h9)⟩ ⟨(fun h9 => absurd h9 (by decide +kernel)), (fun _ => ⟨rfl, rfl⟩)⟩⟩))⟩, by rw [ht]; exact hP.sub [0, 1, 2, 3, 4, 5, 6, 7] rfl, hD.sub [0, 1, 2, 3, 4, 5, 6, 7] (by decide +kernel) rfl⟩, hS.F ht⟩) hS.2.2 dX12_take_45
      · rw [fa_lt] at c_6
        try rw [ti_0] at c_6
        refine lv_iconst (v := (-1)) hx hb dX12_take_24 (by decide +kernel) ?_
        exact W.iret hx hb hr (fun t ht hW => ⟨⟨_, ((fun k => [(bn 0), (bn 1), (bn 2)].getD k 0), (fun k => [(bf 0), (bf 1), (bf 2)].getD k (bf 0))), rfl, ⟨(show 0 ≤ ((bn 0)).toInt ∧ ((bn 0)).toInt ≤ 12 from by (try subst_vars); first | omega | (rw [dec1 (by omega)]; omega)), (show 0 ≤ ((bn 1)).toInt ∧ ((bn 1)).toInt ≤ 12 from by (try subst_vars); first | omega | (rw [dec1 (by omega)]; omega)), (show 0 ≤ ((bn 2)).toInt ∧ ((bn 2)).toInt ≤ 12 from by (try subst_vars); first | omega | (rw [dec1 (by omega)]; omega)), (Or.inr (Or.inl ⟨⟨by decide, by decide⟩, (show (bn 1).toInt ≤ 0 from by omega), (by decide +kernel), all3 ⟨rfl, rfl⟩ ⟨rfl, rfl⟩ ⟨rfl, rfl⟩⟩))⟩, by rw [ht]; exact hP.sub [0, 1, 2, 3, 4, 5, 6, 7] rfl, hD.sub [0, 1, 2, 3, 4, 5, 6, 7] (by decide +kernel) rfl⟩, hS.F ht⟩) hS.2.2 dX12_take_25
    · refine va_aldq hx hb hE.1 hP 1 5 rfl rfl (by unfold vp_in; decide) dX12_take_15 ?_
      refine W.eq (g2 := F0 m 16 ls [.ref t2]) rfl ?_
      refine lv_astore_n (lv' := [(2, .ref t2), (0, .ref h0), (1, .int 2)]) hx hb dX12_take_16 rfl hl (by decide +kernel) rfl (fun ls hl => ?_)
      refine lv_aload_n hx hb dX12_take_17 rfl (lv_at hl 0 rfl) ?_
      refine va_get (D := D) (ci := 0) (v := .int (bn 2)) (C := RX1) (T := TX1) (N := 2) hx hb hts in_X12_take_X1 hown hE.1 hP 4 rfl rfl 0 (by decide +kernel) (hts (.fieldLink RX12 307 "ClauseBook$Bag" "size" "I") (List.mem_of_getElem? (i := 2) rfl)) (fun _ h9 => h9) rfl dX12_take_18 ?_
      refine lv_if_gt (tgt := 26) hx hb dX12_take_21 (by decide +kernel) (fun c_9 => ?_) (fun c_9 => ?_)
      · rw [fa_lt] at c_9
        try rw [ti_0] at c_9
        refine lv_aload_n hx hb dX12_take_26 rfl (lv_at hl 0 rfl) ?_
        refine lv_dup hx hb dX12_take_27 rfl ?_
        refine va_get (D := D) (ci := 0) (v := .int (bn 2)) (C := RX1) (T := TX1) (N := 2) hx hb hts in_X12_take_X1 hown hE.1 hP 4 rfl rfl 0 (by decide +kernel) (hts (.fieldLink RX12 307 "ClauseBook$Bag" "size" "I") (List.mem_of_getElem? (i := 2) rfl)) (fun _ h9 => h9) rfl dX12_take_28 ?_
        refine lv_iconst (v := 1) hx hb dX12_take_31 (by decide +kernel) ?_
        refine lv_isub hx hb dX12_take_32 ?_
        refine lv_topi (fun z_10 ez_10 => ?_)
        refine va_put (D := D) (ci := 0) (v := .int z_10) (ty := .int) (C := RX1) (T := TX1) (N := 2) hx hb hts in_X12_take_X1 tyX1 tyX1_ok nmX1 hown hE.1 hP hD hS 4 rfl rfl 0 (by decide +kernel) (hts (.fieldLink RX12 307 "ClauseBook$Bag" "size" "I") (List.mem_of_getElem? (i := 2) rfl)) (fun _ h9 => h9) rfl (by decide +kernel) rfl rfl (Nat.le_of_ble_eq_true rfl) dX12_take_33 (fun H locs hP hD hS => ?_)
        obtain ⟨hP, hD⟩ := wPD [(h0, .inr (9, fs0)), (h1, .inl (T 5, 3, .inr (.inr (.inr (.inr (va_up (va_up (va_up (fun _ => none) 0 (some t0)) 1 (some t1)) 2 (some t2))))))), (t0, .inr (0, [.int (bn 0), .ref a0])), (t1, .inr (0, [.int (bn 1), .ref a1])), (t2, .inr (0, [.int z_10, .ref a2])), (a0, .inl (T 0, 12, .inl (bf 0))), (a1, .inl (T 0, 12, .inl (bf 1))), (a2, .inl (T 0, 12, .inl (bf 2)))] hP hD rfl
        refine lv_aload_n hx hb dX12_take_36 rfl (lv_at hl 0 rfl) ?_
        refine va_get (D := D) (ci := 0) (v := .ref a2) (C := RX1) (T := TX1) (N := 2) hx hb hts in_X12_take_X1 hown hE.1 hP 4 rfl rfl 1 (by decide +kernel) (hts (.fieldLink RX12 308 "ClauseBook$Bag" "numbers" "[I") (List.mem_of_getElem? (i := 3) rfl)) (fun _ h9 => h9) rfl dX12_take_37 ?_
        refine lv_aload_n hx hb dX12_take_40 rfl (lv_at hl 0 rfl) ?_
        refine va_get (D := D) (ci := 0) (v := .int z_10) (C := RX1) (T := TX1) (N := 2) hx hb hts in_X12_take_X1 hown hE.1 hP 4 rfl rfl 0 (by decide +kernel) (hts (.fieldLink RX12 307 "ClauseBook$Bag" "size" "I") (List.mem_of_getElem? (i := 2) rfl)) (fun _ h9 => h9) rfl dX12_take_41 ?_
        refine va_iald hx hb hE.1 hP 7 0 rfl rfl (by rw [vp_in_iff]; first | omega | (subst_vars; rw [dec1 (by omega)]; omega) | (subst_vars; rw [inc1 (n := 1000) (by omega) (by decide +kernel)]; omega)) dX12_take_44 ?_
        refine lv_topi (fun z_11 ez_11 => ?_)
        exact W.iret hx hb hr (fun t ht hW => ⟨⟨_, ((fun k => [(bn 0), (bn 1), z_10].getD k 0), (fun k => [(bf 0), (bf 1), (bf 2)].getD k (bf 0))), rfl, ⟨(show 0 ≤ ((bn 0)).toInt ∧ ((bn 0)).toInt ≤ 12 from by (try subst_vars); first | omega | (rw [dec1 (by omega)]; omega)), (show 0 ≤ ((bn 1)).toInt ∧ ((bn 1)).toInt ≤ 12 from by (try subst_vars); first | omega | (rw [dec1 (by omega)]; omega)), (show 0 ≤ (z_10).toInt ∧ (z_10).toInt ≤ 12 from by (try subst_vars); first | omega | (rw [dec1 (by omega)]; omega)), (Or.inr (Or.inr ⟨⟨by decide, by decide⟩, (show 0 < (bn 2).toInt from by omega), z_10, (show z_10.toInt = (bn 2).toInt - 1 from by rw [ez_10]; exact dec1 (by omega)), ez_11, all3 ⟨(fun h9 => absurd h9 (by decide +kernel)), (fun _ => ⟨rfl, rfl⟩)⟩ ⟨(fun h9 => absurd h9 (by decide +kernel)), (fun _ => ⟨rfl, rfl⟩)⟩ ⟨(fun _ => ⟨rfl, rfl⟩), (fun h9 => absurd (by decide +kernel) h9)⟩⟩))⟩, by rw [ht]; exact hP.sub [0, 1, 2, 3, 4, 5, 6, 7] rfl, hD.sub [0, 1, 2, 3, 4, 5, 6, 7] (by decide +kernel) rfl⟩, hS.F ht⟩) hS.2.2 dX12_take_45
      · rw [fa_lt] at c_9
        try rw [ti_0] at c_9
        refine lv_iconst (v := (-1)) hx hb dX12_take_24 (by decide +kernel) ?_
        exact W.iret hx hb hr (fun t ht hW => ⟨⟨_, ((fun k => [(bn 0), (bn 1), (bn 2)].getD k 0), (fun k => [(bf 0), (bf 1), (bf 2)].getD k (bf 0))), rfl, ⟨(show 0 ≤ ((bn 0)).toInt ∧ ((bn 0)).toInt ≤ 12 from by (try subst_vars); first | omega | (rw [dec1 (by omega)]; omega)), (show 0 ≤ ((bn 1)).toInt ∧ ((bn 1)).toInt ≤ 12 from by (try subst_vars); first | omega | (rw [dec1 (by omega)]; omega)), (show 0 ≤ ((bn 2)).toInt ∧ ((bn 2)).toInt ≤ 12 from by (try subst_vars); first | omega | (rw [dec1 (by omega)]; omega)), (Or.inr (Or.inl ⟨⟨by decide, by decide⟩, (show (bn 2).toInt ≤ 0 from by omega), (by decide +kernel), all3 ⟨rfl, rfl⟩ ⟨rfl, rfl⟩ ⟨rfl, rfl⟩⟩))⟩, by rw [ht]; exact hP.sub [0, 1, 2, 3, 4, 5, 6, 7] rfl, hD.sub [0, 1, 2, 3, 4, 5, 6, 7] (by decide +kernel) rfl⟩, hS.F ht⟩) hS.2.2 dX12_take_25
  · refine lv_if_ne (tgt := 10) hx hb dX12_take_4 (by decide +kernel) (fun c9 => absurd c9 (by decide +kernel)) (fun _ => ?_)
    refine lv_bipush (v := (-2)) hx hb dX12_take_7 (by decide +kernel) ?_
    exact W.iret hx hb hr (fun t ht hW => ⟨⟨_, ((fun k => [(bn 0), (bn 1), (bn 2)].getD k 0), (fun k => [(bf 0), (bf 1), (bf 2)].getD k (bf 0))), rfl, ⟨(show 0 ≤ ((bn 0)).toInt ∧ ((bn 0)).toInt ≤ 12 from by (try subst_vars); first | omega | (rw [dec1 (by omega)]; omega)), (show 0 ≤ ((bn 1)).toInt ∧ ((bn 1)).toInt ≤ 12 from by (try subst_vars); first | omega | (rw [dec1 (by omega)]; omega)), (show 0 ≤ ((bn 2)).toInt ∧ ((bn 2)).toInt ≤ 12 from by (try subst_vars); first | omega | (rw [dec1 (by omega)]; omega)), (Or.inl ⟨(by omega), (by decide +kernel), all3 ⟨rfl, rfl⟩ ⟨rfl, rfl⟩ ⟨rfl, rfl⟩⟩)⟩, by rw [ht]; exact hP.sub [0, 1, 2, 3, 4, 5, 6, 7] rfl, hD.sub [0, 1, 2, 3, 4, 5, 6, 7] (by decide +kernel) rfl⟩, hS.F ht⟩) hS.2.2 dX12_take_9
end
section
theorem dX12_bagOf_0 : decode cX12_bagOf 0 = .ok (.iload_n 1, 1) := by decide +kernel
theorem dX12_bagOf_1 : decode cX12_bagOf 1 = .ok (.invokestatic 300, 3) := by decide +kernel
theorem dX12_bagOf_10 : decode cX12_bagOf 10 = .ok (.iload_n 2, 1) := by decide +kernel
theorem dX12_bagOf_11 : decode cX12_bagOf 11 = .ok (.iconst 0, 1) := by decide +kernel
theorem dX12_bagOf_12 : decode cX12_bagOf 12 = .ok (.aload_n 0, 1) := by decide +kernel
theorem dX12_bagOf_13 : decode cX12_bagOf 13 = .ok (.getfield 37, 3) := by decide +kernel
theorem dX12_bagOf_16 : decode cX12_bagOf 16 = .ok (.iload_n 1, 1) := by decide +kernel
theorem dX12_bagOf_17 : decode cX12_bagOf 17 = .ok (.aaload, 1) := by decide +kernel
theorem dX12_bagOf_18 : decode cX12_bagOf 18 = .ok (.getfield 307, 3) := by decide +kernel
theorem dX12_bagOf_21 : decode cX12_bagOf 21 = .ok (.iconst 1, 1) := by decide +kernel
theorem dX12_bagOf_22 : decode cX12_bagOf 22 = .ok (.isub, 1) := by decide +kernel
theorem dX12_bagOf_23 : decode cX12_bagOf 23 = .ok (.invokestatic 77, 3) := by decide +kernel
theorem dX12_bagOf_26 : decode cX12_bagOf 26 = .ok (.ifCond .eq 17, 3) := by decide +kernel
theorem dX12_bagOf_29 : decode cX12_bagOf 29 = .ok (.aload_n 0, 1) := by decide +kernel
theorem dX12_bagOf_30 : decode cX12_bagOf 30 = .ok (.getfield 37, 3) := by decide +kernel
theorem dX12_bagOf_33 : decode cX12_bagOf 33 = .ok (.iload_n 1, 1) := by decide +kernel
theorem dX12_bagOf_34 : decode cX12_bagOf 34 = .ok (.aaload, 1) := by decide +kernel
theorem dX12_bagOf_35 : decode cX12_bagOf 35 = .ok (.getfield 308, 3) := by decide +kernel
theorem dX12_bagOf_38 : decode cX12_bagOf 38 = .ok (.iload_n 2, 1) := by decide +kernel
theorem dX12_bagOf_39 : decode cX12_bagOf 39 = .ok (.iaload, 1) := by decide +kernel
theorem dX12_bagOf_4 : decode cX12_bagOf 4 = .ok (.ifCond .ne 6, 3) := by decide +kernel
theorem dX12_bagOf_40 : decode cX12_bagOf 40 = .ok (.goto 5, 3) := by decide +kernel
theorem dX12_bagOf_43 : decode cX12_bagOf 43 = .ok (.bipush (-12), 2) := by decide +kernel
theorem dX12_bagOf_45 : decode cX12_bagOf 45 = .ok (.ireturn, 1) := by decide +kernel
theorem dX12_bagOf_7 : decode cX12_bagOf 7 = .ok (.bipush (-2), 2) := by decide +kernel
theorem dX12_bagOf_9 : decode cX12_bagOf 9 = .ok (.ireturn, 1) := by decide +kernel
set_option maxRecDepth 20000 in
theorem ggX12_bagOf_X12_isBag : GoodIn wsX12_bagOf wsX12_isBag := goodIn_r _ [7, 8, 9, 6, 10] rfl (by decide +kernel)
set_option maxRecDepth 20000 in
theorem ggX12_bagOf_X12_within : GoodIn wsX12_bagOf wsX12_within := goodIn_r _ [10] rfl (by decide +kernel)
set_option maxRecDepth 20000 in
theorem gX12_bagOf_X12_isBag : GoodIn wsX12_bagOf (va_wsS RX12 300 yX12_isBag wsX12_isBag) := goodIn_app (goodIn_of _ (by decide +kernel)) ggX12_bagOf_X12_isBag
set_option maxRecDepth 20000 in
theorem gX12_bagOf_X12_within : GoodIn wsX12_bagOf (va_wsS RX12 77 yX12_within wsX12_within) := goodIn_app (goodIn_of _ (by decide +kernel)) ggX12_bagOf_X12_within
set_option maxRecDepth 20000 in
theorem in_X12_bagOf_X1 : ∀ w ∈ wsX10, w ∈ wsX12_bagOf := sub_r [22, 23] rfl
set_option maxRecDepth 20000 in
theorem in_X12_bagOf_X12 : ∀ w ∈ wsX120, w ∈ wsX12_bagOf := sub_r [11, 12, 13, 14, 15, 16, 17, 18, 19, 20, 21] rfl
set_option maxHeartbeats 4000000 in
set_option maxRecDepth 100000 in
theorem c_X12_bagOf (l : Launch) (D : va_G) (T : Nat → ClassId) (h0 : Nat) (fs0 : List Value) (h1 : Nat) (f1 : Nat → Option Nat) (h2 : Nat) (fs2 : List Value) (h3 : Nat) (fs3 : List Value) (h4 : Nat) (fs4 : List Value) (h5 : Nat) (f5 : Nat → Int32) (h6 : Nat) (f6 : Nat → Int32) (h7 : Nat) (f7 : Nat → Int32) (x1 : Int32) (x2 : Int32) (n0 : Int32) (n1 : Int32) (n2 : Int32) (e0_5 : fs0[5]? = some (.ref h1)) (e1_0 : f1 0 = some h2) (e1_1 : f1 1 = some h3) (e1_2 : f1 2 = some h4) (e2_0 : fs2[0]? = some (.int n0)) (e2_1 : fs2[1]? = some (.ref h5)) (e3_0 : fs3[0]? = some (.int n1)) (e3_1 : fs3[1]? = some (.ref h6)) (e4_0 : fs4[0]? = some (.int n2)) (e4_1 : fs4[1]? = some (.ref h7)) (hb0 : 0 ≤ n0.toInt ∧ n0.toInt ≤ 12) (hb1 : 0 ≤ n1.toInt ∧ n1.toInt ≤ 12) (hb2 : 0 ≤ n2.toInt ∧ n2.toInt ≤ 12) : Met l yX12_bagOf wsX12_bagOf ({ frames := 2, cells := 0, slots := 0, locals := 42 }) (pR [.ref h0, .int x1, .int x2] D T [(h0, .inr (9, fs0)), (h1, .inl (T 5, 3, .inr (.inr (.inr (.inr f1))))), (h2, .inr (0, fs2)), (h3, .inr (0, fs3)), (h4, .inr (0, fs4)), (h5, .inl (T 0, 12, .inl f5)), (h6, .inl (T 0, 12, .inl f6)), (h7, .inl (T 0, 12, .inl f7))]) (vp_Si (fun r => bagOfC x1 x2 r (fun k => [n0, n1, n2].getD k 0) (fun k => [f5, f6, f7].getD k f5))) 0 0 (fun _ => False) := by
  refine Met.ofW (cc := cX12_bagOf) (maxL := 3) (ret := (some .int)) (by decide +kernel) rfl ?_
  intro p e s m args below meth c s₁ B hml hv
  obtain ⟨rfl, hP, hE⟩ := hv
  have hx := B.exec
  have hb := B.bytes
  have hr := B.returns
  have hts := atoms_spec (ws := wsX12_bagOf) B.pre
  have hown : s.vm.findClass RX12 = some m.cls := findClass_of_methodNamed B.named
  have hlocks := B.notSynchronized
  have hP : va_P D vwCl [(h0, .inr (9, fs0)), (h1, .inl (T 5, 3, .inr (.inr (.inr (.inr f1))))), (h2, .inr (0, fs2)), (h3, .inr (0, fs3)), (h4, .inr (0, fs4)), (h5, .inl (T 0, 12, .inl f5)), (h6, .inl (T 0, 12, .inl f6)), (h7, .inl (T 0, 12, .inl f7))] s.heap := hP
  have hl := lv_entry ([.ref h0, .int x1, .int x2]) (n := 3) (Nat.le_of_ble_eq_true rfl)
  rw [lg_entry_eq]
  generalize (lg_sl ([.ref h0, .int x1, .int x2]) ++ List.replicate (3 - (lg_sl ([.ref h0, .int x1, .int x2])).length) Slot.unset).toArray = ls at hl ⊢
  have hl : lv_has ls 3 [(0, .ref h0), (1, .int x1), (2, .int x2)] := hl
  have hd0 := dec1 (i := n0) (by omega)
  have hd1 := dec1 (i := n1) (by omega)
  have hd2 := dec1 (i := n2) (by omega)
  refine lv_iload_n hx hb dX12_bagOf_0 rfl (lv_at hl 1 rfl) ?_
  refine vp_callSi (W.runS (As := [.int x1]) (rest := []) ⟨hx, hb, hml, hown, hts⟩ (c_X12_isBag l D T x1) (va_cwS 1 hts gX12_bagOf_X12_isBag rfl rfl rfl hs_X12_isBag ⟨Nat.le_of_ble_eq_true rfl, Nat.le_of_ble_eq_true rfl⟩) (pR_S hP hE [] rfl) rfl rfl hl.1 rfl (lv_room (Nat.le_of_ble_eq_true rfl)) dX12_bagOf_1 ⟨Nat.le_of_ble_eq_true rfl, Nat.le_of_ble_eq_true rfl⟩) (fun r_1 hr_1 => ?_)
  rcases bool_post hr_1 with ⟨c_2, rfl⟩ | ⟨c_2, rfl⟩
  · refine lv_if_ne (tgt := 10) hx hb dX12_bagOf_4 (by decide +kernel) (fun _ => ?_) (fun c9 => absurd c9 (by decide +kernel))
    refine lv_iload_n hx hb dX12_bagOf_10 rfl (lv_at hl 2 rfl) ?_
    refine lv_iconst (v := 0) hx hb dX12_bagOf_11 (by decide +kernel) ?_
    refine lv_aload_n hx hb dX12_bagOf_12 rfl (lv_at hl 0 rfl) ?_
    refine va_get (D := D) (ci := 9) (v := .ref h1) (C := RX12) (T := TX12) (N := 11) hx hb hts in_X12_bagOf_X12 hown hE.1 hP 0 rfl rfl 5 (by decide +kernel) (hts (.fieldLink RX12 37 "ClauseBook" "bags" "[LClauseBook$Bag;") (List.mem_of_getElem? (i := 1) rfl)) (fun _ h9 => h9) e0_5 dX12_bagOf_13 ?_
    refine lv_iload_n hx hb dX12_bagOf_16 rfl (lv_at hl 1 rfl) ?_
    rcases in3 (x := x1) (by omega) with rfl | rfl | rfl
    · refine va_aldq hx hb hE.1 hP 1 5 rfl rfl (by unfold vp_in; decide) dX12_bagOf_17 ?_
      refine W.eq (g2 := F0 m 18 ls [.ref h2, .int 0, .int x2]) (by rw [show (0 : Int32).toNatClampNeg = 0 from rfl, e1_0]; rfl) ?_
      refine va_get (D := D) (ci := 0) (v := .int n0) (C := RX1) (T := TX1) (N := 2) hx hb hts in_X12_bagOf_X1 hown hE.1 hP 2 rfl rfl 0 (by decide +kernel) (hts (.fieldLink RX12 307 "ClauseBook$Bag" "size" "I") (List.mem_of_getElem? (i := 2) rfl)) (fun _ h9 => h9) e2_0 dX12_bagOf_18 ?_
      refine lv_iconst (v := 1) hx hb dX12_bagOf_21 (by decide +kernel) ?_
      refine lv_isub hx hb dX12_bagOf_22 ?_
      refine vp_callSi (W.runS (As := [.int x2, .int 0, .int (n0 - 1)]) (rest := []) ⟨hx, hb, hml, hown, hts⟩ (c_X12_within l D T x2 0 (n0 - 1) 0 ((n0 - 1)).toInt (by decide +kernel) rfl) (va_cwS 3 hts gX12_bagOf_X12_within rfl rfl rfl hs_X12_within ⟨Nat.le_of_ble_eq_true rfl, Nat.le_of_ble_eq_true rfl⟩) (pR_S hP hE [] rfl) rfl rfl hl.1 rfl (lv_room (Nat.le_of_ble_eq_true rfl)) dX12_bagOf_23 ⟨Nat.le_of_ble_eq_true rfl, Nat.le_of_ble_eq_true rfl⟩) (fun r_3 hr_3 => ?_)
      rcases bool_post hr_3 with ⟨c_4, rfl⟩ | ⟨c_4, rfl⟩
      · refine lv_if_eq (tgt := 43) hx hb dX12_bagOf_26 (by decide +kernel) (fun c9 => absurd c9 (by decide +kernel)) (fun _ => ?_)
        refine lv_aload_n hx hb dX12_bagOf_29 rfl (lv_at hl 0 rfl) ?_
        refine va_get (D := D) (ci := 9) (v := .ref h1) (C := RX12) (T := TX12) (N := 11) hx hb hts in_X12_bagOf_X12 hown hE.1 hP 0 rfl rfl 5 (by decide +kernel) (hts (.fieldLink RX12 37 "ClauseBook" "bags" "[LClauseBook$Bag;") (List.mem_of_getElem? (i := 1) rfl)) (fun _ h9 => h9) e0_5 dX12_bagOf_30 ?_
        refine lv_iload_n hx hb dX12_bagOf_33 rfl (lv_at hl 1 rfl) ?_
        refine va_aldq hx hb hE.1 hP 1 5 rfl rfl (by unfold vp_in; decide) dX12_bagOf_34 ?_
        refine W.eq (g2 := F0 m 35 ls [.ref h2]) (by rw [show (0 : Int32).toNatClampNeg = 0 from rfl, e1_0]; rfl) ?_
        refine va_get (D := D) (ci := 0) (v := .ref h5) (C := RX1) (T := TX1) (N := 2) hx hb hts in_X12_bagOf_X1 hown hE.1 hP 2 rfl rfl 1 (by decide +kernel) (hts (.fieldLink RX12 308 "ClauseBook$Bag" "numbers" "[I") (List.mem_of_getElem? (i := 3) rfl)) (fun _ h9 => h9) e2_1 dX12_bagOf_35 ?_
        refine lv_iload_n hx hb dX12_bagOf_38 rfl (lv_at hl 2 rfl) ?_
        refine va_iald hx hb hE.1 hP 5 0 rfl rfl (by rw [vp_in_iff]; first | omega | (subst_vars; rw [dec1 (by omega)]; omega) | (subst_vars; rw [inc1 (n := 1000) (by omega) (by decide +kernel)]; omega)) dX12_bagOf_39 ?_
        refine lv_topi (fun z_5 ez_5 => ?_)
        refine lv_goto (tgt := 45) hx hb dX12_bagOf_40 (by decide +kernel) ?_
        exact W.iret hx hb hr (fun t ht hW => ⟨_, rfl, (Or.inr (Or.inr ⟨⟨by decide, by decide⟩, (show 0 ≤ x2.toInt ∧ x2.toInt < n0.toInt from by omega), ez_5⟩)), ht⟩) (fun _ h => by cases h) dX12_bagOf_45
      · refine lv_if_eq (tgt := 43) hx hb dX12_bagOf_26 (by decide +kernel) (fun _ => ?_) (fun c9 => absurd c9 (by decide +kernel))
        refine lv_bipush (v := (-12)) hx hb dX12_bagOf_43 (by decide +kernel) ?_
        exact W.iret hx hb hr (fun t ht hW => ⟨_, rfl, (Or.inr (Or.inl ⟨⟨by decide, by decide⟩, (show ¬ (0 ≤ x2.toInt ∧ x2.toInt < n0.toInt) from by omega), (by decide +kernel)⟩)), ht⟩) (fun _ h => by cases h) dX12_bagOf_45
    · refine va_aldq hx hb hE.1 hP 1 5 rfl rfl (by unfold vp_in; decide) dX12_bagOf_17 ?_
      refine W.eq (g2 := F0 m 18 ls [.ref h3, .int 0, .int x2]) (by rw [show (1 : Int32).toNatClampNeg = 1 from rfl, e1_1]; rfl) ?_
      refine va_get (D := D) (ci := 0) (v := .int n1) (C := RX1) (T := TX1) (N := 2) hx hb hts in_X12_bagOf_X1 hown hE.1 hP 3 rfl rfl 0 (by decide +kernel) (hts (.fieldLink RX12 307 "ClauseBook$Bag" "size" "I") (List.mem_of_getElem? (i := 2) rfl)) (fun _ h9 => h9) e3_0 dX12_bagOf_18 ?_
      refine lv_iconst (v := 1) hx hb dX12_bagOf_21 (by decide +kernel) ?_
      refine lv_isub hx hb dX12_bagOf_22 ?_
      refine vp_callSi (W.runS (As := [.int x2, .int 0, .int (n1 - 1)]) (rest := []) ⟨hx, hb, hml, hown, hts⟩ (c_X12_within l D T x2 0 (n1 - 1) 0 ((n1 - 1)).toInt (by decide +kernel) rfl) (va_cwS 3 hts gX12_bagOf_X12_within rfl rfl rfl hs_X12_within ⟨Nat.le_of_ble_eq_true rfl, Nat.le_of_ble_eq_true rfl⟩) (pR_S hP hE [] rfl) rfl rfl hl.1 rfl (lv_room (Nat.le_of_ble_eq_true rfl)) dX12_bagOf_23 ⟨Nat.le_of_ble_eq_true rfl, Nat.le_of_ble_eq_true rfl⟩) (fun r_6 hr_6 => ?_)
      rcases bool_post hr_6 with ⟨c_7, rfl⟩ | ⟨c_7, rfl⟩
      · refine lv_if_eq (tgt := 43) hx hb dX12_bagOf_26 (by decide +kernel) (fun c9 => absurd c9 (by decide +kernel)) (fun _ => ?_)
        refine lv_aload_n hx hb dX12_bagOf_29 rfl (lv_at hl 0 rfl) ?_
        refine va_get (D := D) (ci := 9) (v := .ref h1) (C := RX12) (T := TX12) (N := 11) hx hb hts in_X12_bagOf_X12 hown hE.1 hP 0 rfl rfl 5 (by decide +kernel) (hts (.fieldLink RX12 37 "ClauseBook" "bags" "[LClauseBook$Bag;") (List.mem_of_getElem? (i := 1) rfl)) (fun _ h9 => h9) e0_5 dX12_bagOf_30 ?_
        refine lv_iload_n hx hb dX12_bagOf_33 rfl (lv_at hl 1 rfl) ?_
        refine va_aldq hx hb hE.1 hP 1 5 rfl rfl (by unfold vp_in; decide) dX12_bagOf_34 ?_
        refine W.eq (g2 := F0 m 35 ls [.ref h3]) (by rw [show (1 : Int32).toNatClampNeg = 1 from rfl, e1_1]; rfl) ?_
        refine va_get (D := D) (ci := 0) (v := .ref h6) (C := RX1) (T := TX1) (N := 2) hx hb hts in_X12_bagOf_X1 hown hE.1 hP 3 rfl rfl 1 (by decide +kernel) (hts (.fieldLink RX12 308 "ClauseBook$Bag" "numbers" "[I") (List.mem_of_getElem? (i := 3) rfl)) (fun _ h9 => h9) e3_1 dX12_bagOf_35 ?_
        refine lv_iload_n hx hb dX12_bagOf_38 rfl (lv_at hl 2 rfl) ?_
        refine va_iald hx hb hE.1 hP 6 0 rfl rfl (by rw [vp_in_iff]; first | omega | (subst_vars; rw [dec1 (by omega)]; omega) | (subst_vars; rw [inc1 (n := 1000) (by omega) (by decide +kernel)]; omega)) dX12_bagOf_39 ?_
        refine lv_topi (fun z_8 ez_8 => ?_)
        refine lv_goto (tgt := 45) hx hb dX12_bagOf_40 (by decide +kernel) ?_
        exact W.iret hx hb hr (fun t ht hW => ⟨_, rfl, (Or.inr (Or.inr ⟨⟨by decide, by decide⟩, (show 0 ≤ x2.toInt ∧ x2.toInt < n1.toInt from by omega), ez_8⟩)), ht⟩) (fun _ h => by cases h) dX12_bagOf_45
      · refine lv_if_eq (tgt := 43) hx hb dX12_bagOf_26 (by decide +kernel) (fun _ => ?_) (fun c9 => absurd c9 (by decide +kernel))
        refine lv_bipush (v := (-12)) hx hb dX12_bagOf_43 (by decide +kernel) ?_
        exact W.iret hx hb hr (fun t ht hW => ⟨_, rfl, (Or.inr (Or.inl ⟨⟨by decide, by decide⟩, (show ¬ (0 ≤ x2.toInt ∧ x2.toInt < n1.toInt) from by omega), (by decide +kernel)⟩)), ht⟩) (fun _ h => by cases h) dX12_bagOf_45
    · refine va_aldq hx hb hE.1 hP 1 5 rfl rfl (by unfold vp_in; decide) dX12_bagOf_17 ?_
      refine W.eq (g2 := F0 m 18 ls [.ref h4, .int 0, .int x2]) (by rw [show (2 : Int32).toNatClampNeg = 2 from rfl, e1_2]; rfl) ?_
      refine va_get (D := D) (ci := 0) (v := .int n2) (C := RX1) (T := TX1) (N := 2) hx hb hts in_X12_bagOf_X1 hown hE.1 hP 4 rfl rfl 0 (by decide +kernel) (hts (.fieldLink RX12 307 "ClauseBook$Bag" "size" "I") (List.mem_of_getElem? (i := 2) rfl)) (fun _ h9 => h9) e4_0 dX12_bagOf_18 ?_
      refine lv_iconst (v := 1) hx hb dX12_bagOf_21 (by decide +kernel) ?_
      refine lv_isub hx hb dX12_bagOf_22 ?_
      refine vp_callSi (W.runS (As := [.int x2, .int 0, .int (n2 - 1)]) (rest := []) ⟨hx, hb, hml, hown, hts⟩ (c_X12_within l D T x2 0 (n2 - 1) 0 ((n2 - 1)).toInt (by decide +kernel) rfl) (va_cwS 3 hts gX12_bagOf_X12_within rfl rfl rfl hs_X12_within ⟨Nat.le_of_ble_eq_true rfl, Nat.le_of_ble_eq_true rfl⟩) (pR_S hP hE [] rfl) rfl rfl hl.1 rfl (lv_room (Nat.le_of_ble_eq_true rfl)) dX12_bagOf_23 ⟨Nat.le_of_ble_eq_true rfl, Nat.le_of_ble_eq_true rfl⟩) (fun r_9 hr_9 => ?_)
      rcases bool_post hr_9 with ⟨c_10, rfl⟩ | ⟨c_10, rfl⟩
      · refine lv_if_eq (tgt := 43) hx hb dX12_bagOf_26 (by decide +kernel) (fun c9 => absurd c9 (by decide +kernel)) (fun _ => ?_)
        refine lv_aload_n hx hb dX12_bagOf_29 rfl (lv_at hl 0 rfl) ?_
        refine va_get (D := D) (ci := 9) (v := .ref h1) (C := RX12) (T := TX12) (N := 11) hx hb hts in_X12_bagOf_X12 hown hE.1 hP 0 rfl rfl 5 (by decide +kernel) (hts (.fieldLink RX12 37 "ClauseBook" "bags" "[LClauseBook$Bag;") (List.mem_of_getElem? (i := 1) rfl)) (fun _ h9 => h9) e0_5 dX12_bagOf_30 ?_
        refine lv_iload_n hx hb dX12_bagOf_33 rfl (lv_at hl 1 rfl) ?_
        refine va_aldq hx hb hE.1 hP 1 5 rfl rfl (by unfold vp_in; decide) dX12_bagOf_34 ?_
        refine W.eq (g2 := F0 m 35 ls [.ref h4]) (by rw [show (2 : Int32).toNatClampNeg = 2 from rfl, e1_2]; rfl) ?_
        refine va_get (D := D) (ci := 0) (v := .ref h7) (C := RX1) (T := TX1) (N := 2) hx hb hts in_X12_bagOf_X1 hown hE.1 hP 4 rfl rfl 1 (by decide +kernel) (hts (.fieldLink RX12 308 "ClauseBook$Bag" "numbers" "[I") (List.mem_of_getElem? (i := 3) rfl)) (fun _ h9 => h9) e4_1 dX12_bagOf_35 ?_
        refine lv_iload_n hx hb dX12_bagOf_38 rfl (lv_at hl 2 rfl) ?_
        refine va_iald hx hb hE.1 hP 7 0 rfl rfl (by rw [vp_in_iff]; first | omega | (subst_vars; rw [dec1 (by omega)]; omega) | (subst_vars; rw [inc1 (n := 1000) (by omega) (by decide +kernel)]; omega)) dX12_bagOf_39 ?_
        refine lv_topi (fun z_11 ez_11 => ?_)
        refine lv_goto (tgt := 45) hx hb dX12_bagOf_40 (by decide +kernel) ?_
        exact W.iret hx hb hr (fun t ht hW => ⟨_, rfl, (Or.inr (Or.inr ⟨⟨by decide, by decide⟩, (show 0 ≤ x2.toInt ∧ x2.toInt < n2.toInt from by omega), ez_11⟩)), ht⟩) (fun _ h => by cases h) dX12_bagOf_45
      · refine lv_if_eq (tgt := 43) hx hb dX12_bagOf_26 (by decide +kernel) (fun _ => ?_) (fun c9 => absurd c9 (by decide +kernel))
        refine lv_bipush (v := (-12)) hx hb dX12_bagOf_43 (by decide +kernel) ?_
        exact W.iret hx hb hr (fun t ht hW => ⟨_, rfl, (Or.inr (Or.inl ⟨⟨by decide, by decide⟩, (show ¬ (0 ≤ x2.toInt ∧ x2.toInt < n2.toInt) from by omega), (by decide +kernel)⟩)), ht⟩) (fun _ h => by cases h) dX12_bagOf_45
  · refine lv_if_ne (tgt := 10) hx hb dX12_bagOf_4 (by decide +kernel) (fun c9 => absurd c9 (by decide +kernel)) (fun _ => ?_)
    refine lv_bipush (v := (-2)) hx hb dX12_bagOf_7 (by decide +kernel) ?_
    exact W.iret hx hb hr (fun t ht hW => ⟨_, rfl, (Or.inl ⟨(by omega), (by decide +kernel)⟩), ht⟩) (fun _ h => by cases h) dX12_bagOf_9
theorem dX10_append_0 : decode cX10_append 0 = .ok (.aload_n 0, 1) := by decide +kernel
theorem dX10_append_1 : decode cX10_append 1 = .ok (.getfield 9, 3) := by decide +kernel
theorem dX10_append_10 : decode cX10_append 10 = .ok (.aload_n 0, 1) := by decide +kernel
theorem dX10_append_11 : decode cX10_append 11 = .ok (.getfield 15, 3) := by decide +kernel
theorem dX10_append_14 : decode cX10_append 14 = .ok (.aload_n 0, 1) := by decide +kernel
theorem dX10_append_15 : decode cX10_append 15 = .ok (.getfield 9, 3) := by decide +kernel
theorem dX10_append_18 : decode cX10_append 18 = .ok (.iload_n 1, 1) := by decide +kernel
theorem dX10_append_19 : decode cX10_append 19 = .ok (.iastore, 1) := by decide +kernel
theorem dX10_append_20 : decode cX10_append 20 = .ok (.aload_n 0, 1) := by decide +kernel
theorem dX10_append_21 : decode cX10_append 21 = .ok (.dup, 1) := by decide +kernel
theorem dX10_append_22 : decode cX10_append 22 = .ok (.getfield 9, 3) := by decide +kernel
theorem dX10_append_25 : decode cX10_append 25 = .ok (.iconst 1, 1) := by decide +kernel
theorem dX10_append_26 : decode cX10_append 26 = .ok (.iadd, 1) := by decide +kernel
theorem dX10_append_27 : decode cX10_append 27 = .ok (.putfield 9, 3) := by decide +kernel
theorem dX10_append_30 : decode cX10_append 30 = .ok (.return_, 1) := by decide +kernel
theorem dX10_append_4 : decode cX10_append 4 = .ok (.bipush 120, 2) := by decide +kernel
theorem dX10_append_6 : decode cX10_append 6 = .ok (.if_icmp .lt 4, 3) := by decide +kernel
theorem dX10_append_9 : decode cX10_append 9 = .ok (.return_, 1) := by decide +kernel
set_option maxRecDepth 20000 in
theorem in_X10_append_X10 : ∀ w ∈ wsX100, w ∈ wsX10_append := sub_r [3, 4, 5, 6, 7, 8, 9] rfl
set_option maxHeartbeats 4000000 in
set_option maxRecDepth 100000 in
theorem c_X10_append (l : Launch) (D : va_G) (T : Nat → ClassId) (sz : Nat) (h0 : Nat) (n : Int32) (a0 : Nat) (f : Nat → Int32) (v2 : Value) (v3 : Value) (m4 : Int32) (m5 : Int32) (m6 : Int32) (x1 : Int32) (hn : 0 ≤ n.toInt ∧ n.toInt ≤ 120) : Met l yX10_append wsX10_append ({ frames := 0, cells := 0, slots := 0, locals := 0 }) (pW [.ref h0, .int x1] D T [(h0, .inr (7, [.int n, .ref a0, v2, v3, .int m4, .int m5, .int m6])), (a0, .inl (T 0, 120, .inl f))] sz) (va_Qv (fun (u : Int32 × (Nat → Int32)) => (0 ≤ u.1.toInt ∧ u.1.toInt ≤ 120) ∧ ((n).toInt < 120 → u.1.toInt = (n).toInt + 1 ∧ u.2 = upd f ((n).toNatClampNeg) x1)) (bW D (va_A [(h0, .inr (7, [.int n, .ref a0, v2, v3, .int m4, .int m5, .int m6])), (a0, .inl (T 0, 120, .inl f))] sz) (fun (u : Int32 × (Nat → Int32)) => [(h0, .inr (7, [.int u.1, .ref a0, v2, v3, .int m4, .int m5, .int m6])), (a0, .inl (T 0, 120, .inl u.2))])) (va_A [(h0, .inr (7, [.int n, .ref a0, v2, v3, .int m4, .int m5, .int m6])), (a0, .inl (T 0, 120, .inl f))] sz)) 0 0 (va_A [(h0, .inr (7, [.int n, .ref a0, v2, v3, .int m4, .int m5, .int m6])), (a0, .inl (T 0, 120, .inl f))] sz) := by
  refine Met.ofW (cc := cX10_append) (maxL := 2) (ret := none) (by decide +kernel) rfl ?_
  intro p e s m args below meth c s₁ B hml hv
  obtain ⟨rfl, hsz, hP, hE, hD0⟩ := hv
  have hx := B.exec
  have hb := B.bytes
  have hr := B.returns
  have hts := atoms_spec (ws := wsX10_append) B.pre
  have hown : s.vm.findClass RX10 = some m.cls := findClass_of_methodNamed B.named
  have hlocks := B.notSynchronized
  subst hsz
  have hD := hD0.self (sz := s.heap.size)
  generalize hAe : va_A [(h0, .inr (7, [.int n, .ref a0, v2, v3, .int m4, .int m5, .int m6])), (a0, .inl (T 0, 120, .inl f))] s.heap.size = A at hD ⊢
  have hA : ∀ q : Nat, s.heap.size ≤ q → A q := fun q h => by rw [← hAe]; exact Or.inr h
  have hS : va_S A s.heap s.heap [] := va_S.rf
  have hP : va_P D vwCl [(h0, .inr (7, [.int n, .ref a0, v2, v3, .int m4, .int m5, .int m6])), (a0, .inl (T 0, 120, .inl f))] s.heap := hP
  have hl := lv_entry ([.ref h0, .int x1]) (n := 2) (Nat.le_of_ble_eq_true rfl)
  rw [lg_entry_eq]
  generalize (lg_sl ([.ref h0, .int x1]) ++ List.replicate (2 - (lg_sl ([.ref h0, .int x1])).length) Slot.unset).toArray = ls at hl ⊢
  have hl : lv_has ls 2 [(0, .ref h0), (1, .int x1)] := hl
  clear hD0
  refine lv_aload_n hx hb dX10_append_0 rfl (lv_at hl 0 rfl) ?_
  refine va_get (D := D) (ci := 7) (v := .int n) (C := RX10) (T := TX10) (N := 7) hx hb hts in_X10_append_X10 hown hE.1 hP 0 rfl rfl 0 (by decide +kernel) (hts (.fieldLink RX10 9 "ClauseBook$Tape" "size" "I") (List.mem_of_getElem? (i := 1) rfl)) (fun _ h9 => h9) rfl dX10_append_1 ?_
  refine lv_bipush (v := 120) hx hb dX10_append_4 (by decide +kernel) ?_
  refine lv_icmp_lt (tgt := 10) hx hb dX10_append_6 (by decide +kernel) (fun c_1 => ?_) (fun c_1 => ?_)
  · rw [fa_lt] at c_1
    try rw [ti_120] at c_1
    refine lv_aload_n hx hb dX10_append_10 rfl (lv_at hl 0 rfl) ?_
    refine va_get (D := D) (ci := 7) (v := .ref a0) (C := RX10) (T := TX10) (N := 7) hx hb hts in_X10_append_X10 hown hE.1 hP 0 rfl rfl 1 (by decide +kernel) (hts (.fieldLink RX10 15 "ClauseBook$Tape" "bytes" "[I") (List.mem_of_getElem? (i := 2) rfl)) (fun _ h9 => h9) rfl dX10_append_11 ?_
    refine lv_aload_n hx hb dX10_append_14 rfl (lv_at hl 0 rfl) ?_
    refine va_get (D := D) (ci := 7) (v := .int n) (C := RX10) (T := TX10) (N := 7) hx hb hts in_X10_append_X10 hown hE.1 hP 0 rfl rfl 0 (by decide +kernel) (hts (.fieldLink RX10 9 "ClauseBook$Tape" "size" "I") (List.mem_of_getElem? (i := 1) rfl)) (fun _ h9 => h9) rfl dX10_append_15 ?_
    refine lv_iload_n hx hb dX10_append_18 rfl (lv_at hl 1 rfl) ?_
    refine va_iast hx hb hE.1 hP hD hS 1 0 rfl rfl (by rw [vp_in_iff]; first | omega | (subst_vars; rw [dec1 (by omega)]; omega) | (subst_vars; rw [inc1 (n := 1000) (by omega) (by decide +kernel)]; omega)) dX10_append_19 (fun H locs hP hD hS => ?_)
    obtain ⟨hP, hD⟩ := wPD [(h0, .inr (7, [.int n, .ref a0, v2, v3, .int m4, .int m5, .int m6])), (a0, .inl (T 0, 120, .inl (upd f (n.toNatClampNeg) x1)))] hP hD rfl
    refine lv_aload_n hx hb dX10_append_20 rfl (lv_at hl 0 rfl) ?_
    refine lv_dup hx hb dX10_append_21 rfl ?_
    refine va_get (D := D) (ci := 7) (v := .int n) (C := RX10) (T := TX10) (N := 7) hx hb hts in_X10_append_X10 hown hE.1 hP 0 rfl rfl 0 (by decide +kernel) (hts (.fieldLink RX10 9 "ClauseBook$Tape" "size" "I") (List.mem_of_getElem? (i := 1) rfl)) (fun _ h9 => h9) rfl dX10_append_22 ?_
    refine lv_iconst (v := 1) hx hb dX10_append_25 (by decide +kernel) ?_
    refine lv_iadd hx hb dX10_append_26 ?_
    refine lv_topi (fun z_2 ez_2 => ?_)
    refine va_put (D := D) (ci := 7) (v := .int z_2) (ty := .int) (C := RX10) (T := TX10) (N := 7) hx hb hts in_X10_append_X10 tyX10 tyX10_ok nmX10 hown hE.1 hP hD hS 0 rfl rfl 0 (by decide +kernel) (hts (.fieldLink RX10 9 "ClauseBook$Tape" "size" "I") (List.mem_of_getElem? (i := 1) rfl)) (fun _ h9 => h9) rfl (by decide +kernel) rfl rfl (Nat.le_of_ble_eq_true rfl) dX10_append_27 (fun H locs hP hD hS => ?_)
    obtain ⟨hP, hD⟩ := wPD [(h0, .inr (7, [.int z_2, .ref a0, v2, v3, .int m4, .int m5, .int m6])), (a0, .inl (T 0, 120, .inl (upd f (n.toNatClampNeg) x1)))] hP hD rfl
    exact W.vret hx hb hr (fun t ht hW => ⟨⟨(z_2, (upd f (n.toNatClampNeg) x1)), rfl, ⟨(show 0 ≤ (z_2).toInt ∧ (z_2).toInt ≤ 120 from by (try subst_vars); first | omega | (rw [inc1 (n := 120) (by omega) (by decide +kernel)]; omega)), (fun _ => ⟨(show (z_2).toInt = n.toInt + 1 from by rw [ez_2]; exact inc1 (n := 120) (by omega) (by decide +kernel)), rfl⟩)⟩, by rw [ht]; exact hP.sub [0, 1] rfl, hD.sub [0, 1] (by decide +kernel) rfl⟩, hS.F ht⟩) hS.2.2 dX10_append_30
  · rw [fa_lt] at c_1
    try rw [ti_120] at c_1
    exact W.vret hx hb hr (fun t ht hW => ⟨⟨(n, f), rfl, ⟨(show 0 ≤ (n).toInt ∧ (n).toInt ≤ 120 from by (try subst_vars); first | omega | (rw [inc1 (n := 120) (by omega) (by decide +kernel)]; omega)), (fun h9 => absurd h9 (by omega))⟩, by rw [ht]; exact hP.sub [0, 1] rfl, hD.sub [0, 1] (by decide +kernel) rfl⟩, hS.F ht⟩) hS.2.2 dX10_append_9
theorem dX12_feed_0 : decode cX12_feed 0 = .ok (.iload_n 1, 1) := by decide +kernel
theorem dX12_feed_1 : decode cX12_feed 1 = .ok (.iconst 1, 1) := by decide +kernel
theorem dX12_feed_11 : decode cX12_feed 11 = .ok (.ireturn, 1) := by decide +kernel
theorem dX12_feed_12 : decode cX12_feed 12 = .ok (.aload_n 0, 1) := by decide +kernel
theorem dX12_feed_13 : decode cX12_feed 13 = .ok (.getfield 59, 3) := by decide +kernel
theorem dX12_feed_16 : decode cX12_feed 16 = .ok (.getfield 285, 3) := by decide +kernel
theorem dX12_feed_19 : decode cX12_feed 19 = .ok (.iload_n 1, 1) := by decide +kernel
theorem dX12_feed_2 : decode cX12_feed 2 = .ok (.iconst 4, 1) := by decide +kernel
theorem dX12_feed_20 : decode cX12_feed 20 = .ok (.iadd, 1) := by decide +kernel
theorem dX12_feed_21 : decode cX12_feed 21 = .ok (.bipush 120, 2) := by decide +kernel
theorem dX12_feed_23 : decode cX12_feed 23 = .ok (.if_icmp .le 6, 3) := by decide +kernel
theorem dX12_feed_26 : decode cX12_feed 26 = .ok (.bipush (-4), 2) := by decide +kernel
theorem dX12_feed_28 : decode cX12_feed 28 = .ok (.ireturn, 1) := by decide +kernel
theorem dX12_feed_29 : decode cX12_feed 29 = .ok (.iconst 0, 1) := by decide +kernel
theorem dX12_feed_3 : decode cX12_feed 3 = .ok (.invokestatic 77, 3) := by decide +kernel
theorem dX12_feed_30 : decode cX12_feed 30 = .ok (.istore_n 3, 1) := by decide +kernel
theorem dX12_feed_31 : decode cX12_feed 31 = .ok (.iload_n 3, 1) := by decide +kernel
theorem dX12_feed_32 : decode cX12_feed 32 = .ok (.iload_n 1, 1) := by decide +kernel
theorem dX12_feed_33 : decode cX12_feed 33 = .ok (.if_icmp .ge 29, 3) := by decide +kernel
theorem dX12_feed_36 : decode cX12_feed 36 = .ok (.aload_n 0, 1) := by decide +kernel
theorem dX12_feed_37 : decode cX12_feed 37 = .ok (.getfield 59, 3) := by decide +kernel
theorem dX12_feed_40 : decode cX12_feed 40 = .ok (.iload_n 2, 1) := by decide +kernel
theorem dX12_feed_41 : decode cX12_feed 41 = .ok (.bipush 24, 2) := by decide +kernel
theorem dX12_feed_43 : decode cX12_feed 43 = .ok (.bipush 8, 2) := by decide +kernel
theorem dX12_feed_45 : decode cX12_feed 45 = .ok (.iload_n 3, 1) := by decide +kernel
theorem dX12_feed_46 : decode cX12_feed 46 = .ok (.imul, 1) := by decide +kernel
theorem dX12_feed_47 : decode cX12_feed 47 = .ok (.isub, 1) := by decide +kernel
theorem dX12_feed_48 : decode cX12_feed 48 = .ok (.iushr, 1) := by decide +kernel
theorem dX12_feed_49 : decode cX12_feed 49 = .ok (.sipush 255, 3) := by decide +kernel
theorem dX12_feed_52 : decode cX12_feed 52 = .ok (.iand, 1) := by decide +kernel
theorem dX12_feed_53 : decode cX12_feed 53 = .ok (.invokevirtual 286, 3) := by decide +kernel
theorem dX12_feed_56 : decode cX12_feed 56 = .ok (.iinc 3 1, 3) := by decide +kernel
theorem dX12_feed_59 : decode cX12_feed 59 = .ok (.goto (-28), 3) := by decide +kernel
theorem dX12_feed_6 : decode cX12_feed 6 = .ok (.ifCond .ne 6, 3) := by decide +kernel
theorem dX12_feed_62 : decode cX12_feed 62 = .ok (.aload_n 0, 1) := by decide +kernel
theorem dX12_feed_63 : decode cX12_feed 63 = .ok (.getfield 59, 3) := by decide +kernel
theorem dX12_feed_66 : decode cX12_feed 66 = .ok (.getfield 285, 3) := by decide +kernel
theorem dX12_feed_69 : decode cX12_feed 69 = .ok (.ireturn, 1) := by decide +kernel
theorem dX12_feed_9 : decode cX12_feed 9 = .ok (.bipush (-2), 2) := by decide +kernel
set_option maxRecDepth 20000 in
theorem ggX12_feed_X10_append : GoodIn wsX12_feed wsX10_append := goodIn_r _ [11, 12, 13, 25, 26, 27, 28, 29, 30, 31] rfl (by decide +kernel)
set_option maxRecDepth 20000 in
theorem ggX12_feed_X12_within : GoodIn wsX12_feed wsX12_within := goodIn_r _ [6] rfl (by decide +kernel)
set_option maxRecDepth 20000 in
theorem gX12_feed_X10_append : GoodIn wsX12_feed (wsV RX12 286 RX10 yX10_append wsX10_append) := goodIn_app (goodIn_r _ [7, 8, 9, 10] rfl (by decide +kernel)) ggX12_feed_X10_append
set_option maxRecDepth 20000 in
theorem gX12_feed_X12_within : GoodIn wsX12_feed (va_wsS RX12 77 yX12_within wsX12_within) := goodIn_app (goodIn_of _ (by decide +kernel)) ggX12_feed_X12_within
theorem hv_X10_append : yX10_append.cls = RX10 ∧ yX10_append.cls ≠ "java/lang/invoke/MethodHandle" ∧ yX10_append.cls ≠ "java/lang/invoke/VarHandle" ∧ (parseMethodDescriptor yX10_append.desc).map (fun d => d.parameters.length) = some 1 := by decide +kernel
set_option maxRecDepth 20000 in
theorem in_X12_feed_X10 : ∀ w ∈ wsX100, w ∈ wsX12_feed := sub_r [25, 26, 27, 28, 29, 30, 31] rfl
set_option maxRecDepth 20000 in
theorem in_X12_feed_X12 : ∀ w ∈ wsX120, w ∈ wsX12_feed := sub_r [14, 15, 16, 17, 18, 19, 20, 21, 22, 23, 24] rfl
set_option maxHeartbeats 4000000 in
set_option maxRecDepth 100000 in
theorem c_X12_feed (l : Launch) (D : va_G) (T : Nat → ClassId) (sz : Nat) (h0 : Nat) (h1 : Nat) (fs0 : List Value) (n : Int32) (a0 : Nat) (f : Nat → Int32) (v2 : Value) (v3 : Value) (m4 : Int32) (m5 : Int32) (m6 : Int32) (x1 : Int32) (x2 : Int32) (e0_8 : fs0[8]? = some (.ref h1)) (hn : 0 ≤ n.toInt ∧ n.toInt ≤ 120) : Met l yX12_feed wsX12_feed ({ frames := 1, cells := 0, slots := 0, locals := 22 }) (pW [.ref h0, .int x1, .int x2] D T [(h0, .inr (9, fs0)), (h1, .inr (7, [.int n, .ref a0, v2, v3, .int m4, .int m5, .int m6])), (a0, .inl (T 0, 120, .inl f))] sz) (va_Qi (fun (r : Int32) (u : Int32 × (Nat → Int32)) => (0 ≤ u.1.toInt ∧ u.1.toInt ≤ 120) ∧ ((¬ (1 ≤ x1.toInt ∧ x1.toInt ≤ 4) ∧ r.toInt = -2 ∧ u.1.toInt = n.toInt) ∨ ((1 ≤ x1.toInt ∧ x1.toInt ≤ 4) ∧ 120 < n.toInt + x1.toInt ∧ r.toInt = -4 ∧ u.1.toInt = n.toInt) ∨ ((1 ≤ x1.toInt ∧ x1.toInt ≤ 4) ∧ n.toInt + x1.toInt ≤ 120 ∧ r.toInt = u.1.toInt ∧ u.1.toInt = n.toInt + x1.toInt)) ∧ ((1 ≤ x1.toInt ∧ x1.toInt ≤ 4) ∧ n.toInt + x1.toInt ≤ 120 → u.2 = fdF f (n).toNatClampNeg x2 x1.toNatClampNeg) ∧ (¬ ((1 ≤ x1.toInt ∧ x1.toInt ≤ 4) ∧ n.toInt + x1.toInt ≤ 120) → u.2 = f)) (bW D (va_A [(h0, .inr (9, fs0)), (h1, .inr (7, [.int n, .ref a0, v2, v3, .int m4, .int m5, .int m6])), (a0, .inl (T 0, 120, .inl f))] sz) (fun (u : Int32 × (Nat → Int32)) => [(h0, .inr (9, fs0)), (h1, .inr (7, [.int u.1, .ref a0, v2, v3, .int m4, .int m5, .int m6])), (a0, .inl (T 0, 120, .inl u.2))])) (va_A [(h0, .inr (9, fs0)), (h1, .inr (7, [.int n, .ref a0, v2, v3, .int m4, .int m5, .int m6])), (a0, .inl (T 0, 120, .inl f))] sz)) 0 0 (va_A [(h0, .inr (9, fs0)), (h1, .inr (7, [.int n, .ref a0, v2, v3, .int m4, .int m5, .int m6])), (a0, .inl (T 0, 120, .inl f))] sz) := by
  refine Met.ofW (cc := cX12_feed) (maxL := 4) (ret := (some .int)) (by decide +kernel) rfl ?_
  intro p e s m args below meth c s₁ B hml hv
  obtain ⟨rfl, hsz, hP, hE, hD0⟩ := hv
  have hx := B.exec
  have hb := B.bytes
  have hr := B.returns
  have hts := atoms_spec (ws := wsX12_feed) B.pre
  have hown : s.vm.findClass RX12 = some m.cls := findClass_of_methodNamed B.named
  have hlocks := B.notSynchronized
  subst hsz
  have hD := hD0.self (sz := s.heap.size)
  generalize hAe : va_A [(h0, .inr (9, fs0)), (h1, .inr (7, [.int n, .ref a0, v2, v3, .int m4, .int m5, .int m6])), (a0, .inl (T 0, 120, .inl f))] s.heap.size = A at hD ⊢
  have hA : ∀ q : Nat, s.heap.size ≤ q → A q := fun q h => by rw [← hAe]; exact Or.inr h
  have hS : va_S A s.heap s.heap [] := va_S.rf
  have hP : va_P D vwCl [(h0, .inr (9, fs0)), (h1, .inr (7, [.int n, .ref a0, v2, v3, .int m4, .int m5, .int m6])), (a0, .inl (T 0, 120, .inl f))] s.heap := hP
  have hl := lv_entry ([.ref h0, .int x1, .int x2]) (n := 4) (Nat.le_of_ble_eq_true rfl)
  rw [lg_entry_eq]
  generalize (lg_sl ([.ref h0, .int x1, .int x2]) ++ List.replicate (4 - (lg_sl ([.ref h0, .int x1, .int x2])).length) Slot.unset).toArray = ls at hl ⊢
  have hl : lv_has ls 4 [(0, .ref h0), (1, .int x1), (2, .int x2)] := hl
  clear hD0
  refine lv_iload_n hx hb dX12_feed_0 rfl (lv_at hl 1 rfl) ?_
  refine lv_iconst (v := 1) hx hb dX12_feed_1 (by decide +kernel) ?_
  refine lv_iconst (v := 4) hx hb dX12_feed_2 (by decide +kernel) ?_
  refine vp_callSi (W.runS (As := [.int x1, .int 1, .int 4]) (rest := []) ⟨hx, hb, hml, hown, hts⟩ (c_X12_within l D T x1 1 4 1 4 (by decide +kernel) (by decide +kernel)) (va_cwS 3 hts gX12_feed_X12_within rfl rfl rfl hs_X12_within ⟨Nat.le_of_ble_eq_true rfl, Nat.le_of_ble_eq_true rfl⟩) (pR_S hP hE [] rfl) rfl rfl hl.1 rfl (lv_room (Nat.le_of_ble_eq_true rfl)) dX12_feed_3 ⟨Nat.le_of_ble_eq_true rfl, Nat.le_of_ble_eq_true rfl⟩) (fun r_1 hr_1 => ?_)
  rcases bool_post hr_1 with ⟨c_2, rfl⟩ | ⟨c_2, rfl⟩
  · refine lv_if_ne (tgt := 12) hx hb dX12_feed_6 (by decide +kernel) (fun _ => ?_) (fun c9 => absurd c9 (by decide +kernel))
    refine lv_aload_n hx hb dX12_feed_12 rfl (lv_at hl 0 rfl) ?_
    refine va_get (D := D) (ci := 9) (v := .ref h1) (C := RX12) (T := TX12) (N := 11) hx hb hts in_X12_feed_X12 hown hE.1 hP 0 rfl rfl 8 (by decide +kernel) (hts (.fieldLink RX12 59 "ClauseBook" "tape" "LClauseBook$Tape;") (List.mem_of_getElem? (i := 1) rfl)) (fun _ h9 => h9) e0_8 dX12_feed_13 ?_
    refine va_get (D := D) (ci := 7) (v := .int n) (C := RX10) (T := TX10) (N := 7) hx hb hts in_X12_feed_X10 hown hE.1 hP 1 rfl rfl 0 (by decide +kernel) (hts (.fieldLink RX12 285 "ClauseBook$Tape" "size" "I") (List.mem_of_getElem? (i := 2) rfl)) (fun _ h9 => h9) rfl dX12_feed_16 ?_
    refine lv_iload_n hx hb dX12_feed_19 rfl (lv_at hl 1 rfl) ?_
    refine lv_iadd hx hb dX12_feed_20 ?_
    have hs9 : (n + x1).toInt = n.toInt + x1.toInt := fb_addI (by omega) (by omega)
    refine lv_bipush (v := 120) hx hb dX12_feed_21 (by decide +kernel) ?_
    refine lv_icmp_le (tgt := 29) hx hb dX12_feed_23 (by decide +kernel) (fun c_3 => ?_) (fun c_3 => ?_)
    · rw [fa_le] at c_3
      try rw [ti_120] at c_3
      refine lv_iconst (v := 0) hx hb dX12_feed_29 (by decide +kernel) ?_
      refine lv_istore_n (lv' := [(3, .int 0), (0, .ref h0), (1, .int x1), (2, .int x2)]) hx hb dX12_feed_30 rfl hl (by decide +kernel) rfl (fun ls hl => ?_)
      refine loopW (σ := (Int32) × (Int32) × (Nat → Int32)) (fun x9 ls H locs => lv_has ls 4 [(3, .int x9.1), (0, .ref h0), (1, .int x1), (2, .int x2)] ∧ va_P D vwCl [(h0, .inr (9, fs0)), (h1, .inr (7, [.int x9.2.1, .ref a0, v2, v3, .int m4, .int m5, .int m6])), (a0, .inl (T 0, 120, .inl x9.2.2))] H ∧ va_D A [(h0, .inr (9, fs0)), (h1, .inr (7, [.int x9.2.1, .ref a0, v2, v3, .int m4, .int m5, .int m6])), (a0, .inl (T 0, 120, .inl x9.2.2))] ∧ va_S A s.heap H locs ∧ (((0 ≤ x9.1.toInt ∧ x9.1.toInt ≤ x1.toInt) ∧ x9.2.1.toInt = n.toInt + x9.1.toInt ∧ 0 ≤ x9.2.1.toInt ∧ x9.2.1.toInt ≤ 120) ∧ x9.2.2 = fdF f n.toNatClampNeg x2 x9.1.toNatClampNeg)) (fun x9 => (5 - x9.1.toInt).toNat) (fun x9 ls H locs hI ih => ?_) (0, n, f) ls ⟨lv_sub hl [0, 1, 2, 3] rfl, hP.sub [0, 1, 2] rfl, hD.sub [0, 1, 2] (by decide +kernel) rfl, hS, ⟨(by (try dsimp only); rw [ti_0]; omega), (by (try dsimp only); rw [tn0']; rfl)⟩⟩
      obtain ⟨ii, ni, fi⟩ := x9
      obtain ⟨hl, hP, hD, hS, hinv⟩ := hI
      have hl : lv_has ls 4 [(3, .int ii), (0, .ref h0), (1, .int x1), (2, .int x2)] := hl
      have hP : va_P D vwCl [(h0, .inr (9, fs0)), (h1, .inr (7, [.int ni, .ref a0, v2, v3, .int m4, .int m5, .int m6])), (a0, .inl (T 0, 120, .inl fi))] H := hP
      have hD : va_D A [(h0, .inr (9, fs0)), (h1, .inr (7, [.int ni, .ref a0, v2, v3, .int m4, .int m5, .int m6])), (a0, .inl (T 0, 120, .inl fi))] := hD
      have hinv : ((0 ≤ ii.toInt ∧ ii.toInt ≤ x1.toInt) ∧ ni.toInt = n.toInt + ii.toInt ∧ 0 ≤ ni.toInt ∧ ni.toInt ≤ 120) ∧ fi = fdF f n.toNatClampNeg x2 ii.toNatClampNeg := hinv
      obtain ⟨hinv, hfi⟩ := hinv
      refine lv_iload_n hx hb dX12_feed_31 rfl (lv_at hl 0 rfl) ?_
      refine lv_iload_n hx hb dX12_feed_32 rfl (lv_at hl 2 rfl) ?_
      refine lv_icmp_ge (tgt := 62) hx hb dX12_feed_33 (by decide +kernel) (fun c_4 => ?_) (fun c_4 => ?_)
      · rw [fa_le] at c_4
        refine lv_aload_n hx hb dX12_feed_62 rfl (lv_at hl 1 rfl) ?_
        refine va_get (D := D) (ci := 9) (v := .ref h1) (C := RX12) (T := TX12) (N := 11) hx hb hts in_X12_feed_X12 hown hE.1 hP 0 rfl rfl 8 (by decide +kernel) (hts (.fieldLink RX12 59 "ClauseBook" "tape" "LClauseBook$Tape;") (List.mem_of_getElem? (i := 1) rfl)) (fun _ h9 => h9) e0_8 dX12_feed_63 ?_
        refine va_get (D := D) (ci := 7) (v := .int ni) (C := RX10) (T := TX10) (N := 7) hx hb hts in_X12_feed_X10 hown hE.1 hP 1 rfl rfl 0 (by decide +kernel) (hts (.fieldLink RX12 285 "ClauseBook$Tape" "size" "I") (List.mem_of_getElem? (i := 2) rfl)) (fun _ h9 => h9) rfl dX12_feed_66 ?_
        exact W.iret hx hb hr (fun t ht hW => ⟨⟨_, (ni, fi), rfl, ⟨(show 0 ≤ (ni).toInt ∧ (ni).toInt ≤ 120 from by omega), (Or.inr (Or.inr ⟨by omega, by omega, rfl, (by (try dsimp only); omega)⟩)), ⟨(fun _ => (show ii = x1 from Int32.toInt_inj.1 (by omega)) ▸ hfi), (fun h9 => absurd (by omega) h9)⟩⟩, by rw [ht]; exact hP.sub [0, 1, 2] rfl, hD.sub [0, 1, 2] (by decide +kernel) rfl⟩, hS.F ht⟩) hS.2.2 dX12_feed_69
      · rw [fa_le] at c_4
        refine lv_aload_n hx hb dX12_feed_36 rfl (lv_at hl 1 rfl) ?_
        refine va_get (D := D) (ci := 9) (v := .ref h1) (C := RX12) (T := TX12) (N := 11) hx hb hts in_X12_feed_X12 hown hE.1 hP 0 rfl rfl 8 (by decide +kernel) (hts (.fieldLink RX12 59 "ClauseBook" "tape" "LClauseBook$Tape;") (List.mem_of_getElem? (i := 1) rfl)) (fun _ h9 => h9) e0_8 dX12_feed_37 ?_
        refine lv_iload_n hx hb dX12_feed_40 rfl (lv_at hl 3 rfl) ?_
        refine lv_bipush (v := 24) hx hb dX12_feed_41 (by decide +kernel) ?_
        refine lv_bipush (v := 8) hx hb dX12_feed_43 (by decide +kernel) ?_
        refine lv_iload_n hx hb dX12_feed_45 rfl (lv_at hl 0 rfl) ?_
        refine lv_imul hx hb dX12_feed_46 ?_
        refine lv_isub hx hb dX12_feed_47 ?_
        obtain ⟨z_5, ez_5⟩ : ∃ y : Int32, (x2.toUInt32 >>> ((24 - (8 * ii)).toUInt32 &&& Int32.toUInt32 31)).toInt32 = y := ⟨_, rfl⟩
        refine lv_iushr (v := z_5) hx hb dX12_feed_48 ez_5 ?_
        refine lv_sipush (v := 255) hx hb dX12_feed_49 (by decide +kernel) ?_
        refine lv_iand hx hb dX12_feed_52 ?_
        have hFc := va_free (wc := [(h1, .inr (7, [.int ni, .ref a0, v2, v3, .int m4, .int m5, .int m6])), (a0, .inl (T 0, 120, .inl fi))]) hD hS hA [1, 2] rfl
        refine va_callv (va_runV (As := [.int (z_5 &&& 255)]) (rest := []) ⟨hx, hb, hml, hown, hts⟩ (c_X10_append l D T _ h1 ni a0 fi (v2) (v3) m4 m5 m6 (z_5 &&& 255) (by omega)) (cwV 1 hts gX12_feed_X10_append rfl rfl rfl hv_X10_append ⟨Nat.le_of_ble_eq_true rfl, Nat.le_of_ble_eq_true rfl⟩) (pW_V (q := (RX10, TX10, 7)) (ci := 7) (q0 := 1) hP hE hD rfl rfl [1, 2] (by decide +kernel) rfl rfl) rfl rfl hl.1 rfl (lv_room (Nat.le_of_ble_eq_true rfl)) dX12_feed_53 ⟨Nat.le_of_ble_eq_true rfl, Nat.le_of_ble_eq_true rfl⟩) hS (fun q _ h => hFc q h) hFc (fun u_7 t H1 locs ht hvm hr_6 hB hz1 hk1 hS => ?_)
        obtain ⟨n_8, f_9⟩ := u_7
        have hinn_8 : (0 ≤ n_8.toInt ∧ n_8.toInt ≤ 120) ∧ ((ni).toInt < 120 → n_8.toInt = (ni).toInt + 1 ∧ f_9 = upd fi ((ni).toNatClampNeg) (z_5 &&& 255)) := hr_6
        have hia := (hinn_8.2 (by omega)).1
        have hib := (hinn_8.2 (by omega)).2
        have hic := hinn_8.1
        clear hinn_8
        obtain ⟨hP1, hD1⟩ := hB
        rw [ht] at hP1
        obtain ⟨hP, hD⟩ := va_repl [(h0, .inr (9, fs0)), (h1, .inr (7, [.int n_8, .ref a0, v2, v3, .int m4, .int m5, .int m6])), (a0, .inl (T 0, 120, .inl f_9))] hP hD [1, 2] [1, 2] rfl (by decide +kernel) rfl rfl rfl hk1 hP1
        clear hP1 hD1 hFc
        generalize H1 = H at hP hS ⊢
        obtain ⟨z_10, ez_10⟩ : ∃ y : Int32, y = ii + 1 := ⟨_, rfl⟩
        refine lv_iinc (v := z_10) (lv' := [(3, .int z_10), (0, .ref h0), (1, .int x1), (2, .int x2)]) hx hb dX12_feed_56 hl (k := 0) rfl (by rw [ez_10]; rfl) (by decide +kernel) rfl (fun ls hl => ?_)
        have hi9 : z_10.toInt = ii.toInt + 1 := by rw [ez_10]; exact inc1 (n := 1000) (by omega) (by decide +kernel)
        refine lv_goto (tgt := 31) hx hb dX12_feed_59 (by decide +kernel) ?_
        exact ih (z_10, n_8, f_9) ls _ _ ⟨lv_sub hl [0, 1, 2, 3] rfl, hP.sub [0, 1, 2] rfl, hD.sub [0, 1, 2] (by decide +kernel) rfl, hS, ⟨(by (try dsimp only); omega), (by (try dsimp only); rw [hib]; exact fdF_step (n := n) (i := ii) (by omega) (by omega) hi9 (by omega) hfi (by rw [← ez_5]; rfl))⟩⟩ (by (try dsimp only); omega)
    · rw [fa_le] at c_3
      try rw [ti_120] at c_3
      refine lv_bipush (v := (-4)) hx hb dX12_feed_26 (by decide +kernel) ?_
      exact W.iret hx hb hr (fun t ht hW => ⟨⟨_, (n, f), rfl, ⟨(show 0 ≤ (n).toInt ∧ (n).toInt ≤ 120 from by omega), (Or.inr (Or.inl ⟨by omega, by omega, by decide, rfl⟩)), ⟨(fun h9 => absurd h9 (by omega)), (fun _ => rfl)⟩⟩, by rw [ht]; exact hP.sub [0, 1, 2] rfl, hD.sub [0, 1, 2] (by decide +kernel) rfl⟩, hS.F ht⟩) hS.2.2 dX12_feed_28
  · refine lv_if_ne (tgt := 12) hx hb dX12_feed_6 (by decide +kernel) (fun c9 => absurd c9 (by decide +kernel)) (fun _ => ?_)
    refine lv_bipush (v := (-2)) hx hb dX12_feed_9 (by decide +kernel) ?_
    exact W.iret hx hb hr (fun t ht hW => ⟨⟨_, (n, f), rfl, ⟨(show 0 ≤ (n).toInt ∧ (n).toInt ≤ 120 from by omega), (Or.inl ⟨by omega, by decide, rfl⟩), ⟨(fun h9 => absurd h9 (by omega)), (fun _ => rfl)⟩⟩, by rw [ht]; exact hP.sub [0, 1, 2] rfl, hD.sub [0, 1, 2] (by decide +kernel) rfl⟩, hS.F ht⟩) hS.2.2 dX12_feed_11
end
section
theorem dX9_store_0 : decode cX9_store 0 = .ok (.aload_n 0, 1) := by decide +kernel
theorem dX9_store_1 : decode cX9_store 1 = .ok (.getfield 9, 3) := by decide +kernel
theorem dX9_store_32 : decode cX9_store 32 = .ok (.lload_n 2, 1) := by decide +kernel
theorem dX9_store_33 : decode cX9_store 33 = .ok (.lload_n 2, 1) := by decide +kernel
theorem dX9_store_34 : decode cX9_store 34 = .ok (.l2i, 1) := by decide +kernel
theorem dX9_store_35 : decode cX9_store 35 = .ok (.i2l, 1) := by decide +kernel
theorem dX9_store_36 : decode cX9_store 36 = .ok (.lcmp, 1) := by decide +kernel
theorem dX9_store_37 : decode cX9_store 37 = .ok (.ifCond .eq 5, 3) := by decide +kernel
theorem dX9_store_4 : decode cX9_store 4 = .ok (.tableswitch 67 0 2 #[28, 48, 57], 28) := by decide +kernel
theorem dX9_store_40 : decode cX9_store 40 = .ok (.iconst 0, 1) := by decide +kernel
theorem dX9_store_41 : decode cX9_store 41 = .ok (.ireturn, 1) := by decide +kernel
theorem dX9_store_42 : decode cX9_store 42 = .ok (.aload_n 0, 1) := by decide +kernel
theorem dX9_store_43 : decode cX9_store 43 = .ok (.getfield 18, 3) := by decide +kernel
theorem dX9_store_46 : decode cX9_store 46 = .ok (.iload_n 1, 1) := by decide +kernel
theorem dX9_store_47 : decode cX9_store 47 = .ok (.lload_n 2, 1) := by decide +kernel
theorem dX9_store_48 : decode cX9_store 48 = .ok (.l2i, 1) := by decide +kernel
theorem dX9_store_49 : decode cX9_store 49 = .ok (.iastore, 1) := by decide +kernel
theorem dX9_store_50 : decode cX9_store 50 = .ok (.iconst 1, 1) := by decide +kernel
theorem dX9_store_51 : decode cX9_store 51 = .ok (.ireturn, 1) := by decide +kernel
theorem dX9_store_52 : decode cX9_store 52 = .ok (.aload_n 0, 1) := by decide +kernel
theorem dX9_store_53 : decode cX9_store 53 = .ok (.getfield 22, 3) := by decide +kernel
theorem dX9_store_56 : decode cX9_store 56 = .ok (.iload_n 1, 1) := by decide +kernel
theorem dX9_store_57 : decode cX9_store 57 = .ok (.lload_n 2, 1) := by decide +kernel
theorem dX9_store_58 : decode cX9_store 58 = .ok (.lastore, 1) := by decide +kernel
theorem dX9_store_59 : decode cX9_store 59 = .ok (.iconst 1, 1) := by decide +kernel
theorem dX9_store_60 : decode cX9_store 60 = .ok (.ireturn, 1) := by decide +kernel
theorem dX9_store_61 : decode cX9_store 61 = .ok (.aload_n 0, 1) := by decide +kernel
theorem dX9_store_62 : decode cX9_store 62 = .ok (.getfield 26, 3) := by decide +kernel
theorem dX9_store_65 : decode cX9_store 65 = .ok (.iload_n 1, 1) := by decide +kernel
theorem dX9_store_66 : decode cX9_store 66 = .ok (.lload_n 2, 1) := by decide +kernel
theorem dX9_store_67 : decode cX9_store 67 = .ok (.l2f, 1) := by decide +kernel
theorem dX9_store_68 : decode cX9_store 68 = .ok (.fastore, 1) := by decide +kernel
theorem dX9_store_69 : decode cX9_store 69 = .ok (.iconst 1, 1) := by decide +kernel
theorem dX9_store_70 : decode cX9_store 70 = .ok (.ireturn, 1) := by decide +kernel
theorem dX9_store_71 : decode cX9_store 71 = .ok (.aload_n 0, 1) := by decide +kernel
theorem dX9_store_72 : decode cX9_store 72 = .ok (.getfield 30, 3) := by decide +kernel
theorem dX9_store_75 : decode cX9_store 75 = .ok (.iload_n 1, 1) := by decide +kernel
theorem dX9_store_76 : decode cX9_store 76 = .ok (.lload_n 2, 1) := by decide +kernel
theorem dX9_store_77 : decode cX9_store 77 = .ok (.l2d, 1) := by decide +kernel
theorem dX9_store_78 : decode cX9_store 78 = .ok (.dastore, 1) := by decide +kernel
theorem dX9_store_79 : decode cX9_store 79 = .ok (.iconst 1, 1) := by decide +kernel
theorem dX9_store_80 : decode cX9_store 80 = .ok (.ireturn, 1) := by decide +kernel
set_option maxRecDepth 20000 in
theorem in_X9_store_X9 : ∀ w ∈ wsX90, w ∈ wsX9_store := sub_r [6, 7, 8, 9, 10, 11] rfl
set_option maxHeartbeats 4000000 in
set_option maxRecDepth 100000 in
theorem c_X9_store (l : Launch) (D : va_G) (T : Nat → ClassId) (sz : Nat) (h0 : Nat) (so : Int32) (sn : Int32) (s0 : Nat) (s1 : Nat) (s2 : Nat) (s3 : Nat) (f0 : Nat → Int32) (f1 : Nat → Int64) (f2 : Nat → UInt32) (f3 : Nat → UInt64) (x1 : Int32) (x2 : Int64) (hin1 : vp_in x1 30) : Met l yX9_store wsX9_store ({ frames := 0, cells := 0, slots := 0, locals := 0 }) (pW [.ref h0, .int x1, .long x2] D T [(h0, .inr (6, [.int so, .int sn, .ref s0, .ref s1, .ref s2, .ref s3])), (s0, .inl (T 0, 30, .inl f0)), (s1, .inl (T 1, 30, .inr (.inl f1))), (s2, .inl (T 2, 30, .inr (.inr (.inl f2)))), (s3, .inl (T 3, 30, .inr (.inr (.inr (.inl f3)))))] sz) (va_Qi (fun (r : Int32) (u : (Nat → Int32) × (Nat → Int64) × (Nat → UInt32) × (Nat → UInt64)) => (r = 0 ∨ r = 1) ∧ (so.toInt = 0 ∧ ¬ x2.toInt = x2.toInt32.toInt → r.toInt = 0) ∧ (¬ (so.toInt = 0 ∧ ¬ x2.toInt = x2.toInt32.toInt) → r.toInt = 1)) (bW D (va_A [(h0, .inr (6, [.int so, .int sn, .ref s0, .ref s1, .ref s2, .ref s3])), (s0, .inl (T 0, 30, .inl f0)), (s1, .inl (T 1, 30, .inr (.inl f1))), (s2, .inl (T 2, 30, .inr (.inr (.inl f2)))), (s3, .inl (T 3, 30, .inr (.inr (.inr (.inl f3)))))] sz) (fun (u : (Nat → Int32) × (Nat → Int64) × (Nat → UInt32) × (Nat → UInt64)) => [(h0, .inr (6, [.int so, .int sn, .ref s0, .ref s1, .ref s2, .ref s3])), (s0, .inl (T 0, 30, .inl u.1)), (s1, .inl (T 1, 30, .inr (.inl u.2.1))), (s2, .inl (T 2, 30, .inr (.inr (.inl u.2.2.1)))), (s3, .inl (T 3, 30, .inr (.inr (.inr (.inl u.2.2.2)))))])) (va_A [(h0, .inr (6, [.int so, .int sn, .ref s0, .ref s1, .ref s2, .ref s3])), (s0, .inl (T 0, 30, .inl f0)), (s1, .inl (T 1, 30, .inr (.inl f1))), (s2, .inl (T 2, 30, .inr (.inr (.inl f2)))), (s3, .inl (T 3, 30, .inr (.inr (.inr (.inl f3)))))] sz)) 0 0 (va_A [(h0, .inr (6, [.int so, .int sn, .ref s0, .ref s1, .ref s2, .ref s3])), (s0, .inl (T 0, 30, .inl f0)), (s1, .inl (T 1, 30, .inr (.inl f1))), (s2, .inl (T 2, 30, .inr (.inr (.inl f2)))), (s3, .inl (T 3, 30, .inr (.inr (.inr (.inl f3)))))] sz) := by
  refine Met.ofW (cc := cX9_store) (maxL := 4) (ret := (some .boolean)) (by decide +kernel) rfl ?_
  intro p e s m args below meth c s₁ B hml hv
  obtain ⟨rfl, hsz, hP, hE, hD0⟩ := hv
  have hx := B.exec
  have hb := B.bytes
  have hr := B.returns
  have hts := atoms_spec (ws := wsX9_store) B.pre
  have hown : s.vm.findClass RX9 = some m.cls := findClass_of_methodNamed B.named
  have hlocks := B.notSynchronized
  subst hsz
  have hD := hD0.self (sz := s.heap.size)
  generalize hAe : va_A [(h0, .inr (6, [.int so, .int sn, .ref s0, .ref s1, .ref s2, .ref s3])), (s0, .inl (T 0, 30, .inl f0)), (s1, .inl (T 1, 30, .inr (.inl f1))), (s2, .inl (T 2, 30, .inr (.inr (.inl f2)))), (s3, .inl (T 3, 30, .inr (.inr (.inr (.inl f3)))))] s.heap.size = A at hD ⊢
  have hA : ∀ q : Nat, s.heap.size ≤ q → A q := fun q h => by rw [← hAe]; exact Or.inr h
  have hS : va_S A s.heap s.heap [] := va_S.rf
  have hP : va_P D vwCl [(h0, .inr (6, [.int so, .int sn, .ref s0, .ref s1, .ref s2, .ref s3])), (s0, .inl (T 0, 30, .inl f0)), (s1, .inl (T 1, 30, .inr (.inl f1))), (s2, .inl (T 2, 30, .inr (.inr (.inl f2)))), (s3, .inl (T 3, 30, .inr (.inr (.inr (.inl f3)))))] s.heap := hP
  have hl := lv_entry ([.ref h0, .int x1, .long x2]) (n := 4) (Nat.le_of_ble_eq_true rfl)
  rw [lg_entry_eq]
  generalize (lg_sl ([.ref h0, .int x1, .long x2]) ++ List.replicate (4 - (lg_sl ([.ref h0, .int x1, .long x2])).length) Slot.unset).toArray = ls at hl ⊢
  have hl : lv_has ls 4 [(0, .ref h0), (1, .int x1), (2, .long x2)] := hl
  clear hD0
  refine lv_aload_n hx hb dX9_store_0 rfl (lv_at hl 0 rfl) ?_
  refine va_get (D := D) (ci := 6) (v := .int so) (C := RX9) (T := TX9) (N := 6) hx hb hts in_X9_store_X9 hown hE.1 hP 0 rfl rfl 0 (by decide +kernel) (hts (.fieldLink RX9 9 "ClauseBook$Sheet" "sort" "I") (List.mem_of_getElem? (i := 1) rfl)) (fun _ h9 => h9) rfl dX9_store_1 ?_
  by_cases k_1 : so = 0
  · obtain rfl := k_1
    refine lv_tableIn (off := 28) (tgt := 32) hx hb dX9_store_4 (by decide +kernel) (by decide +kernel) (by decide +kernel) (by decide +kernel) ?_
    refine lv_lload_n hx hb dX9_store_32 rfl (lv_at hl 2 rfl) ?_
    refine lv_lload_n hx hb dX9_store_33 rfl (lv_at hl 2 rfl) ?_
    refine lv_l2i hx hb dX9_store_34 rfl ?_
    refine lv_i2l hx hb dX9_store_35 rfl ?_
    refine W.lcmp hx hb dX9_store_36 ?_
    refine lv_if_eq (tgt := 42) hx hb dX9_store_37 (by decide +kernel) (fun c_2 => ?_) (fun c_2 => ?_)
    · rw [lcmp_eq] at c_2
      try rw [((Int32.toInt_toInt64 _).trans rfl)] at c_2
      refine lv_aload_n hx hb dX9_store_42 rfl (lv_at hl 0 rfl) ?_
      refine va_get (D := D) (ci := 6) (v := .ref s0) (C := RX9) (T := TX9) (N := 6) hx hb hts in_X9_store_X9 hown hE.1 hP 0 rfl rfl 2 (by decide +kernel) (hts (.fieldLink RX9 18 "ClauseBook$Sheet" "ints" "[I") (List.mem_of_getElem? (i := 2) rfl)) (fun _ h9 => h9) rfl dX9_store_43 ?_
      refine lv_iload_n hx hb dX9_store_46 rfl (lv_at hl 1 rfl) ?_
      refine lv_lload_n hx hb dX9_store_47 rfl (lv_at hl 2 rfl) ?_
      refine lv_l2i hx hb dX9_store_48 rfl ?_
      refine va_iast hx hb hE.1 hP hD hS 1 0 rfl rfl (by assumption) dX9_store_49 (fun H locs hP hD hS => ?_)
      obtain ⟨hP, hD⟩ := wPD [(h0, .inr (6, [.int 0, .int sn, .ref s0, .ref s1, .ref s2, .ref s3])), (s0, .inl (T 0, 30, .inl (upd f0 (x1.toNatClampNeg) (x2.toInt32)))), (s1, .inl (T 1, 30, .inr (.inl f1))), (s2, .inl (T 2, 30, .inr (.inr (.inl f2)))), (s3, .inl (T 3, 30, .inr (.inr (.inr (.inl f3)))))] hP hD rfl
      refine lv_iconst (v := 1) hx hb dX9_store_50 (by decide +kernel) ?_
      exact W.zret hx hb hr rfl (fun t ht hW => ⟨⟨_, ((upd f0 (x1.toNatClampNeg) (x2.toInt32)), f1, f2, f3), rfl, ⟨(Or.inr rfl), (by (try dsimp only); have h9r := ti_1; have h9z := ti_0; have h9o := ti_1; have h9w := ti_2; omega)⟩, by rw [ht]; exact hP.sub [0, 1, 2, 3, 4] rfl, hD.sub [0, 1, 2, 3, 4] (by decide +kernel) rfl⟩, hS.F ht⟩) hS.2.2 dX9_store_51
    · rw [lcmp_eq] at c_2
      try rw [((Int32.toInt_toInt64 _).trans rfl)] at c_2
      refine lv_iconst (v := 0) hx hb dX9_store_40 (by decide +kernel) ?_
      exact W.zret hx hb hr rfl (fun t ht hW => ⟨⟨_, (f0, f1, f2, f3), rfl, ⟨(Or.inl rfl), (by (try dsimp only); have h9r := ti_0; have h9z := ti_0; have h9o := ti_1; have h9w := ti_2; omega)⟩, by rw [ht]; exact hP.sub [0, 1, 2, 3, 4] rfl, hD.sub [0, 1, 2, 3, 4] (by decide +kernel) rfl⟩, hS.F ht⟩) hS.2.2 dX9_store_41
  by_cases k_3 : so = 1
  · obtain rfl := k_3
    refine lv_tableIn (off := 48) (tgt := 52) hx hb dX9_store_4 (by decide +kernel) (by decide +kernel) (by decide +kernel) (by decide +kernel) ?_
    refine lv_aload_n hx hb dX9_store_52 rfl (lv_at hl 0 rfl) ?_
    refine va_get (D := D) (ci := 6) (v := .ref s1) (C := RX9) (T := TX9) (N := 6) hx hb hts in_X9_store_X9 hown hE.1 hP 0 rfl rfl 3 (by decide +kernel) (hts (.fieldLink RX9 22 "ClauseBook$Sheet" "longs" "[J") (List.mem_of_getElem? (i := 3) rfl)) (fun _ h9 => h9) rfl dX9_store_53 ?_
    refine lv_iload_n hx hb dX9_store_56 rfl (lv_at hl 1 rfl) ?_
    refine lv_lload_n hx hb dX9_store_57 rfl (lv_at hl 2 rfl) ?_
    refine va_last hx hb hE.1 hP hD hS 2 1 rfl rfl (by assumption) dX9_store_58 (fun H locs hP hD hS => ?_)
    obtain ⟨hP, hD⟩ := wPD [(h0, .inr (6, [.int 1, .int sn, .ref s0, .ref s1, .ref s2, .ref s3])), (s0, .inl (T 0, 30, .inl f0)), (s1, .inl (T 1, 30, .inr (.inl (vp_updL f1 (x1.toNatClampNeg) x2)))), (s2, .inl (T 2, 30, .inr (.inr (.inl f2)))), (s3, .inl (T 3, 30, .inr (.inr (.inr (.inl f3)))))] hP hD rfl
    refine lv_iconst (v := 1) hx hb dX9_store_59 (by decide +kernel) ?_
    exact W.zret hx hb hr rfl (fun t ht hW => ⟨⟨_, (f0, (vp_updL f1 (x1.toNatClampNeg) x2), f2, f3), rfl, ⟨(Or.inr rfl), (by (try dsimp only); have h9r := ti_1; have h9z := ti_0; have h9o := ti_1; have h9w := ti_2; omega)⟩, by rw [ht]; exact hP.sub [0, 1, 2, 3, 4] rfl, hD.sub [0, 1, 2, 3, 4] (by decide +kernel) rfl⟩, hS.F ht⟩) hS.2.2 dX9_store_60
  by_cases k_4 : so = 2
  · obtain rfl := k_4
    refine lv_tableIn (off := 57) (tgt := 61) hx hb dX9_store_4 (by decide +kernel) (by decide +kernel) (by decide +kernel) (by decide +kernel) ?_
    refine lv_aload_n hx hb dX9_store_61 rfl (lv_at hl 0 rfl) ?_
    refine va_get (D := D) (ci := 6) (v := .ref s2) (C := RX9) (T := TX9) (N := 6) hx hb hts in_X9_store_X9 hown hE.1 hP 0 rfl rfl 4 (by decide +kernel) (hts (.fieldLink RX9 26 "ClauseBook$Sheet" "floats" "[F") (List.mem_of_getElem? (i := 4) rfl)) (fun _ h9 => h9) rfl dX9_store_62 ?_
    refine lv_iload_n hx hb dX9_store_65 rfl (lv_at hl 1 rfl) ?_
    refine lv_lload_n hx hb dX9_store_66 rfl (lv_at hl 2 rfl) ?_
    refine lv_l2f hx hb dX9_store_67 ?_
    refine va_fast hx hb hE.1 hP hD hS 3 2 rfl rfl (by assumption) dX9_store_68 (fun H locs hP hD hS => ?_)
    obtain ⟨hP, hD⟩ := wPD [(h0, .inr (6, [.int 2, .int sn, .ref s0, .ref s1, .ref s2, .ref s3])), (s0, .inl (T 0, 30, .inl f0)), (s1, .inl (T 1, 30, .inr (.inl f1))), (s2, .inl (T 2, 30, .inr (.inr (.inl (vf_upd f2 (x1.toNatClampNeg) (FP.l2f x2)))))), (s3, .inl (T 3, 30, .inr (.inr (.inr (.inl f3)))))] hP hD rfl
    refine lv_iconst (v := 1) hx hb dX9_store_69 (by decide +kernel) ?_
    exact W.zret hx hb hr rfl (fun t ht hW => ⟨⟨_, (f0, f1, (vf_upd f2 (x1.toNatClampNeg) (FP.l2f x2)), f3), rfl, ⟨(Or.inr rfl), (by (try dsimp only); have h9r := ti_1; have h9z := ti_0; have h9o := ti_1; have h9w := ti_2; omega)⟩, by rw [ht]; exact hP.sub [0, 1, 2, 3, 4] rfl, hD.sub [0, 1, 2, 3, 4] (by decide +kernel) rfl⟩, hS.F ht⟩) hS.2.2 dX9_store_70
  rw [fa_eq] at k_1 k_3 k_4
  try simp only [ti_0, ti_1, ti_2] at k_1 k_3 k_4
  refine lv_tableOut (tgt := 71) hx hb dX9_store_4 (by omega) (by decide +kernel) ?_
  refine lv_aload_n hx hb dX9_store_71 rfl (lv_at hl 0 rfl) ?_
  refine va_get (D := D) (ci := 6) (v := .ref s3) (C := RX9) (T := TX9) (N := 6) hx hb hts in_X9_store_X9 hown hE.1 hP 0 rfl rfl 5 (by decide +kernel) (hts (.fieldLink RX9 30 "ClauseBook$Sheet" "doubles" "[D") (List.mem_of_getElem? (i := 5) rfl)) (fun _ h9 => h9) rfl dX9_store_72 ?_
  refine lv_iload_n hx hb dX9_store_75 rfl (lv_at hl 1 rfl) ?_
  refine lv_lload_n hx hb dX9_store_76 rfl (lv_at hl 2 rfl) ?_
  refine lv_l2d hx hb dX9_store_77 ?_
  refine va_dast hx hb hE.1 hP hD hS 4 3 rfl rfl (by assumption) dX9_store_78 (fun H locs hP hD hS => ?_)
  obtain ⟨hP, hD⟩ := wPD [(h0, .inr (6, [.int so, .int sn, .ref s0, .ref s1, .ref s2, .ref s3])), (s0, .inl (T 0, 30, .inl f0)), (s1, .inl (T 1, 30, .inr (.inl f1))), (s2, .inl (T 2, 30, .inr (.inr (.inl f2)))), (s3, .inl (T 3, 30, .inr (.inr (.inr (.inl (vf_upd f3 (x1.toNatClampNeg) (FP.l2d x2)))))))] hP hD rfl
  refine lv_iconst (v := 1) hx hb dX9_store_79 (by decide +kernel) ?_
  exact W.zret hx hb hr rfl (fun t ht hW => ⟨⟨_, (f0, f1, f2, (vf_upd f3 (x1.toNatClampNeg) (FP.l2d x2))), rfl, ⟨(Or.inr rfl), (by (try dsimp only); have h9r := ti_1; have h9z := ti_0; have h9o := ti_1; have h9w := ti_2; omega)⟩, by rw [ht]; exact hP.sub [0, 1, 2, 3, 4] rfl, hD.sub [0, 1, 2, 3, 4] (by decide +kernel) rfl⟩, hS.F ht⟩) hS.2.2 dX9_store_80
theorem dX9_become_0 : decode cX9_become 0 = .ok (.aload_n 0, 1) := by decide +kernel
theorem dX9_become_1 : decode cX9_become 1 = .ok (.iload_n 1, 1) := by decide +kernel
theorem dX9_become_10 : decode cX9_become 10 = .ok (.iconst 0, 1) := by decide +kernel
theorem dX9_become_11 : decode cX9_become 11 = .ok (.istore_n 3, 1) := by decide +kernel
theorem dX9_become_12 : decode cX9_become 12 = .ok (.iload_n 3, 1) := by decide +kernel
theorem dX9_become_13 : decode cX9_become 13 = .ok (.iload_n 2, 1) := by decide +kernel
theorem dX9_become_14 : decode cX9_become 14 = .ok (.if_icmp .ge 16, 3) := by decide +kernel
theorem dX9_become_17 : decode cX9_become 17 = .ok (.aload_n 0, 1) := by decide +kernel
theorem dX9_become_18 : decode cX9_become 18 = .ok (.iload_n 3, 1) := by decide +kernel
theorem dX9_become_19 : decode cX9_become 19 = .ok (.lconst 0, 1) := by decide +kernel
theorem dX9_become_2 : decode cX9_become 2 = .ok (.putfield 9, 3) := by decide +kernel
theorem dX9_become_20 : decode cX9_become 20 = .ok (.invokevirtual 34, 3) := by decide +kernel
theorem dX9_become_23 : decode cX9_become 23 = .ok (.pop, 1) := by decide +kernel
theorem dX9_become_24 : decode cX9_become 24 = .ok (.iinc 3 1, 3) := by decide +kernel
theorem dX9_become_27 : decode cX9_become 27 = .ok (.goto (-15), 3) := by decide +kernel
theorem dX9_become_30 : decode cX9_become 30 = .ok (.return_, 1) := by decide +kernel
theorem dX9_become_5 : decode cX9_become 5 = .ok (.aload_n 0, 1) := by decide +kernel
theorem dX9_become_6 : decode cX9_become 6 = .ok (.iload_n 2, 1) := by decide +kernel
theorem dX9_become_7 : decode cX9_become 7 = .ok (.putfield 15, 3) := by decide +kernel
set_option maxRecDepth 20000 in
theorem ggX9_become_X9_store : GoodIn wsX9_become wsX9_store := goodIn_r _ [7, 1, 8, 9, 10, 11, 12, 13, 14, 15, 16, 17] rfl (by decide +kernel)
set_option maxRecDepth 20000 in
theorem gX9_become_X9_store : GoodIn wsX9_become (wsV RX9 34 RX9 yX9_store wsX9_store) := goodIn_app (goodIn_r _ [3, 4, 5, 6] rfl (by decide +kernel)) ggX9_become_X9_store
theorem hv_X9_store : yX9_store.cls = RX9 ∧ yX9_store.cls ≠ "java/lang/invoke/MethodHandle" ∧ yX9_store.cls ≠ "java/lang/invoke/VarHandle" ∧ (parseMethodDescriptor yX9_store.desc).map (fun d => d.parameters.length) = some 2 := by decide +kernel
set_option maxRecDepth 20000 in
theorem in_X9_become_X9 : ∀ w ∈ wsX90, w ∈ wsX9_become := sub_r [12, 13, 14, 15, 16, 17] rfl
set_option maxHeartbeats 4000000 in
set_option maxRecDepth 100000 in
theorem c_X9_become (l : Launch) (D : va_G) (T : Nat → ClassId) (sz : Nat) (h0 : Nat) (so : Int32) (sn : Int32) (s0 : Nat) (s1 : Nat) (s2 : Nat) (s3 : Nat) (f0 : Nat → Int32) (f1 : Nat → Int64) (f2 : Nat → UInt32) (f3 : Nat → UInt64) (x1 : Int32) (x2 : Int32) (hn : x2.toInt ≤ 30) : Met l yX9_become wsX9_become ({ frames := 1, cells := 0, slots := 0, locals := 23 }) (pW [.ref h0, .int x1, .int x2] D T [(h0, .inr (6, [.int so, .int sn, .ref s0, .ref s1, .ref s2, .ref s3])), (s0, .inl (T 0, 30, .inl f0)), (s1, .inl (T 1, 30, .inr (.inl f1))), (s2, .inl (T 2, 30, .inr (.inr (.inl f2)))), (s3, .inl (T 3, 30, .inr (.inr (.inr (.inl f3)))))] sz) (va_Qv (fun (u : (Nat → Int32) × (Nat → Int64) × (Nat → UInt32) × (Nat → UInt64)) => True) (bW D (va_A [(h0, .inr (6, [.int so, .int sn, .ref s0, .ref s1, .ref s2, .ref s3])), (s0, .inl (T 0, 30, .inl f0)), (s1, .inl (T 1, 30, .inr (.inl f1))), (s2, .inl (T 2, 30, .inr (.inr (.inl f2)))), (s3, .inl (T 3, 30, .inr (.inr (.inr (.inl f3)))))] sz) (fun (u : (Nat → Int32) × (Nat → Int64) × (Nat → UInt32) × (Nat → UInt64)) => [(h0, .inr (6, [.int x1, .int x2, .ref s0, .ref s1, .ref s2, .ref s3])), (s0, .inl (T 0, 30, .inl u.1)), (s1, .inl (T 1, 30, .inr (.inl u.2.1))), (s2, .inl (T 2, 30, .inr (.inr (.inl u.2.2.1)))), (s3, .inl (T 3, 30, .inr (.inr (.inr (.inl u.2.2.2)))))])) (va_A [(h0, .inr (6, [.int so, .int sn, .ref s0, .ref s1, .ref s2, .ref s3])), (s0, .inl (T 0, 30, .inl f0)), (s1, .inl (T 1, 30, .inr (.inl f1))), (s2, .inl (T 2, 30, .inr (.inr (.inl f2)))), (s3, .inl (T 3, 30, .inr (.inr (.inr (.inl f3)))))] sz)) 0 0 (va_A [(h0, .inr (6, [.int so, .int sn, .ref s0, .ref s1, .ref s2, .ref s3])), (s0, .inl (T 0, 30, .inl f0)), (s1, .inl (T 1, 30, .inr (.inl f1))), (s2, .inl (T 2, 30, .inr (.inr (.inl f2)))), (s3, .inl (T 3, 30, .inr (.inr (.inr (.inl f3)))))] sz) := by
  refine Met.ofW (cc := cX9_become) (maxL := 4) (ret := none) (by decide +kernel) rfl ?_
  intro p e s m args below meth c s₁ B hml hv
  obtain ⟨rfl, hsz, hP, hE, hD0⟩ := hv
  have hx := B.exec
  have hb := B.bytes
  have hr := B.returns
  have hts := atoms_spec (ws := wsX9_become) B.pre
  have hown : s.vm.findClass RX9 = some m.cls := findClass_of_methodNamed B.named
  have hlocks := B.notSynchronized
  subst hsz
  have hD := hD0.self (sz := s.heap.size)
  generalize hAe : va_A [(h0, .inr (6, [.int so, .int sn, .ref s0, .ref s1, .ref s2, .ref s3])), (s0, .inl (T 0, 30, .inl f0)), (s1, .inl (T 1, 30, .inr (.inl f1))), (s2, .inl (T 2, 30, .inr (.inr (.inl f2)))), (s3, .inl (T 3, 30, .inr (.inr (.inr (.inl f3)))))] s.heap.size = A at hD ⊢
  have hA : ∀ q : Nat, s.heap.size ≤ q → A q := fun q h => by rw [← hAe]; exact Or.inr h
  have hS : va_S A s.heap s.heap [] := va_S.rf
  have hP : va_P D vwCl [(h0, .inr (6, [.int so, .int sn, .ref s0, .ref s1, .ref s2, .ref s3])), (s0, .inl (T 0, 30, .inl f0)), (s1, .inl (T 1, 30, .inr (.inl f1))), (s2, .inl (T 2, 30, .inr (.inr (.inl f2)))), (s3, .inl (T 3, 30, .inr (.inr (.inr (.inl f3)))))] s.heap := hP
  have hl := lv_entry ([.ref h0, .int x1, .int x2]) (n := 4) (Nat.le_of_ble_eq_true rfl)
  rw [lg_entry_eq]
  generalize (lg_sl ([.ref h0, .int x1, .int x2]) ++ List.replicate (4 - (lg_sl ([.ref h0, .int x1, .int x2])).length) Slot.unset).toArray = ls at hl ⊢
  have hl : lv_has ls 4 [(0, .ref h0), (1, .int x1), (2, .int x2)] := hl
  clear hD0
  refine lv_aload_n hx hb dX9_become_0 rfl (lv_at hl 0 rfl) ?_
  refine lv_iload_n hx hb dX9_become_1 rfl (lv_at hl 1 rfl) ?_
  refine va_put (D := D) (ci := 6) (v := .int x1) (ty := .int) (C := RX9) (T := TX9) (N := 6) hx hb hts in_X9_become_X9 tyX9 tyX9_ok nmX9 hown hE.1 hP hD hS 0 rfl rfl 0 (by decide +kernel) (hts (.fieldLink RX9 9 "ClauseBook$Sheet" "sort" "I") (List.mem_of_getElem? (i := 1) rfl)) (fun _ h9 => h9) rfl (by decide +kernel) rfl rfl (Nat.le_of_ble_eq_true rfl) dX9_become_2 (fun H locs hP hD hS => ?_)
  obtain ⟨hP, hD⟩ := wPD [(h0, .inr (6, [.int x1, .int sn, .ref s0, .ref s1, .ref s2, .ref s3])), (s0, .inl (T 0, 30, .inl f0)), (s1, .inl (T 1, 30, .inr (.inl f1))), (s2, .inl (T 2, 30, .inr (.inr (.inl f2)))), (s3, .inl (T 3, 30, .inr (.inr (.inr (.inl f3)))))] hP hD rfl
  refine lv_aload_n hx hb dX9_become_5 rfl (lv_at hl 0 rfl) ?_
  refine lv_iload_n hx hb dX9_become_6 rfl (lv_at hl 2 rfl) ?_
  refine va_put (D := D) (ci := 6) (v := .int x2) (ty := .int) (C := RX9) (T := TX9) (N := 6) hx hb hts in_X9_become_X9 tyX9 tyX9_ok nmX9 hown hE.1 hP hD hS 0 rfl rfl 1 (by decide +kernel) (hts (.fieldLink RX9 15 "ClauseBook$Sheet" "size" "I") (List.mem_of_getElem? (i := 2) rfl)) (fun _ h9 => h9) rfl (by decide +kernel) rfl rfl (Nat.le_of_ble_eq_true rfl) dX9_become_7 (fun H locs hP hD hS => ?_)
  obtain ⟨hP, hD⟩ := wPD [(h0, .inr (6, [.int x1, .int x2, .ref s0, .ref s1, .ref s2, .ref s3])), (s0, .inl (T 0, 30, .inl f0)), (s1, .inl (T 1, 30, .inr (.inl f1))), (s2, .inl (T 2, 30, .inr (.inr (.inl f2)))), (s3, .inl (T 3, 30, .inr (.inr (.inr (.inl f3)))))] hP hD rfl
  refine lv_iconst (v := 0) hx hb dX9_become_10 (by decide +kernel) ?_
  refine lv_istore_n (lv' := [(3, .int 0), (0, .ref h0), (1, .int x1), (2, .int x2)]) hx hb dX9_become_11 rfl hl (by decide +kernel) rfl (fun ls hl => ?_)
  refine loopW (σ := (Int32) × (Nat → Int32) × (Nat → Int64) × (Nat → UInt32) × (Nat → UInt64)) (fun x9 ls H locs => lv_has ls 4 [(3, .int x9.1), (0, .ref h0), (1, .int x1), (2, .int x2)] ∧ va_P D vwCl [(h0, .inr (6, [.int x1, .int x2, .ref s0, .ref s1, .ref s2, .ref s3])), (s0, .inl (T 0, 30, .inl x9.2.1)), (s1, .inl (T 1, 30, .inr (.inl x9.2.2.1))), (s2, .inl (T 2, 30, .inr (.inr (.inl x9.2.2.2.1)))), (s3, .inl (T 3, 30, .inr (.inr (.inr (.inl x9.2.2.2.2)))))] H ∧ va_D A [(h0, .inr (6, [.int x1, .int x2, .ref s0, .ref s1, .ref s2, .ref s3])), (s0, .inl (T 0, 30, .inl x9.2.1)), (s1, .inl (T 1, 30, .inr (.inl x9.2.2.1))), (s2, .inl (T 2, 30, .inr (.inr (.inl x9.2.2.2.1)))), (s3, .inl (T 3, 30, .inr (.inr (.inr (.inl x9.2.2.2.2)))))] ∧ va_S A s.heap H locs ∧ (0 ≤ x9.1.toInt)) (fun x9 => (x2.toInt - x9.1.toInt).toNat) (fun x9 ls H locs hI ih => ?_) (0, f0, f1, f2, f3) ls ⟨lv_sub hl [0, 1, 2, 3] rfl, hP.sub [0, 1, 2, 3, 4] rfl, hD.sub [0, 1, 2, 3, 4] (by decide +kernel) rfl, hS, (by (try dsimp only); decide)⟩
  obtain ⟨ii, g0, g1, g2, g3⟩ := x9
  obtain ⟨hl, hP, hD, hS, hinv⟩ := hI
  have hl : lv_has ls 4 [(3, .int ii), (0, .ref h0), (1, .int x1), (2, .int x2)] := hl
  have hP : va_P D vwCl [(h0, .inr (6, [.int x1, .int x2, .ref s0, .ref s1, .ref s2, .ref s3])), (s0, .inl (T 0, 30, .inl g0)), (s1, .inl (T 1, 30, .inr (.inl g1))), (s2, .inl (T 2, 30, .inr (.inr (.inl g2)))), (s3, .inl (T 3, 30, .inr (.inr (.inr (.inl g3)))))] H := hP
  have hD : va_D A [(h0, .inr (6, [.int x1, .int x2, .ref s0, .ref s1, .ref s2, .ref s3])), (s0, .inl (T 0, 30, .inl g0)), (s1, .inl (T 1, 30, .inr (.inl g1))), (s2, .inl (T 2, 30, .inr (.inr (.inl g2)))), (s3, .inl (T 3, 30, .inr (.inr (.inr (.inl g3)))))] := hD
  have hinv : 0 ≤ ii.toInt := hinv
  refine lv_iload_n hx hb dX9_become_12 rfl (lv_at hl 0 rfl) ?_
  refine lv_iload_n hx hb dX9_become_13 rfl (lv_at hl 3 rfl) ?_
  refine lv_icmp_ge (tgt := 30) hx hb dX9_become_14 (by decide +kernel) (fun c_1 => ?_) (fun c_1 => ?_)
  · rw [fa_le] at c_1
    exact W.vret hx hb hr (fun t ht hW => ⟨⟨(g0, g1, g2, g3), rfl, trivial, by rw [ht]; exact hP.sub [0, 1, 2, 3, 4] rfl, hD.sub [0, 1, 2, 3, 4] (by decide +kernel) rfl⟩, hS.F ht⟩) hS.2.2 dX9_become_30
  · rw [fa_le] at c_1
    refine lv_aload_n hx hb dX9_become_17 rfl (lv_at hl 1 rfl) ?_
    refine lv_iload_n hx hb dX9_become_18 rfl (lv_at hl 0 rfl) ?_
    refine lv_lconst (v := 0) hx hb dX9_become_19 (by decide +kernel) ?_
    have hFc := va_free (wc := [(h0, .inr (6, [.int x1, .int x2, .ref s0, .ref s1, .ref s2, .ref s3])), (s0, .inl (T 0, 30, .inl g0)), (s1, .inl (T 1, 30, .inr (.inl g1))), (s2, .inl (T 2, 30, .inr (.inr (.inl g2)))), (s3, .inl (T 3, 30, .inr (.inr (.inr (.inl g3)))))]) hD hS hA [0, 1, 2, 3, 4] rfl
    refine va_calli (va_runV (As := [.int ii, .long 0]) (rest := []) ⟨hx, hb, hml, hown, hts⟩ (c_X9_store l D T _ h0 x1 x2 s0 s1 s2 s3 g0 g1 g2 g3 ii 0 (by rw [vp_in_iff]; omega)) (cwV 2 hts gX9_become_X9_store rfl rfl rfl hv_X9_store ⟨Nat.le_of_ble_eq_true rfl, Nat.le_of_ble_eq_true rfl⟩) (pW_V (q := (RX9, TX9, 6)) (ci := 6) (q0 := 0) hP hE hD rfl rfl [0, 1, 2, 3, 4] (by decide +kernel) rfl rfl) rfl rfl hl.1 rfl (lv_room (Nat.le_of_ble_eq_true rfl)) dX9_become_20 ⟨Nat.le_of_ble_eq_true rfl, Nat.le_of_ble_eq_true rfl⟩) hS (fun q _ h => hFc q h) hFc (fun r_2 u_3 t H1 locs ht hvm hr_2 hB hz1 hk1 hS => ?_)
    obtain ⟨f_4, f_5, f_6, f_7⟩ := u_3
    obtain ⟨hP1, hD1⟩ := hB
    rw [ht] at hP1
    obtain ⟨hP, hD⟩ := va_repl [(h0, .inr (6, [.int x1, .int x2, .ref s0, .ref s1, .ref s2, .ref s3])), (s0, .inl (T 0, 30, .inl f_4)), (s1, .inl (T 1, 30, .inr (.inl f_5))), (s2, .inl (T 2, 30, .inr (.inr (.inl f_6)))), (s3, .inl (T 3, 30, .inr (.inr (.inr (.inl f_7)))))] hP hD [0, 1, 2, 3, 4] [0, 1, 2, 3, 4] rfl (by decide +kernel) rfl rfl rfl hk1 hP1
    clear hP1 hD1 hFc
    generalize H1 = H at hP hS ⊢
    refine lv_pop hx hb dX9_become_23 rfl ?_
    obtain ⟨z_8, ez_8⟩ : ∃ y : Int32, y = ii + 1 := ⟨_, rfl⟩
    refine lv_iinc (v := z_8) (lv' := [(3, .int z_8), (0, .ref h0), (1, .int x1), (2, .int x2)]) hx hb dX9_become_24 hl (k := 0) rfl (by rw [ez_8]; rfl) (by decide +kernel) rfl (fun ls hl => ?_)
    refine lv_goto (tgt := 12) hx hb dX9_become_27 (by decide +kernel) ?_
    exact ih (z_8, f_4, f_5, f_6, f_7) ls _ _ ⟨lv_sub hl [0, 1, 2, 3] rfl, hP.sub [0, 1, 2, 3, 4] rfl, hD.sub [0, 1, 2, 3, 4] (by decide +kernel) rfl, hS, (by subst_vars; (try dsimp only); rw [inc1 (n := 30) (by omega) (by decide +kernel)]; omega)⟩ (by subst_vars; (try dsimp only); rw [inc1 (n := 30) (by omega) (by decide +kernel)]; omega)
end
section
theorem all4 {P : Nat → Prop} (h0 : P 0) (h1 : P 1) (h2 : P 2) (h3 : P 3) : ∀ k : Nat, k < 4 → P k := by
  intro k hk
  have hk : k = 0 ∨ k = 1 ∨ k = 2 ∨ k = 3 := by omega
  rcases hk with rfl | rfl | rfl | rfl
  · exact h0
  · exact h1
  · exact h2
  · exact h3
theorem dX12_sheet_0 : decode cX12_sheet 0 = .ok (.iload_n 1, 1) := by decide +kernel
theorem dX12_sheet_1 : decode cX12_sheet 1 = .ok (.iconst 0, 1) := by decide +kernel
theorem dX12_sheet_10 : decode cX12_sheet 10 = .ok (.iconst (-1), 1) := by decide +kernel
theorem dX12_sheet_11 : decode cX12_sheet 11 = .ok (.iconst 3, 1) := by decide +kernel
theorem dX12_sheet_12 : decode cX12_sheet 12 = .ok (.invokestatic 77, 3) := by decide +kernel
theorem dX12_sheet_15 : decode cX12_sheet 15 = .ok (.ifCond .ne 6, 3) := by decide +kernel
theorem dX12_sheet_18 : decode cX12_sheet 18 = .ok (.bipush (-2), 2) := by decide +kernel
theorem dX12_sheet_2 : decode cX12_sheet 2 = .ok (.iconst 3, 1) := by decide +kernel
theorem dX12_sheet_20 : decode cX12_sheet 20 = .ok (.ireturn, 1) := by decide +kernel
theorem dX12_sheet_21 : decode cX12_sheet 21 = .ok (.iload_n 2, 1) := by decide +kernel
theorem dX12_sheet_22 : decode cX12_sheet 22 = .ok (.iconst (-1), 1) := by decide +kernel
theorem dX12_sheet_23 : decode cX12_sheet 23 = .ok (.if_icmp .ne 15, 3) := by decide +kernel
theorem dX12_sheet_26 : decode cX12_sheet 26 = .ok (.aload_n 0, 1) := by decide +kernel
theorem dX12_sheet_27 : decode cX12_sheet 27 = .ok (.getfield 65, 3) := by decide +kernel
theorem dX12_sheet_3 : decode cX12_sheet 3 = .ok (.invokestatic 77, 3) := by decide +kernel
theorem dX12_sheet_30 : decode cX12_sheet 30 = .ok (.iload_n 1, 1) := by decide +kernel
theorem dX12_sheet_31 : decode cX12_sheet 31 = .ok (.aaload, 1) := by decide +kernel
theorem dX12_sheet_32 : decode cX12_sheet 32 = .ok (.iconst (-1), 1) := by decide +kernel
theorem dX12_sheet_33 : decode cX12_sheet 33 = .ok (.putfield 277, 3) := by decide +kernel
theorem dX12_sheet_36 : decode cX12_sheet 36 = .ok (.iconst 1, 1) := by decide +kernel
theorem dX12_sheet_37 : decode cX12_sheet 37 = .ok (.ireturn, 1) := by decide +kernel
theorem dX12_sheet_38 : decode cX12_sheet 38 = .ok (.iload_n 3, 1) := by decide +kernel
theorem dX12_sheet_39 : decode cX12_sheet 39 = .ok (.bipush 30, 2) := by decide +kernel
theorem dX12_sheet_41 : decode cX12_sheet 41 = .ok (.if_icmp .le 6, 3) := by decide +kernel
theorem dX12_sheet_44 : decode cX12_sheet 44 = .ok (.bipush (-2), 2) := by decide +kernel
theorem dX12_sheet_46 : decode cX12_sheet 46 = .ok (.ireturn, 1) := by decide +kernel
theorem dX12_sheet_47 : decode cX12_sheet 47 = .ok (.iload_n 3, 1) := by decide +kernel
theorem dX12_sheet_48 : decode cX12_sheet 48 = .ok (.ifCond .ge 6, 3) := by decide +kernel
theorem dX12_sheet_51 : decode cX12_sheet 51 = .ok (.bipush (-14), 2) := by decide +kernel
theorem dX12_sheet_53 : decode cX12_sheet 53 = .ok (.ireturn, 1) := by decide +kernel
theorem dX12_sheet_54 : decode cX12_sheet 54 = .ok (.aload_n 0, 1) := by decide +kernel
theorem dX12_sheet_55 : decode cX12_sheet 55 = .ok (.getfield 65, 3) := by decide +kernel
theorem dX12_sheet_58 : decode cX12_sheet 58 = .ok (.iload_n 1, 1) := by decide +kernel
theorem dX12_sheet_59 : decode cX12_sheet 59 = .ok (.aaload, 1) := by decide +kernel
theorem dX12_sheet_6 : decode cX12_sheet 6 = .ok (.ifCond .eq 12, 3) := by decide +kernel
theorem dX12_sheet_60 : decode cX12_sheet 60 = .ok (.iload_n 2, 1) := by decide +kernel
theorem dX12_sheet_61 : decode cX12_sheet 61 = .ok (.iload_n 3, 1) := by decide +kernel
theorem dX12_sheet_62 : decode cX12_sheet 62 = .ok (.invokevirtual 317, 3) := by decide +kernel
theorem dX12_sheet_65 : decode cX12_sheet 65 = .ok (.iconst 1, 1) := by decide +kernel
theorem dX12_sheet_66 : decode cX12_sheet 66 = .ok (.ireturn, 1) := by decide +kernel
theorem dX12_sheet_9 : decode cX12_sheet 9 = .ok (.iload_n 2, 1) := by decide +kernel
set_option maxRecDepth 20000 in
theorem ggX12_sheet_X12_within : GoodIn wsX12_sheet wsX12_within := goodIn_r _ [6] rfl (by decide +kernel)
set_option maxRecDepth 20000 in
theorem ggX12_sheet_X9_become : GoodIn wsX12_sheet wsX9_become := goodIn_r _ [11, 12, 13, 14, 15, 16, 10, 17, 18, 19, 20, 21, 33, 34, 35, 36, 37, 38] rfl (by decide +kernel)
set_option maxRecDepth 20000 in
theorem gX12_sheet_X12_within : GoodIn wsX12_sheet (va_wsS RX12 77 yX12_within wsX12_within) := goodIn_app (goodIn_of _ (by decide +kernel)) ggX12_sheet_X12_within
set_option maxRecDepth 20000 in
theorem gX12_sheet_X9_become : GoodIn wsX12_sheet (wsV RX12 317 RX9 yX9_become wsX9_become) := goodIn_app (goodIn_r _ [7, 8, 9, 10] rfl (by decide +kernel)) ggX12_sheet_X9_become
theorem hv_X9_become : yX9_become.cls = RX9 ∧ yX9_become.cls ≠ "java/lang/invoke/MethodHandle" ∧ yX9_become.cls ≠ "java/lang/invoke/VarHandle" ∧ (parseMethodDescriptor yX9_become.desc).map (fun d => d.parameters.length) = some 2 := by decide +kernel
set_option maxRecDepth 20000 in
theorem in_X12_sheet_X12 : ∀ w ∈ wsX120, w ∈ wsX12_sheet := sub_r [22, 23, 24, 25, 26, 27, 28, 29, 30, 31, 32] rfl
set_option maxRecDepth 20000 in
theorem in_X12_sheet_X9 : ∀ w ∈ wsX90, w ∈ wsX12_sheet := sub_r [33, 34, 35, 36, 37, 38] rfl
set_option maxHeartbeats 4000000 in
set_option maxRecDepth 100000 in
theorem c_X12_sheet (l : Launch) (D : va_G) (T : Nat → ClassId) (sz : Nat) (h0 : Nat) (h1 : Nat) (fs0 : List Value) (t0 : Nat) (t1 : Nat) (t2 : Nat) (t3 : Nat) (a00 : Nat) (a01 : Nat) (a02 : Nat) (a03 : Nat) (a10 : Nat) (a11 : Nat) (a12 : Nat) (a13 : Nat) (a20 : Nat) (a21 : Nat) (a22 : Nat) (a23 : Nat) (a30 : Nat) (a31 : Nat) (a32 : Nat) (a33 : Nat) (so : Nat → Int32) (sn : Nat → Int32) (si : Nat → Nat → Int32) (sl : Nat → Nat → Int64) (sf : Nat → Nat → UInt32) (sd : Nat → Nat → UInt64) (x1 : Int32) (x2 : Int32) (x3 : Int32) (e0_9 : fs0[9]? = some (.ref h1)) (hs0 : (-1 ≤ (so 0).toInt ∧ (so 0).toInt ≤ 3) ∧ 0 ≤ (sn 0).toInt ∧ (sn 0).toInt ≤ 30) (hs1 : (-1 ≤ (so 1).toInt ∧ (so 1).toInt ≤ 3) ∧ 0 ≤ (sn 1).toInt ∧ (sn 1).toInt ≤ 30) (hs2 : (-1 ≤ (so 2).toInt ∧ (so 2).toInt ≤ 3) ∧ 0 ≤ (sn 2).toInt ∧ (sn 2).toInt ≤ 30) (hs3 : (-1 ≤ (so 3).toInt ∧ (so 3).toInt ≤ 3) ∧ 0 ≤ (sn 3).toInt ∧ (sn 3).toInt ≤ 30) : Met l yX12_sheet wsX12_sheet ({ frames := 2, cells := 0, slots := 0, locals := 46 }) (pW [.ref h0, .int x1, .int x2, .int x3] D T [(h0, .inr (9, fs0)), (h1, .inl (T 6, 4, .inr (.inr (.inr (.inr (va_up (va_up (va_up (va_up (fun _ => none) 0 (some t0)) 1 (some t1)) 2 (some t2)) 3 (some t3))))))), (t0, .inr (6, [.int (so 0), .int (sn 0), .ref a00, .ref a01, .ref a02, .ref a03])), (t1, .inr (6, [.int (so 1), .int (sn 1), .ref a10, .ref a11, .ref a12, .ref a13])), (t2, .inr (6, [.int (so 2), .int (sn 2), .ref a20, .ref a21, .ref a22, .ref a23])), (t3, .inr (6, [.int (so 3), .int (sn 3), .ref a30, .ref a31, .ref a32, .ref a33])), (a00, .inl (T 0, 30, .inl (si 0))), (a01, .inl (T 1, 30, .inr (.inl (sl 0)))), (a02, .inl (T 2, 30, .inr (.inr (.inl (sf 0))))), (a03, .inl (T 3, 30, .inr (.inr (.inr (.inl (sd 0)))))), (a10, .inl (T 0, 30, .inl (si 1))), (a11, .inl (T 1, 30, .inr (.inl (sl 1)))), (a12, .inl (T 2, 30, .inr (.inr (.inl (sf 1))))), (a13, .inl (T 3, 30, .inr (.inr (.inr (.inl (sd 1)))))), (a20, .inl (T 0, 30, .inl (si 2))), (a21, .inl (T 1, 30, .inr (.inl (sl 2)))), (a22, .inl (T 2, 30, .inr (.inr (.inl (sf 2))))), (a23, .inl (T 3, 30, .inr (.inr (.inr (.inl (sd 2)))))), (a30, .inl (T 0, 30, .inl (si 3))), (a31, .inl (T 1, 30, .inr (.inl (sl 3)))), (a32, .inl (T 2, 30, .inr (.inr (.inl (sf 3))))), (a33, .inl (T 3, 30, .inr (.inr (.inr (.inl (sd 3))))))] sz) (va_Qi (fun (r : Int32) (u : (Nat → Int32) × (Nat → Int32) × (Nat → Nat → Int32) × (Nat → Nat → Int64) × (Nat → Nat → UInt32) × (Nat → Nat → UInt64)) => r = sp_sheet x1 x2 x3 ∧ ((-1 ≤ (u.1 0).toInt ∧ (u.1 0).toInt ≤ 3) ∧ 0 ≤ (u.2.1 0).toInt ∧ (u.2.1 0).toInt ≤ 30) ∧ ((-1 ≤ (u.1 1).toInt ∧ (u.1 1).toInt ≤ 3) ∧ 0 ≤ (u.2.1 1).toInt ∧ (u.2.1 1).toInt ≤ 30) ∧ ((-1 ≤ (u.1 2).toInt ∧ (u.1 2).toInt ≤ 3) ∧ 0 ≤ (u.2.1 2).toInt ∧ (u.2.1 2).toInt ≤ 30) ∧ ((-1 ≤ (u.1 3).toInt ∧ (u.1 3).toInt ≤ 3) ∧ 0 ≤ (u.2.1 3).toInt ∧ (u.2.1 3).toInt ≤ 30) ∧ (∀ k : Nat, k < 4 → (r.toInt = 1 → x1.toInt = k → (u.1 k).toInt = x2.toInt ∧ (0 ≤ x2.toInt → (u.2.1 k).toInt = x3.toInt)) ∧ (¬ (r.toInt = 1 ∧ x1.toInt = k) → (u.1 k).toInt = (so k).toInt ∧ (u.2.1 k).toInt = (sn k).toInt))) (bW D (va_A [(h0, .inr (9, fs0)), (h1, .inl (T 6, 4, .inr (.inr (.inr (.inr (va_up (va_up (va_up (va_up (fun _ => none) 0 (some t0)) 1 (some t1)) 2 (some t2)) 3 (some t3))))))), (t0, .inr (6, [.int (so 0), .int (sn 0), .ref a00, .ref a01, .ref a02, .ref a03])), (t1, .inr (6, [.int (so 1), .int (sn 1), .ref a10, .ref a11, .ref a12, .ref a13])), (t2, .inr (6, [.int (so 2), .int (sn 2), .ref a20, .ref a21, .ref a22, .ref a23])), (t3, .inr (6, [.int (so 3), .int (sn 3), .ref a30, .ref a31, .ref a32, .ref a33])), (a00, .inl (T 0, 30, .inl (si 0))), (a01, .inl (T 1, 30, .inr (.inl (sl 0)))), (a02, .inl (T 2, 30, .inr (.inr (.inl (sf 0))))), (a03, .inl (T 3, 30, .inr (.inr (.inr (.inl (sd 0)))))), (a10, .inl (T 0, 30, .inl (si 1))), (a11, .inl (T 1, 30, .inr (.inl (sl 1)))), (a12, .inl (T 2, 30, .inr (.inr (.inl (sf 1))))), (a13, .inl (T 3, 30, .inr (.inr (.inr (.inl (sd 1)))))), (a20, .inl (T 0, 30, .inl (si 2))), (a21, .inl (T 1, 30, .inr (.inl (sl 2)))), (a22, .inl (T 2, 30, .inr (.inr (.inl (sf 2))))), (a23, .inl (T 3, 30, .inr (.inr (.inr (.inl (sd 2)))))), (a30, .inl (T 0, 30, .inl (si 3))), (a31, .inl (T 1, 30, .inr (.inl (sl 3)))), (a32, .inl (T 2, 30, .inr (.inr (.inl (sf 3))))), (a33, .inl (T 3, 30, .inr (.inr (.inr (.inl (sd 3))))))] sz) (fun (u : (Nat → Int32) × (Nat → Int32) × (Nat → Nat → Int32) × (Nat → Nat → Int64) × (Nat → Nat → UInt32) × (Nat → Nat → UInt64)) => [(h0, .inr (9, fs0)), (h1, .inl (T 6, 4, .inr (.inr (.inr (.inr (va_up (va_up (va_up (va_up (fun _ => none) 0 (some t0)) 1 (some t1)) 2 (some t2)) 3 (some t3))))))), (t0, .inr (6, [.int (u.1 0), .int (u.2.1 0), .ref a00, .ref a01, .ref a02, .ref a03])), (t1, .inr (6, [.int (u.1 1), .int (u.2.1 1), .ref a10, .ref a11, .ref a12, .ref a13])), (t2, .inr (6, [.int (u.1 2), .int (u.2.1 2), .ref a20, .ref a21, .ref a22, .ref a23])), (t3, .inr (6, [.int (u.1 3), .int (u.2.1 3), .ref a30, .ref a31, .ref a32, .ref a33])), (a00, .inl (T 0, 30, .inl (u.2.2.1 0))), (a01, .inl (T 1, 30, .inr (.inl (u.2.2.2.1 0)))), (a02, .inl (T 2, 30, .inr (.inr (.inl (u.2.2.2.2.1 0))))), (a03, .inl (T 3, 30, .inr (.inr (.inr (.inl (u.2.2.2.2.2 0)))))), (a10, .inl (T 0, 30, .inl (u.2.2.1 1))), (a11, .inl (T 1, 30, .inr (.inl (u.2.2.2.1 1)))), (a12, .inl (T 2, 30, .inr (.inr (.inl (u.2.2.2.2.1 1))))), (a13, .inl (T 3, 30, .inr (.inr (.inr (.inl (u.2.2.2.2.2 1)))))), (a20, .inl (T 0, 30, .inl (u.2.2.1 2))), (a21, .inl (T 1, 30, .inr (.inl (u.2.2.2.1 2)))), (a22, .inl (T 2, 30, .inr (.inr (.inl (u.2.2.2.2.1 2))))), (a23, .inl (T 3, 30, .inr (.inr (.inr (.inl (u.2.2.2.2.2 2)))))), (a30, .inl (T 0, 30, .inl (u.2.2.1 3))), (a31, .inl (T 1, 30, .inr (.inl (u.2.2.2.1 3)))), (a32, .inl (T 2, 30, .inr (.inr (.inl (u.2.2.2.2.1 3))))), (a33, .inl (T 3, 30, .inr (.inr (.inr (.inl (u.2.2.2.2.2 3))))))])) (va_A [(h0, .inr (9, fs0)), (h1, .inl (T 6, 4, .inr (.inr (.inr (.inr (va_up (va_up (va_up (va_up (fun _ => none) 0 (some t0)) 1 (some t1)) 2 (some t2)) 3 (some t3))))))), (t0, .inr (6, [.int (so 0), .int (sn 0), .ref a00, .ref a01, .ref a02, .ref a03])), (t1, .inr (6, [.int (so 1), .int (sn 1), .ref a10, .ref a11, .ref a12, .ref a13])), (t2, .inr (6, [.int (so 2), .int (sn 2), .ref a20, .ref a21, .ref a22, .ref a23])), (t3, .inr (6, [.int (so 3), .int (sn 3), .ref a30, .ref a31, .ref a32, .ref a33])), (a00, .inl (T 0, 30, .inl (si 0))), (a01, .inl (T 1, 30, .inr (.inl (sl 0)))), (a02, .inl (T 2, 30, .inr (.inr (.inl (sf 0))))), (a03, .inl (T 3, 30, .inr (.inr (.inr (.inl (sd 0)))))), (a10, .inl (T 0, 30, .inl (si 1))), (a11, .inl (T 1, 30, .inr (.inl (sl 1)))), (a12, .inl (T 2, 30, .inr (.inr (.inl (sf 1))))), (a13, .inl (T 3, 30, .inr (.inr (.inr (.inl (sd 1)))))), (a20, .inl (T 0, 30, .inl (si 2))), (a21, .inl (T 1, 30, .inr (.inl (sl 2)))), (a22, .inl (T 2, 30, .inr (.inr (.inl (sf 2))))), (a23, .inl (T 3, 30, .inr (.inr (.inr (.inl (sd 2)))))), (a30, .inl (T 0, 30, .inl (si 3))), (a31, .inl (T 1, 30, .inr (.inl (sl 3)))), (a32, .inl (T 2, 30, .inr (.inr (.inl (sf 3))))), (a33, .inl (T 3, 30, .inr (.inr (.inr (.inl (sd 3))))))] sz)) 0 0 (va_A [(h0, .inr (9, fs0)), (h1, .inl (T 6, 4, .inr (.inr (.inr (.inr (va_up (va_up (va_up (va_up (fun _ => none) 0 (some t0)) 1 (some t1)) 2 (some t2)) 3 (some t3))))))), (t0, .inr (6, [.int (so 0), .int (sn 0), .ref a00, .ref a01, .ref a02, .ref a03])), (t1, .inr (6, [.int (so 1), .int (sn 1), .ref a10, .ref a11, .ref a12, .ref a13])), (t2, .inr (6, [.int (so 2), .int (sn 2), .ref a20, .ref a21, .ref a22, .ref a23])), (t3, .inr (6, [.int (so 3), .int (sn 3), .ref a30, .ref a31, .ref a32, .ref a33])), (a00, .inl (T 0, 30, .inl (si 0))), (a01, .inl (T 1, 30, .inr (.inl (sl 0)))), (a02, .inl (T 2, 30, .inr (.inr (.inl (sf 0))))), (a03, .inl (T 3, 30, .inr (.inr (.inr (.inl (sd 0)))))), (a10, .inl (T 0, 30, .inl (si 1))), (a11, .inl (T 1, 30, .inr (.inl (sl 1)))), (a12, .inl (T 2, 30, .inr (.inr (.inl (sf 1))))), (a13, .inl (T 3, 30, .inr (.inr (.inr (.inl (sd 1)))))), (a20, .inl (T 0, 30, .inl (si 2))), (a21, .inl (T 1, 30, .inr (.inl (sl 2)))), (a22, .inl (T 2, 30, .inr (.inr (.inl (sf 2))))), (a23, .inl (T 3, 30, .inr (.inr (.inr (.inl (sd 2)))))), (a30, .inl (T 0, 30, .inl (si 3))), (a31, .inl (T 1, 30, .inr (.inl (sl 3)))), (a32, .inl (T 2, 30, .inr (.inr (.inl (sf 3))))), (a33, .inl (T 3, 30, .inr (.inr (.inr (.inl (sd 3))))))] sz) := by
  refine Met.ofW (cc := cX12_sheet) (maxL := 4) (ret := (some .int)) (by decide +kernel) rfl ?_
  intro p e s m args below meth c s₁ B hml hv
  obtain ⟨rfl, hsz, hP, hE, hD0⟩ := hv
  have hx := B.exec
  have hb := B.bytes
  have hr := B.returns
  have hts := atoms_spec (ws := wsX12_sheet) B.pre
  have hown : s.vm.findClass RX12 = some m.cls := findClass_of_methodNamed B.named
  have hlocks := B.notSynchronized
  subst hsz
  have hD := hD0.self (sz := s.heap.size)
  generalize hAe : va_A [(h0, .inr (9, fs0)), (h1, .inl (T 6, 4, .inr (.inr (.inr (.inr (va_up (va_up (va_up (va_up (fun _ => none) 0 (some t0)) 1 (some t1)) 2 (some t2)) 3 (some t3))))))), (t0, .inr (6, [.int (so 0), .int (sn 0), .ref a00, .ref a01, .ref a02, .ref a03])), (t1, .inr (6, [.int (so 1), .int (sn 1), .ref a10, .ref a11, .ref a12, .ref a13])), (t2, .inr (6, [.int (so 2), .int (sn 2), .ref a20, .ref a21, .ref a22, .ref a23])), (t3, .inr (6, [.int (so 3), .int (sn 3), .ref a30, .ref a31, .ref a32, .ref a33])), (a00, .inl (T 0, 30, .inl (si 0))), (a01, .inl (T 1, 30, .inr (.inl (sl 0)))), (a02, .inl (T 2, 30, .inr (.inr (.inl (sf 0))))), (a03, .inl (T 3, 30, .inr (.inr (.inr (.inl (sd 0)))))), (a10, .inl (T 0, 30, .inl (si 1))), (a11, .inl (T 1, 30, .inr (.inl (sl 1)))), (a12, .inl (T 2, 30, .inr (.inr (.inl (sf 1))))), (a13, .inl (T 3, 30, .inr (.inr (.inr (.inl (sd 1)))))), (a20, .inl (T 0, 30, .inl (si 2))), (a21, .inl (T 1, 30, .inr (.inl (sl 2)))), (a22, .inl (T 2, 30, .inr (.inr (.inl (sf 2))))), (a23, .inl (T 3, 30, .inr (.inr (.inr (.inl (sd 2)))))), (a30, .inl (T 0, 30, .inl (si 3))), (a31, .inl (T 1, 30, .inr (.inl (sl 3)))), (a32, .inl (T 2, 30, .inr (.inr (.inl (sf 3))))), (a33, .inl (T 3, 30, .inr (.inr (.inr (.inl (sd 3))))))] s.heap.size = A at hD ⊢
  have hA : ∀ q : Nat, s.heap.size ≤ q → A q := fun q h => by rw [← hAe]; exact Or.inr h
  have hS : va_S A s.heap s.heap [] := va_S.rf
  have hP : va_P D vwCl [(h0, .inr (9, fs0)), (h1, .inl (T 6, 4, .inr (.inr (.inr (.inr (va_up (va_up (va_up (va_up (fun _ => none) 0 (some t0)) 1 (some t1)) 2 (some t2)) 3 (some t3))))))), (t0, .inr (6, [.int (so 0), .int (sn 0), .ref a00, .ref a01, .ref a02, .ref a03])), (t1, .inr (6, [.int (so 1), .int (sn 1), .ref a10, .ref a11, .ref a12, .ref a13])), (t2, .inr (6, [.int (so 2), .int (sn 2), .ref a20, .ref a21, .ref a22, .ref a23])), (t3, .inr (6, [.int (so 3), .int (sn 3), .ref a30, .ref a31, .ref a32, .ref a33])), (a00, .inl (T 0, 30, .inl (si 0))), (a01, .inl (T 1, 30, .inr (.inl (sl 0)))), (a02, .inl (T 2, 30, .inr (.inr (.inl (sf 0))))), (a03, .inl (T 3, 30, .inr (.inr (.inr (.inl (sd 0)))))), (a10, .inl (T 0, 30, .inl (si 1))), (a11, .inl (T 1, 30, .inr (.inl (sl 1)))), (a12, .inl (T 2, 30, .inr (.inr (.inl (sf 1))))), (a13, .inl (T 3, 30, .inr (.inr (.inr (.inl (sd 1)))))), (a20, .inl (T 0, 30, .inl (si 2))), (a21, .inl (T 1, 30, .inr (.inl (sl 2)))), (a22, .inl (T 2, 30, .inr (.inr (.inl (sf 2))))), (a23, .inl (T 3, 30, .inr (.inr (.inr (.inl (sd 2)))))), (a30, .inl (T 0, 30, .inl (si 3))), (a31, .inl (T 1, 30, .inr (.inl (sl 3)))), (a32, .inl (T 2, 30, .inr (.inr (.inl (sf 3))))), (a33, .inl (T 3, 30, .inr (.inr (.inr (.inl (sd 3))))))] s.heap := hP
  have hl := lv_entry ([.ref h0, .int x1, .int x2, .int x3]) (n := 4) (Nat.le_of_ble_eq_true rfl)
  rw [lg_entry_eq]
  generalize (lg_sl ([.ref h0, .int x1, .int x2, .int x3]) ++ List.replicate (4 - (lg_sl ([.ref h0, .int x1, .int x2, .int x3])).length) Slot.unset).toArray = ls at hl ⊢
  have hl : lv_has ls 4 [(0, .ref h0), (1, .int x1), (2, .int x2), (3, .int x3)] := hl
  clear hD0
  refine lv_iload_n hx hb dX12_sheet_0 rfl (lv_at hl 1 rfl) ?_
  refine lv_iconst (v := 0) hx hb dX12_sheet_1 (by decide +kernel) ?_
  refine lv_iconst (v := 3) hx hb dX12_sheet_2 (by decide +kernel) ?_
  refine vp_callSi (W.runS (As := [.int x1, .int 0, .int 3]) (rest := []) ⟨hx, hb, hml, hown, hts⟩ (c_X12_within l D T x1 0 3 0 3 (by decide +kernel) (by decide +kernel)) (va_cwS 3 hts gX12_sheet_X12_within rfl rfl rfl hs_X12_within ⟨Nat.le_of_ble_eq_true rfl, Nat.le_of_ble_eq_true rfl⟩) (pR_S hP hE [] rfl) rfl rfl hl.1 rfl (lv_room (Nat.le_of_ble_eq_true rfl)) dX12_sheet_3 ⟨Nat.le_of_ble_eq_true rfl, Nat.le_of_ble_eq_true rfl⟩) (fun r_1 hr_1 => ?_)
  rcases bool_post hr_1 with ⟨c_2, rfl⟩ | ⟨c_2, rfl⟩
  · refine lv_if_eq (tgt := 18) hx hb dX12_sheet_6 (by decide +kernel) (fun c9 => absurd c9 (by decide +kernel)) (fun _ => ?_)
    refine lv_iload_n hx hb dX12_sheet_9 rfl (lv_at hl 2 rfl) ?_
    refine lv_iconst (v := (-1)) hx hb dX12_sheet_10 (by decide +kernel) ?_
    refine lv_iconst (v := 3) hx hb dX12_sheet_11 (by decide +kernel) ?_
    refine vp_callSi (W.runS (As := [.int x2, .int (-1), .int 3]) (rest := []) ⟨hx, hb, hml, hown, hts⟩ (c_X12_within l D T x2 (-1) 3 (-1) 3 (by decide +kernel) (by decide +kernel)) (va_cwS 3 hts gX12_sheet_X12_within rfl rfl rfl hs_X12_within ⟨Nat.le_of_ble_eq_true rfl, Nat.le_of_ble_eq_true rfl⟩) (pR_S hP hE [] rfl) rfl rfl hl.1 rfl (lv_room (Nat.le_of_ble_eq_true rfl)) dX12_sheet_12 ⟨Nat.le_of_ble_eq_true rfl, Nat.le_of_ble_eq_true rfl⟩) (fun r_3 hr_3 => ?_)
    rcases bool_post hr_3 with ⟨c_4, rfl⟩ | ⟨c_4, rfl⟩
    · refine lv_if_ne (tgt := 21) hx hb dX12_sheet_15 (by decide +kernel) (fun _ => ?_) (fun c9 => absurd c9 (by decide +kernel))
      refine lv_iload_n hx hb dX12_sheet_21 rfl (lv_at hl 2 rfl) ?_
      refine lv_iconst (v := (-1)) hx hb dX12_sheet_22 (by decide +kernel) ?_
      refine lv_icmp_ne (tgt := 38) hx hb dX12_sheet_23 (by decide +kernel) (fun c_5 => ?_) (fun c_5 => ?_)
      · rw [fa_eq] at c_5
        try rw [ti_n1] at c_5
        refine lv_iload_n hx hb dX12_sheet_38 rfl (lv_at hl 3 rfl) ?_
        refine lv_bipush (v := 30) hx hb dX12_sheet_39 (by decide +kernel) ?_
        refine lv_icmp_le (tgt := 47) hx hb dX12_sheet_41 (by decide +kernel) (fun c_6 => ?_) (fun c_6 => ?_)
        · rw [fa_le] at c_6
          try rw [ti_30] at c_6
          refine lv_iload_n hx hb dX12_sheet_47 rfl (lv_at hl 3 rfl) ?_
          refine lv_if_ge (tgt := 54) hx hb dX12_sheet_48 (by decide +kernel) (fun c_7 => ?_) (fun c_7 => ?_)
          · rw [fa_le] at c_7
            try rw [ti_0] at c_7
            refine lv_aload_n hx hb dX12_sheet_54 rfl (lv_at hl 0 rfl) ?_
            refine va_get (D := D) (ci := 9) (v := .ref h1) (C := RX12) (T := TX12) (N := 11) hx hb hts in_X12_sheet_X12 hown hE.1 hP 0 rfl rfl 9 (by decide +kernel) (hts (.fieldLink RX12 65 "ClauseBook" "sheets" "[LClauseBook$Sheet;") (List.mem_of_getElem? (i := 1) rfl)) (fun _ h9 => h9) e0_9 dX12_sheet_55 ?_
            refine lv_iload_n hx hb dX12_sheet_58 rfl (lv_at hl 1 rfl) ?_
            rcases in4 (x := x1) (by omega) with rfl | rfl | rfl | rfl
            · refine va_aldq hx hb hE.1 hP 1 6 rfl rfl (by unfold vp_in; decide) dX12_sheet_59 ?_
              refine W.eq (g2 := F0 m 60 ls [.ref t0]) rfl ?_
              refine lv_iload_n hx hb dX12_sheet_60 rfl (lv_at hl 2 rfl) ?_
              refine lv_iload_n hx hb dX12_sheet_61 rfl (lv_at hl 3 rfl) ?_
              have hFc := va_free (wc := [(t0, .inr (6, [.int (so 0), .int (sn 0), .ref a00, .ref a01, .ref a02, .ref a03])), (a00, .inl (T 0, 30, .inl (si 0))), (a01, .inl (T 1, 30, .inr (.inl (sl 0)))), (a02, .inl (T 2, 30, .inr (.inr (.inl (sf 0))))), (a03, .inl (T 3, 30, .inr (.inr (.inr (.inl (sd 0))))))]) hD hS hA [2, 6, 7, 8, 9] rfl
              refine va_callv (va_runV (As := [.int x2, .int x3]) (rest := []) ⟨hx, hb, hml, hown, hts⟩ (c_X9_become l D T _ t0 (so 0) (sn 0) a00 a01 a02 a03 (si 0) (sl 0) (sf 0) (sd 0) x2 x3 (by omega)) (cwV 2 hts gX12_sheet_X9_become rfl rfl rfl hv_X9_become ⟨Nat.le_of_ble_eq_true rfl, Nat.le_of_ble_eq_true rfl⟩) (pW_V (q := (RX9, TX9, 6)) (ci := 6) (q0 := 2) hP hE hD rfl rfl [2, 6, 7, 8, 9] (by decide +kernel) rfl rfl) rfl rfl hl.1 rfl (lv_room (Nat.le_of_ble_eq_true rfl)) dX12_sheet_62 ⟨Nat.le_of_ble_eq_true rfl, Nat.le_of_ble_eq_true rfl⟩) hS (fun q _ h => hFc q h) hFc (fun u_9 t H1 locs ht hvm hr_8 hB hz1 hk1 hS => ?_)
              obtain ⟨f_10, f_11, f_12, f_13⟩ := u_9
              obtain ⟨hP1, hD1⟩ := hB
              rw [ht] at hP1
              obtain ⟨hP, hD⟩ := va_repl [(h0, .inr (9, fs0)), (h1, .inl (T 6, 4, .inr (.inr (.inr (.inr (va_up (va_up (va_up (va_up (fun _ => none) 0 (some t0)) 1 (some t1)) 2 (some t2)) 3 (some t3))))))), (t0, .inr (6, [.int x2, .int x3, .ref a00, .ref a01, .ref a02, .ref a03])), (t1, .inr (6, [.int (so 1), .int (sn 1), .ref a10, .ref a11, .ref a12, .ref a13])), (t2, .inr (6, [.int (so 2), .int (sn 2), .ref a20, .ref a21, .ref a22, .ref a23])), (t3, .inr (6, [.int (so 3), .int (sn 3), .ref a30, .ref a31, .ref a32, .ref a33])), (a00, .inl (T 0, 30, .inl f_10)), (a01, .inl (T 1, 30, .inr (.inl f_11))), (a02, .inl (T 2, 30, .inr (.inr (.inl f_12)))), (a03, .inl (T 3, 30, .inr (.inr (.inr (.inl f_13))))), (a10, .inl (T 0, 30, .inl (si 1))), (a11, .inl (T 1, 30, .inr (.inl (sl 1)))), (a12, .inl (T 2, 30, .inr (.inr (.inl (sf 1))))), (a13, .inl (T 3, 30, .inr (.inr (.inr (.inl (sd 1)))))), (a20, .inl (T 0, 30, .inl (si 2))), (a21, .inl (T 1, 30, .inr (.inl (sl 2)))), (a22, .inl (T 2, 30, .inr (.inr (.inl (sf 2))))), (a23, .inl (T 3, 30, .inr (.inr (.inr (.inl (sd 2)))))), (a30, .inl (T 0, 30, .inl (si 3))), (a31, .inl (T 1, 30, .inr (.inl (sl 3)))), (a32, .inl (T 2, 30, .inr (.inr (.inl (sf 3))))), (a33, .inl (T 3, 30, .inr (.inr (.inr (.inl (sd 3))))))] hP hD [2, 6, 7, 8, 9] [2, 6, 7, 8, 9] rfl (by decide +kernel) rfl rfl rfl hk1 hP1
              clear hP1 hD1 hFc
              generalize H1 = H at hP hS ⊢
              refine lv_iconst (v := 1) hx hb dX12_sheet_65 (by decide +kernel) ?_
              exact W.iret hx hb hr (fun t ht hW => ⟨⟨_, ((fun k => [x2, (so 1), (so 2), (so 3)].getD k 0), (fun k => [x3, (sn 1), (sn 2), (sn 3)].getD k 0), (fun k => [f_10, (si 1), (si 2), (si 3)].getD k f_10), (fun k => [f_11, (sl 1), (sl 2), (sl 3)].getD k f_11), (fun k => [f_12, (sf 1), (sf 2), (sf 3)].getD k f_12), (fun k => [f_13, (sd 1), (sd 2), (sd 3)].getD k f_13)), rfl, ⟨(by first | decide | (unfold sp_sheet; (repeat' split) <;> first | rfl | (exfalso; omega))), (show (-1 ≤ (x2 : Int32).toInt ∧ (x2 : Int32).toInt ≤ 3) ∧ 0 ≤ (x3 : Int32).toInt ∧ (x3 : Int32).toInt ≤ 30 from by omega), (show (-1 ≤ ((so 1) : Int32).toInt ∧ ((so 1) : Int32).toInt ≤ 3) ∧ 0 ≤ ((sn 1) : Int32).toInt ∧ ((sn 1) : Int32).toInt ≤ 30 from by omega), (show (-1 ≤ ((so 2) : Int32).toInt ∧ ((so 2) : Int32).toInt ≤ 3) ∧ 0 ≤ ((sn 2) : Int32).toInt ∧ ((sn 2) : Int32).toInt ≤ 30 from by omega), (show (-1 ≤ ((so 3) : Int32).toInt ∧ ((so 3) : Int32).toInt ≤ 3) ∧ 0 ≤ ((sn 3) : Int32).toInt ∧ ((sn 3) : Int32).toInt ≤ 30 from by omega), (all4 (show ((1 : Int32).toInt = 1 → (0 : Int32).toInt = ((0 : Nat) : Int) → (x2 : Int32).toInt = x2.toInt ∧ (0 ≤ x2.toInt → (x3 : Int32).toInt = x3.toInt)) ∧ (¬ ((1 : Int32).toInt = 1 ∧ (0 : Int32).toInt = ((0 : Nat) : Int)) → (x2 : Int32).toInt = (so 0).toInt ∧ (x3 : Int32).toInt = (sn 0).toInt) from by have h9c : (0 : Int32).toInt = 0 := (by decide +kernel); have h9r : (1 : Int32).toInt = 1 := (by decide +kernel); have h9n := ti_n1; omega) (show ((1 : Int32).toInt = 1 → (0 : Int32).toInt = ((1 : Nat) : Int) → ((so 1) : Int32).toInt = x2.toInt ∧ (0 ≤ x2.toInt → ((sn 1) : Int32).toInt = x3.toInt)) ∧ (¬ ((1 : Int32).toInt = 1 ∧ (0 : Int32).toInt = ((1 : Nat) : Int)) → ((so 1) : Int32).toInt = (so 1).toInt ∧ ((sn 1) : Int32).toInt = (sn 1).toInt) from by have h9c : (0 : Int32).toInt = 0 := (by decide +kernel); have h9r : (1 : Int32).toInt = 1 := (by decide +kernel); have h9n := ti_n1; omega) (show ((1 : Int32).toInt = 1 → (0 : Int32).toInt = ((2 : Nat) : Int) → ((so 2) : Int32).toInt = x2.toInt ∧ (0 ≤ x2.toInt → ((sn 2) : Int32).toInt = x3.toInt)) ∧ (¬ ((1 : Int32).toInt = 1 ∧ (0 : Int32).toInt = ((2 : Nat) : Int)) → ((so 2) : Int32).toInt = (so 2).toInt ∧ ((sn 2) : Int32).toInt = (sn 2).toInt) from by have h9c : (0 : Int32).toInt = 0 := (by decide +kernel); have h9r : (1 : Int32).toInt = 1 := (by decide +kernel); have h9n := ti_n1; omega) (show ((1 : Int32).toInt = 1 → (0 : Int32).toInt = ((3 : Nat) : Int) → ((so 3) : Int32).toInt = x2.toInt ∧ (0 ≤ x2.toInt → ((sn 3) : Int32).toInt = x3.toInt)) ∧ (¬ ((1 : Int32).toInt = 1 ∧ (0 : Int32).toInt = ((3 : Nat) : Int)) → ((so 3) : Int32).toInt = (so 3).toInt ∧ ((sn 3) : Int32).toInt = (sn 3).toInt) from by have h9c : (0 : Int32).toInt = 0 := (by decide +kernel); have h9r : (1 : Int32).toInt = 1 := (by decide +kernel); have h9n := ti_n1; omega))⟩, by rw [ht]; exact hP.sub [0, 1, 2, 3, 4, 5, 6, 7, 8, 9, 10, 11, 12, 13, 14, 15, 16, 17, 18, 19, 20, 21] rfl, hD.sub [0, 1, 2, 3, 4, 5, 6, 7, 8, 9, 10, 11, 12, 13, 14, 15, 16, 17, 18, 19, 20, 21] (by decide +kernel) rfl⟩, hS.F ht⟩) hS.2.2 dX12_sheet_66
            · refine va_aldq hx hb hE.1 hP 1 6 rfl rfl (by unfold vp_in; decide) dX12_sheet_59 ?_
              refine W.eq (g2 := F0 m 60 ls [.ref t1]) rfl ?_
              refine lv_iload_n hx hb dX12_sheet_60 rfl (lv_at hl 2 rfl) ?_
              refine lv_iload_n hx hb dX12_sheet_61 rfl (lv_at hl 3 rfl) ?_
              have hFc := va_free (wc := [(t1, .inr (6, [.int (so 1), .int (sn 1), .ref a10, .ref a11, .ref a12, .ref a13])), (a10, .inl (T 0, 30, .inl (si 1))), (a11, .inl (T 1, 30, .inr (.inl (sl 1)))), (a12, .inl (T 2, 30, .inr (.inr (.inl (sf 1))))), (a13, .inl (T 3, 30, .inr (.inr (.inr (.inl (sd 1))))))]) hD hS hA [3, 10, 11, 12, 13] rfl
              refine va_callv (va_runV (As := [.int x2, .int x3]) (rest := []) ⟨hx, hb, hml, hown, hts⟩ (c_X9_become l D T _ t1 (so 1) (sn 1) a10 a11 a12 a13 (si 1) (sl 1) (sf 1) (sd 1) x2 x3 (by omega)) (cwV 2 hts gX12_sheet_X9_become rfl rfl rfl hv_X9_become ⟨Nat.le_of_ble_eq_true rfl, Nat.le_of_ble_eq_true rfl⟩) (pW_V (q := (RX9, TX9, 6)) (ci := 6) (q0 := 3) hP hE hD rfl rfl [3, 10, 11, 12, 13] (by decide +kernel) rfl rfl) rfl rfl hl.1 rfl (lv_room (Nat.le_of_ble_eq_true rfl)) dX12_sheet_62 ⟨Nat.le_of_ble_eq_true rfl, Nat.le_of_ble_eq_true rfl⟩) hS (fun q _ h => hFc q h) hFc (fun u_15 t H1 locs ht hvm hr_14 hB hz1 hk1 hS => ?_)
              obtain ⟨f_16, f_17, f_18, f_19⟩ := u_15
              obtain ⟨hP1, hD1⟩ := hB
              rw [ht] at hP1
              obtain ⟨hP, hD⟩ := va_repl [(h0, .inr (9, fs0)), (h1, .inl (T 6, 4, .inr (.inr (.inr (.inr (va_up (va_up (va_up (va_up (fun _ => none) 0 (some t0)) 1 (some t1)) 2 (some t2)) 3 (some t3))))))), (t0, .inr (6, [.int (so 0), .int (sn 0), .ref a00, .ref a01, .ref a02, .ref a03])), (t1, .inr (6, [.int x2, .int x3, .ref a10, .ref a11, .ref a12, .ref a13])), (t2, .inr (6, [.int (so 2), .int (sn 2), .ref a20, .ref a21, .ref a22, .ref a23])), (t3, .inr (6, [.int (so 3), .int (sn 3), .ref a30, .ref a31, .ref a32, .ref a33])), (a00, .inl (T 0, 30, .inl (si 0))), (a01, .inl (T 1, 30, .inr (.inl (sl 0)))), (a02, .inl (T 2, 30, .inr (.inr (.inl (sf 0))))), (a03, .inl (T 3, 30, .inr (.inr (.inr (.inl (sd 0)))))), (a10, .inl (T 0, 30, .inl f_16)), (a11, .inl (T 1, 30, .inr (.inl f_17))), (a12, .inl (T 2, 30, .inr (.inr (.inl f_18)))), (a13, .inl (T 3, 30, .inr (.inr (.inr (.inl f_19))))), (a20, .inl (T 0, 30, .inl (si 2))), (a21, .inl (T 1, 30, .inr (.inl (sl 2)))), (a22, .inl (T 2, 30, .inr (.inr (.inl (sf 2))))), (a23, .inl (T 3, 30, .inr (.inr (.inr (.inl (sd 2)))))), (a30, .inl (T 0, 30, .inl (si 3))), (a31, .inl (T 1, 30, .inr (.inl (sl 3)))), (a32, .inl (T 2, 30, .inr (.inr (.inl (sf 3))))), (a33, .inl (T 3, 30, .inr (.inr (.inr (.inl (sd 3))))))] hP hD [3, 10, 11, 12, 13] [3, 10, 11, 12, 13] rfl (by decide +kernel) rfl rfl rfl hk1 hP1
              clear hP1 hD1 hFc
              generalize H1 = H at hP hS ⊢
              refine lv_iconst (v := 1) hx hb dX12_sheet_65 (by decide +kernel) ?_
              exact W.iret hx hb hr (fun t ht hW => ⟨⟨_, ((fun k => [(so 0), x2, (so 2), (so 3)].getD k 0), (fun k => [(sn 0), x3, (sn 2), (sn 3)].getD k 0), (fun k => [(si 0), f_16, (si 2), (si 3)].getD k (si 0)), (fun k => [(sl 0), f_17, (sl 2), (sl 3)].getD k (sl 0)), (fun k => [(sf 0), f_18, (sf 2), (sf 3)].getD k (sf 0)), (fun k => [(sd 0), f_19, (sd 2), (sd 3)].getD k (sd 0))), rfl, ⟨(by first | decide | (unfold sp_sheet; (repeat' split) <;> first | rfl | (exfalso; omega))), (show (-1 ≤ ((so 0) : Int32).toInt ∧ ((so 0) : Int32).toInt ≤ 3) ∧ 0 ≤ ((sn 0) : Int32).toInt ∧ ((sn 0) : Int32).toInt ≤ 30 from by omega), (show (-1 ≤ (x2 : Int32).toInt ∧ (x2 : Int32).toInt ≤ 3) ∧ 0 ≤ (x3 : Int32).toInt ∧ (x3 : Int32).toInt ≤ 30 from by omega), (show (-1 ≤ ((so 2) : Int32).toInt ∧ ((so 2) : Int32).toInt ≤ 3) ∧ 0 ≤ ((sn 2) : Int32).toInt ∧ ((sn 2) : Int32).toInt ≤ 30 from by omega), (show (-1 ≤ ((so 3) : Int32).toInt ∧ ((so 3) : Int32).toInt ≤ 3) ∧ 0 ≤ ((sn 3) : Int32).toInt ∧ ((sn 3) : Int32).toInt ≤ 30 from by omega), (all4 (show ((1 : Int32).toInt = 1 → (1 : Int32).toInt = ((0 : Nat) : Int) → ((so 0) : Int32).toInt = x2.toInt ∧ (0 ≤ x2.toInt → ((sn 0) : Int32).toInt = x3.toInt)) ∧ (¬ ((1 : Int32).toInt = 1 ∧ (1 : Int32).toInt = ((0 : Nat) : Int)) → ((so 0) : Int32).toInt = (so 0).toInt ∧ ((sn 0) : Int32).toInt = (sn 0).toInt) from by have h9c : (1 : Int32).toInt = 1 := (by decide +kernel); have h9r : (1 : Int32).toInt = 1 := (by decide +kernel); have h9n := ti_n1; omega) (show ((1 : Int32).toInt = 1 → (1 : Int32).toInt = ((1 : Nat) : Int) → (x2 : Int32).toInt = x2.toInt ∧ (0 ≤ x2.toInt → (x3 : Int32).toInt = x3.toInt)) ∧ (¬ ((1 : Int32).toInt = 1 ∧ (1 : Int32).toInt = ((1 : Nat) : Int)) → (x2 : Int32).toInt = (so 1).toInt ∧ (x3 : Int32).toInt = (sn 1).toInt) from by have h9c : (1 : Int32).toInt = 1 := (by decide +kernel); have h9r : (1 : Int32).toInt = 1 := (by decide +kernel); have h9n := ti_n1; omega) (show ((1 : Int32).toInt = 1 → (1 : Int32).toInt = ((2 : Nat) : Int) → ((so 2) : Int32).toInt = x2.toInt ∧ (0 ≤ x2.toInt → ((sn 2) : Int32).toInt = x3.toInt)) ∧ (¬ ((1 : Int32).toInt = 1 ∧ (1 : Int32).toInt = ((2 : Nat) : Int)) → ((so 2) : Int32).toInt = (so 2).toInt ∧ ((sn 2) : Int32).toInt = (sn 2).toInt) from by have h9c : (1 : Int32).toInt = 1 := (by decide +kernel); have h9r : (1 : Int32).toInt = 1 := (by decide +kernel); have h9n := ti_n1; omega) (show ((1 : Int32).toInt = 1 → (1 : Int32).toInt = ((3 : Nat) : Int) → ((so 3) : Int32).toInt = x2.toInt ∧ (0 ≤ x2.toInt → ((sn 3) : Int32).toInt = x3.toInt)) ∧ (¬ ((1 : Int32).toInt = 1 ∧ (1 : Int32).toInt = ((3 : Nat) : Int)) → ((so 3) : Int32).toInt = (so 3).toInt ∧ ((sn 3) : Int32).toInt = (sn 3).toInt) from by have h9c : (1 : Int32).toInt = 1 := (by decide +kernel); have h9r : (1 : Int32).toInt = 1 := (by decide +kernel); have h9n := ti_n1; omega))⟩, by rw [ht]; exact hP.sub [0, 1, 2, 3, 4, 5, 6, 7, 8, 9, 10, 11, 12, 13, 14, 15, 16, 17, 18, 19, 20, 21] rfl, hD.sub [0, 1, 2, 3, 4, 5, 6, 7, 8, 9, 10, 11, 12, 13, 14, 15, 16, 17, 18, 19, 20, 21] (by decide +kernel) rfl⟩, hS.F ht⟩) hS.2.2 dX12_sheet_66
            · refine va_aldq hx hb hE.1 hP 1 6 rfl rfl (by unfold vp_in; decide) dX12_sheet_59 ?_
              refine W.eq (g2 := F0 m 60 ls [.ref t2]) rfl ?_
              refine lv_iload_n hx hb dX12_sheet_60 rfl (lv_at hl 2 rfl) ?_
              refine lv_iload_n hx hb dX12_sheet_61 rfl (lv_at hl 3 rfl) ?_
              have hFc := va_free (wc := [(t2, .inr (6, [.int (so 2), .int (sn 2), .ref a20, .ref a21, .ref a22, .ref a23])), (a20, .inl (T 0, 30, .inl (si 2))), (a21, .inl (T 1, 30, .inr (.inl (sl 2)))), (a22, .inl (T 2, 30, .inr (.inr (.inl (sf 2))))), (a23, .inl (T 3, 30, .inr (.inr (.inr (.inl (sd 2))))))]) hD hS hA [4, 14, 15, 16, 17] rfl
              refine va_callv (va_runV (As := [.int x2, .int x3]) (rest := []) ⟨hx, hb, hml, hown, hts⟩ (c_X9_become l D T _ t2 (so 2) (sn 2) a20 a21 a22 a23 (si 2) (sl 2) (sf 2) (sd 2) x2 x3 (by omega)) (cwV 2 hts gX12_sheet_X9_become rfl rfl rfl hv_X9_become ⟨Nat.le_of_ble_eq_true rfl, Nat.le_of_ble_eq_true rfl⟩) (pW_V (q := (RX9, TX9, 6)) (ci := 6) (q0 := 4) hP hE hD rfl rfl [4, 14, 15, 16, 17] (by decide +kernel) rfl rfl) rfl rfl hl.1 rfl (lv_room (Nat.le_of_ble_eq_true rfl)) dX12_sheet_62 ⟨Nat.le_of_ble_eq_true rfl, Nat.le_of_ble_eq_true rfl⟩) hS (fun q _ h => hFc q h) hFc (fun u_21 t H1 locs ht hvm hr_20 hB hz1 hk1 hS => ?_)
              obtain ⟨f_22, f_23, f_24, f_25⟩ := u_21
              obtain ⟨hP1, hD1⟩ := hB
              rw [ht] at hP1
              obtain ⟨hP, hD⟩ := va_repl [(h0, .inr (9, fs0)), (h1, .inl (T 6, 4, .inr (.inr (.inr (.inr (va_up (va_up (va_up (va_up (fun _ => none) 0 (some t0)) 1 (some t1)) 2 (some t2)) 3 (some t3))))))), (t0, .inr (6, [.int (so 0), .int (sn 0), .ref a00, .ref a01, .ref a02, .ref a03])), (t1, .inr (6, [.int (so 1), .int (sn 1), .ref a10, .ref a11, .ref a12, .ref a13])), (t2, .inr (6, [.int x2, .int x3, .ref a20, .ref a21, .ref a22, .ref a23])), (t3, .inr (6, [.int (so 3), .int (sn 3), .ref a30, .ref a31, .ref a32, .ref a33])), (a00, .inl (T 0, 30, .inl (si 0))), (a01, .inl (T 1, 30, .inr (.inl (sl 0)))), (a02, .inl (T 2, 30, .inr (.inr (.inl (sf 0))))), (a03, .inl (T 3, 30, .inr (.inr (.inr (.inl (sd 0)))))), (a10, .inl (T 0, 30, .inl (si 1))), (a11, .inl (T 1, 30, .inr (.inl (sl 1)))), (a12, .inl (T 2, 30, .inr (.inr (.inl (sf 1))))), (a13, .inl (T 3, 30, .inr (.inr (.inr (.inl (sd 1)))))), (a20, .inl (T 0, 30, .inl f_22)), (a21, .inl (T 1, 30, .inr (.inl f_23))), (a22, .inl (T 2, 30, .inr (.inr (.inl f_24)))), (a23, .inl (T 3, 30, .inr (.inr (.inr (.inl f_25))))), (a30, .inl (T 0, 30, .inl (si 3))), (a31, .inl (T 1, 30, .inr (.inl (sl 3)))), (a32, .inl (T 2, 30, .inr (.inr (.inl (sf 3))))), (a33, .inl (T 3, 30, .inr (.inr (.inr (.inl (sd 3))))))] hP hD [4, 14, 15, 16, 17] [4, 14, 15, 16, 17] rfl (by decide +kernel) rfl rfl rfl hk1 hP1
              clear hP1 hD1 hFc
              generalize H1 = H at hP hS ⊢
              refine lv_iconst (v := 1) hx hb dX12_sheet_65 (by decide +kernel) ?_
              exact W.iret hx hb hr (fun t ht hW => ⟨⟨_, ((fun k => [(so 0), (so 1), x2, (so 3)].getD k 0), (fun k => [(sn 0), (sn 1), x3, (sn 3)].getD k 0), (fun k => [(si 0), (si 1), f_22, (si 3)].getD k (si 0)), (fun k => [(sl 0), (sl 1), f_23, (sl 3)].getD k (sl 0)), (fun k => [(sf 0), (sf 1), f_24, (sf 3)].getD k (sf 0)), (fun k => [(sd 0), (sd 1), f_25, (sd 3)].getD k (sd 0))), rfl, ⟨(by first | decide | (unfold sp_sheet; (repeat' split) <;> first | rfl | (exfalso; omega))), (show (-1 ≤ ((so 0) : Int32).toInt ∧ ((so 0) : Int32).toInt ≤ 3) ∧ 0 ≤ ((sn 0) : Int32).toInt ∧ ((sn 0) : Int32).toInt ≤ 30 from by omega), (show (-1 ≤ ((so 1) : Int32).toInt ∧ ((so 1) : Int32).toInt ≤ 3) ∧ 0 ≤ ((sn 1) : Int32).toInt ∧ ((sn 1) : Int32).toInt ≤ 30 from by omega), (show (-1 ≤ (x2 : Int32).toInt ∧ (x2 : Int32).toInt ≤ 3) ∧ 0 ≤ (x3 : Int32).toInt ∧ (x3 : Int32).toInt ≤ 30 from by omega), (show (-1 ≤ ((so 3) : Int32).toInt ∧ ((so 3) : Int32).toInt ≤ 3) ∧ 0 ≤ ((sn 3) : Int32).toInt ∧ ((sn 3) : Int32).toInt ≤ 30 from by omega), (all4 (show ((1 : Int32).toInt = 1 → (2 : Int32).toInt = ((0 : Nat) : Int) → ((so 0) : Int32).toInt = x2.toInt ∧ (0 ≤ x2.toInt → ((sn 0) : Int32).toInt = x3.toInt)) ∧ (¬ ((1 : Int32).toInt = 1 ∧ (2 : Int32).toInt = ((0 : Nat) : Int)) → ((so 0) : Int32).toInt = (so 0).toInt ∧ ((sn 0) : Int32).toInt = (sn 0).toInt) from by have h9c : (2 : Int32).toInt = 2 := (by decide +kernel); have h9r : (1 : Int32).toInt = 1 := (by decide +kernel); have h9n := ti_n1; omega) (show ((1 : Int32).toInt = 1 → (2 : Int32).toInt = ((1 : Nat) : Int) → ((so 1) : Int32).toInt = x2.toInt ∧ (0 ≤ x2.toInt → ((sn 1) : Int32).toInt = x3.toInt)) ∧ (¬ ((1 : Int32).toInt = 1 ∧ (2 : Int32).toInt = ((1 : Nat) : Int)) → ((so 1) : Int32).toInt = (so 1).toInt ∧ ((sn 1) : Int32).toInt = (sn 1).toInt) from by have h9c : (2 : Int32).toInt = 2 := (by decide +kernel); have h9r : (1 : Int32).toInt = 1 := (by decide +kernel); have h9n := ti_n1; omega) (show ((1 : Int32).toInt = 1 → (2 : Int32).toInt = ((2 : Nat) : Int) → (x2 : Int32).toInt = x2.toInt ∧ (0 ≤ x2.toInt → (x3 : Int32).toInt = x3.toInt)) ∧ (¬ ((1 : Int32).toInt = 1 ∧ (2 : Int32).toInt = ((2 : Nat) : Int)) → (x2 : Int32).toInt = (so 2).toInt ∧ (x3 : Int32).toInt = (sn 2).toInt) from by have h9c : (2 : Int32).toInt = 2 := (by decide +kernel); have h9r : (1 : Int32).toInt = 1 := (by decide +kernel); have h9n := ti_n1; omega) (show ((1 : Int32).toInt = 1 → (2 : Int32).toInt = ((3 : Nat) : Int) → ((so 3) : Int32).toInt = x2.toInt ∧ (0 ≤ x2.toInt → ((sn 3) : Int32).toInt = x3.toInt)) ∧ (¬ ((1 : Int32).toInt = 1 ∧ (2 : Int32).toInt = ((3 : Nat) : Int)) → ((so 3) : Int32).toInt = (so 3).toInt ∧ ((sn 3) : Int32).toInt = (sn 3).toInt) from by have h9c : (2 : Int32).toInt = 2 := (by decide +kernel); have h9r : (1 : Int32).toInt = 1 := (by decide +kernel); have h9n := ti_n1; omega))⟩, by rw [ht]; exact hP.sub [0, 1, 2, 3, 4, 5, 6, 7, 8, 9, 10, 11, 12, 13, 14, 15, 16, 17, 18, 19, 20, 21] rfl, hD.sub [0, 1, 2, 3, 4, 5, 6, 7, 8, 9, 10, 11, 12, 13, 14, 15, 16, 17, 18, 19, 20, 21] (by decide +kernel) rfl⟩, hS.F ht⟩) hS.2.2 dX12_sheet_66
            · refine va_aldq hx hb hE.1 hP 1 6 rfl rfl (by unfold vp_in; decide) dX12_sheet_59 ?_
              refine W.eq (g2 := F0 m 60 ls [.ref t3]) rfl ?_
              refine lv_iload_n hx hb dX12_sheet_60 rfl (lv_at hl 2 rfl) ?_
              refine lv_iload_n hx hb dX12_sheet_61 rfl (lv_at hl 3 rfl) ?_
              have hFc := va_free (wc := [(t3, .inr (6, [.int (so 3), .int (sn 3), .ref a30, .ref a31, .ref a32, .ref a33])), (a30, .inl (T 0, 30, .inl (si 3))), (a31, .inl (T 1, 30, .inr (.inl (sl 3)))), (a32, .inl (T 2, 30, .inr (.inr (.inl (sf 3))))), (a33, .inl (T 3, 30, .inr (.inr (.inr (.inl (sd 3))))))]) hD hS hA [5, 18, 19, 20, 21] rfl
              refine va_callv (va_runV (As := [.int x2, .int x3]) (rest := []) ⟨hx, hb, hml, hown, hts⟩ (c_X9_become l D T _ t3 (so 3) (sn 3) a30 a31 a32 a33 (si 3) (sl 3) (sf 3) (sd 3) x2 x3 (by omega)) (cwV 2 hts gX12_sheet_X9_become rfl rfl rfl hv_X9_become ⟨Nat.le_of_ble_eq_true rfl, Nat.le_of_ble_eq_true rfl⟩) (pW_V (q := (RX9, TX9, 6)) (ci := 6) (q0 := 5) hP hE hD rfl rfl [5, 18, 19, 20, 21] (by decide +kernel) rfl rfl) rfl rfl hl.1 rfl (lv_room (Nat.le_of_ble_eq_true rfl)) dX12_sheet_62 ⟨Nat.le_of_ble_eq_true rfl, Nat.le_of_ble_eq_true rfl⟩) hS (fun q _ h => hFc q h) hFc (fun u_27 t H1 locs ht hvm hr_26 hB hz1 hk1 hS => ?_)
              obtain ⟨f_28, f_29, f_30, f_31⟩ := u_27
              obtain ⟨hP1, hD1⟩ := hB
              rw [ht] at hP1
              obtain ⟨hP, hD⟩ := va_repl [(h0, .inr (9, fs0)), (h1, .inl (T 6, 4, .inr (.inr (.inr (.inr (va_up (va_up (va_up (va_up (fun _ => none) 0 (some t0)) 1 (some t1)) 2 (some t2)) 3 (some t3))))))), (t0, .inr (6, [.int (so 0), .int (sn 0), .ref a00, .ref a01, .ref a02, .ref a03])), (t1, .inr (6, [.int (so 1), .int (sn 1), .ref a10, .ref a11, .ref a12, .ref a13])), (t2, .inr (6, [.int (so 2), .int (sn 2), .ref a20, .ref a21, .ref a22, .ref a23])), (t3, .inr (6, [.int x2, .int x3, .ref a30, .ref a31, .ref a32, .ref a33])), (a00, .inl (T 0, 30, .inl (si 0))), (a01, .inl (T 1, 30, .inr (.inl (sl 0)))), (a02, .inl (T 2, 30, .inr (.inr (.inl (sf 0))))), (a03, .inl (T 3, 30, .inr (.inr (.inr (.inl (sd 0)))))), (a10, .inl (T 0, 30, .inl (si 1))), (a11, .inl (T 1, 30, .inr (.inl (sl 1)))), (a12, .inl (T 2, 30, .inr (.inr (.inl (sf 1))))), (a13, .inl (T 3, 30, .inr (.inr (.inr (.inl (sd 1)))))), (a20, .inl (T 0, 30, .inl (si 2))), (a21, .inl (T 1, 30, .inr (.inl (sl 2)))), (a22, .inl (T 2, 30, .inr (.inr (.inl (sf 2))))), (a23, .inl (T 3, 30, .inr (.inr (.inr (.inl (sd 2)))))), (a30, .inl (T 0, 30, .inl f_28)), (a31, .inl (T 1, 30, .inr (.inl f_29))), (a32, .inl (T 2, 30, .inr (.inr (.inl f_30)))), (a33, .inl (T 3, 30, .inr (.inr (.inr (.inl f_31)))))] hP hD [5, 18, 19, 20, 21] [5, 18, 19, 20, 21] rfl (by decide +kernel) rfl rfl rfl hk1 hP1
              clear hP1 hD1 hFc
              generalize H1 = H at hP hS ⊢
              refine lv_iconst (v := 1) hx hb dX12_sheet_65 (by decide +kernel) ?_
              exact W.iret hx hb hr (fun t ht hW => ⟨⟨_, ((fun k => [(so 0), (so 1), (so 2), x2].getD k 0), (fun k => [(sn 0), (sn 1), (sn 2), x3].getD k 0), (fun k => [(si 0), (si 1), (si 2), f_28].getD k (si 0)), (fun k => [(sl 0), (sl 1), (sl 2), f_29].getD k (sl 0)), (fun k => [(sf 0), (sf 1), (sf 2), f_30].getD k (sf 0)), (fun k => [(sd 0), (sd 1), (sd 2), f_31].getD k (sd 0))), rfl, ⟨(by first | decide | (unfold sp_sheet; (repeat' split) <;> first | rfl | (exfalso; omega))), (show (-1 ≤ ((so 0) : Int32).toInt ∧ ((so 0) : Int32).toInt ≤ 3) ∧ 0 ≤ ((sn 0) : Int32).toInt ∧ ((sn 0) : Int32).toInt ≤ 30 from by omega), (show (-1 ≤ ((so 1) : Int32).toInt ∧ ((so 1) : Int32).toInt ≤ 3) ∧ 0 ≤ ((sn 1) : Int32).toInt ∧ ((sn 1) : Int32).toInt ≤ 30 from by omega), (show (-1 ≤ ((so 2) : Int32).toInt ∧ ((so 2) : Int32).toInt ≤ 3) ∧ 0 ≤ ((sn 2) : Int32).toInt ∧ ((sn 2) : Int32).toInt ≤ 30 from by omega), (show (-1 ≤ (x2 : Int32).toInt ∧ (x2 : Int32).toInt ≤ 3) ∧ 0 ≤ (x3 : Int32).toInt ∧ (x3 : Int32).toInt ≤ 30 from by omega), (all4 (show ((1 : Int32).toInt = 1 → (3 : Int32).toInt = ((0 : Nat) : Int) → ((so 0) : Int32).toInt = x2.toInt ∧ (0 ≤ x2.toInt → ((sn 0) : Int32).toInt = x3.toInt)) ∧ (¬ ((1 : Int32).toInt = 1 ∧ (3 : Int32).toInt = ((0 : Nat) : Int)) → ((so 0) : Int32).toInt = (so 0).toInt ∧ ((sn 0) : Int32).toInt = (sn 0).toInt) from by have h9c : (3 : Int32).toInt = 3 := (by decide +kernel); have h9r : (1 : Int32).toInt = 1 := (by decide +kernel); have h9n := ti_n1; omega) (show ((1 : Int32).toInt = 1 → (3 : Int32).toInt = ((1 : Nat) : Int) → ((so 1) : Int32).toInt = x2.toInt ∧ (0 ≤ x2.toInt → ((sn 1) : Int32).toInt = x3.toInt)) ∧ (¬ ((1 : Int32).toInt = 1 ∧ (3 : Int32).toInt = ((1 : Nat) : Int)) → ((so 1) : Int32).toInt = (so 1).toInt ∧ ((sn 1) : Int32).toInt = (sn 1).toInt) from by have h9c : (3 : Int32).toInt = 3 := (by decide +kernel); have h9r : (1 : Int32).toInt = 1 := (by decide +kernel); have h9n := ti_n1; omega) (show ((1 : Int32).toInt = 1 → (3 : Int32).toInt = ((2 : Nat) : Int) → ((so 2) : Int32).toInt = x2.toInt ∧ (0 ≤ x2.toInt → ((sn 2) : Int32).toInt = x3.toInt)) ∧ (¬ ((1 : Int32).toInt = 1 ∧ (3 : Int32).toInt = ((2 : Nat) : Int)) → ((so 2) : Int32).toInt = (so 2).toInt ∧ ((sn 2) : Int32).toInt = (sn 2).toInt) from by have h9c : (3 : Int32).toInt = 3 := (by decide +kernel); have h9r : (1 : Int32).toInt = 1 := (by decide +kernel); have h9n := ti_n1; omega) (show ((1 : Int32).toInt = 1 → (3 : Int32).toInt = ((3 : Nat) : Int) → (x2 : Int32).toInt = x2.toInt ∧ (0 ≤ x2.toInt → (x3 : Int32).toInt = x3.toInt)) ∧ (¬ ((1 : Int32).toInt = 1 ∧ (3 : Int32).toInt = ((3 : Nat) : Int)) → (x2 : Int32).toInt = (so 3).toInt ∧ (x3 : Int32).toInt = (sn 3).toInt) from by have h9c : (3 : Int32).toInt = 3 := (by decide +kernel); have h9r : (1 : Int32).toInt = 1 := (by decide +kernel); have h9n := ti_n1; omega))⟩, by rw [ht]; exact hP.sub [0, 1, 2, 3, 4, 5, 6, 7, 8, 9, 10, 11, 12, 13, 14, 15, 16, 17, 18, 19, 20, 21] rfl, hD.sub [0, 1, 2, 3, 4, 5, 6, 7, 8, 9, 10, 11, 12, 13, 14, 15, 16, 17, 18, 19, 20, 21] (by decide +kernel) rfl⟩, hS.F ht⟩) hS.2.2 dX12_sheet_66
          · rw [fa_le] at c_7
            try rw [ti_0] at c_7
            refine lv_bipush (v := (-14)) hx hb dX12_sheet_51 (by decide +kernel) ?_
            exact W.iret hx hb hr (fun t ht hW => ⟨⟨_, ((fun k => [(so 0), (so 1), (so 2), (so 3)].getD k 0), (fun k => [(sn 0), (sn 1), (sn 2), (sn 3)].getD k 0), (fun k => [(si 0), (si 1), (si 2), (si 3)].getD k (si 0)), (fun k => [(sl 0), (sl 1), (sl 2), (sl 3)].getD k (sl 0)), (fun k => [(sf 0), (sf 1), (sf 2), (sf 3)].getD k (sf 0)), (fun k => [(sd 0), (sd 1), (sd 2), (sd 3)].getD k (sd 0))), rfl, ⟨(by first | decide | (unfold sp_sheet; (repeat' split) <;> first | rfl | (exfalso; omega))), (show (-1 ≤ ((so 0) : Int32).toInt ∧ ((so 0) : Int32).toInt ≤ 3) ∧ 0 ≤ ((sn 0) : Int32).toInt ∧ ((sn 0) : Int32).toInt ≤ 30 from by omega), (show (-1 ≤ ((so 1) : Int32).toInt ∧ ((so 1) : Int32).toInt ≤ 3) ∧ 0 ≤ ((sn 1) : Int32).toInt ∧ ((sn 1) : Int32).toInt ≤ 30 from by omega), (show (-1 ≤ ((so 2) : Int32).toInt ∧ ((so 2) : Int32).toInt ≤ 3) ∧ 0 ≤ ((sn 2) : Int32).toInt ∧ ((sn 2) : Int32).toInt ≤ 30 from by omega), (show (-1 ≤ ((so 3) : Int32).toInt ∧ ((so 3) : Int32).toInt ≤ 3) ∧ 0 ≤ ((sn 3) : Int32).toInt ∧ ((sn 3) : Int32).toInt ≤ 30 from by omega), (all4 (show (((-14) : Int32).toInt = 1 → x1.toInt = ((0 : Nat) : Int) → ((so 0) : Int32).toInt = x2.toInt ∧ (0 ≤ x2.toInt → ((sn 0) : Int32).toInt = x3.toInt)) ∧ (¬ (((-14) : Int32).toInt = 1 ∧ x1.toInt = ((0 : Nat) : Int)) → ((so 0) : Int32).toInt = (so 0).toInt ∧ ((sn 0) : Int32).toInt = (sn 0).toInt) from by have h9r : ((-14) : Int32).toInt = -14 := (by decide +kernel); have h9n := ti_n1; omega) (show (((-14) : Int32).toInt = 1 → x1.toInt = ((1 : Nat) : Int) → ((so 1) : Int32).toInt = x2.toInt ∧ (0 ≤ x2.toInt → ((sn 1) : Int32).toInt = x3.toInt)) ∧ (¬ (((-14) : Int32).toInt = 1 ∧ x1.toInt = ((1 : Nat) : Int)) → ((so 1) : Int32).toInt = (so 1).toInt ∧ ((sn 1) : Int32).toInt = (sn 1).toInt) from by have h9r : ((-14) : Int32).toInt = -14 := (by decide +kernel); have h9n := ti_n1; omega) (show (((-14) : Int32).toInt = 1 → x1.toInt = ((2 : Nat) : Int) → ((so 2) : Int32).toInt = x2.toInt ∧ (0 ≤ x2.toInt → ((sn 2) : Int32).toInt = x3.toInt)) ∧ (¬ (((-14) : Int32).toInt = 1 ∧ x1.toInt = ((2 : Nat) : Int)) → ((so 2) : Int32).toInt = (so 2).toInt ∧ ((sn 2) : Int32).toInt = (sn 2).toInt) from by have h9r : ((-14) : Int32).toInt = -14 := (by decide +kernel); have h9n := ti_n1; omega) (show (((-14) : Int32).toInt = 1 → x1.toInt = ((3 : Nat) : Int) → ((so 3) : Int32).toInt = x2.toInt ∧ (0 ≤ x2.toInt → ((sn 3) : Int32).toInt = x3.toInt)) ∧ (¬ (((-14) : Int32).toInt = 1 ∧ x1.toInt = ((3 : Nat) : Int)) → ((so 3) : Int32).toInt = (so 3).toInt ∧ ((sn 3) : Int32).toInt = (sn 3).toInt) from by have h9r : ((-14) : Int32).toInt = -14 := (by decide +kernel); have h9n := ti_n1; omega))⟩, by rw [ht]; exact hP.sub [0, 1, 2, 3, 4, 5, 6, 7, 8, 9, 10, 11, 12, 13, 14, 15, 16, 17, 18, 19, 20, 21] rfl, hD.sub [0, 1, 2, 3, 4, 5, 6, 7, 8, 9, 10, 11, 12, 13, 14, 15, 16, 17, 18, 19, 20, 21] (by decide +kernel) rfl⟩, hS.F ht⟩) hS.2.2 dX12_sheet_53
        · rw [fa_le] at c_6
          try rw [ti_30] at c_6
          refine lv_bipush (v := (-2)) hx hb dX12_sheet_44 (by decide +kernel) ?_
          exact W.iret hx hb hr (fun t ht hW => ⟨⟨_, ((fun k => [(so 0), (so 1), (so 2), (so 3)].getD k 0), (fun k => [(sn 0), (sn 1), (sn 2), (sn 3)].getD k 0), (fun k => [(si 0), (si 1), (si 2), (si 3)].getD k (si 0)), (fun k => [(sl 0), (sl 1), (sl 2), (sl 3)].getD k (sl 0)), (fun k => [(sf 0), (sf 1), (sf 2), (sf 3)].getD k (sf 0)), (fun k => [(sd 0), (sd 1), (sd 2), (sd 3)].getD k (sd 0))), rfl, ⟨(by first | decide | (unfold sp_sheet; (repeat' split) <;> first | rfl | (exfalso; omega))), (show (-1 ≤ ((so 0) : Int32).toInt ∧ ((so 0) : Int32).toInt ≤ 3) ∧ 0 ≤ ((sn 0) : Int32).toInt ∧ ((sn 0) : Int32).toInt ≤ 30 from by omega), (show (-1 ≤ ((so 1) : Int32).toInt ∧ ((so 1) : Int32).toInt ≤ 3) ∧ 0 ≤ ((sn 1) : Int32).toInt ∧ ((sn 1) : Int32).toInt ≤ 30 from by omega), (show (-1 ≤ ((so 2) : Int32).toInt ∧ ((so 2) : Int32).toInt ≤ 3) ∧ 0 ≤ ((sn 2) : Int32).toInt ∧ ((sn 2) : Int32).toInt ≤ 30 from by omega), (show (-1 ≤ ((so 3) : Int32).toInt ∧ ((so 3) : Int32).toInt ≤ 3) ∧ 0 ≤ ((sn 3) : Int32).toInt ∧ ((sn 3) : Int32).toInt ≤ 30 from by omega), (all4 (show (((-2) : Int32).toInt = 1 → x1.toInt = ((0 : Nat) : Int) → ((so 0) : Int32).toInt = x2.toInt ∧ (0 ≤ x2.toInt → ((sn 0) : Int32).toInt = x3.toInt)) ∧ (¬ (((-2) : Int32).toInt = 1 ∧ x1.toInt = ((0 : Nat) : Int)) → ((so 0) : Int32).toInt = (so 0).toInt ∧ ((sn 0) : Int32).toInt = (sn 0).toInt) from by have h9r : ((-2) : Int32).toInt = -2 := (by decide +kernel); have h9n := ti_n1; omega) (show (((-2) : Int32).toInt = 1 → x1.toInt = ((1 : Nat) : Int) → ((so 1) : Int32).toInt = x2.toInt ∧ (0 ≤ x2.toInt → ((sn 1) : Int32).toInt = x3.toInt)) ∧ (¬ (((-2) : Int32).toInt = 1 ∧ x1.toInt = ((1 : Nat) : Int)) → ((so 1) : Int32).toInt = (so 1).toInt ∧ ((sn 1) : Int32).toInt = (sn 1).toInt) from by have h9r : ((-2) : Int32).toInt = -2 := (by decide +kernel); have h9n := ti_n1; omega) (show (((-2) : Int32).toInt = 1 → x1.toInt = ((2 : Nat) : Int) → ((so 2) : Int32).toInt = x2.toInt ∧ (0 ≤ x2.toInt → ((sn 2) : Int32).toInt = x3.toInt)) ∧ (¬ (((-2) : Int32).toInt = 1 ∧ x1.toInt = ((2 : Nat) : Int)) → ((so 2) : Int32).toInt = (so 2).toInt ∧ ((sn 2) : Int32).toInt = (sn 2).toInt) from by have h9r : ((-2) : Int32).toInt = -2 := (by decide +kernel); have h9n := ti_n1; omega) (show (((-2) : Int32).toInt = 1 → x1.toInt = ((3 : Nat) : Int) → ((so 3) : Int32).toInt = x2.toInt ∧ (0 ≤ x2.toInt → ((sn 3) : Int32).toInt = x3.toInt)) ∧ (¬ (((-2) : Int32).toInt = 1 ∧ x1.toInt = ((3 : Nat) : Int)) → ((so 3) : Int32).toInt = (so 3).toInt ∧ ((sn 3) : Int32).toInt = (sn 3).toInt) from by have h9r : ((-2) : Int32).toInt = -2 := (by decide +kernel); have h9n := ti_n1; omega))⟩, by rw [ht]; exact hP.sub [0, 1, 2, 3, 4, 5, 6, 7, 8, 9, 10, 11, 12, 13, 14, 15, 16, 17, 18, 19, 20, 21] rfl, hD.sub [0, 1, 2, 3, 4, 5, 6, 7, 8, 9, 10, 11, 12, 13, 14, 15, 16, 17, 18, 19, 20, 21] (by decide +kernel) rfl⟩, hS.F ht⟩) hS.2.2 dX12_sheet_46
      · rw [fa_eq] at c_5
        try rw [ti_n1] at c_5
        refine lv_aload_n hx hb dX12_sheet_26 rfl (lv_at hl 0 rfl) ?_
        refine va_get (D := D) (ci := 9) (v := .ref h1) (C := RX12) (T := TX12) (N := 11) hx hb hts in_X12_sheet_X12 hown hE.1 hP 0 rfl rfl 9 (by decide +kernel) (hts (.fieldLink RX12 65 "ClauseBook" "sheets" "[LClauseBook$Sheet;") (List.mem_of_getElem? (i := 1) rfl)) (fun _ h9 => h9) e0_9 dX12_sheet_27 ?_
        refine lv_iload_n hx hb dX12_sheet_30 rfl (lv_at hl 1 rfl) ?_
        rcases in4 (x := x1) (by omega) with rfl | rfl | rfl | rfl
        · refine va_aldq hx hb hE.1 hP 1 6 rfl rfl (by unfold vp_in; decide) dX12_sheet_31 ?_
          refine W.eq (g2 := F0 m 32 ls [.ref t0]) rfl ?_
          refine lv_iconst (v := (-1)) hx hb dX12_sheet_32 (by decide +kernel) ?_
          refine va_put (D := D) (ci := 6) (v := .int (-1)) (ty := .int) (C := RX9) (T := TX9) (N := 6) hx hb hts in_X12_sheet_X9 tyX9 tyX9_ok nmX9 hown hE.1 hP hD hS 2 rfl rfl 0 (by decide +kernel) (hts (.fieldLink RX12 277 "ClauseBook$Sheet" "sort" "I") (List.mem_of_getElem? (i := 2) rfl)) (fun _ h9 => h9) rfl (by decide +kernel) rfl rfl (Nat.le_of_ble_eq_true rfl) dX12_sheet_33 (fun H locs hP hD hS => ?_)
          obtain ⟨hP, hD⟩ := wPD [(h0, .inr (9, fs0)), (h1, .inl (T 6, 4, .inr (.inr (.inr (.inr (va_up (va_up (va_up (va_up (fun _ => none) 0 (some t0)) 1 (some t1)) 2 (some t2)) 3 (some t3))))))), (t0, .inr (6, [.int (-1), .int (sn 0), .ref a00, .ref a01, .ref a02, .ref a03])), (t1, .inr (6, [.int (so 1), .int (sn 1), .ref a10, .ref a11, .ref a12, .ref a13])), (t2, .inr (6, [.int (so 2), .int (sn 2), .ref a20, .ref a21, .ref a22, .ref a23])), (t3, .inr (6, [.int (so 3), .int (sn 3), .ref a30, .ref a31, .ref a32, .ref a33])), (a00, .inl (T 0, 30, .inl (si 0))), (a01, .inl (T 1, 30, .inr (.inl (sl 0)))), (a02, .inl (T 2, 30, .inr (.inr (.inl (sf 0))))), (a03, .inl (T 3, 30, .inr (.inr (.inr (.inl (sd 0)))))), (a10, .inl (T 0, 30, .inl (si 1))), (a11, .inl (T 1, 30, .inr (.inl (sl 1)))), (a12, .inl (T 2, 30, .inr (.inr (.inl (sf 1))))), (a13, .inl (T 3, 30, .inr (.inr (.inr (.inl (sd 1)))))), (a20, .inl (T 0, 30, .inl (si 2))), (a21, .inl (T 1, 30, .inr (.inl (sl 2)))), (a22, .inl (T 2, 30, .inr (.inr (.inl (sf 2))))), (a23, .inl (T 3, 30, .inr (.inr (.inr (.inl (sd 2)))))), (a30, .inl (T 0, 30, .inl (si 3))), (a31, .inl (T 1, 30, .inr (.inl (sl 3)))), (a32, .inl (T 2, 30, .inr (.inr (.inl (sf 3))))), (a33, .inl (T 3, 30, .inr (.inr (.inr (.inl (sd 3))))))] hP hD rfl
          refine lv_iconst (v := 1) hx hb dX12_sheet_36 (by decide +kernel) ?_
          exact W.iret hx hb hr (fun t ht hW => ⟨⟨_, ((fun k => [(-1), (so 1), (so 2), (so 3)].getD k 0), (fun k => [(sn 0), (sn 1), (sn 2), (sn 3)].getD k 0), (fun k => [(si 0), (si 1), (si 2), (si 3)].getD k (si 0)), (fun k => [(sl 0), (sl 1), (sl 2), (sl 3)].getD k (sl 0)), (fun k => [(sf 0), (sf 1), (sf 2), (sf 3)].getD k (sf 0)), (fun k => [(sd 0), (sd 1), (sd 2), (sd 3)].getD k (sd 0))), rfl, ⟨(by first | decide | (unfold sp_sheet; (repeat' split) <;> first | rfl | (exfalso; omega))), (show (-1 ≤ ((-1) : Int32).toInt ∧ ((-1) : Int32).toInt ≤ 3) ∧ 0 ≤ ((sn 0) : Int32).toInt ∧ ((sn 0) : Int32).toInt ≤ 30 from by simp only [ti_n1]; omega), (show (-1 ≤ ((so 1) : Int32).toInt ∧ ((so 1) : Int32).toInt ≤ 3) ∧ 0 ≤ ((sn 1) : Int32).toInt ∧ ((sn 1) : Int32).toInt ≤ 30 from by omega), (show (-1 ≤ ((so 2) : Int32).toInt ∧ ((so 2) : Int32).toInt ≤ 3) ∧ 0 ≤ ((sn 2) : Int32).toInt ∧ ((sn 2) : Int32).toInt ≤ 30 from by omega), (show (-1 ≤ ((so 3) : Int32).toInt ∧ ((so 3) : Int32).toInt ≤ 3) ∧ 0 ≤ ((sn 3) : Int32).toInt ∧ ((sn 3) : Int32).toInt ≤ 30 from by omega), (all4 (show ((1 : Int32).toInt = 1 → (0 : Int32).toInt = ((0 : Nat) : Int) → ((-1) : Int32).toInt = x2.toInt ∧ (0 ≤ x2.toInt → ((sn 0) : Int32).toInt = x3.toInt)) ∧ (¬ ((1 : Int32).toInt = 1 ∧ (0 : Int32).toInt = ((0 : Nat) : Int)) → ((-1) : Int32).toInt = (so 0).toInt ∧ ((sn 0) : Int32).toInt = (sn 0).toInt) from by have h9c : (0 : Int32).toInt = 0 := (by decide +kernel); have h9r : (1 : Int32).toInt = 1 := (by decide +kernel); have h9n := ti_n1; omega) (show ((1 : Int32).toInt = 1 → (0 : Int32).toInt = ((1 : Nat) : Int) → ((so 1) : Int32).toInt = x2.toInt ∧ (0 ≤ x2.toInt → ((sn 1) : Int32).toInt = x3.toInt)) ∧ (¬ ((1 : Int32).toInt = 1 ∧ (0 : Int32).toInt = ((1 : Nat) : Int)) → ((so 1) : Int32).toInt = (so 1).toInt ∧ ((sn 1) : Int32).toInt = (sn 1).toInt) from by have h9c : (0 : Int32).toInt = 0 := (by decide +kernel); have h9r : (1 : Int32).toInt = 1 := (by decide +kernel); have h9n := ti_n1; omega) (show ((1 : Int32).toInt = 1 → (0 : Int32).toInt = ((2 : Nat) : Int) → ((so 2) : Int32).toInt = x2.toInt ∧ (0 ≤ x2.toInt → ((sn 2) : Int32).toInt = x3.toInt)) ∧ (¬ ((1 : Int32).toInt = 1 ∧ (0 : Int32).toInt = ((2 : Nat) : Int)) → ((so 2) : Int32).toInt = (so 2).toInt ∧ ((sn 2) : Int32).toInt = (sn 2).toInt) from by have h9c : (0 : Int32).toInt = 0 := (by decide +kernel); have h9r : (1 : Int32).toInt = 1 := (by decide +kernel); have h9n := ti_n1; omega) (show ((1 : Int32).toInt = 1 → (0 : Int32).toInt = ((3 : Nat) : Int) → ((so 3) : Int32).toInt = x2.toInt ∧ (0 ≤ x2.toInt → ((sn 3) : Int32).toInt = x3.toInt)) ∧ (¬ ((1 : Int32).toInt = 1 ∧ (0 : Int32).toInt = ((3 : Nat) : Int)) → ((so 3) : Int32).toInt = (so 3).toInt ∧ ((sn 3) : Int32).toInt = (sn 3).toInt) from by have h9c : (0 : Int32).toInt = 0 := (by decide +kernel); have h9r : (1 : Int32).toInt = 1 := (by decide +kernel); have h9n := ti_n1; omega))⟩, by rw [ht]; exact hP.sub [0, 1, 2, 3, 4, 5, 6, 7, 8, 9, 10, 11, 12, 13, 14, 15, 16, 17, 18, 19, 20, 21] rfl, hD.sub [0, 1, 2, 3, 4, 5, 6, 7, 8, 9, 10, 11, 12, 13, 14, 15, 16, 17, 18, 19, 20, 21] (by decide +kernel) rfl⟩, hS.F ht⟩) hS.2.2 dX12_sheet_37
        · refine va_aldq hx hb hE.1 hP 1 6 rfl rfl (by unfold vp_in; decide) dX12_sheet_31 ?_
          refine W.eq (g2 := F0 m 32 ls [.ref t1]) rfl ?_
          refine lv_iconst (v := (-1)) hx hb dX12_sheet_32 (by decide +kernel) ?_
          refine va_put (D := D) (ci := 6) (v := .int (-1)) (ty := .int) (C := RX9) (T := TX9) (N := 6) hx hb hts in_X12_sheet_X9 tyX9 tyX9_ok nmX9 hown hE.1 hP hD hS 3 rfl rfl 0 (by decide +kernel) (hts (.fieldLink RX12 277 "ClauseBook$Sheet" "sort" "I") (List.mem_of_getElem? (i := 2) rfl)) (fun _ h9 => h9) rfl (by decide +kernel) rfl rfl (Nat.le_of_ble_eq_true rfl) dX12_sheet_33 (fun H locs hP hD hS => ?_)
          obtain ⟨hP, hD⟩ := wPD [(h0, .inr (9, fs0)), (h1, .inl (T 6, 4, .inr (.inr (.inr (.inr (va_up (va_up (va_up (va_up (fun _ => none) 0 (some t0)) 1 (some t1)) 2 (some t2)) 3 (some t3))))))), (t0, .inr (6, [.int (so 0), .int (sn 0), .ref a00, .ref a01, .ref a02, .ref a03])), (t1, .inr (6, [.int (-1), .int (sn 1), .ref a10, .ref a11, .ref a12, .ref a13])), (t2, .inr (6, [.int (so 2), .int (sn 2), .ref a20, .ref a21, .ref a22, .ref a23])), (t3, .inr (6, [.int (so 3), .int (sn 3), .ref a30, .ref a31, .ref a32, .ref a33])), (a00, .inl (T 0, 30, .inl (si 0))), (a01, .inl (T 1, 30, .inr (.inl (sl 0)))), (a02, .inl (T 2, 30, .inr (.inr (.inl (sf 0))))), (a03, .inl (T 3, 30, .inr (.inr (.inr (.inl (sd 0)))))), (a10, .inl (T 0, 30, .inl (si 1))), (a11, .inl (T 1, 30, .inr (.inl (sl 1)))), (a12, .inl (T 2, 30, .inr (.inr (.inl (sf 1))))), (a13, .inl (T 3, 30, .inr (.inr (.inr (.inl (sd 1)))))), (a20, .inl (T 0, 30, .inl (si 2))), (a21, .inl (T 1, 30, .inr (.inl (sl 2)))), (a22, .inl (T 2, 30, .inr (.inr (.inl (sf 2))))), (a23, .inl (T 3, 30, .inr (.inr (.inr (.inl (sd 2)))))), (a30, .inl (T 0, 30, .inl (si 3))), (a31, .inl (T 1, 30, .inr (.inl (sl 3)))), (a32, .inl (T 2, 30, .inr (.inr (.inl (sf 3))))), (a33, .inl (T 3, 30, .inr (.inr (.inr (.inl (sd 3))))))] hP hD rfl
          refine lv_iconst (v := 1) hx hb dX12_sheet_36 (by decide +kernel) ?_
          exact W.iret hx hb hr (fun t ht hW => ⟨⟨_, ((fun k => [(so 0), (-1), (so 2), (so 3)].getD k 0), (fun k => [(sn 0), (sn 1), (sn 2), (sn 3)].getD k 0), (fun k => [(si 0), (si 1), (si 2), (si 3)].getD k (si 0)), (fun k => [(sl 0), (sl 1), (sl 2), (sl 3)].getD k (sl 0)), (fun k => [(sf 0), (sf 1), (sf 2), (sf 3)].getD k (sf 0)), (fun k => [(sd 0), (sd 1), (sd 2), (sd 3)].getD k (sd 0))), rfl, ⟨(by first | decide | (unfold sp_sheet; (repeat' split) <;> first | rfl | (exfalso; omega))), (show (-1 ≤ ((so 0) : Int32).toInt ∧ ((so 0) : Int32).toInt ≤ 3) ∧ 0 ≤ ((sn 0) : Int32).toInt ∧ ((sn 0) : Int32).toInt ≤ 30 from by omega), (show (-1 ≤ ((-1) : Int32).toInt ∧ ((-1) : Int32).toInt ≤ 3) ∧ 0 ≤ ((sn 1) : Int32).toInt ∧ ((sn 1) : Int32).toInt ≤ 30 from by simp only [ti_n1]; omega), (show (-1 ≤ ((so 2) : Int32).toInt ∧ ((so 2) : Int32).toInt ≤ 3) ∧ 0 ≤ ((sn 2) : Int32).toInt ∧ ((sn 2) : Int32).toInt ≤ 30 from by omega), (show (-1 ≤ ((so 3) : Int32).toInt ∧ ((so 3) : Int32).toInt ≤ 3) ∧ 0 ≤ ((sn 3) : Int32).toInt ∧ ((sn 3) : Int32).toInt ≤ 30 from by omega), (all4 (show ((1 : Int32).toInt = 1 → (1 : Int32).toInt = ((0 : Nat) : Int) → ((so 0) : Int32).toInt = x2.toInt ∧ (0 ≤ x2.toInt → ((sn 0) : Int32).toInt = x3.toInt)) ∧ (¬ ((1 : Int32).toInt = 1 ∧ (1 : Int32).toInt = ((0 : Nat) : Int)) → ((so 0) : Int32).toInt = (so 0).toInt ∧ ((sn 0) : Int32).toInt = (sn 0).toInt) from by have h9c : (1 : Int32).toInt = 1 := (by decide +kernel); have h9r : (1 : Int32).toInt = 1 := (by decide +kernel); have h9n := ti_n1; omega) (show ((1 : Int32).toInt = 1 → (1 : Int32).toInt = ((1 : Nat) : Int) → ((-1) : Int32).toInt = x2.toInt ∧ (0 ≤ x2.toInt → ((sn 1) : Int32).toInt = x3.toInt)) ∧ (¬ ((1 : Int32).toInt = 1 ∧ (1 : Int32).toInt = ((1 : Nat) : Int)) → ((-1) : Int32).toInt = (so 1).toInt ∧ ((sn 1) : Int32).toInt = (sn 1).toInt) from by have h9c : (1 : Int32).toInt = 1 := (by decide +kernel); have h9r : (1 : Int32).toInt = 1 := (by decide +kernel); have h9n := ti_n1; omega) (show ((1 : Int32).toInt = 1 → (1 : Int32).toInt = ((2 : Nat) : Int) → ((so 2) : Int32).toInt = x2.toInt ∧ (0 ≤ x2.toInt → ((sn 2) : Int32).toInt = x3.toInt)) ∧ (¬ ((1 : Int32).toInt = 1 ∧ (1 : Int32).toInt = ((2 : Nat) : Int)) → ((so 2) : Int32).toInt = (so 2).toInt ∧ ((sn 2) : Int32).toInt = (sn 2).toInt) from by have h9c : (1 : Int32).toInt = 1 := (by decide +kernel); have h9r : (1 : Int32).toInt = 1 := (by decide +kernel); have h9n := ti_n1; omega) (show ((1 : Int32).toInt = 1 → (1 : Int32).toInt = ((3 : Nat) : Int) → ((so 3) : Int32).toInt = x2.toInt ∧ (0 ≤ x2.toInt → ((sn 3) : Int32).toInt = x3.toInt)) ∧ (¬ ((1 : Int32).toInt = 1 ∧ (1 : Int32).toInt = ((3 : Nat) : Int)) → ((so 3) : Int32).toInt = (so 3).toInt ∧ ((sn 3) : Int32).toInt = (sn 3).toInt) from by have h9c : (1 : Int32).toInt = 1 := (by decide +kernel); have h9r : (1 : Int32).toInt = 1 := (by decide +kernel); have h9n := ti_n1; omega))⟩, by rw [ht]; exact hP.sub [0, 1, 2, 3, 4, 5, 6, 7, 8, 9, 10, 11, 12, 13, 14, 15, 16, 17, 18, 19, 20, 21] rfl, hD.sub [0, 1, 2, 3, 4, 5, 6, 7, 8, 9, 10, 11, 12, 13, 14, 15, 16, 17, 18, 19, 20, 21] (by decide +kernel) rfl⟩, hS.F ht⟩) hS.2.2 dX12_sheet_37
        · refine va_aldq hx hb hE.1 hP 1 6 rfl rfl (by unfold vp_in; decide) dX12_sheet_31 ?_
          refine W.eq (g2 := F0 m 32 ls [.ref t2]) rfl ?_
          refine lv_iconst (v := (-1)) hx hb dX12_sheet_32 (by decide +kernel) ?_
          refine va_put (D := D) (ci := 6) (v := .int (-1)) (ty := .int) (C := RX9) (T := TX9) (N := 6) hx hb hts in_X12_sheet_X9 tyX9 tyX9_ok nmX9 hown hE.1 hP hD hS 4 rfl rfl 0 (by decide +kernel) (hts (.fieldLink RX12 277 "ClauseBook$Sheet" "sort" "I") (List.mem_of_getElem? (i := 2) rfl)) (fun _ h9 => h9) rfl (by decide +kernel) rfl rfl (Nat.le_of_ble_eq_true rfl) dX12_sheet_33 (fun H locs hP hD hS => ?_)
          obtain ⟨hP, hD⟩ := wPD [(h0, .inr (9, fs0)), (h1, .inl (T 6, 4, .inr (.inr (.inr (.inr (va_up (va_up (va_up (va_up (fun _ => none) 0 (some t0)) 1 (some t1)) 2 (some t2)) 3 (some t3))))))), (t0, .inr (6, [.int (so 0), .int (sn 0), .ref a00, .ref a01, .ref a02, .ref a03])), (t1, .inr (6, [.int (so 1), .int (sn 1), .ref a10, .ref a11, .ref a12, .ref a13])), (t2, .inr (6, [.int (-1), .int (sn 2), .ref a20, .ref a21, .ref a22, .ref a23])), (t3, .inr (6, [.int (so 3), .int (sn 3), .ref a30, .ref a31, .ref a32, .ref a33])), (a00, .inl (T 0, 30, .inl (si 0))), (a01, .inl (T 1, 30, .inr (.inl (sl 0)))), (a02, .inl (T 2, 30, .inr (.inr (.inl (sf 0))))), (a03, .inl (T 3, 30, .inr (.inr (.inr (.inl (sd 0)))))), (a10, .inl (T 0, 30, .inl (si 1))), (a11, .inl (T 1, 30, .inr (.inl (sl 1)))), (a12, .inl (T 2, 30, .inr (.inr (.inl (sf 1))))), (a13, .inl (T 3, 30, .inr (.inr (.inr (.inl (sd 1)))))), (a20, .inl (T 0, 30, .inl (si 2))), (a21, .inl (T 1, 30, .inr (.inl (sl 2)))), (a22, .inl (T 2, 30, .inr (.inr (.inl (sf 2))))), (a23, .inl (T 3, 30, .inr (.inr (.inr (.inl (sd 2)))))), (a30, .inl (T 0, 30, .inl (si 3))), (a31, .inl (T 1, 30, .inr (.inl (sl 3)))), (a32, .inl (T 2, 30, .inr (.inr (.inl (sf 3))))), (a33, .inl (T 3, 30, .inr (.inr (.inr (.inl (sd 3))))))] hP hD rfl
          refine lv_iconst (v := 1) hx hb dX12_sheet_36 (by decide +kernel) ?_
          exact W.iret hx hb hr (fun t ht hW => ⟨⟨_, ((fun k => [(so 0), (so 1), (-1), (so 3)].getD k 0), (fun k => [(sn 0), (sn 1), (sn 2), (sn 3)].getD k 0), (fun k => [(si 0), (si 1), (si 2), (si 3)].getD k (si 0)), (fun k => [(sl 0), (sl 1), (sl 2), (sl 3)].getD k (sl 0)), (fun k => [(sf 0), (sf 1), (sf 2), (sf 3)].getD k (sf 0)), (fun k => [(sd 0), (sd 1), (sd 2), (sd 3)].getD k (sd 0))), rfl, ⟨(by first | decide | (unfold sp_sheet; (repeat' split) <;> first | rfl | (exfalso; omega))), (show (-1 ≤ ((so 0) : Int32).toInt ∧ ((so 0) : Int32).toInt ≤ 3) ∧ 0 ≤ ((sn 0) : Int32).toInt ∧ ((sn 0) : Int32).toInt ≤ 30 from by omega), (show (-1 ≤ ((so 1) : Int32).toInt ∧ ((so 1) : Int32).toInt ≤ 3) ∧ 0 ≤ ((sn 1) : Int32).toInt ∧ ((sn 1) : Int32).toInt ≤ 30 from by omega), (show (-1 ≤ ((-1) : Int32).toInt ∧ ((-1) : Int32).toInt ≤ 3) ∧ 0 ≤ ((sn 2) : Int32).toInt ∧ ((sn 2) : Int32).toInt ≤ 30 from by simp only [ti_n1]; omega), (show (-1 ≤ ((so 3) : Int32).toInt ∧ ((so 3) : Int32).toInt ≤ 3) ∧ 0 ≤ ((sn 3) : Int32).toInt ∧ ((sn 3) : Int32).toInt ≤ 30 from by omega), (all4 (show ((1 : Int32).toInt = 1 → (2 : Int32).toInt = ((0 : Nat) : Int) → ((so 0) : Int32).toInt = x2.toInt ∧ (0 ≤ x2.toInt → ((sn 0) : Int32).toInt = x3.toInt)) ∧ (¬ ((1 : Int32).toInt = 1 ∧ (2 : Int32).toInt = ((0 : Nat) : Int)) → ((so 0) : Int32).toInt = (so 0).toInt ∧ ((sn 0) : Int32).toInt = (sn 0).toInt) from by have h9c : (2 : Int32).toInt = 2 := (by decide +kernel); have h9r : (1 : Int32).toInt = 1 := (by decide +kernel); have h9n := ti_n1; omega) (show ((1 : Int32).toInt = 1 → (2 : Int32).toInt = ((1 : Nat) : Int) → ((so 1) : Int32).toInt = x2.toInt ∧ (0 ≤ x2.toInt → ((sn 1) : Int32).toInt = x3.toInt)) ∧ (¬ ((1 : Int32).toInt = 1 ∧ (2 : Int32).toInt = ((1 : Nat) : Int)) → ((so 1) : Int32).toInt = (so 1).toInt ∧ ((sn 1) : Int32).toInt = (sn 1).toInt) from by have h9c : (2 : Int32).toInt = 2 := (by decide +kernel); have h9r : (1 : Int32).toInt = 1 := (by decide +kernel); have h9n := ti_n1; omega) (show ((1 : Int32).toInt = 1 → (2 : Int32).toInt = ((2 : Nat) : Int) → ((-1) : Int32).toInt = x2.toInt ∧ (0 ≤ x2.toInt → ((sn 2) : Int32).toInt = x3.toInt)) ∧ (¬ ((1 : Int32).toInt = 1 ∧ (2 : Int32).toInt = ((2 : Nat) : Int)) → ((-1) : Int32).toInt = (so 2).toInt ∧ ((sn 2) : Int32).toInt = (sn 2).toInt) from by have h9c : (2 : Int32).toInt = 2 := (by decide +kernel); have h9r : (1 : Int32).toInt = 1 := (by decide +kernel); have h9n := ti_n1; omega) (show ((1 : Int32).toInt = 1 → (2 : Int32).toInt = ((3 : Nat) : Int) → ((so 3) : Int32).toInt = x2.toInt ∧ (0 ≤ x2.toInt → ((sn 3) : Int32).toInt = x3.toInt)) ∧ (¬ ((1 : Int32).toInt = 1 ∧ (2 : Int32).toInt = ((3 : Nat) : Int)) → ((so 3) : Int32).toInt = (so 3).toInt ∧ ((sn 3) : Int32).toInt = (sn 3).toInt) from by have h9c : (2 : Int32).toInt = 2 := (by decide +kernel); have h9r : (1 : Int32).toInt = 1 := (by decide +kernel); have h9n := ti_n1; omega))⟩, by rw [ht]; exact hP.sub [0, 1, 2, 3, 4, 5, 6, 7, 8, 9, 10, 11, 12, 13, 14, 15, 16, 17, 18, 19, 20, 21] rfl, hD.sub [0, 1, 2, 3, 4, 5, 6, 7, 8, 9, 10, 11, 12, 13, 14, 15, 16, 17, 18, 19, 20, 21] (by decide +kernel) rfl⟩, hS.F ht⟩) hS.2.2 dX12_sheet_37
        · refine va_aldq hx hb hE.1 hP 1 6 rfl rfl (by unfold vp_in; decide) dX12_sheet_31 ?_
          refine W.eq (g2 := F0 m 32 ls [.ref t3]) rfl ?_
          refine lv_iconst (v := (-1)) hx hb dX12_sheet_32 (by decide +kernel) ?_
          refine va_put (D := D) (ci := 6) (v := .int (-1)) (ty := .int) (C := RX9) (T := TX9) (N := 6) hx hb hts in_X12_sheet_X9 tyX9 tyX9_ok nmX9 hown hE.1 hP hD hS 5 rfl rfl 0 (by decide +kernel) (hts (.fieldLink RX12 277 "ClauseBook$Sheet" "sort" "I") (List.mem_of_getElem? (i := 2) rfl)) (fun _ h9 => h9) rfl (by decide +kernel) rfl rfl (Nat.le_of_ble_eq_true rfl) dX12_sheet_33 (fun H locs hP hD hS => ?_)
          obtain ⟨hP, hD⟩ := wPD [(h0, .inr (9, fs0)), (h1, .inl (T 6, 4, .inr (.inr (.inr (.inr (va_up (va_up (va_up (va_up (fun _ => none) 0 (some t0)) 1 (some t1)) 2 (some t2)) 3 (some t3))))))), (t0, .inr (6, [.int (so 0), .int (sn 0), .ref a00, .ref a01, .ref a02, .ref a03])), (t1, .inr (6, [.int (so 1), .int (sn 1), .ref a10, .ref a11, .ref a12, .ref a13])), (t2, .inr (6, [.int (so 2), .int (sn 2), .ref a20, .ref a21, .ref a22, .ref a23])), (t3, .inr (6, [.int (-1), .int (sn 3), .ref a30, .ref a31, .ref a32, .ref a33])), (a00, .inl (T 0, 30, .inl (si 0))), (a01, .inl (T 1, 30, .inr (.inl (sl 0)))), (a02, .inl (T 2, 30, .inr (.inr (.inl (sf 0))))), (a03, .inl (T 3, 30, .inr (.inr (.inr (.inl (sd 0)))))), (a10, .inl (T 0, 30, .inl (si 1))), (a11, .inl (T 1, 30, .inr (.inl (sl 1)))), (a12, .inl (T 2, 30, .inr (.inr (.inl (sf 1))))), (a13, .inl (T 3, 30, .inr (.inr (.inr (.inl (sd 1)))))), (a20, .inl (T 0, 30, .inl (si 2))), (a21, .inl (T 1, 30, .inr (.inl (sl 2)))), (a22, .inl (T 2, 30, .inr (.inr (.inl (sf 2))))), (a23, .inl (T 3, 30, .inr (.inr (.inr (.inl (sd 2)))))), (a30, .inl (T 0, 30, .inl (si 3))), (a31, .inl (T 1, 30, .inr (.inl (sl 3)))), (a32, .inl (T 2, 30, .inr (.inr (.inl (sf 3))))), (a33, .inl (T 3, 30, .inr (.inr (.inr (.inl (sd 3))))))] hP hD rfl
          refine lv_iconst (v := 1) hx hb dX12_sheet_36 (by decide +kernel) ?_
          exact W.iret hx hb hr (fun t ht hW => ⟨⟨_, ((fun k => [(so 0), (so 1), (so 2), (-1)].getD k 0), (fun k => [(sn 0), (sn 1), (sn 2), (sn 3)].getD k 0), (fun k => [(si 0), (si 1), (si 2), (si 3)].getD k (si 0)), (fun k => [(sl 0), (sl 1), (sl 2), (sl 3)].getD k (sl 0)), (fun k => [(sf 0), (sf 1), (sf 2), (sf 3)].getD k (sf 0)), (fun k => [(sd 0), (sd 1), (sd 2), (sd 3)].getD k (sd 0))), rfl, ⟨(by first | decide | (unfold sp_sheet; (repeat' split) <;> first | rfl | (exfalso; omega))), (show (-1 ≤ ((so 0) : Int32).toInt ∧ ((so 0) : Int32).toInt ≤ 3) ∧ 0 ≤ ((sn 0) : Int32).toInt ∧ ((sn 0) : Int32).toInt ≤ 30 from by omega), (show (-1 ≤ ((so 1) : Int32).toInt ∧ ((so 1) : Int32).toInt ≤ 3) ∧ 0 ≤ ((sn 1) : Int32).toInt ∧ ((sn 1) : Int32).toInt ≤ 30 from by omega), (show (-1 ≤ ((so 2) : Int32).toInt ∧ ((so 2) : Int32).toInt ≤ 3) ∧ 0 ≤ ((sn 2) : Int32).toInt ∧ ((sn 2) : Int32).toInt ≤ 30 from by omega), (show (-1 ≤ ((-1) : Int32).toInt ∧ ((-1) : Int32).toInt ≤ 3) ∧ 0 ≤ ((sn 3) : Int32).toInt ∧ ((sn 3) : Int32).toInt ≤ 30 from by simp only [ti_n1]; omega), (all4 (show ((1 : Int32).toInt = 1 → (3 : Int32).toInt = ((0 : Nat) : Int) → ((so 0) : Int32).toInt = x2.toInt ∧ (0 ≤ x2.toInt → ((sn 0) : Int32).toInt = x3.toInt)) ∧ (¬ ((1 : Int32).toInt = 1 ∧ (3 : Int32).toInt = ((0 : Nat) : Int)) → ((so 0) : Int32).toInt = (so 0).toInt ∧ ((sn 0) : Int32).toInt = (sn 0).toInt) from by have h9c : (3 : Int32).toInt = 3 := (by decide +kernel); have h9r : (1 : Int32).toInt = 1 := (by decide +kernel); have h9n := ti_n1; omega) (show ((1 : Int32).toInt = 1 → (3 : Int32).toInt = ((1 : Nat) : Int) → ((so 1) : Int32).toInt = x2.toInt ∧ (0 ≤ x2.toInt → ((sn 1) : Int32).toInt = x3.toInt)) ∧ (¬ ((1 : Int32).toInt = 1 ∧ (3 : Int32).toInt = ((1 : Nat) : Int)) → ((so 1) : Int32).toInt = (so 1).toInt ∧ ((sn 1) : Int32).toInt = (sn 1).toInt) from by have h9c : (3 : Int32).toInt = 3 := (by decide +kernel); have h9r : (1 : Int32).toInt = 1 := (by decide +kernel); have h9n := ti_n1; omega) (show ((1 : Int32).toInt = 1 → (3 : Int32).toInt = ((2 : Nat) : Int) → ((so 2) : Int32).toInt = x2.toInt ∧ (0 ≤ x2.toInt → ((sn 2) : Int32).toInt = x3.toInt)) ∧ (¬ ((1 : Int32).toInt = 1 ∧ (3 : Int32).toInt = ((2 : Nat) : Int)) → ((so 2) : Int32).toInt = (so 2).toInt ∧ ((sn 2) : Int32).toInt = (sn 2).toInt) from by have h9c : (3 : Int32).toInt = 3 := (by decide +kernel); have h9r : (1 : Int32).toInt = 1 := (by decide +kernel); have h9n := ti_n1; omega) (show ((1 : Int32).toInt = 1 → (3 : Int32).toInt = ((3 : Nat) : Int) → ((-1) : Int32).toInt = x2.toInt ∧ (0 ≤ x2.toInt → ((sn 3) : Int32).toInt = x3.toInt)) ∧ (¬ ((1 : Int32).toInt = 1 ∧ (3 : Int32).toInt = ((3 : Nat) : Int)) → ((-1) : Int32).toInt = (so 3).toInt ∧ ((sn 3) : Int32).toInt = (sn 3).toInt) from by have h9c : (3 : Int32).toInt = 3 := (by decide +kernel); have h9r : (1 : Int32).toInt = 1 := (by decide +kernel); have h9n := ti_n1; omega))⟩, by rw [ht]; exact hP.sub [0, 1, 2, 3, 4, 5, 6, 7, 8, 9, 10, 11, 12, 13, 14, 15, 16, 17, 18, 19, 20, 21] rfl, hD.sub [0, 1, 2, 3, 4, 5, 6, 7, 8, 9, 10, 11, 12, 13, 14, 15, 16, 17, 18, 19, 20, 21] (by decide +kernel) rfl⟩, hS.F ht⟩) hS.2.2 dX12_sheet_37
    · refine lv_if_ne (tgt := 21) hx hb dX12_sheet_15 (by decide +kernel) (fun c9 => absurd c9 (by decide +kernel)) (fun _ => ?_)
      refine lv_bipush (v := (-2)) hx hb dX12_sheet_18 (by decide +kernel) ?_
      exact W.iret hx hb hr (fun t ht hW => ⟨⟨_, ((fun k => [(so 0), (so 1), (so 2), (so 3)].getD k 0), (fun k => [(sn 0), (sn 1), (sn 2), (sn 3)].getD k 0), (fun k => [(si 0), (si 1), (si 2), (si 3)].getD k (si 0)), (fun k => [(sl 0), (sl 1), (sl 2), (sl 3)].getD k (sl 0)), (fun k => [(sf 0), (sf 1), (sf 2), (sf 3)].getD k (sf 0)), (fun k => [(sd 0), (sd 1), (sd 2), (sd 3)].getD k (sd 0))), rfl, ⟨(by first | decide | (unfold sp_sheet; (repeat' split) <;> first | rfl | (exfalso; omega))), (show (-1 ≤ ((so 0) : Int32).toInt ∧ ((so 0) : Int32).toInt ≤ 3) ∧ 0 ≤ ((sn 0) : Int32).toInt ∧ ((sn 0) : Int32).toInt ≤ 30 from by omega), (show (-1 ≤ ((so 1) : Int32).toInt ∧ ((so 1) : Int32).toInt ≤ 3) ∧ 0 ≤ ((sn 1) : Int32).toInt ∧ ((sn 1) : Int32).toInt ≤ 30 from by omega), (show (-1 ≤ ((so 2) : Int32).toInt ∧ ((so 2) : Int32).toInt ≤ 3) ∧ 0 ≤ ((sn 2) : Int32).toInt ∧ ((sn 2) : Int32).toInt ≤ 30 from by omega), (show (-1 ≤ ((so 3) : Int32).toInt ∧ ((so 3) : Int32).toInt ≤ 3) ∧ 0 ≤ ((sn 3) : Int32).toInt ∧ ((sn 3) : Int32).toInt ≤ 30 from by omega), (all4 (show (((-2) : Int32).toInt = 1 → x1.toInt = ((0 : Nat) : Int) → ((so 0) : Int32).toInt = x2.toInt ∧ (0 ≤ x2.toInt → ((sn 0) : Int32).toInt = x3.toInt)) ∧ (¬ (((-2) : Int32).toInt = 1 ∧ x1.toInt = ((0 : Nat) : Int)) → ((so 0) : Int32).toInt = (so 0).toInt ∧ ((sn 0) : Int32).toInt = (sn 0).toInt) from by have h9r : ((-2) : Int32).toInt = -2 := (by decide +kernel); have h9n := ti_n1; omega) (show (((-2) : Int32).toInt = 1 → x1.toInt = ((1 : Nat) : Int) → ((so 1) : Int32).toInt = x2.toInt ∧ (0 ≤ x2.toInt → ((sn 1) : Int32).toInt = x3.toInt)) ∧ (¬ (((-2) : Int32).toInt = 1 ∧ x1.toInt = ((1 : Nat) : Int)) → ((so 1) : Int32).toInt = (so 1).toInt ∧ ((sn 1) : Int32).toInt = (sn 1).toInt) from by have h9r : ((-2) : Int32).toInt = -2 := (by decide +kernel); have h9n := ti_n1; omega) (show (((-2) : Int32).toInt = 1 → x1.toInt = ((2 : Nat) : Int) → ((so 2) : Int32).toInt = x2.toInt ∧ (0 ≤ x2.toInt → ((sn 2) : Int32).toInt = x3.toInt)) ∧ (¬ (((-2) : Int32).toInt = 1 ∧ x1.toInt = ((2 : Nat) : Int)) → ((so 2) : Int32).toInt = (so 2).toInt ∧ ((sn 2) : Int32).toInt = (sn 2).toInt) from by have h9r : ((-2) : Int32).toInt = -2 := (by decide +kernel); have h9n := ti_n1; omega) (show (((-2) : Int32).toInt = 1 → x1.toInt = ((3 : Nat) : Int) → ((so 3) : Int32).toInt = x2.toInt ∧ (0 ≤ x2.toInt → ((sn 3) : Int32).toInt = x3.toInt)) ∧ (¬ (((-2) : Int32).toInt = 1 ∧ x1.toInt = ((3 : Nat) : Int)) → ((so 3) : Int32).toInt = (so 3).toInt ∧ ((sn 3) : Int32).toInt = (sn 3).toInt) from by have h9r : ((-2) : Int32).toInt = -2 := (by decide +kernel); have h9n := ti_n1; omega))⟩, by rw [ht]; exact hP.sub [0, 1, 2, 3, 4, 5, 6, 7, 8, 9, 10, 11, 12, 13, 14, 15, 16, 17, 18, 19, 20, 21] rfl, hD.sub [0, 1, 2, 3, 4, 5, 6, 7, 8, 9, 10, 11, 12, 13, 14, 15, 16, 17, 18, 19, 20, 21] (by decide +kernel) rfl⟩, hS.F ht⟩) hS.2.2 dX12_sheet_20
  · refine lv_if_eq (tgt := 18) hx hb dX12_sheet_6 (by decide +kernel) (fun _ => ?_) (fun c9 => absurd c9 (by decide +kernel))
    refine lv_bipush (v := (-2)) hx hb dX12_sheet_18 (by decide +kernel) ?_
    exact W.iret hx hb hr (fun t ht hW => ⟨⟨_, ((fun k => [(so 0), (so 1), (so 2), (so 3)].getD k 0), (fun k => [(sn 0), (sn 1), (sn 2), (sn 3)].getD k 0), (fun k => [(si 0), (si 1), (si 2), (si 3)].getD k (si 0)), (fun k => [(sl 0), (sl 1), (sl 2), (sl 3)].getD k (sl 0)), (fun k => [(sf 0), (sf 1), (sf 2), (sf 3)].getD k (sf 0)), (fun k => [(sd 0), (sd 1), (sd 2), (sd 3)].getD k (sd 0))), rfl, ⟨(by first | decide | (unfold sp_sheet; (repeat' split) <;> first | rfl | (exfalso; omega))), (show (-1 ≤ ((so 0) : Int32).toInt ∧ ((so 0) : Int32).toInt ≤ 3) ∧ 0 ≤ ((sn 0) : Int32).toInt ∧ ((sn 0) : Int32).toInt ≤ 30 from by omega), (show (-1 ≤ ((so 1) : Int32).toInt ∧ ((so 1) : Int32).toInt ≤ 3) ∧ 0 ≤ ((sn 1) : Int32).toInt ∧ ((sn 1) : Int32).toInt ≤ 30 from by omega), (show (-1 ≤ ((so 2) : Int32).toInt ∧ ((so 2) : Int32).toInt ≤ 3) ∧ 0 ≤ ((sn 2) : Int32).toInt ∧ ((sn 2) : Int32).toInt ≤ 30 from by omega), (show (-1 ≤ ((so 3) : Int32).toInt ∧ ((so 3) : Int32).toInt ≤ 3) ∧ 0 ≤ ((sn 3) : Int32).toInt ∧ ((sn 3) : Int32).toInt ≤ 30 from by omega), (all4 (show (((-2) : Int32).toInt = 1 → x1.toInt = ((0 : Nat) : Int) → ((so 0) : Int32).toInt = x2.toInt ∧ (0 ≤ x2.toInt → ((sn 0) : Int32).toInt = x3.toInt)) ∧ (¬ (((-2) : Int32).toInt = 1 ∧ x1.toInt = ((0 : Nat) : Int)) → ((so 0) : Int32).toInt = (so 0).toInt ∧ ((sn 0) : Int32).toInt = (sn 0).toInt) from by have h9r : ((-2) : Int32).toInt = -2 := (by decide +kernel); have h9n := ti_n1; omega) (show (((-2) : Int32).toInt = 1 → x1.toInt = ((1 : Nat) : Int) → ((so 1) : Int32).toInt = x2.toInt ∧ (0 ≤ x2.toInt → ((sn 1) : Int32).toInt = x3.toInt)) ∧ (¬ (((-2) : Int32).toInt = 1 ∧ x1.toInt = ((1 : Nat) : Int)) → ((so 1) : Int32).toInt = (so 1).toInt ∧ ((sn 1) : Int32).toInt = (sn 1).toInt) from by have h9r : ((-2) : Int32).toInt = -2 := (by decide +kernel); have h9n := ti_n1; omega) (show (((-2) : Int32).toInt = 1 → x1.toInt = ((2 : Nat) : Int) → ((so 2) : Int32).toInt = x2.toInt ∧ (0 ≤ x2.toInt → ((sn 2) : Int32).toInt = x3.toInt)) ∧ (¬ (((-2) : Int32).toInt = 1 ∧ x1.toInt = ((2 : Nat) : Int)) → ((so 2) : Int32).toInt = (so 2).toInt ∧ ((sn 2) : Int32).toInt = (sn 2).toInt) from by have h9r : ((-2) : Int32).toInt = -2 := (by decide +kernel); have h9n := ti_n1; omega) (show (((-2) : Int32).toInt = 1 → x1.toInt = ((3 : Nat) : Int) → ((so 3) : Int32).toInt = x2.toInt ∧ (0 ≤ x2.toInt → ((sn 3) : Int32).toInt = x3.toInt)) ∧ (¬ (((-2) : Int32).toInt = 1 ∧ x1.toInt = ((3 : Nat) : Int)) → ((so 3) : Int32).toInt = (so 3).toInt ∧ ((sn 3) : Int32).toInt = (sn 3).toInt) from by have h9r : ((-2) : Int32).toInt = -2 := (by decide +kernel); have h9n := ti_n1; omega))⟩, by rw [ht]; exact hP.sub [0, 1, 2, 3, 4, 5, 6, 7, 8, 9, 10, 11, 12, 13, 14, 15, 16, 17, 18, 19, 20, 21] rfl, hD.sub [0, 1, 2, 3, 4, 5, 6, 7, 8, 9, 10, 11, 12, 13, 14, 15, 16, 17, 18, 19, 20, 21] (by decide +kernel) rfl⟩, hS.F ht⟩) hS.2.2 dX12_sheet_20
end
section
theorem dX12_placeFault_0 : decode cX12_placeFault 0 = .ok (.iload_n 1, 1) := by decide +kernel
theorem dX12_placeFault_1 : decode cX12_placeFault 1 = .ok (.iconst 0, 1) := by decide +kernel
theorem dX12_placeFault_11 : decode cX12_placeFault 11 = .ok (.ireturn, 1) := by decide +kernel
theorem dX12_placeFault_12 : decode cX12_placeFault 12 = .ok (.aload_n 0, 1) := by decide +kernel
theorem dX12_placeFault_13 : decode cX12_placeFault 13 = .ok (.getfield 65, 3) := by decide +kernel
theorem dX12_placeFault_16 : decode cX12_placeFault 16 = .ok (.iload_n 1, 1) := by decide +kernel
theorem dX12_placeFault_17 : decode cX12_placeFault 17 = .ok (.aaload, 1) := by decide +kernel
theorem dX12_placeFault_18 : decode cX12_placeFault 18 = .ok (.getfield 277, 3) := by decide +kernel
theorem dX12_placeFault_2 : decode cX12_placeFault 2 = .ok (.iconst 3, 1) := by decide +kernel
theorem dX12_placeFault_21 : decode cX12_placeFault 21 = .ok (.iconst (-1), 1) := by decide +kernel
theorem dX12_placeFault_22 : decode cX12_placeFault 22 = .ok (.if_icmp .ne 6, 3) := by decide +kernel
theorem dX12_placeFault_25 : decode cX12_placeFault 25 = .ok (.bipush (-11), 2) := by decide +kernel
theorem dX12_placeFault_27 : decode cX12_placeFault 27 = .ok (.ireturn, 1) := by decide +kernel
theorem dX12_placeFault_28 : decode cX12_placeFault 28 = .ok (.iload_n 2, 1) := by decide +kernel
theorem dX12_placeFault_29 : decode cX12_placeFault 29 = .ok (.iconst 0, 1) := by decide +kernel
theorem dX12_placeFault_3 : decode cX12_placeFault 3 = .ok (.invokestatic 77, 3) := by decide +kernel
theorem dX12_placeFault_30 : decode cX12_placeFault 30 = .ok (.aload_n 0, 1) := by decide +kernel
theorem dX12_placeFault_31 : decode cX12_placeFault 31 = .ok (.getfield 65, 3) := by decide +kernel
theorem dX12_placeFault_34 : decode cX12_placeFault 34 = .ok (.iload_n 1, 1) := by decide +kernel
theorem dX12_placeFault_35 : decode cX12_placeFault 35 = .ok (.aaload, 1) := by decide +kernel
theorem dX12_placeFault_36 : decode cX12_placeFault 36 = .ok (.getfield 280, 3) := by decide +kernel
theorem dX12_placeFault_39 : decode cX12_placeFault 39 = .ok (.iconst 1, 1) := by decide +kernel
theorem dX12_placeFault_40 : decode cX12_placeFault 40 = .ok (.isub, 1) := by decide +kernel
theorem dX12_placeFault_41 : decode cX12_placeFault 41 = .ok (.invokestatic 77, 3) := by decide +kernel
theorem dX12_placeFault_44 : decode cX12_placeFault 44 = .ok (.ifCond .eq 7, 3) := by decide +kernel
theorem dX12_placeFault_47 : decode cX12_placeFault 47 = .ok (.iconst 0, 1) := by decide +kernel
theorem dX12_placeFault_48 : decode cX12_placeFault 48 = .ok (.goto 5, 3) := by decide +kernel
theorem dX12_placeFault_51 : decode cX12_placeFault 51 = .ok (.bipush (-12), 2) := by decide +kernel
theorem dX12_placeFault_53 : decode cX12_placeFault 53 = .ok (.ireturn, 1) := by decide +kernel
theorem dX12_placeFault_6 : decode cX12_placeFault 6 = .ok (.ifCond .ne 6, 3) := by decide +kernel
theorem dX12_placeFault_9 : decode cX12_placeFault 9 = .ok (.bipush (-2), 2) := by decide +kernel
set_option maxRecDepth 20000 in
theorem ggX12_placeFault_X12_within : GoodIn wsX12_placeFault wsX12_within := goodIn_r _ [7] rfl (by decide +kernel)
set_option maxRecDepth 20000 in
theorem gX12_placeFault_X12_within : GoodIn wsX12_placeFault (va_wsS RX12 77 yX12_within wsX12_within) := goodIn_app (goodIn_of _ (by decide +kernel)) ggX12_placeFault_X12_within
set_option maxRecDepth 20000 in
theorem in_X12_placeFault_X12 : ∀ w ∈ wsX120, w ∈ wsX12_placeFault := sub_r [8, 9, 10, 11, 12, 13, 14, 15, 16, 17, 18] rfl
set_option maxRecDepth 20000 in
theorem in_X12_placeFault_X9 : ∀ w ∈ wsX90, w ∈ wsX12_placeFault := sub_r [19, 20, 21, 22, 23, 24] rfl
set_option maxHeartbeats 4000000 in
set_option maxRecDepth 100000 in
theorem c_X12_placeFault (l : Launch) (D : va_G) (T : Nat → ClassId) (h0 : Nat) (fs0 : List Value) (h1 : Nat) (f1 : Nat → Option Nat) (h2 : Nat) (fs2 : List Value) (h3 : Nat) (fs3 : List Value) (h4 : Nat) (fs4 : List Value) (h5 : Nat) (fs5 : List Value) (x1 : Int32) (x2 : Int32) (so : Nat → Int32) (sn : Nat → Int32) (e0_9 : fs0[9]? = some (.ref h1)) (e1_0 : f1 0 = some h2) (e1_1 : f1 1 = some h3) (e1_2 : f1 2 = some h4) (e1_3 : f1 3 = some h5) (e2_0 : fs2[0]? = some (.int (so 0))) (e2_1 : fs2[1]? = some (.int (sn 0))) (e3_0 : fs3[0]? = some (.int (so 1))) (e3_1 : fs3[1]? = some (.int (sn 1))) (e4_0 : fs4[0]? = some (.int (so 2))) (e4_1 : fs4[1]? = some (.int (sn 2))) (e5_0 : fs5[0]? = some (.int (so 3))) (e5_1 : fs5[1]? = some (.int (sn 3))) (hn0 : 0 ≤ (sn 0).toInt ∧ (sn 0).toInt ≤ 30) (hn1 : 0 ≤ (sn 1).toInt ∧ (sn 1).toInt ≤ 30) (hn2 : 0 ≤ (sn 2).toInt ∧ (sn 2).toInt ≤ 30) (hn3 : 0 ≤ (sn 3).toInt ∧ (sn 3).toInt ≤ 30) : Met l yX12_placeFault wsX12_placeFault ({ frames := 1, cells := 0, slots := 0, locals := 22 }) (pR [.ref h0, .int x1, .int x2] D T [(h0, .inr (9, fs0)), (h1, .inl (T 6, 4, .inr (.inr (.inr (.inr f1))))), (h2, .inr (6, fs2)), (h3, .inr (6, fs3)), (h4, .inr (6, fs4)), (h5, .inr (6, fs5))]) (vp_Si (fun r => (r.toInt = 0 → (0 ≤ x1.toInt ∧ x1.toInt ≤ 3) ∧ 0 ≤ x2.toInt ∧ x2.toInt < 30) ∧ (¬ (0 ≤ x1.toInt ∧ x1.toInt ≤ 3) → r.toInt = -2) ∧ ((0 ≤ x1.toInt ∧ x1.toInt ≤ 3) → ((so (x1.toNatClampNeg)).toInt = -1 → r.toInt = -11) ∧ (¬ (so (x1.toNatClampNeg)).toInt = -1 → ((0 ≤ x2.toInt ∧ x2.toInt < (sn (x1.toNatClampNeg)).toInt) → r.toInt = 0) ∧ (¬ (0 ≤ x2.toInt ∧ x2.toInt < (sn (x1.toNatClampNeg)).toInt) → r.toInt = -12))))) 0 0 (fun _ => False) := by
  refine Met.ofW (cc := cX12_placeFault) (maxL := 3) (ret := (some .int)) (by decide +kernel) rfl ?_
  intro p e s m args below meth c s₁ B hml hv
  obtain ⟨rfl, hP, hE⟩ := hv
  have hx := B.exec
  have hb := B.bytes
  have hr := B.returns
  have hts := atoms_spec (ws := wsX12_placeFault) B.pre
  have hown : s.vm.findClass RX12 = some m.cls := findClass_of_methodNamed B.named
  have hlocks := B.notSynchronized
  have hP : va_P D vwCl [(h0, .inr (9, fs0)), (h1, .inl (T 6, 4, .inr (.inr (.inr (.inr f1))))), (h2, .inr (6, fs2)), (h3, .inr (6, fs3)), (h4, .inr (6, fs4)), (h5, .inr (6, fs5))] s.heap := hP
  have hl := lv_entry ([.ref h0, .int x1, .int x2]) (n := 3) (Nat.le_of_ble_eq_true rfl)
  rw [lg_entry_eq]
  generalize (lg_sl ([.ref h0, .int x1, .int x2]) ++ List.replicate (3 - (lg_sl ([.ref h0, .int x1, .int x2])).length) Slot.unset).toArray = ls at hl ⊢
  have hl : lv_has ls 3 [(0, .ref h0), (1, .int x1), (2, .int x2)] := hl
  have hd0 := dec1 (i := (sn 0)) (by omega)
  have hd1 := dec1 (i := (sn 1)) (by omega)
  have hd2 := dec1 (i := (sn 2)) (by omega)
  have hd3 := dec1 (i := (sn 3)) (by omega)
  refine lv_iload_n hx hb dX12_placeFault_0 rfl (lv_at hl 1 rfl) ?_
  refine lv_iconst (v := 0) hx hb dX12_placeFault_1 (by decide +kernel) ?_
  refine lv_iconst (v := 3) hx hb dX12_placeFault_2 (by decide +kernel) ?_
  refine vp_callSi (W.runS (As := [.int x1, .int 0, .int 3]) (rest := []) ⟨hx, hb, hml, hown, hts⟩ (c_X12_within l D T x1 0 3 0 3 (by decide +kernel) (by decide +kernel)) (va_cwS 3 hts gX12_placeFault_X12_within rfl rfl rfl hs_X12_within ⟨Nat.le_of_ble_eq_true rfl, Nat.le_of_ble_eq_true rfl⟩) (pR_S hP hE [] rfl) rfl rfl hl.1 rfl (lv_room (Nat.le_of_ble_eq_true rfl)) dX12_placeFault_3 ⟨Nat.le_of_ble_eq_true rfl, Nat.le_of_ble_eq_true rfl⟩) (fun r_1 hr_1 => ?_)
  rcases bool_post hr_1 with ⟨c_2, rfl⟩ | ⟨c_2, rfl⟩
  · refine lv_if_ne (tgt := 12) hx hb dX12_placeFault_6 (by decide +kernel) (fun _ => ?_) (fun c9 => absurd c9 (by decide +kernel))
    refine lv_aload_n hx hb dX12_placeFault_12 rfl (lv_at hl 0 rfl) ?_
    refine va_get (D := D) (ci := 9) (v := .ref h1) (C := RX12) (T := TX12) (N := 11) hx hb hts in_X12_placeFault_X12 hown hE.1 hP 0 rfl rfl 9 (by decide +kernel) (hts (.fieldLink RX12 65 "ClauseBook" "sheets" "[LClauseBook$Sheet;") (List.mem_of_getElem? (i := 1) rfl)) (fun _ h9 => h9) e0_9 dX12_placeFault_13 ?_
    refine lv_iload_n hx hb dX12_placeFault_16 rfl (lv_at hl 1 rfl) ?_
    rcases in4 (x := x1) (by omega) with rfl | rfl | rfl | rfl
    · have h9t := ti_0
      refine va_aldq hx hb hE.1 hP 1 6 rfl rfl (by unfold vp_in; decide) dX12_placeFault_17 ?_
      refine W.eq (g2 := F0 m 18 ls [.ref h2]) (by rw [show (0 : Int32).toNatClampNeg = 0 from rfl, e1_0]; rfl) ?_
      refine va_get (D := D) (ci := 6) (v := .int (so 0)) (C := RX9) (T := TX9) (N := 6) hx hb hts in_X12_placeFault_X9 hown hE.1 hP 2 rfl rfl 0 (by decide +kernel) (hts (.fieldLink RX12 277 "ClauseBook$Sheet" "sort" "I") (List.mem_of_getElem? (i := 2) rfl)) (fun _ h9 => h9) e2_0 dX12_placeFault_18 ?_
      refine lv_iconst (v := (-1)) hx hb dX12_placeFault_21 (by decide +kernel) ?_
      refine lv_icmp_ne (tgt := 28) hx hb dX12_placeFault_22 (by decide +kernel) (fun c_3 => ?_) (fun c_3 => ?_)
      · rw [fa_eq] at c_3
        try rw [ti_n1] at c_3
        refine lv_iload_n hx hb dX12_placeFault_28 rfl (lv_at hl 2 rfl) ?_
        refine lv_iconst (v := 0) hx hb dX12_placeFault_29 (by decide +kernel) ?_
        refine lv_aload_n hx hb dX12_placeFault_30 rfl (lv_at hl 0 rfl) ?_
        refine va_get (D := D) (ci := 9) (v := .ref h1) (C := RX12) (T := TX12) (N := 11) hx hb hts in_X12_placeFault_X12 hown hE.1 hP 0 rfl rfl 9 (by decide +kernel) (hts (.fieldLink RX12 65 "ClauseBook" "sheets" "[LClauseBook$Sheet;") (List.mem_of_getElem? (i := 1) rfl)) (fun _ h9 => h9) e0_9 dX12_placeFault_31 ?_
        refine lv_iload_n hx hb dX12_placeFault_34 rfl (lv_at hl 1 rfl) ?_
        refine va_aldq hx hb hE.1 hP 1 6 rfl rfl (by unfold vp_in; decide) dX12_placeFault_35 ?_
        refine W.eq (g2 := F0 m 36 ls [.ref h2, .int 0, .int x2]) (by rw [show (0 : Int32).toNatClampNeg = 0 from rfl, e1_0]; rfl) ?_
        refine va_get (D := D) (ci := 6) (v := .int (sn 0)) (C := RX9) (T := TX9) (N := 6) hx hb hts in_X12_placeFault_X9 hown hE.1 hP 2 rfl rfl 1 (by decide +kernel) (hts (.fieldLink RX12 280 "ClauseBook$Sheet" "size" "I") (List.mem_of_getElem? (i := 3) rfl)) (fun _ h9 => h9) e2_1 dX12_placeFault_36 ?_
        refine lv_iconst (v := 1) hx hb dX12_placeFault_39 (by decide +kernel) ?_
        refine lv_isub hx hb dX12_placeFault_40 ?_
        refine vp_callSi (W.runS (As := [.int x2, .int 0, .int ((sn 0) - 1)]) (rest := []) ⟨hx, hb, hml, hown, hts⟩ (c_X12_within l D T x2 0 ((sn 0) - 1) 0 (((sn 0) - 1)).toInt (by decide +kernel) rfl) (va_cwS 3 hts gX12_placeFault_X12_within rfl rfl rfl hs_X12_within ⟨Nat.le_of_ble_eq_true rfl, Nat.le_of_ble_eq_true rfl⟩) (pR_S hP hE [] rfl) rfl rfl hl.1 rfl (lv_room (Nat.le_of_ble_eq_true rfl)) dX12_placeFault_41 ⟨Nat.le_of_ble_eq_true rfl, Nat.le_of_ble_eq_true rfl⟩) (fun r_4 hr_4 => ?_)
        rcases bool_post hr_4 with ⟨c_5, rfl⟩ | ⟨c_5, rfl⟩
        · refine lv_if_eq (tgt := 51) hx hb dX12_placeFault_44 (by decide +kernel) (fun c9 => absurd c9 (by decide +kernel)) (fun _ => ?_)
          refine lv_iconst (v := 0) hx hb dX12_placeFault_47 (by decide +kernel) ?_
          refine lv_goto (tgt := 53) hx hb dX12_placeFault_48 (by decide +kernel) ?_
          exact W.iret hx hb hr (fun t ht hW => ⟨_, rfl, ⟨(fun _ => by omega), (by (try dsimp only); have h9a1 : (so ((0 : Int32).toNatClampNeg)).toInt = (so 0).toInt := rfl; have h9b1 : (sn ((0 : Int32).toNatClampNeg)).toInt = (sn 0).toInt := rfl; have h9c1 : (0 : Int32).toInt = 0 := (by decide +kernel); have h9r : (0 : Int32).toInt = 0 := (by decide +kernel); omega)⟩, ht⟩) (fun _ h => by cases h) dX12_placeFault_53
        · refine lv_if_eq (tgt := 51) hx hb dX12_placeFault_44 (by decide +kernel) (fun _ => ?_) (fun c9 => absurd c9 (by decide +kernel))
          refine lv_bipush (v := (-12)) hx hb dX12_placeFault_51 (by decide +kernel) ?_
          exact W.iret hx hb hr (fun t ht hW => ⟨_, rfl, ⟨(fun h9 => absurd h9 (by decide +kernel)), (by (try dsimp only); have h9a1 : (so ((0 : Int32).toNatClampNeg)).toInt = (so 0).toInt := rfl; have h9b1 : (sn ((0 : Int32).toNatClampNeg)).toInt = (sn 0).toInt := rfl; have h9c1 : (0 : Int32).toInt = 0 := (by decide +kernel); have h9r : ((-12) : Int32).toInt = -12 := (by decide +kernel); omega)⟩, ht⟩) (fun _ h => by cases h) dX12_placeFault_53
      · rw [fa_eq] at c_3
        try rw [ti_n1] at c_3
        refine lv_bipush (v := (-11)) hx hb dX12_placeFault_25 (by decide +kernel) ?_
        exact W.iret hx hb hr (fun t ht hW => ⟨_, rfl, ⟨(fun h9 => absurd h9 (by decide +kernel)), (by (try dsimp only); have h9a1 : (so ((0 : Int32).toNatClampNeg)).toInt = (so 0).toInt := rfl; have h9b1 : (sn ((0 : Int32).toNatClampNeg)).toInt = (sn 0).toInt := rfl; have h9c1 : (0 : Int32).toInt = 0 := (by decide +kernel); have h9r : ((-11) : Int32).toInt = -11 := (by decide +kernel); omega)⟩, ht⟩) (fun _ h => by cases h) dX12_placeFault_27
    · have h9t := ti_1
      refine va_aldq hx hb hE.1 hP 1 6 rfl rfl (by unfold vp_in; decide) dX12_placeFault_17 ?_
      refine W.eq (g2 := F0 m 18 ls [.ref h3]) (by rw [show (1 : Int32).toNatClampNeg = 1 from rfl, e1_1]; rfl) ?_
      refine va_get (D := D) (ci := 6) (v := .int (so 1)) (C := RX9) (T := TX9) (N := 6) hx hb hts in_X12_placeFault_X9 hown hE.1 hP 3 rfl rfl 0 (by decide +kernel) (hts (.fieldLink RX12 277 "ClauseBook$Sheet" "sort" "I") (List.mem_of_getElem? (i := 2) rfl)) (fun _ h9 => h9) e3_0 dX12_placeFault_18 ?_
      refine lv_iconst (v := (-1)) hx hb dX12_placeFault_21 (by decide +kernel) ?_
      refine lv_icmp_ne (tgt := 28) hx hb dX12_placeFault_22 (by decide +kernel) (fun c_6 => ?_) (fun c_6 => ?_)
      · rw [fa_eq] at c_6
        try rw [ti_n1] at c_6
        refine lv_iload_n hx hb dX12_placeFault_28 rfl (lv_at hl 2 rfl) ?_
        refine lv_iconst (v := 0) hx hb dX12_placeFault_29 (by decide +kernel) ?_
        refine lv_aload_n hx hb dX12_placeFault_30 rfl (lv_at hl 0 rfl) ?_
        refine va_get (D := D) (ci := 9) (v := .ref h1) (C := RX12) (T := TX12) (N := 11) hx hb hts in_X12_placeFault_X12 hown hE.1 hP 0 rfl rfl 9 (by decide +kernel) (hts (.fieldLink RX12 65 "ClauseBook" "sheets" "[LClauseBook$Sheet;") (List.mem_of_getElem? (i := 1) rfl)) (fun _ h9 => h9) e0_9 dX12_placeFault_31 ?_
        refine lv_iload_n hx hb dX12_placeFault_34 rfl (lv_at hl 1 rfl) ?_
        refine va_aldq hx hb hE.1 hP 1 6 rfl rfl (by unfold vp_in; decide) dX12_placeFault_35 ?_
        refine W.eq (g2 := F0 m 36 ls [.ref h3, .int 0, .int x2]) (by rw [show (1 : Int32).toNatClampNeg = 1 from rfl, e1_1]; rfl) ?_
        refine va_get (D := D) (ci := 6) (v := .int (sn 1)) (C := RX9) (T := TX9) (N := 6) hx hb hts in_X12_placeFault_X9 hown hE.1 hP 3 rfl rfl 1 (by decide +kernel) (hts (.fieldLink RX12 280 "ClauseBook$Sheet" "size" "I") (List.mem_of_getElem? (i := 3) rfl)) (fun _ h9 => h9) e3_1 dX12_placeFault_36 ?_
        refine lv_iconst (v := 1) hx hb dX12_placeFault_39 (by decide +kernel) ?_
        refine lv_isub hx hb dX12_placeFault_40 ?_
        refine vp_callSi (W.runS (As := [.int x2, .int 0, .int ((sn 1) - 1)]) (rest := []) ⟨hx, hb, hml, hown, hts⟩ (c_X12_within l D T x2 0 ((sn 1) - 1) 0 (((sn 1) - 1)).toInt (by decide +kernel) rfl) (va_cwS 3 hts gX12_placeFault_X12_within rfl rfl rfl hs_X12_within ⟨Nat.le_of_ble_eq_true rfl, Nat.le_of_ble_eq_true rfl⟩) (pR_S hP hE [] rfl) rfl rfl hl.1 rfl (lv_room (Nat.le_of_ble_eq_true rfl)) dX12_placeFault_41 ⟨Nat.le_of_ble_eq_true rfl, Nat.le_of_ble_eq_true rfl⟩) (fun r_7 hr_7 => ?_)
        rcases bool_post hr_7 with ⟨c_8, rfl⟩ | ⟨c_8, rfl⟩
        · refine lv_if_eq (tgt := 51) hx hb dX12_placeFault_44 (by decide +kernel) (fun c9 => absurd c9 (by decide +kernel)) (fun _ => ?_)
          refine lv_iconst (v := 0) hx hb dX12_placeFault_47 (by decide +kernel) ?_
          refine lv_goto (tgt := 53) hx hb dX12_placeFault_48 (by decide +kernel) ?_
          exact W.iret hx hb hr (fun t ht hW => ⟨_, rfl, ⟨(fun _ => by omega), (by (try dsimp only); have h9a1 : (so ((1 : Int32).toNatClampNeg)).toInt = (so 1).toInt := rfl; have h9b1 : (sn ((1 : Int32).toNatClampNeg)).toInt = (sn 1).toInt := rfl; have h9c1 : (1 : Int32).toInt = 1 := (by decide +kernel); have h9r : (0 : Int32).toInt = 0 := (by decide +kernel); omega)⟩, ht⟩) (fun _ h => by cases h) dX12_placeFault_53
        · refine lv_if_eq (tgt := 51) hx hb dX12_placeFault_44 (by decide +kernel) (fun _ => ?_) (fun c9 => absurd c9 (by decide +kernel))
          refine lv_bipush (v := (-12)) hx hb dX12_placeFault_51 (by decide +kernel) ?_
          exact W.iret hx hb hr (fun t ht hW => ⟨_, rfl, ⟨(fun h9 => absurd h9 (by decide +kernel)), (by (try dsimp only); have h9a1 : (so ((1 : Int32).toNatClampNeg)).toInt = (so 1).toInt := rfl; have h9b1 : (sn ((1 : Int32).toNatClampNeg)).toInt = (sn 1).toInt := rfl; have h9c1 : (1 : Int32).toInt = 1 := (by decide +kernel); have h9r : ((-12) : Int32).toInt = -12 := (by decide +kernel); omega)⟩, ht⟩) (fun _ h => by cases h) dX12_placeFault_53
      · rw [fa_eq] at c_6
        try rw [ti_n1] at c_6
        refine lv_bipush (v := (-11)) hx hb dX12_placeFault_25 (by decide +kernel) ?_
        exact W.iret hx hb hr (fun t ht hW => ⟨_, rfl, ⟨(fun h9 => absurd h9 (by decide +kernel)), (by (try dsimp only); have h9a1 : (so ((1 : Int32).toNatClampNeg)).toInt = (so 1).toInt := rfl; have h9b1 : (sn ((1 : Int32).toNatClampNeg)).toInt = (sn 1).toInt := rfl; have h9c1 : (1 : Int32).toInt = 1 := (by decide +kernel); have h9r : ((-11) : Int32).toInt = -11 := (by decide +kernel); omega)⟩, ht⟩) (fun _ h => by cases h) dX12_placeFault_27
    · have h9t := ti_2
      refine va_aldq hx hb hE.1 hP 1 6 rfl rfl (by unfold vp_in; decide) dX12_placeFault_17 ?_
      refine W.eq (g2 := F0 m 18 ls [.ref h4]) (by rw [show (2 : Int32).toNatClampNeg = 2 from rfl, e1_2]; rfl) ?_
      refine va_get (D := D) (ci := 6) (v := .int (so 2)) (C := RX9) (T := TX9) (N := 6) hx hb hts in_X12_placeFault_X9 hown hE.1 hP 4 rfl rfl 0 (by decide +kernel) (hts (.fieldLink RX12 277 "ClauseBook$Sheet" "sort" "I") (List.mem_of_getElem? (i := 2) rfl)) (fun _ h9 => h9) e4_0 dX12_placeFault_18 ?_
      refine lv_iconst (v := (-1)) hx hb dX12_placeFault_21 (by decide +kernel) ?_
      refine lv_icmp_ne (tgt := 28) hx hb dX12_placeFault_22 (by decide +kernel) (fun c_9 => ?_) (fun c_9 => ?_)
      · rw [fa_eq] at c_9
        try rw [ti_n1] at c_9
        refine lv_iload_n hx hb dX12_placeFault_28 rfl (lv_at hl 2 rfl) ?_
        refine lv_iconst (v := 0) hx hb dX12_placeFault_29 (by decide +kernel) ?_
        refine lv_aload_n hx hb dX12_placeFault_30 rfl (lv_at hl 0 rfl) ?_
        refine va_get (D := D) (ci := 9) (v := .ref h1) (C := RX12) (T := TX12) (N := 11) hx hb hts in_X12_placeFault_X12 hown hE.1 hP 0 rfl rfl 9 (by decide +kernel) (hts (.fieldLink RX12 65 "ClauseBook" "sheets" "[LClauseBook$Sheet;") (List.mem_of_getElem? (i := 1) rfl)) (fun _ h9 => h9) e0_9 dX12_placeFault_31 ?_
        refine lv_iload_n hx hb dX12_placeFault_34 rfl (lv_at hl 1 rfl) ?_
        refine va_aldq hx hb hE.1 hP 1 6 rfl rfl (by unfold vp_in; decide) dX12_placeFault_35 ?_
        refine W.eq (g2 := F0 m 36 ls [.ref h4, .int 0, .int x2]) (by rw [show (2 : Int32).toNatClampNeg = 2 from rfl, e1_2]; rfl) ?_
        refine va_get (D := D) (ci := 6) (v := .int (sn 2)) (C := RX9) (T := TX9) (N := 6) hx hb hts in_X12_placeFault_X9 hown hE.1 hP 4 rfl rfl 1 (by decide +kernel) (hts (.fieldLink RX12 280 "ClauseBook$Sheet" "size" "I") (List.mem_of_getElem? (i := 3) rfl)) (fun _ h9 => h9) e4_1 dX12_placeFault_36 ?_
        refine lv_iconst (v := 1) hx hb dX12_placeFault_39 (by decide +kernel) ?_
        refine lv_isub hx hb dX12_placeFault_40 ?_
        refine vp_callSi (W.runS (As := [.int x2, .int 0, .int ((sn 2) - 1)]) (rest := []) ⟨hx, hb, hml, hown, hts⟩ (c_X12_within l D T x2 0 ((sn 2) - 1) 0 (((sn 2) - 1)).toInt (by decide +kernel) rfl) (va_cwS 3 hts gX12_placeFault_X12_within rfl rfl rfl hs_X12_within ⟨Nat.le_of_ble_eq_true rfl, Nat.le_of_ble_eq_true rfl⟩) (pR_S hP hE [] rfl) rfl rfl hl.1 rfl (lv_room (Nat.le_of_ble_eq_true rfl)) dX12_placeFault_41 ⟨Nat.le_of_ble_eq_true rfl, Nat.le_of_ble_eq_true rfl⟩) (fun r_10 hr_10 => ?_)
        rcases bool_post hr_10 with ⟨c_11, rfl⟩ | ⟨c_11, rfl⟩
        · refine lv_if_eq (tgt := 51) hx hb dX12_placeFault_44 (by decide +kernel) (fun c9 => absurd c9 (by decide +kernel)) (fun _ => ?_)
          refine lv_iconst (v := 0) hx hb dX12_placeFault_47 (by decide +kernel) ?_
          refine lv_goto (tgt := 53) hx hb dX12_placeFault_48 (by decide +kernel) ?_
          exact W.iret hx hb hr (fun t ht hW => ⟨_, rfl, ⟨(fun _ => by omega), (by (try dsimp only); have h9a1 : (so ((2 : Int32).toNatClampNeg)).toInt = (so 2).toInt := rfl; have h9b1 : (sn ((2 : Int32).toNatClampNeg)).toInt = (sn 2).toInt := rfl; have h9c1 : (2 : Int32).toInt = 2 := (by decide +kernel); have h9r : (0 : Int32).toInt = 0 := (by decide +kernel); omega)⟩, ht⟩) (fun _ h => by cases h) dX12_placeFault_53
        · refine lv_if_eq (tgt := 51) hx hb dX12_placeFault_44 (by decide +kernel) (fun _ => ?_) (fun c9 => absurd c9 (by decide +kernel))
          refine lv_bipush (v := (-12)) hx hb dX12_placeFault_51 (by decide +kernel) ?_
          exact W.iret hx hb hr (fun t ht hW => ⟨_, rfl, ⟨(fun h9 => absurd h9 (by decide +kernel)), (by (try dsimp only); have h9a1 : (so ((2 : Int32).toNatClampNeg)).toInt = (so 2).toInt := rfl; have h9b1 : (sn ((2 : Int32).toNatClampNeg)).toInt = (sn 2).toInt := rfl; have h9c1 : (2 : Int32).toInt = 2 := (by decide +kernel); have h9r : ((-12) : Int32).toInt = -12 := (by decide +kernel); omega)⟩, ht⟩) (fun _ h => by cases h) dX12_placeFault_53
      · rw [fa_eq] at c_9
        try rw [ti_n1] at c_9
        refine lv_bipush (v := (-11)) hx hb dX12_placeFault_25 (by decide +kernel) ?_
        exact W.iret hx hb hr (fun t ht hW => ⟨_, rfl, ⟨(fun h9 => absurd h9 (by decide +kernel)), (by (try dsimp only); have h9a1 : (so ((2 : Int32).toNatClampNeg)).toInt = (so 2).toInt := rfl; have h9b1 : (sn ((2 : Int32).toNatClampNeg)).toInt = (sn 2).toInt := rfl; have h9c1 : (2 : Int32).toInt = 2 := (by decide +kernel); have h9r : ((-11) : Int32).toInt = -11 := (by decide +kernel); omega)⟩, ht⟩) (fun _ h => by cases h) dX12_placeFault_27
    · have h9t := ti_3
      refine va_aldq hx hb hE.1 hP 1 6 rfl rfl (by unfold vp_in; decide) dX12_placeFault_17 ?_
      refine W.eq (g2 := F0 m 18 ls [.ref h5]) (by rw [show (3 : Int32).toNatClampNeg = 3 from rfl, e1_3]; rfl) ?_
      refine va_get (D := D) (ci := 6) (v := .int (so 3)) (C := RX9) (T := TX9) (N := 6) hx hb hts in_X12_placeFault_X9 hown hE.1 hP 5 rfl rfl 0 (by decide +kernel) (hts (.fieldLink RX12 277 "ClauseBook$Sheet" "sort" "I") (List.mem_of_getElem? (i := 2) rfl)) (fun _ h9 => h9) e5_0 dX12_placeFault_18 ?_
      refine lv_iconst (v := (-1)) hx hb dX12_placeFault_21 (by decide +kernel) ?_
      refine lv_icmp_ne (tgt := 28) hx hb dX12_placeFault_22 (by decide +kernel) (fun c_12 => ?_) (fun c_12 => ?_)
      · rw [fa_eq] at c_12
        try rw [ti_n1] at c_12
        refine lv_iload_n hx hb dX12_placeFault_28 rfl (lv_at hl 2 rfl) ?_
        refine lv_iconst (v := 0) hx hb dX12_placeFault_29 (by decide +kernel) ?_
        refine lv_aload_n hx hb dX12_placeFault_30 rfl (lv_at hl 0 rfl) ?_
        refine va_get (D := D) (ci := 9) (v := .ref h1) (C := RX12) (T := TX12) (N := 11) hx hb hts in_X12_placeFault_X12 hown hE.1 hP 0 rfl rfl 9 (by decide +kernel) (hts (.fieldLink RX12 65 "ClauseBook" "sheets" "[LClauseBook$Sheet;") (List.mem_of_getElem? (i := 1) rfl)) (fun _ h9 => h9) e0_9 dX12_placeFault_31 ?_
        refine lv_iload_n hx hb dX12_placeFault_34 rfl (lv_at hl 1 rfl) ?_
        refine va_aldq hx hb hE.1 hP 1 6 rfl rfl (by unfold vp_in; decide) dX12_placeFault_35 ?_
        refine W.eq (g2 := F0 m 36 ls [.ref h5, .int 0, .int x2]) (by rw [show (3 : Int32).toNatClampNeg = 3 from rfl, e1_3]; rfl) ?_
        refine va_get (D := D) (ci := 6) (v := .int (sn 3)) (C := RX9) (T := TX9) (N := 6) hx hb hts in_X12_placeFault_X9 hown hE.1 hP 5 rfl rfl 1 (by decide +kernel) (hts (.fieldLink RX12 280 "ClauseBook$Sheet" "size" "I") (List.mem_of_getElem? (i := 3) rfl)) (fun _ h9 => h9) e5_1 dX12_placeFault_36 ?_
        refine lv_iconst (v := 1) hx hb dX12_placeFault_39 (by decide +kernel) ?_
        refine lv_isub hx hb dX12_placeFault_40 ?_
        refine vp_callSi (W.runS (As := [.int x2, .int 0, .int ((sn 3) - 1)]) (rest := []) ⟨hx, hb, hml, hown, hts⟩ (c_X12_within l D T x2 0 ((sn 3) - 1) 0 (((sn 3) - 1)).toInt (by decide +kernel) rfl) (va_cwS 3 hts gX12_placeFault_X12_within rfl rfl rfl hs_X12_within ⟨Nat.le_of_ble_eq_true rfl, Nat.le_of_ble_eq_true rfl⟩) (pR_S hP hE [] rfl) rfl rfl hl.1 rfl (lv_room (Nat.le_of_ble_eq_true rfl)) dX12_placeFault_41 ⟨Nat.le_of_ble_eq_true rfl, Nat.le_of_ble_eq_true rfl⟩) (fun r_13 hr_13 => ?_)
        rcases bool_post hr_13 with ⟨c_14, rfl⟩ | ⟨c_14, rfl⟩
        · refine lv_if_eq (tgt := 51) hx hb dX12_placeFault_44 (by decide +kernel) (fun c9 => absurd c9 (by decide +kernel)) (fun _ => ?_)
          refine lv_iconst (v := 0) hx hb dX12_placeFault_47 (by decide +kernel) ?_
          refine lv_goto (tgt := 53) hx hb dX12_placeFault_48 (by decide +kernel) ?_
          exact W.iret hx hb hr (fun t ht hW => ⟨_, rfl, ⟨(fun _ => by omega), (by (try dsimp only); have h9a1 : (so ((3 : Int32).toNatClampNeg)).toInt = (so 3).toInt := rfl; have h9b1 : (sn ((3 : Int32).toNatClampNeg)).toInt = (sn 3).toInt := rfl; have h9c1 : (3 : Int32).toInt = 3 := (by decide +kernel); have h9r : (0 : Int32).toInt = 0 := (by decide +kernel); omega)⟩, ht⟩) (fun _ h => by cases h) dX12_placeFault_53
        · refine lv_if_eq (tgt := 51) hx hb dX12_placeFault_44 (by decide +kernel) (fun _ => ?_) (fun c9 => absurd c9 (by decide +kernel))
          refine lv_bipush (v := (-12)) hx hb dX12_placeFault_51 (by decide +kernel) ?_
          exact W.iret hx hb hr (fun t ht hW => ⟨_, rfl, ⟨(fun h9 => absurd h9 (by decide +kernel)), (by (try dsimp only); have h9a1 : (so ((3 : Int32).toNatClampNeg)).toInt = (so 3).toInt := rfl; have h9b1 : (sn ((3 : Int32).toNatClampNeg)).toInt = (sn 3).toInt := rfl; have h9c1 : (3 : Int32).toInt = 3 := (by decide +kernel); have h9r : ((-12) : Int32).toInt = -12 := (by decide +kernel); omega)⟩, ht⟩) (fun _ h => by cases h) dX12_placeFault_53
      · rw [fa_eq] at c_12
        try rw [ti_n1] at c_12
        refine lv_bipush (v := (-11)) hx hb dX12_placeFault_25 (by decide +kernel) ?_
        exact W.iret hx hb hr (fun t ht hW => ⟨_, rfl, ⟨(fun h9 => absurd h9 (by decide +kernel)), (by (try dsimp only); have h9a1 : (so ((3 : Int32).toNatClampNeg)).toInt = (so 3).toInt := rfl; have h9b1 : (sn ((3 : Int32).toNatClampNeg)).toInt = (sn 3).toInt := rfl; have h9c1 : (3 : Int32).toInt = 3 := (by decide +kernel); have h9r : ((-11) : Int32).toInt = -11 := (by decide +kernel); omega)⟩, ht⟩) (fun _ h => by cases h) dX12_placeFault_27
  · refine lv_if_ne (tgt := 12) hx hb dX12_placeFault_6 (by decide +kernel) (fun c9 => absurd c9 (by decide +kernel)) (fun _ => ?_)
    refine lv_bipush (v := (-2)) hx hb dX12_placeFault_9 (by decide +kernel) ?_
    exact W.iret hx hb hr (fun t ht hW => ⟨_, rfl, ⟨(fun h9 => absurd h9 (by decide +kernel)), (by (try dsimp only); have h9r : ((-2) : Int32).toInt = -2 := (by decide +kernel); omega)⟩, ht⟩) (fun _ h => by cases h) dX12_placeFault_11
theorem dX12_cell_0 : decode cX12_cell 0 = .ok (.aload_n 0, 1) := by decide +kernel
theorem dX12_cell_1 : decode cX12_cell 1 = .ok (.iload_n 1, 1) := by decide +kernel
theorem dX12_cell_10 : decode cX12_cell 10 = .ok (.ifCond .eq 6, 3) := by decide +kernel
theorem dX12_cell_13 : decode cX12_cell 13 = .ok (.iload 5, 2) := by decide +kernel
theorem dX12_cell_15 : decode cX12_cell 15 = .ok (.ireturn, 1) := by decide +kernel
theorem dX12_cell_16 : decode cX12_cell 16 = .ok (.aload_n 0, 1) := by decide +kernel
theorem dX12_cell_17 : decode cX12_cell 17 = .ok (.getfield 65, 3) := by decide +kernel
theorem dX12_cell_2 : decode cX12_cell 2 = .ok (.iload_n 2, 1) := by decide +kernel
theorem dX12_cell_20 : decode cX12_cell 20 = .ok (.iload_n 1, 1) := by decide +kernel
theorem dX12_cell_21 : decode cX12_cell 21 = .ok (.aaload, 1) := by decide +kernel
theorem dX12_cell_22 : decode cX12_cell 22 = .ok (.iload_n 2, 1) := by decide +kernel
theorem dX12_cell_23 : decode cX12_cell 23 = .ok (.lload_n 3, 1) := by decide +kernel
theorem dX12_cell_24 : decode cX12_cell 24 = .ok (.invokevirtual 281, 3) := by decide +kernel
theorem dX12_cell_27 : decode cX12_cell 27 = .ok (.ifCond .eq 7, 3) := by decide +kernel
theorem dX12_cell_3 : decode cX12_cell 3 = .ok (.invokevirtual 321, 3) := by decide +kernel
theorem dX12_cell_30 : decode cX12_cell 30 = .ok (.iconst 1, 1) := by decide +kernel
theorem dX12_cell_31 : decode cX12_cell 31 = .ok (.goto 5, 3) := by decide +kernel
theorem dX12_cell_34 : decode cX12_cell 34 = .ok (.bipush (-5), 2) := by decide +kernel
theorem dX12_cell_36 : decode cX12_cell 36 = .ok (.ireturn, 1) := by decide +kernel
theorem dX12_cell_6 : decode cX12_cell 6 = .ok (.istore 5, 2) := by decide +kernel
theorem dX12_cell_8 : decode cX12_cell 8 = .ok (.iload 5, 2) := by decide +kernel
set_option maxRecDepth 20000 in
theorem ggX12_cell_X12_placeFault : GoodIn wsX12_cell wsX12_placeFault := goodIn_r _ [6, 1, 7, 8, 9, 10, 5, 11, 22, 23, 24, 25, 26, 27, 28, 29, 30, 31, 32, 33, 34, 35, 36, 37, 38] rfl (by decide +kernel)
set_option maxRecDepth 20000 in
theorem ggX12_cell_X9_store : GoodIn wsX12_cell wsX9_store := goodIn_r _ [16, 17, 18, 19, 20, 21, 33, 34, 35, 36, 37, 38] rfl (by decide +kernel)
set_option maxRecDepth 20000 in
theorem gX12_cell_X12_placeFault : GoodIn wsX12_cell (wsV RX12 321 RX12 yX12_placeFault wsX12_placeFault) := goodIn_app (goodIn_r _ [2, 3, 4, 5] rfl (by decide +kernel)) ggX12_cell_X12_placeFault
set_option maxRecDepth 20000 in
theorem gX12_cell_X9_store : GoodIn wsX12_cell (wsV RX12 281 RX9 yX9_store wsX9_store) := goodIn_app (goodIn_r _ [12, 13, 14, 15] rfl (by decide +kernel)) ggX12_cell_X9_store
theorem hv_X12_placeFault : yX12_placeFault.cls = RX12 ∧ yX12_placeFault.cls ≠ "java/lang/invoke/MethodHandle" ∧ yX12_placeFault.cls ≠ "java/lang/invoke/VarHandle" ∧ (parseMethodDescriptor yX12_placeFault.desc).map (fun d => d.parameters.length) = some 2 := by decide +kernel
set_option maxRecDepth 20000 in
theorem in_X12_cell_X12 : ∀ w ∈ wsX120, w ∈ wsX12_cell := sub_r [22, 23, 24, 25, 26, 27, 28, 29, 30, 31, 32] rfl
set_option maxHeartbeats 4000000 in
set_option maxRecDepth 100000 in
theorem c_X12_cell (l : Launch) (D : va_G) (T : Nat → ClassId) (sz : Nat) (h0 : Nat) (h1 : Nat) (fs0 : List Value) (t0 : Nat) (t1 : Nat) (t2 : Nat) (t3 : Nat) (a00 : Nat) (a01 : Nat) (a02 : Nat) (a03 : Nat) (a10 : Nat) (a11 : Nat) (a12 : Nat) (a13 : Nat) (a20 : Nat) (a21 : Nat) (a22 : Nat) (a23 : Nat) (a30 : Nat) (a31 : Nat) (a32 : Nat) (a33 : Nat) (so : Nat → Int32) (sn : Nat → Int32) (si : Nat → Nat → Int32) (sl : Nat → Nat → Int64) (sf : Nat → Nat → UInt32) (sd : Nat → Nat → UInt64) (x1 : Int32) (x2 : Int32) (x3 : Int64) (e0_9 : fs0[9]? = some (.ref h1)) (hs0 : (-1 ≤ (so 0).toInt ∧ (so 0).toInt ≤ 3) ∧ 0 ≤ (sn 0).toInt ∧ (sn 0).toInt ≤ 30) (hs1 : (-1 ≤ (so 1).toInt ∧ (so 1).toInt ≤ 3) ∧ 0 ≤ (sn 1).toInt ∧ (sn 1).toInt ≤ 30) (hs2 : (-1 ≤ (so 2).toInt ∧ (so 2).toInt ≤ 3) ∧ 0 ≤ (sn 2).toInt ∧ (sn 2).toInt ≤ 30) (hs3 : (-1 ≤ (so 3).toInt ∧ (so 3).toInt ≤ 3) ∧ 0 ≤ (sn 3).toInt ∧ (sn 3).toInt ≤ 30) : Met l yX12_cell wsX12_cell ({ frames := 2, cells := 0, slots := 0, locals := 44 }) (pW [.ref h0, .int x1, .int x2, .long x3] D T [(h0, .inr (9, fs0)), (h1, .inl (T 6, 4, .inr (.inr (.inr (.inr (va_up (va_up (va_up (va_up (fun _ => none) 0 (some t0)) 1 (some t1)) 2 (some t2)) 3 (some t3))))))), (t0, .inr (6, [.int (so 0), .int (sn 0), .ref a00, .ref a01, .ref a02, .ref a03])), (t1, .inr (6, [.int (so 1), .int (sn 1), .ref a10, .ref a11, .ref a12, .ref a13])), (t2, .inr (6, [.int (so 2), .int (sn 2), .ref a20, .ref a21, .ref a22, .ref a23])), (t3, .inr (6, [.int (so 3), .int (sn 3), .ref a30, .ref a31, .ref a32, .ref a33])), (a00, .inl (T 0, 30, .inl (si 0))), (a01, .inl (T 1, 30, .inr (.inl (sl 0)))), (a02, .inl (T 2, 30, .inr (.inr (.inl (sf 0))))), (a03, .inl (T 3, 30, .inr (.inr (.inr (.inl (sd 0)))))), (a10, .inl (T 0, 30, .inl (si 1))), (a11, .inl (T 1, 30, .inr (.inl (sl 1)))), (a12, .inl (T 2, 30, .inr (.inr (.inl (sf 1))))), (a13, .inl (T 3, 30, .inr (.inr (.inr (.inl (sd 1)))))), (a20, .inl (T 0, 30, .inl (si 2))), (a21, .inl (T 1, 30, .inr (.inl (sl 2)))), (a22, .inl (T 2, 30, .inr (.inr (.inl (sf 2))))), (a23, .inl (T 3, 30, .inr (.inr (.inr (.inl (sd 2)))))), (a30, .inl (T 0, 30, .inl (si 3))), (a31, .inl (T 1, 30, .inr (.inl (sl 3)))), (a32, .inl (T 2, 30, .inr (.inr (.inl (sf 3))))), (a33, .inl (T 3, 30, .inr (.inr (.inr (.inl (sd 3))))))] sz) (va_Qi (fun (r : Int32) (u : (Nat → Nat → Int32) × (Nat → Nat → Int64) × (Nat → Nat → UInt32) × (Nat → Nat → UInt64)) => (¬ (0 ≤ x1.toInt ∧ x1.toInt ≤ 3) → r.toInt = -2) ∧ ((0 ≤ x1.toInt ∧ x1.toInt ≤ 3) → ((so (x1.toNatClampNeg)).toInt = -1 → r.toInt = -11) ∧ (¬ (so (x1.toNatClampNeg)).toInt = -1 → ((0 ≤ x2.toInt ∧ x2.toInt < (sn (x1.toNatClampNeg)).toInt) → ((so (x1.toNatClampNeg)).toInt = 0 ∧ ¬ x3.toInt = x3.toInt32.toInt → r.toInt = -5) ∧ (¬ ((so (x1.toNatClampNeg)).toInt = 0 ∧ ¬ x3.toInt = x3.toInt32.toInt) → r.toInt = 1)) ∧ (¬ (0 ≤ x2.toInt ∧ x2.toInt < (sn (x1.toNatClampNeg)).toInt) → r.toInt = -12)))) (bW D (va_A [(h0, .inr (9, fs0)), (h1, .inl (T 6, 4, .inr (.inr (.inr (.inr (va_up (va_up (va_up (va_up (fun _ => none) 0 (some t0)) 1 (some t1)) 2 (some t2)) 3 (some t3))))))), (t0, .inr (6, [.int (so 0), .int (sn 0), .ref a00, .ref a01, .ref a02, .ref a03])), (t1, .inr (6, [.int (so 1), .int (sn 1), .ref a10, .ref a11, .ref a12, .ref a13])), (t2, .inr (6, [.int (so 2), .int (sn 2), .ref a20, .ref a21, .ref a22, .ref a23])), (t3, .inr (6, [.int (so 3), .int (sn 3), .ref a30, .ref a31, .ref a32, .ref a33])), (a00, .inl (T 0, 30, .inl (si 0))), (a01, .inl (T 1, 30, .inr (.inl (sl 0)))), (a02, .inl (T 2, 30, .inr (.inr (.inl (sf 0))))), (a03, .inl (T 3, 30, .inr (.inr (.inr (.inl (sd 0)))))), (a10, .inl (T 0, 30, .inl (si 1))), (a11, .inl (T 1, 30, .inr (.inl (sl 1)))), (a12, .inl (T 2, 30, .inr (.inr (.inl (sf 1))))), (a13, .inl (T 3, 30, .inr (.inr (.inr (.inl (sd 1)))))), (a20, .inl (T 0, 30, .inl (si 2))), (a21, .inl (T 1, 30, .inr (.inl (sl 2)))), (a22, .inl (T 2, 30, .inr (.inr (.inl (sf 2))))), (a23, .inl (T 3, 30, .inr (.inr (.inr (.inl (sd 2)))))), (a30, .inl (T 0, 30, .inl (si 3))), (a31, .inl (T 1, 30, .inr (.inl (sl 3)))), (a32, .inl (T 2, 30, .inr (.inr (.inl (sf 3))))), (a33, .inl (T 3, 30, .inr (.inr (.inr (.inl (sd 3))))))] sz) (fun (u : (Nat → Nat → Int32) × (Nat → Nat → Int64) × (Nat → Nat → UInt32) × (Nat → Nat → UInt64)) => [(h0, .inr (9, fs0)), (h1, .inl (T 6, 4, .inr (.inr (.inr (.inr (va_up (va_up (va_up (va_up (fun _ => none) 0 (some t0)) 1 (some t1)) 2 (some t2)) 3 (some t3))))))), (t0, .inr (6, [.int (so 0), .int (sn 0), .ref a00, .ref a01, .ref a02, .ref a03])), (t1, .inr (6, [.int (so 1), .int (sn 1), .ref a10, .ref a11, .ref a12, .ref a13])), (t2, .inr (6, [.int (so 2), .int (sn 2), .ref a20, .ref a21, .ref a22, .ref a23])), (t3, .inr (6, [.int (so 3), .int (sn 3), .ref a30, .ref a31, .ref a32, .ref a33])), (a00, .inl (T 0, 30, .inl (u.1 0))), (a01, .inl (T 1, 30, .inr (.inl (u.2.1 0)))), (a02, .inl (T 2, 30, .inr (.inr (.inl (u.2.2.1 0))))), (a03, .inl (T 3, 30, .inr (.inr (.inr (.inl (u.2.2.2 0)))))), (a10, .inl (T 0, 30, .inl (u.1 1))), (a11, .inl (T 1, 30, .inr (.inl (u.2.1 1)))), (a12, .inl (T 2, 30, .inr (.inr (.inl (u.2.2.1 1))))), (a13, .inl (T 3, 30, .inr (.inr (.inr (.inl (u.2.2.2 1)))))), (a20, .inl (T 0, 30, .inl (u.1 2))), (a21, .inl (T 1, 30, .inr (.inl (u.2.1 2)))), (a22, .inl (T 2, 30, .inr (.inr (.inl (u.2.2.1 2))))), (a23, .inl (T 3, 30, .inr (.inr (.inr (.inl (u.2.2.2 2)))))), (a30, .inl (T 0, 30, .inl (u.1 3))), (a31, .inl (T 1, 30, .inr (.inl (u.2.1 3)))), (a32, .inl (T 2, 30, .inr (.inr (.inl (u.2.2.1 3))))), (a33, .inl (T 3, 30, .inr (.inr (.inr (.inl (u.2.2.2 3))))))])) (va_A [(h0, .inr (9, fs0)), (h1, .inl (T 6, 4, .inr (.inr (.inr (.inr (va_up (va_up (va_up (va_up (fun _ => none) 0 (some t0)) 1 (some t1)) 2 (some t2)) 3 (some t3))))))), (t0, .inr (6, [.int (so 0), .int (sn 0), .ref a00, .ref a01, .ref a02, .ref a03])), (t1, .inr (6, [.int (so 1), .int (sn 1), .ref a10, .ref a11, .ref a12, .ref a13])), (t2, .inr (6, [.int (so 2), .int (sn 2), .ref a20, .ref a21, .ref a22, .ref a23])), (t3, .inr (6, [.int (so 3), .int (sn 3), .ref a30, .ref a31, .ref a32, .ref a33])), (a00, .inl (T 0, 30, .inl (si 0))), (a01, .inl (T 1, 30, .inr (.inl (sl 0)))), (a02, .inl (T 2, 30, .inr (.inr (.inl (sf 0))))), (a03, .inl (T 3, 30, .inr (.inr (.inr (.inl (sd 0)))))), (a10, .inl (T 0, 30, .inl (si 1))), (a11, .inl (T 1, 30, .inr (.inl (sl 1)))), (a12, .inl (T 2, 30, .inr (.inr (.inl (sf 1))))), (a13, .inl (T 3, 30, .inr (.inr (.inr (.inl (sd 1)))))), (a20, .inl (T 0, 30, .inl (si 2))), (a21, .inl (T 1, 30, .inr (.inl (sl 2)))), (a22, .inl (T 2, 30, .inr (.inr (.inl (sf 2))))), (a23, .inl (T 3, 30, .inr (.inr (.inr (.inl (sd 2)))))), (a30, .inl (T 0, 30, .inl (si 3))), (a31, .inl (T 1, 30, .inr (.inl (sl 3)))), (a32, .inl (T 2, 30, .inr (.inr (.inl (sf 3))))), (a33, .inl (T 3, 30, .inr (.inr (.inr (.inl (sd 3))))))] sz)) 0 0 (va_A [(h0, .inr (9, fs0)), (h1, .inl (T 6, 4, .inr (.inr (.inr (.inr (va_up (va_up (va_up (va_up (fun _ => none) 0 (some t0)) 1 (some t1)) 2 (some t2)) 3 (some t3))))))), (t0, .inr (6, [.int (so 0), .int (sn 0), .ref a00, .ref a01, .ref a02, .ref a03])), (t1, .inr (6, [.int (so 1), .int (sn 1), .ref a10, .ref a11, .ref a12, .ref a13])), (t2, .inr (6, [.int (so 2), .int (sn 2), .ref a20, .ref a21, .ref a22, .ref a23])), (t3, .inr (6, [.int (so 3), .int (sn 3), .ref a30, .ref a31, .ref a32, .ref a33])), (a00, .inl (T 0, 30, .inl (si 0))), (a01, .inl (T 1, 30, .inr (.inl (sl 0)))), (a02, .inl (T 2, 30, .inr (.inr (.inl (sf 0))))), (a03, .inl (T 3, 30, .inr (.inr (.inr (.inl (sd 0)))))), (a10, .inl (T 0, 30, .inl (si 1))), (a11, .inl (T 1, 30, .inr (.inl (sl 1)))), (a12, .inl (T 2, 30, .inr (.inr (.inl (sf 1))))), (a13, .inl (T 3, 30, .inr (.inr (.inr (.inl (sd 1)))))), (a20, .inl (T 0, 30, .inl (si 2))), (a21, .inl (T 1, 30, .inr (.inl (sl 2)))), (a22, .inl (T 2, 30, .inr (.inr (.inl (sf 2))))), (a23, .inl (T 3, 30, .inr (.inr (.inr (.inl (sd 2)))))), (a30, .inl (T 0, 30, .inl (si 3))), (a31, .inl (T 1, 30, .inr (.inl (sl 3)))), (a32, .inl (T 2, 30, .inr (.inr (.inl (sf 3))))), (a33, .inl (T 3, 30, .inr (.inr (.inr (.inl (sd 3))))))] sz) := by
  refine Met.ofW (cc := cX12_cell) (maxL := 6) (ret := (some .int)) (by decide +kernel) rfl ?_
  intro p e s m args below meth c s₁ B hml hv
  obtain ⟨rfl, hsz, hP, hE, hD0⟩ := hv
  have hx := B.exec
  have hb := B.bytes
  have hr := B.returns
  have hts := atoms_spec (ws := wsX12_cell) B.pre
  have hown : s.vm.findClass RX12 = some m.cls := findClass_of_methodNamed B.named
  have hlocks := B.notSynchronized
  subst hsz
  have hD := hD0.self (sz := s.heap.size)
  generalize hAe : va_A [(h0, .inr (9, fs0)), (h1, .inl (T 6, 4, .inr (.inr (.inr (.inr (va_up (va_up (va_up (va_up (fun _ => none) 0 (some t0)) 1 (some t1)) 2 (some t2)) 3 (some t3))))))), (t0, .inr (6, [.int (so 0), .int (sn 0), .ref a00, .ref a01, .ref a02, .ref a03])), (t1, .inr (6, [.int (so 1), .int (sn 1), .ref a10, .ref a11, .ref a12, .ref a13])), (t2, .inr (6, [.int (so 2), .int (sn 2), .ref a20, .ref a21, .ref a22, .ref a23])), (t3, .inr (6, [.int (so 3), .int (sn 3), .ref a30, .ref a31, .ref a32, .ref a33])), (a00, .inl (T 0, 30, .inl (si 0))), (a01, .inl (T 1, 30, .inr (.inl (sl 0)))), (a02, .inl (T 2, 30, .inr (.inr (.inl (sf 0))))), (a03, .inl (T 3, 30, .inr (.inr (.inr (.inl (sd 0)))))), (a10, .inl (T 0, 30, .inl (si 1))), (a11, .inl (T 1, 30, .inr (.inl (sl 1)))), (a12, .inl (T 2, 30, .inr (.inr (.inl (sf 1))))), (a13, .inl (T 3, 30, .inr (.inr (.inr (.inl (sd 1)))))), (a20, .inl (T 0, 30, .inl (si 2))), (a21, .inl (T 1, 30, .inr (.inl (sl 2)))), (a22, .inl (T 2, 30, .inr (.inr (.inl (sf 2))))), (a23, .inl (T 3, 30, .inr (.inr (.inr (.inl (sd 2)))))), (a30, .inl (T 0, 30, .inl (si 3))), (a31, .inl (T 1, 30, .inr (.inl (sl 3)))), (a32, .inl (T 2, 30, .inr (.inr (.inl (sf 3))))), (a33, .inl (T 3, 30, .inr (.inr (.inr (.inl (sd 3))))))] s.heap.size = A at hD ⊢
  have hA : ∀ q : Nat, s.heap.size ≤ q → A q := fun q h => by rw [← hAe]; exact Or.inr h
  have hS : va_S A s.heap s.heap [] := va_S.rf
  have hP : va_P D vwCl [(h0, .inr (9, fs0)), (h1, .inl (T 6, 4, .inr (.inr (.inr (.inr (va_up (va_up (va_up (va_up (fun _ => none) 0 (some t0)) 1 (some t1)) 2 (some t2)) 3 (some t3))))))), (t0, .inr (6, [.int (so 0), .int (sn 0), .ref a00, .ref a01, .ref a02, .ref a03])), (t1, .inr (6, [.int (so 1), .int (sn 1), .ref a10, .ref a11, .ref a12, .ref a13])), (t2, .inr (6, [.int (so 2), .int (sn 2), .ref a20, .ref a21, .ref a22, .ref a23])), (t3, .inr (6, [.int (so 3), .int (sn 3), .ref a30, .ref a31, .ref a32, .ref a33])), (a00, .inl (T 0, 30, .inl (si 0))), (a01, .inl (T 1, 30, .inr (.inl (sl 0)))), (a02, .inl (T 2, 30, .inr (.inr (.inl (sf 0))))), (a03, .inl (T 3, 30, .inr (.inr (.inr (.inl (sd 0)))))), (a10, .inl (T 0, 30, .inl (si 1))), (a11, .inl (T 1, 30, .inr (.inl (sl 1)))), (a12, .inl (T 2, 30, .inr (.inr (.inl (sf 1))))), (a13, .inl (T 3, 30, .inr (.inr (.inr (.inl (sd 1)))))), (a20, .inl (T 0, 30, .inl (si 2))), (a21, .inl (T 1, 30, .inr (.inl (sl 2)))), (a22, .inl (T 2, 30, .inr (.inr (.inl (sf 2))))), (a23, .inl (T 3, 30, .inr (.inr (.inr (.inl (sd 2)))))), (a30, .inl (T 0, 30, .inl (si 3))), (a31, .inl (T 1, 30, .inr (.inl (sl 3)))), (a32, .inl (T 2, 30, .inr (.inr (.inl (sf 3))))), (a33, .inl (T 3, 30, .inr (.inr (.inr (.inl (sd 3))))))] s.heap := hP
  have hl := lv_entry ([.ref h0, .int x1, .int x2, .long x3]) (n := 6) (Nat.le_of_ble_eq_true rfl)
  rw [lg_entry_eq]
  generalize (lg_sl ([.ref h0, .int x1, .int x2, .long x3]) ++ List.replicate (6 - (lg_sl ([.ref h0, .int x1, .int x2, .long x3])).length) Slot.unset).toArray = ls at hl ⊢
  have hl : lv_has ls 6 [(0, .ref h0), (1, .int x1), (2, .int x2), (3, .long x3)] := hl
  clear hD0
  refine lv_aload_n hx hb dX12_cell_0 rfl (lv_at hl 0 rfl) ?_
  refine lv_iload_n hx hb dX12_cell_1 rfl (lv_at hl 1 rfl) ?_
  refine lv_iload_n hx hb dX12_cell_2 rfl (lv_at hl 2 rfl) ?_
  refine vp_callSi (W.runV (As := [.int x1, .int x2]) (rest := []) ⟨hx, hb, hml, hown, hts⟩ (c_X12_placeFault l D T h0 fs0 h1 (va_up (va_up (va_up (va_up (fun _ => none) 0 (some t0)) 1 (some t1)) 2 (some t2)) 3 (some t3)) t0 [.int (so 0), .int (sn 0), .ref a00, .ref a01, .ref a02, .ref a03] t1 [.int (so 1), .int (sn 1), .ref a10, .ref a11, .ref a12, .ref a13] t2 [.int (so 2), .int (sn 2), .ref a20, .ref a21, .ref a22, .ref a23] t3 [.int (so 3), .int (sn 3), .ref a30, .ref a31, .ref a32, .ref a33] x1 x2 so sn e0_9 rfl rfl rfl rfl rfl rfl rfl rfl rfl rfl rfl rfl (by omega) (by omega) (by omega) (by omega)) (cwV 2 hts gX12_cell_X12_placeFault rfl rfl rfl hv_X12_placeFault ⟨Nat.le_of_ble_eq_true rfl, Nat.le_of_ble_eq_true rfl⟩) (pR_V (q := (RX12, TX12, 11)) (ci := 9) (q0 := 0) hP hE rfl rfl [0, 1, 2, 3, 4, 5] rfl) rfl rfl hl.1 rfl (lv_room (Nat.le_of_ble_eq_true rfl)) dX12_cell_3 ⟨Nat.le_of_ble_eq_true rfl, Nat.le_of_ble_eq_true rfl⟩) (fun r_1 hr_1 => ?_)
  refine lv_istore (lv' := [(5, .int r_1), (0, .ref h0), (1, .int x1), (2, .int x2), (3, .long x3)]) hx hb dX12_cell_6 hl (by decide +kernel) rfl (fun ls hl => ?_)
  refine lv_iload hx hb dX12_cell_8 (lv_at hl 0 rfl) ?_
  refine lv_if_eq (tgt := 16) hx hb dX12_cell_10 (by decide +kernel) (fun c_2 => ?_) (fun c_2 => ?_)
  · rw [fa_eq] at c_2
    try rw [ti_0] at c_2
    refine lv_aload_n hx hb dX12_cell_16 rfl (lv_at hl 1 rfl) ?_
    refine va_get (D := D) (ci := 9) (v := .ref h1) (C := RX12) (T := TX12) (N := 11) hx hb hts in_X12_cell_X12 hown hE.1 hP 0 rfl rfl 9 (by decide +kernel) (hts (.fieldLink RX12 65 "ClauseBook" "sheets" "[LClauseBook$Sheet;") (List.mem_of_getElem? (i := 1) rfl)) (fun _ h9 => h9) e0_9 dX12_cell_17 ?_
    refine lv_iload_n hx hb dX12_cell_20 rfl (lv_at hl 2 rfl) ?_
    have h9f : (0 ≤ x1.toInt ∧ x1.toInt ≤ 3) ∧ 0 ≤ x2.toInt ∧ x2.toInt < 30 := hr_1.1 (by omega)
    rcases in4 (x := x1) (by omega) with rfl | rfl | rfl | rfl
    · have h9t := ti_0
      refine va_aldq hx hb hE.1 hP 1 6 rfl rfl (by unfold vp_in; decide) dX12_cell_21 ?_
      refine W.eq (g2 := F0 m 22 ls [.ref t0]) rfl ?_
      refine lv_iload_n hx hb dX12_cell_22 rfl (lv_at hl 3 rfl) ?_
      refine lv_lload_n hx hb dX12_cell_23 rfl (lv_at hl 4 rfl) ?_
      have hFc := va_free (wc := [(t0, .inr (6, [.int (so 0), .int (sn 0), .ref a00, .ref a01, .ref a02, .ref a03])), (a00, .inl (T 0, 30, .inl (si 0))), (a01, .inl (T 1, 30, .inr (.inl (sl 0)))), (a02, .inl (T 2, 30, .inr (.inr (.inl (sf 0))))), (a03, .inl (T 3, 30, .inr (.inr (.inr (.inl (sd 0))))))]) hD hS hA [2, 6, 7, 8, 9] rfl
      refine va_calli (va_runV (As := [.int x2, .long x3]) (rest := []) ⟨hx, hb, hml, hown, hts⟩ (c_X9_store l D T _ t0 (so 0) (sn 0) a00 a01 a02 a03 (si 0) (sl 0) (sf 0) (sd 0) x2 x3 (by rw [vp_in_iff]; omega)) (cwV 2 hts gX12_cell_X9_store rfl rfl rfl hv_X9_store ⟨Nat.le_of_ble_eq_true rfl, Nat.le_of_ble_eq_true rfl⟩) (pW_V (q := (RX9, TX9, 6)) (ci := 6) (q0 := 2) hP hE hD rfl rfl [2, 6, 7, 8, 9] (by decide +kernel) rfl rfl) rfl rfl hl.1 rfl (lv_room (Nat.le_of_ble_eq_true rfl)) dX12_cell_24 ⟨Nat.le_of_ble_eq_true rfl, Nat.le_of_ble_eq_true rfl⟩) hS (fun q _ h => hFc q h) hFc (fun r_3 u_4 t H1 locs ht hvm hr_3 hB hz1 hk1 hS => ?_)
      obtain ⟨f_5, f_6, f_7, f_8⟩ := u_4
      obtain ⟨hP1, hD1⟩ := hB
      rw [ht] at hP1
      obtain ⟨hP, hD⟩ := va_repl [(h0, .inr (9, fs0)), (h1, .inl (T 6, 4, .inr (.inr (.inr (.inr (va_up (va_up (va_up (va_up (fun _ => none) 0 (some t0)) 1 (some t1)) 2 (some t2)) 3 (some t3))))))), (t0, .inr (6, [.int (so 0), .int (sn 0), .ref a00, .ref a01, .ref a02, .ref a03])), (t1, .inr (6, [.int (so 1), .int (sn 1), .ref a10, .ref a11, .ref a12, .ref a13])), (t2, .inr (6, [.int (so 2), .int (sn 2), .ref a20, .ref a21, .ref a22, .ref a23])), (t3, .inr (6, [.int (so 3), .int (sn 3), .ref a30, .ref a31, .ref a32, .ref a33])), (a00, .inl (T 0, 30, .inl f_5)), (a01, .inl (T 1, 30, .inr (.inl f_6))), (a02, .inl (T 2, 30, .inr (.inr (.inl f_7)))), (a03, .inl (T 3, 30, .inr (.inr (.inr (.inl f_8))))), (a10, .inl (T 0, 30, .inl (si 1))), (a11, .inl (T 1, 30, .inr (.inl (sl 1)))), (a12, .inl (T 2, 30, .inr (.inr (.inl (sf 1))))), (a13, .inl (T 3, 30, .inr (.inr (.inr (.inl (sd 1)))))), (a20, .inl (T 0, 30, .inl (si 2))), (a21, .inl (T 1, 30, .inr (.inl (sl 2)))), (a22, .inl (T 2, 30, .inr (.inr (.inl (sf 2))))), (a23, .inl (T 3, 30, .inr (.inr (.inr (.inl (sd 2)))))), (a30, .inl (T 0, 30, .inl (si 3))), (a31, .inl (T 1, 30, .inr (.inl (sl 3)))), (a32, .inl (T 2, 30, .inr (.inr (.inl (sf 3))))), (a33, .inl (T 3, 30, .inr (.inr (.inr (.inl (sd 3))))))] hP hD [2, 6, 7, 8, 9] [2, 6, 7, 8, 9] rfl (by decide +kernel) rfl rfl rfl hk1 hP1
      clear hP1 hD1 hFc
      generalize H1 = H at hP hS ⊢
      refine lv_if_eq (tgt := 34) hx hb dX12_cell_27 (by decide +kernel) (fun c_9 => ?_) (fun c_9 => ?_)
      · rw [fa_eq] at c_9
        try rw [ti_0] at c_9
        refine lv_bipush (v := (-5)) hx hb dX12_cell_34 (by decide +kernel) ?_
        exact W.iret hx hb hr (fun t ht hW => ⟨⟨_, ((fun k => [f_5, (si 1), (si 2), (si 3)].getD k f_5), (fun k => [f_6, (sl 1), (sl 2), (sl 3)].getD k f_6), (fun k => [f_7, (sf 1), (sf 2), (sf 3)].getD k f_7), (fun k => [f_8, (sd 1), (sd 2), (sd 3)].getD k f_8)), rfl, (by (try dsimp only); have h9a1 : (so ((0 : Int32).toNatClampNeg)).toInt = (so 0).toInt := rfl; have h9b1 : (sn ((0 : Int32).toNatClampNeg)).toInt = (sn 0).toInt := rfl; have h9c1 : (0 : Int32).toInt = 0 := (by decide +kernel); have h9r : ((-5) : Int32).toInt = -5 := (by decide +kernel); omega), by rw [ht]; exact hP.sub [0, 1, 2, 3, 4, 5, 6, 7, 8, 9, 10, 11, 12, 13, 14, 15, 16, 17, 18, 19, 20, 21] rfl, hD.sub [0, 1, 2, 3, 4, 5, 6, 7, 8, 9, 10, 11, 12, 13, 14, 15, 16, 17, 18, 19, 20, 21] (by decide +kernel) rfl⟩, hS.F ht⟩) hS.2.2 dX12_cell_36
      · rw [fa_eq] at c_9
        try rw [ti_0] at c_9
        refine lv_iconst (v := 1) hx hb dX12_cell_30 (by decide +kernel) ?_
        refine lv_goto (tgt := 36) hx hb dX12_cell_31 (by decide +kernel) ?_
        exact W.iret hx hb hr (fun t ht hW => ⟨⟨_, ((fun k => [f_5, (si 1), (si 2), (si 3)].getD k f_5), (fun k => [f_6, (sl 1), (sl 2), (sl 3)].getD k f_6), (fun k => [f_7, (sf 1), (sf 2), (sf 3)].getD k f_7), (fun k => [f_8, (sd 1), (sd 2), (sd 3)].getD k f_8)), rfl, (by (try dsimp only); have h9a1 : (so ((0 : Int32).toNatClampNeg)).toInt = (so 0).toInt := rfl; have h9b1 : (sn ((0 : Int32).toNatClampNeg)).toInt = (sn 0).toInt := rfl; have h9c1 : (0 : Int32).toInt = 0 := (by decide +kernel); have h9r : (1 : Int32).toInt = 1 := (by decide +kernel); omega), by rw [ht]; exact hP.sub [0, 1, 2, 3, 4, 5, 6, 7, 8, 9, 10, 11, 12, 13, 14, 15, 16, 17, 18, 19, 20, 21] rfl, hD.sub [0, 1, 2, 3, 4, 5, 6, 7, 8, 9, 10, 11, 12, 13, 14, 15, 16, 17, 18, 19, 20, 21] (by decide +kernel) rfl⟩, hS.F ht⟩) hS.2.2 dX12_cell_36
    · have h9t := ti_1
      refine va_aldq hx hb hE.1 hP 1 6 rfl rfl (by unfold vp_in; decide) dX12_cell_21 ?_
      refine W.eq (g2 := F0 m 22 ls [.ref t1]) rfl ?_
      refine lv_iload_n hx hb dX12_cell_22 rfl (lv_at hl 3 rfl) ?_
      refine lv_lload_n hx hb dX12_cell_23 rfl (lv_at hl 4 rfl) ?_
      have hFc := va_free (wc := [(t1, .inr (6, [.int (so 1), .int (sn 1), .ref a10, .ref a11, .ref a12, .ref a13])), (a10, .inl (T 0, 30, .inl (si 1))), (a11, .inl (T 1, 30, .inr (.inl (sl 1)))), (a12, .inl (T 2, 30, .inr (.inr (.inl (sf 1))))), (a13, .inl (T 3, 30, .inr (.inr (.inr (.inl (sd 1))))))]) hD hS hA [3, 10, 11, 12, 13] rfl
      refine va_calli (va_runV (As := [.int x2, .long x3]) (rest := []) ⟨hx, hb, hml, hown, hts⟩ (c_X9_store l D T _ t1 (so 1) (sn 1) a10 a11 a12 a13 (si 1) (sl 1) (sf 1) (sd 1) x2 x3 (by rw [vp_in_iff]; omega)) (cwV 2 hts gX12_cell_X9_store rfl rfl rfl hv_X9_store ⟨Nat.le_of_ble_eq_true rfl, Nat.le_of_ble_eq_true rfl⟩) (pW_V (q := (RX9, TX9, 6)) (ci := 6) (q0 := 3) hP hE hD rfl rfl [3, 10, 11, 12, 13] (by decide +kernel) rfl rfl) rfl rfl hl.1 rfl (lv_room (Nat.le_of_ble_eq_true rfl)) dX12_cell_24 ⟨Nat.le_of_ble_eq_true rfl, Nat.le_of_ble_eq_true rfl⟩) hS (fun q _ h => hFc q h) hFc (fun r_10 u_11 t H1 locs ht hvm hr_10 hB hz1 hk1 hS => ?_)
      obtain ⟨f_12, f_13, f_14, f_15⟩ := u_11
      obtain ⟨hP1, hD1⟩ := hB
      rw [ht] at hP1
      obtain ⟨hP, hD⟩ := va_repl [(h0, .inr (9, fs0)), (h1, .inl (T 6, 4, .inr (.inr (.inr (.inr (va_up (va_up (va_up (va_up (fun _ => none) 0 (some t0)) 1 (some t1)) 2 (some t2)) 3 (some t3))))))), (t0, .inr (6, [.int (so 0), .int (sn 0), .ref a00, .ref a01, .ref a02, .ref a03])), (t1, .inr (6, [.int (so 1), .int (sn 1), .ref a10, .ref a11, .ref a12, .ref a13])), (t2, .inr (6, [.int (so 2), .int (sn 2), .ref a20, .ref a21, .ref a22, .ref a23])), (t3, .inr (6, [.int (so 3), .int (sn 3), .ref a30, .ref a31, .ref a32, .ref a33])), (a00, .inl (T 0, 30, .inl (si 0))), (a01, .inl (T 1, 30, .inr (.inl (sl 0)))), (a02, .inl (T 2, 30, .inr (.inr (.inl (sf 0))))), (a03, .inl (T 3, 30, .inr (.inr (.inr (.inl (sd 0)))))), (a10, .inl (T 0, 30, .inl f_12)), (a11, .inl (T 1, 30, .inr (.inl f_13))), (a12, .inl (T 2, 30, .inr (.inr (.inl f_14)))), (a13, .inl (T 3, 30, .inr (.inr (.inr (.inl f_15))))), (a20, .inl (T 0, 30, .inl (si 2))), (a21, .inl (T 1, 30, .inr (.inl (sl 2)))), (a22, .inl (T 2, 30, .inr (.inr (.inl (sf 2))))), (a23, .inl (T 3, 30, .inr (.inr (.inr (.inl (sd 2)))))), (a30, .inl (T 0, 30, .inl (si 3))), (a31, .inl (T 1, 30, .inr (.inl (sl 3)))), (a32, .inl (T 2, 30, .inr (.inr (.inl (sf 3))))), (a33, .inl (T 3, 30, .inr (.inr (.inr (.inl (sd 3))))))] hP hD [3, 10, 11, 12, 13] [3, 10, 11, 12, 13] rfl (by decide +kernel) rfl rfl rfl hk1 hP1
      clear hP1 hD1 hFc
      generalize H1 = H at hP hS ⊢
      refine lv_if_eq (tgt := 34) hx hb dX12_cell_27 (by decide +kernel) (fun c_16 => ?_) (fun c_16 => ?_)
      · rw [fa_eq] at c_16
        try rw [ti_0] at c_16
        refine lv_bipush (v := (-5)) hx hb dX12_cell_34 (by decide +kernel) ?_
        exact W.iret hx hb hr (fun t ht hW => ⟨⟨_, ((fun k => [(si 0), f_12, (si 2), (si 3)].getD k (si 0)), (fun k => [(sl 0), f_13, (sl 2), (sl 3)].getD k (sl 0)), (fun k => [(sf 0), f_14, (sf 2), (sf 3)].getD k (sf 0)), (fun k => [(sd 0), f_15, (sd 2), (sd 3)].getD k (sd 0))), rfl, (by (try dsimp only); have h9a1 : (so ((1 : Int32).toNatClampNeg)).toInt = (so 1).toInt := rfl; have h9b1 : (sn ((1 : Int32).toNatClampNeg)).toInt = (sn 1).toInt := rfl; have h9c1 : (1 : Int32).toInt = 1 := (by decide +kernel); have h9r : ((-5) : Int32).toInt = -5 := (by decide +kernel); omega), by rw [ht]; exact hP.sub [0, 1, 2, 3, 4, 5, 6, 7, 8, 9, 10, 11, 12, 13, 14, 15, 16, 17, 18, 19, 20, 21] rfl, hD.sub [0, 1, 2, 3, 4, 5, 6, 7, 8, 9, 10, 11, 12, 13, 14, 15, 16, 17, 18, 19, 20, 21] (by decide +kernel) rfl⟩, hS.F ht⟩) hS.2.2 dX12_cell_36
      · rw [fa_eq] at c_16
        try rw [ti_0] at c_16
        refine lv_iconst (v := 1) hx hb dX12_cell_30 (by decide +kernel) ?_
        refine lv_goto (tgt := 36) hx hb dX12_cell_31 (by decide +kernel) ?_
        exact W.iret hx hb hr (fun t ht hW => ⟨⟨_, ((fun k => [(si 0), f_12, (si 2), (si 3)].getD k (si 0)), (fun k => [(sl 0), f_13, (sl 2), (sl 3)].getD k (sl 0)), (fun k => [(sf 0), f_14, (sf 2), (sf 3)].getD k (sf 0)), (fun k => [(sd 0), f_15, (sd 2), (sd 3)].getD k (sd 0))), rfl, (by (try dsimp only); have h9a1 : (so ((1 : Int32).toNatClampNeg)).toInt = (so 1).toInt := rfl; have h9b1 : (sn ((1 : Int32).toNatClampNeg)).toInt = (sn 1).toInt := rfl; have h9c1 : (1 : Int32).toInt = 1 := (by decide +kernel); have h9r : (1 : Int32).toInt = 1 := (by decide +kernel); omega), by rw [ht]; exact hP.sub [0, 1, 2, 3, 4, 5, 6, 7, 8, 9, 10, 11, 12, 13, 14, 15, 16, 17, 18, 19, 20, 21] rfl, hD.sub [0, 1, 2, 3, 4, 5, 6, 7, 8, 9, 10, 11, 12, 13, 14, 15, 16, 17, 18, 19, 20, 21] (by decide +kernel) rfl⟩, hS.F ht⟩) hS.2.2 dX12_cell_36
    · have h9t := ti_2
      refine va_aldq hx hb hE.1 hP 1 6 rfl rfl (by unfold vp_in; decide) dX12_cell_21 ?_
      refine W.eq (g2 := F0 m 22 ls [.ref t2]) rfl ?_
      refine lv_iload_n hx hb dX12_cell_22 rfl (lv_at hl 3 rfl) ?_
      refine lv_lload_n hx hb dX12_cell_23 rfl (lv_at hl 4 rfl) ?_
      have hFc := va_free (wc := [(t2, .inr (6, [.int (so 2), .int (sn 2), .ref a20, .ref a21, .ref a22, .ref a23])), (a20, .inl (T 0, 30, .inl (si 2))), (a21, .inl (T 1, 30, .inr (.inl (sl 2)))), (a22, .inl (T 2, 30, .inr (.inr (.inl (sf 2))))), (a23, .inl (T 3, 30, .inr (.inr (.inr (.inl (sd 2))))))]) hD hS hA [4, 14, 15, 16, 17] rfl
      refine va_calli (va_runV (As := [.int x2, .long x3]) (rest := []) ⟨hx, hb, hml, hown, hts⟩ (c_X9_store l D T _ t2 (so 2) (sn 2) a20 a21 a22 a23 (si 2) (sl 2) (sf 2) (sd 2) x2 x3 (by rw [vp_in_iff]; omega)) (cwV 2 hts gX12_cell_X9_store rfl rfl rfl hv_X9_store ⟨Nat.le_of_ble_eq_true rfl, Nat.le_of_ble_eq_true rfl⟩) (pW_V (q := (RX9, TX9, 6)) (ci := 6) (q0 := 4) hP hE hD rfl rfl [4, 14, 15, 16, 17] (by decide +kernel) rfl rfl) rfl rfl hl.1 rfl (lv_room (Nat.le_of_ble_eq_true rfl)) dX12_cell_24 ⟨Nat.le_of_ble_eq_true rfl, Nat.le_of_ble_eq_true rfl⟩) hS (fun q _ h => hFc q h) hFc (fun r_17 u_18 t H1 locs ht hvm hr_17 hB hz1 hk1 hS => ?_)
      obtain ⟨f_19, f_20, f_21, f_22⟩ := u_18
      obtain ⟨hP1, hD1⟩ := hB
      rw [ht] at hP1
      obtain ⟨hP, hD⟩ := va_repl [(h0, .inr (9, fs0)), (h1, .inl (T 6, 4, .inr (.inr (.inr (.inr (va_up (va_up (va_up (va_up (fun _ => none) 0 (some t0)) 1 (some t1)) 2 (some t2)) 3 (some t3))))))), (t0, .inr (6, [.int (so 0), .int (sn 0), .ref a00, .ref a01, .ref a02, .ref a03])), (t1, .inr (6, [.int (so 1), .int (sn 1), .ref a10, .ref a11, .ref a12, .ref a13])), (t2, .inr (6, [.int (so 2), .int (sn 2), .ref a20, .ref a21, .ref a22, .ref a23])), (t3, .inr (6, [.int (so 3), .int (sn 3), .ref a30, .ref a31, .ref a32, .ref a33])), (a00, .inl (T 0, 30, .inl (si 0))), (a01, .inl (T 1, 30, .inr (.inl (sl 0)))), (a02, .inl (T 2, 30, .inr (.inr (.inl (sf 0))))), (a03, .inl (T 3, 30, .inr (.inr (.inr (.inl (sd 0)))))), (a10, .inl (T 0, 30, .inl (si 1))), (a11, .inl (T 1, 30, .inr (.inl (sl 1)))), (a12, .inl (T 2, 30, .inr (.inr (.inl (sf 1))))), (a13, .inl (T 3, 30, .inr (.inr (.inr (.inl (sd 1)))))), (a20, .inl (T 0, 30, .inl f_19)), (a21, .inl (T 1, 30, .inr (.inl f_20))), (a22, .inl (T 2, 30, .inr (.inr (.inl f_21)))), (a23, .inl (T 3, 30, .inr (.inr (.inr (.inl f_22))))), (a30, .inl (T 0, 30, .inl (si 3))), (a31, .inl (T 1, 30, .inr (.inl (sl 3)))), (a32, .inl (T 2, 30, .inr (.inr (.inl (sf 3))))), (a33, .inl (T 3, 30, .inr (.inr (.inr (.inl (sd 3))))))] hP hD [4, 14, 15, 16, 17] [4, 14, 15, 16, 17] rfl (by decide +kernel) rfl rfl rfl hk1 hP1
      clear hP1 hD1 hFc
      generalize H1 = H at hP hS ⊢
      refine lv_if_eq (tgt := 34) hx hb dX12_cell_27 (by decide +kernel) (fun c_23 => ?_) (fun c_23 => ?_)
      · rw [fa_eq] at c_23
        try rw [ti_0] at c_23
        refine lv_bipush (v := (-5)) hx hb dX12_cell_34 (by decide +kernel) ?_
        exact W.iret hx hb hr (fun t ht hW => ⟨⟨_, ((fun k => [(si 0), (si 1), f_19, (si 3)].getD k (si 0)), (fun k => [(sl 0), (sl 1), f_20, (sl 3)].getD k (sl 0)), (fun k => [(sf 0), (sf 1), f_21, (sf 3)].getD k (sf 0)), (fun k => [(sd 0), (sd 1), f_22, (sd 3)].getD k (sd 0))), rfl, (by (try dsimp only); have h9a1 : (so ((2 : Int32).toNatClampNeg)).toInt = (so 2).toInt := rfl; have h9b1 : (sn ((2 : Int32).toNatClampNeg)).toInt = (sn 2).toInt := rfl; have h9c1 : (2 : Int32).toInt = 2 := (by decide +kernel); have h9r : ((-5) : Int32).toInt = -5 := (by decide +kernel); omega), by rw [ht]; exact hP.sub [0, 1, 2, 3, 4, 5, 6, 7, 8, 9, 10, 11, 12, 13, 14, 15, 16, 17, 18, 19, 20, 21] rfl, hD.sub [0, 1, 2, 3, 4, 5, 6, 7, 8, 9, 10, 11, 12, 13, 14, 15, 16, 17, 18, 19, 20, 21] (by decide +kernel) rfl⟩, hS.F ht⟩) hS.2.2 dX12_cell_36
      · rw [fa_eq] at c_23
        try rw [ti_0] at c_23
        refine lv_iconst (v := 1) hx hb dX12_cell_30 (by decide +kernel) ?_
        refine lv_goto (tgt := 36) hx hb dX12_cell_31 (by decide +kernel) ?_
        exact W.iret hx hb hr (fun t ht hW => ⟨⟨_, ((fun k => [(si 0), (si 1), f_19, (si 3)].getD k (si 0)), (fun k => [(sl 0), (sl 1), f_20, (sl 3)].getD k (sl 0)), (fun k => [(sf 0), (sf 1), f_21, (sf 3)].getD k (sf 0)), (fun k => [(sd 0), (sd 1), f_22, (sd 3)].getD k (sd 0))), rfl, (by (try dsimp only); have h9a1 : (so ((2 : Int32).toNatClampNeg)).toInt = (so 2).toInt := rfl; have h9b1 : (sn ((2 : Int32).toNatClampNeg)).toInt = (sn 2).toInt := rfl; have h9c1 : (2 : Int32).toInt = 2 := (by decide +kernel); have h9r : (1 : Int32).toInt = 1 := (by decide +kernel); omega), by rw [ht]; exact hP.sub [0, 1, 2, 3, 4, 5, 6, 7, 8, 9, 10, 11, 12, 13, 14, 15, 16, 17, 18, 19, 20, 21] rfl, hD.sub [0, 1, 2, 3, 4, 5, 6, 7, 8, 9, 10, 11, 12, 13, 14, 15, 16, 17, 18, 19, 20, 21] (by decide +kernel) rfl⟩, hS.F ht⟩) hS.2.2 dX12_cell_36
    · have h9t := ti_3
      refine va_aldq hx hb hE.1 hP 1 6 rfl rfl (by unfold vp_in; decide) dX12_cell_21 ?_
      refine W.eq (g2 := F0 m 22 ls [.ref t3]) rfl ?_
      refine lv_iload_n hx hb dX12_cell_22 rfl (lv_at hl 3 rfl) ?_
      refine lv_lload_n hx hb dX12_cell_23 rfl (lv_at hl 4 rfl) ?_
      have hFc := va_free (wc := [(t3, .inr (6, [.int (so 3), .int (sn 3), .ref a30, .ref a31, .ref a32, .ref a33])), (a30, .inl (T 0, 30, .inl (si 3))), (a31, .inl (T 1, 30, .inr (.inl (sl 3)))), (a32, .inl (T 2, 30, .inr (.inr (.inl (sf 3))))), (a33, .inl (T 3, 30, .inr (.inr (.inr (.inl (sd 3))))))]) hD hS hA [5, 18, 19, 20, 21] rfl
      refine va_calli (va_runV (As := [.int x2, .long x3]) (rest := []) ⟨hx, hb, hml, hown, hts⟩ (c_X9_store l D T _ t3 (so 3) (sn 3) a30 a31 a32 a33 (si 3) (sl 3) (sf 3) (sd 3) x2 x3 (by rw [vp_in_iff]; omega)) (cwV 2 hts gX12_cell_X9_store rfl rfl rfl hv_X9_store ⟨Nat.le_of_ble_eq_true rfl, Nat.le_of_ble_eq_true rfl⟩) (pW_V (q := (RX9, TX9, 6)) (ci := 6) (q0 := 5) hP hE hD rfl rfl [5, 18, 19, 20, 21] (by decide +kernel) rfl rfl) rfl rfl hl.1 rfl (lv_room (Nat.le_of_ble_eq_true rfl)) dX12_cell_24 ⟨Nat.le_of_ble_eq_true rfl, Nat.le_of_ble_eq_true rfl⟩) hS (fun q _ h => hFc q h) hFc (fun r_24 u_25 t H1 locs ht hvm hr_24 hB hz1 hk1 hS => ?_)
      obtain ⟨f_26, f_27, f_28, f_29⟩ := u_25
      obtain ⟨hP1, hD1⟩ := hB
      rw [ht] at hP1
      obtain ⟨hP, hD⟩ := va_repl [(h0, .inr (9, fs0)), (h1, .inl (T 6, 4, .inr (.inr (.inr (.inr (va_up (va_up (va_up (va_up (fun _ => none) 0 (some t0)) 1 (some t1)) 2 (some t2)) 3 (some t3))))))), (t0, .inr (6, [.int (so 0), .int (sn 0), .ref a00, .ref a01, .ref a02, .ref a03])), (t1, .inr (6, [.int (so 1), .int (sn 1), .ref a10, .ref a11, .ref a12, .ref a13])), (t2, .inr (6, [.int (so 2), .int (sn 2), .ref a20, .ref a21, .ref a22, .ref a23])), (t3, .inr (6, [.int (so 3), .int (sn 3), .ref a30, .ref a31, .ref a32, .ref a33])), (a00, .inl (T 0, 30, .inl (si 0))), (a01, .inl (T 1, 30, .inr (.inl (sl 0)))), (a02, .inl (T 2, 30, .inr (.inr (.inl (sf 0))))), (a03, .inl (T 3, 30, .inr (.inr (.inr (.inl (sd 0)))))), (a10, .inl (T 0, 30, .inl (si 1))), (a11, .inl (T 1, 30, .inr (.inl (sl 1)))), (a12, .inl (T 2, 30, .inr (.inr (.inl (sf 1))))), (a13, .inl (T 3, 30, .inr (.inr (.inr (.inl (sd 1)))))), (a20, .inl (T 0, 30, .inl (si 2))), (a21, .inl (T 1, 30, .inr (.inl (sl 2)))), (a22, .inl (T 2, 30, .inr (.inr (.inl (sf 2))))), (a23, .inl (T 3, 30, .inr (.inr (.inr (.inl (sd 2)))))), (a30, .inl (T 0, 30, .inl f_26)), (a31, .inl (T 1, 30, .inr (.inl f_27))), (a32, .inl (T 2, 30, .inr (.inr (.inl f_28)))), (a33, .inl (T 3, 30, .inr (.inr (.inr (.inl f_29)))))] hP hD [5, 18, 19, 20, 21] [5, 18, 19, 20, 21] rfl (by decide +kernel) rfl rfl rfl hk1 hP1
      clear hP1 hD1 hFc
      generalize H1 = H at hP hS ⊢
      refine lv_if_eq (tgt := 34) hx hb dX12_cell_27 (by decide +kernel) (fun c_30 => ?_) (fun c_30 => ?_)
      · rw [fa_eq] at c_30
        try rw [ti_0] at c_30
        refine lv_bipush (v := (-5)) hx hb dX12_cell_34 (by decide +kernel) ?_
        exact W.iret hx hb hr (fun t ht hW => ⟨⟨_, ((fun k => [(si 0), (si 1), (si 2), f_26].getD k (si 0)), (fun k => [(sl 0), (sl 1), (sl 2), f_27].getD k (sl 0)), (fun k => [(sf 0), (sf 1), (sf 2), f_28].getD k (sf 0)), (fun k => [(sd 0), (sd 1), (sd 2), f_29].getD k (sd 0))), rfl, (by (try dsimp only); have h9a1 : (so ((3 : Int32).toNatClampNeg)).toInt = (so 3).toInt := rfl; have h9b1 : (sn ((3 : Int32).toNatClampNeg)).toInt = (sn 3).toInt := rfl; have h9c1 : (3 : Int32).toInt = 3 := (by decide +kernel); have h9r : ((-5) : Int32).toInt = -5 := (by decide +kernel); omega), by rw [ht]; exact hP.sub [0, 1, 2, 3, 4, 5, 6, 7, 8, 9, 10, 11, 12, 13, 14, 15, 16, 17, 18, 19, 20, 21] rfl, hD.sub [0, 1, 2, 3, 4, 5, 6, 7, 8, 9, 10, 11, 12, 13, 14, 15, 16, 17, 18, 19, 20, 21] (by decide +kernel) rfl⟩, hS.F ht⟩) hS.2.2 dX12_cell_36
      · rw [fa_eq] at c_30
        try rw [ti_0] at c_30
        refine lv_iconst (v := 1) hx hb dX12_cell_30 (by decide +kernel) ?_
        refine lv_goto (tgt := 36) hx hb dX12_cell_31 (by decide +kernel) ?_
        exact W.iret hx hb hr (fun t ht hW => ⟨⟨_, ((fun k => [(si 0), (si 1), (si 2), f_26].getD k (si 0)), (fun k => [(sl 0), (sl 1), (sl 2), f_27].getD k (sl 0)), (fun k => [(sf 0), (sf 1), (sf 2), f_28].getD k (sf 0)), (fun k => [(sd 0), (sd 1), (sd 2), f_29].getD k (sd 0))), rfl, (by (try dsimp only); have h9a1 : (so ((3 : Int32).toNatClampNeg)).toInt = (so 3).toInt := rfl; have h9b1 : (sn ((3 : Int32).toNatClampNeg)).toInt = (sn 3).toInt := rfl; have h9c1 : (3 : Int32).toInt = 3 := (by decide +kernel); have h9r : (1 : Int32).toInt = 1 := (by decide +kernel); omega), by rw [ht]; exact hP.sub [0, 1, 2, 3, 4, 5, 6, 7, 8, 9, 10, 11, 12, 13, 14, 15, 16, 17, 18, 19, 20, 21] rfl, hD.sub [0, 1, 2, 3, 4, 5, 6, 7, 8, 9, 10, 11, 12, 13, 14, 15, 16, 17, 18, 19, 20, 21] (by decide +kernel) rfl⟩, hS.F ht⟩) hS.2.2 dX12_cell_36
  · rw [fa_eq] at c_2
    try rw [ti_0] at c_2
    refine lv_iload hx hb dX12_cell_13 (lv_at hl 0 rfl) ?_
    exact W.iret hx hb hr (fun t ht hW => ⟨⟨_, ((fun k => [(si 0), (si 1), (si 2), (si 3)].getD k (si 0)), (fun k => [(sl 0), (sl 1), (sl 2), (sl 3)].getD k (sl 0)), (fun k => [(sf 0), (sf 1), (sf 2), (sf 3)].getD k (sf 0)), (fun k => [(sd 0), (sd 1), (sd 2), (sd 3)].getD k (sd 0))), rfl, (by (try dsimp only); omega), by rw [ht]; exact hP.sub [0, 1, 2, 3, 4, 5, 6, 7, 8, 9, 10, 11, 12, 13, 14, 15, 16, 17, 18, 19, 20, 21] rfl, hD.sub [0, 1, 2, 3, 4, 5, 6, 7, 8, 9, 10, 11, 12, 13, 14, 15, 16, 17, 18, 19, 20, 21] (by decide +kernel) rfl⟩, hS.F ht⟩) hS.2.2 dX12_cell_15
end
