/-! base: order of ints (of kit/laws/NUMBERS), the fixed surroundings of every contract (array classes, nest links), contracts' forms -/
theorem fa_lt (a b : Int32) : a < b ↔ a.toInt < b.toInt := Int32.lt_iff_toInt_lt
theorem fa_le (a b : Int32) : a ≤ b ↔ a.toInt ≤ b.toInt := Int32.le_iff_toInt_le
theorem fa_eq (a b : Int32) : a = b ↔ a.toInt = b.toInt := Int32.toInt_inj.symm
theorem fa_lt64 (a b : Int64) : a < b ↔ a.toInt < b.toInt := Int64.lt_iff_toInt_lt
theorem fa_le64 (a b : Int64) : a ≤ b ↔ a.toInt ≤ b.toInt := Int64.le_iff_toInt_le
theorem fa_eq64 (a b : Int64) : a = b ↔ a.toInt = b.toInt := Int64.toInt_inj.symm
/-- the array classes by their places -/
abbrev tyL (T : Nat → ClassId) : List (ClassId × FieldType) := [(T 0, .int), (T 1, .long), (T 2, .float), (T 3, .double), (T 4, .boolean), (T 5, .object "ClauseBook$Bag"), (T 6, .object "ClauseBook$Sheet"), (T 7, .object "ClauseBook$Hand"), (T 8, .object "java/lang/String")]
/-- the nest links -/
def nwM : List (String × Nat × MethodName) := [(RX6, 11, yX8_init), (RX6, 20, yX2_init), (RX6, 31, yX1_init), (RX12, 58, yX10_init), (RX12, 75, yX9_init), (RX12, 76, yX4_init), (RX7, 79, yX12_within), (RX2, 37, yX12_within), (RX10, 50, yX12_within)]
def nwF : List (String × Nat) := [(RX12, 126), (RX2, 41), (RX10, 34)]
def nwAll (U : State) : Prop := (∀ q ∈ nwM, va_Nw (.methodLinkNest q.1 q.2.1 q.2.2 RX12) U) ∧ (∀ q ∈ nwF, va_Nw (.fieldLinkNest q.1 q.2 RX7 "ALL" "[LClauseBook$Kind;" RX12) U) ∧ (∀ q ∈ (["ClauseBook$Bag", "ClauseBook$Sheet", "ClauseBook$Hand", "java/lang/String"] : List String), va_AO q U)
def ekK (D : va_G) (T : Nat → ClassId) (U : State) : Prop := va_K D vwCl (tyL T) U ∧ nwAll U
theorem ekK.warm {D : va_G} {T : Nat → ClassId} {s U : State} (hW : s.WarmedH U.vm) (h : ekK D T s) : ekK D T U :=
  ⟨va_K.moved hW.alike h.1, fun q hq => va_Nw.warmM hW (h.2.1 q hq), fun q hq => va_Nw.warmF hW (h.2.2.1 q hq), fun q hq => va_AO.moved hW.alike (h.2.2.2 q hq)⟩
theorem ekK.same {D : va_G} {T : Nat → ClassId} {u U : State} (hv : u.vm = U.vm) (h : ekK D T u) : ekK D T U :=
  ⟨va_K.moved (hv ▸ Vm.Alike.refl u.vm) h.1, fun q hq => va_Nw.same rfl hv (h.2.1 q hq), fun q hq => va_Nw.same rfl hv (h.2.2.1 q hq), fun q hq => va_AO.moved (hv ▸ Vm.Alike.refl u.vm) (h.2.2.2 q hq)⟩
/-- a reading contract's start -/
def pR (av : List Value) (D : va_G) (T : Nat → ClassId) (ws : va_W) : Array Value → State → Prop := va_Pc av (fun U => va_P D vwCl ws U.heap ∧ ekK D T U)
/-- a writing contract's start -/
def pW (av : List Value) (D : va_G) (T : Nat → ClassId) (ws : va_W) (sz : Nat) : Array Value → State → Prop := va_Pc av (fun U => U.heap.size = sz ∧ va_P D vwCl ws U.heap ∧ ekK D T U ∧ va_D (fun _ => True) ws)
theorem pR_blind {av : List Value} {D : va_G} {T : Nat → ClassId} {ws : va_W} : FrameBlind (pR av D T ws) := fun a U g mk q => by
  obtain ⟨q0, qP, qE⟩ := q
  exact ⟨q0, qP, ekK.same (u := U) (U := U.calling g mk a) rfl qE⟩
theorem pW_blind {av : List Value} {D : va_G} {T : Nat → ClassId} {ws : va_W} {sz : Nat} : FrameBlind (pW av D T ws sz) := fun a U g mk q => by
  obtain ⟨q0, q1, qP, qE, qD⟩ := q
  exact ⟨q0, q1, qP, ekK.same (u := U) (U := U.calling g mk a) rfl qE, qD⟩
theorem pR_S {As : List Value} {D : va_G} {T : Nat → ClassId} {ws wc : va_W} {s : State} {H : Heap} (hP : va_P D vwCl ws H) (hE : ekK D T s) (is : List Nat) (hs : is.filterMap (fun i => ws[i]?) = wc) : PreS s H (pR As D T wc) As :=
  ⟨pR_blind, fun U hU hW => ⟨rfl, by rw [hU]; exact hP.sub is hs, ekK.warm hW hE⟩⟩
theorem pR_V {As : List Value} {D : va_G} {T : Nat → ClassId} {ws wc : va_W} {s : State} {H : Heap} {b ci q0 : Nat} {q : vw_C} {fs : List Value} (hP : va_P D vwCl ws H) (hE : ekK D T s) (hc : vwCl[ci]? = some q) (he : ws[q0]? = some (b, .inr (ci, fs))) (is : List Nat) (hs : is.filterMap (fun i => ws[i]?) = wc) : PreV s H q.1 b (pR (.ref b :: As) D T wc) As :=
  ⟨pR_blind, va_recv hE.1 hP hc he, fun U hU hW => ⟨rfl, by rw [hU]; exact hP.sub is hs, ekK.warm hW hE⟩⟩
theorem pW_S {As : List Value} {D : va_G} {T : Nat → ClassId} {ws wc : va_W} {s : State} {H : Heap} {A : Nat → Prop} (hP : va_P D vwCl ws H) (hE : ekK D T s) (hD : va_D A ws) (is : List Nat) (hn : va_nd is = true) (hs : is.map (fun i => ws[i]?) = wc.map some) (hs2 : is.filterMap (fun i => ws[i]?) = wc) : PreS s H (pW As D T wc H.size) As :=
  ⟨pW_blind, fun U hU hW => ⟨rfl, by rw [hU], by rw [hU]; exact hP.sub is hs2, ekK.warm hW hE, (hD.sub is hn hs).weaken (fun _ _ _ _ => trivial)⟩⟩
theorem pW_V {As : List Value} {D : va_G} {T : Nat → ClassId} {ws wc : va_W} {s : State} {H : Heap} {A : Nat → Prop} {b ci q0 : Nat} {q : vw_C} {fs : List Value} (hP : va_P D vwCl ws H) (hE : ekK D T s) (hD : va_D A ws) (hc : vwCl[ci]? = some q) (he : ws[q0]? = some (b, .inr (ci, fs))) (is : List Nat) (hn : va_nd is = true) (hs : is.map (fun i => ws[i]?) = wc.map some) (hs2 : is.filterMap (fun i => ws[i]?) = wc) : PreV s H q.1 b (pW (.ref b :: As) D T wc H.size) As :=
  ⟨pW_blind, va_recv hE.1 hP hc he, fun U hU hW => ⟨rfl, by rw [hU], by rw [hU]; exact hP.sub is hs2, ekK.warm hW hE, (hD.sub is hn hs).weaken (fun _ _ _ _ => trivial)⟩⟩
/-- a writing contract's world behind it -/
def bW (D : va_G) (A : Nat → Prop) {S : Type} (w1 : S → va_W) (u : S) (t : State) : Prop := va_P D vwCl (w1 u) t.heap ∧ va_D A (w1 u)
/-- a test's answer -/
theorem bool_post {c : Prop} [Decidable c] {r : Int32} (h : r = if c then 1 else 0) : (c ∧ r = 1) ∨ (¬ c ∧ r = 0) := by
  by_cases hc : c
  · left; rw [if_pos hc] at h; exact ⟨hc, h⟩
  · right; rw [if_neg hc] at h; exact ⟨hc, h⟩
theorem lcmp_lt (x y : Int64) : lg_cmp x y < 0 ↔ x.toInt < y.toInt := by
  unfold lg_cmp
  by_cases h1 : x > y
  · have h : y.toInt < x.toInt := (fa_lt64 y x).1 h1
    rw [if_pos h1]; exact ⟨fun h9 => absurd h9 (by decide), fun h9 => by omega⟩
  · by_cases h2 : x = y
    · subst h2; rw [if_neg h1, if_pos rfl]; exact ⟨fun h9 => absurd h9 (by decide), fun h9 => by omega⟩
    · rw [if_neg h1, if_neg h2]
      have h3 : ¬ y.toInt < x.toInt := fun h => h1 ((fa_lt64 y x).2 h)
      have h4 : ¬ x.toInt = y.toInt := fun h => h2 ((fa_eq64 x y).2 h)
      exact ⟨fun _ => by omega, fun _ => by decide⟩
theorem lcmp_gt (x y : Int64) : 0 < lg_cmp x y ↔ y.toInt < x.toInt := by
  unfold lg_cmp
  by_cases h1 : x > y
  · have h : y.toInt < x.toInt := (fa_lt64 y x).1 h1
    rw [if_pos h1]; exact ⟨fun _ => h, fun _ => by decide⟩
  · have h3 : ¬ y.toInt < x.toInt := fun h => h1 ((fa_lt64 y x).2 h)
    by_cases h2 : x = y
    · rw [if_neg h1, if_pos h2]; exact ⟨fun h9 => absurd h9 (by decide), fun h9 => absurd h9 h3⟩
    · rw [if_neg h1, if_neg h2]; exact ⟨fun h9 => absurd h9 (by decide), fun h9 => absurd h9 h3⟩
theorem lcmp_ge (x y : Int64) : 0 ≤ lg_cmp x y ↔ y.toInt ≤ x.toInt := by
  have h := lcmp_lt x y
  rw [fa_lt] at h
  rw [fa_le]
  have e0 : (0 : Int32).toInt = 0 := rfl
  omega
theorem lcmp_le (x y : Int64) : lg_cmp x y ≤ 0 ↔ x.toInt ≤ y.toInt := by
  have h := lcmp_gt x y
  rw [fa_lt] at h
  rw [fa_le]
  have e0 : (0 : Int32).toInt = 0 := rfl
  omega
theorem lcmp_eq (x y : Int64) : lg_cmp x y = 0 ↔ x.toInt = y.toInt := by
  have h := lcmp_gt x y
  have g := lcmp_lt x y
  rw [fa_lt] at h g
  rw [fa_eq]
  have e0 : (0 : Int32).toInt = 0 := rfl
  omega
theorem in2 {x : Int32} (h : 0 ≤ x.toInt ∧ x.toInt ≤ 1) : x = 0 ∨ x = 1 := by
  simp only [fa_eq]
  have e0 : (0 : Int32).toInt = 0 := rfl
  have e1 : (1 : Int32).toInt = 1 := rfl
  omega
theorem in3 {x : Int32} (h : 0 ≤ x.toInt ∧ x.toInt ≤ 2) : x = 0 ∨ x = 1 ∨ x = 2 := by
  simp only [fa_eq]
  have e0 : (0 : Int32).toInt = 0 := rfl
  have e1 : (1 : Int32).toInt = 1 := rfl
  have e2 : (2 : Int32).toInt = 2 := rfl
  omega
theorem in4 {x : Int32} (h : 0 ≤ x.toInt ∧ x.toInt ≤ 3) : x = 0 ∨ x = 1 ∨ x = 2 ∨ x = 3 := by
  simp only [fa_eq]
  have e0 : (0 : Int32).toInt = 0 := rfl
  have e1 : (1 : Int32).toInt = 1 := rfl
  have e2 : (2 : Int32).toInt = 2 := rfl
  have e3 : (3 : Int32).toInt = 3 := rfl
  omega
section NewArr
variable {p : Program} {l : Launch} {e : Env} {R : Room} {s : State} {m : MethodId} {args : Array Value} {below : List Frame} {meth : Method} {c : Code} {H : Heap} {locs : List Loc} {cells slots : Nat} {Q : State → Prop}
variable {cc : ByteArray} {pc : Nat} {ls : Array Slot} {rest : List Value} {D : va_G} {cl : List vw_C} {A : Nat → Prop} {a : Nat} {tys : List (ClassId × FieldType)} {ws : va_W} {H0 : Heap}
theorem va_RA.one {U : State} {cA cB : ClassId} {ty : FieldType} (h1 : va_RA U cA ty) (h2 : va_RA U cB ty) : cA = cB := by
  cases ty with
  | object C =>
    obtain ⟨kA, comp, -, -, -, h⟩ := h1
    obtain ⟨kB, comp2, -, -, -, g⟩ := h2
    exact Option.some.inj (h.symm.trans g)
  | _ => exact Option.some.inj (h1.symm.trans h2)
/-- a new array of a type that the surroundings name -/
theorem nw_newa (hexec : p.tables.exec = Jvm.exec) (hb : c.code = cc) {atype : ArrayType} (harr : (Cond.arrayClass (newarray.typeOf atype)).before args s = true) {ty : FieldType} (hty : newarray.typeOf atype = ty) (hK : va_K D cl tys s) (hP : va_P D cl ws H) (hD : va_D A ws) (hS : va_S A H0 H locs) (hA : ∀ q, H0.size ≤ q → A q) (t0 : Nat) {cT : ClassId} (ht : tys[t0]? = some (cT, ty))
    {n : Int32} {N' : Nat} {a0 : vp_A} (ha : ∀ cA : ClassId, vp_cell cA a0 = arrV cA N' (fun _ => defaultValue ty)) (hn : ¬ n < 0) (hN : n.toNatClampNeg = N') (hbytes : N' * componentBytes ty ≤ 536870912) (hcells : cells + 1 ≤ R.cells) (hslots : slots + N' ≤ R.slots) (hdg : decode cc pc = .ok (.newarray atype, 2))
    (kk : ∀ (q : Nat) (H1 : Heap), va_P D cl (ws ++ [(q, .inl (cT, a0))]) H1 → va_D A (ws ++ [(q, .inl (cT, a0))]) → va_S A H0 H1 locs →
      W p l e R s m args below meth c H1 locs (cells + 1) (slots + N') Q (F0 m (pc + 2) ls (.ref q :: rest))) : W p l e R s m args below meth c H locs cells slots Q (F0 m pc ls (.int n :: rest)) := by
  refine va_newa hexec hb harr hty hK hP hD hS hA ha hn hN hbytes hcells hslots hdg (fun q cA H1 hK1 hP1 hD1 hS1 => ?_)
  have e1 := (hK.2 t0 _ ht).2
  have e2 := (hK1.2 tys.length (cA, ty) (by rw [List.getElem?_append_right (Nat.le_refl _), Nat.sub_self]; rfl)).2
  have e3 : cA = cT := va_RA.one e2 e1
  subst e3
  exact kk q H1 hP1 hD1 hS1
theorem nw_newq (hexec : p.tables.exec = Jvm.exec) (hb : c.code = cc) {own C : String} {index : Nat} (hown : s.vm.findClass own = some m.cls) (hclink : (Cond.classLink own index C).before args s = true) (hover : va_AO C s) (hK : va_K D cl tys s) (hP : va_P D cl ws H) (hD : va_D A ws) (hS : va_S A H0 H locs) (hA : ∀ q, H0.size ≤ q → A q) (t0 : Nat) {cT : ClassId} (ht : tys[t0]? = some (cT, .object C))
    {n : Int32} {N' : Nat} (hn : ¬ n < 0) (hN : n.toNatClampNeg = N') (hbytes : N' * 4 ≤ 536870912) (hcells : cells + 1 ≤ R.cells) (hslots : slots + N' ≤ R.slots) (hdg : decode cc pc = .ok (.anewarray index, 3))
    (kk : ∀ (q : Nat) (H1 : Heap), va_P D cl (ws ++ [(q, .inl (cT, N', .inr (.inr (.inr (.inr (fun _ => none))))))]) H1 → va_D A (ws ++ [(q, .inl (cT, N', .inr (.inr (.inr (.inr (fun _ => none))))))]) → va_S A H0 H1 locs →
      W p l e R s m args below meth c H1 locs (cells + 1) (slots + N') Q (F0 m (pc + 3) ls (.ref q :: rest))) : W p l e R s m args below meth c H locs cells slots Q (F0 m pc ls (.int n :: rest)) := by
  refine va_newq hexec hb hown hclink hover hK hP hD hS hA hn hN hbytes hcells hslots hdg (fun q cA H1 hK1 hP1 hD1 hS1 => ?_)
  have e1 := (hK.2 t0 _ ht).2
  have e2 := (hK1.2 tys.length (cA, .object C) (by rw [List.getElem?_append_right (Nat.le_refl _), Nat.sub_self]; rfl)).2
  have e3 : cA = cT := va_RA.one e2 e1
  subst e3
  exact kk q H1 hP1 hD1 hS1
end NewArr
theorem ti_n100 : ((-100) : Int32).toInt = (-100) := by decide
theorem ti_n99 : ((-99) : Int32).toInt = (-99) := by decide
theorem ti_n14 : ((-14) : Int32).toInt = (-14) := by decide
theorem ti_n13 : ((-13) : Int32).toInt = (-13) := by decide
theorem ti_n12 : ((-12) : Int32).toInt = (-12) := by decide
theorem ti_n11 : ((-11) : Int32).toInt = (-11) := by decide
theorem ti_n10 : ((-10) : Int32).toInt = (-10) := by decide
theorem ti_n9 : ((-9) : Int32).toInt = (-9) := by decide
theorem ti_n8 : ((-8) : Int32).toInt = (-8) := by decide
theorem ti_n7 : ((-7) : Int32).toInt = (-7) := by decide
theorem ti_n6 : ((-6) : Int32).toInt = (-6) := by decide
theorem ti_n5 : ((-5) : Int32).toInt = (-5) := by decide
theorem ti_n4 : ((-4) : Int32).toInt = (-4) := by decide
theorem ti_n3 : ((-3) : Int32).toInt = (-3) := by decide
theorem ti_n2 : ((-2) : Int32).toInt = (-2) := by decide
theorem ti_n1 : ((-1) : Int32).toInt = (-1) := by decide
theorem ti_0 : (0 : Int32).toInt = 0 := by decide
theorem ti_1 : (1 : Int32).toInt = 1 := by decide
theorem ti_2 : (2 : Int32).toInt = 2 := by decide
theorem ti_3 : (3 : Int32).toInt = 3 := by decide
theorem ti_4 : (4 : Int32).toInt = 4 := by decide
theorem ti_5 : (5 : Int32).toInt = 5 := by decide
theorem ti_6 : (6 : Int32).toInt = 6 := by decide
theorem ti_7 : (7 : Int32).toInt = 7 := by decide
theorem ti_8 : (8 : Int32).toInt = 8 := by decide
theorem ti_9 : (9 : Int32).toInt = 9 := by decide
theorem ti_10 : (10 : Int32).toInt = 10 := by decide
theorem ti_11 : (11 : Int32).toInt = 11 := by decide
theorem ti_12 : (12 : Int32).toInt = 12 := by decide
theorem ti_13 : (13 : Int32).toInt = 13 := by decide
theorem ti_14 : (14 : Int32).toInt = 14 := by decide
theorem ti_15 : (15 : Int32).toInt = 15 := by decide
theorem ti_16 : (16 : Int32).toInt = 16 := by decide
theorem ti_17 : (17 : Int32).toInt = 17 := by decide
theorem ti_18 : (18 : Int32).toInt = 18 := by decide
theorem ti_19 : (19 : Int32).toInt = 19 := by decide
theorem ti_20 : (20 : Int32).toInt = 20 := by decide
theorem ti_21 : (21 : Int32).toInt = 21 := by decide
theorem ti_22 : (22 : Int32).toInt = 22 := by decide
theorem ti_23 : (23 : Int32).toInt = 23 := by decide
theorem ti_24 : (24 : Int32).toInt = 24 := by decide
theorem ti_25 : (25 : Int32).toInt = 25 := by decide
theorem ti_26 : (26 : Int32).toInt = 26 := by decide
theorem ti_27 : (27 : Int32).toInt = 27 := by decide
theorem ti_28 : (28 : Int32).toInt = 28 := by decide
theorem ti_29 : (29 : Int32).toInt = 29 := by decide
theorem ti_30 : (30 : Int32).toInt = 30 := by decide
theorem ti_31 : (31 : Int32).toInt = 31 := by decide
theorem ti_32 : (32 : Int32).toInt = 32 := by decide
theorem ti_33 : (33 : Int32).toInt = 33 := by decide
theorem ti_34 : (34 : Int32).toInt = 34 := by decide
theorem ti_35 : (35 : Int32).toInt = 35 := by decide
theorem ti_36 : (36 : Int32).toInt = 36 := by decide
theorem ti_37 : (37 : Int32).toInt = 37 := by decide
theorem ti_38 : (38 : Int32).toInt = 38 := by decide
theorem ti_39 : (39 : Int32).toInt = 39 := by decide
theorem ti_40 : (40 : Int32).toInt = 40 := by decide
theorem ti_41 : (41 : Int32).toInt = 41 := by decide
theorem ti_42 : (42 : Int32).toInt = 42 := by decide
theorem ti_43 : (43 : Int32).toInt = 43 := by decide
theorem ti_44 : (44 : Int32).toInt = 44 := by decide
theorem ti_45 : (45 : Int32).toInt = 45 := by decide
theorem ti_46 : (46 : Int32).toInt = 46 := by decide
theorem ti_47 : (47 : Int32).toInt = 47 := by decide
theorem ti_48 : (48 : Int32).toInt = 48 := by decide
theorem ti_49 : (49 : Int32).toInt = 49 := by decide
theorem ti_50 : (50 : Int32).toInt = 50 := by decide
theorem ti_51 : (51 : Int32).toInt = 51 := by decide
theorem ti_52 : (52 : Int32).toInt = 52 := by decide
theorem ti_53 : (53 : Int32).toInt = 53 := by decide
theorem ti_54 : (54 : Int32).toInt = 54 := by decide
theorem ti_55 : (55 : Int32).toInt = 55 := by decide
theorem ti_56 : (56 : Int32).toInt = 56 := by decide
theorem ti_57 : (57 : Int32).toInt = 57 := by decide
theorem ti_58 : (58 : Int32).toInt = 58 := by decide
theorem ti_59 : (59 : Int32).toInt = 59 := by decide
theorem ti_60 : (60 : Int32).toInt = 60 := by decide
theorem ti_61 : (61 : Int32).toInt = 61 := by decide
theorem ti_62 : (62 : Int32).toInt = 62 := by decide
theorem ti_63 : (63 : Int32).toInt = 63 := by decide
theorem ti_64 : (64 : Int32).toInt = 64 := by decide
theorem ti_99 : (99 : Int32).toInt = 99 := by decide
theorem ti_100 : (100 : Int32).toInt = 100 := by decide
theorem ti_120 : (120 : Int32).toInt = 120 := by decide
theorem ti_255 : (255 : Int32).toInt = 255 := by decide
theorem ti_672 : (672 : Int32).toInt = 672 := by decide
theorem ti_676 : (676 : Int32).toInt = 676 := by decide
theorem ti_1000 : (1000 : Int32).toInt = 1000 := by decide
theorem ti_2000 : (2000 : Int32).toInt = 2000 := by decide
theorem tl_n100 : ((-100) : Int64).toInt = (-100) := by decide
theorem tl_n99 : ((-99) : Int64).toInt = (-99) := by decide
theorem tl_n14 : ((-14) : Int64).toInt = (-14) := by decide
theorem tl_n13 : ((-13) : Int64).toInt = (-13) := by decide
theorem tl_n12 : ((-12) : Int64).toInt = (-12) := by decide
theorem tl_n11 : ((-11) : Int64).toInt = (-11) := by decide
theorem tl_n10 : ((-10) : Int64).toInt = (-10) := by decide
theorem tl_n9 : ((-9) : Int64).toInt = (-9) := by decide
theorem tl_n8 : ((-8) : Int64).toInt = (-8) := by decide
theorem tl_n7 : ((-7) : Int64).toInt = (-7) := by decide
theorem tl_n6 : ((-6) : Int64).toInt = (-6) := by decide
theorem tl_n5 : ((-5) : Int64).toInt = (-5) := by decide
theorem tl_n4 : ((-4) : Int64).toInt = (-4) := by decide
theorem tl_n3 : ((-3) : Int64).toInt = (-3) := by decide
theorem tl_n2 : ((-2) : Int64).toInt = (-2) := by decide
theorem tl_n1 : ((-1) : Int64).toInt = (-1) := by decide
theorem tl_0 : (0 : Int64).toInt = 0 := by decide
theorem tl_1 : (1 : Int64).toInt = 1 := by decide
theorem tl_2 : (2 : Int64).toInt = 2 := by decide
theorem tl_3 : (3 : Int64).toInt = 3 := by decide
theorem tl_4 : (4 : Int64).toInt = 4 := by decide
theorem tl_5 : (5 : Int64).toInt = 5 := by decide
theorem tl_6 : (6 : Int64).toInt = 6 := by decide
theorem tl_7 : (7 : Int64).toInt = 7 := by decide
theorem tl_8 : (8 : Int64).toInt = 8 := by decide
theorem tl_9 : (9 : Int64).toInt = 9 := by decide
theorem tl_10 : (10 : Int64).toInt = 10 := by decide
theorem tl_11 : (11 : Int64).toInt = 11 := by decide
theorem tl_12 : (12 : Int64).toInt = 12 := by decide
theorem tl_13 : (13 : Int64).toInt = 13 := by decide
theorem tl_14 : (14 : Int64).toInt = 14 := by decide
theorem tl_15 : (15 : Int64).toInt = 15 := by decide
theorem tl_16 : (16 : Int64).toInt = 16 := by decide
theorem tl_17 : (17 : Int64).toInt = 17 := by decide
theorem tl_18 : (18 : Int64).toInt = 18 := by decide
theorem tl_19 : (19 : Int64).toInt = 19 := by decide
theorem tl_20 : (20 : Int64).toInt = 20 := by decide
theorem tl_21 : (21 : Int64).toInt = 21 := by decide
theorem tl_22 : (22 : Int64).toInt = 22 := by decide
theorem tl_23 : (23 : Int64).toInt = 23 := by decide
theorem tl_24 : (24 : Int64).toInt = 24 := by decide
theorem tl_25 : (25 : Int64).toInt = 25 := by decide
theorem tl_26 : (26 : Int64).toInt = 26 := by decide
theorem tl_27 : (27 : Int64).toInt = 27 := by decide
theorem tl_28 : (28 : Int64).toInt = 28 := by decide
theorem tl_29 : (29 : Int64).toInt = 29 := by decide
theorem tl_30 : (30 : Int64).toInt = 30 := by decide
theorem tl_31 : (31 : Int64).toInt = 31 := by decide
theorem tl_32 : (32 : Int64).toInt = 32 := by decide
theorem tl_33 : (33 : Int64).toInt = 33 := by decide
theorem tl_34 : (34 : Int64).toInt = 34 := by decide
theorem tl_35 : (35 : Int64).toInt = 35 := by decide
theorem tl_36 : (36 : Int64).toInt = 36 := by decide
theorem tl_37 : (37 : Int64).toInt = 37 := by decide
theorem tl_38 : (38 : Int64).toInt = 38 := by decide
theorem tl_39 : (39 : Int64).toInt = 39 := by decide
theorem tl_40 : (40 : Int64).toInt = 40 := by decide
theorem tl_41 : (41 : Int64).toInt = 41 := by decide
theorem tl_42 : (42 : Int64).toInt = 42 := by decide
theorem tl_43 : (43 : Int64).toInt = 43 := by decide
theorem tl_44 : (44 : Int64).toInt = 44 := by decide
theorem tl_45 : (45 : Int64).toInt = 45 := by decide
theorem tl_46 : (46 : Int64).toInt = 46 := by decide
theorem tl_47 : (47 : Int64).toInt = 47 := by decide
theorem tl_48 : (48 : Int64).toInt = 48 := by decide
theorem tl_49 : (49 : Int64).toInt = 49 := by decide
theorem tl_50 : (50 : Int64).toInt = 50 := by decide
theorem tl_51 : (51 : Int64).toInt = 51 := by decide
theorem tl_52 : (52 : Int64).toInt = 52 := by decide
theorem tl_53 : (53 : Int64).toInt = 53 := by decide
theorem tl_54 : (54 : Int64).toInt = 54 := by decide
theorem tl_55 : (55 : Int64).toInt = 55 := by decide
theorem tl_56 : (56 : Int64).toInt = 56 := by decide
theorem tl_57 : (57 : Int64).toInt = 57 := by decide
theorem tl_58 : (58 : Int64).toInt = 58 := by decide
theorem tl_59 : (59 : Int64).toInt = 59 := by decide
theorem tl_60 : (60 : Int64).toInt = 60 := by decide
theorem tl_61 : (61 : Int64).toInt = 61 := by decide
theorem tl_62 : (62 : Int64).toInt = 62 := by decide
theorem tl_63 : (63 : Int64).toInt = 63 := by decide
theorem tl_64 : (64 : Int64).toInt = 64 := by decide
theorem tl_99 : (99 : Int64).toInt = 99 := by decide
theorem tl_100 : (100 : Int64).toInt = 100 := by decide
theorem tl_120 : (120 : Int64).toInt = 120 := by decide
theorem tl_255 : (255 : Int64).toInt = 255 := by decide
theorem tl_672 : (672 : Int64).toInt = 672 := by decide
theorem tl_676 : (676 : Int64).toInt = 676 := by decide
theorem tl_1000 : (1000 : Int64).toInt = 1000 := by decide
theorem tl_2000 : (2000 : Int64).toInt = 2000 := by decide
