/-! the constants: the kinds (statics and objects), the words (String constants), String's COMPACT_STRINGS -/
def kdN : List String := ["NOTHING", "ONE", "GIVEN", "SCALED", "PRICED", "BOTH", "BETTER", "WORSE", "UNTIL", "THEN", "LATE", "FREE", "WHERE"]
abbrev kdQ (n : String) (l : List Int32) : String × String × String × List Int32 := ("ClauseBook$Kind", n, "I", l)
def kdF : List (String × String × String × List Int32) := [kdQ "names" [0, 0, 1, 1, 1, 2, 2, 2, 1, 2, 1, 1, 2], kdQ "least" [0, 0, 0, -9, 0, 0, 0, 0, 0, 0, 0, 0, -99], kdQ "most" [0, 0, 0, 9, 0, 0, 0, 0, 6, 0, 0, 0, 99], kdQ "number" [0, 1, 2, 3, 4, 5, 6, 7, 8, 9, 10, 11, 12], ("java/lang/Enum", "ordinal", "I", [0, 1, 2, 3, 4, 5, 6, 7, 8, 9, 10, 11, 12])]
def ksL : List Nat := [7, 3, 5, 6, 6, 4, 6, 5, 5, 4, 4, 4, 5]
def ksB : List (List Int32) := [[110, 111, 116, 104, 105, 110, 103], [111, 110, 101], [103, 105, 118, 101, 110], [115, 99, 97, 108, 101, 100], [112, 114, 105, 99, 101, 100], [98, 111, 116, 104], [98, 101, 116, 116, 101, 114], [119, 111, 114, 115, 101], [117, 110, 116, 105, 108], [116, 104, 101, 110], [108, 97, 116, 101], [102, 114, 101, 101], [119, 104, 101, 114, 101]]
def ksI : List Nat := [75, 77, 78, 80, 82, 84, 86, 88, 90, 92, 94, 96, 98]
def ksT : List String := ["nothing", "one", "given", "scaled", "priced", "both", "better", "worse", "until", "then", "late", "free", "where"]
def ksS (sa av : Nat → Nat) (A : Nat → Prop) (U : State) (H : Heap) : Prop := ∀ i : Nat, i < 13 → va_O "java/lang/String" (sa i) A U H ∧ va_OF "java/lang/String" "coder" "B" (.int 0) (sa i) A U H ∧ va_OF "java/lang/String" "value" "[B" (.ref (av i)) (sa i) A U H ∧ va_T .byte (av i) (ksL.getD i 0) (fun j => .int ((ksB.getD i []).getD j 0)) A U H
theorem ksS.moved {sa av : Nat → Nat} {A : Nat → Prop} {u U : State} {H : Heap} (hvm : u.vm.Alike U.vm) (h : ksS sa av A u H) : ksS sa av A U H := fun i hi => ⟨va_O.moved hvm (h i hi).1, va_OF.moved hvm (h i hi).2.1, va_OF.moved hvm (h i hi).2.2.1, va_T.moved hvm (h i hi).2.2.2⟩
theorem ksS.kept {sa av : Nat → Nat} {A : Nat → Prop} {U : State} {H H1 : Heap} (h : ksS sa av A U H) (hq : ∀ a : Nat, a < H.size → ¬ A a → H1[a]? = H[a]?) : ksS sa av A U H1 := fun i hi => ⟨(h i hi).1.kept hq, (h i hi).2.1.kept hq, (h i hi).2.2.1.kept hq, (h i hi).2.2.2.kept hq⟩
theorem ksS.narrow {sa av : Nat → Nat} {A B : Nat → Prop} {U : State} {H : Heap} (h : ksS sa av A U H) (hq : ∀ q, B q → A q) : ksS sa av B U H := fun i hi => ⟨(h i hi).1.narrow hq, (h i hi).2.1.narrow hq, (h i hi).2.2.1.narrow hq, (h i hi).2.2.2.narrow hq⟩
/-- where the switch over the kinds goes -/
def swT (k : Nat) : Int32 := ([1, 2, 3, 4, 5, 6, 0, 0, 0, 0, 7, 8, 0] : List Int32).getD k 0
def odT (k : Nat) : Int32 := ([0, 1, 2, 3, 4, 5, 6, 7, 8, 9, 10, 11, 12] : List Int32).getD k 0
/-- the kinds' words, and the switch's row (its place: av 13), what String's check of an index names (av 14) -/
def evX (ad sa av : Nat → Nat) (A : Nat → Prop) (U : State) (H : Heap) : Prop := (∀ i : Nat, i < 13 → va_OF "ClauseBook$Kind" "word" "Ljava/lang/String;" (.ref (sa i)) (ad i) A U H) ∧ va_Z "ClauseBook$1" "$SwitchMap$ClauseBook$Kind" "[I" (.ref (av 13)) A U H ∧ va_T .int (av 13) 13 (fun j => .int (swT j)) A U H ∧ (va_Z "jdk/internal/util/Preconditions" "SIOOBE_FORMATTER" "Ljava/util/function/BiFunction;" .null A U H ∨ va_Z "jdk/internal/util/Preconditions" "SIOOBE_FORMATTER" "Ljava/util/function/BiFunction;" (.ref (av 14)) A U H)
theorem evX.moved {ad sa av : Nat → Nat} {A : Nat → Prop} {u U : State} {H : Heap} (hvm : u.vm.Alike U.vm) (h : evX ad sa av A u H) : evX ad sa av A U H := ⟨fun i hi => va_OF.moved hvm (h.1 i hi), va_Z.moved hvm h.2.1, va_T.moved hvm h.2.2.1, h.2.2.2.imp (va_Z.moved hvm) (va_Z.moved hvm)⟩
theorem evX.kept {ad sa av : Nat → Nat} {A : Nat → Prop} {U : State} {H H1 : Heap} (h : evX ad sa av A U H) (hq : ∀ a : Nat, a < H.size → ¬ A a → H1[a]? = H[a]?) : evX ad sa av A U H1 := ⟨fun i hi => (h.1 i hi).kept hq, h.2.1.kept hq, h.2.2.1.kept hq, h.2.2.2.imp (fun z => z.kept hq) (fun z => z.kept hq)⟩
theorem evX.narrow {ad sa av : Nat → Nat} {A B : Nat → Prop} {U : State} {H : Heap} (h : evX ad sa av A U H) (hq : ∀ q, B q → A q) : evX ad sa av B U H := ⟨fun i hi => (h.1 i hi).narrow hq, h.2.1.narrow hq, h.2.2.1.narrow hq, h.2.2.2.imp (fun z => z.narrow hq) (fun z => z.narrow hq)⟩
def evK (ad sa av : Nat → Nat) (ta : Nat) (A : Nat → Prop) (U : State) (H : Heap) : Prop :=
  (va_En "ClauseBook$Kind" "LClauseBook$Kind;" kdN kdF ad A U H ∧ va_Z "ClauseBook$Kind" "ALL" "[LClauseBook$Kind;" (.ref ta) A U H ∧ va_T (.object "ClauseBook$Kind") ta 13 (fun j => .ref (ad j)) A U H) ∧ (ksS sa av A U H ∧ va_Z "java/lang/String" "COMPACT_STRINGS" "Z" (.int 1) A U H) ∧ (∀ i, i < 13 → vk_R RX13 (ksI.getD i 0) (ksT.getD i "") (sa i) U) ∧ evX ad sa av A U H
theorem evK.kept {ad sa av : Nat → Nat} {ta : Nat} {A : Nat → Prop} {U : State} {H H1 : Heap} (h : evK ad sa av ta A U H) (hq : ∀ a : Nat, a < H.size → ¬ A a → H1[a]? = H[a]?) : evK ad sa av ta A U H1 :=
  ⟨⟨h.1.1.kept hq, h.1.2.1.kept hq, h.1.2.2.kept hq⟩, ⟨h.2.1.1.kept hq, h.2.1.2.kept hq⟩, h.2.2.1, h.2.2.2.kept hq⟩
theorem evK.narrow {ad sa av : Nat → Nat} {ta : Nat} {A B : Nat → Prop} {U : State} {H : Heap} (h : evK ad sa av ta A U H) (hq : ∀ q, B q → A q) : evK ad sa av ta B U H :=
  ⟨⟨h.1.1.narrow hq, h.1.2.1.narrow hq, h.1.2.2.narrow hq⟩, ⟨h.2.1.1.narrow hq, h.2.1.2.narrow hq⟩, h.2.2.1, h.2.2.2.narrow hq⟩
theorem evK.warm {ad sa av : Nat → Nat} {ta : Nat} {A : Nat → Prop} {s U : State} {H : Heap} (hW : s.WarmedH U.vm) (h : evK ad sa av ta A s H) : evK ad sa av ta A U H :=
  ⟨⟨va_En.moved hW.alike h.1.1, va_Z.moved hW.alike h.1.2.1, va_T.moved hW.alike h.1.2.2⟩, ⟨ksS.moved hW.alike h.2.1.1, va_Z.moved hW.alike h.2.1.2⟩, fun i hi => vk_R.warm hW (h.2.2.1 i hi), evX.moved hW.alike h.2.2.2⟩
theorem evK.same {ad sa av : Nat → Nat} {ta : Nat} {A : Nat → Prop} {u U : State} {H : Heap} (hv : u.vm = U.vm) (h : evK ad sa av ta A u H) : evK ad sa av ta A U H :=
  ⟨⟨va_En.moved (hv ▸ Vm.Alike.refl u.vm) h.1.1, va_Z.moved (hv ▸ Vm.Alike.refl u.vm) h.1.2.1, va_T.moved (hv ▸ Vm.Alike.refl u.vm) h.1.2.2⟩, ⟨ksS.moved (hv ▸ Vm.Alike.refl u.vm) h.2.1.1, va_Z.moved (hv ▸ Vm.Alike.refl u.vm) h.2.1.2⟩, fun i hi => vk_R.same hv.symm (h.2.2.1 i hi), evX.moved (hv ▸ Vm.Alike.refl u.vm) h.2.2.2⟩
def pRk (vl : List Value) (D : va_G) (T : Nat → ClassId) (ws : va_W) (ad sa av : Nat → Nat) (ta : Nat) : Array Value → State → Prop := va_Pc vl (fun U => va_P D vwCl ws U.heap ∧ ekK D T U ∧ evK ad sa av ta (fun _ => False) U U.heap)
def pWk (vl : List Value) (D : va_G) (T : Nat → ClassId) (ws : va_W) (sz : Nat) (ad sa av : Nat → Nat) (ta : Nat) : Array Value → State → Prop := va_Pc vl (fun U => U.heap.size = sz ∧ va_P D vwCl ws U.heap ∧ ekK D T U ∧ va_D (fun _ => True) ws ∧ evK ad sa av ta (va_A ws sz) U U.heap)
theorem pRk_blind {vl : List Value} {D : va_G} {T : Nat → ClassId} {ws : va_W} {ad sa av : Nat → Nat} {ta : Nat} : FrameBlind (pRk vl D T ws ad sa av ta) := fun a U g mk q => by
  obtain ⟨q0, qP, qE, qV⟩ := q
  exact ⟨q0, qP, ekK.same (u := U) (U := U.calling g mk a) rfl qE, evK.same (u := U) (U := U.calling g mk a) rfl qV⟩
theorem pWk_blind {vl : List Value} {D : va_G} {T : Nat → ClassId} {ws : va_W} {sz : Nat} {ad sa av : Nat → Nat} {ta : Nat} : FrameBlind (pWk vl D T ws sz ad sa av ta) := fun a U g mk q => by
  obtain ⟨q0, q1, qP, qE, qD, qV⟩ := q
  exact ⟨q0, q1, qP, ekK.same (u := U) (U := U.calling g mk a) rfl qE, qD, evK.same (u := U) (U := U.calling g mk a) rfl qV⟩
section Pre
variable {As : List Value} {D : va_G} {T : Nat → ClassId} {ws wc : va_W} {s : State} {H : Heap} {A : Nat → Prop} {locs : List Loc} {ad sa av : Nat → Nat} {ta : Nat}
theorem pRk_V {b ci q0 : Nat} {q : vw_C} {fs : List Value} (hP : va_P D vwCl ws H) (hE : ekK D T s) (hV : evK ad sa av ta A s s.heap) (hS : va_S A s.heap H locs) (hc : vwCl[ci]? = some q) (he : ws[q0]? = some (b, .inr (ci, fs))) (is : List Nat) (hs : is.filterMap (fun i => ws[i]?) = wc) : PreV s H q.1 b (pRk (.ref b :: As) D T wc ad sa av ta) As :=
  ⟨pRk_blind, va_recv hE.1 hP hc he, fun U hU hW => ⟨rfl, by rw [hU]; exact hP.sub is hs, ekK.warm hW hE, by rw [hU]; exact ((hV.kept hS.2.1).warm hW).narrow (fun _ h => h.elim)⟩⟩
theorem pRk_VE {i : Nat} (hi : i < 13) (hP : va_P D vwCl ws H) (hE : ekK D T s) (hV : evK ad sa av ta A s s.heap) (hS : va_S A s.heap H locs) (is : List Nat) (hs : is.filterMap (fun i => ws[i]?) = wc) : PreV s H "ClauseBook$Kind" (ad i) (pRk (.ref (ad i) :: As) D T wc ad sa av ta) As :=
  ⟨pRk_blind, va_recvE hV.1.1 (i := i) (show i < kdN.length from hi) hS, fun U hU hW => ⟨rfl, by rw [hU]; exact hP.sub is hs, ekK.warm hW hE, by rw [hU]; exact ((hV.kept hS.2.1).warm hW).narrow (fun _ h => h.elim)⟩⟩
theorem pRk_VS {i : Nat} (hi : i < 13) (hP : va_P D vwCl ws H) (hE : ekK D T s) (hV : evK ad sa av ta A s s.heap) (hS : va_S A s.heap H locs) (is : List Nat) (hs : is.filterMap (fun i => ws[i]?) = wc) : PreV s H "java/lang/String" (sa i) (pRk (.ref (sa i) :: As) D T wc ad sa av ta) As :=
  ⟨pRk_blind, (by
    obtain ⟨cell, h1, h2, h3, -⟩ := ((hV.2.1.1 i hi).1).kept hS.2.1
    exact ⟨cell, h1, h2, h3⟩), fun U hU hW => ⟨rfl, by rw [hU]; exact hP.sub is hs, ekK.warm hW hE, by rw [hU]; exact ((hV.kept hS.2.1).warm hW).narrow (fun _ h => h.elim)⟩⟩
theorem pWk_V {b ci q0 : Nat} {q : vw_C} {fs : List Value} (hP : va_P D vwCl ws H) (hE : ekK D T s) (hD : va_D A ws) (hV : evK ad sa av ta A s s.heap) (hS : va_S A s.heap H locs) (hF : ∀ q, va_A wc H.size q → A q) (hc : vwCl[ci]? = some q) (he : ws[q0]? = some (b, .inr (ci, fs))) (is : List Nat) (hn : va_nd is = true) (hs : is.map (fun i => ws[i]?) = wc.map some) (hs2 : is.filterMap (fun i => ws[i]?) = wc) : PreV s H q.1 b (pWk (.ref b :: As) D T wc H.size ad sa av ta) As :=
  ⟨pWk_blind, va_recv hE.1 hP hc he, fun U hU hW => ⟨rfl, by rw [hU], by rw [hU]; exact hP.sub is hs2, ekK.warm hW hE, (hD.sub is hn hs).weaken (fun _ _ _ _ => trivial), by rw [hU]; exact ((hV.kept hS.2.1).warm hW).narrow hF⟩⟩
theorem pWk_S (hP : va_P D vwCl ws H) (hE : ekK D T s) (hD : va_D A ws) (hV : evK ad sa av ta A s s.heap) (hS : va_S A s.heap H locs) (hF : ∀ q, va_A wc H.size q → A q) (is : List Nat) (hn : va_nd is = true) (hs : is.map (fun i => ws[i]?) = wc.map some) (hs2 : is.filterMap (fun i => ws[i]?) = wc) : PreS s H (pWk As D T wc H.size ad sa av ta) As :=
  ⟨pWk_blind, fun U hU hW => ⟨rfl, by rw [hU], by rw [hU]; exact hP.sub is hs2, ekK.warm hW hE, (hD.sub is hn hs).weaken (fun _ _ _ _ => trivial), by rw [hU]; exact ((hV.kept hS.2.1).warm hW).narrow hF⟩⟩
/-- a word may lie in the row of words -/
theorem evK.any {i : Nat} (hi : i < 13) (hV : evK ad sa av ta A s s.heap) (hS : va_S A s.heap H locs) : va_Any "java/lang/String" s H (sa i) := by
  obtain ⟨cell, h1, h2, h3, -⟩ := ((hV.2.1.1 i hi).1).kept hS.2.1
  obtain ⟨kC, hkC, hnm⟩ := Vm.findClass_spec h3
  exact ⟨cell, h1, h2, ⟨kC, hkC⟩, fun comp hc => by
    have e : cell.cls = comp := Option.some.inj (h3.symm.trans hc)
    rw [← e]
    show s.vm.assignableAux (255 + 1) cell.cls cell.cls = true
    rw [Vm.assignableAux]
    simp only [beq_self_eq_true, Bool.true_or]⟩
end Pre
theorem ks_lt : ∀ i, i < 13 → ksL.getD i 0 < 2 ^ 31 := by decide
theorem ks_nz : ∀ i, i < 13 → ¬ (0 : Int32) = nI (ksL.getD i 0) := by decide
/-- how many clauses a kind names -/
def nmT (k : Nat) : Int32 := ([0, 0, 1, 1, 1, 2, 2, 2, 1, 2, 1, 1, 2] : List Int32).getD k 0
theorem nmT_in : ∀ k, 0 ≤ (nmT k).toInt ∧ (nmT k).toInt ≤ 2 := by
  intro k
  rcases Nat.lt_or_ge k 13 with h | h
  · have key : ∀ j : Fin 13, 0 ≤ (nmT j.val).toInt ∧ (nmT j.val).toInt ≤ 2 := by decide
    exact key ⟨k, h⟩
  · unfold nmT
    have e : ([0, 0, 1, 1, 1, 2, 2, 2, 1, 2, 1, 1, 2] : List Int32)[k]? = none := List.getElem?_eq_none (by simpa using h)
    rw [List.getD, e]
    decide
/-- the clauses: every place holds a kind, and names earlier places where its kind names some -/
def okC (fk fc fd fe : Nat → Int32) : Prop := ∀ j : Nat, j < 24 → (0 ≤ (fk j).toInt ∧ (fk j).toInt ≤ 12) ∧ (1 ≤ (nmT (fk j).toNatClampNeg).toInt → 0 ≤ (fc j).toInt ∧ (fc j).toInt < j) ∧ ((nmT (fk j).toNatClampNeg).toInt = 2 → 0 ≤ (fd j).toInt ∧ (fd j).toInt < j) ∧ (fe j).toInt ≤ 6
theorem odT_at {k : Nat} (h : k < 13) : (odT k).toNatClampNeg = k := by
  have key : ∀ j : Fin 13, (odT j.val).toNatClampNeg = j.val := by decide
  exact key ⟨k, h⟩
theorem odT_in {k : Nat} (h : k < 13) : vp_in (odT k) 13 := by
  have key : ∀ j : Fin 13, vp_in (odT j.val) 13 := by unfold vp_in; decide
  exact key ⟨k, h⟩
theorem in24 {x : Int32} (h : 0 ≤ x.toInt ∧ x.toInt < 24) : x.toNatClampNeg < 24 ∧ (x.toNatClampNeg : Int) = x.toInt := by
  obtain ⟨j, hj, e⟩ := nI_of (x := x) (by rw [fa_lt, ti_0]; omega)
  subst e
  rw [nI_clamp hj, nI_toInt hj] at *
  omega
theorem in13c {x : Int32} (h : 0 ≤ x.toInt ∧ x.toInt ≤ 12) : x.toNatClampNeg < 13 := by
  obtain ⟨j, hj, e⟩ := nI_of (x := x) (by rw [fa_lt, ti_0]; omega)
  subst e
  rw [nI_clamp hj, nI_toInt hj] at *
  omega
