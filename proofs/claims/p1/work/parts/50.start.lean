/-! the surroundings at the law's entry, out of the Statement's tables and premises -/
def lwFl : List Cond := flatC (Jvm.Cond.and given_1 narrow_1)
set_option maxRecDepth 100000 in
theorem kx_ex : ∀ i : Fin 13, Cond.exactly (.static "ClauseBook$Kind" (kdN.getD i.val "") "LClauseBook$Kind;") "ClauseBook$Kind" ∈ lwFl := by decide +kernel
set_option maxRecDepth 100000 in
theorem kx_f : ∀ q ∈ kdF, ∀ i : Fin 13, Cond.eq (.field (.static "ClauseBook$Kind" (kdN.getD i.val "") "LClauseBook$Kind;") q.1 q.2.1 q.2.2.1) (.int (q.2.2.2.getD i.val 0)) ∈ lwFl := by decide +kernel
set_option maxRecDepth 100000 in
theorem kx_ne : ∀ i j : Fin 13, i ≠ j → (Cond.not (.eq (.static "ClauseBook$Kind" (kdN.getD i.val "") "LClauseBook$Kind;") (.static "ClauseBook$Kind" (kdN.getD j.val "") "LClauseBook$Kind;")) ∈ lwFl ∨ Cond.not (.eq (.static "ClauseBook$Kind" (kdN.getD j.val "") "LClauseBook$Kind;") (.static "ClauseBook$Kind" (kdN.getD i.val "") "LClauseBook$Kind;")) ∈ lwFl) := by decide +kernel
set_option maxRecDepth 100000 in
theorem kx_ls : ∀ i : Fin 13, Cond.laysStatic "ClauseBook$Kind" (kdN.getD i.val "") "LClauseBook$Kind;" ∈ lw_tbl := by decide +kernel
set_option maxRecDepth 100000 in
theorem kx_el : ∀ i : Fin 13, Cond.eq (.elem (.static "ClauseBook$Kind" "ALL" "[LClauseBook$Kind;") (.int (Int32.ofNat i.val))) (.static "ClauseBook$Kind" (kdN.getD i.val "") "LClauseBook$Kind;") ∈ lwFl := by decide +kernel
set_option maxRecDepth 100000 in
theorem ks_ex : ∀ i : Fin 13, Cond.exactly (.string "ClauseBookModel" (ksI.getD i.val 0)) "java/lang/String" ∈ lwFl := by decide +kernel
set_option maxRecDepth 100000 in
theorem ks_co : ∀ i : Fin 13, Cond.eq (.field (.string "ClauseBookModel" (ksI.getD i.val 0)) "java/lang/String" "coder" "B") (.int 0) ∈ lwFl := by decide +kernel
set_option maxRecDepth 100000 in
theorem ks_ar : ∀ i : Fin 13, Cond.arrayOf (.field (.string "ClauseBookModel" (ksI.getD i.val 0)) "java/lang/String" "value" "[B") .byte ∈ lwFl := by decide +kernel
set_option maxRecDepth 100000 in
theorem ks_le : ∀ i : Fin 13, Cond.eq (.length (.field (.string "ClauseBookModel" (ksI.getD i.val 0)) "java/lang/String" "value" "[B")) (.int (Int32.ofNat (ksL.getD i.val 0))) ∈ lwFl := by decide +kernel
set_option maxRecDepth 100000 in
theorem ks_el : ∀ i : Fin 13, ∀ j : Fin 7, j.val < ksL.getD i.val 0 → Cond.eq (.elem (.field (.string "ClauseBookModel" (ksI.getD i.val 0)) "java/lang/String" "value" "[B") (.int (Int32.ofNat j.val))) (.int ((ksB.getD i.val []).getD j.val 0)) ∈ lwFl := by decide +kernel
theorem ks_l7 : ∀ i : Fin 13, ksL.getD i.val 0 ≤ 7 := by decide
set_option maxRecDepth 100000 in
theorem ks_sr : ∀ i : Fin 13, Cond.stringRef "ClauseBookModel" (ksI.getD i.val 0) (ksT.getD i.val "") ∈ lw_tbl := by decide +kernel
set_option maxRecDepth 100000 in
theorem kx_all : Cond.arrayOf (.static "ClauseBook$Kind" "ALL" "[LClauseBook$Kind;") (.object "ClauseBook$Kind") ∈ lwFl ∧ Cond.eq (.length (.static "ClauseBook$Kind" "ALL" "[LClauseBook$Kind;")) (.int 13) ∈ lwFl ∧ Cond.eq (.static "java/lang/String" "COMPACT_STRINGS" "Z") (.int 1) ∈ lwFl := by decide +kernel
theorem va_eqv2 {args : Array Value} {s : State} {t u : Term} {a : Nat} (h : (Cond.eq t u).before args s = true) (hu : u.eval args s none [] s = some (.ref a)) : t.eval args s none [] s = some (.ref a) := va_eqv h hu
/-- the constants -/
theorem env_V {args : Array Value} {s : State} (hs : ∀ w ∈ lwFl, w.before args s = true) (hts : ∀ w ∈ lw_tbl, w.before args s = true) : ∃ (ad sa av : Nat → Nat) (ta : Nat), evK ad sa av ta (fun q => s.heap.size ≤ q) s s.heap := by
  have hA : ∀ a : Nat, a < s.heap.size → ¬ (fun q => s.heap.size ≤ q) a := fun a h => Nat.not_le.mpr h
  have hini : (Cond.initialized "ClauseBook$Kind").before args s = true := hts _ (List.mem_of_getElem? (i := 69) (by decide +kernel))
  obtain ⟨ad, hEn, hev⟩ := va_Enof2 (args := args) (s := s) (E := "ClauseBook$Kind") (d := "LClauseBook$Kind;") (nm := kdN) (F := kdF) (A := fun q => s.heap.size ≤ q)
    (fun i hi => hts _ (kx_ls ⟨i, hi⟩)) hini (fun i hi => hs _ (kx_ex ⟨i, hi⟩)) (fun q hq i hi => hs _ (kx_f q hq ⟨i, hi⟩))
    (fun i j hi hj hne => (kx_ne ⟨i, hi⟩ ⟨j, hj⟩ (fun e => hne (congrArg Fin.val e))).imp (hs _) (hs _)) hA
  obtain ⟨ta, hta, hT⟩ := va_Tof (args := args) (s := s) (tm := (.static "ClauseBook$Kind" "ALL" "[LClauseBook$Kind;")) (ty := .object "ClauseBook$Kind") (N := 13) (f := fun j => .ref (ad j)) (A := fun q => s.heap.size ≤ q) (by decide) (hs _ kx_all.1) (va_eqt (hs _ kx_all.2.1))
    (fun j hj => va_eqv (hs _ (kx_el ⟨j, hj⟩)) (hev j hj)) hA
  have hZ : va_Z "ClauseBook$Kind" "ALL" "[LClauseBook$Kind;" (.ref ta) (fun q => s.heap.size ≤ q) s s.heap := va_Zref (hts _ (List.mem_of_getElem? (i := 442) (by decide +kernel))) hini hta hA
  have hC : va_Z "java/lang/String" "COMPACT_STRINGS" "Z" (.int 1) (fun q => s.heap.size ≤ q) s s.heap := va_Zof (hts _ (List.mem_of_getElem? (i := 750) (by decide +kernel))) (hts _ (List.mem_of_getElem? (i := 75) (by decide +kernel))) (va_eqi (hs _ kx_all.2.2)) hA
  have h0 : ∀ i : Nat, ∃ q : Nat × Nat, i < 13 → (Term.string "ClauseBookModel" (ksI.getD i 0)).eval args s none [] s = some (.ref q.1) ∧ va_O "java/lang/String" q.1 (fun q => s.heap.size ≤ q) s s.heap ∧ va_OF "java/lang/String" "coder" "B" (.int 0) q.1 (fun q => s.heap.size ≤ q) s s.heap ∧ va_OF "java/lang/String" "value" "[B" (.ref q.2) q.1 (fun q => s.heap.size ≤ q) s s.heap ∧ va_T .byte q.2 (ksL.getD i 0) (fun j => .int ((ksB.getD i []).getD j 0)) (fun q => s.heap.size ≤ q) s s.heap := by
    intro i
    by_cases hi : i < 13
    · obtain ⟨a, c, cell, k, q1, q2, q3, q4, q5, q6, -⟩ := Cond.exactly_spec (hs _ (ks_ex ⟨i, hi⟩))
      obtain ⟨t, ht, hT⟩ := va_Tof (f := fun j => .int ((ksB.getD i []).getD j 0)) (A := fun q => s.heap.size ≤ q) (N := ksL.getD i 0) (Nat.lt_of_le_of_lt (ks_l7 ⟨i, hi⟩) (by decide)) (hs _ (ks_ar ⟨i, hi⟩)) (va_eqt (hs _ (ks_le ⟨i, hi⟩))) (fun j hj => va_eqt (hs _ (ks_el ⟨i, hi⟩ ⟨j, Nat.lt_of_lt_of_le hj (ks_l7 ⟨i, hi⟩)⟩ hj))) hA
      exact ⟨(a, t), fun _ => ⟨q1, ⟨cell, q3, q5, by rw [q6]; exact q2, hA a (Array.getElem?_eq_some_iff.mp q3).1⟩, vk_OFof q1 (va_eqt (hs _ (ks_co ⟨i, hi⟩))) hA, vk_OFof q1 ht hA, hT⟩⟩
    · exact ⟨(0, 0), fun h => absurd h hi⟩
  obtain ⟨w, hw⟩ := Classical.axiomOfChoice h0
  exact ⟨ad, fun i => (w i).1, fun i => (w i).2, ta, ⟨hEn, hZ, hT⟩, ⟨fun i hi => (hw i hi).2, hC⟩, fun i hi => vk_R.of (hts _ (ks_sr ⟨i, hi⟩)) (hw i hi).1⟩
set_option maxRecDepth 100000 in
theorem nw_m : ∀ q ∈ nwM, Cond.methodLinkNest q.1 q.2.1 q.2.2 RX12 ∈ lw_tbl := by decide +kernel
set_option maxRecDepth 100000 in
theorem nw_f : ∀ q ∈ nwF, Cond.fieldLinkNest q.1 q.2 RX7 "ALL" "[LClauseBook$Kind;" RX12 ∈ lw_tbl := by decide +kernel
set_option maxRecDepth 100000 in
theorem nw_a : ∀ q ∈ (["ClauseBook$Bag", "ClauseBook$Sheet", "ClauseBook$Hand", "java/lang/String"] : List String), Cond.arrayOver (.object q) ∈ lw_tbl := by decide +kernel
set_option maxRecDepth 100000 in
set_option maxHeartbeats 4000000 in
/-- the classes, the arrays, the nest -/
theorem env_E {args : Array Value} {s : State} (hts : ∀ w ∈ lw_tbl, w.before args s = true) : ∃ (D : va_G) (T : Nat → ClassId), ekK D T s := by
  obtain ⟨c0, i0, hKn0⟩ := u_known (C := RX1) (T := TX1) (N := 2) (n := 2) hts (fun w h => (lgg_X10 w h).1) (hts (.instantiable RX1 2) (List.mem_of_getElem? (i := 184) (by decide +kernel)))
  obtain ⟨c1, i1, hKn1⟩ := u_known (C := RX2) (T := TX2) (N := 8) (n := 8) hts (fun w h => (lgg_X20 w h).1) (hts (.instantiable RX2 8) (List.mem_of_getElem? (i := 134) (by decide +kernel)))
  obtain ⟨c2, i2, hKn2⟩ := u_known (C := RX3) (T := TX3) (N := 7) (n := 7) hts (fun w h => (lgg_X30 w h).1) (hts (.instantiable RX3 7) (List.mem_of_getElem? (i := 240) (by decide +kernel)))
  obtain ⟨c3, i3, hKn3⟩ := u_known (C := RX4) (T := TX4) (N := 4) (n := 4) hts (fun w h => (lgg_X40 w h).1) (hts (.instantiable RX4 4) (List.mem_of_getElem? (i := 332) (by decide +kernel)))
  obtain ⟨c4, i4, hKn4⟩ := u_known (C := RX6) (T := TX6) (N := 3) (n := 3) hts (fun w h => (lgg_X60 w h).1) (hts (.instantiable RX6 3) (List.mem_of_getElem? (i := 89) (by decide +kernel)))
  obtain ⟨c5, i5, hKn5⟩ := u_known (C := RX8) (T := TX8) (N := 7) (n := 7) hts (fun w h => (lgg_X80 w h).1) (hts (.instantiable RX8 7) (List.mem_of_getElem? (i := 95) (by decide +kernel)))
  obtain ⟨c6, i6, hKn6⟩ := u_known (C := RX9) (T := TX9) (N := 6) (n := 6) hts (fun w h => (lgg_X90 w h).1) (hts (.instantiable RX9 6) (List.mem_of_getElem? (i := 304) (by decide +kernel)))
  obtain ⟨c7, i7, hKn7⟩ := u_known (C := RX10) (T := TX10) (N := 7) (n := 7) hts (fun w h => (lgg_X100 w h).1) (hts (.instantiable RX10 7) (List.mem_of_getElem? (i := 271) (by decide +kernel)))
  obtain ⟨c8, i8, hKn8⟩ := u_known (C := RX11) (T := TX11) (N := 6) (n := 6) hts (fun w h => (lgg_X110 w h).1) (hts (.instantiable RX11 6) (List.mem_of_getElem? (i := 212) (by decide +kernel)))
  obtain ⟨c9, i9, hKn9⟩ := u_known (C := RX12) (T := TX12) (N := 11) (n := 11) hts (fun w h => (lgg_X120 w h).1) (hts (.instantiable RX12 11) (List.mem_of_getElem? (i := 81) (by decide +kernel)))
  obtain ⟨c10, i10, hKn10⟩ := u_known (C := RX13) (T := TX13) (N := 45) (n := 45) hts (fun w h => (lgg_X130 w h).1) (hts (.instantiable RX13 45) (List.mem_of_getElem? (i := 963) (by decide +kernel)))
  obtain ⟨dC, dI, hKc⟩ : ∃ (dC : Nat → ClassId) (dI : Nat → Nat → Nat), ∀ (k : Nat) (q : vw_C), vwCl[k]? = some q → u_Kn s q.1 q.2.1 q.2.2 (dC k) (dI k) := by
    refine ⟨fun k => [c0, c1, c2, c3, c4, c5, c6, c7, c8, c9, c10].getD k c0, fun k => [i0, i1, i2, i3, i4, i5, i6, i7, i8, i9, i10].getD k i0, ?_⟩
    intro k q hq
    match k, hq with
    | 0, hq => cases hq; exact hKn0
    | 1, hq => cases hq; exact hKn1
    | 2, hq => cases hq; exact hKn2
    | 3, hq => cases hq; exact hKn3
    | 4, hq => cases hq; exact hKn4
    | 5, hq => cases hq; exact hKn5
    | 6, hq => cases hq; exact hKn6
    | 7, hq => cases hq; exact hKn7
    | 8, hq => cases hq; exact hKn8
    | 9, hq => cases hq; exact hKn9
    | 10, hq => cases hq; exact hKn10
    | k + 11, hq => simp [vwCl] at hq
  obtain ⟨t0, k0, p0, a0, b0, d0⟩ := Cond.arrayClass_spec (hts (.arrayClass .int) (List.mem_of_getElem? (i := 181) (by decide +kernel)))
  obtain ⟨t1, k1, p1, a1, b1, d1⟩ := Cond.arrayClass_spec (hts (.arrayClass .long) (List.mem_of_getElem? (i := 238) (by decide +kernel)))
  obtain ⟨t2, k2, p2, a2, b2, d2⟩ := Cond.arrayClass_spec (hts (.arrayClass .float) (List.mem_of_getElem? (i := 330) (by decide +kernel)))
  obtain ⟨t3, k3, p3, a3, b3, d3⟩ := Cond.arrayClass_spec (hts (.arrayClass .double) (List.mem_of_getElem? (i := 331) (by decide +kernel)))
  obtain ⟨t4, k4, p4, a4, b4, d4⟩ := Cond.arrayClass_spec (hts (.arrayClass .boolean) (List.mem_of_getElem? (i := 1119) (by decide +kernel)))
  obtain ⟨p5, t5, k5, a5, -, b5, d5, g5⟩ := Cond.arrayOver_spec (hts (.arrayOver (.object "ClauseBook$Bag")) (List.mem_of_getElem? (i := 183) (by decide +kernel)))
  obtain ⟨p6, t6, k6, a6, -, b6, d6, g6⟩ := Cond.arrayOver_spec (hts (.arrayOver (.object "ClauseBook$Sheet")) (List.mem_of_getElem? (i := 301) (by decide +kernel)))
  obtain ⟨p7, t7, k7, a7, -, b7, d7, g7⟩ := Cond.arrayOver_spec (hts (.arrayOver (.object "ClauseBook$Hand")) (List.mem_of_getElem? (i := 303) (by decide +kernel)))
  obtain ⟨p8, t8, k8, a8, -, b8, d8, g8⟩ := Cond.arrayOver_spec (hts (.arrayOver (.object "java/lang/String")) (List.mem_of_getElem? (i := 969) (by decide +kernel)))
  refine ⟨(dC, dI), fun k => [t0, t1, t2, t3, t4, t5, t6, t7, t8].getD k t0, ⟨hKc, ?_⟩, fun q hq => va_Nw.of rfl (hts _ (nw_m q hq)), fun q hq => va_Nw.of rfl (hts _ (nw_f q hq)), fun q hq => va_AO.of (hts _ (nw_a q hq))⟩
  intro k q hq
  match k, hq with
  | 0, hq => cases hq; exact ⟨fun n z => ⟨fun k9 h9 => (by cases h9), k0, b0, p0, d0⟩, a0⟩
  | 1, hq => cases hq; exact ⟨fun n z => ⟨fun k9 h9 => (by cases h9), k1, b1, p1, d1⟩, a1⟩
  | 2, hq => cases hq; exact ⟨fun n z => ⟨fun k9 h9 => (by cases h9), k2, b2, p2, d2⟩, a2⟩
  | 3, hq => cases hq; exact ⟨fun n z => ⟨fun k9 h9 => (by cases h9), k3, b3, p3, d3⟩, a3⟩
  | 4, hq => cases hq; exact ⟨fun n z => ⟨fun k9 h9 => (by cases h9), k4, b4, p4, d4⟩, a4⟩
  | 5, hq => cases hq; exact ⟨fun n z => ⟨fun k9 h9 => (by cases h9), k5, b5, p5, d5⟩, k5, p5, b5, d5, a5, g5⟩
  | 6, hq => cases hq; exact ⟨fun n z => ⟨fun k9 h9 => (by cases h9), k6, b6, p6, d6⟩, k6, p6, b6, d6, a6, g6⟩
  | 7, hq => cases hq; exact ⟨fun n z => ⟨fun k9 h9 => (by cases h9), k7, b7, p7, d7⟩, k7, p7, b7, d7, a7, g7⟩
  | 8, hq => cases hq; exact ⟨fun n z => ⟨fun k9 h9 => (by cases h9), k8, b8, p8, d8⟩, k8, p8, b8, d8, a8, g8⟩
  | k + 9, hq => simp [tyL] at hq
