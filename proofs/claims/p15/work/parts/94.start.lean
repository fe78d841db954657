set_option maxRecDepth 100000 in
theorem kx_ls_0 : Cond.laysStatic "ClauseBook$Kind" "NOTHING" "LClauseBook$Kind;" ∈ lw_tbl := lwt_1 _ (List.mem_of_getElem? (i := 207) rfl)
set_option maxRecDepth 100000 in
theorem ks_sr_0 : Cond.stringRef "ClauseBookModel" 75 "nothing" ∈ lw_tbl := lwt_3 _ (List.mem_of_getElem? (i := 195) rfl)
set_option maxRecDepth 100000 in
theorem kx_ls_1 : Cond.laysStatic "ClauseBook$Kind" "ONE" "LClauseBook$Kind;" ∈ lw_tbl := lwt_6 _ (List.mem_of_getElem? (i := 54) rfl)
set_option maxRecDepth 100000 in
theorem ks_sr_1 : Cond.stringRef "ClauseBookModel" 77 "one" ∈ lw_tbl := lwt_3 _ (List.mem_of_getElem? (i := 196) rfl)
set_option maxRecDepth 100000 in
theorem kx_ls_2 : Cond.laysStatic "ClauseBook$Kind" "GIVEN" "LClauseBook$Kind;" ∈ lw_tbl := lwt_6 _ (List.mem_of_getElem? (i := 55) rfl)
set_option maxRecDepth 100000 in
theorem ks_sr_2 : Cond.stringRef "ClauseBookModel" 78 "given" ∈ lw_tbl := lwt_3 _ (List.mem_of_getElem? (i := 197) rfl)
set_option maxRecDepth 100000 in
theorem kx_ls_3 : Cond.laysStatic "ClauseBook$Kind" "SCALED" "LClauseBook$Kind;" ∈ lw_tbl := lwt_6 _ (List.mem_of_getElem? (i := 56) rfl)
set_option maxRecDepth 100000 in
theorem ks_sr_3 : Cond.stringRef "ClauseBookModel" 80 "scaled" ∈ lw_tbl := lwt_3 _ (List.mem_of_getElem? (i := 198) rfl)
set_option maxRecDepth 100000 in
theorem kx_ls_4 : Cond.laysStatic "ClauseBook$Kind" "PRICED" "LClauseBook$Kind;" ∈ lw_tbl := lwt_6 _ (List.mem_of_getElem? (i := 57) rfl)
set_option maxRecDepth 100000 in
theorem ks_sr_4 : Cond.stringRef "ClauseBookModel" 82 "priced" ∈ lw_tbl := lwt_3 _ (List.mem_of_getElem? (i := 199) rfl)
set_option maxRecDepth 100000 in
theorem kx_ls_5 : Cond.laysStatic "ClauseBook$Kind" "BOTH" "LClauseBook$Kind;" ∈ lw_tbl := lwt_3 _ (List.mem_of_getElem? (i := 56) rfl)
set_option maxRecDepth 100000 in
theorem ks_sr_5 : Cond.stringRef "ClauseBookModel" 84 "both" ∈ lw_tbl := lwt_3 _ (List.mem_of_getElem? (i := 200) rfl)
set_option maxRecDepth 100000 in
theorem kx_ls_6 : Cond.laysStatic "ClauseBook$Kind" "BETTER" "LClauseBook$Kind;" ∈ lw_tbl := lwt_2 _ (List.mem_of_getElem? (i := 44) rfl)
set_option maxRecDepth 100000 in
theorem ks_sr_6 : Cond.stringRef "ClauseBookModel" 86 "better" ∈ lw_tbl := lwt_3 _ (List.mem_of_getElem? (i := 201) rfl)
set_option maxRecDepth 100000 in
theorem kx_ls_7 : Cond.laysStatic "ClauseBook$Kind" "WORSE" "LClauseBook$Kind;" ∈ lw_tbl := lwt_2 _ (List.mem_of_getElem? (i := 89) rfl)
set_option maxRecDepth 100000 in
theorem ks_sr_7 : Cond.stringRef "ClauseBookModel" 88 "worse" ∈ lw_tbl := lwt_3 _ (List.mem_of_getElem? (i := 202) rfl)
set_option maxRecDepth 100000 in
theorem kx_ls_8 : Cond.laysStatic "ClauseBook$Kind" "UNTIL" "LClauseBook$Kind;" ∈ lw_tbl := lwt_1 _ (List.mem_of_getElem? (i := 174) rfl)
set_option maxRecDepth 100000 in
theorem ks_sr_8 : Cond.stringRef "ClauseBookModel" 90 "until" ∈ lw_tbl := lwt_3 _ (List.mem_of_getElem? (i := 203) rfl)
set_option maxRecDepth 100000 in
theorem kx_ls_9 : Cond.laysStatic "ClauseBook$Kind" "THEN" "LClauseBook$Kind;" ∈ lw_tbl := lwt_2 _ (List.mem_of_getElem? (i := 42) rfl)
set_option maxRecDepth 100000 in
theorem ks_sr_9 : Cond.stringRef "ClauseBookModel" 92 "then" ∈ lw_tbl := lwt_3 _ (List.mem_of_getElem? (i := 204) rfl)
set_option maxRecDepth 100000 in
theorem kx_ls_10 : Cond.laysStatic "ClauseBook$Kind" "LATE" "LClauseBook$Kind;" ∈ lw_tbl := lwt_6 _ (List.mem_of_getElem? (i := 58) rfl)
set_option maxRecDepth 100000 in
theorem ks_sr_10 : Cond.stringRef "ClauseBookModel" 94 "late" ∈ lw_tbl := lwt_3 _ (List.mem_of_getElem? (i := 205) rfl)
set_option maxRecDepth 100000 in
theorem kx_ls_11 : Cond.laysStatic "ClauseBook$Kind" "FREE" "LClauseBook$Kind;" ∈ lw_tbl := lwt_2 _ (List.mem_of_getElem? (i := 15) rfl)
set_option maxRecDepth 100000 in
theorem ks_sr_11 : Cond.stringRef "ClauseBookModel" 96 "free" ∈ lw_tbl := lwt_3 _ (List.mem_of_getElem? (i := 206) rfl)
set_option maxRecDepth 100000 in
theorem kx_ls_12 : Cond.laysStatic "ClauseBook$Kind" "WHERE" "LClauseBook$Kind;" ∈ lw_tbl := lwt_2 _ (List.mem_of_getElem? (i := 40) rfl)
set_option maxRecDepth 100000 in
theorem ks_sr_12 : Cond.stringRef "ClauseBookModel" 98 "where" ∈ lw_tbl := lwt_3 _ (List.mem_of_getElem? (i := 207) rfl)
theorem kx_ls : ∀ (i : Nat), i < 13 → Cond.laysStatic "ClauseBook$Kind" (kdN.getD i "") "LClauseBook$Kind;" ∈ lw_tbl := by
  intro i hi
  match i, hi with
  | 0, _ => exact kx_ls_0
  | 1, _ => exact kx_ls_1
  | 2, _ => exact kx_ls_2
  | 3, _ => exact kx_ls_3
  | 4, _ => exact kx_ls_4
  | 5, _ => exact kx_ls_5
  | 6, _ => exact kx_ls_6
  | 7, _ => exact kx_ls_7
  | 8, _ => exact kx_ls_8
  | 9, _ => exact kx_ls_9
  | 10, _ => exact kx_ls_10
  | 11, _ => exact kx_ls_11
  | 12, _ => exact kx_ls_12
  | i + 13, hi => omega
theorem ks_sr : ∀ (i : Nat), i < 13 → Cond.stringRef "ClauseBookModel" (ksI.getD i 0) (ksT.getD i "") ∈ lw_tbl := by
  intro i hi
  match i, hi with
  | 0, _ => exact ks_sr_0
  | 1, _ => exact ks_sr_1
  | 2, _ => exact ks_sr_2
  | 3, _ => exact ks_sr_3
  | 4, _ => exact ks_sr_4
  | 5, _ => exact ks_sr_5
  | 6, _ => exact ks_sr_6
  | 7, _ => exact ks_sr_7
  | 8, _ => exact ks_sr_8
  | 9, _ => exact ks_sr_9
  | 10, _ => exact ks_sr_10
  | 11, _ => exact ks_sr_11
  | 12, _ => exact ks_sr_12
  | i + 13, hi => omega
theorem kx_f : ∀ q ∈ kdF, ∀ (i : Nat) (_ : i < 13), Cond.eq (.field (.static "ClauseBook$Kind" (kdN.getD i "") "LClauseBook$Kind;") q.1 q.2.1 q.2.2.1) (.int (q.2.2.2.getD i 0)) ∈ lwFl := by
  intro q hq i hi
  rcases List.mem_cons.mp hq with rfl | hq
  · exact kx_m (kx_f_names ⟨i, hi⟩)
  rcases List.mem_cons.mp hq with rfl | hq
  · exact kx_m (kx_f_least ⟨i, hi⟩)
  rcases List.mem_cons.mp hq with rfl | hq
  · exact kx_m (kx_f_most ⟨i, hi⟩)
  rcases List.mem_cons.mp hq with rfl | hq
  · exact kx_m (kx_f_number ⟨i, hi⟩)
  rcases List.mem_cons.mp hq with rfl | hq
  · exact kx_m (kx_or ⟨i, hi⟩)
  exact absurd hq List.not_mem_nil
theorem va_eqw {args : Array Value} {s : State} {t u : Term} {v : Value} (h : (Cond.eq t u).before args s = true) (ht : t.eval args s none [] s = some v) : u.eval args s none [] s = some v := by
  cases hu : u.eval args s none [] s with
  | none => simp [Cond.before, Cond.holds, Cond.value, ht, hu] at h
  | some z =>
    simp [Cond.before, Cond.holds, Cond.value, ht, hu] at h
    cases v <;> cases z <;> simp_all
/-- the constants -/
theorem env_V {args : Array Value} {s : State} (hs : ∀ w ∈ lwFl, w.before args s = true) (hts : ∀ w ∈ lw_tbl, w.before args s = true) : ∃ (ad sa av : Nat → Nat) (ta : Nat), evK ad sa av ta (fun q => s.heap.size ≤ q) s s.heap := by
  have hA : ∀ a : Nat, a < s.heap.size → ¬ (fun q => s.heap.size ≤ q) a := fun a h => Nat.not_le.mpr h
  have hini : (Cond.initialized "ClauseBook$Kind").before args s = true := hts _ (lwt_0 _ (List.mem_of_getElem? (i := 14) rfl))
  obtain ⟨ad, hEn, hev⟩ := va_Enof2 (args := args) (s := s) (E := "ClauseBook$Kind") (d := "LClauseBook$Kind;") (nm := kdN) (F := kdF) (A := fun q => s.heap.size ≤ q)
    (fun i hi => hts _ (kx_ls i hi)) hini (fun i hi => hs _ (kx_m (kx_ex ⟨i, hi⟩))) (fun q hq i hi => hs _ (kx_f q hq i hi))
    (fun i j hi hj hne => (kx_ne i j hi hj hne).imp (hs _) (hs _)) hA
  obtain ⟨ta, hta, hT⟩ := va_Tof (args := args) (s := s) (tm := (.static "ClauseBook$Kind" "ALL" "[LClauseBook$Kind;")) (ty := .object "ClauseBook$Kind") (N := 13) (f := fun j => .ref (ad j)) (A := fun q => s.heap.size ≤ q) (by decide +kernel) (hs _ (kx_m kx_all.1)) (va_eqt (hs _ (kx_m kx_all.2.1)))
    (fun j hj => va_eqv (hs _ (kx_m (kx_el ⟨j, hj⟩))) (hev j hj)) hA
  have hZ : va_Z "ClauseBook$Kind" "ALL" "[LClauseBook$Kind;" (.ref ta) (fun q => s.heap.size ≤ q) s s.heap := va_Zref (hts _ (lwt_1 _ (List.mem_of_getElem? (i := 147) rfl))) hini hta hA
  have hC : va_Z "java/lang/String" "COMPACT_STRINGS" "Z" (.int 1) (fun q => s.heap.size ≤ q) s s.heap := va_Zof (hts _ (lwt_2 _ (List.mem_of_getElem? (i := 215) rfl))) (hts _ (lwt_0 _ (List.mem_of_getElem? (i := 20) rfl))) (va_eqi (hs _ (kx_m kx_all.2.2))) hA
  have h0 : ∀ i : Nat, ∃ q : Nat × Nat, i < 13 → (Term.string "ClauseBookModel" (ksI.getD i 0)).eval args s none [] s = some (.ref q.1) ∧ va_O "java/lang/String" q.1 (fun q => s.heap.size ≤ q) s s.heap ∧ va_OF "java/lang/String" "coder" "B" (.int 0) q.1 (fun q => s.heap.size ≤ q) s s.heap ∧ va_OF "java/lang/String" "value" "[B" (.ref q.2) q.1 (fun q => s.heap.size ≤ q) s s.heap ∧ va_T .byte q.2 (ksL.getD i 0) (fun j => .int ((ksB.getD i []).getD j 0)) (fun q => s.heap.size ≤ q) s s.heap := by
    intro i
    by_cases hi : i < 13
    · obtain ⟨a, c, cell, k, q1, q2, q3, q4, q5, q6, -⟩ := Cond.exactly_spec (hs _ (kx_m (ks_ex ⟨i, hi⟩)))
      obtain ⟨t, ht, hT⟩ := va_Tof (f := fun j => .int ((ksB.getD i []).getD j 0)) (A := fun q => s.heap.size ≤ q) (N := ksL.getD i 0) (Nat.lt_of_le_of_lt (ks_l7 ⟨i, hi⟩) (by decide +kernel)) (hs _ (kx_m (ks_ar ⟨i, hi⟩))) (va_eqt (hs _ (kx_m (ks_le ⟨i, hi⟩)))) (fun j hj => va_eqt (hs _ (ks_el i hi j hj))) hA
      exact ⟨(a, t), fun _ => ⟨q1, ⟨cell, q3, q5, by rw [q6]; exact q2, hA a (Array.getElem?_eq_some_iff.mp q3).1⟩, vk_OFof q1 (va_eqt (hs _ (kx_m (ks_co ⟨i, hi⟩)))) hA, vk_OFof q1 ht hA, hT⟩⟩
    · exact ⟨(0, 0), fun h => absurd h hi⟩
  obtain ⟨w, hw⟩ := Classical.axiomOfChoice h0
  obtain ⟨ts, hts2, hTs⟩ := va_Tof (args := args) (s := s) (tm := (.static "ClauseBook$1" "$SwitchMap$ClauseBook$Kind" "[I")) (ty := .int) (N := 13) (f := fun j => .int (swT j)) (A := fun q => s.heap.size ≤ q) (by decide +kernel) (hs _ (kx_m kx_sx.1)) (va_eqt (hs _ (kx_m kx_sx.2.1)))
    (fun j hj => va_eqt (hs _ (kx_m (kx_sw ⟨j, hj⟩)))) hA
  have hZs : va_Z "ClauseBook$1" "$SwitchMap$ClauseBook$Kind" "[I" (.ref ts) (fun q => s.heap.size ≤ q) s s.heap := va_Zref (hts _ (lwt_1 _ (List.mem_of_getElem? (i := 210) rfl))) (hts _ (lwt_0 _ (List.mem_of_getElem? (i := 16) rfl))) hts2 hA
  obtain ⟨vs, hvs, hvr⟩ := Cond.isRef_spec (show (Cond.isRef _).before args s = true from hs _ (kx_m kx_sx.2.2))
  have hZf : va_Z "jdk/internal/util/Preconditions" "SIOOBE_FORMATTER" "Ljava/util/function/BiFunction;" vs (fun q => s.heap.size ≤ q) s s.heap := va_Zof (hts _ (lwt_2 _ (List.mem_of_getElem? (i := 231) rfl))) (hts _ (lwt_0 _ (List.mem_of_getElem? (i := 22) rfl))) hvs hA
  have hwo : ∀ i, i < 13 → va_OF "ClauseBook$Kind" "word" "Ljava/lang/String;" (.ref (w i).1) (ad i) (fun q => s.heap.size ≤ q) s s.heap := fun i hi => vk_OFof (hev i hi) (va_eqv (hs _ (kx_m (kx_kw ⟨i, hi⟩))) (va_eqw (hs _ (kx_m (kx_eq ⟨i, hi⟩))) (hw i hi).1)) hA
  obtain ⟨tf, hvs2⟩ : ∃ tf : Nat, vs = .null ∨ vs = .ref tf := by
    cases vs with
    | null => exact ⟨0, Or.inl rfl⟩
    | ref a => exact ⟨a, Or.inr rfl⟩
    | _ => simp [Value.isRef] at hvr
  refine ⟨ad, fun i => (w i).1, fun i => if i < 13 then (w i).2 else if i = 13 then ts else tf, ta, ⟨hEn, hZ, hT⟩, ⟨fun i hi => ?_, hC⟩, fun i hi => vk_R.of (hts _ (ks_sr i hi)) (hw i hi).1, ⟨hwo, hZs, hTs, ?_⟩⟩
  · simp only [if_pos hi]
    exact (hw i hi).2
  · rcases hvs2 with rfl | rfl
    · exact Or.inl hZf
    · exact Or.inr hZf
set_option maxRecDepth 100000 in
theorem nw_m : ∀ q ∈ nwM, Cond.methodLinkNest q.1 q.2.1 q.2.2 RX12 ∈ lw_tbl := List.forall_mem_cons.mpr ⟨lwt_0 _ (List.mem_of_getElem? (i := 41) rfl), List.forall_mem_cons.mpr ⟨lwt_0 _ (List.mem_of_getElem? (i := 80) rfl), List.forall_mem_cons.mpr ⟨lwt_0 _ (List.mem_of_getElem? (i := 130) rfl), List.forall_mem_cons.mpr ⟨lwt_0 _ (List.mem_of_getElem? (i := 217) rfl), List.forall_mem_cons.mpr ⟨lwt_1 _ (List.mem_of_getElem? (i := 10) rfl), List.forall_mem_cons.mpr ⟨lwt_1 _ (List.mem_of_getElem? (i := 38) rfl), List.forall_mem_cons.mpr ⟨lwt_1 _ (List.mem_of_getElem? (i := 152) rfl), List.forall_mem_cons.mpr ⟨lwt_1 _ (List.mem_of_getElem? (i := 186) rfl), List.forall_mem_cons.mpr ⟨lwt_2 _ (List.mem_of_getElem? (i := 192) rfl), fun _ h => absurd h List.not_mem_nil⟩⟩⟩⟩⟩⟩⟩⟩⟩
set_option maxRecDepth 100000 in
theorem nw_f : ∀ q ∈ nwF, Cond.fieldLinkNest q.1 q.2 RX7 "ALL" "[LClauseBook$Kind;" RX12 ∈ lw_tbl := List.forall_mem_cons.mpr ⟨lwt_1 _ (List.mem_of_getElem? (i := 146) rfl), List.forall_mem_cons.mpr ⟨lwt_1 _ (List.mem_of_getElem? (i := 165) rfl), List.forall_mem_cons.mpr ⟨lwt_2 _ (List.mem_of_getElem? (i := 187) rfl), fun _ h => absurd h List.not_mem_nil⟩⟩⟩
set_option maxRecDepth 100000 in
theorem nw_a : ∀ q ∈ (["ClauseBook$Bag", "ClauseBook$Sheet", "ClauseBook$Hand", "java/lang/String"] : List String), Cond.arrayOver (.object q) ∈ lw_tbl := List.forall_mem_cons.mpr ⟨lwt_0 _ (List.mem_of_getElem? (i := 128) rfl), List.forall_mem_cons.mpr ⟨lwt_1 _ (List.mem_of_getElem? (i := 6) rfl), List.forall_mem_cons.mpr ⟨lwt_1 _ (List.mem_of_getElem? (i := 8) rfl), List.forall_mem_cons.mpr ⟨lwt_3 _ (List.mem_of_getElem? (i := 194) rfl), fun _ h => absurd h List.not_mem_nil⟩⟩⟩⟩
set_option maxRecDepth 100000 in
set_option maxHeartbeats 4000000 in
/-- the classes, the arrays, the nest -/
theorem env_E {args : Array Value} {s : State} (hts : ∀ w ∈ lw_tbl, w.before args s = true) : ∃ (D : va_G) (T : Nat → ClassId), ekK D T s := by
  obtain ⟨c0, i0, hKn0⟩ := u_known (C := RX1) (T := TX1) (N := 2) (n := 2) hts (fun w h => (lgg_X10 w h).1) (hts (.instantiable RX1 2) (lwt_0 _ (List.mem_of_getElem? (i := 129) rfl)))
  obtain ⟨c1, i1, hKn1⟩ := u_known (C := RX2) (T := TX2) (N := 8) (n := 8) hts (fun w h => (lgg_X20 w h).1) (hts (.instantiable RX2 8) (lwt_0 _ (List.mem_of_getElem? (i := 79) rfl)))
  obtain ⟨c2, i2, hKn2⟩ := u_known (C := RX3) (T := TX3) (N := 7) (n := 7) hts (fun w h => (lgg_X30 w h).1) (hts (.instantiable RX3 7) (lwt_0 _ (List.mem_of_getElem? (i := 185) rfl)))
  obtain ⟨c3, i3, hKn3⟩ := u_known (C := RX4) (T := TX4) (N := 4) (n := 4) hts (fun w h => (lgg_X40 w h).1) (hts (.instantiable RX4 4) (lwt_1 _ (List.mem_of_getElem? (i := 37) rfl)))
  obtain ⟨c4, i4, hKn4⟩ := u_known (C := RX6) (T := TX6) (N := 3) (n := 3) hts (fun w h => (lgg_X60 w h).1) (hts (.instantiable RX6 3) (lwt_0 _ (List.mem_of_getElem? (i := 34) rfl)))
  obtain ⟨c5, i5, hKn5⟩ := u_known (C := RX8) (T := TX8) (N := 7) (n := 7) hts (fun w h => (lgg_X80 w h).1) (hts (.instantiable RX8 7) (lwt_0 _ (List.mem_of_getElem? (i := 40) rfl)))
  obtain ⟨c6, i6, hKn6⟩ := u_known (C := RX9) (T := TX9) (N := 6) (n := 6) hts (fun w h => (lgg_X90 w h).1) (hts (.instantiable RX9 6) (lwt_1 _ (List.mem_of_getElem? (i := 9) rfl)))
  obtain ⟨c7, i7, hKn7⟩ := u_known (C := RX10) (T := TX10) (N := 7) (n := 7) hts (fun w h => (lgg_X100 w h).1) (hts (.instantiable RX10 7) (lwt_0 _ (List.mem_of_getElem? (i := 216) rfl)))
  obtain ⟨c8, i8, hKn8⟩ := u_known (C := RX11) (T := TX11) (N := 6) (n := 6) hts (fun w h => (lgg_X110 w h).1) (hts (.instantiable RX11 6) (lwt_0 _ (List.mem_of_getElem? (i := 157) rfl)))
  obtain ⟨c9, i9, hKn9⟩ := u_known (C := RX12) (T := TX12) (N := 11) (n := 11) hts (fun w h => (lgg_X120 w h).1) (hts (.instantiable RX12 11) (lwt_0 _ (List.mem_of_getElem? (i := 26) rfl)))
  obtain ⟨c10, i10, hKn10⟩ := u_known (C := RX13) (T := TX13) (N := 45) (n := 45) hts (fun w h => (lgg_X130 w h).1) (hts (.instantiable RX13 45) (lwt_3 _ (List.mem_of_getElem? (i := 188) rfl)))
  obtain ⟨dC, dI, hKc⟩ : ∃ (dC : Nat → ClassId) (dI : Nat → Nat → Nat), ∀ (k : Nat) (q : vw_C), vwCl[k]? = some q → u_Kn s q.1 q.2.1 q.2.2 (dC k) (dI k) := by
    refine ⟨fun k => [c0, c1, c2, c3, c4, c5, c6, c7, c8, c9, c10].getD k c0, fun k => [i0, i1, i2, i3, i4, i5, i6, i7, i8, i9, i10].getD k i0, ?_⟩
    intro k q hq
    match k, hq with
    | 0, hq => cases hq; exact hKn0
    | 1, hq => cases hq; exact hKn1
    | 2, hq => cases hq; exact hKn2
    | 3, hq => cases hq; exact hKn3
    | 4, hq => cases hq; exact hKn4
    | 5, hq => cases hq; exact hKn5
    | 6, hq => cases hq; exact hKn6
    | 7, hq => cases hq; exact hKn7
    | 8, hq => cases hq; exact hKn8
    | 9, hq => cases hq; exact hKn9
    | 10, hq => cases hq; exact hKn10
    | k + 11, hq => simp [vwCl] at hq
  obtain ⟨t0, k0, p0, a0, b0, d0⟩ := Cond.arrayClass_spec (hts (.arrayClass .int) (lwt_0 _ (List.mem_of_getElem? (i := 126) rfl)))
  obtain ⟨t1, k1, p1, a1, b1, d1⟩ := Cond.arrayClass_spec (hts (.arrayClass .long) (lwt_0 _ (List.mem_of_getElem? (i := 183) rfl)))
  obtain ⟨t2, k2, p2, a2, b2, d2⟩ := Cond.arrayClass_spec (hts (.arrayClass .float) (lwt_1 _ (List.mem_of_getElem? (i := 35) rfl)))
  obtain ⟨t3, k3, p3, a3, b3, d3⟩ := Cond.arrayClass_spec (hts (.arrayClass .double) (lwt_1 _ (List.mem_of_getElem? (i := 36) rfl)))
  obtain ⟨t4, k4, p4, a4, b4, d4⟩ := Cond.arrayClass_spec (hts (.arrayClass .boolean) (lwt_4 _ (List.mem_of_getElem? (i := 104) rfl)))
  obtain ⟨p5, t5, k5, a5, -, b5, d5, g5⟩ := Cond.arrayOver_spec (hts (.arrayOver (.object "ClauseBook$Bag")) (lwt_0 _ (List.mem_of_getElem? (i := 128) rfl)))
  obtain ⟨p6, t6, k6, a6, -, b6, d6, g6⟩ := Cond.arrayOver_spec (hts (.arrayOver (.object "ClauseBook$Sheet")) (lwt_1 _ (List.mem_of_getElem? (i := 6) rfl)))
  obtain ⟨p7, t7, k7, a7, -, b7, d7, g7⟩ := Cond.arrayOver_spec (hts (.arrayOver (.object "ClauseBook$Hand")) (lwt_1 _ (List.mem_of_getElem? (i := 8) rfl)))
  obtain ⟨p8, t8, k8, a8, -, b8, d8, g8⟩ := Cond.arrayOver_spec (hts (.arrayOver (.object "java/lang/String")) (lwt_3 _ (List.mem_of_getElem? (i := 194) rfl)))
  refine ⟨(dC, dI), fun k => [t0, t1, t2, t3, t4, t5, t6, t7, t8].getD k t0, ⟨hKc, ?_⟩, fun q hq => va_Nw.of rfl (hts _ (nw_m q hq)), fun q hq => va_Nw.of rfl (hts _ (nw_f q hq)), fun q hq => va_AO.of (hts _ (nw_a q hq))⟩
  intro k q hq
  match k, hq with
  | 0, hq => cases hq; exact ⟨fun n z => ⟨fun k9 h9 => (by cases h9), k0, b0, p0, d0⟩, a0⟩
  | 1, hq => cases hq; exact ⟨fun n z => ⟨fun k9 h9 => (by cases h9), k1, b1, p1, d1⟩, a1⟩
  | 2, hq => cases hq; exact ⟨fun n z => ⟨fun k9 h9 => (by cases h9), k2, b2, p2, d2⟩, a2⟩
  | 3, hq => cases hq; exact ⟨fun n z => ⟨fun k9 h9 => (by cases h9), k3, b3, p3, d3⟩, a3⟩
  | 4, hq => cases hq; exact ⟨fun n z => ⟨fun k9 h9 => (by cases h9), k4, b4, p4, d4⟩, a4⟩
  | 5, hq => cases hq; exact ⟨fun n z => ⟨fun k9 h9 => (by cases h9), k5, b5, p5, d5⟩, k5, p5, b5, d5, a5, g5⟩
  | 6, hq => cases hq; exact ⟨fun n z => ⟨fun k9 h9 => (by cases h9), k6, b6, p6, d6⟩, k6, p6, b6, d6, a6, g6⟩
  | 7, hq => cases hq; exact ⟨fun n z => ⟨fun k9 h9 => (by cases h9), k7, b7, p7, d7⟩, k7, p7, b7, d7, a7, g7⟩
  | 8, hq => cases hq; exact ⟨fun n z => ⟨fun k9 h9 => (by cases h9), k8, b8, p8, d8⟩, k8, p8, b8, d8, a8, g8⟩
  | k + 9, hq => simp [tyL] at hq
