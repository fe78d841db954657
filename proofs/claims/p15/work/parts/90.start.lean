/-! the surroundings at the law's entry, out of the Statement's tables and premises -/
def lwFl : List Cond := flatC (Jvm.Cond.and given_1 narrow_1)
theorem kx_m {k : Nat} {w : Cond} (h : lwFl[k]? = some w) : w ∈ lwFl := List.mem_of_getElem? h
set_option maxRecDepth 100000 in
theorem kx_ex : ∀ i : Fin 13, lwFl[([29, 127, 142, 158, 175, 113, 83, 95, 22, 72, 193, 53, 62] : List Nat).getD i.val 0]? = some (Cond.exactly (.static "ClauseBook$Kind" (kdN.getD i.val "") "LClauseBook$Kind;") "ClauseBook$Kind") := by decide +kernel
set_option maxRecDepth 100000 in
theorem kx_f_names : ∀ i : Fin 13, lwFl[([33, 131, 146, 162, 179, 117, 87, 99, 26, 76, 197, 57, 66] : List Nat).getD i.val 0]? = some (Cond.eq (.field (.static "ClauseBook$Kind" (kdN.getD i.val "") "LClauseBook$Kind;") "ClauseBook$Kind" "names" "I") (.int (([0, 0, 1, 1, 1, 2, 2, 2, 1, 2, 1, 1, 2] : List Int32).getD i.val 0))) := by decide +kernel
set_option maxRecDepth 100000 in
theorem kx_f_least : ∀ i : Fin 13, lwFl[([34, 132, 147, 163, 180, 118, 88, 100, 27, 77, 198, 58, 67] : List Nat).getD i.val 0]? = some (Cond.eq (.field (.static "ClauseBook$Kind" (kdN.getD i.val "") "LClauseBook$Kind;") "ClauseBook$Kind" "least" "I") (.int (([0, 0, 0, -9, 0, 0, 0, 0, 0, 0, 0, 0, -99] : List Int32).getD i.val 0))) := by decide +kernel
set_option maxRecDepth 100000 in
theorem kx_f_most : ∀ i : Fin 13, lwFl[([35, 133, 148, 164, 181, 119, 89, 101, 28, 78, 199, 59, 68] : List Nat).getD i.val 0]? = some (Cond.eq (.field (.static "ClauseBook$Kind" (kdN.getD i.val "") "LClauseBook$Kind;") "ClauseBook$Kind" "most" "I") (.int (([0, 0, 0, 9, 0, 0, 0, 0, 6, 0, 0, 0, 99] : List Int32).getD i.val 0))) := by decide +kernel
set_option maxRecDepth 100000 in
theorem kx_f_number : ∀ i : Fin 13, lwFl[([31, 129, 144, 160, 177, 115, 85, 97, 24, 74, 195, 55, 64] : List Nat).getD i.val 0]? = some (Cond.eq (.field (.static "ClauseBook$Kind" (kdN.getD i.val "") "LClauseBook$Kind;") "ClauseBook$Kind" "number" "I") (.int (([0, 1, 2, 3, 4, 5, 6, 7, 8, 9, 10, 11, 12] : List Int32).getD i.val 0))) := by decide +kernel
set_option maxRecDepth 100000 in
theorem kx_el : ∀ i : Fin 13, lwFl[([9, 10, 11, 12, 13, 14, 15, 16, 17, 18, 19, 20, 21] : List Nat).getD i.val 0]? = some (Cond.eq (.elem (.static "ClauseBook$Kind" "ALL" "[LClauseBook$Kind;") (.int (Int32.ofNat i.val))) (.static "ClauseBook$Kind" (kdN.getD i.val "") "LClauseBook$Kind;")) := by decide +kernel
set_option maxRecDepth 100000 in
theorem kx_all : lwFl[6]? = some (Cond.arrayOf (.static "ClauseBook$Kind" "ALL" "[LClauseBook$Kind;") (.object "ClauseBook$Kind")) ∧ lwFl[7]? = some (Cond.eq (.length (.static "ClauseBook$Kind" "ALL" "[LClauseBook$Kind;")) (.int 13)) ∧ lwFl[108]? = some (Cond.eq (.static "java/lang/String" "COMPACT_STRINGS" "Z") (.int 1)) := by decide +kernel
set_option maxRecDepth 100000 in
theorem kx_or : ∀ i : Fin 13, lwFl[([30, 128, 143, 159, 176, 114, 84, 96, 23, 73, 194, 54, 63] : List Nat).getD i.val 0]? = some (Cond.eq (.field (.static "ClauseBook$Kind" (kdN.getD i.val "") "LClauseBook$Kind;") "java/lang/Enum" "ordinal" "I") (.int (([0, 1, 2, 3, 4, 5, 6, 7, 8, 9, 10, 11, 12] : List Int32).getD i.val 0))) := by decide +kernel
def kwI : List Nat := [86, 92, 95, 98, 101, 104, 107, 110, 113, 116, 119, 122, 125]
set_option maxRecDepth 100000 in
theorem kx_kw : ∀ i : Fin 13, lwFl[([32, 130, 145, 161, 178, 116, 86, 98, 25, 75, 196, 56, 65] : List Nat).getD i.val 0]? = some (Cond.eq (.field (.static "ClauseBook$Kind" (kdN.getD i.val "") "LClauseBook$Kind;") "ClauseBook$Kind" "word" "Ljava/lang/String;") (.string "ClauseBook$Kind" (kwI.getD i.val 0))) := by decide +kernel
set_option maxRecDepth 100000 in
theorem kx_eq : ∀ i : Fin 13, lwFl[([385, 451, 461, 472, 483, 443, 424, 434, 373, 413, 492, 394, 404] : List Nat).getD i.val 0]? = some (Cond.eq (.string "ClauseBookModel" (ksI.getD i.val 0)) (.string "ClauseBook$Kind" (kwI.getD i.val 0))) := by decide +kernel
set_option maxRecDepth 100000 in
theorem kx_sw : ∀ i : Fin 13, lwFl[([40, 41, 42, 43, 44, 45, 46, 47, 48, 49, 50, 51, 52] : List Nat).getD i.val 0]? = some (Cond.eq (.elem (.static "ClauseBook$1" "$SwitchMap$ClauseBook$Kind" "[I") (.int (Int32.ofNat i.val))) (.int (swT i.val))) := by decide +kernel
set_option maxRecDepth 100000 in
theorem kx_sx : lwFl[38]? = some (Cond.arrayOf (.static "ClauseBook$1" "$SwitchMap$ClauseBook$Kind" "[I") .int) ∧ lwFl[39]? = some (Cond.eq (.length (.static "ClauseBook$1" "$SwitchMap$ClauseBook$Kind" "[I")) (.int 13)) ∧ lwFl[109]? = some (Cond.isRef (.static "jdk/internal/util/Preconditions" "SIOOBE_FORMATTER" "Ljava/util/function/BiFunction;")) := by decide +kernel
