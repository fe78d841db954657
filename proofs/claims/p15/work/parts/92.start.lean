set_option maxRecDepth 100000 in
theorem ks_ex : ∀ i : Fin 13, lwFl[([248, 259, 266, 275, 285, 295, 303, 313, 322, 331, 339, 347, 355] : List Nat).getD i.val 0]? = some (Cond.exactly (.string "ClauseBookModel" (ksI.getD i.val 0)) "java/lang/String") := by decide +kernel
set_option maxRecDepth 100000 in
theorem ks_co : ∀ i : Fin 13, lwFl[([249, 260, 267, 276, 286, 296, 304, 314, 323, 332, 340, 348, 356] : List Nat).getD i.val 0]? = some (Cond.eq (.field (.string "ClauseBookModel" (ksI.getD i.val 0)) "java/lang/String" "coder" "B") (.int 0)) := by decide +kernel
set_option maxRecDepth 100000 in
theorem ks_ar : ∀ i : Fin 13, lwFl[([250, 261, 268, 277, 287, 297, 305, 315, 324, 333, 341, 349, 357] : List Nat).getD i.val 0]? = some (Cond.arrayOf (.field (.string "ClauseBookModel" (ksI.getD i.val 0)) "java/lang/String" "value" "[B") .byte) := by decide +kernel
set_option maxRecDepth 100000 in
theorem ks_le : ∀ i : Fin 13, lwFl[([251, 262, 269, 278, 288, 298, 306, 316, 325, 334, 342, 350, 358] : List Nat).getD i.val 0]? = some (Cond.eq (.length (.field (.string "ClauseBookModel" (ksI.getD i.val 0)) "java/lang/String" "value" "[B")) (.int (Int32.ofNat (ksL.getD i.val 0)))) := by decide +kernel
