def ksP : List (List Nat) := [[252, 253, 254, 255, 256, 257, 258], [263, 264, 265], [270, 271, 272, 273, 274], [279, 280, 281, 282, 283, 284], [289, 290, 291, 292, 293, 294], [299, 300, 301, 302], [307, 308, 309, 310, 311, 312], [317, 318, 319, 320, 321], [326, 327, 328, 329, 330], [335, 336, 337, 338], [343, 344, 345, 346], [351, 352, 353, 354], [359, 360, 361, 362, 363]]
set_option maxRecDepth 100000 in
theorem ks_el_0 : ∀ j : Fin 7, lwFl[([252, 253, 254, 255, 256, 257, 258] : List Nat).getD j.val 0]? = some (Cond.eq (.elem (.field (.string "ClauseBookModel" 75) "java/lang/String" "value" "[B") (.int (Int32.ofNat j.val))) (.int (([110, 111, 116, 104, 105, 110, 103] : List Int32).getD j.val 0))) := by decide +kernel
set_option maxRecDepth 100000 in
theorem ks_el_1 : ∀ j : Fin 3, lwFl[([263, 264, 265] : List Nat).getD j.val 0]? = some (Cond.eq (.elem (.field (.string "ClauseBookModel" 77) "java/lang/String" "value" "[B") (.int (Int32.ofNat j.val))) (.int (([111, 110, 101] : List Int32).getD j.val 0))) := by decide +kernel
set_option maxRecDepth 100000 in
theorem ks_el_2 : ∀ j : Fin 5, lwFl[([270, 271, 272, 273, 274] : List Nat).getD j.val 0]? = some (Cond.eq (.elem (.field (.string "ClauseBookModel" 78) "java/lang/String" "value" "[B") (.int (Int32.ofNat j.val))) (.int (([103, 105, 118, 101, 110] : List Int32).getD j.val 0))) := by decide +kernel
set_option maxRecDepth 100000 in
theorem ks_el_3 : ∀ j : Fin 6, lwFl[([279, 280, 281, 282, 283, 284] : List Nat).getD j.val 0]? = some (Cond.eq (.elem (.field (.string "ClauseBookModel" 80) "java/lang/String" "value" "[B") (.int (Int32.ofNat j.val))) (.int (([115, 99, 97, 108, 101, 100] : List Int32).getD j.val 0))) := by decide +kernel
set_option maxRecDepth 100000 in
theorem ks_el_4 : ∀ j : Fin 6, lwFl[([289, 290, 291, 292, 293, 294] : List Nat).getD j.val 0]? = some (Cond.eq (.elem (.field (.string "ClauseBookModel" 82) "java/lang/String" "value" "[B") (.int (Int32.ofNat j.val))) (.int (([112, 114, 105, 99, 101, 100] : List Int32).getD j.val 0))) := by decide +kernel
set_option maxRecDepth 100000 in
theorem ks_el_5 : ∀ j : Fin 4, lwFl[([299, 300, 301, 302] : List Nat).getD j.val 0]? = some (Cond.eq (.elem (.field (.string "ClauseBookModel" 84) "java/lang/String" "value" "[B") (.int (Int32.ofNat j.val))) (.int (([98, 111, 116, 104] : List Int32).getD j.val 0))) := by decide +kernel
set_option maxRecDepth 100000 in
theorem ks_el_6 : ∀ j : Fin 6, lwFl[([307, 308, 309, 310, 311, 312] : List Nat).getD j.val 0]? = some (Cond.eq (.elem (.field (.string "ClauseBookModel" 86) "java/lang/String" "value" "[B") (.int (Int32.ofNat j.val))) (.int (([98, 101, 116, 116, 101, 114] : List Int32).getD j.val 0))) := by decide +kernel
set_option maxRecDepth 100000 in
theorem ks_el_7 : ∀ j : Fin 5, lwFl[([317, 318, 319, 320, 321] : List Nat).getD j.val 0]? = some (Cond.eq (.elem (.field (.string "ClauseBookModel" 88) "java/lang/String" "value" "[B") (.int (Int32.ofNat j.val))) (.int (([119, 111, 114, 115, 101] : List Int32).getD j.val 0))) := by decide +kernel
set_option maxRecDepth 100000 in
theorem ks_el_8 : ∀ j : Fin 5, lwFl[([326, 327, 328, 329, 330] : List Nat).getD j.val 0]? = some (Cond.eq (.elem (.field (.string "ClauseBookModel" 90) "java/lang/String" "value" "[B") (.int (Int32.ofNat j.val))) (.int (([117, 110, 116, 105, 108] : List Int32).getD j.val 0))) := by decide +kernel
set_option maxRecDepth 100000 in
theorem ks_el_9 : ∀ j : Fin 4, lwFl[([335, 336, 337, 338] : List Nat).getD j.val 0]? = some (Cond.eq (.elem (.field (.string "ClauseBookModel" 92) "java/lang/String" "value" "[B") (.int (Int32.ofNat j.val))) (.int (([116, 104, 101, 110] : List Int32).getD j.val 0))) := by decide +kernel
set_option maxRecDepth 100000 in
theorem ks_el_10 : ∀ j : Fin 4, lwFl[([343, 344, 345, 346] : List Nat).getD j.val 0]? = some (Cond.eq (.elem (.field (.string "ClauseBookModel" 94) "java/lang/String" "value" "[B") (.int (Int32.ofNat j.val))) (.int (([108, 97, 116, 101] : List Int32).getD j.val 0))) := by decide +kernel
set_option maxRecDepth 100000 in
theorem ks_el_11 : ∀ j : Fin 4, lwFl[([351, 352, 353, 354] : List Nat).getD j.val 0]? = some (Cond.eq (.elem (.field (.string "ClauseBookModel" 96) "java/lang/String" "value" "[B") (.int (Int32.ofNat j.val))) (.int (([102, 114, 101, 101] : List Int32).getD j.val 0))) := by decide +kernel
set_option maxRecDepth 100000 in
theorem ks_el_12 : ∀ j : Fin 5, lwFl[([359, 360, 361, 362, 363] : List Nat).getD j.val 0]? = some (Cond.eq (.elem (.field (.string "ClauseBookModel" 98) "java/lang/String" "value" "[B") (.int (Int32.ofNat j.val))) (.int (([119, 104, 101, 114, 101] : List Int32).getD j.val 0))) := by decide +kernel
theorem ks_el : ∀ (i : Nat) (_ : i < 13) (j : Nat), j < ksL.getD i 0 → Cond.eq (.elem (.field (.string "ClauseBookModel" (ksI.getD i 0)) "java/lang/String" "value" "[B") (.int (Int32.ofNat j))) (.int ((ksB.getD i []).getD j 0)) ∈ lwFl := by
  intro i hi j hj
  match i, hi, hj with
  | 0, _, hj => exact kx_m (ks_el_0 ⟨j, hj⟩)
  | 1, _, hj => exact kx_m (ks_el_1 ⟨j, hj⟩)
  | 2, _, hj => exact kx_m (ks_el_2 ⟨j, hj⟩)
  | 3, _, hj => exact kx_m (ks_el_3 ⟨j, hj⟩)
  | 4, _, hj => exact kx_m (ks_el_4 ⟨j, hj⟩)
  | 5, _, hj => exact kx_m (ks_el_5 ⟨j, hj⟩)
  | 6, _, hj => exact kx_m (ks_el_6 ⟨j, hj⟩)
  | 7, _, hj => exact kx_m (ks_el_7 ⟨j, hj⟩)
  | 8, _, hj => exact kx_m (ks_el_8 ⟨j, hj⟩)
  | 9, _, hj => exact kx_m (ks_el_9 ⟨j, hj⟩)
  | 10, _, hj => exact kx_m (ks_el_10 ⟨j, hj⟩)
  | 11, _, hj => exact kx_m (ks_el_11 ⟨j, hj⟩)
  | 12, _, hj => exact kx_m (ks_el_12 ⟨j, hj⟩)
  | i + 13, hi, _ => omega
theorem ks_l7 : ∀ i : Fin 13, ksL.getD i.val 0 ≤ 7 := by decide
