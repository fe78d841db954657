set_option maxRecDepth 20000 in
theorem mw_553 : (Cond.instanceMethod yX11_raise) ∈ lw_tbl ∧ goodWord (Cond.instanceMethod yX11_raise) = true := ⟨lwt_2 _ (List.mem_of_getElem? (i := 18) rfl), by decide +kernel⟩
set_option maxRecDepth 20000 in
theorem mw_551 : (Cond.methodLink RX11 108 yX11_raise) ∈ lw_tbl ∧ goodWord (Cond.methodLink RX11 108 yX11_raise) = true := ⟨lwt_2 _ (List.mem_of_getElem? (i := 16) rfl), by decide +kernel⟩
set_option maxRecDepth 20000 in
theorem mw_547 : (Cond.selects RX11 yX11_average yX11_average) ∈ lw_tbl ∧ goodWord (Cond.selects RX11 yX11_average yX11_average) = true := ⟨lwt_2 _ (List.mem_of_getElem? (i := 12) rfl), by decide +kernel⟩
set_option maxRecDepth 20000 in
theorem mw_546 : (Cond.instanceMethod yX11_average) ∈ lw_tbl ∧ goodWord (Cond.instanceMethod yX11_average) = true := ⟨lwt_2 _ (List.mem_of_getElem? (i := 11) rfl), by decide +kernel⟩
set_option maxRecDepth 20000 in
theorem mw_545 : (Cond.methodLink RX11 101 yX11_average) ∈ lw_tbl ∧ goodWord (Cond.methodLink RX11 101 yX11_average) = true := ⟨lwt_2 _ (List.mem_of_getElem? (i := 10) rfl), by decide +kernel⟩
set_option maxRecDepth 20000 in
theorem mw_544 : (Cond.code yX11_repeat cX11_repeat 3 none) ∈ lw_tbl ∧ goodWord (Cond.code yX11_repeat cX11_repeat 3 none) = true := ⟨lwt_2 _ (List.mem_of_getElem? (i := 9) rfl), by decide +kernel⟩
set_option maxRecDepth 20000 in
theorem mw_4 : (Cond.selects RX11 yX11_repeat yX11_repeat) ∈ lw_tbl ∧ goodWord (Cond.selects RX11 yX11_repeat yX11_repeat) = true := ⟨lwt_s _ (List.mem_of_getElem? (i := 4) rfl), by decide +kernel⟩
set_option maxRecDepth 20000 in
theorem mw_543 : (Cond.instanceMethod yX11_repeat) ∈ lw_tbl ∧ goodWord (Cond.instanceMethod yX11_repeat) = true := ⟨lwt_2 _ (List.mem_of_getElem? (i := 8) rfl), by decide +kernel⟩
set_option maxRecDepth 20000 in
theorem mw_541 : (Cond.methodLink RX11 97 yX11_repeat) ∈ lw_tbl ∧ goodWord (Cond.methodLink RX11 97 yX11_repeat) = true := ⟨lwt_2 _ (List.mem_of_getElem? (i := 6) rfl), by decide +kernel⟩
set_option maxRecDepth 20000 in
theorem mw_540 : (Cond.code yX11_sumFits cX11_sumFits 6 (some .boolean)) ∈ lw_tbl ∧ goodWord (Cond.code yX11_sumFits cX11_sumFits 6 (some .boolean)) = true := ⟨lwt_2 _ (List.mem_of_getElem? (i := 5) rfl), by decide +kernel⟩
set_option maxRecDepth 20000 in
theorem mw_539 : (Cond.static yX11_sumFits) ∈ lw_tbl ∧ goodWord (Cond.static yX11_sumFits) = true := ⟨lwt_2 _ (List.mem_of_getElem? (i := 4) rfl), by decide +kernel⟩
set_option maxRecDepth 20000 in
theorem mw_538 : (Cond.methodLink RX11 151 yX11_sumFits) ∈ lw_tbl ∧ goodWord (Cond.methodLink RX11 151 yX11_sumFits) = true := ⟨lwt_2 _ (List.mem_of_getElem? (i := 3) rfl), by decide +kernel⟩
set_option maxRecDepth 20000 in
theorem mw_537 : (Cond.code yX11_plus cX11_plus 13 none) ∈ lw_tbl ∧ goodWord (Cond.code yX11_plus cX11_plus 13 none) = true := ⟨lwt_2 _ (List.mem_of_getElem? (i := 2) rfl), by decide +kernel⟩
set_option maxRecDepth 20000 in
theorem mw_3 : (Cond.selects RX11 yX11_plus yX11_plus) ∈ lw_tbl ∧ goodWord (Cond.selects RX11 yX11_plus yX11_plus) = true := ⟨lwt_s _ (List.mem_of_getElem? (i := 3) rfl), by decide +kernel⟩
set_option maxRecDepth 20000 in
theorem mw_536 : (Cond.instanceMethod yX11_plus) ∈ lw_tbl ∧ goodWord (Cond.instanceMethod yX11_plus) = true := ⟨lwt_2 _ (List.mem_of_getElem? (i := 1) rfl), by decide +kernel⟩
set_option maxRecDepth 20000 in
theorem mw_534 : (Cond.methodLink RX11 93 yX11_plus) ∈ lw_tbl ∧ goodWord (Cond.methodLink RX11 93 yX11_plus) = true := ⟨lwt_1 _ (List.mem_of_getElem? (i := 239) rfl), by decide +kernel⟩
set_option maxRecDepth 20000 in
theorem mw_117 : (Cond.fieldLink RX11 138 "ClauseBook$Lattice" "b" "I") ∈ lw_tbl ∧ goodWord (Cond.fieldLink RX11 138 "ClauseBook$Lattice" "b" "I") = true := ⟨lwt_0 _ (List.mem_of_getElem? (i := 62) rfl), by decide +kernel⟩
set_option maxRecDepth 20000 in
theorem mw_114 : (Cond.fieldLink RX11 135 "ClauseBook$Lattice" "a" "I") ∈ lw_tbl ∧ goodWord (Cond.fieldLink RX11 135 "ClauseBook$Lattice" "a" "I") = true := ⟨lwt_0 _ (List.mem_of_getElem? (i := 59) rfl), by decide +kernel⟩
set_option maxRecDepth 20000 in
theorem mw_111 : (Cond.fieldLink RX11 132 "ClauseBook$Lattice" "q" "I") ∈ lw_tbl ∧ goodWord (Cond.fieldLink RX11 132 "ClauseBook$Lattice" "q" "I") = true := ⟨lwt_0 _ (List.mem_of_getElem? (i := 56) rfl), by decide +kernel⟩
set_option maxRecDepth 20000 in
theorem mw_108 : (Cond.fieldLink RX11 129 "ClauseBook$Lattice" "p" "I") ∈ lw_tbl ∧ goodWord (Cond.fieldLink RX11 129 "ClauseBook$Lattice" "p" "I") = true := ⟨lwt_0 _ (List.mem_of_getElem? (i := 53) rfl), by decide +kernel⟩
set_option maxRecDepth 20000 in
theorem mw_548 : (Cond.code yX11_average cX11_average 7 none) ∈ lw_tbl ∧ goodWord (Cond.code yX11_average cX11_average 7 none) = true := ⟨lwt_2 _ (List.mem_of_getElem? (i := 13) rfl), by decide +kernel⟩
set_option maxRecDepth 20000 in
theorem mw_571 : (Cond.selects RX11 yX11_picked yX11_picked) ∈ lw_tbl ∧ goodWord (Cond.selects RX11 yX11_picked yX11_picked) = true := ⟨lwt_2 _ (List.mem_of_getElem? (i := 36) rfl), by decide +kernel⟩
set_option maxRecDepth 20000 in
theorem mw_570 : (Cond.instanceMethod yX11_picked) ∈ lw_tbl ∧ goodWord (Cond.instanceMethod yX11_picked) = true := ⟨lwt_2 _ (List.mem_of_getElem? (i := 35) rfl), by decide +kernel⟩
set_option maxRecDepth 20000 in
theorem mw_569 : (Cond.methodLink RX11 111 yX11_picked) ∈ lw_tbl ∧ goodWord (Cond.methodLink RX11 111 yX11_picked) = true := ⟨lwt_2 _ (List.mem_of_getElem? (i := 34) rfl), by decide +kernel⟩
set_option maxRecDepth 20000 in
theorem mw_568 : (Cond.code yJ9_floorMod_f86c9 cJ9_floorMod_f86c9 6 (some .long)) ∈ lw_tbl ∧ goodWord (Cond.code yJ9_floorMod_f86c9 cJ9_floorMod_f86c9 6 (some .long)) = true := ⟨lwt_2 _ (List.mem_of_getElem? (i := 33) rfl), by decide +kernel⟩
set_option maxRecDepth 20000 in
theorem mw_567 : (Cond.static yJ9_floorMod_f86c9) ∈ lw_tbl ∧ goodWord (Cond.static yJ9_floorMod_f86c9) = true := ⟨lwt_2 _ (List.mem_of_getElem? (i := 32) rfl), by decide +kernel⟩
set_option maxRecDepth 20000 in
theorem mw_566 : (Cond.methodLink RX11 164 yJ9_floorMod_f86c9) ∈ lw_tbl ∧ goodWord (Cond.methodLink RX11 164 yJ9_floorMod_f86c9) = true := ⟨lwt_2 _ (List.mem_of_getElem? (i := 31) rfl), by decide +kernel⟩
set_option maxRecDepth 20000 in
theorem mw_565 : (Cond.code yJ9_floorDiv_f86c9 cJ9_floorDiv_f86c9 6 (some .long)) ∈ lw_tbl ∧ goodWord (Cond.code yJ9_floorDiv_f86c9 cJ9_floorDiv_f86c9 6 (some .long)) = true := ⟨lwt_2 _ (List.mem_of_getElem? (i := 30) rfl), by decide +kernel⟩
set_option maxRecDepth 20000 in
theorem mw_564 : (Cond.static yJ9_floorDiv_f86c9) ∈ lw_tbl ∧ goodWord (Cond.static yJ9_floorDiv_f86c9) = true := ⟨lwt_2 _ (List.mem_of_getElem? (i := 29) rfl), by decide +kernel⟩
set_option maxRecDepth 20000 in
theorem mw_563 : (Cond.methodLink RX11 160 yJ9_floorDiv_f86c9) ∈ lw_tbl ∧ goodWord (Cond.methodLink RX11 160 yJ9_floorDiv_f86c9) = true := ⟨lwt_2 _ (List.mem_of_getElem? (i := 28) rfl), by decide +kernel⟩
set_option maxRecDepth 20000 in
theorem mw_562 : (Cond.code yX11_order cX11_order 21 (some .int)) ∈ lw_tbl ∧ goodWord (Cond.code yX11_order cX11_order 21 (some .int)) = true := ⟨lwt_2 _ (List.mem_of_getElem? (i := 27) rfl), by decide +kernel⟩
set_option maxRecDepth 20000 in
theorem mw_561 : (Cond.selects RX11 yX11_order yX11_order) ∈ lw_tbl ∧ goodWord (Cond.selects RX11 yX11_order yX11_order) = true := ⟨lwt_2 _ (List.mem_of_getElem? (i := 26) rfl), by decide +kernel⟩
set_option maxRecDepth 20000 in
theorem mw_560 : (Cond.instanceMethod yX11_order) ∈ lw_tbl ∧ goodWord (Cond.instanceMethod yX11_order) = true := ⟨lwt_2 _ (List.mem_of_getElem? (i := 25) rfl), by decide +kernel⟩
set_option maxRecDepth 20000 in
theorem mw_559 : (Cond.methodLink RX11 114 yX11_order) ∈ lw_tbl ∧ goodWord (Cond.methodLink RX11 114 yX11_order) = true := ⟨lwt_2 _ (List.mem_of_getElem? (i := 24) rfl), by decide +kernel⟩
set_option maxRecDepth 20000 in
theorem mw_558 : (Cond.code yX11_isMuch cX11_isMuch 2 (some .boolean)) ∈ lw_tbl ∧ goodWord (Cond.code yX11_isMuch cX11_isMuch 2 (some .boolean)) = true := ⟨lwt_2 _ (List.mem_of_getElem? (i := 23) rfl), by decide +kernel⟩
set_option maxRecDepth 20000 in
theorem mw_557 : (Cond.selects RX11 yX11_isMuch yX11_isMuch) ∈ lw_tbl ∧ goodWord (Cond.selects RX11 yX11_isMuch yX11_isMuch) = true := ⟨lwt_2 _ (List.mem_of_getElem? (i := 22) rfl), by decide +kernel⟩
set_option maxRecDepth 20000 in
theorem mw_556 : (Cond.instanceMethod yX11_isMuch) ∈ lw_tbl ∧ goodWord (Cond.instanceMethod yX11_isMuch) = true := ⟨lwt_2 _ (List.mem_of_getElem? (i := 21) rfl), by decide +kernel⟩
set_option maxRecDepth 20000 in
theorem mw_555 : (Cond.methodLink RX11 34 yX11_isMuch) ∈ lw_tbl ∧ goodWord (Cond.methodLink RX11 34 yX11_isMuch) = true := ⟨lwt_2 _ (List.mem_of_getElem? (i := 20) rfl), by decide +kernel⟩
set_option maxRecDepth 20000 in
theorem mw_554 : (Cond.code yX11_raise cX11_raise 3 none) ∈ lw_tbl ∧ goodWord (Cond.code yX11_raise cX11_raise 3 none) = true := ⟨lwt_2 _ (List.mem_of_getElem? (i := 19) rfl), by decide +kernel⟩
set_option maxRecDepth 20000 in
theorem mw_584 : (Cond.constantLong RX11 38 (-4611686018427387909)) ∈ lw_tbl ∧ goodWord (Cond.constantLong RX11 38 (-4611686018427387909)) = true := ⟨lwt_2 _ (List.mem_of_getElem? (i := 49) rfl), by decide +kernel⟩
set_option maxRecDepth 20000 in
theorem mw_583 : (Cond.code yX11_partOf cX11_partOf 3 (some .long)) ∈ lw_tbl ∧ goodWord (Cond.code yX11_partOf cX11_partOf 3 (some .long)) = true := ⟨lwt_2 _ (List.mem_of_getElem? (i := 48) rfl), by decide +kernel⟩
set_option maxRecDepth 20000 in
theorem mw_582 : (Cond.selects RX11 yX11_partOf yX11_partOf) ∈ lw_tbl ∧ goodWord (Cond.selects RX11 yX11_partOf yX11_partOf) = true := ⟨lwt_2 _ (List.mem_of_getElem? (i := 47) rfl), by decide +kernel⟩
set_option maxRecDepth 20000 in
theorem mw_581 : (Cond.instanceMethod yX11_partOf) ∈ lw_tbl ∧ goodWord (Cond.instanceMethod yX11_partOf) = true := ⟨lwt_2 _ (List.mem_of_getElem? (i := 46) rfl), by decide +kernel⟩
set_option maxRecDepth 20000 in
theorem mw_580 : (Cond.methodLink RX12 189 yX11_partOf) ∈ lw_tbl ∧ goodWord (Cond.methodLink RX12 189 yX11_partOf) = true := ⟨lwt_2 _ (List.mem_of_getElem? (i := 45) rfl), by decide +kernel⟩
set_option maxRecDepth 20000 in
theorem mw_578 : (Cond.fieldLink RX11 126 "ClauseBook$Kind" "BETTER" "LClauseBook$Kind;") ∈ lw_tbl ∧ goodWord (Cond.fieldLink RX11 126 "ClauseBook$Kind" "BETTER" "LClauseBook$Kind;") = true := ⟨lwt_2 _ (List.mem_of_getElem? (i := 43) rfl), by decide +kernel⟩
set_option maxRecDepth 20000 in
theorem mw_576 : (Cond.fieldLink RX11 123 "ClauseBook$Kind" "THEN" "LClauseBook$Kind;") ∈ lw_tbl ∧ goodWord (Cond.fieldLink RX11 123 "ClauseBook$Kind" "THEN" "LClauseBook$Kind;") = true := ⟨lwt_2 _ (List.mem_of_getElem? (i := 41) rfl), by decide +kernel⟩
set_option maxRecDepth 20000 in
theorem mw_574 : (Cond.fieldLink RX11 120 "ClauseBook$Kind" "WHERE" "LClauseBook$Kind;") ∈ lw_tbl ∧ goodWord (Cond.fieldLink RX11 120 "ClauseBook$Kind" "WHERE" "LClauseBook$Kind;") = true := ⟨lwt_2 _ (List.mem_of_getElem? (i := 39) rfl), by decide +kernel⟩
set_option maxRecDepth 20000 in
theorem mw_573 : (Cond.fieldLink RX11 117 "ClauseBook$Kind" "UNTIL" "LClauseBook$Kind;") ∈ lw_tbl ∧ goodWord (Cond.fieldLink RX11 117 "ClauseBook$Kind" "UNTIL" "LClauseBook$Kind;") = true := ⟨lwt_2 _ (List.mem_of_getElem? (i := 38) rfl), by decide +kernel⟩
set_option maxRecDepth 20000 in
theorem mw_572 : (Cond.code yX11_picked cX11_picked 10 (some .int)) ∈ lw_tbl ∧ goodWord (Cond.code yX11_picked cX11_picked 10 (some .int)) = true := ⟨lwt_2 _ (List.mem_of_getElem? (i := 37) rfl), by decide +kernel⟩
set_option maxRecDepth 20000 in
theorem mw_588 : (Cond.code yX12_mean cX12_mean 5 (some .long)) ∈ lw_tbl ∧ goodWord (Cond.code yX12_mean cX12_mean 5 (some .long)) = true := ⟨lwt_2 _ (List.mem_of_getElem? (i := 53) rfl), by decide +kernel⟩
set_option maxRecDepth 20000 in
theorem mw_589 : (Cond.methodLink RX12 193 yX11_average) ∈ lw_tbl ∧ goodWord (Cond.methodLink RX12 193 yX11_average) = true := ⟨lwt_2 _ (List.mem_of_getElem? (i := 54) rfl), by decide +kernel⟩
set_option maxRecDepth 20000 in
theorem mw_593 : (Cond.code yX12_valueAs cX12_valueAs 8 (some .long)) ∈ lw_tbl ∧ goodWord (Cond.code yX12_valueAs cX12_valueAs 8 (some .long)) = true := ⟨lwt_2 _ (List.mem_of_getElem? (i := 58) rfl), by decide +kernel⟩
set_option maxRecDepth 20000 in
theorem mw_617 : (Cond.constantDouble RX12 229 (4604930618986332160)) ∈ lw_tbl ∧ goodWord (Cond.constantDouble RX12 229 (4604930618986332160)) = true := ⟨lwt_2 _ (List.mem_of_getElem? (i := 82) rfl), by decide +kernel⟩
set_option maxRecDepth 20000 in
theorem mw_616 : (Cond.constantDouble RX12 227 (4600427019358961664)) ∈ lw_tbl ∧ goodWord (Cond.constantDouble RX12 227 (4600427019358961664)) = true := ⟨lwt_2 _ (List.mem_of_getElem? (i := 81) rfl), by decide +kernel⟩
set_option maxRecDepth 20000 in
theorem mw_615 : (Cond.constantDouble RX12 225 (4652007308841189376)) ∈ lw_tbl ∧ goodWord (Cond.constantDouble RX12 225 (4652007308841189376)) = true := ⟨lwt_2 _ (List.mem_of_getElem? (i := 80) rfl), by decide +kernel⟩
set_option maxRecDepth 20000 in
theorem mw_596 : (Cond.constantDouble RX12 209 (4636737291354636288)) ∈ lw_tbl ∧ goodWord (Cond.constantDouble RX12 209 (4636737291354636288)) = true := ⟨lwt_2 _ (List.mem_of_getElem? (i := 61) rfl), by decide +kernel⟩
set_option maxRecDepth 20000 in
theorem mw_222 : (Cond.fieldLink RX12 206 "ClauseBook$Worth" "below" "[J") ∈ lw_tbl ∧ goodWord (Cond.fieldLink RX12 206 "ClauseBook$Worth" "below" "[J") = true := ⟨lwt_0 _ (List.mem_of_getElem? (i := 167) rfl), by decide +kernel⟩
set_option maxRecDepth 20000 in
theorem mw_220 : (Cond.fieldLink RX12 202 "ClauseBook$Worth" "above" "[J") ∈ lw_tbl ∧ goodWord (Cond.fieldLink RX12 202 "ClauseBook$Worth" "above" "[J") = true := ⟨lwt_0 _ (List.mem_of_getElem? (i := 165) rfl), by decide +kernel⟩
set_option maxRecDepth 20000 in
theorem mw_595 : (Cond.constantLong RX12 200 (-4611686018427387909)) ∈ lw_tbl ∧ goodWord (Cond.constantLong RX12 200 (-4611686018427387909)) = true := ⟨lwt_2 _ (List.mem_of_getElem? (i := 60) rfl), by decide +kernel⟩
set_option maxRecDepth 20000 in
theorem mw_605 : (Cond.static yX5_isNegative) ∈ lw_tbl ∧ goodWord (Cond.static yX5_isNegative) = true := ⟨lwt_2 _ (List.mem_of_getElem? (i := 70) rfl), by decide +kernel⟩
set_option maxRecDepth 20000 in
theorem mw_604 : (Cond.methodLink RX5 13 yX5_isNegative) ∈ lw_tbl ∧ goodWord (Cond.methodLink RX5 13 yX5_isNegative) = true := ⟨lwt_2 _ (List.mem_of_getElem? (i := 69) rfl), by decide +kernel⟩
set_option maxRecDepth 20000 in
theorem mw_603 : (Cond.constantDouble RX5 24 (4611686018427387904)) ∈ lw_tbl ∧ goodWord (Cond.constantDouble RX5 24 (4611686018427387904)) = true := ⟨lwt_2 _ (List.mem_of_getElem? (i := 68) rfl), by decide +kernel⟩
set_option maxRecDepth 20000 in
theorem mw_602 : (Cond.code yX5_packed cX5_packed 9 (some .long)) ∈ lw_tbl ∧ goodWord (Cond.code yX5_packed cX5_packed 9 (some .long)) = true := ⟨lwt_2 _ (List.mem_of_getElem? (i := 67) rfl), by decide +kernel⟩
set_option maxRecDepth 20000 in
theorem mw_601 : (Cond.static yX5_packed) ∈ lw_tbl ∧ goodWord (Cond.static yX5_packed) = true := ⟨lwt_2 _ (List.mem_of_getElem? (i := 66) rfl), by decide +kernel⟩
set_option maxRecDepth 20000 in
theorem mw_600 : (Cond.methodLink RX5 9 yX5_packed) ∈ lw_tbl ∧ goodWord (Cond.methodLink RX5 9 yX5_packed) = true := ⟨lwt_2 _ (List.mem_of_getElem? (i := 65) rfl), by decide +kernel⟩
set_option maxRecDepth 20000 in
theorem mw_607 : (Cond.constant RX5 23 (-2147483648)) ∈ lw_tbl ∧ goodWord (Cond.constant RX5 23 (-2147483648)) = true := ⟨lwt_2 _ (List.mem_of_getElem? (i := 72) rfl), by decide +kernel⟩
set_option maxRecDepth 20000 in
theorem mw_599 : (Cond.code yX5_floatBits cX5_floatBits 2 (some .int)) ∈ lw_tbl ∧ goodWord (Cond.code yX5_floatBits cX5_floatBits 2 (some .int)) = true := ⟨lwt_2 _ (List.mem_of_getElem? (i := 64) rfl), by decide +kernel⟩
set_option maxRecDepth 20000 in
theorem mw_72 : (Cond.initialized RX5) ∈ lw_tbl ∧ goodWord (Cond.initialized RX5) = true := ⟨lwt_0 _ (List.mem_of_getElem? (i := 17) rfl), by decide +kernel⟩
set_option maxRecDepth 20000 in
theorem mw_598 : (Cond.static yX5_floatBits) ∈ lw_tbl ∧ goodWord (Cond.static yX5_floatBits) = true := ⟨lwt_2 _ (List.mem_of_getElem? (i := 63) rfl), by decide +kernel⟩
set_option maxRecDepth 20000 in
theorem mw_597 : (Cond.methodLink RX12 211 yX5_floatBits) ∈ lw_tbl ∧ goodWord (Cond.methodLink RX12 211 yX5_floatBits) = true := ⟨lwt_2 _ (List.mem_of_getElem? (i := 62) rfl), by decide +kernel⟩
set_option maxRecDepth 20000 in
theorem mw_594 : (Cond.methodLink RX12 197 yX11_isMuch) ∈ lw_tbl ∧ goodWord (Cond.methodLink RX12 197 yX11_isMuch) = true := ⟨lwt_2 _ (List.mem_of_getElem? (i := 59) rfl), by decide +kernel⟩
set_option maxRecDepth 20000 in
theorem mw_614 : (Cond.code yX5_remainder cX5_remainder 10 (some .double)) ∈ lw_tbl ∧ goodWord (Cond.code yX5_remainder cX5_remainder 10 (some .double)) = true := ⟨lwt_2 _ (List.mem_of_getElem? (i := 79) rfl), by decide +kernel⟩
set_option maxRecDepth 20000 in
theorem mw_613 : (Cond.static yX5_remainder) ∈ lw_tbl ∧ goodWord (Cond.static yX5_remainder) = true := ⟨lwt_2 _ (List.mem_of_getElem? (i := 78) rfl), by decide +kernel⟩
set_option maxRecDepth 20000 in
theorem mw_612 : (Cond.methodLink RX12 221 yX5_remainder) ∈ lw_tbl ∧ goodWord (Cond.methodLink RX12 221 yX5_remainder) = true := ⟨lwt_2 _ (List.mem_of_getElem? (i := 77) rfl), by decide +kernel⟩
set_option maxRecDepth 20000 in
theorem mw_611 : (Cond.constantLong RX5 19 (-9223372036854775808)) ∈ lw_tbl ∧ goodWord (Cond.constantLong RX5 19 (-9223372036854775808)) = true := ⟨lwt_2 _ (List.mem_of_getElem? (i := 76) rfl), by decide +kernel⟩
set_option maxRecDepth 20000 in
theorem mw_610 : (Cond.code yX5_doubleBits cX5_doubleBits 4 (some .long)) ∈ lw_tbl ∧ goodWord (Cond.code yX5_doubleBits cX5_doubleBits 4 (some .long)) = true := ⟨lwt_2 _ (List.mem_of_getElem? (i := 75) rfl), by decide +kernel⟩
set_option maxRecDepth 20000 in
theorem mw_609 : (Cond.static yX5_doubleBits) ∈ lw_tbl ∧ goodWord (Cond.static yX5_doubleBits) = true := ⟨lwt_2 _ (List.mem_of_getElem? (i := 74) rfl), by decide +kernel⟩
set_option maxRecDepth 20000 in
theorem mw_608 : (Cond.methodLink RX12 217 yX5_doubleBits) ∈ lw_tbl ∧ goodWord (Cond.methodLink RX12 217 yX5_doubleBits) = true := ⟨lwt_2 _ (List.mem_of_getElem? (i := 73) rfl), by decide +kernel⟩
set_option maxRecDepth 20000 in
theorem mw_606 : (Cond.code yX5_isNegative cX5_isNegative 2 (some .boolean)) ∈ lw_tbl ∧ goodWord (Cond.code yX5_isNegative cX5_isNegative 2 (some .boolean)) = true := ⟨lwt_2 _ (List.mem_of_getElem? (i := 71) rfl), by decide +kernel⟩
set_option maxRecDepth 20000 in
theorem mw_621 : (Cond.code yX12_chosen cX12_chosen 5 (some .int)) ∈ lw_tbl ∧ goodWord (Cond.code yX12_chosen cX12_chosen 5 (some .int)) = true := ⟨lwt_2 _ (List.mem_of_getElem? (i := 86) rfl), by decide +kernel⟩
set_option maxRecDepth 20000 in
theorem mw_623 : (Cond.fieldLink RX12 235 "ClauseBook$Kind" "WORSE" "LClauseBook$Kind;") ∈ lw_tbl ∧ goodWord (Cond.fieldLink RX12 235 "ClauseBook$Kind" "WORSE" "LClauseBook$Kind;") = true := ⟨lwt_2 _ (List.mem_of_getElem? (i := 88) rfl), by decide +kernel⟩
set_option maxRecDepth 20000 in
theorem mw_622 : (Cond.fieldLink RX12 231 "ClauseBook$Kind" "BETTER" "LClauseBook$Kind;") ∈ lw_tbl ∧ goodWord (Cond.fieldLink RX12 231 "ClauseBook$Kind" "BETTER" "LClauseBook$Kind;") = true := ⟨lwt_2 _ (List.mem_of_getElem? (i := 87) rfl), by decide +kernel⟩
set_option maxRecDepth 20000 in
theorem mw_625 : (Cond.methodLink RX12 238 yX11_picked) ∈ lw_tbl ∧ goodWord (Cond.methodLink RX12 238 yX11_picked) = true := ⟨lwt_2 _ (List.mem_of_getElem? (i := 90) rfl), by decide +kernel⟩
set_option maxRecDepth 20000 in
theorem mw_629 : (Cond.code yX12_taken cX12_taken 4 (some .int)) ∈ lw_tbl ∧ goodWord (Cond.code yX12_taken cX12_taken 4 (some .int)) = true := ⟨lwt_2 _ (List.mem_of_getElem? (i := 94) rfl), by decide +kernel⟩
set_option maxRecDepth 20000 in
theorem mw_630 : (Cond.fieldLink RX12 241 "ClauseBook$Kind" "FREE" "LClauseBook$Kind;") ∈ lw_tbl ∧ goodWord (Cond.fieldLink RX12 241 "ClauseBook$Kind" "FREE" "LClauseBook$Kind;") = true := ⟨lwt_2 _ (List.mem_of_getElem? (i := 95) rfl), by decide +kernel⟩
set_option maxRecDepth 20000 in
theorem mw_635 : (Cond.methodLink RX11 144 yX8_spotOn) ∈ lw_tbl ∧ goodWord (Cond.methodLink RX11 144 yX8_spotOn) = true := ⟨lwt_2 _ (List.mem_of_getElem? (i := 100) rfl), by decide +kernel⟩
set_option maxRecDepth 20000 in
theorem mw_634 : (Cond.code yX11_takenOn cX11_takenOn 9 (some .int)) ∈ lw_tbl ∧ goodWord (Cond.code yX11_takenOn cX11_takenOn 9 (some .int)) = true := ⟨lwt_2 _ (List.mem_of_getElem? (i := 99) rfl), by decide +kernel⟩
set_option maxRecDepth 20000 in
theorem mw_633 : (Cond.selects RX11 yX11_takenOn yX11_takenOn) ∈ lw_tbl ∧ goodWord (Cond.selects RX11 yX11_takenOn yX11_takenOn) = true := ⟨lwt_2 _ (List.mem_of_getElem? (i := 98) rfl), by decide +kernel⟩
set_option maxRecDepth 20000 in
theorem mw_632 : (Cond.instanceMethod yX11_takenOn) ∈ lw_tbl ∧ goodWord (Cond.instanceMethod yX11_takenOn) = true := ⟨lwt_2 _ (List.mem_of_getElem? (i := 97) rfl), by decide +kernel⟩
set_option maxRecDepth 20000 in
theorem mw_631 : (Cond.methodLink RX12 244 yX11_takenOn) ∈ lw_tbl ∧ goodWord (Cond.methodLink RX12 244 yX11_takenOn) = true := ⟨lwt_2 _ (List.mem_of_getElem? (i := 96) rfl), by decide +kernel⟩
set_option maxRecDepth 20000 in
theorem mw_639 : (Cond.code yX12_alike cX12_alike 8 (some .int)) ∈ lw_tbl ∧ goodWord (Cond.code yX12_alike cX12_alike 8 (some .int)) = true := ⟨lwt_2 _ (List.mem_of_getElem? (i := 104) rfl), by decide +kernel⟩
set_option maxRecDepth 20000 in
theorem mw_640 : (Cond.methodLink RX12 247 yX11_order) ∈ lw_tbl ∧ goodWord (Cond.methodLink RX12 247 yX11_order) = true := ⟨lwt_2 _ (List.mem_of_getElem? (i := 105) rfl), by decide +kernel⟩
set_option maxRecDepth 20000 in
theorem mw_644 : (Cond.code yX12_unlike cX12_unlike 7 (some .int)) ∈ lw_tbl ∧ goodWord (Cond.code yX12_unlike cX12_unlike 7 (some .int)) = true := ⟨lwt_2 _ (List.mem_of_getElem? (i := 109) rfl), by decide +kernel⟩
set_option maxRecDepth 20000 in
theorem mw_648 : (Cond.code yX12_most cX12_most 7 (some .int)) ∈ lw_tbl ∧ goodWord (Cond.code yX12_most cX12_most 7 (some .int)) = true := ⟨lwt_2 _ (List.mem_of_getElem? (i := 113) rfl), by decide +kernel⟩
set_option maxRecDepth 20000 in
theorem mw_652 : (Cond.code yX12_due cX12_due 5 (some .long)) ∈ lw_tbl ∧ goodWord (Cond.code yX12_due cX12_due 5 (some .long)) = true := ⟨lwt_2 _ (List.mem_of_getElem? (i := 117) rfl), by decide +kernel⟩
set_option maxRecDepth 20000 in
theorem mw_656 : (Cond.code yX12_isHad cX12_isHad 4 (some .boolean)) ∈ lw_tbl ∧ goodWord (Cond.code yX12_isHad cX12_isHad 4 (some .boolean)) = true := ⟨lwt_2 _ (List.mem_of_getElem? (i := 121) rfl), by decide +kernel⟩
set_option maxRecDepth 20000 in
theorem mw_6 : (Cond.selects RX12 yX12_isHad yX12_isHad) ∈ lw_tbl ∧ goodWord (Cond.selects RX12 yX12_isHad yX12_isHad) = true := ⟨lwt_s _ (List.mem_of_getElem? (i := 6) rfl), by decide +kernel⟩
set_option maxRecDepth 20000 in
theorem mw_655 : (Cond.instanceMethod yX12_isHad) ∈ lw_tbl ∧ goodWord (Cond.instanceMethod yX12_isHad) = true := ⟨lwt_2 _ (List.mem_of_getElem? (i := 120) rfl), by decide +kernel⟩
set_option maxRecDepth 20000 in
theorem mw_653 : (Cond.methodLink RX12 250 yX12_isHad) ∈ lw_tbl ∧ goodWord (Cond.methodLink RX12 250 yX12_isHad) = true := ⟨lwt_2 _ (List.mem_of_getElem? (i := 118) rfl), by decide +kernel⟩
set_option maxRecDepth 20000 in
theorem mw_249 : (Cond.fieldLink RX12 259 "ClauseBook$Falling" "on" "[J") ∈ lw_tbl ∧ goodWord (Cond.fieldLink RX12 259 "ClauseBook$Falling" "on" "[J") = true := ⟨lwt_0 _ (List.mem_of_getElem? (i := 194) rfl), by decide +kernel⟩
set_option maxRecDepth 20000 in
theorem mw_253 : (Cond.fieldLink RX12 256 "ClauseBook$Falling" "much" "Z") ∈ lw_tbl ∧ goodWord (Cond.fieldLink RX12 256 "ClauseBook$Falling" "much" "Z") = true := ⟨lwt_0 _ (List.mem_of_getElem? (i := 198) rfl), by decide +kernel⟩
set_option maxRecDepth 20000 in
theorem mw_152 : (Cond.fieldLink RX3 91 "ClauseBook$Clauses" "d" "[I") ∈ lw_tbl ∧ goodWord (Cond.fieldLink RX3 91 "ClauseBook$Clauses" "d" "[I") = true := ⟨lwt_0 _ (List.mem_of_getElem? (i := 97) rfl), by decide +kernel⟩
set_option maxRecDepth 20000 in
theorem mw_144 : (Cond.fieldLink RX3 79 "ClauseBook$Clauses" "n" "[I") ∈ lw_tbl ∧ goodWord (Cond.fieldLink RX3 79 "ClauseBook$Clauses" "n" "[I") = true := ⟨lwt_0 _ (List.mem_of_getElem? (i := 89) rfl), by decide +kernel⟩
set_option maxRecDepth 20000 in
theorem mw_673 : (Cond.constantLong RX3 73 (-1)) ∈ lw_tbl ∧ goodWord (Cond.constantLong RX3 73 (-1)) = true := ⟨lwt_2 _ (List.mem_of_getElem? (i := 138) rfl), by decide +kernel⟩
set_option maxRecDepth 20000 in
theorem mw_665 : (Cond.fieldLink RX3 54 "ClauseBook$1" "$SwitchMap$ClauseBook$Kind" "[I") ∈ lw_tbl ∧ goodWord (Cond.fieldLink RX3 54 "ClauseBook$1" "$SwitchMap$ClauseBook$Kind" "[I") = true := ⟨lwt_2 _ (List.mem_of_getElem? (i := 130) rfl), by decide +kernel⟩
set_option maxRecDepth 20000 in
theorem mw_148 : (Cond.fieldLink RX3 51 "ClauseBook$Clauses" "c" "[I") ∈ lw_tbl ∧ goodWord (Cond.fieldLink RX3 51 "ClauseBook$Clauses" "c" "[I") = true := ⟨lwt_0 _ (List.mem_of_getElem? (i := 93) rfl), by decide +kernel⟩
set_option maxRecDepth 20000 in
theorem mw_156 : (Cond.fieldLink RX3 48 "ClauseBook$Clauses" "end" "[I") ∈ lw_tbl ∧ goodWord (Cond.fieldLink RX3 48 "ClauseBook$Clauses" "end" "[I") = true := ⟨lwt_0 _ (List.mem_of_getElem? (i := 101) rfl), by decide +kernel⟩
set_option maxRecDepth 20000 in
theorem mw_664 : (Cond.code yX3_fall cX3_fall 8 none) ∈ lw_tbl ∧ goodWord (Cond.code yX3_fall cX3_fall 8 none) = true := ⟨lwt_2 _ (List.mem_of_getElem? (i := 129) rfl), by decide +kernel⟩
set_option maxRecDepth 20000 in
theorem mw_7 : (Cond.selects RX3 yX3_fall yX3_fall) ∈ lw_tbl ∧ goodWord (Cond.selects RX3 yX3_fall yX3_fall) = true := ⟨lwt_s _ (List.mem_of_getElem? (i := 7) rfl), by decide +kernel⟩
set_option maxRecDepth 20000 in
theorem mw_663 : (Cond.instanceMethod yX3_fall) ∈ lw_tbl ∧ goodWord (Cond.instanceMethod yX3_fall) = true := ⟨lwt_2 _ (List.mem_of_getElem? (i := 128) rfl), by decide +kernel⟩
set_option maxRecDepth 20000 in
theorem mw_661 : (Cond.methodLink RX3 44 yX3_fall) ∈ lw_tbl ∧ goodWord (Cond.methodLink RX3 44 yX3_fall) = true := ⟨lwt_2 _ (List.mem_of_getElem? (i := 126) rfl), by decide +kernel⟩
set_option maxRecDepth 20000 in
theorem mw_160 : (Cond.fieldLink RX3 38 "ClauseBook$Clauses" "made" "[I") ∈ lw_tbl ∧ goodWord (Cond.fieldLink RX3 38 "ClauseBook$Clauses" "made" "[I") = true := ⟨lwt_0 _ (List.mem_of_getElem? (i := 105) rfl), by decide +kernel⟩
set_option maxRecDepth 20000 in
theorem mw_660 : (Cond.code yX3_gather cX3_gather 5 none) ∈ lw_tbl ∧ goodWord (Cond.code yX3_gather cX3_gather 5 none) = true := ⟨lwt_2 _ (List.mem_of_getElem? (i := 125) rfl), by decide +kernel⟩
set_option maxRecDepth 20000 in
theorem mw_659 : (Cond.selects RX3 yX3_gather yX3_gather) ∈ lw_tbl ∧ goodWord (Cond.selects RX3 yX3_gather yX3_gather) = true := ⟨lwt_2 _ (List.mem_of_getElem? (i := 124) rfl), by decide +kernel⟩
set_option maxRecDepth 20000 in
theorem mw_658 : (Cond.instanceMethod yX3_gather) ∈ lw_tbl ∧ goodWord (Cond.instanceMethod yX3_gather) = true := ⟨lwt_2 _ (List.mem_of_getElem? (i := 123) rfl), by decide +kernel⟩
set_option maxRecDepth 20000 in
theorem mw_657 : (Cond.methodLink RX12 253 yX3_gather) ∈ lw_tbl ∧ goodWord (Cond.methodLink RX12 253 yX3_gather) = true := ⟨lwt_2 _ (List.mem_of_getElem? (i := 122) rfl), by decide +kernel⟩
set_option maxRecDepth 20000 in
theorem mw_9 : (Cond.selects RX3 yX3_fallTimes yX3_fallTimes) ∈ lw_tbl ∧ goodWord (Cond.selects RX3 yX3_fallTimes yX3_fallTimes) = true := ⟨lwt_s _ (List.mem_of_getElem? (i := 9) rfl), by decide +kernel⟩
set_option maxRecDepth 20000 in
theorem mw_676 : (Cond.instanceMethod yX3_fallTimes) ∈ lw_tbl ∧ goodWord (Cond.instanceMethod yX3_fallTimes) = true := ⟨lwt_2 _ (List.mem_of_getElem? (i := 141) rfl), by decide +kernel⟩
set_option maxRecDepth 20000 in
theorem mw_674 : (Cond.methodLink RX3 75 yX3_fallTimes) ∈ lw_tbl ∧ goodWord (Cond.methodLink RX3 75 yX3_fallTimes) = true := ⟨lwt_2 _ (List.mem_of_getElem? (i := 139) rfl), by decide +kernel⟩
set_option maxRecDepth 20000 in
theorem mw_672 : (Cond.methodLink RX3 107 yX11_sumFits) ∈ lw_tbl ∧ goodWord (Cond.methodLink RX3 107 yX11_sumFits) = true := ⟨lwt_2 _ (List.mem_of_getElem? (i := 137) rfl), by decide +kernel⟩
set_option maxRecDepth 20000 in
theorem mw_671 : (Cond.code yX3_enter cX3_enter 4 none) ∈ lw_tbl ∧ goodWord (Cond.code yX3_enter cX3_enter 4 none) = true := ⟨lwt_2 _ (List.mem_of_getElem? (i := 136) rfl), by decide +kernel⟩
set_option maxRecDepth 20000 in
theorem mw_8 : (Cond.selects RX3 yX3_enter yX3_enter) ∈ lw_tbl ∧ goodWord (Cond.selects RX3 yX3_enter yX3_enter) = true := ⟨lwt_s _ (List.mem_of_getElem? (i := 8) rfl), by decide +kernel⟩
set_option maxRecDepth 20000 in
theorem mw_670 : (Cond.instanceMethod yX3_enter) ∈ lw_tbl ∧ goodWord (Cond.instanceMethod yX3_enter) = true := ⟨lwt_2 _ (List.mem_of_getElem? (i := 135) rfl), by decide +kernel⟩
set_option maxRecDepth 20000 in
theorem mw_668 : (Cond.methodLink RX3 69 yX3_enter) ∈ lw_tbl ∧ goodWord (Cond.methodLink RX3 69 yX3_enter) = true := ⟨lwt_2 _ (List.mem_of_getElem? (i := 133) rfl), by decide +kernel⟩
set_option maxRecDepth 20000 in
theorem mw_667 : (Cond.methodLink RX3 63 ⟨"ClauseBook$Kind", "ordinal", "()I"⟩) ∈ lw_tbl ∧ goodWord (Cond.methodLink RX3 63 ⟨"ClauseBook$Kind", "ordinal", "()I"⟩) = true := ⟨lwt_2 _ (List.mem_of_getElem? (i := 132) rfl), by decide +kernel⟩
set_option maxRecDepth 20000 in
theorem mw_666 : (Cond.methodLink RX3 59 yX2_kindOf) ∈ lw_tbl ∧ goodWord (Cond.methodLink RX3 59 yX2_kindOf) = true := ⟨lwt_2 _ (List.mem_of_getElem? (i := 131) rfl), by decide +kernel⟩
set_option maxRecDepth 20000 in
theorem mw_681 : (Cond.methodLink RX3 94 yX11_takenOn) ∈ lw_tbl ∧ goodWord (Cond.methodLink RX3 94 yX11_takenOn) = true := ⟨lwt_2 _ (List.mem_of_getElem? (i := 146) rfl), by decide +kernel⟩
set_option maxRecDepth 20000 in
theorem mw_680 : (Cond.methodLink RX3 88 yX8_priceAt) ∈ lw_tbl ∧ goodWord (Cond.methodLink RX3 88 yX8_priceAt) = true := ⟨lwt_2 _ (List.mem_of_getElem? (i := 145) rfl), by decide +kernel⟩
set_option maxRecDepth 20000 in
theorem mw_679 : (Cond.methodLink RX3 82 yX8_spotOn) ∈ lw_tbl ∧ goodWord (Cond.methodLink RX3 82 yX8_spotOn) = true := ⟨lwt_2 _ (List.mem_of_getElem? (i := 144) rfl), by decide +kernel⟩
set_option maxRecDepth 20000 in
theorem mw_678 : (Cond.methodLink RX3 103 yX11_productFits) ∈ lw_tbl ∧ goodWord (Cond.methodLink RX3 103 yX11_productFits) = true := ⟨lwt_2 _ (List.mem_of_getElem? (i := 143) rfl), by decide +kernel⟩
set_option maxRecDepth 20000 in
theorem mw_677 : (Cond.code yX3_fallTimes cX3_fallTimes 7 none) ∈ lw_tbl ∧ goodWord (Cond.code yX3_fallTimes cX3_fallTimes 7 none) = true := ⟨lwt_2 _ (List.mem_of_getElem? (i := 142) rfl), by decide +kernel⟩
set_option maxRecDepth 20000 in
theorem mw_682 : (Cond.methodLink RX3 100 yX11_picked) ∈ lw_tbl ∧ goodWord (Cond.methodLink RX3 100 yX11_picked) = true := ⟨lwt_2 _ (List.mem_of_getElem? (i := 147) rfl), by decide +kernel⟩
set_option maxRecDepth 20000 in
theorem mw_686 : (Cond.code yX12_dueDays cX12_dueDays 4 (some .int)) ∈ lw_tbl ∧ goodWord (Cond.code yX12_dueDays cX12_dueDays 4 (some .int)) = true := ⟨lwt_2 _ (List.mem_of_getElem? (i := 151) rfl), by decide +kernel⟩
set_option maxRecDepth 20000 in
theorem mw_251 : (Cond.fieldLink RX12 262 "ClauseBook$Falling" "days" "I") ∈ lw_tbl ∧ goodWord (Cond.fieldLink RX12 262 "ClauseBook$Falling" "days" "I") = true := ⟨lwt_0 _ (List.mem_of_getElem? (i := 196) rfl), by decide +kernel⟩
set_option maxRecDepth 20000 in
theorem mw_690 : (Cond.code yX12_failed cX12_failed 12 (some .long)) ∈ lw_tbl ∧ goodWord (Cond.code yX12_failed cX12_failed 12 (some .long)) = true := ⟨lwt_2 _ (List.mem_of_getElem? (i := 155) rfl), by decide +kernel⟩
set_option maxRecDepth 20000 in
theorem mw_696 : (Cond.constantLong RX12 272 (9)) ∈ lw_tbl ∧ goodWord (Cond.constantLong RX12 272 (9)) = true := ⟨lwt_2 _ (List.mem_of_getElem? (i := 161) rfl), by decide +kernel⟩
set_option maxRecDepth 20000 in
theorem mw_697 : (Cond.methodLink RX12 274 yX11_sumFits) ∈ lw_tbl ∧ goodWord (Cond.methodLink RX12 274 yX11_sumFits) = true := ⟨lwt_2 _ (List.mem_of_getElem? (i := 162) rfl), by decide +kernel⟩
set_option maxRecDepth 20000 in
theorem mw_695 : (Cond.methodLink RX12 268 yX11_productFits) ∈ lw_tbl ∧ goodWord (Cond.methodLink RX12 268 yX11_productFits) = true := ⟨lwt_2 _ (List.mem_of_getElem? (i := 160) rfl), by decide +kernel⟩
set_option maxRecDepth 20000 in
theorem mw_694 : (Cond.code yX3_total cX3_total 6 (some .long)) ∈ lw_tbl ∧ goodWord (Cond.code yX3_total cX3_total 6 (some .long)) = true := ⟨lwt_2 _ (List.mem_of_getElem? (i := 159) rfl), by decide +kernel⟩
set_option maxRecDepth 20000 in
theorem mw_693 : (Cond.selects RX3 yX3_total yX3_total) ∈ lw_tbl ∧ goodWord (Cond.selects RX3 yX3_total yX3_total) = true := ⟨lwt_2 _ (List.mem_of_getElem? (i := 158) rfl), by decide +kernel⟩
set_option maxRecDepth 20000 in
theorem mw_692 : (Cond.instanceMethod yX3_total) ∈ lw_tbl ∧ goodWord (Cond.instanceMethod yX3_total) = true := ⟨lwt_2 _ (List.mem_of_getElem? (i := 157) rfl), by decide +kernel⟩
set_option maxRecDepth 20000 in
theorem mw_691 : (Cond.methodLink RX12 265 yX3_total) ∈ lw_tbl ∧ goodWord (Cond.methodLink RX12 265 yX3_total) = true := ⟨lwt_2 _ (List.mem_of_getElem? (i := 156) rfl), by decide +kernel⟩
set_option maxRecDepth 20000 in
theorem mw_701 : (Cond.code yX12_dues cX12_dues 7 (some .int)) ∈ lw_tbl ∧ goodWord (Cond.code yX12_dues cX12_dues 7 (some .int)) = true := ⟨lwt_2 _ (List.mem_of_getElem? (i := 166) rfl), by decide +kernel⟩
set_option maxRecDepth 20000 in
theorem mw_312 : (Cond.fieldLink RX12 280 "ClauseBook$Sheet" "size" "I") ∈ lw_tbl ∧ goodWord (Cond.fieldLink RX12 280 "ClauseBook$Sheet" "size" "I") = true := ⟨lwt_1 _ (List.mem_of_getElem? (i := 17) rfl), by decide +kernel⟩
set_option maxRecDepth 20000 in
theorem mw_310 : (Cond.fieldLink RX12 277 "ClauseBook$Sheet" "sort" "I") ∈ lw_tbl ∧ goodWord (Cond.fieldLink RX12 277 "ClauseBook$Sheet" "sort" "I") = true := ⟨lwt_1 _ (List.mem_of_getElem? (i := 15) rfl), by decide +kernel⟩
set_option maxRecDepth 20000 in
theorem mw_705 : (Cond.code yX9_store cX9_store 4 (some .boolean)) ∈ lw_tbl ∧ goodWord (Cond.code yX9_store cX9_store 4 (some .boolean)) = true := ⟨lwt_2 _ (List.mem_of_getElem? (i := 170) rfl), by decide +kernel⟩
set_option maxRecDepth 20000 in
theorem mw_704 : (Cond.selects RX9 yX9_store yX9_store) ∈ lw_tbl ∧ goodWord (Cond.selects RX9 yX9_store yX9_store) = true := ⟨lwt_2 _ (List.mem_of_getElem? (i := 169) rfl), by decide +kernel⟩
set_option maxRecDepth 20000 in
theorem mw_703 : (Cond.instanceMethod yX9_store) ∈ lw_tbl ∧ goodWord (Cond.instanceMethod yX9_store) = true := ⟨lwt_2 _ (List.mem_of_getElem? (i := 168) rfl), by decide +kernel⟩
set_option maxRecDepth 20000 in
theorem mw_702 : (Cond.methodLink RX12 281 yX9_store) ∈ lw_tbl ∧ goodWord (Cond.methodLink RX12 281 yX9_store) = true := ⟨lwt_2 _ (List.mem_of_getElem? (i := 167) rfl), by decide +kernel⟩
set_option maxRecDepth 20000 in
theorem mw_709 : (Cond.code yX12_feed cX12_feed 4 (some .int)) ∈ lw_tbl ∧ goodWord (Cond.code yX12_feed cX12_feed 4 (some .int)) = true := ⟨lwt_2 _ (List.mem_of_getElem? (i := 174) rfl), by decide +kernel⟩
