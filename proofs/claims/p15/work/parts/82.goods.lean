set_option maxRecDepth 20000 in
theorem mw_1025 : (Cond.fieldLink RX13 126 "ClauseBookModel" "kept" "[I") ∈ lw_tbl ∧ goodWord (Cond.fieldLink RX13 126 "ClauseBookModel" "kept" "[I") = true := ⟨lwt_4 _ (List.mem_of_getElem? (i := 10) rfl), by decide +kernel⟩
set_option maxRecDepth 20000 in
theorem mw_1023 : (Cond.fieldLink RX13 123 "ClauseBookModel" "handBelow" "[J") ∈ lw_tbl ∧ goodWord (Cond.fieldLink RX13 123 "ClauseBookModel" "handBelow" "[J") = true := ⟨lwt_4 _ (List.mem_of_getElem? (i := 8) rfl), by decide +kernel⟩
set_option maxRecDepth 20000 in
theorem mw_1022 : (Cond.fieldLink RX13 120 "ClauseBookModel" "handAbove" "[J") ∈ lw_tbl ∧ goodWord (Cond.fieldLink RX13 120 "ClauseBookModel" "handAbove" "[J") = true := ⟨lwt_4 _ (List.mem_of_getElem? (i := 7) rfl), by decide +kernel⟩
set_option maxRecDepth 20000 in
theorem mw_1021 : (Cond.fieldLink RX13 117 "ClauseBookModel" "handSort" "[I") ∈ lw_tbl ∧ goodWord (Cond.fieldLink RX13 117 "ClauseBookModel" "handSort" "[I") = true := ⟨lwt_4 _ (List.mem_of_getElem? (i := 6) rfl), by decide +kernel⟩
set_option maxRecDepth 20000 in
theorem mw_1020 : (Cond.fieldLink RX13 113 "ClauseBookModel" "host" "[D") ∈ lw_tbl ∧ goodWord (Cond.fieldLink RX13 113 "ClauseBookModel" "host" "[D") = true := ⟨lwt_4 _ (List.mem_of_getElem? (i := 5) rfl), by decide +kernel⟩
set_option maxRecDepth 20000 in
theorem mw_1019 : (Cond.fieldLink RX13 110 "ClauseBookModel" "whole" "[J") ∈ lw_tbl ∧ goodWord (Cond.fieldLink RX13 110 "ClauseBookModel" "whole" "[J") = true := ⟨lwt_4 _ (List.mem_of_getElem? (i := 4) rfl), by decide +kernel⟩
set_option maxRecDepth 20000 in
theorem mw_1018 : (Cond.fieldLink RX13 107 "ClauseBookModel" "sizes" "[I") ∈ lw_tbl ∧ goodWord (Cond.fieldLink RX13 107 "ClauseBookModel" "sizes" "[I") = true := ⟨lwt_4 _ (List.mem_of_getElem? (i := 3) rfl), by decide +kernel⟩
set_option maxRecDepth 20000 in
theorem mw_1017 : (Cond.fieldLink RX13 104 "ClauseBookModel" "sorts" "[I") ∈ lw_tbl ∧ goodWord (Cond.fieldLink RX13 104 "ClauseBookModel" "sorts" "[I") = true := ⟨lwt_4 _ (List.mem_of_getElem? (i := 2) rfl), by decide +kernel⟩
set_option maxRecDepth 20000 in
theorem mw_1010 : (Cond.fieldLink RX13 100 "ClauseBookModel" "words" "[Ljava/lang/String;") ∈ lw_tbl ∧ goodWord (Cond.fieldLink RX13 100 "ClauseBookModel" "words" "[Ljava/lang/String;") = true := ⟨lwt_3 _ (List.mem_of_getElem? (i := 235) rfl), by decide +kernel⟩
set_option maxRecDepth 20000 in
theorem mw_968 : (Cond.classLink RX13 73 RJ0) ∈ lw_tbl ∧ goodWord (Cond.classLink RX13 73 RJ0) = true := ⟨lwt_3 _ (List.mem_of_getElem? (i := 193) rfl), by decide +kernel⟩
set_option maxRecDepth 20000 in
theorem mw_1008 : (Cond.fieldLink RX13 70 "ClauseBookModel" "tape" "[I") ∈ lw_tbl ∧ goodWord (Cond.fieldLink RX13 70 "ClauseBookModel" "tape" "[I") = true := ⟨lwt_3 _ (List.mem_of_getElem? (i := 233) rfl), by decide +kernel⟩
set_option maxRecDepth 20000 in
theorem mw_1006 : (Cond.fieldLink RX13 67 "ClauseBookModel" "due" "[J") ∈ lw_tbl ∧ goodWord (Cond.fieldLink RX13 67 "ClauseBookModel" "due" "[J") = true := ⟨lwt_3 _ (List.mem_of_getElem? (i := 231) rfl), by decide +kernel⟩
set_option maxRecDepth 20000 in
theorem mw_391 : (Cond.code yX12_start cX12_start 4 (some .int)) ∈ lw_tbl ∧ goodWord (Cond.code yX12_start cX12_start 4 (some .int)) = true := ⟨lwt_1 _ (List.mem_of_getElem? (i := 96) rfl), by decide +kernel⟩
set_option maxRecDepth 20000 in
theorem mw_398 : (Cond.code yX11_forget cX11_forget 1 none) ∈ lw_tbl ∧ goodWord (Cond.code yX11_forget cX11_forget 1 none) = true := ⟨lwt_1 _ (List.mem_of_getElem? (i := 103) rfl), by decide +kernel⟩
set_option maxRecDepth 20000 in
theorem mw_397 : (Cond.selects RX11 yX11_forget yX11_forget) ∈ lw_tbl ∧ goodWord (Cond.selects RX11 yX11_forget yX11_forget) = true := ⟨lwt_1 _ (List.mem_of_getElem? (i := 102) rfl), by decide +kernel⟩
set_option maxRecDepth 20000 in
theorem mw_396 : (Cond.instanceMethod yX11_forget) ∈ lw_tbl ∧ goodWord (Cond.instanceMethod yX11_forget) = true := ⟨lwt_1 _ (List.mem_of_getElem? (i := 101) rfl), by decide +kernel⟩
set_option maxRecDepth 20000 in
theorem mw_395 : (Cond.methodLink RX12 93 yX11_forget) ∈ lw_tbl ∧ goodWord (Cond.methodLink RX12 93 yX11_forget) = true := ⟨lwt_1 _ (List.mem_of_getElem? (i := 100) rfl), by decide +kernel⟩
set_option maxRecDepth 20000 in
theorem mw_394 : (Cond.code yX12_within cX12_within 3 (some .boolean)) ∈ lw_tbl ∧ goodWord (Cond.code yX12_within cX12_within 3 (some .boolean)) = true := ⟨lwt_1 _ (List.mem_of_getElem? (i := 99) rfl), by decide +kernel⟩
set_option maxRecDepth 20000 in
theorem mw_56 : (Cond.initialized RX12) ∈ lw_tbl ∧ goodWord (Cond.initialized RX12) = true := ⟨lwt_0 _ (List.mem_of_getElem? (i := 1) rfl), by decide +kernel⟩
set_option maxRecDepth 20000 in
theorem mw_393 : (Cond.static yX12_within) ∈ lw_tbl ∧ goodWord (Cond.static yX12_within) = true := ⟨lwt_1 _ (List.mem_of_getElem? (i := 98) rfl), by decide +kernel⟩
set_option maxRecDepth 20000 in
theorem mw_392 : (Cond.methodLink RX12 77 yX12_within) ∈ lw_tbl ∧ goodWord (Cond.methodLink RX12 77 yX12_within) = true := ⟨lwt_1 _ (List.mem_of_getElem? (i := 97) rfl), by decide +kernel⟩
set_option maxRecDepth 20000 in
theorem mw_105 : (Cond.fieldLink RX12 90 "ClauseBook$Lattice" "down" "I") ∈ lw_tbl ∧ goodWord (Cond.fieldLink RX12 90 "ClauseBook$Lattice" "down" "I") = true := ⟨lwt_0 _ (List.mem_of_getElem? (i := 50) rfl), by decide +kernel⟩
set_option maxRecDepth 20000 in
theorem mw_103 : (Cond.fieldLink RX12 87 "ClauseBook$Lattice" "up" "I") ∈ lw_tbl ∧ goodWord (Cond.fieldLink RX12 87 "ClauseBook$Lattice" "up" "I") = true := ⟨lwt_0 _ (List.mem_of_getElem? (i := 48) rfl), by decide +kernel⟩
set_option maxRecDepth 20000 in
theorem mw_101 : (Cond.fieldLink RX12 81 "ClauseBook$Lattice" "start" "I") ∈ lw_tbl ∧ goodWord (Cond.fieldLink RX12 81 "ClauseBook$Lattice" "start" "I") = true := ⟨lwt_0 _ (List.mem_of_getElem? (i := 46) rfl), by decide +kernel⟩
set_option maxRecDepth 20000 in
theorem mw_402 : (Cond.code yX12_odds cX12_odds 3 (some .int)) ∈ lw_tbl ∧ goodWord (Cond.code yX12_odds cX12_odds 3 (some .int)) = true := ⟨lwt_1 _ (List.mem_of_getElem? (i := 107) rfl), by decide +kernel⟩
set_option maxRecDepth 20000 in
theorem mw_110 : (Cond.fieldLink RX12 99 "ClauseBook$Lattice" "q" "I") ∈ lw_tbl ∧ goodWord (Cond.fieldLink RX12 99 "ClauseBook$Lattice" "q" "I") = true := ⟨lwt_0 _ (List.mem_of_getElem? (i := 55) rfl), by decide +kernel⟩
set_option maxRecDepth 20000 in
theorem mw_107 : (Cond.fieldLink RX12 96 "ClauseBook$Lattice" "p" "I") ∈ lw_tbl ∧ goodWord (Cond.fieldLink RX12 96 "ClauseBook$Lattice" "p" "I") = true := ⟨lwt_0 _ (List.mem_of_getElem? (i := 52) rfl), by decide +kernel⟩
set_option maxRecDepth 20000 in
theorem mw_406 : (Cond.code yX12_wait cX12_wait 3 (some .int)) ∈ lw_tbl ∧ goodWord (Cond.code yX12_wait cX12_wait 3 (some .int)) = true := ⟨lwt_1 _ (List.mem_of_getElem? (i := 111) rfl), by decide +kernel⟩
set_option maxRecDepth 20000 in
theorem mw_116 : (Cond.fieldLink RX12 105 "ClauseBook$Lattice" "b" "I") ∈ lw_tbl ∧ goodWord (Cond.fieldLink RX12 105 "ClauseBook$Lattice" "b" "I") = true := ⟨lwt_0 _ (List.mem_of_getElem? (i := 61) rfl), by decide +kernel⟩
set_option maxRecDepth 20000 in
theorem mw_113 : (Cond.fieldLink RX12 102 "ClauseBook$Lattice" "a" "I") ∈ lw_tbl ∧ goodWord (Cond.fieldLink RX12 102 "ClauseBook$Lattice" "a" "I") = true := ⟨lwt_0 _ (List.mem_of_getElem? (i := 58) rfl), by decide +kernel⟩
set_option maxRecDepth 20000 in
theorem mw_410 : (Cond.code yX12_price cX12_price 3 (some .int)) ∈ lw_tbl ∧ goodWord (Cond.code yX12_price cX12_price 3 (some .int)) = true := ⟨lwt_1 _ (List.mem_of_getElem? (i := 115) rfl), by decide +kernel⟩
set_option maxRecDepth 20000 in
theorem mw_420 : (Cond.code yX8_priceAt cX8_priceAt 3 (some .int)) ∈ lw_tbl ∧ goodWord (Cond.code yX8_priceAt cX8_priceAt 3 (some .int)) = true := ⟨lwt_1 _ (List.mem_of_getElem? (i := 125) rfl), by decide +kernel⟩
set_option maxRecDepth 20000 in
theorem mw_419 : (Cond.selects RX8 yX8_priceAt yX8_priceAt) ∈ lw_tbl ∧ goodWord (Cond.selects RX8 yX8_priceAt yX8_priceAt) = true := ⟨lwt_1 _ (List.mem_of_getElem? (i := 124) rfl), by decide +kernel⟩
set_option maxRecDepth 20000 in
theorem mw_418 : (Cond.instanceMethod yX8_priceAt) ∈ lw_tbl ∧ goodWord (Cond.instanceMethod yX8_priceAt) = true := ⟨lwt_1 _ (List.mem_of_getElem? (i := 123) rfl), by decide +kernel⟩
set_option maxRecDepth 20000 in
theorem mw_417 : (Cond.methodLink RX12 112 yX8_priceAt) ∈ lw_tbl ∧ goodWord (Cond.methodLink RX12 112 yX8_priceAt) = true := ⟨lwt_1 _ (List.mem_of_getElem? (i := 122) rfl), by decide +kernel⟩
set_option maxRecDepth 20000 in
theorem mw_416 : (Cond.code yX12_isDay cX12_isDay 1 (some .boolean)) ∈ lw_tbl ∧ goodWord (Cond.code yX12_isDay cX12_isDay 1 (some .boolean)) = true := ⟨lwt_1 _ (List.mem_of_getElem? (i := 121) rfl), by decide +kernel⟩
set_option maxRecDepth 20000 in
theorem mw_415 : (Cond.static yX12_isDay) ∈ lw_tbl ∧ goodWord (Cond.static yX12_isDay) = true := ⟨lwt_1 _ (List.mem_of_getElem? (i := 120) rfl), by decide +kernel⟩
set_option maxRecDepth 20000 in
theorem mw_414 : (Cond.methodLink RX12 120 yX12_isDay) ∈ lw_tbl ∧ goodWord (Cond.methodLink RX12 120 yX12_isDay) = true := ⟨lwt_1 _ (List.mem_of_getElem? (i := 119) rfl), by decide +kernel⟩
set_option maxRecDepth 20000 in
theorem mw_413 : (Cond.code yX12_isSpot cX12_isSpot 2 (some .boolean)) ∈ lw_tbl ∧ goodWord (Cond.code yX12_isSpot cX12_isSpot 2 (some .boolean)) = true := ⟨lwt_1 _ (List.mem_of_getElem? (i := 118) rfl), by decide +kernel⟩
set_option maxRecDepth 20000 in
theorem mw_412 : (Cond.static yX12_isSpot) ∈ lw_tbl ∧ goodWord (Cond.static yX12_isSpot) = true := ⟨lwt_1 _ (List.mem_of_getElem? (i := 117) rfl), by decide +kernel⟩
set_option maxRecDepth 20000 in
theorem mw_411 : (Cond.methodLink RX12 108 yX12_isSpot) ∈ lw_tbl ∧ goodWord (Cond.methodLink RX12 108 yX12_isSpot) = true := ⟨lwt_1 _ (List.mem_of_getElem? (i := 116) rfl), by decide +kernel⟩
set_option maxRecDepth 20000 in
theorem mw_424 : (Cond.code yX12_spotOf cX12_spotOf 3 (some .int)) ∈ lw_tbl ∧ goodWord (Cond.code yX12_spotOf cX12_spotOf 3 (some .int)) = true := ⟨lwt_1 _ (List.mem_of_getElem? (i := 129) rfl), by decide +kernel⟩
set_option maxRecDepth 20000 in
theorem mw_436 : (Cond.constant RJ6 267 (252645135)) ∈ lw_tbl ∧ goodWord (Cond.constant RJ6 267 (252645135)) = true := ⟨lwt_1 _ (List.mem_of_getElem? (i := 141) rfl), by decide +kernel⟩
set_option maxRecDepth 20000 in
theorem mw_435 : (Cond.constant RJ6 266 (858993459)) ∈ lw_tbl ∧ goodWord (Cond.constant RJ6 266 (858993459)) = true := ⟨lwt_1 _ (List.mem_of_getElem? (i := 140) rfl), by decide +kernel⟩
set_option maxRecDepth 20000 in
theorem mw_434 : (Cond.constant RJ6 265 (1431655765)) ∈ lw_tbl ∧ goodWord (Cond.constant RJ6 265 (1431655765)) = true := ⟨lwt_1 _ (List.mem_of_getElem? (i := 139) rfl), by decide +kernel⟩
set_option maxRecDepth 20000 in
theorem mw_433 : (Cond.code yJ6_bitCount_0f7a4 cJ6_bitCount_0f7a4 1 (some .int)) ∈ lw_tbl ∧ goodWord (Cond.code yJ6_bitCount_0f7a4 cJ6_bitCount_0f7a4 1 (some .int)) = true := ⟨lwt_1 _ (List.mem_of_getElem? (i := 138) rfl), by decide +kernel⟩
set_option maxRecDepth 20000 in
theorem mw_67 : (Cond.initialized RJ6) ∈ lw_tbl ∧ goodWord (Cond.initialized RJ6) = true := ⟨lwt_0 _ (List.mem_of_getElem? (i := 12) rfl), by decide +kernel⟩
set_option maxRecDepth 20000 in
theorem mw_432 : (Cond.static yJ6_bitCount_0f7a4) ∈ lw_tbl ∧ goodWord (Cond.static yJ6_bitCount_0f7a4) = true := ⟨lwt_1 _ (List.mem_of_getElem? (i := 137) rfl), by decide +kernel⟩
set_option maxRecDepth 20000 in
theorem mw_431 : (Cond.methodLink RX8 31 yJ6_bitCount_0f7a4) ∈ lw_tbl ∧ goodWord (Cond.methodLink RX8 31 yJ6_bitCount_0f7a4) = true := ⟨lwt_1 _ (List.mem_of_getElem? (i := 136) rfl), by decide +kernel⟩
set_option maxRecDepth 20000 in
theorem mw_430 : (Cond.code yX8_spotOn cX8_spotOn 2 (some .int)) ∈ lw_tbl ∧ goodWord (Cond.code yX8_spotOn cX8_spotOn 2 (some .int)) = true := ⟨lwt_1 _ (List.mem_of_getElem? (i := 135) rfl), by decide +kernel⟩
set_option maxRecDepth 20000 in
theorem mw_429 : (Cond.static yX8_spotOn) ∈ lw_tbl ∧ goodWord (Cond.static yX8_spotOn) = true := ⟨lwt_1 _ (List.mem_of_getElem? (i := 134) rfl), by decide +kernel⟩
set_option maxRecDepth 20000 in
theorem mw_428 : (Cond.methodLink RX12 123 yX8_spotOn) ∈ lw_tbl ∧ goodWord (Cond.methodLink RX12 123 yX8_spotOn) = true := ⟨lwt_1 _ (List.mem_of_getElem? (i := 133) rfl), by decide +kernel⟩
set_option maxRecDepth 20000 in
theorem mw_427 : (Cond.code yX12_isPath cX12_isPath 1 (some .boolean)) ∈ lw_tbl ∧ goodWord (Cond.code yX12_isPath cX12_isPath 1 (some .boolean)) = true := ⟨lwt_1 _ (List.mem_of_getElem? (i := 132) rfl), by decide +kernel⟩
set_option maxRecDepth 20000 in
theorem mw_426 : (Cond.static yX12_isPath) ∈ lw_tbl ∧ goodWord (Cond.static yX12_isPath) = true := ⟨lwt_1 _ (List.mem_of_getElem? (i := 131) rfl), by decide +kernel⟩
set_option maxRecDepth 20000 in
theorem mw_425 : (Cond.methodLink RX12 116 yX12_isPath) ∈ lw_tbl ∧ goodWord (Cond.methodLink RX12 116 yX12_isPath) = true := ⟨lwt_1 _ (List.mem_of_getElem? (i := 130) rfl), by decide +kernel⟩
set_option maxRecDepth 20000 in
theorem mw_440 : (Cond.code yX12_clause cX12_clause 6 (some .int)) ∈ lw_tbl ∧ goodWord (Cond.code yX12_clause cX12_clause 6 (some .int)) = true := ⟨lwt_1 _ (List.mem_of_getElem? (i := 145) rfl), by decide +kernel⟩
set_option maxRecDepth 20000 in
theorem mw_453 : (Cond.instanceMethod yX2_rename) ∈ lw_tbl ∧ goodWord (Cond.instanceMethod yX2_rename) = true := ⟨lwt_1 _ (List.mem_of_getElem? (i := 158) rfl), by decide +kernel⟩
set_option maxRecDepth 20000 in
theorem mw_452 : (Cond.methodLink RX2 47 yX2_rename) ∈ lw_tbl ∧ goodWord (Cond.methodLink RX2 47 yX2_rename) = true := ⟨lwt_1 _ (List.mem_of_getElem? (i := 157) rfl), by decide +kernel⟩
set_option maxRecDepth 20000 in
theorem mw_451 : (Cond.code yX2_append cX2_append 6 (some .int)) ∈ lw_tbl ∧ goodWord (Cond.code yX2_append cX2_append 6 (some .int)) = true := ⟨lwt_1 _ (List.mem_of_getElem? (i := 156) rfl), by decide +kernel⟩
set_option maxRecDepth 20000 in
theorem mw_450 : (Cond.selects RX2 yX2_append yX2_append) ∈ lw_tbl ∧ goodWord (Cond.selects RX2 yX2_append yX2_append) = true := ⟨lwt_1 _ (List.mem_of_getElem? (i := 155) rfl), by decide +kernel⟩
set_option maxRecDepth 20000 in
theorem mw_449 : (Cond.instanceMethod yX2_append) ∈ lw_tbl ∧ goodWord (Cond.instanceMethod yX2_append) = true := ⟨lwt_1 _ (List.mem_of_getElem? (i := 154) rfl), by decide +kernel⟩
set_option maxRecDepth 20000 in
theorem mw_448 : (Cond.methodLink RX12 146 yX2_append) ∈ lw_tbl ∧ goodWord (Cond.methodLink RX12 146 yX2_append) = true := ⟨lwt_1 _ (List.mem_of_getElem? (i := 153) rfl), by decide +kernel⟩
set_option maxRecDepth 20000 in
theorem mw_1536 : (Cond.fieldLink RX7 70 "ClauseBook$Kind" "names" "I") ∈ lw_tbl ∧ goodWord (Cond.fieldLink RX7 70 "ClauseBook$Kind" "names" "I") = true := ⟨lwt_6 _ (List.mem_of_getElem? (i := 41) rfl), by decide +kernel⟩
set_option maxRecDepth 20000 in
theorem mw_446 : (Cond.code yX7_mayName cX7_mayName 6 (some .boolean)) ∈ lw_tbl ∧ goodWord (Cond.code yX7_mayName cX7_mayName 6 (some .boolean)) = true := ⟨lwt_1 _ (List.mem_of_getElem? (i := 151) rfl), by decide +kernel⟩
set_option maxRecDepth 20000 in
theorem mw_69 : (Cond.initialized RX7) ∈ lw_tbl ∧ goodWord (Cond.initialized RX7) = true := ⟨lwt_0 _ (List.mem_of_getElem? (i := 14) rfl), by decide +kernel⟩
set_option maxRecDepth 20000 in
theorem mw_445 : (Cond.selects RX7 yX7_mayName yX7_mayName) ∈ lw_tbl ∧ goodWord (Cond.selects RX7 yX7_mayName yX7_mayName) = true := ⟨lwt_1 _ (List.mem_of_getElem? (i := 150) rfl), by decide +kernel⟩
set_option maxRecDepth 20000 in
theorem mw_444 : (Cond.instanceMethod yX7_mayName) ∈ lw_tbl ∧ goodWord (Cond.instanceMethod yX7_mayName) = true := ⟨lwt_1 _ (List.mem_of_getElem? (i := 149) rfl), by decide +kernel⟩
set_option maxRecDepth 20000 in
theorem mw_443 : (Cond.methodLink RX12 143 yX7_mayName) ∈ lw_tbl ∧ goodWord (Cond.methodLink RX12 143 yX7_mayName) = true := ⟨lwt_1 _ (List.mem_of_getElem? (i := 148) rfl), by decide +kernel⟩
set_option maxRecDepth 20000 in
theorem mw_140 : (Cond.fieldLink RX12 138 "ClauseBook$Clauses" "size" "I") ∈ lw_tbl ∧ goodWord (Cond.fieldLink RX12 138 "ClauseBook$Clauses" "size" "I") = true := ⟨lwt_0 _ (List.mem_of_getElem? (i := 85) rfl), by decide +kernel⟩
set_option maxRecDepth 20000 in
theorem mw_1535 : (Cond.fieldLink RX12 135 "ClauseBook$Kind" "most" "I") ∈ lw_tbl ∧ goodWord (Cond.fieldLink RX12 135 "ClauseBook$Kind" "most" "I") = true := ⟨lwt_6 _ (List.mem_of_getElem? (i := 40) rfl), by decide +kernel⟩
set_option maxRecDepth 20000 in
theorem mw_1534 : (Cond.fieldLink RX12 132 "ClauseBook$Kind" "least" "I") ∈ lw_tbl ∧ goodWord (Cond.fieldLink RX12 132 "ClauseBook$Kind" "least" "I") = true := ⟨lwt_6 _ (List.mem_of_getElem? (i := 39) rfl), by decide +kernel⟩
set_option maxRecDepth 20000 in
theorem mw_472 : (Cond.code Lib.Math.min.name Lib.Math.min.code 2 (some .int)) ∈ lw_tbl ∧ goodWord (Cond.code Lib.Math.min.name Lib.Math.min.code 2 (some .int)) = true := ⟨lwt_1 _ (List.mem_of_getElem? (i := 177) rfl), by decide +kernel⟩
set_option maxRecDepth 20000 in
theorem mw_471 : (Cond.static Lib.Math.min.name) ∈ lw_tbl ∧ goodWord (Cond.static Lib.Math.min.name) = true := ⟨lwt_1 _ (List.mem_of_getElem? (i := 176) rfl), by decide +kernel⟩
set_option maxRecDepth 20000 in
theorem mw_470 : (Cond.methodLink RX2 72 Lib.Math.min.name) ∈ lw_tbl ∧ goodWord (Cond.methodLink RX2 72 Lib.Math.min.name) = true := ⟨lwt_1 _ (List.mem_of_getElem? (i := 175) rfl), by decide +kernel⟩
set_option maxRecDepth 20000 in
theorem mw_468 : (Cond.fieldLink RX2 68 "ClauseBook$Kind" "UNTIL" "LClauseBook$Kind;") ∈ lw_tbl ∧ goodWord (Cond.fieldLink RX2 68 "ClauseBook$Kind" "UNTIL" "LClauseBook$Kind;") = true := ⟨lwt_1 _ (List.mem_of_getElem? (i := 173) rfl), by decide +kernel⟩
set_option maxRecDepth 20000 in
theorem mw_467 : (Cond.code Lib.Math.max.name Lib.Math.max.code 2 (some .int)) ∈ lw_tbl ∧ goodWord (Cond.code Lib.Math.max.name Lib.Math.max.code 2 (some .int)) = true := ⟨lwt_1 _ (List.mem_of_getElem? (i := 172) rfl), by decide +kernel⟩
set_option maxRecDepth 20000 in
theorem mw_70 : (Cond.initialized "java/lang/Math") ∈ lw_tbl ∧ goodWord (Cond.initialized "java/lang/Math") = true := ⟨lwt_0 _ (List.mem_of_getElem? (i := 15) rfl), by decide +kernel⟩
set_option maxRecDepth 20000 in
theorem mw_466 : (Cond.static Lib.Math.max.name) ∈ lw_tbl ∧ goodWord (Cond.static Lib.Math.max.name) = true := ⟨lwt_1 _ (List.mem_of_getElem? (i := 171) rfl), by decide +kernel⟩
set_option maxRecDepth 20000 in
theorem mw_465 : (Cond.methodLink RX2 62 Lib.Math.max.name) ∈ lw_tbl ∧ goodWord (Cond.methodLink RX2 62 Lib.Math.max.name) = true := ⟨lwt_1 _ (List.mem_of_getElem? (i := 170) rfl), by decide +kernel⟩
set_option maxRecDepth 20000 in
theorem mw_464 : (Cond.code yX2_measure cX2_measure 6 none) ∈ lw_tbl ∧ goodWord (Cond.code yX2_measure cX2_measure 6 none) = true := ⟨lwt_1 _ (List.mem_of_getElem? (i := 169) rfl), by decide +kernel⟩
set_option maxRecDepth 20000 in
theorem mw_0 : (Cond.selects RX2 yX2_measure yX2_measure) ∈ lw_tbl ∧ goodWord (Cond.selects RX2 yX2_measure yX2_measure) = true := ⟨lwt_s _ (List.mem_of_getElem? (i := 0) rfl), by decide +kernel⟩
set_option maxRecDepth 20000 in
theorem mw_463 : (Cond.instanceMethod yX2_measure) ∈ lw_tbl ∧ goodWord (Cond.instanceMethod yX2_measure) = true := ⟨lwt_1 _ (List.mem_of_getElem? (i := 168) rfl), by decide +kernel⟩
set_option maxRecDepth 20000 in
theorem mw_461 : (Cond.methodLink RX2 58 yX2_measure) ∈ lw_tbl ∧ goodWord (Cond.methodLink RX2 58 yX2_measure) = true := ⟨lwt_1 _ (List.mem_of_getElem? (i := 166) rfl), by decide +kernel⟩
set_option maxRecDepth 20000 in
theorem mw_459 : (Cond.code yX2_kindOf cX2_kindOf 2 (some (.object "ClauseBook$Kind"))) ∈ lw_tbl ∧ goodWord (Cond.code yX2_kindOf cX2_kindOf 2 (some (.object "ClauseBook$Kind"))) = true := ⟨lwt_1 _ (List.mem_of_getElem? (i := 164) rfl), by decide +kernel⟩
set_option maxRecDepth 20000 in
theorem mw_458 : (Cond.selects RX2 yX2_kindOf yX2_kindOf) ∈ lw_tbl ∧ goodWord (Cond.selects RX2 yX2_kindOf yX2_kindOf) = true := ⟨lwt_1 _ (List.mem_of_getElem? (i := 163) rfl), by decide +kernel⟩
set_option maxRecDepth 20000 in
theorem mw_457 : (Cond.instanceMethod yX2_kindOf) ∈ lw_tbl ∧ goodWord (Cond.instanceMethod yX2_kindOf) = true := ⟨lwt_1 _ (List.mem_of_getElem? (i := 162) rfl), by decide +kernel⟩
set_option maxRecDepth 20000 in
theorem mw_456 : (Cond.methodLink RX2 51 yX2_kindOf) ∈ lw_tbl ∧ goodWord (Cond.methodLink RX2 51 yX2_kindOf) = true := ⟨lwt_1 _ (List.mem_of_getElem? (i := 161) rfl), by decide +kernel⟩
set_option maxRecDepth 20000 in
theorem mw_1537 : (Cond.fieldLink RX2 55 "ClauseBook$Kind" "names" "I") ∈ lw_tbl ∧ goodWord (Cond.fieldLink RX2 55 "ClauseBook$Kind" "names" "I") = true := ⟨lwt_6 _ (List.mem_of_getElem? (i := 42) rfl), by decide +kernel⟩
set_option maxRecDepth 20000 in
theorem mw_455 : (Cond.code yX2_rename cX2_rename 6 none) ∈ lw_tbl ∧ goodWord (Cond.code yX2_rename cX2_rename 6 none) = true := ⟨lwt_1 _ (List.mem_of_getElem? (i := 160) rfl), by decide +kernel⟩
set_option maxRecDepth 20000 in
theorem mw_454 : (Cond.selects RX2 yX2_rename yX2_rename) ∈ lw_tbl ∧ goodWord (Cond.selects RX2 yX2_rename yX2_rename) = true := ⟨lwt_1 _ (List.mem_of_getElem? (i := 159) rfl), by decide +kernel⟩
set_option maxRecDepth 20000 in
theorem mw_476 : (Cond.code yX12_clauseOf cX12_clauseOf 3 (some .int)) ∈ lw_tbl ∧ goodWord (Cond.code yX12_clauseOf cX12_clauseOf 3 (some .int)) = true := ⟨lwt_1 _ (List.mem_of_getElem? (i := 181) rfl), by decide +kernel⟩
set_option maxRecDepth 20000 in
theorem mw_480 : (Cond.code yX2_has cX2_has 2 (some .boolean)) ∈ lw_tbl ∧ goodWord (Cond.code yX2_has cX2_has 2 (some .boolean)) = true := ⟨lwt_1 _ (List.mem_of_getElem? (i := 185) rfl), by decide +kernel⟩
set_option maxRecDepth 20000 in
theorem mw_479 : (Cond.selects RX2 yX2_has yX2_has) ∈ lw_tbl ∧ goodWord (Cond.selects RX2 yX2_has yX2_has) = true := ⟨lwt_1 _ (List.mem_of_getElem? (i := 184) rfl), by decide +kernel⟩
set_option maxRecDepth 20000 in
theorem mw_478 : (Cond.instanceMethod yX2_has) ∈ lw_tbl ∧ goodWord (Cond.instanceMethod yX2_has) = true := ⟨lwt_1 _ (List.mem_of_getElem? (i := 183) rfl), by decide +kernel⟩
set_option maxRecDepth 20000 in
theorem mw_477 : (Cond.methodLink RX12 150 yX2_has) ∈ lw_tbl ∧ goodWord (Cond.methodLink RX12 150 yX2_has) = true := ⟨lwt_1 _ (List.mem_of_getElem? (i := 182) rfl), by decide +kernel⟩
set_option maxRecDepth 20000 in
theorem mw_163 : (Cond.fieldLink RX12 172 "ClauseBook$Clauses" "deep" "[I") ∈ lw_tbl ∧ goodWord (Cond.fieldLink RX12 172 "ClauseBook$Clauses" "deep" "[I") = true := ⟨lwt_0 _ (List.mem_of_getElem? (i := 108) rfl), by decide +kernel⟩
set_option maxRecDepth 20000 in
theorem mw_161 : (Cond.fieldLink RX12 169 "ClauseBook$Clauses" "made" "[I") ∈ lw_tbl ∧ goodWord (Cond.fieldLink RX12 169 "ClauseBook$Clauses" "made" "[I") = true := ⟨lwt_0 _ (List.mem_of_getElem? (i := 106) rfl), by decide +kernel⟩
set_option maxRecDepth 20000 in
theorem mw_158 : (Cond.fieldLink RX12 166 "ClauseBook$Clauses" "end" "[I") ∈ lw_tbl ∧ goodWord (Cond.fieldLink RX12 166 "ClauseBook$Clauses" "end" "[I") = true := ⟨lwt_0 _ (List.mem_of_getElem? (i := 103) rfl), by decide +kernel⟩
set_option maxRecDepth 20000 in
theorem mw_154 : (Cond.fieldLink RX12 163 "ClauseBook$Clauses" "d" "[I") ∈ lw_tbl ∧ goodWord (Cond.fieldLink RX12 163 "ClauseBook$Clauses" "d" "[I") = true := ⟨lwt_0 _ (List.mem_of_getElem? (i := 99) rfl), by decide +kernel⟩
set_option maxRecDepth 20000 in
theorem mw_150 : (Cond.fieldLink RX12 160 "ClauseBook$Clauses" "c" "[I") ∈ lw_tbl ∧ goodWord (Cond.fieldLink RX12 160 "ClauseBook$Clauses" "c" "[I") = true := ⟨lwt_0 _ (List.mem_of_getElem? (i := 95) rfl), by decide +kernel⟩
set_option maxRecDepth 20000 in
theorem mw_146 : (Cond.fieldLink RX12 157 "ClauseBook$Clauses" "n" "[I") ∈ lw_tbl ∧ goodWord (Cond.fieldLink RX12 157 "ClauseBook$Clauses" "n" "[I") = true := ⟨lwt_0 _ (List.mem_of_getElem? (i := 91) rfl), by decide +kernel⟩
set_option maxRecDepth 20000 in
theorem mw_142 : (Cond.fieldLink RX12 153 "ClauseBook$Clauses" "kind" "[I") ∈ lw_tbl ∧ goodWord (Cond.fieldLink RX12 153 "ClauseBook$Clauses" "kind" "[I") = true := ⟨lwt_0 _ (List.mem_of_getElem? (i := 87) rfl), by decide +kernel⟩
set_option maxRecDepth 20000 in
theorem mw_485 : (Cond.code yX12_drop cX12_drop 1 (some .int)) ∈ lw_tbl ∧ goodWord (Cond.code yX12_drop cX12_drop 1 (some .int)) = true := ⟨lwt_1 _ (List.mem_of_getElem? (i := 190) rfl), by decide +kernel⟩
set_option maxRecDepth 20000 in
theorem mw_489 : (Cond.code yX12_swap cX12_swap 4 (some .int)) ∈ lw_tbl ∧ goodWord (Cond.code yX12_swap cX12_swap 4 (some .int)) = true := ⟨lwt_1 _ (List.mem_of_getElem? (i := 194) rfl), by decide +kernel⟩
set_option maxRecDepth 20000 in
theorem mw_491 : (Cond.methodLink RX12 179 yX2_rename) ∈ lw_tbl ∧ goodWord (Cond.methodLink RX12 179 yX2_rename) = true := ⟨lwt_1 _ (List.mem_of_getElem? (i := 196) rfl), by decide +kernel⟩
set_option maxRecDepth 20000 in
theorem mw_490 : (Cond.methodLink RX12 175 yX2_kindOf) ∈ lw_tbl ∧ goodWord (Cond.methodLink RX12 175 yX2_kindOf) = true := ⟨lwt_1 _ (List.mem_of_getElem? (i := 195) rfl), by decide +kernel⟩
set_option maxRecDepth 20000 in
theorem mw_495 : (Cond.code yX12_value cX12_value 5 (some .long)) ∈ lw_tbl ∧ goodWord (Cond.code yX12_value cX12_value 5 (some .long)) = true := ⟨lwt_1 _ (List.mem_of_getElem? (i := 200) rfl), by decide +kernel⟩
set_option maxRecDepth 20000 in
theorem mw_500 : (Cond.code yX11_settle cX11_settle 8 (some .int)) ∈ lw_tbl ∧ goodWord (Cond.code yX11_settle cX11_settle 8 (some .int)) = true := ⟨lwt_1 _ (List.mem_of_getElem? (i := 205) rfl), by decide +kernel⟩
set_option maxRecDepth 20000 in
theorem mw_499 : (Cond.selects RX11 yX11_settle yX11_settle) ∈ lw_tbl ∧ goodWord (Cond.selects RX11 yX11_settle yX11_settle) = true := ⟨lwt_1 _ (List.mem_of_getElem? (i := 204) rfl), by decide +kernel⟩
set_option maxRecDepth 20000 in
theorem mw_498 : (Cond.instanceMethod yX11_settle) ∈ lw_tbl ∧ goodWord (Cond.instanceMethod yX11_settle) = true := ⟨lwt_1 _ (List.mem_of_getElem? (i := 203) rfl), by decide +kernel⟩
set_option maxRecDepth 20000 in
theorem mw_497 : (Cond.methodLink RX12 185 yX11_settle) ∈ lw_tbl ∧ goodWord (Cond.methodLink RX12 185 yX11_settle) = true := ⟨lwt_1 _ (List.mem_of_getElem? (i := 202) rfl), by decide +kernel⟩
set_option maxRecDepth 20000 in
theorem mw_496 : (Cond.constantLong RX12 183 (-4611686018427387906)) ∈ lw_tbl ∧ goodWord (Cond.constantLong RX12 183 (-4611686018427387906)) = true := ⟨lwt_1 _ (List.mem_of_getElem? (i := 201) rfl), by decide +kernel⟩
set_option maxRecDepth 20000 in
theorem mw_1538 : (Cond.fieldLink RJx29ce0 7 "java/lang/Enum" "ordinal" "I") ∈ lw_tbl ∧ goodWord (Cond.fieldLink RJx29ce0 7 "java/lang/Enum" "ordinal" "I") = true := ⟨lwt_6 _ (List.mem_of_getElem? (i := 43) rfl), by decide +kernel⟩
set_option maxRecDepth 20000 in
theorem mw_511 : (Cond.code yJx29ce0_ordinal_8abf5 cJx29ce0_ordinal_8abf5 1 (some .int)) ∈ lw_tbl ∧ goodWord (Cond.code yJx29ce0_ordinal_8abf5 cJx29ce0_ordinal_8abf5 1 (some .int)) = true := ⟨lwt_1 _ (List.mem_of_getElem? (i := 216) rfl), by decide +kernel⟩
set_option maxRecDepth 20000 in
theorem mw_68 : (Cond.initialized RJx29ce0) ∈ lw_tbl ∧ goodWord (Cond.initialized RJx29ce0) = true := ⟨lwt_0 _ (List.mem_of_getElem? (i := 13) rfl), by decide +kernel⟩
set_option maxRecDepth 20000 in
theorem mw_510 : (Cond.instanceMethod yJx29ce0_ordinal_8abf5) ∈ lw_tbl ∧ goodWord (Cond.instanceMethod yJx29ce0_ordinal_8abf5) = true := ⟨lwt_1 _ (List.mem_of_getElem? (i := 215) rfl), by decide +kernel⟩
set_option maxRecDepth 20000 in
theorem mw_509 : (Cond.selects RX7 ⟨"ClauseBook$Kind", "ordinal", "()I"⟩ yJx29ce0_ordinal_8abf5) ∈ lw_tbl ∧ goodWord (Cond.selects RX7 ⟨"ClauseBook$Kind", "ordinal", "()I"⟩ yJx29ce0_ordinal_8abf5) = true := ⟨lwt_1 _ (List.mem_of_getElem? (i := 214) rfl), by decide +kernel⟩
set_option maxRecDepth 20000 in
theorem mw_507 : (Cond.sameMethod "ClauseBook$Kind" "java/lang/Enum" "ordinal" "()I") ∈ lw_tbl ∧ goodWord (Cond.sameMethod "ClauseBook$Kind" "java/lang/Enum" "ordinal" "()I") = true := ⟨lwt_1 _ (List.mem_of_getElem? (i := 212) rfl), by decide +kernel⟩
set_option maxRecDepth 20000 in
theorem mw_506 : (Cond.methodLink RX11 63 ⟨"ClauseBook$Kind", "ordinal", "()I"⟩) ∈ lw_tbl ∧ goodWord (Cond.methodLink RX11 63 ⟨"ClauseBook$Kind", "ordinal", "()I"⟩) = true := ⟨lwt_1 _ (List.mem_of_getElem? (i := 211) rfl), by decide +kernel⟩
set_option maxRecDepth 20000 in
theorem mw_503 : (Cond.methodLink RX11 54 yX2_kindOf) ∈ lw_tbl ∧ goodWord (Cond.methodLink RX11 54 yX2_kindOf) = true := ⟨lwt_1 _ (List.mem_of_getElem? (i := 208) rfl), by decide +kernel⟩
set_option maxRecDepth 20000 in
theorem mw_549 : (Cond.fieldLink RX11 105 "ClauseBook$Kind" "FREE" "LClauseBook$Kind;") ∈ lw_tbl ∧ goodWord (Cond.fieldLink RX11 105 "ClauseBook$Kind" "FREE" "LClauseBook$Kind;") = true := ⟨lwt_2 _ (List.mem_of_getElem? (i := 14) rfl), by decide +kernel⟩
set_option maxRecDepth 20000 in
theorem mw_153 : (Cond.fieldLink RX11 90 "ClauseBook$Clauses" "d" "[I") ∈ lw_tbl ∧ goodWord (Cond.fieldLink RX11 90 "ClauseBook$Clauses" "d" "[I") = true := ⟨lwt_0 _ (List.mem_of_getElem? (i := 98) rfl), by decide +kernel⟩
set_option maxRecDepth 20000 in
theorem mw_145 : (Cond.fieldLink RX11 81 "ClauseBook$Clauses" "n" "[I") ∈ lw_tbl ∧ goodWord (Cond.fieldLink RX11 81 "ClauseBook$Clauses" "n" "[I") = true := ⟨lwt_0 _ (List.mem_of_getElem? (i := 90) rfl), by decide +kernel⟩
set_option maxRecDepth 20000 in
theorem mw_517 : (Cond.constantLong RX11 75 (-1)) ∈ lw_tbl ∧ goodWord (Cond.constantLong RX11 75 (-1)) = true := ⟨lwt_1 _ (List.mem_of_getElem? (i := 222) rfl), by decide +kernel⟩
set_option maxRecDepth 20000 in
theorem mw_504 : (Cond.fieldLink RX11 58 "ClauseBook$1" "$SwitchMap$ClauseBook$Kind" "[I") ∈ lw_tbl ∧ goodWord (Cond.fieldLink RX11 58 "ClauseBook$1" "$SwitchMap$ClauseBook$Kind" "[I") = true := ⟨lwt_1 _ (List.mem_of_getElem? (i := 209) rfl), by decide +kernel⟩
set_option maxRecDepth 20000 in
theorem mw_501 : (Cond.fieldLink RX11 48 "ClauseBook$Kind" "NOTHING" "LClauseBook$Kind;") ∈ lw_tbl ∧ goodWord (Cond.fieldLink RX11 48 "ClauseBook$Kind" "NOTHING" "LClauseBook$Kind;") = true := ⟨lwt_1 _ (List.mem_of_getElem? (i := 206) rfl), by decide +kernel⟩
set_option maxRecDepth 20000 in
theorem mw_157 : (Cond.fieldLink RX11 45 "ClauseBook$Clauses" "end" "[I") ∈ lw_tbl ∧ goodWord (Cond.fieldLink RX11 45 "ClauseBook$Clauses" "end" "[I") = true := ⟨lwt_0 _ (List.mem_of_getElem? (i := 102) rfl), by decide +kernel⟩
set_option maxRecDepth 20000 in
theorem mw_149 : (Cond.fieldLink RX11 40 "ClauseBook$Clauses" "c" "[I") ∈ lw_tbl ∧ goodWord (Cond.fieldLink RX11 40 "ClauseBook$Clauses" "c" "[I") = true := ⟨lwt_0 _ (List.mem_of_getElem? (i := 94) rfl), by decide +kernel⟩
set_option maxRecDepth 20000 in
theorem mw_533 : (Cond.methodLink RX11 84 yX8_priceAt) ∈ lw_tbl ∧ goodWord (Cond.methodLink RX11 84 yX8_priceAt) = true := ⟨lwt_1 _ (List.mem_of_getElem? (i := 238) rfl), by decide +kernel⟩
set_option maxRecDepth 20000 in
theorem mw_532 : (Cond.code Lib.MathLoose.abs_long.x Lib.MathLoose.abs_long.code 2 (some .long)) ∈ lw_tbl ∧ goodWord (Cond.code Lib.MathLoose.abs_long.x Lib.MathLoose.abs_long.code 2 (some .long)) = true := ⟨lwt_1 _ (List.mem_of_getElem? (i := 237) rfl), by decide +kernel⟩
set_option maxRecDepth 20000 in
theorem mw_531 : (Cond.static Lib.MathLoose.abs_long.x) ∈ lw_tbl ∧ goodWord (Cond.static Lib.MathLoose.abs_long.x) = true := ⟨lwt_1 _ (List.mem_of_getElem? (i := 236) rfl), by decide +kernel⟩
set_option maxRecDepth 20000 in
theorem mw_530 : (Cond.methodLink RX11 154 Lib.MathLoose.abs_long.x) ∈ lw_tbl ∧ goodWord (Cond.methodLink RX11 154 Lib.MathLoose.abs_long.x) = true := ⟨lwt_1 _ (List.mem_of_getElem? (i := 235) rfl), by decide +kernel⟩
set_option maxRecDepth 20000 in
theorem mw_529 : (Cond.code yX11_reduce cX11_reduce 13 none) ∈ lw_tbl ∧ goodWord (Cond.code yX11_reduce cX11_reduce 13 none) = true := ⟨lwt_1 _ (List.mem_of_getElem? (i := 234) rfl), by decide +kernel⟩
set_option maxRecDepth 20000 in
theorem mw_528 : (Cond.selects RX11 yX11_reduce yX11_reduce) ∈ lw_tbl ∧ goodWord (Cond.selects RX11 yX11_reduce yX11_reduce) = true := ⟨lwt_1 _ (List.mem_of_getElem? (i := 233) rfl), by decide +kernel⟩
set_option maxRecDepth 20000 in
theorem mw_527 : (Cond.instanceMethod yX11_reduce) ∈ lw_tbl ∧ goodWord (Cond.instanceMethod yX11_reduce) = true := ⟨lwt_1 _ (List.mem_of_getElem? (i := 232) rfl), by decide +kernel⟩
set_option maxRecDepth 20000 in
theorem mw_526 : (Cond.methodLink RX11 141 yX11_reduce) ∈ lw_tbl ∧ goodWord (Cond.methodLink RX11 141 yX11_reduce) = true := ⟨lwt_1 _ (List.mem_of_getElem? (i := 231) rfl), by decide +kernel⟩
set_option maxRecDepth 20000 in
theorem mw_525 : (Cond.constantLong RX11 169 (-9223372036854775808)) ∈ lw_tbl ∧ goodWord (Cond.constantLong RX11 169 (-9223372036854775808)) = true := ⟨lwt_1 _ (List.mem_of_getElem? (i := 230) rfl), by decide +kernel⟩
set_option maxRecDepth 20000 in
theorem mw_524 : (Cond.code yX11_productFits cX11_productFits 4 (some .boolean)) ∈ lw_tbl ∧ goodWord (Cond.code yX11_productFits cX11_productFits 4 (some .boolean)) = true := ⟨lwt_1 _ (List.mem_of_getElem? (i := 229) rfl), by decide +kernel⟩
set_option maxRecDepth 20000 in
theorem mw_523 : (Cond.static yX11_productFits) ∈ lw_tbl ∧ goodWord (Cond.static yX11_productFits) = true := ⟨lwt_1 _ (List.mem_of_getElem? (i := 228) rfl), by decide +kernel⟩
set_option maxRecDepth 20000 in
theorem mw_522 : (Cond.methodLink RX11 147 yX11_productFits) ∈ lw_tbl ∧ goodWord (Cond.methodLink RX11 147 yX11_productFits) = true := ⟨lwt_1 _ (List.mem_of_getElem? (i := 227) rfl), by decide +kernel⟩
set_option maxRecDepth 20000 in
theorem mw_521 : (Cond.code yX11_multiply cX11_multiply 11 none) ∈ lw_tbl ∧ goodWord (Cond.code yX11_multiply cX11_multiply 11 none) = true := ⟨lwt_1 _ (List.mem_of_getElem? (i := 226) rfl), by decide +kernel⟩
set_option maxRecDepth 20000 in
theorem mw_2 : (Cond.selects RX11 yX11_multiply yX11_multiply) ∈ lw_tbl ∧ goodWord (Cond.selects RX11 yX11_multiply yX11_multiply) = true := ⟨lwt_s _ (List.mem_of_getElem? (i := 2) rfl), by decide +kernel⟩
set_option maxRecDepth 20000 in
theorem mw_520 : (Cond.instanceMethod yX11_multiply) ∈ lw_tbl ∧ goodWord (Cond.instanceMethod yX11_multiply) = true := ⟨lwt_1 _ (List.mem_of_getElem? (i := 225) rfl), by decide +kernel⟩
set_option maxRecDepth 20000 in
theorem mw_518 : (Cond.methodLink RX11 77 yX11_multiply) ∈ lw_tbl ∧ goodWord (Cond.methodLink RX11 77 yX11_multiply) = true := ⟨lwt_1 _ (List.mem_of_getElem? (i := 223) rfl), by decide +kernel⟩
set_option maxRecDepth 20000 in
theorem mw_516 : (Cond.methodLink RX11 71 yX11_settle) ∈ lw_tbl ∧ goodWord (Cond.methodLink RX11 71 yX11_settle) = true := ⟨lwt_1 _ (List.mem_of_getElem? (i := 221) rfl), by decide +kernel⟩
set_option maxRecDepth 20000 in
theorem mw_515 : (Cond.code yX11_assign cX11_assign 6 none) ∈ lw_tbl ∧ goodWord (Cond.code yX11_assign cX11_assign 6 none) = true := ⟨lwt_1 _ (List.mem_of_getElem? (i := 220) rfl), by decide +kernel⟩
set_option maxRecDepth 20000 in
theorem mw_1 : (Cond.selects RX11 yX11_assign yX11_assign) ∈ lw_tbl ∧ goodWord (Cond.selects RX11 yX11_assign yX11_assign) = true := ⟨lwt_s _ (List.mem_of_getElem? (i := 1) rfl), by decide +kernel⟩
set_option maxRecDepth 20000 in
theorem mw_514 : (Cond.instanceMethod yX11_assign) ∈ lw_tbl ∧ goodWord (Cond.instanceMethod yX11_assign) = true := ⟨lwt_1 _ (List.mem_of_getElem? (i := 219) rfl), by decide +kernel⟩
set_option maxRecDepth 20000 in
theorem mw_512 : (Cond.methodLink RX11 67 yX11_assign) ∈ lw_tbl ∧ goodWord (Cond.methodLink RX11 67 yX11_assign) = true := ⟨lwt_1 _ (List.mem_of_getElem? (i := 217) rfl), by decide +kernel⟩
set_option maxRecDepth 20000 in
theorem mw_5 : (Cond.selects RX11 yX11_raise yX11_raise) ∈ lw_tbl ∧ goodWord (Cond.selects RX11 yX11_raise yX11_raise) = true := ⟨lwt_s _ (List.mem_of_getElem? (i := 5) rfl), by decide +kernel⟩
