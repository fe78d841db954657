set_option maxRecDepth 20000 in
theorem mw_46 : (Cond.selects RX13 yX13_isWord yX13_isWord) ∈ lw_tbl ∧ goodWord (Cond.selects RX13 yX13_isWord yX13_isWord) = true := ⟨lwt_s _ (List.mem_of_getElem? (i := 46) rfl), by decide +kernel⟩
set_option maxRecDepth 20000 in
theorem mw_1418 : (Cond.instanceMethod yX13_isWord) ∈ lw_tbl ∧ goodWord (Cond.instanceMethod yX13_isWord) = true := ⟨lwt_5 _ (List.mem_of_getElem? (i := 163) rfl), by decide +kernel⟩
set_option maxRecDepth 20000 in
theorem mw_1416 : (Cond.methodLink RX13 372 yX13_isWord) ∈ lw_tbl ∧ goodWord (Cond.methodLink RX13 372 yX13_isWord) = true := ⟨lwt_5 _ (List.mem_of_getElem? (i := 161) rfl), by decide +kernel⟩
set_option maxRecDepth 20000 in
theorem mw_1415 : (Cond.code yX13_wordAt cX13_wordAt 3 (some .int)) ∈ lw_tbl ∧ goodWord (Cond.code yX13_wordAt cX13_wordAt 3 (some .int)) = true := ⟨lwt_5 _ (List.mem_of_getElem? (i := 160) rfl), by decide +kernel⟩
set_option maxRecDepth 20000 in
theorem mw_45 : (Cond.selects RX13 yX13_wordAt yX13_wordAt) ∈ lw_tbl ∧ goodWord (Cond.selects RX13 yX13_wordAt yX13_wordAt) = true := ⟨lwt_s _ (List.mem_of_getElem? (i := 45) rfl), by decide +kernel⟩
set_option maxRecDepth 20000 in
theorem mw_1414 : (Cond.instanceMethod yX13_wordAt) ∈ lw_tbl ∧ goodWord (Cond.instanceMethod yX13_wordAt) = true := ⟨lwt_5 _ (List.mem_of_getElem? (i := 159) rfl), by decide +kernel⟩
set_option maxRecDepth 20000 in
theorem mw_1412 : (Cond.methodLink RX13 387 yX13_wordAt) ∈ lw_tbl ∧ goodWord (Cond.methodLink RX13 387 yX13_wordAt) = true := ⟨lwt_5 _ (List.mem_of_getElem? (i := 157) rfl), by decide +kernel⟩
set_option maxRecDepth 20000 in
theorem mw_1421 : (Cond.methodLink RX13 379 yJ0_charAt_5068e) ∈ lw_tbl ∧ goodWord (Cond.methodLink RX13 379 yJ0_charAt_5068e) = true := ⟨lwt_5 _ (List.mem_of_getElem? (i := 166) rfl), by decide +kernel⟩
set_option maxRecDepth 20000 in
theorem mw_1429 : (Cond.code yX13_reads cX13_reads 5 (some .boolean)) ∈ lw_tbl ∧ goodWord (Cond.code yX13_reads cX13_reads 5 (some .boolean)) = true := ⟨lwt_5 _ (List.mem_of_getElem? (i := 174) rfl), by decide +kernel⟩
set_option maxRecDepth 20000 in
theorem mw_48 : (Cond.selects RX13 yX13_reads yX13_reads) ∈ lw_tbl ∧ goodWord (Cond.selects RX13 yX13_reads yX13_reads) = true := ⟨lwt_s _ (List.mem_of_getElem? (i := 48) rfl), by decide +kernel⟩
set_option maxRecDepth 20000 in
theorem mw_1428 : (Cond.instanceMethod yX13_reads) ∈ lw_tbl ∧ goodWord (Cond.instanceMethod yX13_reads) = true := ⟨lwt_5 _ (List.mem_of_getElem? (i := 173) rfl), by decide +kernel⟩
set_option maxRecDepth 20000 in
theorem mw_1426 : (Cond.methodLink RX13 399 yX13_reads) ∈ lw_tbl ∧ goodWord (Cond.methodLink RX13 399 yX13_reads) = true := ⟨lwt_5 _ (List.mem_of_getElem? (i := 171) rfl), by decide +kernel⟩
set_option maxRecDepth 20000 in
theorem mw_1425 : (Cond.code yX13_must cX13_must 3 (some .boolean)) ∈ lw_tbl ∧ goodWord (Cond.code yX13_must cX13_must 3 (some .boolean)) = true := ⟨lwt_5 _ (List.mem_of_getElem? (i := 170) rfl), by decide +kernel⟩
set_option maxRecDepth 20000 in
theorem mw_47 : (Cond.selects RX13 yX13_must yX13_must) ∈ lw_tbl ∧ goodWord (Cond.selects RX13 yX13_must yX13_must) = true := ⟨lwt_s _ (List.mem_of_getElem? (i := 47) rfl), by decide +kernel⟩
set_option maxRecDepth 20000 in
theorem mw_1424 : (Cond.instanceMethod yX13_must) ∈ lw_tbl ∧ goodWord (Cond.instanceMethod yX13_must) = true := ⟨lwt_5 _ (List.mem_of_getElem? (i := 169) rfl), by decide +kernel⟩
set_option maxRecDepth 20000 in
theorem mw_1422 : (Cond.methodLink RX13 365 yX13_must) ∈ lw_tbl ∧ goodWord (Cond.methodLink RX13 365 yX13_must) = true := ⟨lwt_5 _ (List.mem_of_getElem? (i := 167) rfl), by decide +kernel⟩
set_option maxRecDepth 20000 in
theorem mw_1435 : (Cond.constantLong RX13 356 (57)) ∈ lw_tbl ∧ goodWord (Cond.constantLong RX13 356 (57)) = true := ⟨lwt_5 _ (List.mem_of_getElem? (i := 180) rfl), by decide +kernel⟩
set_option maxRecDepth 20000 in
theorem mw_1434 : (Cond.constantLong RX13 354 (48)) ∈ lw_tbl ∧ goodWord (Cond.constantLong RX13 354 (48)) = true := ⟨lwt_5 _ (List.mem_of_getElem? (i := 179) rfl), by decide +kernel⟩
set_option maxRecDepth 20000 in
theorem mw_1433 : (Cond.code yX13_isDigit cX13_isDigit 1 (some .boolean)) ∈ lw_tbl ∧ goodWord (Cond.code yX13_isDigit cX13_isDigit 1 (some .boolean)) = true := ⟨lwt_5 _ (List.mem_of_getElem? (i := 178) rfl), by decide +kernel⟩
set_option maxRecDepth 20000 in
theorem mw_49 : (Cond.selects RX13 yX13_isDigit yX13_isDigit) ∈ lw_tbl ∧ goodWord (Cond.selects RX13 yX13_isDigit yX13_isDigit) = true := ⟨lwt_s _ (List.mem_of_getElem? (i := 49) rfl), by decide +kernel⟩
set_option maxRecDepth 20000 in
theorem mw_1432 : (Cond.instanceMethod yX13_isDigit) ∈ lw_tbl ∧ goodWord (Cond.instanceMethod yX13_isDigit) = true := ⟨lwt_5 _ (List.mem_of_getElem? (i := 177) rfl), by decide +kernel⟩
set_option maxRecDepth 20000 in
theorem mw_1430 : (Cond.methodLink RX13 361 yX13_isDigit) ∈ lw_tbl ∧ goodWord (Cond.methodLink RX13 361 yX13_isDigit) = true := ⟨lwt_5 _ (List.mem_of_getElem? (i := 175) rfl), by decide +kernel⟩
set_option maxRecDepth 20000 in
theorem mw_1439 : (Cond.code yX13_put cX13_put 3 (some .int)) ∈ lw_tbl ∧ goodWord (Cond.code yX13_put cX13_put 3 (some .int)) = true := ⟨lwt_5 _ (List.mem_of_getElem? (i := 184) rfl), by decide +kernel⟩
set_option maxRecDepth 20000 in
theorem mw_1442 : (Cond.code yX13_isBag cX13_isBag 1 (some .boolean)) ∈ lw_tbl ∧ goodWord (Cond.code yX13_isBag cX13_isBag 1 (some .boolean)) = true := ⟨lwt_5 _ (List.mem_of_getElem? (i := 187) rfl), by decide +kernel⟩
set_option maxRecDepth 20000 in
theorem mw_1441 : (Cond.static yX13_isBag) ∈ lw_tbl ∧ goodWord (Cond.static yX13_isBag) = true := ⟨lwt_5 _ (List.mem_of_getElem? (i := 186) rfl), by decide +kernel⟩
set_option maxRecDepth 20000 in
theorem mw_1440 : (Cond.methodLink RX13 405 yX13_isBag) ∈ lw_tbl ∧ goodWord (Cond.methodLink RX13 405 yX13_isBag) = true := ⟨lwt_5 _ (List.mem_of_getElem? (i := 185) rfl), by decide +kernel⟩
set_option maxRecDepth 20000 in
theorem mw_1446 : (Cond.code yX13_take cX13_take 2 (some .int)) ∈ lw_tbl ∧ goodWord (Cond.code yX13_take cX13_take 2 (some .int)) = true := ⟨lwt_5 _ (List.mem_of_getElem? (i := 191) rfl), by decide +kernel⟩
set_option maxRecDepth 20000 in
theorem mw_1450 : (Cond.code yX13_bagOf cX13_bagOf 3 (some .int)) ∈ lw_tbl ∧ goodWord (Cond.code yX13_bagOf cX13_bagOf 3 (some .int)) = true := ⟨lwt_5 _ (List.mem_of_getElem? (i := 195) rfl), by decide +kernel⟩
set_option maxRecDepth 20000 in
theorem mw_1454 : (Cond.code yX13_pour cX13_pour 9 (some .int)) ∈ lw_tbl ∧ goodWord (Cond.code yX13_pour cX13_pour 9 (some .int)) = true := ⟨lwt_5 _ (List.mem_of_getElem? (i := 199) rfl), by decide +kernel⟩
set_option maxRecDepth 20000 in
theorem mw_1458 : (Cond.code yX13_bagBest cX13_bagBest 8 (some .int)) ∈ lw_tbl ∧ goodWord (Cond.code yX13_bagBest cX13_bagBest 8 (some .int)) = true := ⟨lwt_5 _ (List.mem_of_getElem? (i := 203) rfl), by decide +kernel⟩
set_option maxRecDepth 20000 in
theorem mw_1462 : (Cond.code yX13_sum cX13_sum 5 (some .int)) ∈ lw_tbl ∧ goodWord (Cond.code yX13_sum cX13_sum 5 (some .int)) = true := ⟨lwt_5 _ (List.mem_of_getElem? (i := 207) rfl), by decide +kernel⟩
set_option maxRecDepth 20000 in
theorem mw_1466 : (Cond.code yX13_sheet cX13_sheet 5 (some .int)) ∈ lw_tbl ∧ goodWord (Cond.code yX13_sheet cX13_sheet 5 (some .int)) = true := ⟨lwt_5 _ (List.mem_of_getElem? (i := 211) rfl), by decide +kernel⟩
set_option maxRecDepth 20000 in
theorem mw_1471 : (Cond.code yX13_read cX13_read 10 (some .long)) ∈ lw_tbl ∧ goodWord (Cond.code yX13_read cX13_read 10 (some .long)) = true := ⟨lwt_5 _ (List.mem_of_getElem? (i := 216) rfl), by decide +kernel⟩
set_option maxRecDepth 20000 in
theorem mw_1472 : (Cond.constantDouble RX13 413 (4619567317775286272)) ∈ lw_tbl ∧ goodWord (Cond.constantDouble RX13 413 (4619567317775286272)) = true := ⟨lwt_5 _ (List.mem_of_getElem? (i := 217) rfl), by decide +kernel⟩
set_option maxRecDepth 20000 in
theorem mw_1476 : (Cond.code yX13_halve cX13_halve 5 (some .int)) ∈ lw_tbl ∧ goodWord (Cond.code yX13_halve cX13_halve 5 (some .int)) = true := ⟨lwt_5 _ (List.mem_of_getElem? (i := 221) rfl), by decide +kernel⟩
set_option maxRecDepth 20000 in
theorem mw_1477 : (Cond.constantDouble RX13 415 (4611686018427387904)) ∈ lw_tbl ∧ goodWord (Cond.constantDouble RX13 415 (4611686018427387904)) = true := ⟨lwt_5 _ (List.mem_of_getElem? (i := 222) rfl), by decide +kernel⟩
set_option maxRecDepth 20000 in
theorem mw_1481 : (Cond.code yX13_copy cX13_copy 8 (some .int)) ∈ lw_tbl ∧ goodWord (Cond.code yX13_copy cX13_copy 8 (some .int)) = true := ⟨lwt_5 _ (List.mem_of_getElem? (i := 226) rfl), by decide +kernel⟩
set_option maxRecDepth 20000 in
theorem mw_1485 : (Cond.code yX13_hold cX13_hold 10 (some .int)) ∈ lw_tbl ∧ goodWord (Cond.code yX13_hold cX13_hold 10 (some .int)) = true := ⟨lwt_5 _ (List.mem_of_getElem? (i := 230) rfl), by decide +kernel⟩
set_option maxRecDepth 20000 in
theorem mw_1488 : (Cond.code yX13_isHand cX13_isHand 1 (some .boolean)) ∈ lw_tbl ∧ goodWord (Cond.code yX13_isHand cX13_isHand 1 (some .boolean)) = true := ⟨lwt_5 _ (List.mem_of_getElem? (i := 233) rfl), by decide +kernel⟩
set_option maxRecDepth 20000 in
theorem mw_1487 : (Cond.static yX13_isHand) ∈ lw_tbl ∧ goodWord (Cond.static yX13_isHand) = true := ⟨lwt_5 _ (List.mem_of_getElem? (i := 232) rfl), by decide +kernel⟩
set_option maxRecDepth 20000 in
theorem mw_1486 : (Cond.methodLink RX13 417 yX13_isHand) ∈ lw_tbl ∧ goodWord (Cond.methodLink RX13 417 yX13_isHand) = true := ⟨lwt_5 _ (List.mem_of_getElem? (i := 231) rfl), by decide +kernel⟩
set_option maxRecDepth 20000 in
theorem mw_1492 : (Cond.code yX13_asClause cX13_asClause 5 (some .int)) ∈ lw_tbl ∧ goodWord (Cond.code yX13_asClause cX13_asClause 5 (some .int)) = true := ⟨lwt_5 _ (List.mem_of_getElem? (i := 237) rfl), by decide +kernel⟩
set_option maxRecDepth 20000 in
theorem mw_1496 : (Cond.code yX13_lacks cX13_lacks 3 (some .int)) ∈ lw_tbl ∧ goodWord (Cond.code yX13_lacks cX13_lacks 3 (some .int)) = true := ⟨lwt_6 _ (List.mem_of_getElem? (i := 1) rfl), by decide +kernel⟩
set_option maxRecDepth 20000 in
theorem mw_50 : (Cond.selects RX13 yX13_lacks yX13_lacks) ∈ lw_tbl ∧ goodWord (Cond.selects RX13 yX13_lacks yX13_lacks) = true := ⟨lwt_s _ (List.mem_of_getElem? (i := 50) rfl), by decide +kernel⟩
set_option maxRecDepth 20000 in
theorem mw_1495 : (Cond.instanceMethod yX13_lacks) ∈ lw_tbl ∧ goodWord (Cond.instanceMethod yX13_lacks) = true := ⟨lwt_6 _ (List.mem_of_getElem? (i := 0) rfl), by decide +kernel⟩
set_option maxRecDepth 20000 in
theorem mw_1493 : (Cond.methodLink RX13 420 yX13_lacks) ∈ lw_tbl ∧ goodWord (Cond.methodLink RX13 420 yX13_lacks) = true := ⟨lwt_5 _ (List.mem_of_getElem? (i := 238) rfl), by decide +kernel⟩
set_option maxRecDepth 20000 in
theorem mw_1500 : (Cond.code yX13_asFraction cX13_asFraction 4 (some .long)) ∈ lw_tbl ∧ goodWord (Cond.code yX13_asFraction cX13_asFraction 4 (some .long)) = true := ⟨lwt_6 _ (List.mem_of_getElem? (i := 5) rfl), by decide +kernel⟩
set_option maxRecDepth 20000 in
theorem mw_1504 : (Cond.code yX13_compare cX13_compare 7 (some .int)) ∈ lw_tbl ∧ goodWord (Cond.code yX13_compare cX13_compare 7 (some .int)) = true := ⟨lwt_6 _ (List.mem_of_getElem? (i := 9) rfl), by decide +kernel⟩
set_option maxRecDepth 20000 in
theorem mw_1508 : (Cond.code yX13_image cX13_image 1 (some .int)) ∈ lw_tbl ∧ goodWord (Cond.code yX13_image cX13_image 1 (some .int)) = true := ⟨lwt_6 _ (List.mem_of_getElem? (i := 13) rfl), by decide +kernel⟩
set_option maxRecDepth 20000 in
theorem mw_1515 : (Cond.instanceMethod yX13_passes) ∈ lw_tbl ∧ goodWord (Cond.instanceMethod yX13_passes) = true := ⟨lwt_6 _ (List.mem_of_getElem? (i := 20) rfl), by decide +kernel⟩
set_option maxRecDepth 20000 in
theorem mw_1513 : (Cond.methodLink RX13 429 yX13_passes) ∈ lw_tbl ∧ goodWord (Cond.methodLink RX13 429 yX13_passes) = true := ⟨lwt_6 _ (List.mem_of_getElem? (i := 18) rfl), by decide +kernel⟩
set_option maxRecDepth 20000 in
theorem mw_1026 : (Cond.fieldLink RX13 426 "ClauseBookModel" "passed" "I") ∈ lw_tbl ∧ goodWord (Cond.fieldLink RX13 426 "ClauseBookModel" "passed" "I") = true := ⟨lwt_4 _ (List.mem_of_getElem? (i := 11) rfl), by decide +kernel⟩
set_option maxRecDepth 20000 in
theorem mw_1027 : (Cond.fieldLink RX13 423 "ClauseBookModel" "isKeeping" "Z") ∈ lw_tbl ∧ goodWord (Cond.fieldLink RX13 423 "ClauseBookModel" "isKeeping" "Z") = true := ⟨lwt_4 _ (List.mem_of_getElem? (i := 12) rfl), by decide +kernel⟩
set_option maxRecDepth 20000 in
theorem mw_1512 : (Cond.code yX13_passesAll cX13_passesAll 2 none) ∈ lw_tbl ∧ goodWord (Cond.code yX13_passesAll cX13_passesAll 2 none) = true := ⟨lwt_6 _ (List.mem_of_getElem? (i := 17) rfl), by decide +kernel⟩
set_option maxRecDepth 20000 in
theorem mw_51 : (Cond.selects RX13 yX13_passesAll yX13_passesAll) ∈ lw_tbl ∧ goodWord (Cond.selects RX13 yX13_passesAll yX13_passesAll) = true := ⟨lwt_s _ (List.mem_of_getElem? (i := 51) rfl), by decide +kernel⟩
set_option maxRecDepth 20000 in
theorem mw_1511 : (Cond.instanceMethod yX13_passesAll) ∈ lw_tbl ∧ goodWord (Cond.instanceMethod yX13_passesAll) = true := ⟨lwt_6 _ (List.mem_of_getElem? (i := 16) rfl), by decide +kernel⟩
set_option maxRecDepth 20000 in
theorem mw_1509 : (Cond.methodLink RX13 439 yX13_passesAll) ∈ lw_tbl ∧ goodWord (Cond.methodLink RX13 439 yX13_passesAll) = true := ⟨lwt_6 _ (List.mem_of_getElem? (i := 14) rfl), by decide +kernel⟩
set_option maxRecDepth 20000 in
theorem mw_1024 : (Cond.fieldLink RX13 436 "ClauseBookModel" "isKept" "Z") ∈ lw_tbl ∧ goodWord (Cond.fieldLink RX13 436 "ClauseBookModel" "isKept" "Z") = true := ⟨lwt_4 _ (List.mem_of_getElem? (i := 9) rfl), by decide +kernel⟩
set_option maxRecDepth 20000 in
theorem mw_1520 : (Cond.code yX13_passesRow cX13_passesRow 3 none) ∈ lw_tbl ∧ goodWord (Cond.code yX13_passesRow cX13_passesRow 3 none) = true := ⟨lwt_6 _ (List.mem_of_getElem? (i := 25) rfl), by decide +kernel⟩
set_option maxRecDepth 20000 in
theorem mw_53 : (Cond.selects RX13 yX13_passesRow yX13_passesRow) ∈ lw_tbl ∧ goodWord (Cond.selects RX13 yX13_passesRow yX13_passesRow) = true := ⟨lwt_s _ (List.mem_of_getElem? (i := 53) rfl), by decide +kernel⟩
set_option maxRecDepth 20000 in
theorem mw_1519 : (Cond.instanceMethod yX13_passesRow) ∈ lw_tbl ∧ goodWord (Cond.instanceMethod yX13_passesRow) = true := ⟨lwt_6 _ (List.mem_of_getElem? (i := 24) rfl), by decide +kernel⟩
set_option maxRecDepth 20000 in
theorem mw_1517 : (Cond.methodLink RX13 432 yX13_passesRow) ∈ lw_tbl ∧ goodWord (Cond.methodLink RX13 432 yX13_passesRow) = true := ⟨lwt_6 _ (List.mem_of_getElem? (i := 22) rfl), by decide +kernel⟩
set_option maxRecDepth 20000 in
theorem mw_1516 : (Cond.code yX13_passes cX13_passes 3 (some .int)) ∈ lw_tbl ∧ goodWord (Cond.code yX13_passes cX13_passes 3 (some .int)) = true := ⟨lwt_6 _ (List.mem_of_getElem? (i := 21) rfl), by decide +kernel⟩
set_option maxRecDepth 20000 in
theorem mw_52 : (Cond.selects RX13 yX13_passes yX13_passes) ∈ lw_tbl ∧ goodWord (Cond.selects RX13 yX13_passes yX13_passes) = true := ⟨lwt_s _ (List.mem_of_getElem? (i := 52) rfl), by decide +kernel⟩
set_option maxRecDepth 20000 in
theorem mw_1524 : (Cond.code yX13_back cX13_back 1 (some .int)) ∈ lw_tbl ∧ goodWord (Cond.code yX13_back cX13_back 1 (some .int)) = true := ⟨lwt_6 _ (List.mem_of_getElem? (i := 29) rfl), by decide +kernel⟩
set_option maxRecDepth 20000 in
theorem mw_1528 : (Cond.code yX13_count cX13_count 6 (some .int)) ∈ lw_tbl ∧ goodWord (Cond.code yX13_count cX13_count 6 (some .int)) = true := ⟨lwt_6 _ (List.mem_of_getElem? (i := 33) rfl), by decide +kernel⟩
set_option maxRecDepth 20000 in
theorem mw_1532 : (Cond.code yX13_isNamed cX13_isNamed 4 (some .boolean)) ∈ lw_tbl ∧ goodWord (Cond.code yX13_isNamed cX13_isNamed 4 (some .boolean)) = true := ⟨lwt_6 _ (List.mem_of_getElem? (i := 37) rfl), by decide +kernel⟩
set_option maxRecDepth 20000 in
theorem mw_54 : (Cond.selects RX13 yX13_isNamed yX13_isNamed) ∈ lw_tbl ∧ goodWord (Cond.selects RX13 yX13_isNamed yX13_isNamed) = true := ⟨lwt_s _ (List.mem_of_getElem? (i := 54) rfl), by decide +kernel⟩
set_option maxRecDepth 20000 in
theorem mw_1531 : (Cond.instanceMethod yX13_isNamed) ∈ lw_tbl ∧ goodWord (Cond.instanceMethod yX13_isNamed) = true := ⟨lwt_6 _ (List.mem_of_getElem? (i := 36) rfl), by decide +kernel⟩
set_option maxRecDepth 20000 in
theorem mw_1529 : (Cond.methodLink RX13 443 yX13_isNamed) ∈ lw_tbl ∧ goodWord (Cond.methodLink RX13 443 yX13_isNamed) = true := ⟨lwt_6 _ (List.mem_of_getElem? (i := 34) rfl), by decide +kernel⟩
