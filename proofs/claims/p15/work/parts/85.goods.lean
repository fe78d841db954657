set_option maxRecDepth 20000 in
theorem mw_79 : (Cond.initialized "java/lang/System") ∈ lw_tbl ∧ goodWord (Cond.initialized "java/lang/System") = true := ⟨lwt_0 _ (List.mem_of_getElem? (i := 24) rfl), by decide +kernel⟩
set_option maxRecDepth 20000 in
theorem mw_896 : (Cond.static arraycopyName) ∈ lw_tbl ∧ goodWord (Cond.static arraycopyName) = true := ⟨lwt_3 _ (List.mem_of_getElem? (i := 121) rfl), by decide +kernel⟩
set_option maxRecDepth 20000 in
theorem mw_897 : (Cond.native arraycopyName) ∈ lw_tbl ∧ goodWord (Cond.native arraycopyName) = true := ⟨lwt_3 _ (List.mem_of_getElem? (i := 122) rfl), by decide +kernel⟩
set_option maxRecDepth 20000 in
theorem mw_895 : (Cond.methodLink RX9 52 arraycopyName) ∈ lw_tbl ∧ goodWord (Cond.methodLink RX9 52 arraycopyName) = true := ⟨lwt_3 _ (List.mem_of_getElem? (i := 120) rfl), by decide +kernel⟩
set_option maxRecDepth 20000 in
theorem mw_894 : (Cond.code yX9_moveFrom cX9_moveFrom 5 none) ∈ lw_tbl ∧ goodWord (Cond.code yX9_moveFrom cX9_moveFrom 5 none) = true := ⟨lwt_3 _ (List.mem_of_getElem? (i := 119) rfl), by decide +kernel⟩
set_option maxRecDepth 20000 in
theorem mw_893 : (Cond.selects RX9 yX9_moveFrom yX9_moveFrom) ∈ lw_tbl ∧ goodWord (Cond.selects RX9 yX9_moveFrom yX9_moveFrom) = true := ⟨lwt_3 _ (List.mem_of_getElem? (i := 118) rfl), by decide +kernel⟩
set_option maxRecDepth 20000 in
theorem mw_892 : (Cond.instanceMethod yX9_moveFrom) ∈ lw_tbl ∧ goodWord (Cond.instanceMethod yX9_moveFrom) = true := ⟨lwt_3 _ (List.mem_of_getElem? (i := 117) rfl), by decide +kernel⟩
set_option maxRecDepth 20000 in
theorem mw_891 : (Cond.methodLink RX12 348 yX9_moveFrom) ∈ lw_tbl ∧ goodWord (Cond.methodLink RX12 348 yX9_moveFrom) = true := ⟨lwt_3 _ (List.mem_of_getElem? (i := 116) rfl), by decide +kernel⟩
set_option maxRecDepth 20000 in
theorem mw_890 : (Cond.code yX9_hasRun cX9_hasRun 3 (some .boolean)) ∈ lw_tbl ∧ goodWord (Cond.code yX9_hasRun cX9_hasRun 3 (some .boolean)) = true := ⟨lwt_3 _ (List.mem_of_getElem? (i := 115) rfl), by decide +kernel⟩
set_option maxRecDepth 20000 in
theorem mw_889 : (Cond.selects RX9 yX9_hasRun yX9_hasRun) ∈ lw_tbl ∧ goodWord (Cond.selects RX9 yX9_hasRun yX9_hasRun) = true := ⟨lwt_3 _ (List.mem_of_getElem? (i := 114) rfl), by decide +kernel⟩
set_option maxRecDepth 20000 in
theorem mw_888 : (Cond.instanceMethod yX9_hasRun) ∈ lw_tbl ∧ goodWord (Cond.instanceMethod yX9_hasRun) = true := ⟨lwt_3 _ (List.mem_of_getElem? (i := 113) rfl), by decide +kernel⟩
set_option maxRecDepth 20000 in
theorem mw_887 : (Cond.methodLink RX12 345 yX9_hasRun) ∈ lw_tbl ∧ goodWord (Cond.methodLink RX12 345 yX9_hasRun) = true := ⟨lwt_3 _ (List.mem_of_getElem? (i := 112) rfl), by decide +kernel⟩
set_option maxRecDepth 20000 in
theorem mw_901 : (Cond.code yX12_hold cX12_hold 9 (some .int)) ∈ lw_tbl ∧ goodWord (Cond.code yX12_hold cX12_hold 9 (some .int)) = true := ⟨lwt_3 _ (List.mem_of_getElem? (i := 126) rfl), by decide +kernel⟩
set_option maxRecDepth 20000 in
theorem mw_906 : (Cond.methodLink RX12 361 yX11_reduce) ∈ lw_tbl ∧ goodWord (Cond.methodLink RX12 361 yX11_reduce) = true := ⟨lwt_3 _ (List.mem_of_getElem? (i := 131) rfl), by decide +kernel⟩
set_option maxRecDepth 20000 in
theorem mw_904 : (Cond.code yX12_isHand cX12_isHand 1 (some .boolean)) ∈ lw_tbl ∧ goodWord (Cond.code yX12_isHand cX12_isHand 1 (some .boolean)) = true := ⟨lwt_3 _ (List.mem_of_getElem? (i := 129) rfl), by decide +kernel⟩
set_option maxRecDepth 20000 in
theorem mw_903 : (Cond.static yX12_isHand) ∈ lw_tbl ∧ goodWord (Cond.static yX12_isHand) = true := ⟨lwt_3 _ (List.mem_of_getElem? (i := 128) rfl), by decide +kernel⟩
set_option maxRecDepth 20000 in
theorem mw_902 : (Cond.methodLink RX12 352 yX12_isHand) ∈ lw_tbl ∧ goodWord (Cond.methodLink RX12 352 yX12_isHand) = true := ⟨lwt_3 _ (List.mem_of_getElem? (i := 127) rfl), by decide +kernel⟩
set_option maxRecDepth 20000 in
theorem mw_344 : (Cond.fieldLink RX12 368 "ClauseBook$Hand" "below" "J") ∈ lw_tbl ∧ goodWord (Cond.fieldLink RX12 368 "ClauseBook$Hand" "below" "J") = true := ⟨lwt_1 _ (List.mem_of_getElem? (i := 49) rfl), by decide +kernel⟩
set_option maxRecDepth 20000 in
theorem mw_342 : (Cond.fieldLink RX12 365 "ClauseBook$Hand" "above" "J") ∈ lw_tbl ∧ goodWord (Cond.fieldLink RX12 365 "ClauseBook$Hand" "above" "J") = true := ⟨lwt_1 _ (List.mem_of_getElem? (i := 47) rfl), by decide +kernel⟩
set_option maxRecDepth 20000 in
theorem mw_340 : (Cond.fieldLink RX12 360 "ClauseBook$Hand" "number" "I") ∈ lw_tbl ∧ goodWord (Cond.fieldLink RX12 360 "ClauseBook$Hand" "number" "I") = true := ⟨lwt_1 _ (List.mem_of_getElem? (i := 45) rfl), by decide +kernel⟩
set_option maxRecDepth 20000 in
theorem mw_338 : (Cond.fieldLink RX12 359 "ClauseBook$Hand" "sort" "I") ∈ lw_tbl ∧ goodWord (Cond.fieldLink RX12 359 "ClauseBook$Hand" "sort" "I") = true := ⟨lwt_1 _ (List.mem_of_getElem? (i := 43) rfl), by decide +kernel⟩
set_option maxRecDepth 20000 in
theorem mw_905 : (Cond.constantLong RX12 357 (-9223372036854775808)) ∈ lw_tbl ∧ goodWord (Cond.constantLong RX12 357 (-9223372036854775808)) = true := ⟨lwt_3 _ (List.mem_of_getElem? (i := 130) rfl), by decide +kernel⟩
set_option maxRecDepth 20000 in
theorem mw_910 : (Cond.code yX12_asClause cX12_asClause 4 (some .int)) ∈ lw_tbl ∧ goodWord (Cond.code yX12_asClause cX12_asClause 4 (some .int)) = true := ⟨lwt_3 _ (List.mem_of_getElem? (i := 135) rfl), by decide +kernel⟩
set_option maxRecDepth 20000 in
theorem mw_1548 : (Cond.fieldLink RX12 370 "ClauseBook$Kind" "names" "I") ∈ lw_tbl ∧ goodWord (Cond.fieldLink RX12 370 "ClauseBook$Kind" "names" "I") = true := ⟨lwt_6 _ (List.mem_of_getElem? (i := 53) rfl), by decide +kernel⟩
set_option maxRecDepth 20000 in
theorem mw_914 : (Cond.code yX12_asFraction cX12_asFraction 4 (some .long)) ∈ lw_tbl ∧ goodWord (Cond.code yX12_asFraction cX12_asFraction 4 (some .long)) = true := ⟨lwt_3 _ (List.mem_of_getElem? (i := 139) rfl), by decide +kernel⟩
set_option maxRecDepth 20000 in
theorem mw_918 : (Cond.code yX4_fractionFault cX4_fractionFault 1 (some .int)) ∈ lw_tbl ∧ goodWord (Cond.code yX4_fractionFault cX4_fractionFault 1 (some .int)) = true := ⟨lwt_3 _ (List.mem_of_getElem? (i := 143) rfl), by decide +kernel⟩
set_option maxRecDepth 20000 in
theorem mw_917 : (Cond.selects RX4 yX4_fractionFault yX4_fractionFault) ∈ lw_tbl ∧ goodWord (Cond.selects RX4 yX4_fractionFault yX4_fractionFault) = true := ⟨lwt_3 _ (List.mem_of_getElem? (i := 142) rfl), by decide +kernel⟩
set_option maxRecDepth 20000 in
theorem mw_916 : (Cond.instanceMethod yX4_fractionFault) ∈ lw_tbl ∧ goodWord (Cond.instanceMethod yX4_fractionFault) = true := ⟨lwt_3 _ (List.mem_of_getElem? (i := 141) rfl), by decide +kernel⟩
set_option maxRecDepth 20000 in
theorem mw_915 : (Cond.methodLink RX12 373 yX4_fractionFault) ∈ lw_tbl ∧ goodWord (Cond.methodLink RX12 373 yX4_fractionFault) = true := ⟨lwt_3 _ (List.mem_of_getElem? (i := 140) rfl), by decide +kernel⟩
set_option maxRecDepth 20000 in
theorem mw_922 : (Cond.code yX12_compare cX12_compare 8 (some .int)) ∈ lw_tbl ∧ goodWord (Cond.code yX12_compare cX12_compare 8 (some .int)) = true := ⟨lwt_3 _ (List.mem_of_getElem? (i := 147) rfl), by decide +kernel⟩
set_option maxRecDepth 20000 in
theorem mw_926 : (Cond.code yX12_image cX12_image 1 (some .int)) ∈ lw_tbl ∧ goodWord (Cond.code yX12_image cX12_image 1 (some .int)) = true := ⟨lwt_3 _ (List.mem_of_getElem? (i := 151) rfl), by decide +kernel⟩
set_option maxRecDepth 20000 in
theorem mw_934 : (Cond.code yX8_become cX8_become 2 none) ∈ lw_tbl ∧ goodWord (Cond.code yX8_become cX8_become 2 none) = true := ⟨lwt_3 _ (List.mem_of_getElem? (i := 159) rfl), by decide +kernel⟩
set_option maxRecDepth 20000 in
theorem mw_933 : (Cond.selects RX8 yX8_become yX8_become) ∈ lw_tbl ∧ goodWord (Cond.selects RX8 yX8_become yX8_become) = true := ⟨lwt_3 _ (List.mem_of_getElem? (i := 158) rfl), by decide +kernel⟩
set_option maxRecDepth 20000 in
theorem mw_932 : (Cond.instanceMethod yX8_become) ∈ lw_tbl ∧ goodWord (Cond.instanceMethod yX8_become) = true := ⟨lwt_3 _ (List.mem_of_getElem? (i := 157) rfl), by decide +kernel⟩
set_option maxRecDepth 20000 in
theorem mw_931 : (Cond.methodLink RX6 32 yX8_become) ∈ lw_tbl ∧ goodWord (Cond.methodLink RX6 32 yX8_become) = true := ⟨lwt_3 _ (List.mem_of_getElem? (i := 156) rfl), by decide +kernel⟩
set_option maxRecDepth 20000 in
theorem mw_930 : (Cond.code yX6_become cX6_become 3 none) ∈ lw_tbl ∧ goodWord (Cond.code yX6_become cX6_become 3 none) = true := ⟨lwt_3 _ (List.mem_of_getElem? (i := 155) rfl), by decide +kernel⟩
set_option maxRecDepth 20000 in
theorem mw_929 : (Cond.selects RX6 yX6_become yX6_become) ∈ lw_tbl ∧ goodWord (Cond.selects RX6 yX6_become yX6_become) = true := ⟨lwt_3 _ (List.mem_of_getElem? (i := 154) rfl), by decide +kernel⟩
set_option maxRecDepth 20000 in
theorem mw_928 : (Cond.instanceMethod yX6_become) ∈ lw_tbl ∧ goodWord (Cond.instanceMethod yX6_become) = true := ⟨lwt_3 _ (List.mem_of_getElem? (i := 153) rfl), by decide +kernel⟩
set_option maxRecDepth 20000 in
theorem mw_927 : (Cond.methodLink RX12 377 yX6_become) ∈ lw_tbl ∧ goodWord (Cond.methodLink RX12 377 yX6_become) = true := ⟨lwt_3 _ (List.mem_of_getElem? (i := 152) rfl), by decide +kernel⟩
set_option maxRecDepth 20000 in
theorem mw_939 : (Cond.methodLink RX2 81 arraycopyName) ∈ lw_tbl ∧ goodWord (Cond.methodLink RX2 81 arraycopyName) = true := ⟨lwt_3 _ (List.mem_of_getElem? (i := 164) rfl), by decide +kernel⟩
set_option maxRecDepth 20000 in
theorem mw_938 : (Cond.code yX2_become cX2_become 3 none) ∈ lw_tbl ∧ goodWord (Cond.code yX2_become cX2_become 3 none) = true := ⟨lwt_3 _ (List.mem_of_getElem? (i := 163) rfl), by decide +kernel⟩
set_option maxRecDepth 20000 in
theorem mw_937 : (Cond.selects RX2 yX2_become yX2_become) ∈ lw_tbl ∧ goodWord (Cond.selects RX2 yX2_become yX2_become) = true := ⟨lwt_3 _ (List.mem_of_getElem? (i := 162) rfl), by decide +kernel⟩
set_option maxRecDepth 20000 in
theorem mw_936 : (Cond.instanceMethod yX2_become) ∈ lw_tbl ∧ goodWord (Cond.instanceMethod yX2_become) = true := ⟨lwt_3 _ (List.mem_of_getElem? (i := 161) rfl), by decide +kernel⟩
set_option maxRecDepth 20000 in
theorem mw_935 : (Cond.methodLink RX6 36 yX2_become) ∈ lw_tbl ∧ goodWord (Cond.methodLink RX6 36 yX2_become) = true := ⟨lwt_3 _ (List.mem_of_getElem? (i := 160) rfl), by decide +kernel⟩
set_option maxRecDepth 20000 in
theorem mw_944 : (Cond.methodLink RX1 19 arraycopyName) ∈ lw_tbl ∧ goodWord (Cond.methodLink RX1 19 arraycopyName) = true := ⟨lwt_3 _ (List.mem_of_getElem? (i := 169) rfl), by decide +kernel⟩
set_option maxRecDepth 20000 in
theorem mw_943 : (Cond.code yX1_become cX1_become 2 none) ∈ lw_tbl ∧ goodWord (Cond.code yX1_become cX1_become 2 none) = true := ⟨lwt_3 _ (List.mem_of_getElem? (i := 168) rfl), by decide +kernel⟩
set_option maxRecDepth 20000 in
theorem mw_942 : (Cond.selects RX1 yX1_become yX1_become) ∈ lw_tbl ∧ goodWord (Cond.selects RX1 yX1_become yX1_become) = true := ⟨lwt_3 _ (List.mem_of_getElem? (i := 167) rfl), by decide +kernel⟩
set_option maxRecDepth 20000 in
theorem mw_941 : (Cond.instanceMethod yX1_become) ∈ lw_tbl ∧ goodWord (Cond.instanceMethod yX1_become) = true := ⟨lwt_3 _ (List.mem_of_getElem? (i := 166) rfl), by decide +kernel⟩
set_option maxRecDepth 20000 in
theorem mw_940 : (Cond.methodLink RX6 39 yX1_become) ∈ lw_tbl ∧ goodWord (Cond.methodLink RX6 39 yX1_become) = true := ⟨lwt_3 _ (List.mem_of_getElem? (i := 165) rfl), by decide +kernel⟩
set_option maxRecDepth 20000 in
theorem mw_948 : (Cond.code yX12_back cX12_back 1 (some .int)) ∈ lw_tbl ∧ goodWord (Cond.code yX12_back cX12_back 1 (some .int)) = true := ⟨lwt_3 _ (List.mem_of_getElem? (i := 173) rfl), by decide +kernel⟩
set_option maxRecDepth 20000 in
theorem mw_952 : (Cond.code yX12_count cX12_count 2 (some .int)) ∈ lw_tbl ∧ goodWord (Cond.code yX12_count cX12_count 2 (some .int)) = true := ⟨lwt_3 _ (List.mem_of_getElem? (i := 177) rfl), by decide +kernel⟩
set_option maxRecDepth 20000 in
theorem mw_961 : (Cond.code yX12_inBags cX12_inBags 4 (some .int)) ∈ lw_tbl ∧ goodWord (Cond.code yX12_inBags cX12_inBags 4 (some .int)) = true := ⟨lwt_3 _ (List.mem_of_getElem? (i := 186) rfl), by decide +kernel⟩
set_option maxRecDepth 20000 in
theorem mw_15 : (Cond.selects RX12 yX12_inBags yX12_inBags) ∈ lw_tbl ∧ goodWord (Cond.selects RX12 yX12_inBags yX12_inBags) = true := ⟨lwt_s _ (List.mem_of_getElem? (i := 15) rfl), by decide +kernel⟩
set_option maxRecDepth 20000 in
theorem mw_960 : (Cond.instanceMethod yX12_inBags) ∈ lw_tbl ∧ goodWord (Cond.instanceMethod yX12_inBags) = true := ⟨lwt_3 _ (List.mem_of_getElem? (i := 185) rfl), by decide +kernel⟩
set_option maxRecDepth 20000 in
theorem mw_958 : (Cond.methodLink RX12 383 yX12_inBags) ∈ lw_tbl ∧ goodWord (Cond.methodLink RX12 383 yX12_inBags) = true := ⟨lwt_3 _ (List.mem_of_getElem? (i := 183) rfl), by decide +kernel⟩
set_option maxRecDepth 20000 in
theorem mw_957 : (Cond.methodLink RX2 75 yJ6_bitCount_0f7a4) ∈ lw_tbl ∧ goodWord (Cond.methodLink RX2 75 yJ6_bitCount_0f7a4) = true := ⟨lwt_3 _ (List.mem_of_getElem? (i := 182) rfl), by decide +kernel⟩
set_option maxRecDepth 20000 in
theorem mw_956 : (Cond.code yX2_unnamed cX2_unnamed 3 (some .int)) ∈ lw_tbl ∧ goodWord (Cond.code yX2_unnamed cX2_unnamed 3 (some .int)) = true := ⟨lwt_3 _ (List.mem_of_getElem? (i := 181) rfl), by decide +kernel⟩
set_option maxRecDepth 20000 in
theorem mw_955 : (Cond.selects RX2 yX2_unnamed yX2_unnamed) ∈ lw_tbl ∧ goodWord (Cond.selects RX2 yX2_unnamed yX2_unnamed) = true := ⟨lwt_3 _ (List.mem_of_getElem? (i := 180) rfl), by decide +kernel⟩
set_option maxRecDepth 20000 in
theorem mw_954 : (Cond.instanceMethod yX2_unnamed) ∈ lw_tbl ∧ goodWord (Cond.instanceMethod yX2_unnamed) = true := ⟨lwt_3 _ (List.mem_of_getElem? (i := 179) rfl), by decide +kernel⟩
set_option maxRecDepth 20000 in
theorem mw_953 : (Cond.methodLink RX12 380 yX2_unnamed) ∈ lw_tbl ∧ goodWord (Cond.methodLink RX12 380 yX2_unnamed) = true := ⟨lwt_3 _ (List.mem_of_getElem? (i := 178) rfl), by decide +kernel⟩
set_option maxRecDepth 20000 in
theorem mw_1124 : (Cond.code yX13_start cX13_start 4 (some .int)) ∈ lw_tbl ∧ goodWord (Cond.code yX13_start cX13_start 4 (some .int)) = true := ⟨lwt_4 _ (List.mem_of_getElem? (i := 109) rfl), by decide +kernel⟩
set_option maxRecDepth 20000 in
theorem mw_1129 : (Cond.code yX13_in cX13_in 6 (some .boolean)) ∈ lw_tbl ∧ goodWord (Cond.code yX13_in cX13_in 6 (some .boolean)) = true := ⟨lwt_4 _ (List.mem_of_getElem? (i := 114) rfl), by decide +kernel⟩
set_option maxRecDepth 20000 in
theorem mw_66 : (Cond.initialized RX13) ∈ lw_tbl ∧ goodWord (Cond.initialized RX13) = true := ⟨lwt_0 _ (List.mem_of_getElem? (i := 11) rfl), by decide +kernel⟩
set_option maxRecDepth 20000 in
theorem mw_1128 : (Cond.static yX13_in) ∈ lw_tbl ∧ goodWord (Cond.static yX13_in) = true := ⟨lwt_4 _ (List.mem_of_getElem? (i := 113) rfl), by decide +kernel⟩
set_option maxRecDepth 20000 in
theorem mw_1127 : (Cond.methodLink RX13 175 yX13_in) ∈ lw_tbl ∧ goodWord (Cond.methodLink RX13 175 yX13_in) = true := ⟨lwt_4 _ (List.mem_of_getElem? (i := 112) rfl), by decide +kernel⟩
set_option maxRecDepth 20000 in
theorem mw_983 : (Cond.fieldLink RX13 181 "ClauseBookModel" "start" "I") ∈ lw_tbl ∧ goodWord (Cond.fieldLink RX13 181 "ClauseBookModel" "start" "I") = true := ⟨lwt_3 _ (List.mem_of_getElem? (i := 208) rfl), by decide +kernel⟩
set_option maxRecDepth 20000 in
theorem mw_1130 : (Cond.constantLong RX13 179 (9)) ∈ lw_tbl ∧ goodWord (Cond.constantLong RX13 179 (9)) = true := ⟨lwt_4 _ (List.mem_of_getElem? (i := 115) rfl), by decide +kernel⟩
set_option maxRecDepth 20000 in
theorem mw_1126 : (Cond.constantLong RX13 173 (99)) ∈ lw_tbl ∧ goodWord (Cond.constantLong RX13 173 (99)) = true := ⟨lwt_4 _ (List.mem_of_getElem? (i := 111) rfl), by decide +kernel⟩
set_option maxRecDepth 20000 in
theorem mw_1125 : (Cond.constantLong RX13 171 (-99)) ∈ lw_tbl ∧ goodWord (Cond.constantLong RX13 171 (-99)) = true := ⟨lwt_4 _ (List.mem_of_getElem? (i := 110) rfl), by decide +kernel⟩
set_option maxRecDepth 20000 in
theorem mw_1134 : (Cond.code yX13_odds cX13_odds 3 (some .int)) ∈ lw_tbl ∧ goodWord (Cond.code yX13_odds cX13_odds 3 (some .int)) = true := ⟨lwt_4 _ (List.mem_of_getElem? (i := 119) rfl), by decide +kernel⟩
set_option maxRecDepth 20000 in
theorem mw_1135 : (Cond.constantLong RX13 184 (2)) ∈ lw_tbl ∧ goodWord (Cond.constantLong RX13 184 (2)) = true := ⟨lwt_4 _ (List.mem_of_getElem? (i := 120) rfl), by decide +kernel⟩
set_option maxRecDepth 20000 in
theorem mw_1139 : (Cond.code yX13_wait cX13_wait 3 (some .int)) ∈ lw_tbl ∧ goodWord (Cond.code yX13_wait cX13_wait 3 (some .int)) = true := ⟨lwt_4 _ (List.mem_of_getElem? (i := 124) rfl), by decide +kernel⟩
set_option maxRecDepth 20000 in
theorem mw_1143 : (Cond.code yX13_price cX13_price 3 (some .int)) ∈ lw_tbl ∧ goodWord (Cond.code yX13_price cX13_price 3 (some .int)) = true := ⟨lwt_4 _ (List.mem_of_getElem? (i := 128) rfl), by decide +kernel⟩
set_option maxRecDepth 20000 in
theorem mw_1151 : (Cond.code yX13_priceAt cX13_priceAt 3 (some .int)) ∈ lw_tbl ∧ goodWord (Cond.code yX13_priceAt cX13_priceAt 3 (some .int)) = true := ⟨lwt_4 _ (List.mem_of_getElem? (i := 136) rfl), by decide +kernel⟩
set_option maxRecDepth 20000 in
theorem mw_16 : (Cond.selects RX13 yX13_priceAt yX13_priceAt) ∈ lw_tbl ∧ goodWord (Cond.selects RX13 yX13_priceAt yX13_priceAt) = true := ⟨lwt_s _ (List.mem_of_getElem? (i := 16) rfl), by decide +kernel⟩
set_option maxRecDepth 20000 in
theorem mw_1150 : (Cond.instanceMethod yX13_priceAt) ∈ lw_tbl ∧ goodWord (Cond.instanceMethod yX13_priceAt) = true := ⟨lwt_4 _ (List.mem_of_getElem? (i := 135) rfl), by decide +kernel⟩
set_option maxRecDepth 20000 in
theorem mw_1148 : (Cond.methodLink RX13 192 yX13_priceAt) ∈ lw_tbl ∧ goodWord (Cond.methodLink RX13 192 yX13_priceAt) = true := ⟨lwt_4 _ (List.mem_of_getElem? (i := 133) rfl), by decide +kernel⟩
set_option maxRecDepth 20000 in
theorem mw_1147 : (Cond.constantLong RX13 186 (6)) ∈ lw_tbl ∧ goodWord (Cond.constantLong RX13 186 (6)) = true := ⟨lwt_4 _ (List.mem_of_getElem? (i := 132) rfl), by decide +kernel⟩
set_option maxRecDepth 20000 in
theorem mw_1146 : (Cond.code yX13_isSpot cX13_isSpot 2 (some .boolean)) ∈ lw_tbl ∧ goodWord (Cond.code yX13_isSpot cX13_isSpot 2 (some .boolean)) = true := ⟨lwt_4 _ (List.mem_of_getElem? (i := 131) rfl), by decide +kernel⟩
set_option maxRecDepth 20000 in
theorem mw_1145 : (Cond.static yX13_isSpot) ∈ lw_tbl ∧ goodWord (Cond.static yX13_isSpot) = true := ⟨lwt_4 _ (List.mem_of_getElem? (i := 130) rfl), by decide +kernel⟩
set_option maxRecDepth 20000 in
theorem mw_1144 : (Cond.methodLink RX13 188 yX13_isSpot) ∈ lw_tbl ∧ goodWord (Cond.methodLink RX13 188 yX13_isSpot) = true := ⟨lwt_4 _ (List.mem_of_getElem? (i := 129) rfl), by decide +kernel⟩
set_option maxRecDepth 20000 in
theorem mw_1155 : (Cond.code yX13_spotOf cX13_spotOf 3 (some .int)) ∈ lw_tbl ∧ goodWord (Cond.code yX13_spotOf cX13_spotOf 3 (some .int)) = true := ⟨lwt_4 _ (List.mem_of_getElem? (i := 140) rfl), by decide +kernel⟩
set_option maxRecDepth 20000 in
theorem mw_1162 : (Cond.code yX13_spotAt cX13_spotAt 4 (some .int)) ∈ lw_tbl ∧ goodWord (Cond.code yX13_spotAt cX13_spotAt 4 (some .int)) = true := ⟨lwt_4 _ (List.mem_of_getElem? (i := 147) rfl), by decide +kernel⟩
set_option maxRecDepth 20000 in
theorem mw_1161 : (Cond.static yX13_spotAt) ∈ lw_tbl ∧ goodWord (Cond.static yX13_spotAt) = true := ⟨lwt_4 _ (List.mem_of_getElem? (i := 146) rfl), by decide +kernel⟩
set_option maxRecDepth 20000 in
theorem mw_1160 : (Cond.methodLink RX13 202 yX13_spotAt) ∈ lw_tbl ∧ goodWord (Cond.methodLink RX13 202 yX13_spotAt) = true := ⟨lwt_4 _ (List.mem_of_getElem? (i := 145) rfl), by decide +kernel⟩
set_option maxRecDepth 20000 in
theorem mw_1159 : (Cond.constantLong RX13 196 (63)) ∈ lw_tbl ∧ goodWord (Cond.constantLong RX13 196 (63)) = true := ⟨lwt_4 _ (List.mem_of_getElem? (i := 144) rfl), by decide +kernel⟩
set_option maxRecDepth 20000 in
theorem mw_1158 : (Cond.code yX13_isPath cX13_isPath 1 (some .boolean)) ∈ lw_tbl ∧ goodWord (Cond.code yX13_isPath cX13_isPath 1 (some .boolean)) = true := ⟨lwt_4 _ (List.mem_of_getElem? (i := 143) rfl), by decide +kernel⟩
set_option maxRecDepth 20000 in
theorem mw_1157 : (Cond.static yX13_isPath) ∈ lw_tbl ∧ goodWord (Cond.static yX13_isPath) = true := ⟨lwt_4 _ (List.mem_of_getElem? (i := 142) rfl), by decide +kernel⟩
set_option maxRecDepth 20000 in
theorem mw_1156 : (Cond.methodLink RX13 198 yX13_isPath) ∈ lw_tbl ∧ goodWord (Cond.methodLink RX13 198 yX13_isPath) = true := ⟨lwt_4 _ (List.mem_of_getElem? (i := 141) rfl), by decide +kernel⟩
set_option maxRecDepth 20000 in
theorem mw_1166 : (Cond.code yX13_clause cX13_clause 5 (some .int)) ∈ lw_tbl ∧ goodWord (Cond.code yX13_clause cX13_clause 5 (some .int)) = true := ⟨lwt_4 _ (List.mem_of_getElem? (i := 151) rfl), by decide +kernel⟩
set_option maxRecDepth 20000 in
theorem mw_1181 : (Cond.code yX13_comes cX13_comes 5 (some .int)) ∈ lw_tbl ∧ goodWord (Cond.code yX13_comes cX13_comes 5 (some .int)) = true := ⟨lwt_4 _ (List.mem_of_getElem? (i := 166) rfl), by decide +kernel⟩
set_option maxRecDepth 20000 in
theorem mw_17 : (Cond.selects RX13 yX13_comes yX13_comes) ∈ lw_tbl ∧ goodWord (Cond.selects RX13 yX13_comes yX13_comes) = true := ⟨lwt_s _ (List.mem_of_getElem? (i := 17) rfl), by decide +kernel⟩
set_option maxRecDepth 20000 in
theorem mw_1180 : (Cond.instanceMethod yX13_comes) ∈ lw_tbl ∧ goodWord (Cond.instanceMethod yX13_comes) = true := ⟨lwt_4 _ (List.mem_of_getElem? (i := 165) rfl), by decide +kernel⟩
set_option maxRecDepth 20000 in
theorem mw_1178 : (Cond.methodLink RX13 223 yX13_comes) ∈ lw_tbl ∧ goodWord (Cond.methodLink RX13 223 yX13_comes) = true := ⟨lwt_4 _ (List.mem_of_getElem? (i := 163) rfl), by decide +kernel⟩
set_option maxRecDepth 20000 in
theorem mw_1177 : (Cond.code yX13_names cX13_names 1 (some .int)) ∈ lw_tbl ∧ goodWord (Cond.code yX13_names cX13_names 1 (some .int)) = true := ⟨lwt_4 _ (List.mem_of_getElem? (i := 162) rfl), by decide +kernel⟩
set_option maxRecDepth 20000 in
theorem mw_1176 : (Cond.static yX13_names) ∈ lw_tbl ∧ goodWord (Cond.static yX13_names) = true := ⟨lwt_4 _ (List.mem_of_getElem? (i := 161) rfl), by decide +kernel⟩
set_option maxRecDepth 20000 in
theorem mw_1175 : (Cond.methodLink RX13 210 yX13_names) ∈ lw_tbl ∧ goodWord (Cond.methodLink RX13 210 yX13_names) = true := ⟨lwt_4 _ (List.mem_of_getElem? (i := 160) rfl), by decide +kernel⟩
set_option maxRecDepth 20000 in
theorem mw_1174 : (Cond.code yX13_areNamed cX13_areNamed 4 (some .boolean)) ∈ lw_tbl ∧ goodWord (Cond.code yX13_areNamed cX13_areNamed 4 (some .boolean)) = true := ⟨lwt_4 _ (List.mem_of_getElem? (i := 159) rfl), by decide +kernel⟩
set_option maxRecDepth 20000 in
theorem mw_1173 : (Cond.static yX13_areNamed) ∈ lw_tbl ∧ goodWord (Cond.static yX13_areNamed) = true := ⟨lwt_4 _ (List.mem_of_getElem? (i := 158) rfl), by decide +kernel⟩
set_option maxRecDepth 20000 in
theorem mw_1172 : (Cond.methodLink RX13 219 yX13_areNamed) ∈ lw_tbl ∧ goodWord (Cond.methodLink RX13 219 yX13_areNamed) = true := ⟨lwt_4 _ (List.mem_of_getElem? (i := 157) rfl), by decide +kernel⟩
set_option maxRecDepth 20000 in
theorem mw_1171 : (Cond.constantLong RX13 208 (-9)) ∈ lw_tbl ∧ goodWord (Cond.constantLong RX13 208 (-9)) = true := ⟨lwt_4 _ (List.mem_of_getElem? (i := 156) rfl), by decide +kernel⟩
set_option maxRecDepth 20000 in
theorem mw_1170 : (Cond.code yX13_isNumber cX13_isNumber 2 (some .boolean)) ∈ lw_tbl ∧ goodWord (Cond.code yX13_isNumber cX13_isNumber 2 (some .boolean)) = true := ⟨lwt_4 _ (List.mem_of_getElem? (i := 155) rfl), by decide +kernel⟩
set_option maxRecDepth 20000 in
theorem mw_1169 : (Cond.static yX13_isNumber) ∈ lw_tbl ∧ goodWord (Cond.static yX13_isNumber) = true := ⟨lwt_4 _ (List.mem_of_getElem? (i := 154) rfl), by decide +kernel⟩
set_option maxRecDepth 20000 in
theorem mw_1168 : (Cond.methodLink RX13 216 yX13_isNumber) ∈ lw_tbl ∧ goodWord (Cond.methodLink RX13 216 yX13_isNumber) = true := ⟨lwt_4 _ (List.mem_of_getElem? (i := 153) rfl), by decide +kernel⟩
set_option maxRecDepth 20000 in
theorem mw_990 : (Cond.fieldLink RX13 205 "ClauseBookModel" "many" "I") ∈ lw_tbl ∧ goodWord (Cond.fieldLink RX13 205 "ClauseBookModel" "many" "I") = true := ⟨lwt_3 _ (List.mem_of_getElem? (i := 215) rfl), by decide +kernel⟩
set_option maxRecDepth 20000 in
theorem mw_1167 : (Cond.constantLong RX13 214 (12)) ∈ lw_tbl ∧ goodWord (Cond.constantLong RX13 214 (12)) = true := ⟨lwt_4 _ (List.mem_of_getElem? (i := 152) rfl), by decide +kernel⟩
set_option maxRecDepth 20000 in
theorem mw_1185 : (Cond.code yX13_clauseOf cX13_clauseOf 3 (some .int)) ∈ lw_tbl ∧ goodWord (Cond.code yX13_clauseOf cX13_clauseOf 3 (some .int)) = true := ⟨lwt_4 _ (List.mem_of_getElem? (i := 170) rfl), by decide +kernel⟩
set_option maxRecDepth 20000 in
theorem mw_1194 : (Cond.methodLink RX13 227 Lib.Math.max.name) ∈ lw_tbl ∧ goodWord (Cond.methodLink RX13 227 Lib.Math.max.name) = true := ⟨lwt_4 _ (List.mem_of_getElem? (i := 179) rfl), by decide +kernel⟩
set_option maxRecDepth 20000 in
theorem mw_1193 : (Cond.code yX13_laysParts cX13_laysParts 5 none) ∈ lw_tbl ∧ goodWord (Cond.code yX13_laysParts cX13_laysParts 5 none) = true := ⟨lwt_4 _ (List.mem_of_getElem? (i := 178) rfl), by decide +kernel⟩
set_option maxRecDepth 20000 in
theorem mw_19 : (Cond.selects RX13 yX13_laysParts yX13_laysParts) ∈ lw_tbl ∧ goodWord (Cond.selects RX13 yX13_laysParts yX13_laysParts) = true := ⟨lwt_s _ (List.mem_of_getElem? (i := 19) rfl), by decide +kernel⟩
set_option maxRecDepth 20000 in
theorem mw_1192 : (Cond.instanceMethod yX13_laysParts) ∈ lw_tbl ∧ goodWord (Cond.instanceMethod yX13_laysParts) = true := ⟨lwt_4 _ (List.mem_of_getElem? (i := 177) rfl), by decide +kernel⟩
set_option maxRecDepth 20000 in
theorem mw_1190 : (Cond.methodLink RX13 236 yX13_laysParts) ∈ lw_tbl ∧ goodWord (Cond.methodLink RX13 236 yX13_laysParts) = true := ⟨lwt_4 _ (List.mem_of_getElem? (i := 175) rfl), by decide +kernel⟩
set_option maxRecDepth 20000 in
theorem mw_1189 : (Cond.code yX13_isClause cX13_isClause 2 (some .boolean)) ∈ lw_tbl ∧ goodWord (Cond.code yX13_isClause cX13_isClause 2 (some .boolean)) = true := ⟨lwt_4 _ (List.mem_of_getElem? (i := 174) rfl), by decide +kernel⟩
set_option maxRecDepth 20000 in
theorem mw_18 : (Cond.selects RX13 yX13_isClause yX13_isClause) ∈ lw_tbl ∧ goodWord (Cond.selects RX13 yX13_isClause yX13_isClause) = true := ⟨lwt_s _ (List.mem_of_getElem? (i := 18) rfl), by decide +kernel⟩
set_option maxRecDepth 20000 in
theorem mw_1188 : (Cond.instanceMethod yX13_isClause) ∈ lw_tbl ∧ goodWord (Cond.instanceMethod yX13_isClause) = true := ⟨lwt_4 _ (List.mem_of_getElem? (i := 173) rfl), by decide +kernel⟩
set_option maxRecDepth 20000 in
theorem mw_1186 : (Cond.methodLink RX13 233 yX13_isClause) ∈ lw_tbl ∧ goodWord (Cond.methodLink RX13 233 yX13_isClause) = true := ⟨lwt_4 _ (List.mem_of_getElem? (i := 171) rfl), by decide +kernel⟩
set_option maxRecDepth 20000 in
theorem mw_1195 : (Cond.methodLink RX13 230 Lib.Math.min.name) ∈ lw_tbl ∧ goodWord (Cond.methodLink RX13 230 Lib.Math.min.name) = true := ⟨lwt_4 _ (List.mem_of_getElem? (i := 180) rfl), by decide +kernel⟩
set_option maxRecDepth 20000 in
theorem mw_1199 : (Cond.code yX13_drop cX13_drop 1 (some .int)) ∈ lw_tbl ∧ goodWord (Cond.code yX13_drop cX13_drop 1 (some .int)) = true := ⟨lwt_4 _ (List.mem_of_getElem? (i := 184) rfl), by decide +kernel⟩
set_option maxRecDepth 20000 in
theorem mw_1203 : (Cond.code yX13_swap cX13_swap 4 (some .int)) ∈ lw_tbl ∧ goodWord (Cond.code yX13_swap cX13_swap 4 (some .int)) = true := ⟨lwt_4 _ (List.mem_of_getElem? (i := 188) rfl), by decide +kernel⟩
set_option maxRecDepth 20000 in
theorem mw_1207 : (Cond.code yX13_value cX13_value 6 (some .long)) ∈ lw_tbl ∧ goodWord (Cond.code yX13_value cX13_value 6 (some .long)) = true := ⟨lwt_4 _ (List.mem_of_getElem? (i := 192) rfl), by decide +kernel⟩
set_option maxRecDepth 20000 in
theorem mw_1215 : (Cond.code yX13_laysWorths cX13_laysWorths 6 none) ∈ lw_tbl ∧ goodWord (Cond.code yX13_laysWorths cX13_laysWorths 6 none) = true := ⟨lwt_4 _ (List.mem_of_getElem? (i := 200) rfl), by decide +kernel⟩
set_option maxRecDepth 20000 in
theorem mw_20 : (Cond.selects RX13 yX13_laysWorths yX13_laysWorths) ∈ lw_tbl ∧ goodWord (Cond.selects RX13 yX13_laysWorths yX13_laysWorths) = true := ⟨lwt_s _ (List.mem_of_getElem? (i := 20) rfl), by decide +kernel⟩
set_option maxRecDepth 20000 in
theorem mw_1214 : (Cond.instanceMethod yX13_laysWorths) ∈ lw_tbl ∧ goodWord (Cond.instanceMethod yX13_laysWorths) = true := ⟨lwt_4 _ (List.mem_of_getElem? (i := 199) rfl), by decide +kernel⟩
set_option maxRecDepth 20000 in
theorem mw_1212 : (Cond.methodLink RX13 274 yX13_laysWorths) ∈ lw_tbl ∧ goodWord (Cond.methodLink RX13 274 yX13_laysWorths) = true := ⟨lwt_4 _ (List.mem_of_getElem? (i := 197) rfl), by decide +kernel⟩
set_option maxRecDepth 20000 in
theorem mw_1211 : (Cond.constantLong RX13 129 (-4611686018427387904)) ∈ lw_tbl ∧ goodWord (Cond.constantLong RX13 129 (-4611686018427387904)) = true := ⟨lwt_4 _ (List.mem_of_getElem? (i := 196) rfl), by decide +kernel⟩
set_option maxRecDepth 20000 in
theorem mw_1210 : (Cond.code yX13_refused cX13_refused 1 (some .long)) ∈ lw_tbl ∧ goodWord (Cond.code yX13_refused cX13_refused 1 (some .long)) = true := ⟨lwt_4 _ (List.mem_of_getElem? (i := 195) rfl), by decide +kernel⟩
set_option maxRecDepth 20000 in
theorem mw_1209 : (Cond.static yX13_refused) ∈ lw_tbl ∧ goodWord (Cond.static yX13_refused) = true := ⟨lwt_4 _ (List.mem_of_getElem? (i := 194) rfl), by decide +kernel⟩
set_option maxRecDepth 20000 in
theorem mw_1208 : (Cond.methodLink RX13 270 yX13_refused) ∈ lw_tbl ∧ goodWord (Cond.methodLink RX13 270 yX13_refused) = true := ⟨lwt_4 _ (List.mem_of_getElem? (i := 193) rfl), by decide +kernel⟩
set_option maxRecDepth 20000 in
theorem mw_999 : (Cond.fieldLink RX13 149 "ClauseBookModel" "below" "J") ∈ lw_tbl ∧ goodWord (Cond.fieldLink RX13 149 "ClauseBookModel" "below" "J") = true := ⟨lwt_3 _ (List.mem_of_getElem? (i := 224) rfl), by decide +kernel⟩
set_option maxRecDepth 20000 in
theorem mw_998 : (Cond.fieldLink RX13 145 "ClauseBookModel" "above" "J") ∈ lw_tbl ∧ goodWord (Cond.fieldLink RX13 145 "ClauseBookModel" "above" "J") = true := ⟨lwt_3 _ (List.mem_of_getElem? (i := 223) rfl), by decide +kernel⟩
set_option maxRecDepth 20000 in
theorem mw_997 : (Cond.fieldLink RX13 131 "ClauseBookModel" "isMuch" "Z") ∈ lw_tbl ∧ goodWord (Cond.fieldLink RX13 131 "ClauseBookModel" "isMuch" "Z") = true := ⟨lwt_3 _ (List.mem_of_getElem? (i := 222) rfl), by decide +kernel⟩
set_option maxRecDepth 20000 in
theorem mw_1239 : (Cond.methodLink RX13 152 yX13_times) ∈ lw_tbl ∧ goodWord (Cond.methodLink RX13 152 yX13_times) = true := ⟨lwt_4 _ (List.mem_of_getElem? (i := 224) rfl), by decide +kernel⟩
set_option maxRecDepth 20000 in
theorem mw_1238 : (Cond.code yX13_multiplies cX13_multiplies 13 none) ∈ lw_tbl ∧ goodWord (Cond.code yX13_multiplies cX13_multiplies 13 none) = true := ⟨lwt_4 _ (List.mem_of_getElem? (i := 223) rfl), by decide +kernel⟩
set_option maxRecDepth 20000 in
theorem mw_24 : (Cond.selects RX13 yX13_multiplies yX13_multiplies) ∈ lw_tbl ∧ goodWord (Cond.selects RX13 yX13_multiplies yX13_multiplies) = true := ⟨lwt_s _ (List.mem_of_getElem? (i := 24) rfl), by decide +kernel⟩
set_option maxRecDepth 20000 in
theorem mw_1237 : (Cond.instanceMethod yX13_multiplies) ∈ lw_tbl ∧ goodWord (Cond.instanceMethod yX13_multiplies) = true := ⟨lwt_4 _ (List.mem_of_getElem? (i := 222) rfl), by decide +kernel⟩
set_option maxRecDepth 20000 in
theorem mw_1235 : (Cond.methodLink RX13 247 yX13_multiplies) ∈ lw_tbl ∧ goodWord (Cond.methodLink RX13 247 yX13_multiplies) = true := ⟨lwt_4 _ (List.mem_of_getElem? (i := 220) rfl), by decide +kernel⟩
set_option maxRecDepth 20000 in
theorem mw_1233 : (Cond.code yX13_at cX13_at 3 (some .int)) ∈ lw_tbl ∧ goodWord (Cond.code yX13_at cX13_at 3 (some .int)) = true := ⟨lwt_4 _ (List.mem_of_getElem? (i := 218) rfl), by decide +kernel⟩
set_option maxRecDepth 20000 in
theorem mw_1232 : (Cond.static yX13_at) ∈ lw_tbl ∧ goodWord (Cond.static yX13_at) = true := ⟨lwt_4 _ (List.mem_of_getElem? (i := 217) rfl), by decide +kernel⟩
set_option maxRecDepth 20000 in
theorem mw_1231 : (Cond.methodLink RX13 239 yX13_at) ∈ lw_tbl ∧ goodWord (Cond.methodLink RX13 239 yX13_at) = true := ⟨lwt_4 _ (List.mem_of_getElem? (i := 216) rfl), by decide +kernel⟩
set_option maxRecDepth 20000 in
theorem mw_1230 : (Cond.code yX13_takes cX13_takes 5 none) ∈ lw_tbl ∧ goodWord (Cond.code yX13_takes cX13_takes 5 none) = true := ⟨lwt_4 _ (List.mem_of_getElem? (i := 215) rfl), by decide +kernel⟩
set_option maxRecDepth 20000 in
theorem mw_23 : (Cond.selects RX13 yX13_takes yX13_takes) ∈ lw_tbl ∧ goodWord (Cond.selects RX13 yX13_takes yX13_takes) = true := ⟨lwt_s _ (List.mem_of_getElem? (i := 23) rfl), by decide +kernel⟩
set_option maxRecDepth 20000 in
theorem mw_1229 : (Cond.instanceMethod yX13_takes) ∈ lw_tbl ∧ goodWord (Cond.instanceMethod yX13_takes) = true := ⟨lwt_4 _ (List.mem_of_getElem? (i := 214) rfl), by decide +kernel⟩
set_option maxRecDepth 20000 in
theorem mw_1227 : (Cond.methodLink RX13 243 yX13_takes) ∈ lw_tbl ∧ goodWord (Cond.methodLink RX13 243 yX13_takes) = true := ⟨lwt_4 _ (List.mem_of_getElem? (i := 212) rfl), by decide +kernel⟩
set_option maxRecDepth 20000 in
theorem mw_1234 : (Cond.constantLong RX13 135 (-1)) ∈ lw_tbl ∧ goodWord (Cond.constantLong RX13 135 (-1)) = true := ⟨lwt_4 _ (List.mem_of_getElem? (i := 219) rfl), by decide +kernel⟩
set_option maxRecDepth 20000 in
theorem mw_1226 : (Cond.code yX13_lays cX13_lays 10 none) ∈ lw_tbl ∧ goodWord (Cond.code yX13_lays cX13_lays 10 none) = true := ⟨lwt_4 _ (List.mem_of_getElem? (i := 211) rfl), by decide +kernel⟩
set_option maxRecDepth 20000 in
theorem mw_22 : (Cond.selects RX13 yX13_lays yX13_lays) ∈ lw_tbl ∧ goodWord (Cond.selects RX13 yX13_lays yX13_lays) = true := ⟨lwt_s _ (List.mem_of_getElem? (i := 22) rfl), by decide +kernel⟩
set_option maxRecDepth 20000 in
theorem mw_1225 : (Cond.instanceMethod yX13_lays) ∈ lw_tbl ∧ goodWord (Cond.instanceMethod yX13_lays) = true := ⟨lwt_4 _ (List.mem_of_getElem? (i := 210) rfl), by decide +kernel⟩
set_option maxRecDepth 20000 in
theorem mw_1223 : (Cond.methodLink RX13 267 yX13_lays) ∈ lw_tbl ∧ goodWord (Cond.methodLink RX13 267 yX13_lays) = true := ⟨lwt_4 _ (List.mem_of_getElem? (i := 208) rfl), by decide +kernel⟩
set_option maxRecDepth 20000 in
theorem mw_1222 : (Cond.code yX13_divisor cX13_divisor 10 (some .long)) ∈ lw_tbl ∧ goodWord (Cond.code yX13_divisor cX13_divisor 10 (some .long)) = true := ⟨lwt_4 _ (List.mem_of_getElem? (i := 207) rfl), by decide +kernel⟩
set_option maxRecDepth 20000 in
theorem mw_1221 : (Cond.static yX13_divisor) ∈ lw_tbl ∧ goodWord (Cond.static yX13_divisor) = true := ⟨lwt_4 _ (List.mem_of_getElem? (i := 206) rfl), by decide +kernel⟩
