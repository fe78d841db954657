set_option maxRecDepth 20000 in
theorem mw_713 : (Cond.code yX10_append cX10_append 2 none) ∈ lw_tbl ∧ goodWord (Cond.code yX10_append cX10_append 2 none) = true := ⟨lwt_2 _ (List.mem_of_getElem? (i := 178) rfl), by decide +kernel⟩
set_option maxRecDepth 20000 in
theorem mw_712 : (Cond.selects RX10 yX10_append yX10_append) ∈ lw_tbl ∧ goodWord (Cond.selects RX10 yX10_append yX10_append) = true := ⟨lwt_2 _ (List.mem_of_getElem? (i := 177) rfl), by decide +kernel⟩
set_option maxRecDepth 20000 in
theorem mw_711 : (Cond.instanceMethod yX10_append) ∈ lw_tbl ∧ goodWord (Cond.instanceMethod yX10_append) = true := ⟨lwt_2 _ (List.mem_of_getElem? (i := 176) rfl), by decide +kernel⟩
set_option maxRecDepth 20000 in
theorem mw_710 : (Cond.methodLink RX12 286 yX10_append) ∈ lw_tbl ∧ goodWord (Cond.methodLink RX12 286 yX10_append) = true := ⟨lwt_2 _ (List.mem_of_getElem? (i := 175) rfl), by decide +kernel⟩
set_option maxRecDepth 20000 in
theorem mw_277 : (Cond.fieldLink RX12 285 "ClauseBook$Tape" "size" "I") ∈ lw_tbl ∧ goodWord (Cond.fieldLink RX12 285 "ClauseBook$Tape" "size" "I") = true := ⟨lwt_0 _ (List.mem_of_getElem? (i := 222) rfl), by decide +kernel⟩
set_option maxRecDepth 20000 in
theorem mw_717 : (Cond.code yX12_text cX12_text 2 (some .int)) ∈ lw_tbl ∧ goodWord (Cond.code yX12_text cX12_text 2 (some .int)) = true := ⟨lwt_2 _ (List.mem_of_getElem? (i := 182) rfl), by decide +kernel⟩
set_option maxRecDepth 20000 in
theorem mw_728 : (Cond.methodLink RX10 86 Lib.Math.min.name) ∈ lw_tbl ∧ goodWord (Cond.methodLink RX10 86 Lib.Math.min.name) = true := ⟨lwt_2 _ (List.mem_of_getElem? (i := 193) rfl), by decide +kernel⟩
set_option maxRecDepth 20000 in
theorem mw_726 : (Cond.code yX10_numberEnd cX10_numberEnd 4 (some .int)) ∈ lw_tbl ∧ goodWord (Cond.code yX10_numberEnd cX10_numberEnd 4 (some .int)) = true := ⟨lwt_2 _ (List.mem_of_getElem? (i := 191) rfl), by decide +kernel⟩
set_option maxRecDepth 20000 in
theorem mw_10 : (Cond.selects RX10 yX10_numberEnd yX10_numberEnd) ∈ lw_tbl ∧ goodWord (Cond.selects RX10 yX10_numberEnd yX10_numberEnd) = true := ⟨lwt_s _ (List.mem_of_getElem? (i := 10) rfl), by decide +kernel⟩
set_option maxRecDepth 20000 in
theorem mw_725 : (Cond.instanceMethod yX10_numberEnd) ∈ lw_tbl ∧ goodWord (Cond.instanceMethod yX10_numberEnd) = true := ⟨lwt_2 _ (List.mem_of_getElem? (i := 190) rfl), by decide +kernel⟩
set_option maxRecDepth 20000 in
theorem mw_723 : (Cond.methodLink RX10 40 yX10_numberEnd) ∈ lw_tbl ∧ goodWord (Cond.methodLink RX10 40 yX10_numberEnd) = true := ⟨lwt_2 _ (List.mem_of_getElem? (i := 188) rfl), by decide +kernel⟩
set_option maxRecDepth 20000 in
theorem mw_1544 : (Cond.fieldLink RX10 61 "ClauseBook$Kind" "names" "I") ∈ lw_tbl ∧ goodWord (Cond.fieldLink RX10 61 "ClauseBook$Kind" "names" "I") = true := ⟨lwt_6 _ (List.mem_of_getElem? (i := 49) rfl), by decide +kernel⟩
set_option maxRecDepth 20000 in
theorem mw_1540 : (Cond.fieldLink RX10 47 "ClauseBook$Kind" "most" "I") ∈ lw_tbl ∧ goodWord (Cond.fieldLink RX10 47 "ClauseBook$Kind" "most" "I") = true := ⟨lwt_6 _ (List.mem_of_getElem? (i := 45) rfl), by decide +kernel⟩
set_option maxRecDepth 20000 in
theorem mw_1539 : (Cond.fieldLink RX10 44 "ClauseBook$Kind" "least" "I") ∈ lw_tbl ∧ goodWord (Cond.fieldLink RX10 44 "ClauseBook$Kind" "least" "I") = true := ⟨lwt_6 _ (List.mem_of_getElem? (i := 44) rfl), by decide +kernel⟩
set_option maxRecDepth 20000 in
theorem mw_721 : (Cond.code yX10_scan cX10_scan 9 (some .int)) ∈ lw_tbl ∧ goodWord (Cond.code yX10_scan cX10_scan 9 (some .int)) = true := ⟨lwt_2 _ (List.mem_of_getElem? (i := 186) rfl), by decide +kernel⟩
set_option maxRecDepth 20000 in
theorem mw_720 : (Cond.selects RX10 yX10_scan yX10_scan) ∈ lw_tbl ∧ goodWord (Cond.selects RX10 yX10_scan yX10_scan) = true := ⟨lwt_2 _ (List.mem_of_getElem? (i := 185) rfl), by decide +kernel⟩
set_option maxRecDepth 20000 in
theorem mw_719 : (Cond.instanceMethod yX10_scan) ∈ lw_tbl ∧ goodWord (Cond.instanceMethod yX10_scan) = true := ⟨lwt_2 _ (List.mem_of_getElem? (i := 184) rfl), by decide +kernel⟩
set_option maxRecDepth 20000 in
theorem mw_718 : (Cond.methodLink RX12 289 yX10_scan) ∈ lw_tbl ∧ goodWord (Cond.methodLink RX12 289 yX10_scan) = true := ⟨lwt_2 _ (List.mem_of_getElem? (i := 183) rfl), by decide +kernel⟩
set_option maxRecDepth 20000 in
theorem mw_283 : (Cond.fieldLink RX12 293 "ClauseBook$Tape" "next" "I") ∈ lw_tbl ∧ goodWord (Cond.fieldLink RX12 293 "ClauseBook$Tape" "next" "I") = true := ⟨lwt_0 _ (List.mem_of_getElem? (i := 228) rfl), by decide +kernel⟩
set_option maxRecDepth 20000 in
theorem mw_744 : (Cond.code yJ0_length_8abf5 cJ0_length_8abf5 1 (some .int)) ∈ lw_tbl ∧ goodWord (Cond.code yJ0_length_8abf5 cJ0_length_8abf5 1 (some .int)) = true := ⟨lwt_2 _ (List.mem_of_getElem? (i := 209) rfl), by decide +kernel⟩
set_option maxRecDepth 20000 in
theorem mw_75 : (Cond.initialized RJ0) ∈ lw_tbl ∧ goodWord (Cond.initialized RJ0) = true := ⟨lwt_0 _ (List.mem_of_getElem? (i := 20) rfl), by decide +kernel⟩
set_option maxRecDepth 20000 in
theorem mw_743 : (Cond.selects RJ0 yJ0_length_8abf5 yJ0_length_8abf5) ∈ lw_tbl ∧ goodWord (Cond.selects RJ0 yJ0_length_8abf5 yJ0_length_8abf5) = true := ⟨lwt_2 _ (List.mem_of_getElem? (i := 208) rfl), by decide +kernel⟩
set_option maxRecDepth 20000 in
theorem mw_742 : (Cond.instanceMethod yJ0_length_8abf5) ∈ lw_tbl ∧ goodWord (Cond.instanceMethod yJ0_length_8abf5) = true := ⟨lwt_2 _ (List.mem_of_getElem? (i := 207) rfl), by decide +kernel⟩
set_option maxRecDepth 20000 in
theorem mw_741 : (Cond.methodLink RX10 76 yJ0_length_8abf5) ∈ lw_tbl ∧ goodWord (Cond.methodLink RX10 76 yJ0_length_8abf5) = true := ⟨lwt_2 _ (List.mem_of_getElem? (i := 206) rfl), by decide +kernel⟩
set_option maxRecDepth 20000 in
theorem mw_740 : (Cond.code yX10_isWord cX10_isWord 5 (some .boolean)) ∈ lw_tbl ∧ goodWord (Cond.code yX10_isWord cX10_isWord 5 (some .boolean)) = true := ⟨lwt_2 _ (List.mem_of_getElem? (i := 205) rfl), by decide +kernel⟩
set_option maxRecDepth 20000 in
theorem mw_13 : (Cond.selects RX10 yX10_isWord yX10_isWord) ∈ lw_tbl ∧ goodWord (Cond.selects RX10 yX10_isWord yX10_isWord) = true := ⟨lwt_s _ (List.mem_of_getElem? (i := 13) rfl), by decide +kernel⟩
set_option maxRecDepth 20000 in
theorem mw_739 : (Cond.instanceMethod yX10_isWord) ∈ lw_tbl ∧ goodWord (Cond.instanceMethod yX10_isWord) = true := ⟨lwt_2 _ (List.mem_of_getElem? (i := 204) rfl), by decide +kernel⟩
set_option maxRecDepth 20000 in
theorem mw_737 : (Cond.methodLink RX10 72 yX10_isWord) ∈ lw_tbl ∧ goodWord (Cond.methodLink RX10 72 yX10_isWord) = true := ⟨lwt_2 _ (List.mem_of_getElem? (i := 202) rfl), by decide +kernel⟩
set_option maxRecDepth 20000 in
theorem mw_1541 : (Cond.fieldLink RX10 68 "ClauseBook$Kind" "word" "Ljava/lang/String;") ∈ lw_tbl ∧ goodWord (Cond.fieldLink RX10 68 "ClauseBook$Kind" "word" "Ljava/lang/String;") = true := ⟨lwt_6 _ (List.mem_of_getElem? (i := 46) rfl), by decide +kernel⟩
set_option maxRecDepth 20000 in
theorem mw_736 : (Cond.code yX10_kindAt cX10_kindAt 4 (some .int)) ∈ lw_tbl ∧ goodWord (Cond.code yX10_kindAt cX10_kindAt 4 (some .int)) = true := ⟨lwt_2 _ (List.mem_of_getElem? (i := 201) rfl), by decide +kernel⟩
set_option maxRecDepth 20000 in
theorem mw_12 : (Cond.selects RX10 yX10_kindAt yX10_kindAt) ∈ lw_tbl ∧ goodWord (Cond.selects RX10 yX10_kindAt yX10_kindAt) = true := ⟨lwt_s _ (List.mem_of_getElem? (i := 12) rfl), by decide +kernel⟩
set_option maxRecDepth 20000 in
theorem mw_735 : (Cond.instanceMethod yX10_kindAt) ∈ lw_tbl ∧ goodWord (Cond.instanceMethod yX10_kindAt) = true := ⟨lwt_2 _ (List.mem_of_getElem? (i := 200) rfl), by decide +kernel⟩
set_option maxRecDepth 20000 in
theorem mw_733 : (Cond.methodLink RX10 57 yX10_kindAt) ∈ lw_tbl ∧ goodWord (Cond.methodLink RX10 57 yX10_kindAt) = true := ⟨lwt_2 _ (List.mem_of_getElem? (i := 198) rfl), by decide +kernel⟩
set_option maxRecDepth 20000 in
theorem mw_732 : (Cond.code yX10_wordEnd cX10_wordEnd 3 (some .int)) ∈ lw_tbl ∧ goodWord (Cond.code yX10_wordEnd cX10_wordEnd 3 (some .int)) = true := ⟨lwt_2 _ (List.mem_of_getElem? (i := 197) rfl), by decide +kernel⟩
set_option maxRecDepth 20000 in
theorem mw_11 : (Cond.selects RX10 yX10_wordEnd yX10_wordEnd) ∈ lw_tbl ∧ goodWord (Cond.selects RX10 yX10_wordEnd yX10_wordEnd) = true := ⟨lwt_s _ (List.mem_of_getElem? (i := 11) rfl), by decide +kernel⟩
set_option maxRecDepth 20000 in
theorem mw_731 : (Cond.instanceMethod yX10_wordEnd) ∈ lw_tbl ∧ goodWord (Cond.instanceMethod yX10_wordEnd) = true := ⟨lwt_2 _ (List.mem_of_getElem? (i := 196) rfl), by decide +kernel⟩
set_option maxRecDepth 20000 in
theorem mw_729 : (Cond.methodLink RX10 54 yX10_wordEnd) ∈ lw_tbl ∧ goodWord (Cond.methodLink RX10 54 yX10_wordEnd) = true := ⟨lwt_2 _ (List.mem_of_getElem? (i := 194) rfl), by decide +kernel⟩
set_option maxRecDepth 20000 in
theorem mw_767 : (Cond.methodLink RJ0 1059 yJ3_checkIndex_8e157) ∈ lw_tbl ∧ goodWord (Cond.methodLink RJ0 1059 yJ3_checkIndex_8e157) = true := ⟨lwt_2 _ (List.mem_of_getElem? (i := 232) rfl), by decide +kernel⟩
set_option maxRecDepth 20000 in
theorem mw_765 : (Cond.fieldLink RJ0 1053 "jdk/internal/util/Preconditions" "SIOOBE_FORMATTER" "Ljava/util/function/BiFunction;") ∈ lw_tbl ∧ goodWord (Cond.fieldLink RJ0 1053 "jdk/internal/util/Preconditions" "SIOOBE_FORMATTER" "Ljava/util/function/BiFunction;") = true := ⟨lwt_2 _ (List.mem_of_getElem? (i := 230) rfl), by decide +kernel⟩
set_option maxRecDepth 20000 in
theorem mw_764 : (Cond.code yJ0_checkIndex_df160 cJ0_checkIndex_df160 2 none) ∈ lw_tbl ∧ goodWord (Cond.code yJ0_checkIndex_df160 cJ0_checkIndex_df160 2 none) = true := ⟨lwt_2 _ (List.mem_of_getElem? (i := 229) rfl), by decide +kernel⟩
set_option maxRecDepth 20000 in
theorem mw_763 : (Cond.static yJ0_checkIndex_df160) ∈ lw_tbl ∧ goodWord (Cond.static yJ0_checkIndex_df160) = true := ⟨lwt_2 _ (List.mem_of_getElem? (i := 228) rfl), by decide +kernel⟩
set_option maxRecDepth 20000 in
theorem mw_762 : (Cond.methodLink RJ1 9 yJ0_checkIndex_df160) ∈ lw_tbl ∧ goodWord (Cond.methodLink RJ1 9 yJ0_checkIndex_df160) = true := ⟨lwt_2 _ (List.mem_of_getElem? (i := 227) rfl), by decide +kernel⟩
set_option maxRecDepth 20000 in
theorem mw_761 : (Cond.code yJ1_charAt_3b067 cJ1_charAt_3b067 2 (some .char)) ∈ lw_tbl ∧ goodWord (Cond.code yJ1_charAt_3b067 cJ1_charAt_3b067 2 (some .char)) = true := ⟨lwt_2 _ (List.mem_of_getElem? (i := 226) rfl), by decide +kernel⟩
set_option maxRecDepth 20000 in
theorem mw_76 : (Cond.initialized RJ1) ∈ lw_tbl ∧ goodWord (Cond.initialized RJ1) = true := ⟨lwt_0 _ (List.mem_of_getElem? (i := 21) rfl), by decide +kernel⟩
set_option maxRecDepth 20000 in
theorem mw_760 : (Cond.static yJ1_charAt_3b067) ∈ lw_tbl ∧ goodWord (Cond.static yJ1_charAt_3b067) = true := ⟨lwt_2 _ (List.mem_of_getElem? (i := 225) rfl), by decide +kernel⟩
set_option maxRecDepth 20000 in
theorem mw_759 : (Cond.methodLink RJ0 495 yJ1_charAt_3b067) ∈ lw_tbl ∧ goodWord (Cond.methodLink RJ0 495 yJ1_charAt_3b067) = true := ⟨lwt_2 _ (List.mem_of_getElem? (i := 224) rfl), by decide +kernel⟩
set_option maxRecDepth 20000 in
theorem mw_758 : (Cond.code yJ0_isLatin1_aae02 cJ0_isLatin1_aae02 1 (some .boolean)) ∈ lw_tbl ∧ goodWord (Cond.code yJ0_isLatin1_aae02 cJ0_isLatin1_aae02 1 (some .boolean)) = true := ⟨lwt_2 _ (List.mem_of_getElem? (i := 223) rfl), by decide +kernel⟩
set_option maxRecDepth 20000 in
theorem mw_757 : (Cond.selects RJ0 yJ0_isLatin1_aae02 yJ0_isLatin1_aae02) ∈ lw_tbl ∧ goodWord (Cond.selects RJ0 yJ0_isLatin1_aae02 yJ0_isLatin1_aae02) = true := ⟨lwt_2 _ (List.mem_of_getElem? (i := 222) rfl), by decide +kernel⟩
set_option maxRecDepth 20000 in
theorem mw_756 : (Cond.instanceMethod yJ0_isLatin1_aae02) ∈ lw_tbl ∧ goodWord (Cond.instanceMethod yJ0_isLatin1_aae02) = true := ⟨lwt_2 _ (List.mem_of_getElem? (i := 221) rfl), by decide +kernel⟩
set_option maxRecDepth 20000 in
theorem mw_755 : (Cond.methodLink RJ0 492 yJ0_isLatin1_aae02) ∈ lw_tbl ∧ goodWord (Cond.methodLink RJ0 492 yJ0_isLatin1_aae02) = true := ⟨lwt_2 _ (List.mem_of_getElem? (i := 220) rfl), by decide +kernel⟩
set_option maxRecDepth 20000 in
theorem mw_754 : (Cond.code yJ0_charAt_5068e cJ0_charAt_5068e 2 (some .char)) ∈ lw_tbl ∧ goodWord (Cond.code yJ0_charAt_5068e cJ0_charAt_5068e 2 (some .char)) = true := ⟨lwt_2 _ (List.mem_of_getElem? (i := 219) rfl), by decide +kernel⟩
set_option maxRecDepth 20000 in
theorem mw_753 : (Cond.selects RJ0 yJ0_charAt_5068e yJ0_charAt_5068e) ∈ lw_tbl ∧ goodWord (Cond.selects RJ0 yJ0_charAt_5068e yJ0_charAt_5068e) = true := ⟨lwt_2 _ (List.mem_of_getElem? (i := 218) rfl), by decide +kernel⟩
set_option maxRecDepth 20000 in
theorem mw_752 : (Cond.instanceMethod yJ0_charAt_5068e) ∈ lw_tbl ∧ goodWord (Cond.instanceMethod yJ0_charAt_5068e) = true := ⟨lwt_2 _ (List.mem_of_getElem? (i := 217) rfl), by decide +kernel⟩
set_option maxRecDepth 20000 in
theorem mw_751 : (Cond.methodLink RX10 82 yJ0_charAt_5068e) ∈ lw_tbl ∧ goodWord (Cond.methodLink RX10 82 yJ0_charAt_5068e) = true := ⟨lwt_2 _ (List.mem_of_getElem? (i := 216) rfl), by decide +kernel⟩
set_option maxRecDepth 20000 in
theorem mw_1543 : (Cond.fieldLink RJ0 15 "java/lang/String" "coder" "B") ∈ lw_tbl ∧ goodWord (Cond.fieldLink RJ0 15 "java/lang/String" "coder" "B") = true := ⟨lwt_6 _ (List.mem_of_getElem? (i := 48) rfl), by decide +kernel⟩
set_option maxRecDepth 20000 in
theorem mw_749 : (Cond.fieldLink RJ0 38 "java/lang/String" "COMPACT_STRINGS" "Z") ∈ lw_tbl ∧ goodWord (Cond.fieldLink RJ0 38 "java/lang/String" "COMPACT_STRINGS" "Z") = true := ⟨lwt_2 _ (List.mem_of_getElem? (i := 214) rfl), by decide +kernel⟩
set_option maxRecDepth 20000 in
theorem mw_748 : (Cond.code yJ0_coder_7d493 cJ0_coder_7d493 1 (some .byte)) ∈ lw_tbl ∧ goodWord (Cond.code yJ0_coder_7d493 cJ0_coder_7d493 1 (some .byte)) = true := ⟨lwt_2 _ (List.mem_of_getElem? (i := 213) rfl), by decide +kernel⟩
set_option maxRecDepth 20000 in
theorem mw_747 : (Cond.selects RJ0 yJ0_coder_7d493 yJ0_coder_7d493) ∈ lw_tbl ∧ goodWord (Cond.selects RJ0 yJ0_coder_7d493 yJ0_coder_7d493) = true := ⟨lwt_2 _ (List.mem_of_getElem? (i := 212) rfl), by decide +kernel⟩
set_option maxRecDepth 20000 in
theorem mw_746 : (Cond.instanceMethod yJ0_coder_7d493) ∈ lw_tbl ∧ goodWord (Cond.instanceMethod yJ0_coder_7d493) = true := ⟨lwt_2 _ (List.mem_of_getElem? (i := 211) rfl), by decide +kernel⟩
set_option maxRecDepth 20000 in
theorem mw_745 : (Cond.methodLink RJ0 335 yJ0_coder_7d493) ∈ lw_tbl ∧ goodWord (Cond.methodLink RJ0 335 yJ0_coder_7d493) = true := ⟨lwt_2 _ (List.mem_of_getElem? (i := 210) rfl), by decide +kernel⟩
set_option maxRecDepth 20000 in
theorem mw_1542 : (Cond.fieldLink RJ0 9 "java/lang/String" "value" "[B") ∈ lw_tbl ∧ goodWord (Cond.fieldLink RJ0 9 "java/lang/String" "value" "[B") = true := ⟨lwt_6 _ (List.mem_of_getElem? (i := 47) rfl), by decide +kernel⟩
set_option maxRecDepth 20000 in
theorem mw_791 : (Cond.selects RX7 yX7_numbered yX7_numbered) ∈ lw_tbl ∧ goodWord (Cond.selects RX7 yX7_numbered yX7_numbered) = true := ⟨lwt_3 _ (List.mem_of_getElem? (i := 16) rfl), by decide +kernel⟩
set_option maxRecDepth 20000 in
theorem mw_790 : (Cond.instanceMethod yX7_numbered) ∈ lw_tbl ∧ goodWord (Cond.instanceMethod yX7_numbered) = true := ⟨lwt_3 _ (List.mem_of_getElem? (i := 15) rfl), by decide +kernel⟩
set_option maxRecDepth 20000 in
theorem mw_789 : (Cond.methodLink RX10 64 yX7_numbered) ∈ lw_tbl ∧ goodWord (Cond.methodLink RX10 64 yX7_numbered) = true := ⟨lwt_3 _ (List.mem_of_getElem? (i := 14) rfl), by decide +kernel⟩
set_option maxRecDepth 20000 in
theorem mw_787 : (Cond.fieldLink RJ2 63 "java/lang/StringUTF16" "LO_BYTE_SHIFT" "I") ∈ lw_tbl ∧ goodWord (Cond.fieldLink RJ2 63 "java/lang/StringUTF16" "LO_BYTE_SHIFT" "I") = true := ⟨lwt_3 _ (List.mem_of_getElem? (i := 12) rfl), by decide +kernel⟩
set_option maxRecDepth 20000 in
theorem mw_785 : (Cond.fieldLink RJ2 59 "java/lang/StringUTF16" "HI_BYTE_SHIFT" "I") ∈ lw_tbl ∧ goodWord (Cond.fieldLink RJ2 59 "java/lang/StringUTF16" "HI_BYTE_SHIFT" "I") = true := ⟨lwt_3 _ (List.mem_of_getElem? (i := 10) rfl), by decide +kernel⟩
set_option maxRecDepth 20000 in
theorem mw_783 : (Cond.fieldLink RJ2 44 "java/lang/StringUTF16" "$assertionsDisabled" "Z") ∈ lw_tbl ∧ goodWord (Cond.fieldLink RJ2 44 "java/lang/StringUTF16" "$assertionsDisabled" "Z") = true := ⟨lwt_3 _ (List.mem_of_getElem? (i := 8) rfl), by decide +kernel⟩
set_option maxRecDepth 20000 in
theorem mw_782 : (Cond.code yJ2_getChar_3b067 cJ2_getChar_3b067 2 (some .char)) ∈ lw_tbl ∧ goodWord (Cond.code yJ2_getChar_3b067 cJ2_getChar_3b067 2 (some .char)) = true := ⟨lwt_3 _ (List.mem_of_getElem? (i := 7) rfl), by decide +kernel⟩
set_option maxRecDepth 20000 in
theorem mw_781 : (Cond.static yJ2_getChar_3b067) ∈ lw_tbl ∧ goodWord (Cond.static yJ2_getChar_3b067) = true := ⟨lwt_3 _ (List.mem_of_getElem? (i := 6) rfl), by decide +kernel⟩
set_option maxRecDepth 20000 in
theorem mw_780 : (Cond.methodLink RJ2 71 yJ2_getChar_3b067) ∈ lw_tbl ∧ goodWord (Cond.methodLink RJ2 71 yJ2_getChar_3b067) = true := ⟨lwt_3 _ (List.mem_of_getElem? (i := 5) rfl), by decide +kernel⟩
set_option maxRecDepth 20000 in
theorem mw_779 : (Cond.methodLink RJ2 414 yJ0_checkIndex_df160) ∈ lw_tbl ∧ goodWord (Cond.methodLink RJ2 414 yJ0_checkIndex_df160) = true := ⟨lwt_3 _ (List.mem_of_getElem? (i := 4) rfl), by decide +kernel⟩
set_option maxRecDepth 20000 in
theorem mw_778 : (Cond.code yJ2_length_9d52b cJ2_length_9d52b 1 (some .int)) ∈ lw_tbl ∧ goodWord (Cond.code yJ2_length_9d52b cJ2_length_9d52b 1 (some .int)) = true := ⟨lwt_3 _ (List.mem_of_getElem? (i := 3) rfl), by decide +kernel⟩
set_option maxRecDepth 20000 in
theorem mw_777 : (Cond.static yJ2_length_9d52b) ∈ lw_tbl ∧ goodWord (Cond.static yJ2_length_9d52b) = true := ⟨lwt_3 _ (List.mem_of_getElem? (i := 2) rfl), by decide +kernel⟩
set_option maxRecDepth 20000 in
theorem mw_776 : (Cond.methodLink RJ2 48 yJ2_length_9d52b) ∈ lw_tbl ∧ goodWord (Cond.methodLink RJ2 48 yJ2_length_9d52b) = true := ⟨lwt_3 _ (List.mem_of_getElem? (i := 1) rfl), by decide +kernel⟩
set_option maxRecDepth 20000 in
theorem mw_775 : (Cond.code yJ2_checkIndex_2214a cJ2_checkIndex_2214a 2 none) ∈ lw_tbl ∧ goodWord (Cond.code yJ2_checkIndex_2214a cJ2_checkIndex_2214a 2 none) = true := ⟨lwt_3 _ (List.mem_of_getElem? (i := 0) rfl), by decide +kernel⟩
set_option maxRecDepth 20000 in
theorem mw_774 : (Cond.static yJ2_checkIndex_2214a) ∈ lw_tbl ∧ goodWord (Cond.static yJ2_checkIndex_2214a) = true := ⟨lwt_2 _ (List.mem_of_getElem? (i := 239) rfl), by decide +kernel⟩
set_option maxRecDepth 20000 in
theorem mw_773 : (Cond.methodLink RJ2 67 yJ2_checkIndex_2214a) ∈ lw_tbl ∧ goodWord (Cond.methodLink RJ2 67 yJ2_checkIndex_2214a) = true := ⟨lwt_2 _ (List.mem_of_getElem? (i := 238) rfl), by decide +kernel⟩
set_option maxRecDepth 20000 in
theorem mw_772 : (Cond.code yJ2_charAt_3b067 cJ2_charAt_3b067 2 (some .char)) ∈ lw_tbl ∧ goodWord (Cond.code yJ2_charAt_3b067 cJ2_charAt_3b067 2 (some .char)) = true := ⟨lwt_2 _ (List.mem_of_getElem? (i := 237) rfl), by decide +kernel⟩
set_option maxRecDepth 20000 in
theorem mw_78 : (Cond.initialized RJ2) ∈ lw_tbl ∧ goodWord (Cond.initialized RJ2) = true := ⟨lwt_0 _ (List.mem_of_getElem? (i := 23) rfl), by decide +kernel⟩
set_option maxRecDepth 20000 in
theorem mw_771 : (Cond.static yJ2_charAt_3b067) ∈ lw_tbl ∧ goodWord (Cond.static yJ2_charAt_3b067) = true := ⟨lwt_2 _ (List.mem_of_getElem? (i := 236) rfl), by decide +kernel⟩
set_option maxRecDepth 20000 in
theorem mw_770 : (Cond.methodLink RJ0 498 yJ2_charAt_3b067) ∈ lw_tbl ∧ goodWord (Cond.methodLink RJ0 498 yJ2_charAt_3b067) = true := ⟨lwt_2 _ (List.mem_of_getElem? (i := 235) rfl), by decide +kernel⟩
set_option maxRecDepth 20000 in
theorem mw_769 : (Cond.code yJ3_checkIndex_8e157 cJ3_checkIndex_8e157 3 (some .int)) ∈ lw_tbl ∧ goodWord (Cond.code yJ3_checkIndex_8e157 cJ3_checkIndex_8e157 3 (some .int)) = true := ⟨lwt_2 _ (List.mem_of_getElem? (i := 234) rfl), by decide +kernel⟩
set_option maxRecDepth 20000 in
theorem mw_77 : (Cond.initialized RJ3) ∈ lw_tbl ∧ goodWord (Cond.initialized RJ3) = true := ⟨lwt_0 _ (List.mem_of_getElem? (i := 22) rfl), by decide +kernel⟩
set_option maxRecDepth 20000 in
theorem mw_768 : (Cond.static yJ3_checkIndex_8e157) ∈ lw_tbl ∧ goodWord (Cond.static yJ3_checkIndex_8e157) = true := ⟨lwt_2 _ (List.mem_of_getElem? (i := 233) rfl), by decide +kernel⟩
set_option maxRecDepth 20000 in
theorem mw_798 : (Cond.methodLink RX10 95 yX2_append) ∈ lw_tbl ∧ goodWord (Cond.methodLink RX10 95 yX2_append) = true := ⟨lwt_3 _ (List.mem_of_getElem? (i := 23) rfl), by decide +kernel⟩
set_option maxRecDepth 20000 in
theorem mw_797 : (Cond.methodLink RX10 91 yX10_build) ∈ lw_tbl ∧ goodWord (Cond.methodLink RX10 91 yX10_build) = true := ⟨lwt_3 _ (List.mem_of_getElem? (i := 22) rfl), by decide +kernel⟩
set_option maxRecDepth 20000 in
theorem mw_796 : (Cond.code yX10_build cX10_build 6 (some .int)) ∈ lw_tbl ∧ goodWord (Cond.code yX10_build cX10_build 6 (some .int)) = true := ⟨lwt_3 _ (List.mem_of_getElem? (i := 21) rfl), by decide +kernel⟩
set_option maxRecDepth 20000 in
theorem mw_795 : (Cond.selects RX10 yX10_build yX10_build) ∈ lw_tbl ∧ goodWord (Cond.selects RX10 yX10_build yX10_build) = true := ⟨lwt_3 _ (List.mem_of_getElem? (i := 20) rfl), by decide +kernel⟩
set_option maxRecDepth 20000 in
theorem mw_794 : (Cond.instanceMethod yX10_build) ∈ lw_tbl ∧ goodWord (Cond.instanceMethod yX10_build) = true := ⟨lwt_3 _ (List.mem_of_getElem? (i := 19) rfl), by decide +kernel⟩
set_option maxRecDepth 20000 in
theorem mw_793 : (Cond.methodLink RX12 296 yX10_build) ∈ lw_tbl ∧ goodWord (Cond.methodLink RX12 296 yX10_build) = true := ⟨lwt_3 _ (List.mem_of_getElem? (i := 18) rfl), by decide +kernel⟩
set_option maxRecDepth 20000 in
theorem mw_1546 : (Cond.fieldLink RX7 76 "ClauseBook$Kind" "most" "I") ∈ lw_tbl ∧ goodWord (Cond.fieldLink RX7 76 "ClauseBook$Kind" "most" "I") = true := ⟨lwt_6 _ (List.mem_of_getElem? (i := 51) rfl), by decide +kernel⟩
set_option maxRecDepth 20000 in
theorem mw_1545 : (Cond.fieldLink RX7 73 "ClauseBook$Kind" "least" "I") ∈ lw_tbl ∧ goodWord (Cond.fieldLink RX7 73 "ClauseBook$Kind" "least" "I") = true := ⟨lwt_6 _ (List.mem_of_getElem? (i := 50) rfl), by decide +kernel⟩
set_option maxRecDepth 20000 in
theorem mw_792 : (Cond.code yX7_numbered cX7_numbered 1 (some .boolean)) ∈ lw_tbl ∧ goodWord (Cond.code yX7_numbered cX7_numbered 1 (some .boolean)) = true := ⟨lwt_3 _ (List.mem_of_getElem? (i := 17) rfl), by decide +kernel⟩
set_option maxRecDepth 20000 in
theorem mw_802 : (Cond.code yX12_put cX12_put 3 (some .int)) ∈ lw_tbl ∧ goodWord (Cond.code yX12_put cX12_put 3 (some .int)) = true := ⟨lwt_3 _ (List.mem_of_getElem? (i := 27) rfl), by decide +kernel⟩
set_option maxRecDepth 20000 in
theorem mw_809 : (Cond.code yX1_append cX1_append 2 (some .boolean)) ∈ lw_tbl ∧ goodWord (Cond.code yX1_append cX1_append 2 (some .boolean)) = true := ⟨lwt_3 _ (List.mem_of_getElem? (i := 34) rfl), by decide +kernel⟩
set_option maxRecDepth 20000 in
theorem mw_808 : (Cond.selects RX1 yX1_append yX1_append) ∈ lw_tbl ∧ goodWord (Cond.selects RX1 yX1_append yX1_append) = true := ⟨lwt_3 _ (List.mem_of_getElem? (i := 33) rfl), by decide +kernel⟩
set_option maxRecDepth 20000 in
theorem mw_807 : (Cond.instanceMethod yX1_append) ∈ lw_tbl ∧ goodWord (Cond.instanceMethod yX1_append) = true := ⟨lwt_3 _ (List.mem_of_getElem? (i := 32) rfl), by decide +kernel⟩
set_option maxRecDepth 20000 in
theorem mw_806 : (Cond.methodLink RX12 303 yX1_append) ∈ lw_tbl ∧ goodWord (Cond.methodLink RX12 303 yX1_append) = true := ⟨lwt_3 _ (List.mem_of_getElem? (i := 31) rfl), by decide +kernel⟩
set_option maxRecDepth 20000 in
theorem mw_805 : (Cond.code yX12_isBag cX12_isBag 1 (some .boolean)) ∈ lw_tbl ∧ goodWord (Cond.code yX12_isBag cX12_isBag 1 (some .boolean)) = true := ⟨lwt_3 _ (List.mem_of_getElem? (i := 30) rfl), by decide +kernel⟩
set_option maxRecDepth 20000 in
theorem mw_804 : (Cond.static yX12_isBag) ∈ lw_tbl ∧ goodWord (Cond.static yX12_isBag) = true := ⟨lwt_3 _ (List.mem_of_getElem? (i := 29) rfl), by decide +kernel⟩
set_option maxRecDepth 20000 in
theorem mw_803 : (Cond.methodLink RX12 300 yX12_isBag) ∈ lw_tbl ∧ goodWord (Cond.methodLink RX12 300 yX12_isBag) = true := ⟨lwt_3 _ (List.mem_of_getElem? (i := 28) rfl), by decide +kernel⟩
set_option maxRecDepth 20000 in
theorem mw_190 : (Cond.fieldLink RX12 307 "ClauseBook$Bag" "size" "I") ∈ lw_tbl ∧ goodWord (Cond.fieldLink RX12 307 "ClauseBook$Bag" "size" "I") = true := ⟨lwt_0 _ (List.mem_of_getElem? (i := 135) rfl), by decide +kernel⟩
set_option maxRecDepth 20000 in
theorem mw_813 : (Cond.code yX12_take cX12_take 3 (some .int)) ∈ lw_tbl ∧ goodWord (Cond.code yX12_take cX12_take 3 (some .int)) = true := ⟨lwt_3 _ (List.mem_of_getElem? (i := 38) rfl), by decide +kernel⟩
set_option maxRecDepth 20000 in
theorem mw_192 : (Cond.fieldLink RX12 308 "ClauseBook$Bag" "numbers" "[I") ∈ lw_tbl ∧ goodWord (Cond.fieldLink RX12 308 "ClauseBook$Bag" "numbers" "[I") = true := ⟨lwt_0 _ (List.mem_of_getElem? (i := 137) rfl), by decide +kernel⟩
set_option maxRecDepth 20000 in
theorem mw_817 : (Cond.code yX12_bagOf cX12_bagOf 3 (some .int)) ∈ lw_tbl ∧ goodWord (Cond.code yX12_bagOf cX12_bagOf 3 (some .int)) = true := ⟨lwt_3 _ (List.mem_of_getElem? (i := 42) rfl), by decide +kernel⟩
set_option maxRecDepth 20000 in
theorem mw_821 : (Cond.code yX12_pour cX12_pour 10 (some .int)) ∈ lw_tbl ∧ goodWord (Cond.code yX12_pour cX12_pour 10 (some .int)) = true := ⟨lwt_3 _ (List.mem_of_getElem? (i := 46) rfl), by decide +kernel⟩
set_option maxRecDepth 20000 in
theorem mw_825 : (Cond.code yX12_bagBest cX12_bagBest 9 (some .int)) ∈ lw_tbl ∧ goodWord (Cond.code yX12_bagBest cX12_bagBest 9 (some .int)) = true := ⟨lwt_3 _ (List.mem_of_getElem? (i := 50) rfl), by decide +kernel⟩
set_option maxRecDepth 20000 in
theorem mw_829 : (Cond.code yX12_sum cX12_sum 5 (some .int)) ∈ lw_tbl ∧ goodWord (Cond.code yX12_sum cX12_sum 5 (some .int)) = true := ⟨lwt_3 _ (List.mem_of_getElem? (i := 54) rfl), by decide +kernel⟩
set_option maxRecDepth 20000 in
theorem mw_1547 : (Cond.fieldLink RX12 314 "ClauseBook$Kind" "number" "I") ∈ lw_tbl ∧ goodWord (Cond.fieldLink RX12 314 "ClauseBook$Kind" "number" "I") = true := ⟨lwt_6 _ (List.mem_of_getElem? (i := 52) rfl), by decide +kernel⟩
set_option maxRecDepth 20000 in
theorem mw_830 : (Cond.fieldLink RX12 311 "ClauseBook$Kind" "BOTH" "LClauseBook$Kind;") ∈ lw_tbl ∧ goodWord (Cond.fieldLink RX12 311 "ClauseBook$Kind" "BOTH" "LClauseBook$Kind;") = true := ⟨lwt_3 _ (List.mem_of_getElem? (i := 55) rfl), by decide +kernel⟩
set_option maxRecDepth 20000 in
theorem mw_835 : (Cond.code yX12_sheet cX12_sheet 4 (some .int)) ∈ lw_tbl ∧ goodWord (Cond.code yX12_sheet cX12_sheet 4 (some .int)) = true := ⟨lwt_3 _ (List.mem_of_getElem? (i := 60) rfl), by decide +kernel⟩
set_option maxRecDepth 20000 in
theorem mw_840 : (Cond.methodLink RX9 34 yX9_store) ∈ lw_tbl ∧ goodWord (Cond.methodLink RX9 34 yX9_store) = true := ⟨lwt_3 _ (List.mem_of_getElem? (i := 65) rfl), by decide +kernel⟩
set_option maxRecDepth 20000 in
theorem mw_839 : (Cond.code yX9_become cX9_become 4 none) ∈ lw_tbl ∧ goodWord (Cond.code yX9_become cX9_become 4 none) = true := ⟨lwt_3 _ (List.mem_of_getElem? (i := 64) rfl), by decide +kernel⟩
set_option maxRecDepth 20000 in
theorem mw_838 : (Cond.selects RX9 yX9_become yX9_become) ∈ lw_tbl ∧ goodWord (Cond.selects RX9 yX9_become yX9_become) = true := ⟨lwt_3 _ (List.mem_of_getElem? (i := 63) rfl), by decide +kernel⟩
set_option maxRecDepth 20000 in
theorem mw_837 : (Cond.instanceMethod yX9_become) ∈ lw_tbl ∧ goodWord (Cond.instanceMethod yX9_become) = true := ⟨lwt_3 _ (List.mem_of_getElem? (i := 62) rfl), by decide +kernel⟩
set_option maxRecDepth 20000 in
theorem mw_836 : (Cond.methodLink RX12 317 yX9_become) ∈ lw_tbl ∧ goodWord (Cond.methodLink RX12 317 yX9_become) = true := ⟨lwt_3 _ (List.mem_of_getElem? (i := 61) rfl), by decide +kernel⟩
set_option maxRecDepth 20000 in
theorem mw_844 : (Cond.code yX12_cell cX12_cell 6 (some .int)) ∈ lw_tbl ∧ goodWord (Cond.code yX12_cell cX12_cell 6 (some .int)) = true := ⟨lwt_3 _ (List.mem_of_getElem? (i := 69) rfl), by decide +kernel⟩
set_option maxRecDepth 20000 in
theorem mw_848 : (Cond.code yX12_placeFault cX12_placeFault 3 (some .int)) ∈ lw_tbl ∧ goodWord (Cond.code yX12_placeFault cX12_placeFault 3 (some .int)) = true := ⟨lwt_3 _ (List.mem_of_getElem? (i := 73) rfl), by decide +kernel⟩
set_option maxRecDepth 20000 in
theorem mw_14 : (Cond.selects RX12 yX12_placeFault yX12_placeFault) ∈ lw_tbl ∧ goodWord (Cond.selects RX12 yX12_placeFault yX12_placeFault) = true := ⟨lwt_s _ (List.mem_of_getElem? (i := 14) rfl), by decide +kernel⟩
set_option maxRecDepth 20000 in
theorem mw_847 : (Cond.instanceMethod yX12_placeFault) ∈ lw_tbl ∧ goodWord (Cond.instanceMethod yX12_placeFault) = true := ⟨lwt_3 _ (List.mem_of_getElem? (i := 72) rfl), by decide +kernel⟩
set_option maxRecDepth 20000 in
theorem mw_845 : (Cond.methodLink RX12 321 yX12_placeFault) ∈ lw_tbl ∧ goodWord (Cond.methodLink RX12 321 yX12_placeFault) = true := ⟨lwt_3 _ (List.mem_of_getElem? (i := 70) rfl), by decide +kernel⟩
set_option maxRecDepth 20000 in
theorem mw_852 : (Cond.code yX12_read cX12_read 6 (some .long)) ∈ lw_tbl ∧ goodWord (Cond.code yX12_read cX12_read 6 (some .long)) = true := ⟨lwt_3 _ (List.mem_of_getElem? (i := 77) rfl), by decide +kernel⟩
set_option maxRecDepth 20000 in
theorem mw_857 : (Cond.code yX9_asItIs cX9_asItIs 2 (some .long)) ∈ lw_tbl ∧ goodWord (Cond.code yX9_asItIs cX9_asItIs 2 (some .long)) = true := ⟨lwt_3 _ (List.mem_of_getElem? (i := 82) rfl), by decide +kernel⟩
set_option maxRecDepth 20000 in
theorem mw_856 : (Cond.selects RX9 yX9_asItIs yX9_asItIs) ∈ lw_tbl ∧ goodWord (Cond.selects RX9 yX9_asItIs yX9_asItIs) = true := ⟨lwt_3 _ (List.mem_of_getElem? (i := 81) rfl), by decide +kernel⟩
set_option maxRecDepth 20000 in
theorem mw_855 : (Cond.instanceMethod yX9_asItIs) ∈ lw_tbl ∧ goodWord (Cond.instanceMethod yX9_asItIs) = true := ⟨lwt_3 _ (List.mem_of_getElem? (i := 80) rfl), by decide +kernel⟩
set_option maxRecDepth 20000 in
theorem mw_854 : (Cond.methodLink RX12 326 yX9_asItIs) ∈ lw_tbl ∧ goodWord (Cond.methodLink RX12 326 yX9_asItIs) = true := ⟨lwt_3 _ (List.mem_of_getElem? (i := 79) rfl), by decide +kernel⟩
set_option maxRecDepth 20000 in
theorem mw_872 : (Cond.constantDouble RX12 340 (4619567317775286272)) ∈ lw_tbl ∧ goodWord (Cond.constantDouble RX12 340 (4619567317775286272)) = true := ⟨lwt_3 _ (List.mem_of_getElem? (i := 97) rfl), by decide +kernel⟩
set_option maxRecDepth 20000 in
theorem mw_853 : (Cond.constantLong RX12 324 (-4611686018427387904)) ∈ lw_tbl ∧ goodWord (Cond.constantLong RX12 324 (-4611686018427387904)) = true := ⟨lwt_3 _ (List.mem_of_getElem? (i := 78) rfl), by decide +kernel⟩
set_option maxRecDepth 20000 in
theorem mw_867 : (Cond.code yX9_asLong cX9_asLong 2 (some .long)) ∈ lw_tbl ∧ goodWord (Cond.code yX9_asLong cX9_asLong 2 (some .long)) = true := ⟨lwt_3 _ (List.mem_of_getElem? (i := 92) rfl), by decide +kernel⟩
set_option maxRecDepth 20000 in
theorem mw_866 : (Cond.selects RX9 yX9_asLong yX9_asLong) ∈ lw_tbl ∧ goodWord (Cond.selects RX9 yX9_asLong yX9_asLong) = true := ⟨lwt_3 _ (List.mem_of_getElem? (i := 91) rfl), by decide +kernel⟩
set_option maxRecDepth 20000 in
theorem mw_865 : (Cond.instanceMethod yX9_asLong) ∈ lw_tbl ∧ goodWord (Cond.instanceMethod yX9_asLong) = true := ⟨lwt_3 _ (List.mem_of_getElem? (i := 90) rfl), by decide +kernel⟩
set_option maxRecDepth 20000 in
theorem mw_864 : (Cond.methodLink RX12 333 yX9_asLong) ∈ lw_tbl ∧ goodWord (Cond.methodLink RX12 333 yX9_asLong) = true := ⟨lwt_3 _ (List.mem_of_getElem? (i := 89) rfl), by decide +kernel⟩
set_option maxRecDepth 20000 in
theorem mw_863 : (Cond.code yX9_asInt cX9_asInt 2 (some .int)) ∈ lw_tbl ∧ goodWord (Cond.code yX9_asInt cX9_asInt 2 (some .int)) = true := ⟨lwt_3 _ (List.mem_of_getElem? (i := 88) rfl), by decide +kernel⟩
set_option maxRecDepth 20000 in
theorem mw_862 : (Cond.selects RX9 yX9_asInt yX9_asInt) ∈ lw_tbl ∧ goodWord (Cond.selects RX9 yX9_asInt yX9_asInt) = true := ⟨lwt_3 _ (List.mem_of_getElem? (i := 87) rfl), by decide +kernel⟩
set_option maxRecDepth 20000 in
theorem mw_861 : (Cond.instanceMethod yX9_asInt) ∈ lw_tbl ∧ goodWord (Cond.instanceMethod yX9_asInt) = true := ⟨lwt_3 _ (List.mem_of_getElem? (i := 86) rfl), by decide +kernel⟩
set_option maxRecDepth 20000 in
theorem mw_860 : (Cond.methodLink RX12 330 yX9_asInt) ∈ lw_tbl ∧ goodWord (Cond.methodLink RX12 330 yX9_asInt) = true := ⟨lwt_3 _ (List.mem_of_getElem? (i := 85) rfl), by decide +kernel⟩
set_option maxRecDepth 20000 in
theorem mw_859 : (Cond.methodLink RX9 44 yX5_doubleBits) ∈ lw_tbl ∧ goodWord (Cond.methodLink RX9 44 yX5_doubleBits) = true := ⟨lwt_3 _ (List.mem_of_getElem? (i := 84) rfl), by decide +kernel⟩
set_option maxRecDepth 20000 in
theorem mw_858 : (Cond.methodLink RX9 38 yX5_floatBits) ∈ lw_tbl ∧ goodWord (Cond.methodLink RX9 38 yX5_floatBits) = true := ⟨lwt_3 _ (List.mem_of_getElem? (i := 83) rfl), by decide +kernel⟩
set_option maxRecDepth 20000 in
theorem mw_871 : (Cond.code yX9_asDouble cX9_asDouble 2 (some .double)) ∈ lw_tbl ∧ goodWord (Cond.code yX9_asDouble cX9_asDouble 2 (some .double)) = true := ⟨lwt_3 _ (List.mem_of_getElem? (i := 96) rfl), by decide +kernel⟩
set_option maxRecDepth 20000 in
theorem mw_870 : (Cond.selects RX9 yX9_asDouble yX9_asDouble) ∈ lw_tbl ∧ goodWord (Cond.selects RX9 yX9_asDouble yX9_asDouble) = true := ⟨lwt_3 _ (List.mem_of_getElem? (i := 95) rfl), by decide +kernel⟩
set_option maxRecDepth 20000 in
theorem mw_869 : (Cond.instanceMethod yX9_asDouble) ∈ lw_tbl ∧ goodWord (Cond.instanceMethod yX9_asDouble) = true := ⟨lwt_3 _ (List.mem_of_getElem? (i := 94) rfl), by decide +kernel⟩
set_option maxRecDepth 20000 in
theorem mw_868 : (Cond.methodLink RX12 336 yX9_asDouble) ∈ lw_tbl ∧ goodWord (Cond.methodLink RX12 336 yX9_asDouble) = true := ⟨lwt_3 _ (List.mem_of_getElem? (i := 93) rfl), by decide +kernel⟩
set_option maxRecDepth 20000 in
theorem mw_876 : (Cond.code yX12_halve cX12_halve 4 (some .int)) ∈ lw_tbl ∧ goodWord (Cond.code yX12_halve cX12_halve 4 (some .int)) = true := ⟨lwt_3 _ (List.mem_of_getElem? (i := 101) rfl), by decide +kernel⟩
set_option maxRecDepth 20000 in
theorem mw_882 : (Cond.constantDouble RX9 50 (4611686018427387904)) ∈ lw_tbl ∧ goodWord (Cond.constantDouble RX9 50 (4611686018427387904)) = true := ⟨lwt_3 _ (List.mem_of_getElem? (i := 107) rfl), by decide +kernel⟩
set_option maxRecDepth 20000 in
theorem mw_881 : (Cond.constantLong RX9 48 (2)) ∈ lw_tbl ∧ goodWord (Cond.constantLong RX9 48 (2)) = true := ⟨lwt_3 _ (List.mem_of_getElem? (i := 106) rfl), by decide +kernel⟩
set_option maxRecDepth 20000 in
theorem mw_880 : (Cond.code yX9_cutInHalf cX9_cutInHalf 2 none) ∈ lw_tbl ∧ goodWord (Cond.code yX9_cutInHalf cX9_cutInHalf 2 none) = true := ⟨lwt_3 _ (List.mem_of_getElem? (i := 105) rfl), by decide +kernel⟩
set_option maxRecDepth 20000 in
theorem mw_879 : (Cond.selects RX9 yX9_cutInHalf yX9_cutInHalf) ∈ lw_tbl ∧ goodWord (Cond.selects RX9 yX9_cutInHalf yX9_cutInHalf) = true := ⟨lwt_3 _ (List.mem_of_getElem? (i := 104) rfl), by decide +kernel⟩
set_option maxRecDepth 20000 in
theorem mw_878 : (Cond.instanceMethod yX9_cutInHalf) ∈ lw_tbl ∧ goodWord (Cond.instanceMethod yX9_cutInHalf) = true := ⟨lwt_3 _ (List.mem_of_getElem? (i := 103) rfl), by decide +kernel⟩
set_option maxRecDepth 20000 in
theorem mw_877 : (Cond.methodLink RX12 342 yX9_cutInHalf) ∈ lw_tbl ∧ goodWord (Cond.methodLink RX12 342 yX9_cutInHalf) = true := ⟨lwt_3 _ (List.mem_of_getElem? (i := 102) rfl), by decide +kernel⟩
set_option maxRecDepth 20000 in
theorem mw_886 : (Cond.code yX12_copy cX12_copy 8 (some .int)) ∈ lw_tbl ∧ goodWord (Cond.code yX12_copy cX12_copy 8 (some .int)) = true := ⟨lwt_3 _ (List.mem_of_getElem? (i := 111) rfl), by decide +kernel⟩
