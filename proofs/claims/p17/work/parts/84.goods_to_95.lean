section
set_option maxRecDepth 20000 in
theorem mw_713 : (Cond.code yX10_append cX10_append 2 none) ∈ lw_tbl ∧ goodWord (Cond.code yX10_append cX10_append 2 none) = true := ⟨lwt_2 _ (List.mem_of_getElem? (i := 178) rfl), by decide +kernel⟩
set_option maxRecDepth 20000 in
theorem mw_712 : (Cond.selects RX10 yX10_append yX10_append) ∈ lw_tbl ∧ goodWord (Cond.selects RX10 yX10_append yX10_append) = true := ⟨lwt_2 _ (List.mem_of_getElem? (i := 177) rfl), by decide +kernel⟩
set_option maxRecDepth 20000 in
theorem mw_711 : (Cond.instanceMethod yX10_append) ∈ lw_tbl ∧ goodWord (Cond.instanceMethod yX10_append) = true := ⟨lwt_2 _ (List.mem_of_getElem? (i := 176) rfl), by decide +kernel⟩
set_option maxRecDepth 20000 in
theorem mw_710 : (Cond.methodLink RX12 286 yX10_append) ∈ lw_tbl ∧ goodWord (Cond.methodLink RX12 286 yX10_append) = true := ⟨lwt_2 _ (List.mem_of_getElem? (i := 175) rfl), by decide +kernel⟩
set_option maxRecDepth 20000 in
theorem mw_277 : (Cond.fieldLink RX12 285 "ClauseBook$Tape" "size" "I") ∈ lw_tbl ∧ goodWord (Cond.fieldLink RX12 285 "ClauseBook$Tape" "size" "I") = true := ⟨lwt_0 _ (List.mem_of_getElem? (i := 222) rfl), by decide +kernel⟩
set_option maxRecDepth 20000 in
theorem mw_717 : (Cond.code yX12_text cX12_text 2 (some .int)) ∈ lw_tbl ∧ goodWord (Cond.code yX12_text cX12_text 2 (some .int)) = true := ⟨lwt_2 _ (List.mem_of_getElem? (i := 182) rfl), by decide +kernel⟩
set_option maxRecDepth 20000 in
theorem mw_728 : (Cond.methodLink RX10 86 Lib.Math.min.name) ∈ lw_tbl ∧ goodWord (Cond.methodLink RX10 86 Lib.Math.min.name) = true := ⟨lwt_2 _ (List.mem_of_getElem? (i := 193) rfl), by decide +kernel⟩
set_option maxRecDepth 20000 in
theorem mw_726 : (Cond.code yX10_numberEnd cX10_numberEnd 4 (some .int)) ∈ lw_tbl ∧ goodWord (Cond.code yX10_numberEnd cX10_numberEnd 4 (some .int)) = true := ⟨lwt_2 _ (List.mem_of_getElem? (i := 191) rfl), by decide +kernel⟩
set_option maxRecDepth 20000 in
theorem mw_10 : (Cond.selects RX10 yX10_numberEnd yX10_numberEnd) ∈ lw_tbl ∧ goodWord (Cond.selects RX10 yX10_numberEnd yX10_numberEnd) = true := ⟨lwt_s _ (List.mem_of_getElem? (i := 10) rfl), by decide +kernel⟩
set_option maxRecDepth 20000 in
theorem mw_725 : (Cond.instanceMethod yX10_numberEnd) ∈ lw_tbl ∧ goodWord (Cond.instanceMethod yX10_numberEnd) = true := ⟨lwt_2 _ (List.mem_of_getElem? (i := 190) rfl), by decide +kernel⟩
set_option maxRecDepth 20000 in
theorem mw_723 : (Cond.methodLink RX10 40 yX10_numberEnd) ∈ lw_tbl ∧ goodWord (Cond.methodLink RX10 40 yX10_numberEnd) = true := ⟨lwt_2 _ (List.mem_of_getElem? (i := 188) rfl), by decide +kernel⟩
set_option maxRecDepth 20000 in
theorem mw_1544 : (Cond.fieldLink RX10 61 "ClauseBook$Kind" "names" "I") ∈ lw_tbl ∧ goodWord (Cond.fieldLink RX10 61 "ClauseBook$Kind" "names" "I") = true := ⟨lwt_6 _ (List.mem_of_getElem? (i := 49) rfl), by decide +kernel⟩
set_option maxRecDepth 20000 in
theorem mw_1540 : (Cond.fieldLink RX10 47 "ClauseBook$Kind" "most" "I") ∈ lw_tbl ∧ goodWord (Cond.fieldLink RX10 47 "ClauseBook$Kind" "most" "I") = true := ⟨lwt_6 _ (List.mem_of_getElem? (i := 45) rfl), by decide +kernel⟩
set_option maxRecDepth 20000 in
theorem mw_1539 : (Cond.fieldLink RX10 44 "ClauseBook$Kind" "least" "I") ∈ lw_tbl ∧ goodWord (Cond.fieldLink RX10 44 "ClauseBook$Kind" "least" "I") = true := ⟨lwt_6 _ (List.mem_of_getElem? (i := 44) rfl), by decide +kernel⟩
set_option maxRecDepth 20000 in
theorem mw_721 : (Cond.code yX10_scan cX10_scan 9 (some .int)) ∈ lw_tbl ∧ goodWord (Cond.code yX10_scan cX10_scan 9 (some .int)) = true := ⟨lwt_2 _ (List.mem_of_getElem? (i := 186) rfl), by decide +kernel⟩
set_option maxRecDepth 20000 in
theorem mw_720 : (Cond.selects RX10 yX10_scan yX10_scan) ∈ lw_tbl ∧ goodWord (Cond.selects RX10 yX10_scan yX10_scan) = true := ⟨lwt_2 _ (List.mem_of_getElem? (i := 185) rfl), by decide +kernel⟩
set_option maxRecDepth 20000 in
theorem mw_719 : (Cond.instanceMethod yX10_scan) ∈ lw_tbl ∧ goodWord (Cond.instanceMethod yX10_scan) = true := ⟨lwt_2 _ (List.mem_of_getElem? (i := 184) rfl), by decide +kernel⟩
set_option maxRecDepth 20000 in
theorem mw_718 : (Cond.methodLink RX12 289 yX10_scan) ∈ lw_tbl ∧ goodWord (Cond.methodLink RX12 289 yX10_scan) = true := ⟨lwt_2 _ (List.mem_of_getElem? (i := 183) rfl), by decide +kernel⟩
set_option maxRecDepth 20000 in
theorem mw_283 : (Cond.fieldLink RX12 293 "ClauseBook$Tape" "next" "I") ∈ lw_tbl ∧ goodWord (Cond.fieldLink RX12 293 "ClauseBook$Tape" "next" "I") = true := ⟨lwt_0 _ (List.mem_of_getElem? (i := 228) rfl), by decide +kernel⟩
set_option maxRecDepth 20000 in
theorem mw_744 : (Cond.code yJ0_length_8abf5 cJ0_length_8abf5 1 (some .int)) ∈ lw_tbl ∧ goodWord (Cond.code yJ0_length_8abf5 cJ0_length_8abf5 1 (some .int)) = true := ⟨lwt_2 _ (List.mem_of_getElem? (i := 209) rfl), by decide +kernel⟩
set_option maxRecDepth 20000 in
theorem mw_75 : (Cond.initialized RJ0) ∈ lw_tbl ∧ goodWord (Cond.initialized RJ0) = true := ⟨lwt_0 _ (List.mem_of_getElem? (i := 20) rfl), by decide +kernel⟩
set_option maxRecDepth 20000 in
theorem mw_743 : (Cond.selects RJ0 yJ0_length_8abf5 yJ0_length_8abf5) ∈ lw_tbl ∧ goodWord (Cond.selects RJ0 yJ0_length_8abf5 yJ0_length_8abf5) = true := ⟨lwt_2 _ (List.mem_of_getElem? (i := 208) rfl), by decide +kernel⟩
set_option maxRecDepth 20000 in
theorem mw_742 : (Cond.instanceMethod yJ0_length_8abf5) ∈ lw_tbl ∧ goodWord (Cond.instanceMethod yJ0_length_8abf5) = true := ⟨lwt_2 _ (List.mem_of_getElem? (i := 207) rfl), by decide +kernel⟩
set_option maxRecDepth 20000 in
theorem mw_741 : (Cond.methodLink RX10 76 yJ0_length_8abf5) ∈ lw_tbl ∧ goodWord (Cond.methodLink RX10 76 yJ0_length_8abf5) = true := ⟨lwt_2 _ (List.mem_of_getElem? (i := 206) rfl), by decide +kernel⟩
set_option maxRecDepth 20000 in
theorem mw_740 : (Cond.code yX10_isWord cX10_isWord 5 (some .boolean)) ∈ lw_tbl ∧ goodWord (Cond.code yX10_isWord cX10_isWord 5 (some .boolean)) = true := ⟨lwt_2 _ (List.mem_of_getElem? (i := 205) rfl), by decide +kernel⟩
set_option maxRecDepth 20000 in
theorem mw_13 : (Cond.selects RX10 yX10_isWord yX10_isWord) ∈ lw_tbl ∧ goodWord (Cond.selects RX10 yX10_isWord yX10_isWord) = true := ⟨lwt_s _ (List.mem_of_getElem? (i := 13) rfl), by decide +kernel⟩
set_option maxRecDepth 20000 in
theorem mw_739 : (Cond.instanceMethod yX10_isWord) ∈ lw_tbl ∧ goodWord (Cond.instanceMethod yX10_isWord) = true := ⟨lwt_2 _ (List.mem_of_getElem? (i := 204) rfl), by decide +kernel⟩
set_option maxRecDepth 20000 in
theorem mw_737 : (Cond.methodLink RX10 72 yX10_isWord) ∈ lw_tbl ∧ goodWord (Cond.methodLink RX10 72 yX10_isWord) = true := ⟨lwt_2 _ (List.mem_of_getElem? (i := 202) rfl), by decide +kernel⟩
set_option maxRecDepth 20000 in
theorem mw_1541 : (Cond.fieldLink RX10 68 "ClauseBook$Kind" "word" "Ljava/lang/String;") ∈ lw_tbl ∧ goodWord (Cond.fieldLink RX10 68 "ClauseBook$Kind" "word" "Ljava/lang/String;") = true := ⟨lwt_6 _ (List.mem_of_getElem? (i := 46) rfl), by decide +kernel⟩
set_option maxRecDepth 20000 in
theorem mw_736 : (Cond.code yX10_kindAt cX10_kindAt 4 (some .int)) ∈ lw_tbl ∧ goodWord (Cond.code yX10_kindAt cX10_kindAt 4 (some .int)) = true := ⟨lwt_2 _ (List.mem_of_getElem? (i := 201) rfl), by decide +kernel⟩
set_option maxRecDepth 20000 in
theorem mw_12 : (Cond.selects RX10 yX10_kindAt yX10_kindAt) ∈ lw_tbl ∧ goodWord (Cond.selects RX10 yX10_kindAt yX10_kindAt) = true := ⟨lwt_s _ (List.mem_of_getElem? (i := 12) rfl), by decide +kernel⟩
set_option maxRecDepth 20000 in
theorem mw_735 : (Cond.instanceMethod yX10_kindAt) ∈ lw_tbl ∧ goodWord (Cond.instanceMethod yX10_kindAt) = true := ⟨lwt_2 _ (List.mem_of_getElem? (i := 200) rfl), by decide +kernel⟩
set_option maxRecDepth 20000 in
theorem mw_733 : (Cond.methodLink RX10 57 yX10_kindAt) ∈ lw_tbl ∧ goodWord (Cond.methodLink RX10 57 yX10_kindAt) = true := ⟨lwt_2 _ (List.mem_of_getElem? (i := 198) rfl), by decide +kernel⟩
set_option maxRecDepth 20000 in
theorem mw_732 : (Cond.code yX10_wordEnd cX10_wordEnd 3 (some .int)) ∈ lw_tbl ∧ goodWord (Cond.code yX10_wordEnd cX10_wordEnd 3 (some .int)) = true := ⟨lwt_2 _ (List.mem_of_getElem? (i := 197) rfl), by decide +kernel⟩
set_option maxRecDepth 20000 in
theorem mw_11 : (Cond.selects RX10 yX10_wordEnd yX10_wordEnd) ∈ lw_tbl ∧ goodWord (Cond.selects RX10 yX10_wordEnd yX10_wordEnd) = true := ⟨lwt_s _ (List.mem_of_getElem? (i := 11) rfl), by decide +kernel⟩
set_option maxRecDepth 20000 in
theorem mw_731 : (Cond.instanceMethod yX10_wordEnd) ∈ lw_tbl ∧ goodWord (Cond.instanceMethod yX10_wordEnd) = true := ⟨lwt_2 _ (List.mem_of_getElem? (i := 196) rfl), by decide +kernel⟩
set_option maxRecDepth 20000 in
theorem mw_729 : (Cond.methodLink RX10 54 yX10_wordEnd) ∈ lw_tbl ∧ goodWord (Cond.methodLink RX10 54 yX10_wordEnd) = true := ⟨lwt_2 _ (List.mem_of_getElem? (i := 194) rfl), by decide +kernel⟩
set_option maxRecDepth 20000 in
theorem mw_767 : (Cond.methodLink RJ0 1059 yJ3_checkIndex_8e157) ∈ lw_tbl ∧ goodWord (Cond.methodLink RJ0 1059 yJ3_checkIndex_8e157) = true := ⟨lwt_2 _ (List.mem_of_getElem? (i := 232) rfl), by decide +kernel⟩
set_option maxRecDepth 20000 in
theorem mw_765 : (Cond.fieldLink RJ0 1053 "jdk/internal/util/Preconditions" "SIOOBE_FORMATTER" "Ljava/util/function/BiFunction;") ∈ lw_tbl ∧ goodWord (Cond.fieldLink RJ0 1053 "jdk/internal/util/Preconditions" "SIOOBE_FORMATTER" "Ljava/util/function/BiFunction;") = true := ⟨lwt_2 _ (List.mem_of_getElem? (i := 230) rfl), by decide +kernel⟩
set_option maxRecDepth 20000 in
theorem mw_764 : (Cond.code yJ0_checkIndex_df160 cJ0_checkIndex_df160 2 none) ∈ lw_tbl ∧ goodWord (Cond.code yJ0_checkIndex_df160 cJ0_checkIndex_df160 2 none) = true := ⟨lwt_2 _ (List.mem_of_getElem? (i := 229) rfl), by decide +kernel⟩
set_option maxRecDepth 20000 in
theorem mw_763 : (Cond.static yJ0_checkIndex_df160) ∈ lw_tbl ∧ goodWord (Cond.static yJ0_checkIndex_df160) = true := ⟨lwt_2 _ (List.mem_of_getElem? (i := 228) rfl), by decide +kernel⟩
set_option maxRecDepth 20000 in
theorem mw_762 : (Cond.methodLink RJ1 9 yJ0_checkIndex_df160) ∈ lw_tbl ∧ goodWord (Cond.methodLink RJ1 9 yJ0_checkIndex_df160) = true := ⟨lwt_2 _ (List.mem_of_getElem? (i := 227) rfl), by decide +kernel⟩
set_option maxRecDepth 20000 in
theorem mw_761 : (Cond.code yJ1_charAt_3b067 cJ1_charAt_3b067 2 (some .char)) ∈ lw_tbl ∧ goodWord (Cond.code yJ1_charAt_3b067 cJ1_charAt_3b067 2 (some .char)) = true := ⟨lwt_2 _ (List.mem_of_getElem? (i := 226) rfl), by decide +kernel⟩
set_option maxRecDepth 20000 in
theorem mw_76 : (Cond.initialized RJ1) ∈ lw_tbl ∧ goodWord (Cond.initialized RJ1) = true := ⟨lwt_0 _ (List.mem_of_getElem? (i := 21) rfl), by decide +kernel⟩
set_option maxRecDepth 20000 in
theorem mw_760 : (Cond.static yJ1_charAt_3b067) ∈ lw_tbl ∧ goodWord (Cond.static yJ1_charAt_3b067) = true := ⟨lwt_2 _ (List.mem_of_getElem? (i := 225) rfl), by decide +kernel⟩
set_option maxRecDepth 20000 in
theorem mw_759 : (Cond.methodLink RJ0 495 yJ1_charAt_3b067) ∈ lw_tbl ∧ goodWord (Cond.methodLink RJ0 495 yJ1_charAt_3b067) = true := ⟨lwt_2 _ (List.mem_of_getElem? (i := 224) rfl), by decide +kernel⟩
set_option maxRecDepth 20000 in
theorem mw_758 : (Cond.code yJ0_isLatin1_aae02 cJ0_isLatin1_aae02 1 (some .boolean)) ∈ lw_tbl ∧ goodWord (Cond.code yJ0_isLatin1_aae02 cJ0_isLatin1_aae02 1 (some .boolean)) = true := ⟨lwt_2 _ (List.mem_of_getElem? (i := 223) rfl), by decide +kernel⟩
set_option maxRecDepth 20000 in
theorem mw_757 : (Cond.selects RJ0 yJ0_isLatin1_aae02 yJ0_isLatin1_aae02) ∈ lw_tbl ∧ goodWord (Cond.selects RJ0 yJ0_isLatin1_aae02 yJ0_isLatin1_aae02) = true := ⟨lwt_2 _ (List.mem_of_getElem? (i := 222) rfl), by decide +kernel⟩
set_option maxRecDepth 20000 in
theorem mw_756 : (Cond.instanceMethod yJ0_isLatin1_aae02) ∈ lw_tbl ∧ goodWord (Cond.instanceMethod yJ0_isLatin1_aae02) = true := ⟨lwt_2 _ (List.mem_of_getElem? (i := 221) rfl), by decide +kernel⟩
set_option maxRecDepth 20000 in
theorem mw_755 : (Cond.methodLink RJ0 492 yJ0_isLatin1_aae02) ∈ lw_tbl ∧ goodWord (Cond.methodLink RJ0 492 yJ0_isLatin1_aae02) = true := ⟨lwt_2 _ (List.mem_of_getElem? (i := 220) rfl), by decide +kernel⟩
set_option maxRecDepth 20000 in
theorem mw_754 : (Cond.code yJ0_charAt_5068e cJ0_charAt_5068e 2 (some .char)) ∈ lw_tbl ∧ goodWord (Cond.code yJ0_charAt_5068e cJ0_charAt_5068e 2 (some .char)) = true := ⟨lwt_2 _ (List.mem_of_getElem? (i := 219) rfl), by decide +kernel⟩
set_option maxRecDepth 20000 in
theorem mw_753 : (Cond.selects RJ0 yJ0_charAt_5068e yJ0_charAt_5068e) ∈ lw_tbl ∧ goodWord (Cond.selects RJ0 yJ0_charAt_5068e yJ0_charAt_5068e) = true := ⟨lwt_2 _ (List.mem_of_getElem? (i := 218) rfl), by decide +kernel⟩
set_option maxRecDepth 20000 in
theorem mw_752 : (Cond.instanceMethod yJ0_charAt_5068e) ∈ lw_tbl ∧ goodWord (Cond.instanceMethod yJ0_charAt_5068e) = true := ⟨lwt_2 _ (List.mem_of_getElem? (i := 217) rfl), by decide +kernel⟩
set_option maxRecDepth 20000 in
theorem mw_751 : (Cond.methodLink RX10 82 yJ0_charAt_5068e) ∈ lw_tbl ∧ goodWord (Cond.methodLink RX10 82 yJ0_charAt_5068e) = true := ⟨lwt_2 _ (List.mem_of_getElem? (i := 216) rfl), by decide +kernel⟩
set_option maxRecDepth 20000 in
theorem mw_1543 : (Cond.fieldLink RJ0 15 "java/lang/String" "coder" "B") ∈ lw_tbl ∧ goodWord (Cond.fieldLink RJ0 15 "java/lang/String" "coder" "B") = true := ⟨lwt_6 _ (List.mem_of_getElem? (i := 48) rfl), by decide +kernel⟩
set_option maxRecDepth 20000 in
theorem mw_749 : (Cond.fieldLink RJ0 38 "java/lang/String" "COMPACT_STRINGS" "Z") ∈ lw_tbl ∧ goodWord (Cond.fieldLink RJ0 38 "java/lang/String" "COMPACT_STRINGS" "Z") = true := ⟨lwt_2 _ (List.mem_of_getElem? (i := 214) rfl), by decide +kernel⟩
set_option maxRecDepth 20000 in
theorem mw_748 : (Cond.code yJ0_coder_7d493 cJ0_coder_7d493 1 (some .byte)) ∈ lw_tbl ∧ goodWord (Cond.code yJ0_coder_7d493 cJ0_coder_7d493 1 (some .byte)) = true := ⟨lwt_2 _ (List.mem_of_getElem? (i := 213) rfl), by decide +kernel⟩
set_option maxRecDepth 20000 in
theorem mw_747 : (Cond.selects RJ0 yJ0_coder_7d493 yJ0_coder_7d493) ∈ lw_tbl ∧ goodWord (Cond.selects RJ0 yJ0_coder_7d493 yJ0_coder_7d493) = true := ⟨lwt_2 _ (List.mem_of_getElem? (i := 212) rfl), by decide +kernel⟩
set_option maxRecDepth 20000 in
theorem mw_746 : (Cond.instanceMethod yJ0_coder_7d493) ∈ lw_tbl ∧ goodWord (Cond.instanceMethod yJ0_coder_7d493) = true := ⟨lwt_2 _ (List.mem_of_getElem? (i := 211) rfl), by decide +kernel⟩
set_option maxRecDepth 20000 in
theorem mw_745 : (Cond.methodLink RJ0 335 yJ0_coder_7d493) ∈ lw_tbl ∧ goodWord (Cond.methodLink RJ0 335 yJ0_coder_7d493) = true := ⟨lwt_2 _ (List.mem_of_getElem? (i := 210) rfl), by decide +kernel⟩
set_option maxRecDepth 20000 in
theorem mw_1542 : (Cond.fieldLink RJ0 9 "java/lang/String" "value" "[B") ∈ lw_tbl ∧ goodWord (Cond.fieldLink RJ0 9 "java/lang/String" "value" "[B") = true := ⟨lwt_6 _ (List.mem_of_getElem? (i := 47) rfl), by decide +kernel⟩
set_option maxRecDepth 20000 in
theorem mw_791 : (Cond.selects RX7 yX7_numbered yX7_numbered) ∈ lw_tbl ∧ goodWord (Cond.selects RX7 yX7_numbered yX7_numbered) = true := ⟨lwt_3 _ (List.mem_of_getElem? (i := 16) rfl), by decide +kernel⟩
set_option maxRecDepth 20000 in
theorem mw_790 : (Cond.instanceMethod yX7_numbered) ∈ lw_tbl ∧ goodWord (Cond.instanceMethod yX7_numbered) = true := ⟨lwt_3 _ (List.mem_of_getElem? (i := 15) rfl), by decide +kernel⟩
set_option maxRecDepth 20000 in
theorem mw_789 : (Cond.methodLink RX10 64 yX7_numbered) ∈ lw_tbl ∧ goodWord (Cond.methodLink RX10 64 yX7_numbered) = true := ⟨lwt_3 _ (List.mem_of_getElem? (i := 14) rfl), by decide +kernel⟩
set_option maxRecDepth 20000 in
theorem mw_787 : (Cond.fieldLink RJ2 63 "java/lang/StringUTF16" "LO_BYTE_SHIFT" "I") ∈ lw_tbl ∧ goodWord (Cond.fieldLink RJ2 63 "java/lang/StringUTF16" "LO_BYTE_SHIFT" "I") = true := ⟨lwt_3 _ (List.mem_of_getElem? (i := 12) rfl), by decide +kernel⟩
set_option maxRecDepth 20000 in
theorem mw_785 : (Cond.fieldLink RJ2 59 "java/lang/StringUTF16" "HI_BYTE_SHIFT" "I") ∈ lw_tbl ∧ goodWord (Cond.fieldLink RJ2 59 "java/lang/StringUTF16" "HI_BYTE_SHIFT" "I") = true := ⟨lwt_3 _ (List.mem_of_getElem? (i := 10) rfl), by decide +kernel⟩
set_option maxRecDepth 20000 in
theorem mw_783 : (Cond.fieldLink RJ2 44 "java/lang/StringUTF16" "$assertionsDisabled" "Z") ∈ lw_tbl ∧ goodWord (Cond.fieldLink RJ2 44 "java/lang/StringUTF16" "$assertionsDisabled" "Z") = true := ⟨lwt_3 _ (List.mem_of_getElem? (i := 8) rfl), by decide +kernel⟩
set_option maxRecDepth 20000 in
theorem mw_782 : (Cond.code yJ2_getChar_3b067 cJ2_getChar_3b067 2 (some .char)) ∈ lw_tbl ∧ goodWord (Cond.code yJ2_getChar_3b067 cJ2_getChar_3b067 2 (some .char)) = true := ⟨lwt_3 _ (List.mem_of_getElem? (i := 7) rfl), by decide +kernel⟩
set_option maxRecDepth 20000 in
theorem mw_781 : (Cond.static yJ2_getChar_3b067) ∈ lw_tbl ∧ goodWord (Cond.static yJ2_getChar_3b067) = true := ⟨lwt_3 _ (List.mem_of_getElem? (i := 6) rfl), by decide +kernel⟩
set_option maxRecDepth 20000 in
theorem mw_780 : (Cond.methodLink RJ2 71 yJ2_getChar_3b067) ∈ lw_tbl ∧ goodWord (Cond.methodLink RJ2 71 yJ2_getChar_3b067) = true := ⟨lwt_3 _ (List.mem_of_getElem? (i := 5) rfl), by decide +kernel⟩
set_option maxRecDepth 20000 in
theorem mw_779 : (Cond.methodLink RJ2 414 yJ0_checkIndex_df160) ∈ lw_tbl ∧ goodWord (Cond.methodLink RJ2 414 yJ0_checkIndex_df160) = true := ⟨lwt_3 _ (List.mem_of_getElem? (i := 4) rfl), by decide +kernel⟩
set_option maxRecDepth 20000 in
theorem mw_778 : (Cond.code yJ2_length_9d52b cJ2_length_9d52b 1 (some .int)) ∈ lw_tbl ∧ goodWord (Cond.code yJ2_length_9d52b cJ2_length_9d52b 1 (some .int)) = true := ⟨lwt_3 _ (List.mem_of_getElem? (i := 3) rfl), by decide +kernel⟩
set_option maxRecDepth 20000 in
theorem mw_777 : (Cond.static yJ2_length_9d52b) ∈ lw_tbl ∧ goodWord (Cond.static yJ2_length_9d52b) = true := ⟨lwt_3 _ (List.mem_of_getElem? (i := 2) rfl), by decide +kernel⟩
set_option maxRecDepth 20000 in
theorem mw_776 : (Cond.methodLink RJ2 48 yJ2_length_9d52b) ∈ lw_tbl ∧ goodWord (Cond.methodLink RJ2 48 yJ2_length_9d52b) = true := ⟨lwt_3 _ (List.mem_of_getElem? (i := 1) rfl), by decide +kernel⟩
set_option maxRecDepth 20000 in
theorem mw_775 : (Cond.code yJ2_checkIndex_2214a cJ2_checkIndex_2214a 2 none) ∈ lw_tbl ∧ goodWord (Cond.code yJ2_checkIndex_2214a cJ2_checkIndex_2214a 2 none) = true := ⟨lwt_3 _ (List.mem_of_getElem? (i := 0) rfl), by decide +kernel⟩
set_option maxRecDepth 20000 in
theorem mw_774 : (Cond.static yJ2_checkIndex_2214a) ∈ lw_tbl ∧ goodWord (Cond.static yJ2_checkIndex_2214a) = true := ⟨lwt_2 _ (List.mem_of_getElem? (i := 239) rfl), by decide +kernel⟩
set_option maxRecDepth 20000 in
theorem mw_773 : (Cond.methodLink RJ2 67 yJ2_checkIndex_2214a) ∈ lw_tbl ∧ goodWord (Cond.methodLink RJ2 67 yJ2_checkIndex_2214a) = true := ⟨lwt_2 _ (List.mem_of_getElem? (i := 238) rfl), by decide +kernel⟩
set_option maxRecDepth 20000 in
theorem mw_772 : (Cond.code yJ2_charAt_3b067 cJ2_charAt_3b067 2 (some .char)) ∈ lw_tbl ∧ goodWord (Cond.code yJ2_charAt_3b067 cJ2_charAt_3b067 2 (some .char)) = true := ⟨lwt_2 _ (List.mem_of_getElem? (i := 237) rfl), by decide +kernel⟩
set_option maxRecDepth 20000 in
theorem mw_78 : (Cond.initialized RJ2) ∈ lw_tbl ∧ goodWord (Cond.initialized RJ2) = true := ⟨lwt_0 _ (List.mem_of_getElem? (i := 23) rfl), by decide +kernel⟩
set_option maxRecDepth 20000 in
theorem mw_771 : (Cond.static yJ2_charAt_3b067) ∈ lw_tbl ∧ goodWord (Cond.static yJ2_charAt_3b067) = true := ⟨lwt_2 _ (List.mem_of_getElem? (i := 236) rfl), by decide +kernel⟩
set_option maxRecDepth 20000 in
theorem mw_770 : (Cond.methodLink RJ0 498 yJ2_charAt_3b067) ∈ lw_tbl ∧ goodWord (Cond.methodLink RJ0 498 yJ2_charAt_3b067) = true := ⟨lwt_2 _ (List.mem_of_getElem? (i := 235) rfl), by decide +kernel⟩
set_option maxRecDepth 20000 in
theorem mw_769 : (Cond.code yJ3_checkIndex_8e157 cJ3_checkIndex_8e157 3 (some .int)) ∈ lw_tbl ∧ goodWord (Cond.code yJ3_checkIndex_8e157 cJ3_checkIndex_8e157 3 (some .int)) = true := ⟨lwt_2 _ (List.mem_of_getElem? (i := 234) rfl), by decide +kernel⟩
set_option maxRecDepth 20000 in
theorem mw_77 : (Cond.initialized RJ3) ∈ lw_tbl ∧ goodWord (Cond.initialized RJ3) = true := ⟨lwt_0 _ (List.mem_of_getElem? (i := 22) rfl), by decide +kernel⟩
set_option maxRecDepth 20000 in
theorem mw_768 : (Cond.static yJ3_checkIndex_8e157) ∈ lw_tbl ∧ goodWord (Cond.static yJ3_checkIndex_8e157) = true := ⟨lwt_2 _ (List.mem_of_getElem? (i := 233) rfl), by decide +kernel⟩
set_option maxRecDepth 20000 in
theorem mw_798 : (Cond.methodLink RX10 95 yX2_append) ∈ lw_tbl ∧ goodWord (Cond.methodLink RX10 95 yX2_append) = true := ⟨lwt_3 _ (List.mem_of_getElem? (i := 23) rfl), by decide +kernel⟩
set_option maxRecDepth 20000 in
theorem mw_797 : (Cond.methodLink RX10 91 yX10_build) ∈ lw_tbl ∧ goodWord (Cond.methodLink RX10 91 yX10_build) = true := ⟨lwt_3 _ (List.mem_of_getElem? (i := 22) rfl), by decide +kernel⟩
set_option maxRecDepth 20000 in
theorem mw_796 : (Cond.code yX10_build cX10_build 6 (some .int)) ∈ lw_tbl ∧ goodWord (Cond.code yX10_build cX10_build 6 (some .int)) = true := ⟨lwt_3 _ (List.mem_of_getElem? (i := 21) rfl), by decide +kernel⟩
set_option maxRecDepth 20000 in
theorem mw_795 : (Cond.selects RX10 yX10_build yX10_build) ∈ lw_tbl ∧ goodWord (Cond.selects RX10 yX10_build yX10_build) = true := ⟨lwt_3 _ (List.mem_of_getElem? (i := 20) rfl), by decide +kernel⟩
set_option maxRecDepth 20000 in
theorem mw_794 : (Cond.instanceMethod yX10_build) ∈ lw_tbl ∧ goodWord (Cond.instanceMethod yX10_build) = true := ⟨lwt_3 _ (List.mem_of_getElem? (i := 19) rfl), by decide +kernel⟩
set_option maxRecDepth 20000 in
theorem mw_793 : (Cond.methodLink RX12 296 yX10_build) ∈ lw_tbl ∧ goodWord (Cond.methodLink RX12 296 yX10_build) = true := ⟨lwt_3 _ (List.mem_of_getElem? (i := 18) rfl), by decide +kernel⟩
set_option maxRecDepth 20000 in
theorem mw_1546 : (Cond.fieldLink RX7 76 "ClauseBook$Kind" "most" "I") ∈ lw_tbl ∧ goodWord (Cond.fieldLink RX7 76 "ClauseBook$Kind" "most" "I") = true := ⟨lwt_6 _ (List.mem_of_getElem? (i := 51) rfl), by decide +kernel⟩
set_option maxRecDepth 20000 in
theorem mw_1545 : (Cond.fieldLink RX7 73 "ClauseBook$Kind" "least" "I") ∈ lw_tbl ∧ goodWord (Cond.fieldLink RX7 73 "ClauseBook$Kind" "least" "I") = true := ⟨lwt_6 _ (List.mem_of_getElem? (i := 50) rfl), by decide +kernel⟩
set_option maxRecDepth 20000 in
theorem mw_792 : (Cond.code yX7_numbered cX7_numbered 1 (some .boolean)) ∈ lw_tbl ∧ goodWord (Cond.code yX7_numbered cX7_numbered 1 (some .boolean)) = true := ⟨lwt_3 _ (List.mem_of_getElem? (i := 17) rfl), by decide +kernel⟩
set_option maxRecDepth 20000 in
theorem mw_802 : (Cond.code yX12_put cX12_put 3 (some .int)) ∈ lw_tbl ∧ goodWord (Cond.code yX12_put cX12_put 3 (some .int)) = true := ⟨lwt_3 _ (List.mem_of_getElem? (i := 27) rfl), by decide +kernel⟩
set_option maxRecDepth 20000 in
theorem mw_809 : (Cond.code yX1_append cX1_append 2 (some .boolean)) ∈ lw_tbl ∧ goodWord (Cond.code yX1_append cX1_append 2 (some .boolean)) = true := ⟨lwt_3 _ (List.mem_of_getElem? (i := 34) rfl), by decide +kernel⟩
set_option maxRecDepth 20000 in
theorem mw_808 : (Cond.selects RX1 yX1_append yX1_append) ∈ lw_tbl ∧ goodWord (Cond.selects RX1 yX1_append yX1_append) = true := ⟨lwt_3 _ (List.mem_of_getElem? (i := 33) rfl), by decide +kernel⟩
set_option maxRecDepth 20000 in
theorem mw_807 : (Cond.instanceMethod yX1_append) ∈ lw_tbl ∧ goodWord (Cond.instanceMethod yX1_append) = true := ⟨lwt_3 _ (List.mem_of_getElem? (i := 32) rfl), by decide +kernel⟩
set_option maxRecDepth 20000 in
theorem mw_806 : (Cond.methodLink RX12 303 yX1_append) ∈ lw_tbl ∧ goodWord (Cond.methodLink RX12 303 yX1_append) = true := ⟨lwt_3 _ (List.mem_of_getElem? (i := 31) rfl), by decide +kernel⟩
set_option maxRecDepth 20000 in
theorem mw_805 : (Cond.code yX12_isBag cX12_isBag 1 (some .boolean)) ∈ lw_tbl ∧ goodWord (Cond.code yX12_isBag cX12_isBag 1 (some .boolean)) = true := ⟨lwt_3 _ (List.mem_of_getElem? (i := 30) rfl), by decide +kernel⟩
set_option maxRecDepth 20000 in
theorem mw_804 : (Cond.static yX12_isBag) ∈ lw_tbl ∧ goodWord (Cond.static yX12_isBag) = true := ⟨lwt_3 _ (List.mem_of_getElem? (i := 29) rfl), by decide +kernel⟩
set_option maxRecDepth 20000 in
theorem mw_803 : (Cond.methodLink RX12 300 yX12_isBag) ∈ lw_tbl ∧ goodWord (Cond.methodLink RX12 300 yX12_isBag) = true := ⟨lwt_3 _ (List.mem_of_getElem? (i := 28) rfl), by decide +kernel⟩
set_option maxRecDepth 20000 in
theorem mw_190 : (Cond.fieldLink RX12 307 "ClauseBook$Bag" "size" "I") ∈ lw_tbl ∧ goodWord (Cond.fieldLink RX12 307 "ClauseBook$Bag" "size" "I") = true := ⟨lwt_0 _ (List.mem_of_getElem? (i := 135) rfl), by decide +kernel⟩
set_option maxRecDepth 20000 in
theorem mw_813 : (Cond.code yX12_take cX12_take 3 (some .int)) ∈ lw_tbl ∧ goodWord (Cond.code yX12_take cX12_take 3 (some .int)) = true := ⟨lwt_3 _ (List.mem_of_getElem? (i := 38) rfl), by decide +kernel⟩
set_option maxRecDepth 20000 in
theorem mw_192 : (Cond.fieldLink RX12 308 "ClauseBook$Bag" "numbers" "[I") ∈ lw_tbl ∧ goodWord (Cond.fieldLink RX12 308 "ClauseBook$Bag" "numbers" "[I") = true := ⟨lwt_0 _ (List.mem_of_getElem? (i := 137) rfl), by decide +kernel⟩
set_option maxRecDepth 20000 in
theorem mw_817 : (Cond.code yX12_bagOf cX12_bagOf 3 (some .int)) ∈ lw_tbl ∧ goodWord (Cond.code yX12_bagOf cX12_bagOf 3 (some .int)) = true := ⟨lwt_3 _ (List.mem_of_getElem? (i := 42) rfl), by decide +kernel⟩
set_option maxRecDepth 20000 in
theorem mw_821 : (Cond.code yX12_pour cX12_pour 10 (some .int)) ∈ lw_tbl ∧ goodWord (Cond.code yX12_pour cX12_pour 10 (some .int)) = true := ⟨lwt_3 _ (List.mem_of_getElem? (i := 46) rfl), by decide +kernel⟩
set_option maxRecDepth 20000 in
theorem mw_825 : (Cond.code yX12_bagBest cX12_bagBest 9 (some .int)) ∈ lw_tbl ∧ goodWord (Cond.code yX12_bagBest cX12_bagBest 9 (some .int)) = true := ⟨lwt_3 _ (List.mem_of_getElem? (i := 50) rfl), by decide +kernel⟩
set_option maxRecDepth 20000 in
theorem mw_829 : (Cond.code yX12_sum cX12_sum 5 (some .int)) ∈ lw_tbl ∧ goodWord (Cond.code yX12_sum cX12_sum 5 (some .int)) = true := ⟨lwt_3 _ (List.mem_of_getElem? (i := 54) rfl), by decide +kernel⟩
set_option maxRecDepth 20000 in
theorem mw_1547 : (Cond.fieldLink RX12 314 "ClauseBook$Kind" "number" "I") ∈ lw_tbl ∧ goodWord (Cond.fieldLink RX12 314 "ClauseBook$Kind" "number" "I") = true := ⟨lwt_6 _ (List.mem_of_getElem? (i := 52) rfl), by decide +kernel⟩
set_option maxRecDepth 20000 in
theorem mw_830 : (Cond.fieldLink RX12 311 "ClauseBook$Kind" "BOTH" "LClauseBook$Kind;") ∈ lw_tbl ∧ goodWord (Cond.fieldLink RX12 311 "ClauseBook$Kind" "BOTH" "LClauseBook$Kind;") = true := ⟨lwt_3 _ (List.mem_of_getElem? (i := 55) rfl), by decide +kernel⟩
set_option maxRecDepth 20000 in
theorem mw_835 : (Cond.code yX12_sheet cX12_sheet 4 (some .int)) ∈ lw_tbl ∧ goodWord (Cond.code yX12_sheet cX12_sheet 4 (some .int)) = true := ⟨lwt_3 _ (List.mem_of_getElem? (i := 60) rfl), by decide +kernel⟩
set_option maxRecDepth 20000 in
theorem mw_840 : (Cond.methodLink RX9 34 yX9_store) ∈ lw_tbl ∧ goodWord (Cond.methodLink RX9 34 yX9_store) = true := ⟨lwt_3 _ (List.mem_of_getElem? (i := 65) rfl), by decide +kernel⟩
set_option maxRecDepth 20000 in
theorem mw_839 : (Cond.code yX9_become cX9_become 4 none) ∈ lw_tbl ∧ goodWord (Cond.code yX9_become cX9_become 4 none) = true := ⟨lwt_3 _ (List.mem_of_getElem? (i := 64) rfl), by decide +kernel⟩
set_option maxRecDepth 20000 in
theorem mw_838 : (Cond.selects RX9 yX9_become yX9_become) ∈ lw_tbl ∧ goodWord (Cond.selects RX9 yX9_become yX9_become) = true := ⟨lwt_3 _ (List.mem_of_getElem? (i := 63) rfl), by decide +kernel⟩
set_option maxRecDepth 20000 in
theorem mw_837 : (Cond.instanceMethod yX9_become) ∈ lw_tbl ∧ goodWord (Cond.instanceMethod yX9_become) = true := ⟨lwt_3 _ (List.mem_of_getElem? (i := 62) rfl), by decide +kernel⟩
set_option maxRecDepth 20000 in
theorem mw_836 : (Cond.methodLink RX12 317 yX9_become) ∈ lw_tbl ∧ goodWord (Cond.methodLink RX12 317 yX9_become) = true := ⟨lwt_3 _ (List.mem_of_getElem? (i := 61) rfl), by decide +kernel⟩
set_option maxRecDepth 20000 in
theorem mw_844 : (Cond.code yX12_cell cX12_cell 6 (some .int)) ∈ lw_tbl ∧ goodWord (Cond.code yX12_cell cX12_cell 6 (some .int)) = true := ⟨lwt_3 _ (List.mem_of_getElem? (i := 69) rfl), by decide +kernel⟩
set_option maxRecDepth 20000 in
theorem mw_848 : (Cond.code yX12_placeFault cX12_placeFault 3 (some .int)) ∈ lw_tbl ∧ goodWord (Cond.code yX12_placeFault cX12_placeFault 3 (some .int)) = true := ⟨lwt_3 _ (List.mem_of_getElem? (i := 73) rfl), by decide +kernel⟩
set_option maxRecDepth 20000 in
theorem mw_14 : (Cond.selects RX12 yX12_placeFault yX12_placeFault) ∈ lw_tbl ∧ goodWord (Cond.selects RX12 yX12_placeFault yX12_placeFault) = true := ⟨lwt_s _ (List.mem_of_getElem? (i := 14) rfl), by decide +kernel⟩
set_option maxRecDepth 20000 in
theorem mw_847 : (Cond.instanceMethod yX12_placeFault) ∈ lw_tbl ∧ goodWord (Cond.instanceMethod yX12_placeFault) = true := ⟨lwt_3 _ (List.mem_of_getElem? (i := 72) rfl), by decide +kernel⟩
set_option maxRecDepth 20000 in
theorem mw_845 : (Cond.methodLink RX12 321 yX12_placeFault) ∈ lw_tbl ∧ goodWord (Cond.methodLink RX12 321 yX12_placeFault) = true := ⟨lwt_3 _ (List.mem_of_getElem? (i := 70) rfl), by decide +kernel⟩
set_option maxRecDepth 20000 in
theorem mw_852 : (Cond.code yX12_read cX12_read 6 (some .long)) ∈ lw_tbl ∧ goodWord (Cond.code yX12_read cX12_read 6 (some .long)) = true := ⟨lwt_3 _ (List.mem_of_getElem? (i := 77) rfl), by decide +kernel⟩
set_option maxRecDepth 20000 in
theorem mw_857 : (Cond.code yX9_asItIs cX9_asItIs 2 (some .long)) ∈ lw_tbl ∧ goodWord (Cond.code yX9_asItIs cX9_asItIs 2 (some .long)) = true := ⟨lwt_3 _ (List.mem_of_getElem? (i := 82) rfl), by decide +kernel⟩
set_option maxRecDepth 20000 in
theorem mw_856 : (Cond.selects RX9 yX9_asItIs yX9_asItIs) ∈ lw_tbl ∧ goodWord (Cond.selects RX9 yX9_asItIs yX9_asItIs) = true := ⟨lwt_3 _ (List.mem_of_getElem? (i := 81) rfl), by decide +kernel⟩
set_option maxRecDepth 20000 in
theorem mw_855 : (Cond.instanceMethod yX9_asItIs) ∈ lw_tbl ∧ goodWord (Cond.instanceMethod yX9_asItIs) = true := ⟨lwt_3 _ (List.mem_of_getElem? (i := 80) rfl), by decide +kernel⟩
set_option maxRecDepth 20000 in
theorem mw_854 : (Cond.methodLink RX12 326 yX9_asItIs) ∈ lw_tbl ∧ goodWord (Cond.methodLink RX12 326 yX9_asItIs) = true := ⟨lwt_3 _ (List.mem_of_getElem? (i := 79) rfl), by decide +kernel⟩
set_option maxRecDepth 20000 in
theorem mw_872 : (Cond.constantDouble RX12 340 (4619567317775286272)) ∈ lw_tbl ∧ goodWord (Cond.constantDouble RX12 340 (4619567317775286272)) = true := ⟨lwt_3 _ (List.mem_of_getElem? (i := 97) rfl), by decide +kernel⟩
set_option maxRecDepth 20000 in
theorem mw_853 : (Cond.constantLong RX12 324 (-4611686018427387904)) ∈ lw_tbl ∧ goodWord (Cond.constantLong RX12 324 (-4611686018427387904)) = true := ⟨lwt_3 _ (List.mem_of_getElem? (i := 78) rfl), by decide +kernel⟩
set_option maxRecDepth 20000 in
theorem mw_867 : (Cond.code yX9_asLong cX9_asLong 2 (some .long)) ∈ lw_tbl ∧ goodWord (Cond.code yX9_asLong cX9_asLong 2 (some .long)) = true := ⟨lwt_3 _ (List.mem_of_getElem? (i := 92) rfl), by decide +kernel⟩
set_option maxRecDepth 20000 in
theorem mw_866 : (Cond.selects RX9 yX9_asLong yX9_asLong) ∈ lw_tbl ∧ goodWord (Cond.selects RX9 yX9_asLong yX9_asLong) = true := ⟨lwt_3 _ (List.mem_of_getElem? (i := 91) rfl), by decide +kernel⟩
set_option maxRecDepth 20000 in
theorem mw_865 : (Cond.instanceMethod yX9_asLong) ∈ lw_tbl ∧ goodWord (Cond.instanceMethod yX9_asLong) = true := ⟨lwt_3 _ (List.mem_of_getElem? (i := 90) rfl), by decide +kernel⟩
set_option maxRecDepth 20000 in
theorem mw_864 : (Cond.methodLink RX12 333 yX9_asLong) ∈ lw_tbl ∧ goodWord (Cond.methodLink RX12 333 yX9_asLong) = true := ⟨lwt_3 _ (List.mem_of_getElem? (i := 89) rfl), by decide +kernel⟩
set_option maxRecDepth 20000 in
theorem mw_863 : (Cond.code yX9_asInt cX9_asInt 2 (some .int)) ∈ lw_tbl ∧ goodWord (Cond.code yX9_asInt cX9_asInt 2 (some .int)) = true := ⟨lwt_3 _ (List.mem_of_getElem? (i := 88) rfl), by decide +kernel⟩
set_option maxRecDepth 20000 in
theorem mw_862 : (Cond.selects RX9 yX9_asInt yX9_asInt) ∈ lw_tbl ∧ goodWord (Cond.selects RX9 yX9_asInt yX9_asInt) = true := ⟨lwt_3 _ (List.mem_of_getElem? (i := 87) rfl), by decide +kernel⟩
set_option maxRecDepth 20000 in
theorem mw_861 : (Cond.instanceMethod yX9_asInt) ∈ lw_tbl ∧ goodWord (Cond.instanceMethod yX9_asInt) = true := ⟨lwt_3 _ (List.mem_of_getElem? (i := 86) rfl), by decide +kernel⟩
set_option maxRecDepth 20000 in
theorem mw_860 : (Cond.methodLink RX12 330 yX9_asInt) ∈ lw_tbl ∧ goodWord (Cond.methodLink RX12 330 yX9_asInt) = true := ⟨lwt_3 _ (List.mem_of_getElem? (i := 85) rfl), by decide +kernel⟩
set_option maxRecDepth 20000 in
theorem mw_859 : (Cond.methodLink RX9 44 yX5_doubleBits) ∈ lw_tbl ∧ goodWord (Cond.methodLink RX9 44 yX5_doubleBits) = true := ⟨lwt_3 _ (List.mem_of_getElem? (i := 84) rfl), by decide +kernel⟩
set_option maxRecDepth 20000 in
theorem mw_858 : (Cond.methodLink RX9 38 yX5_floatBits) ∈ lw_tbl ∧ goodWord (Cond.methodLink RX9 38 yX5_floatBits) = true := ⟨lwt_3 _ (List.mem_of_getElem? (i := 83) rfl), by decide +kernel⟩
set_option maxRecDepth 20000 in
theorem mw_871 : (Cond.code yX9_asDouble cX9_asDouble 2 (some .double)) ∈ lw_tbl ∧ goodWord (Cond.code yX9_asDouble cX9_asDouble 2 (some .double)) = true := ⟨lwt_3 _ (List.mem_of_getElem? (i := 96) rfl), by decide +kernel⟩
set_option maxRecDepth 20000 in
theorem mw_870 : (Cond.selects RX9 yX9_asDouble yX9_asDouble) ∈ lw_tbl ∧ goodWord (Cond.selects RX9 yX9_asDouble yX9_asDouble) = true := ⟨lwt_3 _ (List.mem_of_getElem? (i := 95) rfl), by decide +kernel⟩
set_option maxRecDepth 20000 in
theorem mw_869 : (Cond.instanceMethod yX9_asDouble) ∈ lw_tbl ∧ goodWord (Cond.instanceMethod yX9_asDouble) = true := ⟨lwt_3 _ (List.mem_of_getElem? (i := 94) rfl), by decide +kernel⟩
set_option maxRecDepth 20000 in
theorem mw_868 : (Cond.methodLink RX12 336 yX9_asDouble) ∈ lw_tbl ∧ goodWord (Cond.methodLink RX12 336 yX9_asDouble) = true := ⟨lwt_3 _ (List.mem_of_getElem? (i := 93) rfl), by decide +kernel⟩
set_option maxRecDepth 20000 in
theorem mw_876 : (Cond.code yX12_halve cX12_halve 4 (some .int)) ∈ lw_tbl ∧ goodWord (Cond.code yX12_halve cX12_halve 4 (some .int)) = true := ⟨lwt_3 _ (List.mem_of_getElem? (i := 101) rfl), by decide +kernel⟩
set_option maxRecDepth 20000 in
theorem mw_882 : (Cond.constantDouble RX9 50 (4611686018427387904)) ∈ lw_tbl ∧ goodWord (Cond.constantDouble RX9 50 (4611686018427387904)) = true := ⟨lwt_3 _ (List.mem_of_getElem? (i := 107) rfl), by decide +kernel⟩
set_option maxRecDepth 20000 in
theorem mw_881 : (Cond.constantLong RX9 48 (2)) ∈ lw_tbl ∧ goodWord (Cond.constantLong RX9 48 (2)) = true := ⟨lwt_3 _ (List.mem_of_getElem? (i := 106) rfl), by decide +kernel⟩
set_option maxRecDepth 20000 in
theorem mw_880 : (Cond.code yX9_cutInHalf cX9_cutInHalf 2 none) ∈ lw_tbl ∧ goodWord (Cond.code yX9_cutInHalf cX9_cutInHalf 2 none) = true := ⟨lwt_3 _ (List.mem_of_getElem? (i := 105) rfl), by decide +kernel⟩
set_option maxRecDepth 20000 in
theorem mw_879 : (Cond.selects RX9 yX9_cutInHalf yX9_cutInHalf) ∈ lw_tbl ∧ goodWord (Cond.selects RX9 yX9_cutInHalf yX9_cutInHalf) = true := ⟨lwt_3 _ (List.mem_of_getElem? (i := 104) rfl), by decide +kernel⟩
set_option maxRecDepth 20000 in
theorem mw_878 : (Cond.instanceMethod yX9_cutInHalf) ∈ lw_tbl ∧ goodWord (Cond.instanceMethod yX9_cutInHalf) = true := ⟨lwt_3 _ (List.mem_of_getElem? (i := 103) rfl), by decide +kernel⟩
set_option maxRecDepth 20000 in
theorem mw_877 : (Cond.methodLink RX12 342 yX9_cutInHalf) ∈ lw_tbl ∧ goodWord (Cond.methodLink RX12 342 yX9_cutInHalf) = true := ⟨lwt_3 _ (List.mem_of_getElem? (i := 102) rfl), by decide +kernel⟩
set_option maxRecDepth 20000 in
theorem mw_886 : (Cond.code yX12_copy cX12_copy 8 (some .int)) ∈ lw_tbl ∧ goodWord (Cond.code yX12_copy cX12_copy 8 (some .int)) = true := ⟨lwt_3 _ (List.mem_of_getElem? (i := 111) rfl), by decide +kernel⟩
end
section
set_option maxRecDepth 20000 in
theorem mw_79 : (Cond.initialized "java/lang/System") ∈ lw_tbl ∧ goodWord (Cond.initialized "java/lang/System") = true := ⟨lwt_0 _ (List.mem_of_getElem? (i := 24) rfl), by decide +kernel⟩
set_option maxRecDepth 20000 in
theorem mw_896 : (Cond.static arraycopyName) ∈ lw_tbl ∧ goodWord (Cond.static arraycopyName) = true := ⟨lwt_3 _ (List.mem_of_getElem? (i := 121) rfl), by decide +kernel⟩
set_option maxRecDepth 20000 in
theorem mw_897 : (Cond.native arraycopyName) ∈ lw_tbl ∧ goodWord (Cond.native arraycopyName) = true := ⟨lwt_3 _ (List.mem_of_getElem? (i := 122) rfl), by decide +kernel⟩
set_option maxRecDepth 20000 in
theorem mw_895 : (Cond.methodLink RX9 52 arraycopyName) ∈ lw_tbl ∧ goodWord (Cond.methodLink RX9 52 arraycopyName) = true := ⟨lwt_3 _ (List.mem_of_getElem? (i := 120) rfl), by decide +kernel⟩
set_option maxRecDepth 20000 in
theorem mw_894 : (Cond.code yX9_moveFrom cX9_moveFrom 5 none) ∈ lw_tbl ∧ goodWord (Cond.code yX9_moveFrom cX9_moveFrom 5 none) = true := ⟨lwt_3 _ (List.mem_of_getElem? (i := 119) rfl), by decide +kernel⟩
set_option maxRecDepth 20000 in
theorem mw_893 : (Cond.selects RX9 yX9_moveFrom yX9_moveFrom) ∈ lw_tbl ∧ goodWord (Cond.selects RX9 yX9_moveFrom yX9_moveFrom) = true := ⟨lwt_3 _ (List.mem_of_getElem? (i := 118) rfl), by decide +kernel⟩
set_option maxRecDepth 20000 in
theorem mw_892 : (Cond.instanceMethod yX9_moveFrom) ∈ lw_tbl ∧ goodWord (Cond.instanceMethod yX9_moveFrom) = true := ⟨lwt_3 _ (List.mem_of_getElem? (i := 117) rfl), by decide +kernel⟩
set_option maxRecDepth 20000 in
theorem mw_891 : (Cond.methodLink RX12 348 yX9_moveFrom) ∈ lw_tbl ∧ goodWord (Cond.methodLink RX12 348 yX9_moveFrom) = true := ⟨lwt_3 _ (List.mem_of_getElem? (i := 116) rfl), by decide +kernel⟩
set_option maxRecDepth 20000 in
theorem mw_890 : (Cond.code yX9_hasRun cX9_hasRun 3 (some .boolean)) ∈ lw_tbl ∧ goodWord (Cond.code yX9_hasRun cX9_hasRun 3 (some .boolean)) = true := ⟨lwt_3 _ (List.mem_of_getElem? (i := 115) rfl), by decide +kernel⟩
set_option maxRecDepth 20000 in
theorem mw_889 : (Cond.selects RX9 yX9_hasRun yX9_hasRun) ∈ lw_tbl ∧ goodWord (Cond.selects RX9 yX9_hasRun yX9_hasRun) = true := ⟨lwt_3 _ (List.mem_of_getElem? (i := 114) rfl), by decide +kernel⟩
set_option maxRecDepth 20000 in
theorem mw_888 : (Cond.instanceMethod yX9_hasRun) ∈ lw_tbl ∧ goodWord (Cond.instanceMethod yX9_hasRun) = true := ⟨lwt_3 _ (List.mem_of_getElem? (i := 113) rfl), by decide +kernel⟩
set_option maxRecDepth 20000 in
theorem mw_887 : (Cond.methodLink RX12 345 yX9_hasRun) ∈ lw_tbl ∧ goodWord (Cond.methodLink RX12 345 yX9_hasRun) = true := ⟨lwt_3 _ (List.mem_of_getElem? (i := 112) rfl), by decide +kernel⟩
set_option maxRecDepth 20000 in
theorem mw_901 : (Cond.code yX12_hold cX12_hold 9 (some .int)) ∈ lw_tbl ∧ goodWord (Cond.code yX12_hold cX12_hold 9 (some .int)) = true := ⟨lwt_3 _ (List.mem_of_getElem? (i := 126) rfl), by decide +kernel⟩
set_option maxRecDepth 20000 in
theorem mw_906 : (Cond.methodLink RX12 361 yX11_reduce) ∈ lw_tbl ∧ goodWord (Cond.methodLink RX12 361 yX11_reduce) = true := ⟨lwt_3 _ (List.mem_of_getElem? (i := 131) rfl), by decide +kernel⟩
set_option maxRecDepth 20000 in
theorem mw_904 : (Cond.code yX12_isHand cX12_isHand 1 (some .boolean)) ∈ lw_tbl ∧ goodWord (Cond.code yX12_isHand cX12_isHand 1 (some .boolean)) = true := ⟨lwt_3 _ (List.mem_of_getElem? (i := 129) rfl), by decide +kernel⟩
set_option maxRecDepth 20000 in
theorem mw_903 : (Cond.static yX12_isHand) ∈ lw_tbl ∧ goodWord (Cond.static yX12_isHand) = true := ⟨lwt_3 _ (List.mem_of_getElem? (i := 128) rfl), by decide +kernel⟩
set_option maxRecDepth 20000 in
theorem mw_902 : (Cond.methodLink RX12 352 yX12_isHand) ∈ lw_tbl ∧ goodWord (Cond.methodLink RX12 352 yX12_isHand) = true := ⟨lwt_3 _ (List.mem_of_getElem? (i := 127) rfl), by decide +kernel⟩
set_option maxRecDepth 20000 in
theorem mw_344 : (Cond.fieldLink RX12 368 "ClauseBook$Hand" "below" "J") ∈ lw_tbl ∧ goodWord (Cond.fieldLink RX12 368 "ClauseBook$Hand" "below" "J") = true := ⟨lwt_1 _ (List.mem_of_getElem? (i := 49) rfl), by decide +kernel⟩
set_option maxRecDepth 20000 in
theorem mw_342 : (Cond.fieldLink RX12 365 "ClauseBook$Hand" "above" "J") ∈ lw_tbl ∧ goodWord (Cond.fieldLink RX12 365 "ClauseBook$Hand" "above" "J") = true := ⟨lwt_1 _ (List.mem_of_getElem? (i := 47) rfl), by decide +kernel⟩
set_option maxRecDepth 20000 in
theorem mw_340 : (Cond.fieldLink RX12 360 "ClauseBook$Hand" "number" "I") ∈ lw_tbl ∧ goodWord (Cond.fieldLink RX12 360 "ClauseBook$Hand" "number" "I") = true := ⟨lwt_1 _ (List.mem_of_getElem? (i := 45) rfl), by decide +kernel⟩
set_option maxRecDepth 20000 in
theorem mw_338 : (Cond.fieldLink RX12 359 "ClauseBook$Hand" "sort" "I") ∈ lw_tbl ∧ goodWord (Cond.fieldLink RX12 359 "ClauseBook$Hand" "sort" "I") = true := ⟨lwt_1 _ (List.mem_of_getElem? (i := 43) rfl), by decide +kernel⟩
set_option maxRecDepth 20000 in
theorem mw_905 : (Cond.constantLong RX12 357 (-9223372036854775808)) ∈ lw_tbl ∧ goodWord (Cond.constantLong RX12 357 (-9223372036854775808)) = true := ⟨lwt_3 _ (List.mem_of_getElem? (i := 130) rfl), by decide +kernel⟩
set_option maxRecDepth 20000 in
theorem mw_910 : (Cond.code yX12_asClause cX12_asClause 4 (some .int)) ∈ lw_tbl ∧ goodWord (Cond.code yX12_asClause cX12_asClause 4 (some .int)) = true := ⟨lwt_3 _ (List.mem_of_getElem? (i := 135) rfl), by decide +kernel⟩
set_option maxRecDepth 20000 in
theorem mw_1548 : (Cond.fieldLink RX12 370 "ClauseBook$Kind" "names" "I") ∈ lw_tbl ∧ goodWord (Cond.fieldLink RX12 370 "ClauseBook$Kind" "names" "I") = true := ⟨lwt_6 _ (List.mem_of_getElem? (i := 53) rfl), by decide +kernel⟩
set_option maxRecDepth 20000 in
theorem mw_914 : (Cond.code yX12_asFraction cX12_asFraction 4 (some .long)) ∈ lw_tbl ∧ goodWord (Cond.code yX12_asFraction cX12_asFraction 4 (some .long)) = true := ⟨lwt_3 _ (List.mem_of_getElem? (i := 139) rfl), by decide +kernel⟩
set_option maxRecDepth 20000 in
theorem mw_918 : (Cond.code yX4_fractionFault cX4_fractionFault 1 (some .int)) ∈ lw_tbl ∧ goodWord (Cond.code yX4_fractionFault cX4_fractionFault 1 (some .int)) = true := ⟨lwt_3 _ (List.mem_of_getElem? (i := 143) rfl), by decide +kernel⟩
set_option maxRecDepth 20000 in
theorem mw_917 : (Cond.selects RX4 yX4_fractionFault yX4_fractionFault) ∈ lw_tbl ∧ goodWord (Cond.selects RX4 yX4_fractionFault yX4_fractionFault) = true := ⟨lwt_3 _ (List.mem_of_getElem? (i := 142) rfl), by decide +kernel⟩
set_option maxRecDepth 20000 in
theorem mw_916 : (Cond.instanceMethod yX4_fractionFault) ∈ lw_tbl ∧ goodWord (Cond.instanceMethod yX4_fractionFault) = true := ⟨lwt_3 _ (List.mem_of_getElem? (i := 141) rfl), by decide +kernel⟩
set_option maxRecDepth 20000 in
theorem mw_915 : (Cond.methodLink RX12 373 yX4_fractionFault) ∈ lw_tbl ∧ goodWord (Cond.methodLink RX12 373 yX4_fractionFault) = true := ⟨lwt_3 _ (List.mem_of_getElem? (i := 140) rfl), by decide +kernel⟩
set_option maxRecDepth 20000 in
theorem mw_922 : (Cond.code yX12_compare cX12_compare 8 (some .int)) ∈ lw_tbl ∧ goodWord (Cond.code yX12_compare cX12_compare 8 (some .int)) = true := ⟨lwt_3 _ (List.mem_of_getElem? (i := 147) rfl), by decide +kernel⟩
set_option maxRecDepth 20000 in
theorem mw_926 : (Cond.code yX12_image cX12_image 1 (some .int)) ∈ lw_tbl ∧ goodWord (Cond.code yX12_image cX12_image 1 (some .int)) = true := ⟨lwt_3 _ (List.mem_of_getElem? (i := 151) rfl), by decide +kernel⟩
set_option maxRecDepth 20000 in
theorem mw_934 : (Cond.code yX8_become cX8_become 2 none) ∈ lw_tbl ∧ goodWord (Cond.code yX8_become cX8_become 2 none) = true := ⟨lwt_3 _ (List.mem_of_getElem? (i := 159) rfl), by decide +kernel⟩
set_option maxRecDepth 20000 in
theorem mw_933 : (Cond.selects RX8 yX8_become yX8_become) ∈ lw_tbl ∧ goodWord (Cond.selects RX8 yX8_become yX8_become) = true := ⟨lwt_3 _ (List.mem_of_getElem? (i := 158) rfl), by decide +kernel⟩
set_option maxRecDepth 20000 in
theorem mw_932 : (Cond.instanceMethod yX8_become) ∈ lw_tbl ∧ goodWord (Cond.instanceMethod yX8_become) = true := ⟨lwt_3 _ (List.mem_of_getElem? (i := 157) rfl), by decide +kernel⟩
set_option maxRecDepth 20000 in
theorem mw_931 : (Cond.methodLink RX6 32 yX8_become) ∈ lw_tbl ∧ goodWord (Cond.methodLink RX6 32 yX8_become) = true := ⟨lwt_3 _ (List.mem_of_getElem? (i := 156) rfl), by decide +kernel⟩
set_option maxRecDepth 20000 in
theorem mw_930 : (Cond.code yX6_become cX6_become 3 none) ∈ lw_tbl ∧ goodWord (Cond.code yX6_become cX6_become 3 none) = true := ⟨lwt_3 _ (List.mem_of_getElem? (i := 155) rfl), by decide +kernel⟩
set_option maxRecDepth 20000 in
theorem mw_929 : (Cond.selects RX6 yX6_become yX6_become) ∈ lw_tbl ∧ goodWord (Cond.selects RX6 yX6_become yX6_become) = true := ⟨lwt_3 _ (List.mem_of_getElem? (i := 154) rfl), by decide +kernel⟩
set_option maxRecDepth 20000 in
theorem mw_928 : (Cond.instanceMethod yX6_become) ∈ lw_tbl ∧ goodWord (Cond.instanceMethod yX6_become) = true := ⟨lwt_3 _ (List.mem_of_getElem? (i := 153) rfl), by decide +kernel⟩
set_option maxRecDepth 20000 in
theorem mw_927 : (Cond.methodLink RX12 377 yX6_become) ∈ lw_tbl ∧ goodWord (Cond.methodLink RX12 377 yX6_become) = true := ⟨lwt_3 _ (List.mem_of_getElem? (i := 152) rfl), by decide +kernel⟩
set_option maxRecDepth 20000 in
theorem mw_939 : (Cond.methodLink RX2 81 arraycopyName) ∈ lw_tbl ∧ goodWord (Cond.methodLink RX2 81 arraycopyName) = true := ⟨lwt_3 _ (List.mem_of_getElem? (i := 164) rfl), by decide +kernel⟩
set_option maxRecDepth 20000 in
theorem mw_938 : (Cond.code yX2_become cX2_become 3 none) ∈ lw_tbl ∧ goodWord (Cond.code yX2_become cX2_become 3 none) = true := ⟨lwt_3 _ (List.mem_of_getElem? (i := 163) rfl), by decide +kernel⟩
set_option maxRecDepth 20000 in
theorem mw_937 : (Cond.selects RX2 yX2_become yX2_become) ∈ lw_tbl ∧ goodWord (Cond.selects RX2 yX2_become yX2_become) = true := ⟨lwt_3 _ (List.mem_of_getElem? (i := 162) rfl), by decide +kernel⟩
set_option maxRecDepth 20000 in
theorem mw_936 : (Cond.instanceMethod yX2_become) ∈ lw_tbl ∧ goodWord (Cond.instanceMethod yX2_become) = true := ⟨lwt_3 _ (List.mem_of_getElem? (i := 161) rfl), by decide +kernel⟩
set_option maxRecDepth 20000 in
theorem mw_935 : (Cond.methodLink RX6 36 yX2_become) ∈ lw_tbl ∧ goodWord (Cond.methodLink RX6 36 yX2_become) = true := ⟨lwt_3 _ (List.mem_of_getElem? (i := 160) rfl), by decide +kernel⟩
set_option maxRecDepth 20000 in
theorem mw_944 : (Cond.methodLink RX1 19 arraycopyName) ∈ lw_tbl ∧ goodWord (Cond.methodLink RX1 19 arraycopyName) = true := ⟨lwt_3 _ (List.mem_of_getElem? (i := 169) rfl), by decide +kernel⟩
set_option maxRecDepth 20000 in
theorem mw_943 : (Cond.code yX1_become cX1_become 2 none) ∈ lw_tbl ∧ goodWord (Cond.code yX1_become cX1_become 2 none) = true := ⟨lwt_3 _ (List.mem_of_getElem? (i := 168) rfl), by decide +kernel⟩
set_option maxRecDepth 20000 in
theorem mw_942 : (Cond.selects RX1 yX1_become yX1_become) ∈ lw_tbl ∧ goodWord (Cond.selects RX1 yX1_become yX1_become) = true := ⟨lwt_3 _ (List.mem_of_getElem? (i := 167) rfl), by decide +kernel⟩
set_option maxRecDepth 20000 in
theorem mw_941 : (Cond.instanceMethod yX1_become) ∈ lw_tbl ∧ goodWord (Cond.instanceMethod yX1_become) = true := ⟨lwt_3 _ (List.mem_of_getElem? (i := 166) rfl), by decide +kernel⟩
set_option maxRecDepth 20000 in
theorem mw_940 : (Cond.methodLink RX6 39 yX1_become) ∈ lw_tbl ∧ goodWord (Cond.methodLink RX6 39 yX1_become) = true := ⟨lwt_3 _ (List.mem_of_getElem? (i := 165) rfl), by decide +kernel⟩
set_option maxRecDepth 20000 in
theorem mw_948 : (Cond.code yX12_back cX12_back 1 (some .int)) ∈ lw_tbl ∧ goodWord (Cond.code yX12_back cX12_back 1 (some .int)) = true := ⟨lwt_3 _ (List.mem_of_getElem? (i := 173) rfl), by decide +kernel⟩
set_option maxRecDepth 20000 in
theorem mw_952 : (Cond.code yX12_count cX12_count 2 (some .int)) ∈ lw_tbl ∧ goodWord (Cond.code yX12_count cX12_count 2 (some .int)) = true := ⟨lwt_3 _ (List.mem_of_getElem? (i := 177) rfl), by decide +kernel⟩
set_option maxRecDepth 20000 in
theorem mw_961 : (Cond.code yX12_inBags cX12_inBags 4 (some .int)) ∈ lw_tbl ∧ goodWord (Cond.code yX12_inBags cX12_inBags 4 (some .int)) = true := ⟨lwt_3 _ (List.mem_of_getElem? (i := 186) rfl), by decide +kernel⟩
set_option maxRecDepth 20000 in
theorem mw_15 : (Cond.selects RX12 yX12_inBags yX12_inBags) ∈ lw_tbl ∧ goodWord (Cond.selects RX12 yX12_inBags yX12_inBags) = true := ⟨lwt_s _ (List.mem_of_getElem? (i := 15) rfl), by decide +kernel⟩
set_option maxRecDepth 20000 in
theorem mw_960 : (Cond.instanceMethod yX12_inBags) ∈ lw_tbl ∧ goodWord (Cond.instanceMethod yX12_inBags) = true := ⟨lwt_3 _ (List.mem_of_getElem? (i := 185) rfl), by decide +kernel⟩
set_option maxRecDepth 20000 in
theorem mw_958 : (Cond.methodLink RX12 383 yX12_inBags) ∈ lw_tbl ∧ goodWord (Cond.methodLink RX12 383 yX12_inBags) = true := ⟨lwt_3 _ (List.mem_of_getElem? (i := 183) rfl), by decide +kernel⟩
set_option maxRecDepth 20000 in
theorem mw_957 : (Cond.methodLink RX2 75 yJ6_bitCount_0f7a4) ∈ lw_tbl ∧ goodWord (Cond.methodLink RX2 75 yJ6_bitCount_0f7a4) = true := ⟨lwt_3 _ (List.mem_of_getElem? (i := 182) rfl), by decide +kernel⟩
set_option maxRecDepth 20000 in
theorem mw_956 : (Cond.code yX2_unnamed cX2_unnamed 3 (some .int)) ∈ lw_tbl ∧ goodWord (Cond.code yX2_unnamed cX2_unnamed 3 (some .int)) = true := ⟨lwt_3 _ (List.mem_of_getElem? (i := 181) rfl), by decide +kernel⟩
set_option maxRecDepth 20000 in
theorem mw_955 : (Cond.selects RX2 yX2_unnamed yX2_unnamed) ∈ lw_tbl ∧ goodWord (Cond.selects RX2 yX2_unnamed yX2_unnamed) = true := ⟨lwt_3 _ (List.mem_of_getElem? (i := 180) rfl), by decide +kernel⟩
set_option maxRecDepth 20000 in
theorem mw_954 : (Cond.instanceMethod yX2_unnamed) ∈ lw_tbl ∧ goodWord (Cond.instanceMethod yX2_unnamed) = true := ⟨lwt_3 _ (List.mem_of_getElem? (i := 179) rfl), by decide +kernel⟩
set_option maxRecDepth 20000 in
theorem mw_953 : (Cond.methodLink RX12 380 yX2_unnamed) ∈ lw_tbl ∧ goodWord (Cond.methodLink RX12 380 yX2_unnamed) = true := ⟨lwt_3 _ (List.mem_of_getElem? (i := 178) rfl), by decide +kernel⟩
set_option maxRecDepth 20000 in
theorem mw_1124 : (Cond.code yX13_start cX13_start 4 (some .int)) ∈ lw_tbl ∧ goodWord (Cond.code yX13_start cX13_start 4 (some .int)) = true := ⟨lwt_4 _ (List.mem_of_getElem? (i := 109) rfl), by decide +kernel⟩
set_option maxRecDepth 20000 in
theorem mw_1129 : (Cond.code yX13_in cX13_in 6 (some .boolean)) ∈ lw_tbl ∧ goodWord (Cond.code yX13_in cX13_in 6 (some .boolean)) = true := ⟨lwt_4 _ (List.mem_of_getElem? (i := 114) rfl), by decide +kernel⟩
set_option maxRecDepth 20000 in
theorem mw_66 : (Cond.initialized RX13) ∈ lw_tbl ∧ goodWord (Cond.initialized RX13) = true := ⟨lwt_0 _ (List.mem_of_getElem? (i := 11) rfl), by decide +kernel⟩
set_option maxRecDepth 20000 in
theorem mw_1128 : (Cond.static yX13_in) ∈ lw_tbl ∧ goodWord (Cond.static yX13_in) = true := ⟨lwt_4 _ (List.mem_of_getElem? (i := 113) rfl), by decide +kernel⟩
set_option maxRecDepth 20000 in
theorem mw_1127 : (Cond.methodLink RX13 175 yX13_in) ∈ lw_tbl ∧ goodWord (Cond.methodLink RX13 175 yX13_in) = true := ⟨lwt_4 _ (List.mem_of_getElem? (i := 112) rfl), by decide +kernel⟩
set_option maxRecDepth 20000 in
theorem mw_983 : (Cond.fieldLink RX13 181 "ClauseBookModel" "start" "I") ∈ lw_tbl ∧ goodWord (Cond.fieldLink RX13 181 "ClauseBookModel" "start" "I") = true := ⟨lwt_3 _ (List.mem_of_getElem? (i := 208) rfl), by decide +kernel⟩
set_option maxRecDepth 20000 in
theorem mw_1130 : (Cond.constantLong RX13 179 (9)) ∈ lw_tbl ∧ goodWord (Cond.constantLong RX13 179 (9)) = true := ⟨lwt_4 _ (List.mem_of_getElem? (i := 115) rfl), by decide +kernel⟩
set_option maxRecDepth 20000 in
theorem mw_1126 : (Cond.constantLong RX13 173 (99)) ∈ lw_tbl ∧ goodWord (Cond.constantLong RX13 173 (99)) = true := ⟨lwt_4 _ (List.mem_of_getElem? (i := 111) rfl), by decide +kernel⟩
set_option maxRecDepth 20000 in
theorem mw_1125 : (Cond.constantLong RX13 171 (-99)) ∈ lw_tbl ∧ goodWord (Cond.constantLong RX13 171 (-99)) = true := ⟨lwt_4 _ (List.mem_of_getElem? (i := 110) rfl), by decide +kernel⟩
set_option maxRecDepth 20000 in
theorem mw_1134 : (Cond.code yX13_odds cX13_odds 3 (some .int)) ∈ lw_tbl ∧ goodWord (Cond.code yX13_odds cX13_odds 3 (some .int)) = true := ⟨lwt_4 _ (List.mem_of_getElem? (i := 119) rfl), by decide +kernel⟩
set_option maxRecDepth 20000 in
theorem mw_1135 : (Cond.constantLong RX13 184 (2)) ∈ lw_tbl ∧ goodWord (Cond.constantLong RX13 184 (2)) = true := ⟨lwt_4 _ (List.mem_of_getElem? (i := 120) rfl), by decide +kernel⟩
set_option maxRecDepth 20000 in
theorem mw_1139 : (Cond.code yX13_wait cX13_wait 3 (some .int)) ∈ lw_tbl ∧ goodWord (Cond.code yX13_wait cX13_wait 3 (some .int)) = true := ⟨lwt_4 _ (List.mem_of_getElem? (i := 124) rfl), by decide +kernel⟩
set_option maxRecDepth 20000 in
theorem mw_1143 : (Cond.code yX13_price cX13_price 3 (some .int)) ∈ lw_tbl ∧ goodWord (Cond.code yX13_price cX13_price 3 (some .int)) = true := ⟨lwt_4 _ (List.mem_of_getElem? (i := 128) rfl), by decide +kernel⟩
set_option maxRecDepth 20000 in
theorem mw_1151 : (Cond.code yX13_priceAt cX13_priceAt 3 (some .int)) ∈ lw_tbl ∧ goodWord (Cond.code yX13_priceAt cX13_priceAt 3 (some .int)) = true := ⟨lwt_4 _ (List.mem_of_getElem? (i := 136) rfl), by decide +kernel⟩
set_option maxRecDepth 20000 in
theorem mw_16 : (Cond.selects RX13 yX13_priceAt yX13_priceAt) ∈ lw_tbl ∧ goodWord (Cond.selects RX13 yX13_priceAt yX13_priceAt) = true := ⟨lwt_s _ (List.mem_of_getElem? (i := 16) rfl), by decide +kernel⟩
set_option maxRecDepth 20000 in
theorem mw_1150 : (Cond.instanceMethod yX13_priceAt) ∈ lw_tbl ∧ goodWord (Cond.instanceMethod yX13_priceAt) = true := ⟨lwt_4 _ (List.mem_of_getElem? (i := 135) rfl), by decide +kernel⟩
set_option maxRecDepth 20000 in
theorem mw_1148 : (Cond.methodLink RX13 192 yX13_priceAt) ∈ lw_tbl ∧ goodWord (Cond.methodLink RX13 192 yX13_priceAt) = true := ⟨lwt_4 _ (List.mem_of_getElem? (i := 133) rfl), by decide +kernel⟩
set_option maxRecDepth 20000 in
theorem mw_1147 : (Cond.constantLong RX13 186 (6)) ∈ lw_tbl ∧ goodWord (Cond.constantLong RX13 186 (6)) = true := ⟨lwt_4 _ (List.mem_of_getElem? (i := 132) rfl), by decide +kernel⟩
set_option maxRecDepth 20000 in
theorem mw_1146 : (Cond.code yX13_isSpot cX13_isSpot 2 (some .boolean)) ∈ lw_tbl ∧ goodWord (Cond.code yX13_isSpot cX13_isSpot 2 (some .boolean)) = true := ⟨lwt_4 _ (List.mem_of_getElem? (i := 131) rfl), by decide +kernel⟩
set_option maxRecDepth 20000 in
theorem mw_1145 : (Cond.static yX13_isSpot) ∈ lw_tbl ∧ goodWord (Cond.static yX13_isSpot) = true := ⟨lwt_4 _ (List.mem_of_getElem? (i := 130) rfl), by decide +kernel⟩
set_option maxRecDepth 20000 in
theorem mw_1144 : (Cond.methodLink RX13 188 yX13_isSpot) ∈ lw_tbl ∧ goodWord (Cond.methodLink RX13 188 yX13_isSpot) = true := ⟨lwt_4 _ (List.mem_of_getElem? (i := 129) rfl), by decide +kernel⟩
set_option maxRecDepth 20000 in
theorem mw_1155 : (Cond.code yX13_spotOf cX13_spotOf 3 (some .int)) ∈ lw_tbl ∧ goodWord (Cond.code yX13_spotOf cX13_spotOf 3 (some .int)) = true := ⟨lwt_4 _ (List.mem_of_getElem? (i := 140) rfl), by decide +kernel⟩
set_option maxRecDepth 20000 in
theorem mw_1162 : (Cond.code yX13_spotAt cX13_spotAt 4 (some .int)) ∈ lw_tbl ∧ goodWord (Cond.code yX13_spotAt cX13_spotAt 4 (some .int)) = true := ⟨lwt_4 _ (List.mem_of_getElem? (i := 147) rfl), by decide +kernel⟩
set_option maxRecDepth 20000 in
theorem mw_1161 : (Cond.static yX13_spotAt) ∈ lw_tbl ∧ goodWord (Cond.static yX13_spotAt) = true := ⟨lwt_4 _ (List.mem_of_getElem? (i := 146) rfl), by decide +kernel⟩
set_option maxRecDepth 20000 in
theorem mw_1160 : (Cond.methodLink RX13 202 yX13_spotAt) ∈ lw_tbl ∧ goodWord (Cond.methodLink RX13 202 yX13_spotAt) = true := ⟨lwt_4 _ (List.mem_of_getElem? (i := 145) rfl), by decide +kernel⟩
set_option maxRecDepth 20000 in
theorem mw_1159 : (Cond.constantLong RX13 196 (63)) ∈ lw_tbl ∧ goodWord (Cond.constantLong RX13 196 (63)) = true := ⟨lwt_4 _ (List.mem_of_getElem? (i := 144) rfl), by decide +kernel⟩
set_option maxRecDepth 20000 in
theorem mw_1158 : (Cond.code yX13_isPath cX13_isPath 1 (some .boolean)) ∈ lw_tbl ∧ goodWord (Cond.code yX13_isPath cX13_isPath 1 (some .boolean)) = true := ⟨lwt_4 _ (List.mem_of_getElem? (i := 143) rfl), by decide +kernel⟩
set_option maxRecDepth 20000 in
theorem mw_1157 : (Cond.static yX13_isPath) ∈ lw_tbl ∧ goodWord (Cond.static yX13_isPath) = true := ⟨lwt_4 _ (List.mem_of_getElem? (i := 142) rfl), by decide +kernel⟩
set_option maxRecDepth 20000 in
theorem mw_1156 : (Cond.methodLink RX13 198 yX13_isPath) ∈ lw_tbl ∧ goodWord (Cond.methodLink RX13 198 yX13_isPath) = true := ⟨lwt_4 _ (List.mem_of_getElem? (i := 141) rfl), by decide +kernel⟩
set_option maxRecDepth 20000 in
theorem mw_1166 : (Cond.code yX13_clause cX13_clause 5 (some .int)) ∈ lw_tbl ∧ goodWord (Cond.code yX13_clause cX13_clause 5 (some .int)) = true := ⟨lwt_4 _ (List.mem_of_getElem? (i := 151) rfl), by decide +kernel⟩
set_option maxRecDepth 20000 in
theorem mw_1181 : (Cond.code yX13_comes cX13_comes 5 (some .int)) ∈ lw_tbl ∧ goodWord (Cond.code yX13_comes cX13_comes 5 (some .int)) = true := ⟨lwt_4 _ (List.mem_of_getElem? (i := 166) rfl), by decide +kernel⟩
set_option maxRecDepth 20000 in
theorem mw_17 : (Cond.selects RX13 yX13_comes yX13_comes) ∈ lw_tbl ∧ goodWord (Cond.selects RX13 yX13_comes yX13_comes) = true := ⟨lwt_s _ (List.mem_of_getElem? (i := 17) rfl), by decide +kernel⟩
set_option maxRecDepth 20000 in
theorem mw_1180 : (Cond.instanceMethod yX13_comes) ∈ lw_tbl ∧ goodWord (Cond.instanceMethod yX13_comes) = true := ⟨lwt_4 _ (List.mem_of_getElem? (i := 165) rfl), by decide +kernel⟩
set_option maxRecDepth 20000 in
theorem mw_1178 : (Cond.methodLink RX13 223 yX13_comes) ∈ lw_tbl ∧ goodWord (Cond.methodLink RX13 223 yX13_comes) = true := ⟨lwt_4 _ (List.mem_of_getElem? (i := 163) rfl), by decide +kernel⟩
set_option maxRecDepth 20000 in
theorem mw_1177 : (Cond.code yX13_names cX13_names 1 (some .int)) ∈ lw_tbl ∧ goodWord (Cond.code yX13_names cX13_names 1 (some .int)) = true := ⟨lwt_4 _ (List.mem_of_getElem? (i := 162) rfl), by decide +kernel⟩
set_option maxRecDepth 20000 in
theorem mw_1176 : (Cond.static yX13_names) ∈ lw_tbl ∧ goodWord (Cond.static yX13_names) = true := ⟨lwt_4 _ (List.mem_of_getElem? (i := 161) rfl), by decide +kernel⟩
set_option maxRecDepth 20000 in
theorem mw_1175 : (Cond.methodLink RX13 210 yX13_names) ∈ lw_tbl ∧ goodWord (Cond.methodLink RX13 210 yX13_names) = true := ⟨lwt_4 _ (List.mem_of_getElem? (i := 160) rfl), by decide +kernel⟩
set_option maxRecDepth 20000 in
theorem mw_1174 : (Cond.code yX13_areNamed cX13_areNamed 4 (some .boolean)) ∈ lw_tbl ∧ goodWord (Cond.code yX13_areNamed cX13_areNamed 4 (some .boolean)) = true := ⟨lwt_4 _ (List.mem_of_getElem? (i := 159) rfl), by decide +kernel⟩
set_option maxRecDepth 20000 in
theorem mw_1173 : (Cond.static yX13_areNamed) ∈ lw_tbl ∧ goodWord (Cond.static yX13_areNamed) = true := ⟨lwt_4 _ (List.mem_of_getElem? (i := 158) rfl), by decide +kernel⟩
set_option maxRecDepth 20000 in
theorem mw_1172 : (Cond.methodLink RX13 219 yX13_areNamed) ∈ lw_tbl ∧ goodWord (Cond.methodLink RX13 219 yX13_areNamed) = true := ⟨lwt_4 _ (List.mem_of_getElem? (i := 157) rfl), by decide +kernel⟩
set_option maxRecDepth 20000 in
theorem mw_1171 : (Cond.constantLong RX13 208 (-9)) ∈ lw_tbl ∧ goodWord (Cond.constantLong RX13 208 (-9)) = true := ⟨lwt_4 _ (List.mem_of_getElem? (i := 156) rfl), by decide +kernel⟩
set_option maxRecDepth 20000 in
theorem mw_1170 : (Cond.code yX13_isNumber cX13_isNumber 2 (some .boolean)) ∈ lw_tbl ∧ goodWord (Cond.code yX13_isNumber cX13_isNumber 2 (some .boolean)) = true := ⟨lwt_4 _ (List.mem_of_getElem? (i := 155) rfl), by decide +kernel⟩
set_option maxRecDepth 20000 in
theorem mw_1169 : (Cond.static yX13_isNumber) ∈ lw_tbl ∧ goodWord (Cond.static yX13_isNumber) = true := ⟨lwt_4 _ (List.mem_of_getElem? (i := 154) rfl), by decide +kernel⟩
set_option maxRecDepth 20000 in
theorem mw_1168 : (Cond.methodLink RX13 216 yX13_isNumber) ∈ lw_tbl ∧ goodWord (Cond.methodLink RX13 216 yX13_isNumber) = true := ⟨lwt_4 _ (List.mem_of_getElem? (i := 153) rfl), by decide +kernel⟩
set_option maxRecDepth 20000 in
theorem mw_990 : (Cond.fieldLink RX13 205 "ClauseBookModel" "many" "I") ∈ lw_tbl ∧ goodWord (Cond.fieldLink RX13 205 "ClauseBookModel" "many" "I") = true := ⟨lwt_3 _ (List.mem_of_getElem? (i := 215) rfl), by decide +kernel⟩
set_option maxRecDepth 20000 in
theorem mw_1167 : (Cond.constantLong RX13 214 (12)) ∈ lw_tbl ∧ goodWord (Cond.constantLong RX13 214 (12)) = true := ⟨lwt_4 _ (List.mem_of_getElem? (i := 152) rfl), by decide +kernel⟩
set_option maxRecDepth 20000 in
theorem mw_1185 : (Cond.code yX13_clauseOf cX13_clauseOf 3 (some .int)) ∈ lw_tbl ∧ goodWord (Cond.code yX13_clauseOf cX13_clauseOf 3 (some .int)) = true := ⟨lwt_4 _ (List.mem_of_getElem? (i := 170) rfl), by decide +kernel⟩
set_option maxRecDepth 20000 in
theorem mw_1194 : (Cond.methodLink RX13 227 Lib.Math.max.name) ∈ lw_tbl ∧ goodWord (Cond.methodLink RX13 227 Lib.Math.max.name) = true := ⟨lwt_4 _ (List.mem_of_getElem? (i := 179) rfl), by decide +kernel⟩
set_option maxRecDepth 20000 in
theorem mw_1193 : (Cond.code yX13_laysParts cX13_laysParts 5 none) ∈ lw_tbl ∧ goodWord (Cond.code yX13_laysParts cX13_laysParts 5 none) = true := ⟨lwt_4 _ (List.mem_of_getElem? (i := 178) rfl), by decide +kernel⟩
set_option maxRecDepth 20000 in
theorem mw_19 : (Cond.selects RX13 yX13_laysParts yX13_laysParts) ∈ lw_tbl ∧ goodWord (Cond.selects RX13 yX13_laysParts yX13_laysParts) = true := ⟨lwt_s _ (List.mem_of_getElem? (i := 19) rfl), by decide +kernel⟩
set_option maxRecDepth 20000 in
theorem mw_1192 : (Cond.instanceMethod yX13_laysParts) ∈ lw_tbl ∧ goodWord (Cond.instanceMethod yX13_laysParts) = true := ⟨lwt_4 _ (List.mem_of_getElem? (i := 177) rfl), by decide +kernel⟩
set_option maxRecDepth 20000 in
theorem mw_1190 : (Cond.methodLink RX13 236 yX13_laysParts) ∈ lw_tbl ∧ goodWord (Cond.methodLink RX13 236 yX13_laysParts) = true := ⟨lwt_4 _ (List.mem_of_getElem? (i := 175) rfl), by decide +kernel⟩
set_option maxRecDepth 20000 in
theorem mw_1189 : (Cond.code yX13_isClause cX13_isClause 2 (some .boolean)) ∈ lw_tbl ∧ goodWord (Cond.code yX13_isClause cX13_isClause 2 (some .boolean)) = true := ⟨lwt_4 _ (List.mem_of_getElem? (i := 174) rfl), by decide +kernel⟩
set_option maxRecDepth 20000 in
theorem mw_18 : (Cond.selects RX13 yX13_isClause yX13_isClause) ∈ lw_tbl ∧ goodWord (Cond.selects RX13 yX13_isClause yX13_isClause) = true := ⟨lwt_s _ (List.mem_of_getElem? (i := 18) rfl), by decide +kernel⟩
set_option maxRecDepth 20000 in
theorem mw_1188 : (Cond.instanceMethod yX13_isClause) ∈ lw_tbl ∧ goodWord (Cond.instanceMethod yX13_isClause) = true := ⟨lwt_4 _ (List.mem_of_getElem? (i := 173) rfl), by decide +kernel⟩
set_option maxRecDepth 20000 in
theorem mw_1186 : (Cond.methodLink RX13 233 yX13_isClause) ∈ lw_tbl ∧ goodWord (Cond.methodLink RX13 233 yX13_isClause) = true := ⟨lwt_4 _ (List.mem_of_getElem? (i := 171) rfl), by decide +kernel⟩
set_option maxRecDepth 20000 in
theorem mw_1195 : (Cond.methodLink RX13 230 Lib.Math.min.name) ∈ lw_tbl ∧ goodWord (Cond.methodLink RX13 230 Lib.Math.min.name) = true := ⟨lwt_4 _ (List.mem_of_getElem? (i := 180) rfl), by decide +kernel⟩
set_option maxRecDepth 20000 in
theorem mw_1199 : (Cond.code yX13_drop cX13_drop 1 (some .int)) ∈ lw_tbl ∧ goodWord (Cond.code yX13_drop cX13_drop 1 (some .int)) = true := ⟨lwt_4 _ (List.mem_of_getElem? (i := 184) rfl), by decide +kernel⟩
set_option maxRecDepth 20000 in
theorem mw_1203 : (Cond.code yX13_swap cX13_swap 4 (some .int)) ∈ lw_tbl ∧ goodWord (Cond.code yX13_swap cX13_swap 4 (some .int)) = true := ⟨lwt_4 _ (List.mem_of_getElem? (i := 188) rfl), by decide +kernel⟩
set_option maxRecDepth 20000 in
theorem mw_1207 : (Cond.code yX13_value cX13_value 6 (some .long)) ∈ lw_tbl ∧ goodWord (Cond.code yX13_value cX13_value 6 (some .long)) = true := ⟨lwt_4 _ (List.mem_of_getElem? (i := 192) rfl), by decide +kernel⟩
set_option maxRecDepth 20000 in
theorem mw_1215 : (Cond.code yX13_laysWorths cX13_laysWorths 6 none) ∈ lw_tbl ∧ goodWord (Cond.code yX13_laysWorths cX13_laysWorths 6 none) = true := ⟨lwt_4 _ (List.mem_of_getElem? (i := 200) rfl), by decide +kernel⟩
set_option maxRecDepth 20000 in
theorem mw_20 : (Cond.selects RX13 yX13_laysWorths yX13_laysWorths) ∈ lw_tbl ∧ goodWord (Cond.selects RX13 yX13_laysWorths yX13_laysWorths) = true := ⟨lwt_s _ (List.mem_of_getElem? (i := 20) rfl), by decide +kernel⟩
set_option maxRecDepth 20000 in
theorem mw_1214 : (Cond.instanceMethod yX13_laysWorths) ∈ lw_tbl ∧ goodWord (Cond.instanceMethod yX13_laysWorths) = true := ⟨lwt_4 _ (List.mem_of_getElem? (i := 199) rfl), by decide +kernel⟩
set_option maxRecDepth 20000 in
theorem mw_1212 : (Cond.methodLink RX13 274 yX13_laysWorths) ∈ lw_tbl ∧ goodWord (Cond.methodLink RX13 274 yX13_laysWorths) = true := ⟨lwt_4 _ (List.mem_of_getElem? (i := 197) rfl), by decide +kernel⟩
set_option maxRecDepth 20000 in
theorem mw_1211 : (Cond.constantLong RX13 129 (-4611686018427387904)) ∈ lw_tbl ∧ goodWord (Cond.constantLong RX13 129 (-4611686018427387904)) = true := ⟨lwt_4 _ (List.mem_of_getElem? (i := 196) rfl), by decide +kernel⟩
set_option maxRecDepth 20000 in
theorem mw_1210 : (Cond.code yX13_refused cX13_refused 1 (some .long)) ∈ lw_tbl ∧ goodWord (Cond.code yX13_refused cX13_refused 1 (some .long)) = true := ⟨lwt_4 _ (List.mem_of_getElem? (i := 195) rfl), by decide +kernel⟩
set_option maxRecDepth 20000 in
theorem mw_1209 : (Cond.static yX13_refused) ∈ lw_tbl ∧ goodWord (Cond.static yX13_refused) = true := ⟨lwt_4 _ (List.mem_of_getElem? (i := 194) rfl), by decide +kernel⟩
set_option maxRecDepth 20000 in
theorem mw_1208 : (Cond.methodLink RX13 270 yX13_refused) ∈ lw_tbl ∧ goodWord (Cond.methodLink RX13 270 yX13_refused) = true := ⟨lwt_4 _ (List.mem_of_getElem? (i := 193) rfl), by decide +kernel⟩
set_option maxRecDepth 20000 in
theorem mw_999 : (Cond.fieldLink RX13 149 "ClauseBookModel" "below" "J") ∈ lw_tbl ∧ goodWord (Cond.fieldLink RX13 149 "ClauseBookModel" "below" "J") = true := ⟨lwt_3 _ (List.mem_of_getElem? (i := 224) rfl), by decide +kernel⟩
set_option maxRecDepth 20000 in
theorem mw_998 : (Cond.fieldLink RX13 145 "ClauseBookModel" "above" "J") ∈ lw_tbl ∧ goodWord (Cond.fieldLink RX13 145 "ClauseBookModel" "above" "J") = true := ⟨lwt_3 _ (List.mem_of_getElem? (i := 223) rfl), by decide +kernel⟩
set_option maxRecDepth 20000 in
theorem mw_997 : (Cond.fieldLink RX13 131 "ClauseBookModel" "isMuch" "Z") ∈ lw_tbl ∧ goodWord (Cond.fieldLink RX13 131 "ClauseBookModel" "isMuch" "Z") = true := ⟨lwt_3 _ (List.mem_of_getElem? (i := 222) rfl), by decide +kernel⟩
set_option maxRecDepth 20000 in
theorem mw_1239 : (Cond.methodLink RX13 152 yX13_times) ∈ lw_tbl ∧ goodWord (Cond.methodLink RX13 152 yX13_times) = true := ⟨lwt_4 _ (List.mem_of_getElem? (i := 224) rfl), by decide +kernel⟩
set_option maxRecDepth 20000 in
theorem mw_1238 : (Cond.code yX13_multiplies cX13_multiplies 13 none) ∈ lw_tbl ∧ goodWord (Cond.code yX13_multiplies cX13_multiplies 13 none) = true := ⟨lwt_4 _ (List.mem_of_getElem? (i := 223) rfl), by decide +kernel⟩
set_option maxRecDepth 20000 in
theorem mw_24 : (Cond.selects RX13 yX13_multiplies yX13_multiplies) ∈ lw_tbl ∧ goodWord (Cond.selects RX13 yX13_multiplies yX13_multiplies) = true := ⟨lwt_s _ (List.mem_of_getElem? (i := 24) rfl), by decide +kernel⟩
set_option maxRecDepth 20000 in
theorem mw_1237 : (Cond.instanceMethod yX13_multiplies) ∈ lw_tbl ∧ goodWord (Cond.instanceMethod yX13_multiplies) = true := ⟨lwt_4 _ (List.mem_of_getElem? (i := 222) rfl), by decide +kernel⟩
set_option maxRecDepth 20000 in
theorem mw_1235 : (Cond.methodLink RX13 247 yX13_multiplies) ∈ lw_tbl ∧ goodWord (Cond.methodLink RX13 247 yX13_multiplies) = true := ⟨lwt_4 _ (List.mem_of_getElem? (i := 220) rfl), by decide +kernel⟩
set_option maxRecDepth 20000 in
theorem mw_1233 : (Cond.code yX13_at cX13_at 3 (some .int)) ∈ lw_tbl ∧ goodWord (Cond.code yX13_at cX13_at 3 (some .int)) = true := ⟨lwt_4 _ (List.mem_of_getElem? (i := 218) rfl), by decide +kernel⟩
set_option maxRecDepth 20000 in
theorem mw_1232 : (Cond.static yX13_at) ∈ lw_tbl ∧ goodWord (Cond.static yX13_at) = true := ⟨lwt_4 _ (List.mem_of_getElem? (i := 217) rfl), by decide +kernel⟩
set_option maxRecDepth 20000 in
theorem mw_1231 : (Cond.methodLink RX13 239 yX13_at) ∈ lw_tbl ∧ goodWord (Cond.methodLink RX13 239 yX13_at) = true := ⟨lwt_4 _ (List.mem_of_getElem? (i := 216) rfl), by decide +kernel⟩
set_option maxRecDepth 20000 in
theorem mw_1230 : (Cond.code yX13_takes cX13_takes 5 none) ∈ lw_tbl ∧ goodWord (Cond.code yX13_takes cX13_takes 5 none) = true := ⟨lwt_4 _ (List.mem_of_getElem? (i := 215) rfl), by decide +kernel⟩
set_option maxRecDepth 20000 in
theorem mw_23 : (Cond.selects RX13 yX13_takes yX13_takes) ∈ lw_tbl ∧ goodWord (Cond.selects RX13 yX13_takes yX13_takes) = true := ⟨lwt_s _ (List.mem_of_getElem? (i := 23) rfl), by decide +kernel⟩
set_option maxRecDepth 20000 in
theorem mw_1229 : (Cond.instanceMethod yX13_takes) ∈ lw_tbl ∧ goodWord (Cond.instanceMethod yX13_takes) = true := ⟨lwt_4 _ (List.mem_of_getElem? (i := 214) rfl), by decide +kernel⟩
set_option maxRecDepth 20000 in
theorem mw_1227 : (Cond.methodLink RX13 243 yX13_takes) ∈ lw_tbl ∧ goodWord (Cond.methodLink RX13 243 yX13_takes) = true := ⟨lwt_4 _ (List.mem_of_getElem? (i := 212) rfl), by decide +kernel⟩
set_option maxRecDepth 20000 in
theorem mw_1234 : (Cond.constantLong RX13 135 (-1)) ∈ lw_tbl ∧ goodWord (Cond.constantLong RX13 135 (-1)) = true := ⟨lwt_4 _ (List.mem_of_getElem? (i := 219) rfl), by decide +kernel⟩
set_option maxRecDepth 20000 in
theorem mw_1226 : (Cond.code yX13_lays cX13_lays 10 none) ∈ lw_tbl ∧ goodWord (Cond.code yX13_lays cX13_lays 10 none) = true := ⟨lwt_4 _ (List.mem_of_getElem? (i := 211) rfl), by decide +kernel⟩
set_option maxRecDepth 20000 in
theorem mw_22 : (Cond.selects RX13 yX13_lays yX13_lays) ∈ lw_tbl ∧ goodWord (Cond.selects RX13 yX13_lays yX13_lays) = true := ⟨lwt_s _ (List.mem_of_getElem? (i := 22) rfl), by decide +kernel⟩
set_option maxRecDepth 20000 in
theorem mw_1225 : (Cond.instanceMethod yX13_lays) ∈ lw_tbl ∧ goodWord (Cond.instanceMethod yX13_lays) = true := ⟨lwt_4 _ (List.mem_of_getElem? (i := 210) rfl), by decide +kernel⟩
set_option maxRecDepth 20000 in
theorem mw_1223 : (Cond.methodLink RX13 267 yX13_lays) ∈ lw_tbl ∧ goodWord (Cond.methodLink RX13 267 yX13_lays) = true := ⟨lwt_4 _ (List.mem_of_getElem? (i := 208) rfl), by decide +kernel⟩
set_option maxRecDepth 20000 in
theorem mw_1222 : (Cond.code yX13_divisor cX13_divisor 10 (some .long)) ∈ lw_tbl ∧ goodWord (Cond.code yX13_divisor cX13_divisor 10 (some .long)) = true := ⟨lwt_4 _ (List.mem_of_getElem? (i := 207) rfl), by decide +kernel⟩
set_option maxRecDepth 20000 in
theorem mw_1221 : (Cond.static yX13_divisor) ∈ lw_tbl ∧ goodWord (Cond.static yX13_divisor) = true := ⟨lwt_4 _ (List.mem_of_getElem? (i := 206) rfl), by decide +kernel⟩
end
section
set_option maxRecDepth 20000 in
theorem mw_1220 : (Cond.methodLink RX13 141 yX13_divisor) ∈ lw_tbl ∧ goodWord (Cond.methodLink RX13 141 yX13_divisor) = true := ⟨lwt_4 _ (List.mem_of_getElem? (i := 205) rfl), by decide +kernel⟩
set_option maxRecDepth 20000 in
theorem mw_1219 : (Cond.code yX13_becomes cX13_becomes 7 none) ∈ lw_tbl ∧ goodWord (Cond.code yX13_becomes cX13_becomes 7 none) = true := ⟨lwt_4 _ (List.mem_of_getElem? (i := 204) rfl), by decide +kernel⟩
set_option maxRecDepth 20000 in
theorem mw_21 : (Cond.selects RX13 yX13_becomes yX13_becomes) ∈ lw_tbl ∧ goodWord (Cond.selects RX13 yX13_becomes yX13_becomes) = true := ⟨lwt_s _ (List.mem_of_getElem? (i := 21) rfl), by decide +kernel⟩
set_option maxRecDepth 20000 in
theorem mw_1218 : (Cond.instanceMethod yX13_becomes) ∈ lw_tbl ∧ goodWord (Cond.instanceMethod yX13_becomes) = true := ⟨lwt_4 _ (List.mem_of_getElem? (i := 203) rfl), by decide +kernel⟩
set_option maxRecDepth 20000 in
theorem mw_1216 : (Cond.methodLink RX13 155 yX13_becomes) ∈ lw_tbl ∧ goodWord (Cond.methodLink RX13 155 yX13_becomes) = true := ⟨lwt_4 _ (List.mem_of_getElem? (i := 201) rfl), by decide +kernel⟩
set_option maxRecDepth 20000 in
theorem mw_1256 : (Cond.methodLink RX13 263 yX13_takesBest) ∈ lw_tbl ∧ goodWord (Cond.methodLink RX13 263 yX13_takesBest) = true := ⟨lwt_5 _ (List.mem_of_getElem? (i := 1) rfl), by decide +kernel⟩
set_option maxRecDepth 20000 in
theorem mw_1255 : (Cond.code yX13_laysChoice cX13_laysChoice 6 none) ∈ lw_tbl ∧ goodWord (Cond.code yX13_laysChoice cX13_laysChoice 6 none) = true := ⟨lwt_5 _ (List.mem_of_getElem? (i := 0) rfl), by decide +kernel⟩
set_option maxRecDepth 20000 in
theorem mw_28 : (Cond.selects RX13 yX13_laysChoice yX13_laysChoice) ∈ lw_tbl ∧ goodWord (Cond.selects RX13 yX13_laysChoice yX13_laysChoice) = true := ⟨lwt_s _ (List.mem_of_getElem? (i := 28) rfl), by decide +kernel⟩
set_option maxRecDepth 20000 in
theorem mw_1254 : (Cond.instanceMethod yX13_laysChoice) ∈ lw_tbl ∧ goodWord (Cond.instanceMethod yX13_laysChoice) = true := ⟨lwt_4 _ (List.mem_of_getElem? (i := 239) rfl), by decide +kernel⟩
set_option maxRecDepth 20000 in
theorem mw_1252 : (Cond.methodLink RX13 254 yX13_laysChoice) ∈ lw_tbl ∧ goodWord (Cond.methodLink RX13 254 yX13_laysChoice) = true := ⟨lwt_4 _ (List.mem_of_getElem? (i := 237) rfl), by decide +kernel⟩
set_option maxRecDepth 20000 in
theorem mw_1251 : (Cond.code yX13_plus cX13_plus 7 (some .long)) ∈ lw_tbl ∧ goodWord (Cond.code yX13_plus cX13_plus 7 (some .long)) = true := ⟨lwt_4 _ (List.mem_of_getElem? (i := 236) rfl), by decide +kernel⟩
set_option maxRecDepth 20000 in
theorem mw_27 : (Cond.selects RX13 yX13_plus yX13_plus) ∈ lw_tbl ∧ goodWord (Cond.selects RX13 yX13_plus yX13_plus) = true := ⟨lwt_s _ (List.mem_of_getElem? (i := 27) rfl), by decide +kernel⟩
set_option maxRecDepth 20000 in
theorem mw_1250 : (Cond.instanceMethod yX13_plus) ∈ lw_tbl ∧ goodWord (Cond.instanceMethod yX13_plus) = true := ⟨lwt_4 _ (List.mem_of_getElem? (i := 235) rfl), by decide +kernel⟩
set_option maxRecDepth 20000 in
theorem mw_1248 : (Cond.methodLink RX13 159 yX13_plus) ∈ lw_tbl ∧ goodWord (Cond.methodLink RX13 159 yX13_plus) = true := ⟨lwt_4 _ (List.mem_of_getElem? (i := 233) rfl), by decide +kernel⟩
set_option maxRecDepth 20000 in
theorem mw_1247 : (Cond.code yX13_adds cX13_adds 17 none) ∈ lw_tbl ∧ goodWord (Cond.code yX13_adds cX13_adds 17 none) = true := ⟨lwt_4 _ (List.mem_of_getElem? (i := 232) rfl), by decide +kernel⟩
set_option maxRecDepth 20000 in
theorem mw_26 : (Cond.selects RX13 yX13_adds yX13_adds) ∈ lw_tbl ∧ goodWord (Cond.selects RX13 yX13_adds yX13_adds) = true := ⟨lwt_s _ (List.mem_of_getElem? (i := 26) rfl), by decide +kernel⟩
set_option maxRecDepth 20000 in
theorem mw_1246 : (Cond.instanceMethod yX13_adds) ∈ lw_tbl ∧ goodWord (Cond.instanceMethod yX13_adds) = true := ⟨lwt_4 _ (List.mem_of_getElem? (i := 231) rfl), by decide +kernel⟩
set_option maxRecDepth 20000 in
theorem mw_1244 : (Cond.methodLink RX13 251 yX13_adds) ∈ lw_tbl ∧ goodWord (Cond.methodLink RX13 251 yX13_adds) = true := ⟨lwt_4 _ (List.mem_of_getElem? (i := 229) rfl), by decide +kernel⟩
set_option maxRecDepth 20000 in
theorem mw_1243 : (Cond.constantLong RX13 139 (-9223372036854775808)) ∈ lw_tbl ∧ goodWord (Cond.constantLong RX13 139 (-9223372036854775808)) = true := ⟨lwt_4 _ (List.mem_of_getElem? (i := 228) rfl), by decide +kernel⟩
set_option maxRecDepth 20000 in
theorem mw_1242 : (Cond.code yX13_times cX13_times 7 (some .long)) ∈ lw_tbl ∧ goodWord (Cond.code yX13_times cX13_times 7 (some .long)) = true := ⟨lwt_4 _ (List.mem_of_getElem? (i := 227) rfl), by decide +kernel⟩
set_option maxRecDepth 20000 in
theorem mw_25 : (Cond.selects RX13 yX13_times yX13_times) ∈ lw_tbl ∧ goodWord (Cond.selects RX13 yX13_times yX13_times) = true := ⟨lwt_s _ (List.mem_of_getElem? (i := 25) rfl), by decide +kernel⟩
set_option maxRecDepth 20000 in
theorem mw_1241 : (Cond.instanceMethod yX13_times) ∈ lw_tbl ∧ goodWord (Cond.instanceMethod yX13_times) = true := ⟨lwt_4 _ (List.mem_of_getElem? (i := 226) rfl), by decide +kernel⟩
set_option maxRecDepth 20000 in
theorem mw_1271 : (Cond.code yX13_laysFree cX13_laysFree 9 none) ∈ lw_tbl ∧ goodWord (Cond.code yX13_laysFree cX13_laysFree 9 none) = true := ⟨lwt_5 _ (List.mem_of_getElem? (i := 16) rfl), by decide +kernel⟩
set_option maxRecDepth 20000 in
theorem mw_31 : (Cond.selects RX13 yX13_laysFree yX13_laysFree) ∈ lw_tbl ∧ goodWord (Cond.selects RX13 yX13_laysFree yX13_laysFree) = true := ⟨lwt_s _ (List.mem_of_getElem? (i := 31) rfl), by decide +kernel⟩
set_option maxRecDepth 20000 in
theorem mw_1270 : (Cond.instanceMethod yX13_laysFree) ∈ lw_tbl ∧ goodWord (Cond.instanceMethod yX13_laysFree) = true := ⟨lwt_5 _ (List.mem_of_getElem? (i := 15) rfl), by decide +kernel⟩
set_option maxRecDepth 20000 in
theorem mw_1268 : (Cond.methodLink RX13 260 yX13_laysFree) ∈ lw_tbl ∧ goodWord (Cond.methodLink RX13 260 yX13_laysFree) = true := ⟨lwt_5 _ (List.mem_of_getElem? (i := 13) rfl), by decide +kernel⟩
set_option maxRecDepth 20000 in
theorem mw_1267 : (Cond.code yX13_means cX13_means 10 none) ∈ lw_tbl ∧ goodWord (Cond.code yX13_means cX13_means 10 none) = true := ⟨lwt_5 _ (List.mem_of_getElem? (i := 12) rfl), by decide +kernel⟩
set_option maxRecDepth 20000 in
theorem mw_30 : (Cond.selects RX13 yX13_means yX13_means) ∈ lw_tbl ∧ goodWord (Cond.selects RX13 yX13_means yX13_means) = true := ⟨lwt_s _ (List.mem_of_getElem? (i := 30) rfl), by decide +kernel⟩
set_option maxRecDepth 20000 in
theorem mw_1266 : (Cond.instanceMethod yX13_means) ∈ lw_tbl ∧ goodWord (Cond.instanceMethod yX13_means) = true := ⟨lwt_5 _ (List.mem_of_getElem? (i := 11) rfl), by decide +kernel⟩
set_option maxRecDepth 20000 in
theorem mw_1264 : (Cond.methodLink RX13 257 yX13_means) ∈ lw_tbl ∧ goodWord (Cond.methodLink RX13 257 yX13_means) = true := ⟨lwt_5 _ (List.mem_of_getElem? (i := 9) rfl), by decide +kernel⟩
set_option maxRecDepth 20000 in
theorem mw_1263 : (Cond.methodLink RX13 162 yJ9_floorDiv_f86c9) ∈ lw_tbl ∧ goodWord (Cond.methodLink RX13 162 yJ9_floorDiv_f86c9) = true := ⟨lwt_5 _ (List.mem_of_getElem? (i := 8) rfl), by decide +kernel⟩
set_option maxRecDepth 20000 in
theorem mw_1262 : (Cond.code yX13_compared cX13_compared 16 (some .int)) ∈ lw_tbl ∧ goodWord (Cond.code yX13_compared cX13_compared 16 (some .int)) = true := ⟨lwt_5 _ (List.mem_of_getElem? (i := 7) rfl), by decide +kernel⟩
set_option maxRecDepth 20000 in
theorem mw_1261 : (Cond.static yX13_compared) ∈ lw_tbl ∧ goodWord (Cond.static yX13_compared) = true := ⟨lwt_5 _ (List.mem_of_getElem? (i := 6) rfl), by decide +kernel⟩
set_option maxRecDepth 20000 in
theorem mw_1260 : (Cond.methodLink RX13 167 yX13_compared) ∈ lw_tbl ∧ goodWord (Cond.methodLink RX13 167 yX13_compared) = true := ⟨lwt_5 _ (List.mem_of_getElem? (i := 5) rfl), by decide +kernel⟩
set_option maxRecDepth 20000 in
theorem mw_1259 : (Cond.code yX13_takesBest cX13_takesBest 10 none) ∈ lw_tbl ∧ goodWord (Cond.code yX13_takesBest cX13_takesBest 10 none) = true := ⟨lwt_5 _ (List.mem_of_getElem? (i := 4) rfl), by decide +kernel⟩
set_option maxRecDepth 20000 in
theorem mw_29 : (Cond.selects RX13 yX13_takesBest yX13_takesBest) ∈ lw_tbl ∧ goodWord (Cond.selects RX13 yX13_takesBest yX13_takesBest) = true := ⟨lwt_s _ (List.mem_of_getElem? (i := 29) rfl), by decide +kernel⟩
set_option maxRecDepth 20000 in
theorem mw_1258 : (Cond.instanceMethod yX13_takesBest) ∈ lw_tbl ∧ goodWord (Cond.instanceMethod yX13_takesBest) = true := ⟨lwt_5 _ (List.mem_of_getElem? (i := 3) rfl), by decide +kernel⟩
set_option maxRecDepth 20000 in
theorem mw_1275 : (Cond.code yX13_mean cX13_mean 5 (some .long)) ∈ lw_tbl ∧ goodWord (Cond.code yX13_mean cX13_mean 5 (some .long)) = true := ⟨lwt_5 _ (List.mem_of_getElem? (i := 20) rfl), by decide +kernel⟩
set_option maxRecDepth 20000 in
theorem mw_1279 : (Cond.code yX13_valueAs cX13_valueAs 8 (some .long)) ∈ lw_tbl ∧ goodWord (Cond.code yX13_valueAs cX13_valueAs 8 (some .long)) = true := ⟨lwt_5 _ (List.mem_of_getElem? (i := 24) rfl), by decide +kernel⟩
set_option maxRecDepth 20000 in
theorem mw_1304 : (Cond.constantFloat RX13 298 (1061158912)) ∈ lw_tbl ∧ goodWord (Cond.constantFloat RX13 298 (1061158912)) = true := ⟨lwt_5 _ (List.mem_of_getElem? (i := 49) rfl), by decide +kernel⟩
set_option maxRecDepth 20000 in
theorem mw_1303 : (Cond.constantDouble RX13 296 (4600427019358961664)) ∈ lw_tbl ∧ goodWord (Cond.constantDouble RX13 296 (4600427019358961664)) = true := ⟨lwt_5 _ (List.mem_of_getElem? (i := 48) rfl), by decide +kernel⟩
set_option maxRecDepth 20000 in
theorem mw_1302 : (Cond.constantDouble RX13 294 (4652007308841189376)) ∈ lw_tbl ∧ goodWord (Cond.constantDouble RX13 294 (4652007308841189376)) = true := ⟨lwt_5 _ (List.mem_of_getElem? (i := 47) rfl), by decide +kernel⟩
set_option maxRecDepth 20000 in
theorem mw_1281 : (Cond.constantDouble RX13 280 (4636737291354636288)) ∈ lw_tbl ∧ goodWord (Cond.constantDouble RX13 280 (4636737291354636288)) = true := ⟨lwt_5 _ (List.mem_of_getElem? (i := 26) rfl), by decide +kernel⟩
set_option maxRecDepth 20000 in
theorem mw_1280 : (Cond.constantLong RX13 278 (5)) ∈ lw_tbl ∧ goodWord (Cond.constantLong RX13 278 (5)) = true := ⟨lwt_5 _ (List.mem_of_getElem? (i := 25) rfl), by decide +kernel⟩
set_option maxRecDepth 20000 in
theorem mw_1301 : (Cond.constantLong RJxe99ae 137 (9221120237041090560)) ∈ lw_tbl ∧ goodWord (Cond.constantLong RJxe99ae 137 (9221120237041090560)) = true := ⟨lwt_5 _ (List.mem_of_getElem? (i := 46) rfl), by decide +kernel⟩
set_option maxRecDepth 20000 in
theorem mw_74 : (Cond.initialized "java/lang/Double") ∈ lw_tbl ∧ goodWord (Cond.initialized "java/lang/Double") = true := ⟨lwt_0 _ (List.mem_of_getElem? (i := 19) rfl), by decide +kernel⟩
set_option maxRecDepth 20000 in
theorem mw_1299 : (Cond.static ⟨"java/lang/Double", "doubleToRawLongBits", "(D)J"⟩) ∈ lw_tbl ∧ goodWord (Cond.static ⟨"java/lang/Double", "doubleToRawLongBits", "(D)J"⟩) = true := ⟨lwt_5 _ (List.mem_of_getElem? (i := 44) rfl), by decide +kernel⟩
set_option maxRecDepth 20000 in
theorem mw_1300 : (Cond.native ⟨"java/lang/Double", "doubleToRawLongBits", "(D)J"⟩) ∈ lw_tbl ∧ goodWord (Cond.native ⟨"java/lang/Double", "doubleToRawLongBits", "(D)J"⟩) = true := ⟨lwt_5 _ (List.mem_of_getElem? (i := 45) rfl), by decide +kernel⟩
set_option maxRecDepth 20000 in
theorem mw_1298 : (Cond.methodLink RJxe99ae 134 ⟨"java/lang/Double", "doubleToRawLongBits", "(D)J"⟩) ∈ lw_tbl ∧ goodWord (Cond.methodLink RJxe99ae 134 ⟨"java/lang/Double", "doubleToRawLongBits", "(D)J"⟩) = true := ⟨lwt_5 _ (List.mem_of_getElem? (i := 43) rfl), by decide +kernel⟩
set_option maxRecDepth 20000 in
theorem mw_1294 : (Cond.code yJxe99ae_doubleToLongBits_ccdee cJxe99ae_doubleToLongBits_ccdee 2 (some .long)) ∈ lw_tbl ∧ goodWord (Cond.code yJxe99ae_doubleToLongBits_ccdee cJxe99ae_doubleToLongBits_ccdee 2 (some .long)) = true := ⟨lwt_5 _ (List.mem_of_getElem? (i := 39) rfl), by decide +kernel⟩
set_option maxRecDepth 20000 in
theorem mw_1293 : (Cond.static yJxe99ae_doubleToLongBits_ccdee) ∈ lw_tbl ∧ goodWord (Cond.static yJxe99ae_doubleToLongBits_ccdee) = true := ⟨lwt_5 _ (List.mem_of_getElem? (i := 38) rfl), by decide +kernel⟩
set_option maxRecDepth 20000 in
theorem mw_1292 : (Cond.methodLink RX13 288 yJxe99ae_doubleToLongBits_ccdee) ∈ lw_tbl ∧ goodWord (Cond.methodLink RX13 288 yJxe99ae_doubleToLongBits_ccdee) = true := ⟨lwt_5 _ (List.mem_of_getElem? (i := 37) rfl), by decide +kernel⟩
set_option maxRecDepth 20000 in
theorem mw_1287 : (Cond.code yJxf58ca_isNaN_12338 cJxf58ca_isNaN_12338 1 (some .boolean)) ∈ lw_tbl ∧ goodWord (Cond.code yJxf58ca_isNaN_12338 cJxf58ca_isNaN_12338 1 (some .boolean)) = true := ⟨lwt_5 _ (List.mem_of_getElem? (i := 32) rfl), by decide +kernel⟩
set_option maxRecDepth 20000 in
theorem mw_1286 : (Cond.static yJxf58ca_isNaN_12338) ∈ lw_tbl ∧ goodWord (Cond.static yJxf58ca_isNaN_12338) = true := ⟨lwt_5 _ (List.mem_of_getElem? (i := 31) rfl), by decide +kernel⟩
set_option maxRecDepth 20000 in
theorem mw_1285 : (Cond.methodLink RJxf58ca 59 yJxf58ca_isNaN_12338) ∈ lw_tbl ∧ goodWord (Cond.methodLink RJxf58ca 59 yJxf58ca_isNaN_12338) = true := ⟨lwt_5 _ (List.mem_of_getElem? (i := 30) rfl), by decide +kernel⟩
set_option maxRecDepth 20000 in
theorem mw_1291 : (Cond.constant RJxf58ca 77 (2143289344)) ∈ lw_tbl ∧ goodWord (Cond.constant RJxf58ca 77 (2143289344)) = true := ⟨lwt_5 _ (List.mem_of_getElem? (i := 36) rfl), by decide +kernel⟩
set_option maxRecDepth 20000 in
theorem mw_73 : (Cond.initialized "java/lang/Float") ∈ lw_tbl ∧ goodWord (Cond.initialized "java/lang/Float") = true := ⟨lwt_0 _ (List.mem_of_getElem? (i := 18) rfl), by decide +kernel⟩
set_option maxRecDepth 20000 in
theorem mw_1289 : (Cond.static ⟨"java/lang/Float", "floatToRawIntBits", "(F)I"⟩) ∈ lw_tbl ∧ goodWord (Cond.static ⟨"java/lang/Float", "floatToRawIntBits", "(F)I"⟩) = true := ⟨lwt_5 _ (List.mem_of_getElem? (i := 34) rfl), by decide +kernel⟩
set_option maxRecDepth 20000 in
theorem mw_1290 : (Cond.native ⟨"java/lang/Float", "floatToRawIntBits", "(F)I"⟩) ∈ lw_tbl ∧ goodWord (Cond.native ⟨"java/lang/Float", "floatToRawIntBits", "(F)I"⟩) = true := ⟨lwt_5 _ (List.mem_of_getElem? (i := 35) rfl), by decide +kernel⟩
set_option maxRecDepth 20000 in
theorem mw_1288 : (Cond.methodLink RJxf58ca 74 ⟨"java/lang/Float", "floatToRawIntBits", "(F)I"⟩) ∈ lw_tbl ∧ goodWord (Cond.methodLink RJxf58ca 74 ⟨"java/lang/Float", "floatToRawIntBits", "(F)I"⟩) = true := ⟨lwt_5 _ (List.mem_of_getElem? (i := 33) rfl), by decide +kernel⟩
set_option maxRecDepth 20000 in
theorem mw_1284 : (Cond.code yJxf58ca_floatToIntBits_5c35a cJxf58ca_floatToIntBits_5c35a 1 (some .int)) ∈ lw_tbl ∧ goodWord (Cond.code yJxf58ca_floatToIntBits_5c35a cJxf58ca_floatToIntBits_5c35a 1 (some .int)) = true := ⟨lwt_5 _ (List.mem_of_getElem? (i := 29) rfl), by decide +kernel⟩
set_option maxRecDepth 20000 in
theorem mw_1283 : (Cond.static yJxf58ca_floatToIntBits_5c35a) ∈ lw_tbl ∧ goodWord (Cond.static yJxf58ca_floatToIntBits_5c35a) = true := ⟨lwt_5 _ (List.mem_of_getElem? (i := 28) rfl), by decide +kernel⟩
set_option maxRecDepth 20000 in
theorem mw_1282 : (Cond.methodLink RX13 282 yJxf58ca_floatToIntBits_5c35a) ∈ lw_tbl ∧ goodWord (Cond.methodLink RX13 282 yJxf58ca_floatToIntBits_5c35a) = true := ⟨lwt_5 _ (List.mem_of_getElem? (i := 27) rfl), by decide +kernel⟩
set_option maxRecDepth 20000 in
theorem mw_1297 : (Cond.code yJxe99ae_isNaN_b9ae7 cJxe99ae_isNaN_b9ae7 2 (some .boolean)) ∈ lw_tbl ∧ goodWord (Cond.code yJxe99ae_isNaN_b9ae7 cJxe99ae_isNaN_b9ae7 2 (some .boolean)) = true := ⟨lwt_5 _ (List.mem_of_getElem? (i := 42) rfl), by decide +kernel⟩
set_option maxRecDepth 20000 in
theorem mw_1296 : (Cond.static yJxe99ae_isNaN_b9ae7) ∈ lw_tbl ∧ goodWord (Cond.static yJxe99ae_isNaN_b9ae7) = true := ⟨lwt_5 _ (List.mem_of_getElem? (i := 41) rfl), by decide +kernel⟩
set_option maxRecDepth 20000 in
theorem mw_1295 : (Cond.methodLink RJxe99ae 122 yJxe99ae_isNaN_b9ae7) ∈ lw_tbl ∧ goodWord (Cond.methodLink RJxe99ae 122 yJxe99ae_isNaN_b9ae7) = true := ⟨lwt_5 _ (List.mem_of_getElem? (i := 40) rfl), by decide +kernel⟩
set_option maxRecDepth 20000 in
theorem mw_1308 : (Cond.code yX13_chosen cX13_chosen 4 (some .int)) ∈ lw_tbl ∧ goodWord (Cond.code yX13_chosen cX13_chosen 4 (some .int)) = true := ⟨lwt_5 _ (List.mem_of_getElem? (i := 53) rfl), by decide +kernel⟩
set_option maxRecDepth 20000 in
theorem mw_1315 : (Cond.instanceMethod yX13_isMuchAt) ∈ lw_tbl ∧ goodWord (Cond.instanceMethod yX13_isMuchAt) = true := ⟨lwt_5 _ (List.mem_of_getElem? (i := 60) rfl), by decide +kernel⟩
set_option maxRecDepth 20000 in
theorem mw_1313 : (Cond.methodLink RX13 299 yX13_isMuchAt) ∈ lw_tbl ∧ goodWord (Cond.methodLink RX13 299 yX13_isMuchAt) = true := ⟨lwt_5 _ (List.mem_of_getElem? (i := 58) rfl), by decide +kernel⟩
set_option maxRecDepth 20000 in
theorem mw_1312 : (Cond.code yX13_chosenAt cX13_chosenAt 7 (some .int)) ∈ lw_tbl ∧ goodWord (Cond.code yX13_chosenAt cX13_chosenAt 7 (some .int)) = true := ⟨lwt_5 _ (List.mem_of_getElem? (i := 57) rfl), by decide +kernel⟩
set_option maxRecDepth 20000 in
theorem mw_32 : (Cond.selects RX13 yX13_chosenAt yX13_chosenAt) ∈ lw_tbl ∧ goodWord (Cond.selects RX13 yX13_chosenAt yX13_chosenAt) = true := ⟨lwt_s _ (List.mem_of_getElem? (i := 32) rfl), by decide +kernel⟩
set_option maxRecDepth 20000 in
theorem mw_1311 : (Cond.instanceMethod yX13_chosenAt) ∈ lw_tbl ∧ goodWord (Cond.instanceMethod yX13_chosenAt) = true := ⟨lwt_5 _ (List.mem_of_getElem? (i := 56) rfl), by decide +kernel⟩
set_option maxRecDepth 20000 in
theorem mw_1309 : (Cond.methodLink RX13 306 yX13_chosenAt) ∈ lw_tbl ∧ goodWord (Cond.methodLink RX13 306 yX13_chosenAt) = true := ⟨lwt_5 _ (List.mem_of_getElem? (i := 54) rfl), by decide +kernel⟩
set_option maxRecDepth 20000 in
theorem mw_1320 : (Cond.code yX13_comparedAt cX13_comparedAt 7 (some .int)) ∈ lw_tbl ∧ goodWord (Cond.code yX13_comparedAt cX13_comparedAt 7 (some .int)) = true := ⟨lwt_5 _ (List.mem_of_getElem? (i := 65) rfl), by decide +kernel⟩
set_option maxRecDepth 20000 in
theorem mw_34 : (Cond.selects RX13 yX13_comparedAt yX13_comparedAt) ∈ lw_tbl ∧ goodWord (Cond.selects RX13 yX13_comparedAt yX13_comparedAt) = true := ⟨lwt_s _ (List.mem_of_getElem? (i := 34) rfl), by decide +kernel⟩
set_option maxRecDepth 20000 in
theorem mw_1319 : (Cond.instanceMethod yX13_comparedAt) ∈ lw_tbl ∧ goodWord (Cond.instanceMethod yX13_comparedAt) = true := ⟨lwt_5 _ (List.mem_of_getElem? (i := 64) rfl), by decide +kernel⟩
set_option maxRecDepth 20000 in
theorem mw_1317 : (Cond.methodLink RX13 303 yX13_comparedAt) ∈ lw_tbl ∧ goodWord (Cond.methodLink RX13 303 yX13_comparedAt) = true := ⟨lwt_5 _ (List.mem_of_getElem? (i := 62) rfl), by decide +kernel⟩
set_option maxRecDepth 20000 in
theorem mw_1316 : (Cond.code yX13_isMuchAt cX13_isMuchAt 4 (some .boolean)) ∈ lw_tbl ∧ goodWord (Cond.code yX13_isMuchAt cX13_isMuchAt 4 (some .boolean)) = true := ⟨lwt_5 _ (List.mem_of_getElem? (i := 61) rfl), by decide +kernel⟩
set_option maxRecDepth 20000 in
theorem mw_33 : (Cond.selects RX13 yX13_isMuchAt yX13_isMuchAt) ∈ lw_tbl ∧ goodWord (Cond.selects RX13 yX13_isMuchAt yX13_isMuchAt) = true := ⟨lwt_s _ (List.mem_of_getElem? (i := 33) rfl), by decide +kernel⟩
set_option maxRecDepth 20000 in
theorem mw_1324 : (Cond.code yX13_taken cX13_taken 4 (some .int)) ∈ lw_tbl ∧ goodWord (Cond.code yX13_taken cX13_taken 4 (some .int)) = true := ⟨lwt_5 _ (List.mem_of_getElem? (i := 69) rfl), by decide +kernel⟩
set_option maxRecDepth 20000 in
theorem mw_1328 : (Cond.code yX13_takenAt cX13_takenAt 9 (some .int)) ∈ lw_tbl ∧ goodWord (Cond.code yX13_takenAt cX13_takenAt 9 (some .int)) = true := ⟨lwt_5 _ (List.mem_of_getElem? (i := 73) rfl), by decide +kernel⟩
set_option maxRecDepth 20000 in
theorem mw_35 : (Cond.selects RX13 yX13_takenAt yX13_takenAt) ∈ lw_tbl ∧ goodWord (Cond.selects RX13 yX13_takenAt yX13_takenAt) = true := ⟨lwt_s _ (List.mem_of_getElem? (i := 35) rfl), by decide +kernel⟩
set_option maxRecDepth 20000 in
theorem mw_1327 : (Cond.instanceMethod yX13_takenAt) ∈ lw_tbl ∧ goodWord (Cond.instanceMethod yX13_takenAt) = true := ⟨lwt_5 _ (List.mem_of_getElem? (i := 72) rfl), by decide +kernel⟩
set_option maxRecDepth 20000 in
theorem mw_1325 : (Cond.methodLink RX13 309 yX13_takenAt) ∈ lw_tbl ∧ goodWord (Cond.methodLink RX13 309 yX13_takenAt) = true := ⟨lwt_5 _ (List.mem_of_getElem? (i := 70) rfl), by decide +kernel⟩
set_option maxRecDepth 20000 in
theorem mw_1332 : (Cond.code yX13_alike cX13_alike 6 (some .int)) ∈ lw_tbl ∧ goodWord (Cond.code yX13_alike cX13_alike 6 (some .int)) = true := ⟨lwt_5 _ (List.mem_of_getElem? (i := 77) rfl), by decide +kernel⟩
set_option maxRecDepth 20000 in
theorem mw_1336 : (Cond.code yX13_unlike cX13_unlike 5 (some .int)) ∈ lw_tbl ∧ goodWord (Cond.code yX13_unlike cX13_unlike 5 (some .int)) = true := ⟨lwt_5 _ (List.mem_of_getElem? (i := 81) rfl), by decide +kernel⟩
set_option maxRecDepth 20000 in
theorem mw_1340 : (Cond.code yX13_most cX13_most 8 (some .int)) ∈ lw_tbl ∧ goodWord (Cond.code yX13_most cX13_most 8 (some .int)) = true := ⟨lwt_5 _ (List.mem_of_getElem? (i := 85) rfl), by decide +kernel⟩
set_option maxRecDepth 20000 in
theorem mw_1344 : (Cond.code yX13_due cX13_due 5 (some .long)) ∈ lw_tbl ∧ goodWord (Cond.code yX13_due cX13_due 5 (some .long)) = true := ⟨lwt_5 _ (List.mem_of_getElem? (i := 89) rfl), by decide +kernel⟩
set_option maxRecDepth 20000 in
theorem mw_1349 : (Cond.methodLink RX13 329 yX13_laysDues) ∈ lw_tbl ∧ goodWord (Cond.methodLink RX13 329 yX13_laysDues) = true := ⟨lwt_5 _ (List.mem_of_getElem? (i := 94) rfl), by decide +kernel⟩
set_option maxRecDepth 20000 in
theorem mw_1348 : (Cond.code yX13_isHad cX13_isHad 4 (some .boolean)) ∈ lw_tbl ∧ goodWord (Cond.code yX13_isHad cX13_isHad 4 (some .boolean)) = true := ⟨lwt_5 _ (List.mem_of_getElem? (i := 93) rfl), by decide +kernel⟩
set_option maxRecDepth 20000 in
theorem mw_36 : (Cond.selects RX13 yX13_isHad yX13_isHad) ∈ lw_tbl ∧ goodWord (Cond.selects RX13 yX13_isHad yX13_isHad) = true := ⟨lwt_s _ (List.mem_of_getElem? (i := 36) rfl), by decide +kernel⟩
set_option maxRecDepth 20000 in
theorem mw_1347 : (Cond.instanceMethod yX13_isHad) ∈ lw_tbl ∧ goodWord (Cond.instanceMethod yX13_isHad) = true := ⟨lwt_5 _ (List.mem_of_getElem? (i := 92) rfl), by decide +kernel⟩
set_option maxRecDepth 20000 in
theorem mw_1345 : (Cond.methodLink RX13 326 yX13_isHad) ∈ lw_tbl ∧ goodWord (Cond.methodLink RX13 326 yX13_isHad) = true := ⟨lwt_5 _ (List.mem_of_getElem? (i := 90) rfl), by decide +kernel⟩
set_option maxRecDepth 20000 in
theorem mw_1007 : (Cond.fieldLink RX13 312 "ClauseBookModel" "dueBits" "I") ∈ lw_tbl ∧ goodWord (Cond.fieldLink RX13 312 "ClauseBookModel" "dueBits" "I") = true := ⟨lwt_3 _ (List.mem_of_getElem? (i := 232) rfl), by decide +kernel⟩
set_option maxRecDepth 20000 in
theorem mw_1352 : (Cond.code yX13_laysDues cX13_laysDues 5 (some .boolean)) ∈ lw_tbl ∧ goodWord (Cond.code yX13_laysDues cX13_laysDues 5 (some .boolean)) = true := ⟨lwt_5 _ (List.mem_of_getElem? (i := 97) rfl), by decide +kernel⟩
set_option maxRecDepth 20000 in
theorem mw_37 : (Cond.selects RX13 yX13_laysDues yX13_laysDues) ∈ lw_tbl ∧ goodWord (Cond.selects RX13 yX13_laysDues yX13_laysDues) = true := ⟨lwt_s _ (List.mem_of_getElem? (i := 37) rfl), by decide +kernel⟩
set_option maxRecDepth 20000 in
theorem mw_1351 : (Cond.instanceMethod yX13_laysDues) ∈ lw_tbl ∧ goodWord (Cond.instanceMethod yX13_laysDues) = true := ⟨lwt_5 _ (List.mem_of_getElem? (i := 96) rfl), by decide +kernel⟩
set_option maxRecDepth 20000 in
theorem mw_39 : (Cond.selects RX13 yX13_fallsTimes yX13_fallsTimes) ∈ lw_tbl ∧ goodWord (Cond.selects RX13 yX13_fallsTimes yX13_fallsTimes) = true := ⟨lwt_s _ (List.mem_of_getElem? (i := 39) rfl), by decide +kernel⟩
set_option maxRecDepth 20000 in
theorem mw_1359 : (Cond.instanceMethod yX13_fallsTimes) ∈ lw_tbl ∧ goodWord (Cond.instanceMethod yX13_fallsTimes) = true := ⟨lwt_5 _ (List.mem_of_getElem? (i := 104) rfl), by decide +kernel⟩
set_option maxRecDepth 20000 in
theorem mw_1357 : (Cond.methodLink RX13 315 yX13_fallsTimes) ∈ lw_tbl ∧ goodWord (Cond.methodLink RX13 315 yX13_fallsTimes) = true := ⟨lwt_5 _ (List.mem_of_getElem? (i := 102) rfl), by decide +kernel⟩
set_option maxRecDepth 20000 in
theorem mw_1356 : (Cond.code yX13_falls cX13_falls 10 none) ∈ lw_tbl ∧ goodWord (Cond.code yX13_falls cX13_falls 10 none) = true := ⟨lwt_5 _ (List.mem_of_getElem? (i := 101) rfl), by decide +kernel⟩
set_option maxRecDepth 20000 in
theorem mw_38 : (Cond.selects RX13 yX13_falls yX13_falls) ∈ lw_tbl ∧ goodWord (Cond.selects RX13 yX13_falls yX13_falls) = true := ⟨lwt_s _ (List.mem_of_getElem? (i := 38) rfl), by decide +kernel⟩
set_option maxRecDepth 20000 in
theorem mw_1355 : (Cond.instanceMethod yX13_falls) ∈ lw_tbl ∧ goodWord (Cond.instanceMethod yX13_falls) = true := ⟨lwt_5 _ (List.mem_of_getElem? (i := 100) rfl), by decide +kernel⟩
set_option maxRecDepth 20000 in
theorem mw_1353 : (Cond.methodLink RX13 319 yX13_falls) ∈ lw_tbl ∧ goodWord (Cond.methodLink RX13 319 yX13_falls) = true := ⟨lwt_5 _ (List.mem_of_getElem? (i := 98) rfl), by decide +kernel⟩
set_option maxRecDepth 20000 in
theorem mw_1360 : (Cond.code yX13_fallsTimes cX13_fallsTimes 10 none) ∈ lw_tbl ∧ goodWord (Cond.code yX13_fallsTimes cX13_fallsTimes 10 none) = true := ⟨lwt_5 _ (List.mem_of_getElem? (i := 105) rfl), by decide +kernel⟩
set_option maxRecDepth 20000 in
theorem mw_1364 : (Cond.code yX13_fallsBy cX13_fallsBy 6 none) ∈ lw_tbl ∧ goodWord (Cond.code yX13_fallsBy cX13_fallsBy 6 none) = true := ⟨lwt_5 _ (List.mem_of_getElem? (i := 109) rfl), by decide +kernel⟩
set_option maxRecDepth 20000 in
theorem mw_40 : (Cond.selects RX13 yX13_fallsBy yX13_fallsBy) ∈ lw_tbl ∧ goodWord (Cond.selects RX13 yX13_fallsBy yX13_fallsBy) = true := ⟨lwt_s _ (List.mem_of_getElem? (i := 40) rfl), by decide +kernel⟩
set_option maxRecDepth 20000 in
theorem mw_1363 : (Cond.instanceMethod yX13_fallsBy) ∈ lw_tbl ∧ goodWord (Cond.instanceMethod yX13_fallsBy) = true := ⟨lwt_5 _ (List.mem_of_getElem? (i := 108) rfl), by decide +kernel⟩
set_option maxRecDepth 20000 in
theorem mw_1361 : (Cond.methodLink RX13 323 yX13_fallsBy) ∈ lw_tbl ∧ goodWord (Cond.methodLink RX13 323 yX13_fallsBy) = true := ⟨lwt_5 _ (List.mem_of_getElem? (i := 106) rfl), by decide +kernel⟩
set_option maxRecDepth 20000 in
theorem mw_1368 : (Cond.code yX13_dueDays cX13_dueDays 4 (some .int)) ∈ lw_tbl ∧ goodWord (Cond.code yX13_dueDays cX13_dueDays 4 (some .int)) = true := ⟨lwt_5 _ (List.mem_of_getElem? (i := 113) rfl), by decide +kernel⟩
set_option maxRecDepth 20000 in
theorem mw_1372 : (Cond.code yX13_failed cX13_failed 13 (some .long)) ∈ lw_tbl ∧ goodWord (Cond.code yX13_failed cX13_failed 13 (some .long)) = true := ⟨lwt_5 _ (List.mem_of_getElem? (i := 117) rfl), by decide +kernel⟩
set_option maxRecDepth 20000 in
theorem mw_1376 : (Cond.code yX13_dues cX13_dues 7 (some .int)) ∈ lw_tbl ∧ goodWord (Cond.code yX13_dues cX13_dues 7 (some .int)) = true := ⟨lwt_5 _ (List.mem_of_getElem? (i := 121) rfl), by decide +kernel⟩
set_option maxRecDepth 20000 in
theorem mw_1380 : (Cond.constantLong RX13 408 (3)) ∈ lw_tbl ∧ goodWord (Cond.constantLong RX13 408 (3)) = true := ⟨lwt_5 _ (List.mem_of_getElem? (i := 125) rfl), by decide +kernel⟩
set_option maxRecDepth 20000 in
theorem mw_1379 : (Cond.code yX13_isSheet cX13_isSheet 1 (some .boolean)) ∈ lw_tbl ∧ goodWord (Cond.code yX13_isSheet cX13_isSheet 1 (some .boolean)) = true := ⟨lwt_5 _ (List.mem_of_getElem? (i := 124) rfl), by decide +kernel⟩
set_option maxRecDepth 20000 in
theorem mw_1378 : (Cond.static yX13_isSheet) ∈ lw_tbl ∧ goodWord (Cond.static yX13_isSheet) = true := ⟨lwt_5 _ (List.mem_of_getElem? (i := 123) rfl), by decide +kernel⟩
set_option maxRecDepth 20000 in
theorem mw_1377 : (Cond.methodLink RX13 332 yX13_isSheet) ∈ lw_tbl ∧ goodWord (Cond.methodLink RX13 332 yX13_isSheet) = true := ⟨lwt_5 _ (List.mem_of_getElem? (i := 122) rfl), by decide +kernel⟩
set_option maxRecDepth 20000 in
theorem mw_1385 : (Cond.methodLink RX13 410 yX13_wrong) ∈ lw_tbl ∧ goodWord (Cond.methodLink RX13 410 yX13_wrong) = true := ⟨lwt_5 _ (List.mem_of_getElem? (i := 130) rfl), by decide +kernel⟩
set_option maxRecDepth 20000 in
theorem mw_1384 : (Cond.code yX13_cell cX13_cell 6 (some .int)) ∈ lw_tbl ∧ goodWord (Cond.code yX13_cell cX13_cell 6 (some .int)) = true := ⟨lwt_5 _ (List.mem_of_getElem? (i := 129) rfl), by decide +kernel⟩
set_option maxRecDepth 20000 in
theorem mw_1383 : (Cond.selects RX13 yX13_cell yX13_cell) ∈ lw_tbl ∧ goodWord (Cond.selects RX13 yX13_cell yX13_cell) = true := ⟨lwt_5 _ (List.mem_of_getElem? (i := 128) rfl), by decide +kernel⟩
set_option maxRecDepth 20000 in
theorem mw_1382 : (Cond.instanceMethod yX13_cell) ∈ lw_tbl ∧ goodWord (Cond.instanceMethod yX13_cell) = true := ⟨lwt_5 _ (List.mem_of_getElem? (i := 127) rfl), by decide +kernel⟩
set_option maxRecDepth 20000 in
theorem mw_1381 : (Cond.methodLink RX13 335 yX13_cell) ∈ lw_tbl ∧ goodWord (Cond.methodLink RX13 335 yX13_cell) = true := ⟨lwt_5 _ (List.mem_of_getElem? (i := 126) rfl), by decide +kernel⟩
set_option maxRecDepth 20000 in
theorem mw_1388 : (Cond.code yX13_wrong cX13_wrong 3 (some .int)) ∈ lw_tbl ∧ goodWord (Cond.code yX13_wrong cX13_wrong 3 (some .int)) = true := ⟨lwt_5 _ (List.mem_of_getElem? (i := 133) rfl), by decide +kernel⟩
set_option maxRecDepth 20000 in
theorem mw_41 : (Cond.selects RX13 yX13_wrong yX13_wrong) ∈ lw_tbl ∧ goodWord (Cond.selects RX13 yX13_wrong yX13_wrong) = true := ⟨lwt_s _ (List.mem_of_getElem? (i := 41) rfl), by decide +kernel⟩
set_option maxRecDepth 20000 in
theorem mw_1387 : (Cond.instanceMethod yX13_wrong) ∈ lw_tbl ∧ goodWord (Cond.instanceMethod yX13_wrong) = true := ⟨lwt_5 _ (List.mem_of_getElem? (i := 132) rfl), by decide +kernel⟩
set_option maxRecDepth 20000 in
theorem mw_1392 : (Cond.code yX13_feed cX13_feed 4 (some .int)) ∈ lw_tbl ∧ goodWord (Cond.code yX13_feed cX13_feed 4 (some .int)) = true := ⟨lwt_5 _ (List.mem_of_getElem? (i := 137) rfl), by decide +kernel⟩
set_option maxRecDepth 20000 in
theorem mw_1009 : (Cond.fieldLink RX13 341 "ClauseBookModel" "taped" "I") ∈ lw_tbl ∧ goodWord (Cond.fieldLink RX13 341 "ClauseBookModel" "taped" "I") = true := ⟨lwt_3 _ (List.mem_of_getElem? (i := 234) rfl), by decide +kernel⟩
set_option maxRecDepth 20000 in
theorem mw_1393 : (Cond.constantLong RX13 339 (4)) ∈ lw_tbl ∧ goodWord (Cond.constantLong RX13 339 (4)) = true := ⟨lwt_5 _ (List.mem_of_getElem? (i := 138) rfl), by decide +kernel⟩
set_option maxRecDepth 20000 in
theorem mw_1397 : (Cond.code yX13_text cX13_text 3 (some .int)) ∈ lw_tbl ∧ goodWord (Cond.code yX13_text cX13_text 3 (some .int)) = true := ⟨lwt_5 _ (List.mem_of_getElem? (i := 142) rfl), by decide +kernel⟩
set_option maxRecDepth 20000 in
theorem mw_1409 : (Cond.code yX13_here cX13_here 1 (some .int)) ∈ lw_tbl ∧ goodWord (Cond.code yX13_here cX13_here 1 (some .int)) = true := ⟨lwt_5 _ (List.mem_of_getElem? (i := 154) rfl), by decide +kernel⟩
set_option maxRecDepth 20000 in
theorem mw_44 : (Cond.selects RX13 yX13_here yX13_here) ∈ lw_tbl ∧ goodWord (Cond.selects RX13 yX13_here yX13_here) = true := ⟨lwt_s _ (List.mem_of_getElem? (i := 44) rfl), by decide +kernel⟩
set_option maxRecDepth 20000 in
theorem mw_1408 : (Cond.instanceMethod yX13_here) ∈ lw_tbl ∧ goodWord (Cond.instanceMethod yX13_here) = true := ⟨lwt_5 _ (List.mem_of_getElem? (i := 153) rfl), by decide +kernel⟩
set_option maxRecDepth 20000 in
theorem mw_1406 : (Cond.methodLink RX13 350 yX13_here) ∈ lw_tbl ∧ goodWord (Cond.methodLink RX13 350 yX13_here) = true := ⟨lwt_5 _ (List.mem_of_getElem? (i := 151) rfl), by decide +kernel⟩
set_option maxRecDepth 20000 in
theorem mw_1405 : (Cond.code yX13_blanks cX13_blanks 1 none) ∈ lw_tbl ∧ goodWord (Cond.code yX13_blanks cX13_blanks 1 none) = true := ⟨lwt_5 _ (List.mem_of_getElem? (i := 150) rfl), by decide +kernel⟩
set_option maxRecDepth 20000 in
theorem mw_43 : (Cond.selects RX13 yX13_blanks yX13_blanks) ∈ lw_tbl ∧ goodWord (Cond.selects RX13 yX13_blanks yX13_blanks) = true := ⟨lwt_s _ (List.mem_of_getElem? (i := 43) rfl), by decide +kernel⟩
set_option maxRecDepth 20000 in
theorem mw_1404 : (Cond.instanceMethod yX13_blanks) ∈ lw_tbl ∧ goodWord (Cond.instanceMethod yX13_blanks) = true := ⟨lwt_5 _ (List.mem_of_getElem? (i := 149) rfl), by decide +kernel⟩
set_option maxRecDepth 20000 in
theorem mw_1402 : (Cond.methodLink RX13 358 yX13_blanks) ∈ lw_tbl ∧ goodWord (Cond.methodLink RX13 358 yX13_blanks) = true := ⟨lwt_5 _ (List.mem_of_getElem? (i := 147) rfl), by decide +kernel⟩
set_option maxRecDepth 20000 in
theorem mw_1016 : (Cond.fieldLink RX13 369 "ClauseBookModel" "value" "I") ∈ lw_tbl ∧ goodWord (Cond.fieldLink RX13 369 "ClauseBookModel" "value" "I") = true := ⟨lwt_4 _ (List.mem_of_getElem? (i := 1) rfl), by decide +kernel⟩
set_option maxRecDepth 20000 in
theorem mw_1411 : (Cond.constantLong RX13 385 (122)) ∈ lw_tbl ∧ goodWord (Cond.constantLong RX13 385 (122)) = true := ⟨lwt_5 _ (List.mem_of_getElem? (i := 156) rfl), by decide +kernel⟩
set_option maxRecDepth 20000 in
theorem mw_1410 : (Cond.constantLong RX13 383 (97)) ∈ lw_tbl ∧ goodWord (Cond.constantLong RX13 383 (97)) = true := ⟨lwt_5 _ (List.mem_of_getElem? (i := 155) rfl), by decide +kernel⟩
set_option maxRecDepth 20000 in
theorem mw_1401 : (Cond.code yX13_told cX13_told 6 (some .int)) ∈ lw_tbl ∧ goodWord (Cond.code yX13_told cX13_told 6 (some .int)) = true := ⟨lwt_5 _ (List.mem_of_getElem? (i := 146) rfl), by decide +kernel⟩
set_option maxRecDepth 20000 in
theorem mw_42 : (Cond.selects RX13 yX13_told yX13_told) ∈ lw_tbl ∧ goodWord (Cond.selects RX13 yX13_told yX13_told) = true := ⟨lwt_s _ (List.mem_of_getElem? (i := 42) rfl), by decide +kernel⟩
set_option maxRecDepth 20000 in
theorem mw_1400 : (Cond.instanceMethod yX13_told) ∈ lw_tbl ∧ goodWord (Cond.instanceMethod yX13_told) = true := ⟨lwt_5 _ (List.mem_of_getElem? (i := 145) rfl), by decide +kernel⟩
set_option maxRecDepth 20000 in
theorem mw_1398 : (Cond.methodLink RX13 402 yX13_told) ∈ lw_tbl ∧ goodWord (Cond.methodLink RX13 402 yX13_told) = true := ⟨lwt_5 _ (List.mem_of_getElem? (i := 143) rfl), by decide +kernel⟩
set_option maxRecDepth 20000 in
theorem mw_1012 : (Cond.fieldLink RX13 347 "ClauseBookModel" "fault" "I") ∈ lw_tbl ∧ goodWord (Cond.fieldLink RX13 347 "ClauseBookModel" "fault" "I") = true := ⟨lwt_3 _ (List.mem_of_getElem? (i := 237) rfl), by decide +kernel⟩
set_option maxRecDepth 20000 in
theorem mw_1015 : (Cond.fieldLink RX13 396 "ClauseBookModel" "room" "I") ∈ lw_tbl ∧ goodWord (Cond.fieldLink RX13 396 "ClauseBookModel" "room" "I") = true := ⟨lwt_4 _ (List.mem_of_getElem? (i := 0) rfl), by decide +kernel⟩
set_option maxRecDepth 20000 in
theorem mw_1014 : (Cond.fieldLink RX13 393 "ClauseBookModel" "open" "I") ∈ lw_tbl ∧ goodWord (Cond.fieldLink RX13 393 "ClauseBookModel" "open" "I") = true := ⟨lwt_3 _ (List.mem_of_getElem? (i := 239) rfl), by decide +kernel⟩
set_option maxRecDepth 20000 in
theorem mw_1013 : (Cond.fieldLink RX13 390 "ClauseBookModel" "read" "I") ∈ lw_tbl ∧ goodWord (Cond.fieldLink RX13 390 "ClauseBookModel" "read" "I") = true := ⟨lwt_3 _ (List.mem_of_getElem? (i := 238) rfl), by decide +kernel⟩
set_option maxRecDepth 20000 in
theorem mw_1011 : (Cond.fieldLink RX13 344 "ClauseBookModel" "cursor" "I") ∈ lw_tbl ∧ goodWord (Cond.fieldLink RX13 344 "ClauseBookModel" "cursor" "I") = true := ⟨lwt_3 _ (List.mem_of_getElem? (i := 236) rfl), by decide +kernel⟩
set_option maxRecDepth 20000 in
theorem mw_1420 : (Cond.methodLink RX13 376 yJ0_length_8abf5) ∈ lw_tbl ∧ goodWord (Cond.methodLink RX13 376 yJ0_length_8abf5) = true := ⟨lwt_5 _ (List.mem_of_getElem? (i := 165) rfl), by decide +kernel⟩
set_option maxRecDepth 20000 in
theorem mw_1419 : (Cond.code yX13_isWord cX13_isWord 5 (some .boolean)) ∈ lw_tbl ∧ goodWord (Cond.code yX13_isWord cX13_isWord 5 (some .boolean)) = true := ⟨lwt_5 _ (List.mem_of_getElem? (i := 164) rfl), by decide +kernel⟩
end
section
set_option maxRecDepth 20000 in
theorem mw_46 : (Cond.selects RX13 yX13_isWord yX13_isWord) ∈ lw_tbl ∧ goodWord (Cond.selects RX13 yX13_isWord yX13_isWord) = true := ⟨lwt_s _ (List.mem_of_getElem? (i := 46) rfl), by decide +kernel⟩
set_option maxRecDepth 20000 in
theorem mw_1418 : (Cond.instanceMethod yX13_isWord) ∈ lw_tbl ∧ goodWord (Cond.instanceMethod yX13_isWord) = true := ⟨lwt_5 _ (List.mem_of_getElem? (i := 163) rfl), by decide +kernel⟩
set_option maxRecDepth 20000 in
theorem mw_1416 : (Cond.methodLink RX13 372 yX13_isWord) ∈ lw_tbl ∧ goodWord (Cond.methodLink RX13 372 yX13_isWord) = true := ⟨lwt_5 _ (List.mem_of_getElem? (i := 161) rfl), by decide +kernel⟩
set_option maxRecDepth 20000 in
theorem mw_1415 : (Cond.code yX13_wordAt cX13_wordAt 3 (some .int)) ∈ lw_tbl ∧ goodWord (Cond.code yX13_wordAt cX13_wordAt 3 (some .int)) = true := ⟨lwt_5 _ (List.mem_of_getElem? (i := 160) rfl), by decide +kernel⟩
set_option maxRecDepth 20000 in
theorem mw_45 : (Cond.selects RX13 yX13_wordAt yX13_wordAt) ∈ lw_tbl ∧ goodWord (Cond.selects RX13 yX13_wordAt yX13_wordAt) = true := ⟨lwt_s _ (List.mem_of_getElem? (i := 45) rfl), by decide +kernel⟩
set_option maxRecDepth 20000 in
theorem mw_1414 : (Cond.instanceMethod yX13_wordAt) ∈ lw_tbl ∧ goodWord (Cond.instanceMethod yX13_wordAt) = true := ⟨lwt_5 _ (List.mem_of_getElem? (i := 159) rfl), by decide +kernel⟩
set_option maxRecDepth 20000 in
theorem mw_1412 : (Cond.methodLink RX13 387 yX13_wordAt) ∈ lw_tbl ∧ goodWord (Cond.methodLink RX13 387 yX13_wordAt) = true := ⟨lwt_5 _ (List.mem_of_getElem? (i := 157) rfl), by decide +kernel⟩
set_option maxRecDepth 20000 in
theorem mw_1421 : (Cond.methodLink RX13 379 yJ0_charAt_5068e) ∈ lw_tbl ∧ goodWord (Cond.methodLink RX13 379 yJ0_charAt_5068e) = true := ⟨lwt_5 _ (List.mem_of_getElem? (i := 166) rfl), by decide +kernel⟩
set_option maxRecDepth 20000 in
theorem mw_1429 : (Cond.code yX13_reads cX13_reads 5 (some .boolean)) ∈ lw_tbl ∧ goodWord (Cond.code yX13_reads cX13_reads 5 (some .boolean)) = true := ⟨lwt_5 _ (List.mem_of_getElem? (i := 174) rfl), by decide +kernel⟩
set_option maxRecDepth 20000 in
theorem mw_48 : (Cond.selects RX13 yX13_reads yX13_reads) ∈ lw_tbl ∧ goodWord (Cond.selects RX13 yX13_reads yX13_reads) = true := ⟨lwt_s _ (List.mem_of_getElem? (i := 48) rfl), by decide +kernel⟩
set_option maxRecDepth 20000 in
theorem mw_1428 : (Cond.instanceMethod yX13_reads) ∈ lw_tbl ∧ goodWord (Cond.instanceMethod yX13_reads) = true := ⟨lwt_5 _ (List.mem_of_getElem? (i := 173) rfl), by decide +kernel⟩
set_option maxRecDepth 20000 in
theorem mw_1426 : (Cond.methodLink RX13 399 yX13_reads) ∈ lw_tbl ∧ goodWord (Cond.methodLink RX13 399 yX13_reads) = true := ⟨lwt_5 _ (List.mem_of_getElem? (i := 171) rfl), by decide +kernel⟩
set_option maxRecDepth 20000 in
theorem mw_1425 : (Cond.code yX13_must cX13_must 3 (some .boolean)) ∈ lw_tbl ∧ goodWord (Cond.code yX13_must cX13_must 3 (some .boolean)) = true := ⟨lwt_5 _ (List.mem_of_getElem? (i := 170) rfl), by decide +kernel⟩
set_option maxRecDepth 20000 in
theorem mw_47 : (Cond.selects RX13 yX13_must yX13_must) ∈ lw_tbl ∧ goodWord (Cond.selects RX13 yX13_must yX13_must) = true := ⟨lwt_s _ (List.mem_of_getElem? (i := 47) rfl), by decide +kernel⟩
set_option maxRecDepth 20000 in
theorem mw_1424 : (Cond.instanceMethod yX13_must) ∈ lw_tbl ∧ goodWord (Cond.instanceMethod yX13_must) = true := ⟨lwt_5 _ (List.mem_of_getElem? (i := 169) rfl), by decide +kernel⟩
set_option maxRecDepth 20000 in
theorem mw_1422 : (Cond.methodLink RX13 365 yX13_must) ∈ lw_tbl ∧ goodWord (Cond.methodLink RX13 365 yX13_must) = true := ⟨lwt_5 _ (List.mem_of_getElem? (i := 167) rfl), by decide +kernel⟩
set_option maxRecDepth 20000 in
theorem mw_1435 : (Cond.constantLong RX13 356 (57)) ∈ lw_tbl ∧ goodWord (Cond.constantLong RX13 356 (57)) = true := ⟨lwt_5 _ (List.mem_of_getElem? (i := 180) rfl), by decide +kernel⟩
set_option maxRecDepth 20000 in
theorem mw_1434 : (Cond.constantLong RX13 354 (48)) ∈ lw_tbl ∧ goodWord (Cond.constantLong RX13 354 (48)) = true := ⟨lwt_5 _ (List.mem_of_getElem? (i := 179) rfl), by decide +kernel⟩
set_option maxRecDepth 20000 in
theorem mw_1433 : (Cond.code yX13_isDigit cX13_isDigit 1 (some .boolean)) ∈ lw_tbl ∧ goodWord (Cond.code yX13_isDigit cX13_isDigit 1 (some .boolean)) = true := ⟨lwt_5 _ (List.mem_of_getElem? (i := 178) rfl), by decide +kernel⟩
set_option maxRecDepth 20000 in
theorem mw_49 : (Cond.selects RX13 yX13_isDigit yX13_isDigit) ∈ lw_tbl ∧ goodWord (Cond.selects RX13 yX13_isDigit yX13_isDigit) = true := ⟨lwt_s _ (List.mem_of_getElem? (i := 49) rfl), by decide +kernel⟩
set_option maxRecDepth 20000 in
theorem mw_1432 : (Cond.instanceMethod yX13_isDigit) ∈ lw_tbl ∧ goodWord (Cond.instanceMethod yX13_isDigit) = true := ⟨lwt_5 _ (List.mem_of_getElem? (i := 177) rfl), by decide +kernel⟩
set_option maxRecDepth 20000 in
theorem mw_1430 : (Cond.methodLink RX13 361 yX13_isDigit) ∈ lw_tbl ∧ goodWord (Cond.methodLink RX13 361 yX13_isDigit) = true := ⟨lwt_5 _ (List.mem_of_getElem? (i := 175) rfl), by decide +kernel⟩
set_option maxRecDepth 20000 in
theorem mw_1439 : (Cond.code yX13_put cX13_put 3 (some .int)) ∈ lw_tbl ∧ goodWord (Cond.code yX13_put cX13_put 3 (some .int)) = true := ⟨lwt_5 _ (List.mem_of_getElem? (i := 184) rfl), by decide +kernel⟩
set_option maxRecDepth 20000 in
theorem mw_1442 : (Cond.code yX13_isBag cX13_isBag 1 (some .boolean)) ∈ lw_tbl ∧ goodWord (Cond.code yX13_isBag cX13_isBag 1 (some .boolean)) = true := ⟨lwt_5 _ (List.mem_of_getElem? (i := 187) rfl), by decide +kernel⟩
set_option maxRecDepth 20000 in
theorem mw_1441 : (Cond.static yX13_isBag) ∈ lw_tbl ∧ goodWord (Cond.static yX13_isBag) = true := ⟨lwt_5 _ (List.mem_of_getElem? (i := 186) rfl), by decide +kernel⟩
set_option maxRecDepth 20000 in
theorem mw_1440 : (Cond.methodLink RX13 405 yX13_isBag) ∈ lw_tbl ∧ goodWord (Cond.methodLink RX13 405 yX13_isBag) = true := ⟨lwt_5 _ (List.mem_of_getElem? (i := 185) rfl), by decide +kernel⟩
set_option maxRecDepth 20000 in
theorem mw_1446 : (Cond.code yX13_take cX13_take 2 (some .int)) ∈ lw_tbl ∧ goodWord (Cond.code yX13_take cX13_take 2 (some .int)) = true := ⟨lwt_5 _ (List.mem_of_getElem? (i := 191) rfl), by decide +kernel⟩
set_option maxRecDepth 20000 in
theorem mw_1450 : (Cond.code yX13_bagOf cX13_bagOf 3 (some .int)) ∈ lw_tbl ∧ goodWord (Cond.code yX13_bagOf cX13_bagOf 3 (some .int)) = true := ⟨lwt_5 _ (List.mem_of_getElem? (i := 195) rfl), by decide +kernel⟩
set_option maxRecDepth 20000 in
theorem mw_1454 : (Cond.code yX13_pour cX13_pour 9 (some .int)) ∈ lw_tbl ∧ goodWord (Cond.code yX13_pour cX13_pour 9 (some .int)) = true := ⟨lwt_5 _ (List.mem_of_getElem? (i := 199) rfl), by decide +kernel⟩
set_option maxRecDepth 20000 in
theorem mw_1458 : (Cond.code yX13_bagBest cX13_bagBest 8 (some .int)) ∈ lw_tbl ∧ goodWord (Cond.code yX13_bagBest cX13_bagBest 8 (some .int)) = true := ⟨lwt_5 _ (List.mem_of_getElem? (i := 203) rfl), by decide +kernel⟩
set_option maxRecDepth 20000 in
theorem mw_1462 : (Cond.code yX13_sum cX13_sum 5 (some .int)) ∈ lw_tbl ∧ goodWord (Cond.code yX13_sum cX13_sum 5 (some .int)) = true := ⟨lwt_5 _ (List.mem_of_getElem? (i := 207) rfl), by decide +kernel⟩
set_option maxRecDepth 20000 in
theorem mw_1466 : (Cond.code yX13_sheet cX13_sheet 5 (some .int)) ∈ lw_tbl ∧ goodWord (Cond.code yX13_sheet cX13_sheet 5 (some .int)) = true := ⟨lwt_5 _ (List.mem_of_getElem? (i := 211) rfl), by decide +kernel⟩
set_option maxRecDepth 20000 in
theorem mw_1471 : (Cond.code yX13_read cX13_read 10 (some .long)) ∈ lw_tbl ∧ goodWord (Cond.code yX13_read cX13_read 10 (some .long)) = true := ⟨lwt_5 _ (List.mem_of_getElem? (i := 216) rfl), by decide +kernel⟩
set_option maxRecDepth 20000 in
theorem mw_1472 : (Cond.constantDouble RX13 413 (4619567317775286272)) ∈ lw_tbl ∧ goodWord (Cond.constantDouble RX13 413 (4619567317775286272)) = true := ⟨lwt_5 _ (List.mem_of_getElem? (i := 217) rfl), by decide +kernel⟩
set_option maxRecDepth 20000 in
theorem mw_1476 : (Cond.code yX13_halve cX13_halve 5 (some .int)) ∈ lw_tbl ∧ goodWord (Cond.code yX13_halve cX13_halve 5 (some .int)) = true := ⟨lwt_5 _ (List.mem_of_getElem? (i := 221) rfl), by decide +kernel⟩
set_option maxRecDepth 20000 in
theorem mw_1477 : (Cond.constantDouble RX13 415 (4611686018427387904)) ∈ lw_tbl ∧ goodWord (Cond.constantDouble RX13 415 (4611686018427387904)) = true := ⟨lwt_5 _ (List.mem_of_getElem? (i := 222) rfl), by decide +kernel⟩
set_option maxRecDepth 20000 in
theorem mw_1481 : (Cond.code yX13_copy cX13_copy 8 (some .int)) ∈ lw_tbl ∧ goodWord (Cond.code yX13_copy cX13_copy 8 (some .int)) = true := ⟨lwt_5 _ (List.mem_of_getElem? (i := 226) rfl), by decide +kernel⟩
set_option maxRecDepth 20000 in
theorem mw_1485 : (Cond.code yX13_hold cX13_hold 10 (some .int)) ∈ lw_tbl ∧ goodWord (Cond.code yX13_hold cX13_hold 10 (some .int)) = true := ⟨lwt_5 _ (List.mem_of_getElem? (i := 230) rfl), by decide +kernel⟩
set_option maxRecDepth 20000 in
theorem mw_1488 : (Cond.code yX13_isHand cX13_isHand 1 (some .boolean)) ∈ lw_tbl ∧ goodWord (Cond.code yX13_isHand cX13_isHand 1 (some .boolean)) = true := ⟨lwt_5 _ (List.mem_of_getElem? (i := 233) rfl), by decide +kernel⟩
set_option maxRecDepth 20000 in
theorem mw_1487 : (Cond.static yX13_isHand) ∈ lw_tbl ∧ goodWord (Cond.static yX13_isHand) = true := ⟨lwt_5 _ (List.mem_of_getElem? (i := 232) rfl), by decide +kernel⟩
set_option maxRecDepth 20000 in
theorem mw_1486 : (Cond.methodLink RX13 417 yX13_isHand) ∈ lw_tbl ∧ goodWord (Cond.methodLink RX13 417 yX13_isHand) = true := ⟨lwt_5 _ (List.mem_of_getElem? (i := 231) rfl), by decide +kernel⟩
set_option maxRecDepth 20000 in
theorem mw_1492 : (Cond.code yX13_asClause cX13_asClause 5 (some .int)) ∈ lw_tbl ∧ goodWord (Cond.code yX13_asClause cX13_asClause 5 (some .int)) = true := ⟨lwt_5 _ (List.mem_of_getElem? (i := 237) rfl), by decide +kernel⟩
set_option maxRecDepth 20000 in
theorem mw_1496 : (Cond.code yX13_lacks cX13_lacks 3 (some .int)) ∈ lw_tbl ∧ goodWord (Cond.code yX13_lacks cX13_lacks 3 (some .int)) = true := ⟨lwt_6 _ (List.mem_of_getElem? (i := 1) rfl), by decide +kernel⟩
set_option maxRecDepth 20000 in
theorem mw_50 : (Cond.selects RX13 yX13_lacks yX13_lacks) ∈ lw_tbl ∧ goodWord (Cond.selects RX13 yX13_lacks yX13_lacks) = true := ⟨lwt_s _ (List.mem_of_getElem? (i := 50) rfl), by decide +kernel⟩
set_option maxRecDepth 20000 in
theorem mw_1495 : (Cond.instanceMethod yX13_lacks) ∈ lw_tbl ∧ goodWord (Cond.instanceMethod yX13_lacks) = true := ⟨lwt_6 _ (List.mem_of_getElem? (i := 0) rfl), by decide +kernel⟩
set_option maxRecDepth 20000 in
theorem mw_1493 : (Cond.methodLink RX13 420 yX13_lacks) ∈ lw_tbl ∧ goodWord (Cond.methodLink RX13 420 yX13_lacks) = true := ⟨lwt_5 _ (List.mem_of_getElem? (i := 238) rfl), by decide +kernel⟩
set_option maxRecDepth 20000 in
theorem mw_1500 : (Cond.code yX13_asFraction cX13_asFraction 4 (some .long)) ∈ lw_tbl ∧ goodWord (Cond.code yX13_asFraction cX13_asFraction 4 (some .long)) = true := ⟨lwt_6 _ (List.mem_of_getElem? (i := 5) rfl), by decide +kernel⟩
set_option maxRecDepth 20000 in
theorem mw_1504 : (Cond.code yX13_compare cX13_compare 7 (some .int)) ∈ lw_tbl ∧ goodWord (Cond.code yX13_compare cX13_compare 7 (some .int)) = true := ⟨lwt_6 _ (List.mem_of_getElem? (i := 9) rfl), by decide +kernel⟩
set_option maxRecDepth 20000 in
theorem mw_1508 : (Cond.code yX13_image cX13_image 1 (some .int)) ∈ lw_tbl ∧ goodWord (Cond.code yX13_image cX13_image 1 (some .int)) = true := ⟨lwt_6 _ (List.mem_of_getElem? (i := 13) rfl), by decide +kernel⟩
set_option maxRecDepth 20000 in
theorem mw_1515 : (Cond.instanceMethod yX13_passes) ∈ lw_tbl ∧ goodWord (Cond.instanceMethod yX13_passes) = true := ⟨lwt_6 _ (List.mem_of_getElem? (i := 20) rfl), by decide +kernel⟩
set_option maxRecDepth 20000 in
theorem mw_1513 : (Cond.methodLink RX13 429 yX13_passes) ∈ lw_tbl ∧ goodWord (Cond.methodLink RX13 429 yX13_passes) = true := ⟨lwt_6 _ (List.mem_of_getElem? (i := 18) rfl), by decide +kernel⟩
set_option maxRecDepth 20000 in
theorem mw_1026 : (Cond.fieldLink RX13 426 "ClauseBookModel" "passed" "I") ∈ lw_tbl ∧ goodWord (Cond.fieldLink RX13 426 "ClauseBookModel" "passed" "I") = true := ⟨lwt_4 _ (List.mem_of_getElem? (i := 11) rfl), by decide +kernel⟩
set_option maxRecDepth 20000 in
theorem mw_1027 : (Cond.fieldLink RX13 423 "ClauseBookModel" "isKeeping" "Z") ∈ lw_tbl ∧ goodWord (Cond.fieldLink RX13 423 "ClauseBookModel" "isKeeping" "Z") = true := ⟨lwt_4 _ (List.mem_of_getElem? (i := 12) rfl), by decide +kernel⟩
set_option maxRecDepth 20000 in
theorem mw_1512 : (Cond.code yX13_passesAll cX13_passesAll 2 none) ∈ lw_tbl ∧ goodWord (Cond.code yX13_passesAll cX13_passesAll 2 none) = true := ⟨lwt_6 _ (List.mem_of_getElem? (i := 17) rfl), by decide +kernel⟩
set_option maxRecDepth 20000 in
theorem mw_51 : (Cond.selects RX13 yX13_passesAll yX13_passesAll) ∈ lw_tbl ∧ goodWord (Cond.selects RX13 yX13_passesAll yX13_passesAll) = true := ⟨lwt_s _ (List.mem_of_getElem? (i := 51) rfl), by decide +kernel⟩
set_option maxRecDepth 20000 in
theorem mw_1511 : (Cond.instanceMethod yX13_passesAll) ∈ lw_tbl ∧ goodWord (Cond.instanceMethod yX13_passesAll) = true := ⟨lwt_6 _ (List.mem_of_getElem? (i := 16) rfl), by decide +kernel⟩
set_option maxRecDepth 20000 in
theorem mw_1509 : (Cond.methodLink RX13 439 yX13_passesAll) ∈ lw_tbl ∧ goodWord (Cond.methodLink RX13 439 yX13_passesAll) = true := ⟨lwt_6 _ (List.mem_of_getElem? (i := 14) rfl), by decide +kernel⟩
set_option maxRecDepth 20000 in
theorem mw_1024 : (Cond.fieldLink RX13 436 "ClauseBookModel" "isKept" "Z") ∈ lw_tbl ∧ goodWord (Cond.fieldLink RX13 436 "ClauseBookModel" "isKept" "Z") = true := ⟨lwt_4 _ (List.mem_of_getElem? (i := 9) rfl), by decide +kernel⟩
set_option maxRecDepth 20000 in
theorem mw_1520 : (Cond.code yX13_passesRow cX13_passesRow 3 none) ∈ lw_tbl ∧ goodWord (Cond.code yX13_passesRow cX13_passesRow 3 none) = true := ⟨lwt_6 _ (List.mem_of_getElem? (i := 25) rfl), by decide +kernel⟩
set_option maxRecDepth 20000 in
theorem mw_53 : (Cond.selects RX13 yX13_passesRow yX13_passesRow) ∈ lw_tbl ∧ goodWord (Cond.selects RX13 yX13_passesRow yX13_passesRow) = true := ⟨lwt_s _ (List.mem_of_getElem? (i := 53) rfl), by decide +kernel⟩
set_option maxRecDepth 20000 in
theorem mw_1519 : (Cond.instanceMethod yX13_passesRow) ∈ lw_tbl ∧ goodWord (Cond.instanceMethod yX13_passesRow) = true := ⟨lwt_6 _ (List.mem_of_getElem? (i := 24) rfl), by decide +kernel⟩
set_option maxRecDepth 20000 in
theorem mw_1517 : (Cond.methodLink RX13 432 yX13_passesRow) ∈ lw_tbl ∧ goodWord (Cond.methodLink RX13 432 yX13_passesRow) = true := ⟨lwt_6 _ (List.mem_of_getElem? (i := 22) rfl), by decide +kernel⟩
set_option maxRecDepth 20000 in
theorem mw_1516 : (Cond.code yX13_passes cX13_passes 3 (some .int)) ∈ lw_tbl ∧ goodWord (Cond.code yX13_passes cX13_passes 3 (some .int)) = true := ⟨lwt_6 _ (List.mem_of_getElem? (i := 21) rfl), by decide +kernel⟩
set_option maxRecDepth 20000 in
theorem mw_52 : (Cond.selects RX13 yX13_passes yX13_passes) ∈ lw_tbl ∧ goodWord (Cond.selects RX13 yX13_passes yX13_passes) = true := ⟨lwt_s _ (List.mem_of_getElem? (i := 52) rfl), by decide +kernel⟩
set_option maxRecDepth 20000 in
theorem mw_1524 : (Cond.code yX13_back cX13_back 1 (some .int)) ∈ lw_tbl ∧ goodWord (Cond.code yX13_back cX13_back 1 (some .int)) = true := ⟨lwt_6 _ (List.mem_of_getElem? (i := 29) rfl), by decide +kernel⟩
set_option maxRecDepth 20000 in
theorem mw_1528 : (Cond.code yX13_count cX13_count 6 (some .int)) ∈ lw_tbl ∧ goodWord (Cond.code yX13_count cX13_count 6 (some .int)) = true := ⟨lwt_6 _ (List.mem_of_getElem? (i := 33) rfl), by decide +kernel⟩
set_option maxRecDepth 20000 in
theorem mw_1532 : (Cond.code yX13_isNamed cX13_isNamed 4 (some .boolean)) ∈ lw_tbl ∧ goodWord (Cond.code yX13_isNamed cX13_isNamed 4 (some .boolean)) = true := ⟨lwt_6 _ (List.mem_of_getElem? (i := 37) rfl), by decide +kernel⟩
set_option maxRecDepth 20000 in
theorem mw_54 : (Cond.selects RX13 yX13_isNamed yX13_isNamed) ∈ lw_tbl ∧ goodWord (Cond.selects RX13 yX13_isNamed yX13_isNamed) = true := ⟨lwt_s _ (List.mem_of_getElem? (i := 54) rfl), by decide +kernel⟩
set_option maxRecDepth 20000 in
theorem mw_1531 : (Cond.instanceMethod yX13_isNamed) ∈ lw_tbl ∧ goodWord (Cond.instanceMethod yX13_isNamed) = true := ⟨lwt_6 _ (List.mem_of_getElem? (i := 36) rfl), by decide +kernel⟩
set_option maxRecDepth 20000 in
theorem mw_1529 : (Cond.methodLink RX13 443 yX13_isNamed) ∈ lw_tbl ∧ goodWord (Cond.methodLink RX13 443 yX13_isNamed) = true := ⟨lwt_6 _ (List.mem_of_getElem? (i := 34) rfl), by decide +kernel⟩
end
section
set_option maxRecDepth 40000 in
theorem lgg_X12_init : GoodIn lw_tbl wsX12_init := (gl_cons mw_84 (goodIn_app (goodIn_app (goodIn_app (goodIn_app (goodIn_app (goodIn_app (goodIn_app (goodIn_app (goodIn_app (goodIn_app (goodIn_app (show GoodIn lw_tbl wsX12_init_r1 from (gl_cons mw_85 (gl_cons mw_86 (gl_cons mw_87 (gl_cons mw_88 (gl_cons mw_89 (gl_cons mw_57 (gl_cons mw_354 (gl_cons mw_355 (gl_cons mw_356 (gl_cons mw_199 (gl_cons mw_357 (gl_cons mw_201 (gl_cons mw_358 (gl_cons mw_203 (gl_cons mw_359 (gl_cons mw_211 (gl_cons mw_212 (gl_cons mw_61 (gl_cons mw_360 (gl_cons mw_239 (gl_cons mw_240 (gl_cons mw_62 (gl_cons mw_361 (gl_cons mw_270 gl_nil))))))))))))))))))))))))) (goodIn_app (show GoodIn lw_tbl wsX12_init_r2 from (gl_cons mw_271 (gl_cons mw_63 (gl_cons mw_362 (gl_cons mw_300 (gl_cons mw_363 (gl_cons mw_302 (gl_cons mw_364 (gl_cons mw_304 (gl_cons mw_64 (gl_cons mw_332 (gl_cons mw_65 (gl_cons mw_90 (gl_cons mw_91 (gl_cons mw_92 (gl_cons mw_93 (gl_cons mw_94 (gl_cons mw_95 (gl_cons mw_58 (gl_cons mw_198 (gl_cons mw_133 (gl_cons mw_134 (gl_cons mw_59 (gl_cons mw_200 (gl_cons mw_182 gl_nil))))))))))))))))))))))))) (goodIn_app (show GoodIn lw_tbl wsX12_init_r3 from (gl_cons mw_202 (gl_cons mw_184 (gl_cons mw_60 (gl_cons mw_97 (gl_cons mw_98 (gl_cons mw_99 (gl_cons mw_100 (gl_cons mw_102 (gl_cons mw_104 (gl_cons mw_106 (gl_cons mw_109 (gl_cons mw_112 (gl_cons mw_115 (gl_cons mw_136 (gl_cons mw_137 (gl_cons mw_138 (gl_cons mw_139 (gl_cons mw_181 (gl_cons mw_141 (gl_cons mw_143 (gl_cons mw_147 (gl_cons mw_151 (gl_cons mw_155 (gl_cons mw_159 gl_nil))))))))))))))))))))))))) (goodIn_app (show GoodIn lw_tbl wsX12_init_r4 from (gl_cons mw_162 (gl_cons mw_186 (gl_cons mw_187 (gl_cons mw_188 (gl_cons mw_189 (gl_cons mw_191 (gl_cons mw_213 (gl_cons mw_214 (gl_cons mw_215 (gl_cons mw_216 (gl_cons mw_238 (gl_cons mw_219 (gl_cons mw_221 (gl_cons mw_223 (gl_cons mw_224 (gl_cons mw_217 (gl_cons mw_218 (gl_cons mw_241 (gl_cons mw_242 (gl_cons mw_243 (gl_cons mw_244 (gl_cons mw_248 (gl_cons mw_250 (gl_cons mw_252 gl_nil))))))))))))))))))))))))) (goodIn_app (show GoodIn lw_tbl wsX12_init_r5 from (gl_cons mw_254 (gl_cons mw_245 (gl_cons mw_246 (gl_cons mw_247 (gl_cons mw_273 (gl_cons mw_274 (gl_cons mw_275 (gl_cons mw_276 (gl_cons mw_278 (gl_cons mw_279 (gl_cons mw_280 (gl_cons mw_281 (gl_cons mw_282 (gl_cons mw_284 (gl_cons mw_306 (gl_cons mw_307 (gl_cons mw_308 (gl_cons mw_309 (gl_cons mw_311 (gl_cons mw_313 (gl_cons mw_314 (gl_cons mw_330 (gl_cons mw_315 (gl_cons mw_331 gl_nil))))))))))))))))))))))))) (show GoodIn lw_tbl wsX12_init_r6 from (gl_cons mw_316 (gl_cons mw_334 (gl_cons mw_335 (gl_cons mw_336 (gl_cons mw_337 (gl_cons mw_339 (gl_cons mw_341 (gl_cons mw_343 gl_nil)))))))))))))) lgg_X60) lgg_X120) lgg_X110) lgg_X30) lgg_X100) lgg_X90) lgg_X40) lgg_X80) lgg_X20) lgg_X10))
set_option maxRecDepth 40000 in
theorem lgg_X13_init : GoodIn lw_tbl wsX13_init := (gl_cons mw_966 (goodIn_app (goodIn_app (show GoodIn lw_tbl wsX13_init_r1 from (gl_cons mw_967 (gl_cons mw_86 (gl_cons mw_87 (gl_cons mw_984 (gl_cons mw_985 (gl_cons mw_986 (gl_cons mw_987 (gl_cons mw_988 (gl_cons mw_989 (gl_cons mw_181 (gl_cons mw_991 (gl_cons mw_992 (gl_cons mw_993 (gl_cons mw_994 (gl_cons mw_995 (gl_cons mw_996 (gl_cons mw_1000 (gl_cons mw_1001 (gl_cons mw_1002 (gl_cons mw_238 (gl_cons mw_1003 (gl_cons mw_1004 (gl_cons mw_1119 (gl_cons mw_1005 gl_nil))))))))))))))))))))))))) (show GoodIn lw_tbl wsX13_init_r2 from (gl_cons mw_1006 (gl_cons mw_1008 (gl_cons mw_968 (gl_cons mw_1010 (gl_cons mw_1017 (gl_cons mw_1018 (gl_cons mw_1019 (gl_cons mw_331 (gl_cons mw_1020 (gl_cons mw_1021 (gl_cons mw_1022 (gl_cons mw_1023 (gl_cons mw_1025 gl_nil))))))))))))))) lgg_X130))
set_option maxRecDepth 40000 in
theorem lgg_X12_start : GoodIn lw_tbl wsX12_start := (gl_cons mw_391 (goodIn_app (goodIn_app (goodIn_app (gl_cons mw_357 (gl_cons mw_101 (gl_cons mw_103 (gl_cons mw_105 (gl_cons mw_360 (gl_cons mw_392 (gl_cons mw_393 (gl_cons mw_56 (gl_cons mw_394 (gl_cons mw_395 (gl_cons mw_396 (gl_cons mw_397 (gl_cons mw_61 (gl_cons mw_398 (gl_cons mw_224 gl_nil))))))))))))))) lgg_X120) lgg_X80) lgg_X110))
set_option maxRecDepth 40000 in
theorem lgg_X12_odds : GoodIn lw_tbl wsX12_odds := (gl_cons mw_402 (goodIn_app (goodIn_app (goodIn_app (gl_cons mw_357 (gl_cons mw_107 (gl_cons mw_110 (gl_cons mw_360 (gl_cons mw_392 (gl_cons mw_393 (gl_cons mw_56 (gl_cons mw_394 (gl_cons mw_395 (gl_cons mw_396 (gl_cons mw_397 (gl_cons mw_61 (gl_cons mw_398 (gl_cons mw_224 gl_nil)))))))))))))) lgg_X120) lgg_X80) lgg_X110))
set_option maxRecDepth 40000 in
theorem lgg_X12_wait : GoodIn lw_tbl wsX12_wait := (gl_cons mw_406 (goodIn_app (goodIn_app (goodIn_app (gl_cons mw_357 (gl_cons mw_113 (gl_cons mw_116 (gl_cons mw_360 (gl_cons mw_392 (gl_cons mw_393 (gl_cons mw_56 (gl_cons mw_394 (gl_cons mw_395 (gl_cons mw_396 (gl_cons mw_397 (gl_cons mw_61 (gl_cons mw_398 (gl_cons mw_224 gl_nil)))))))))))))) lgg_X120) lgg_X80) lgg_X110))
set_option maxRecDepth 40000 in
theorem lgg_X12_price : GoodIn lw_tbl wsX12_price := (gl_cons mw_410 (goodIn_app (goodIn_app (gl_cons mw_357 (gl_cons mw_411 (gl_cons mw_412 (gl_cons mw_56 (gl_cons mw_413 (gl_cons mw_414 (gl_cons mw_415 (gl_cons mw_416 (gl_cons mw_392 (gl_cons mw_393 (gl_cons mw_394 (gl_cons mw_417 (gl_cons mw_418 (gl_cons mw_419 (gl_cons mw_58 (gl_cons mw_420 (gl_cons mw_100 (gl_cons mw_102 (gl_cons mw_104 gl_nil))))))))))))))))))) lgg_X120) lgg_X80))
set_option maxRecDepth 40000 in
theorem lgg_X12_spotOf : GoodIn lw_tbl wsX12_spotOf := (gl_cons mw_424 (gl_cons mw_425 (gl_cons mw_426 (gl_cons mw_56 (gl_cons mw_427 (gl_cons mw_392 (gl_cons mw_393 (gl_cons mw_394 (gl_cons mw_414 (gl_cons mw_415 (gl_cons mw_416 (gl_cons mw_428 (gl_cons mw_429 (gl_cons mw_58 (gl_cons mw_430 (gl_cons mw_431 (gl_cons mw_432 (gl_cons mw_67 (gl_cons mw_433 (gl_cons mw_434 (gl_cons mw_435 (gl_cons mw_436 gl_nil))))))))))))))))))))))
set_option maxRecDepth 40000 in
theorem lgg_X12_clause : GoodIn lw_tbl wsX12_clause := (gl_cons mw_440 (goodIn_app (goodIn_app (goodIn_app (show GoodIn lw_tbl wsX12_clause_r1 from (gl_cons mw_1534 (gl_cons mw_1535 (gl_cons mw_358 (gl_cons mw_140 (gl_cons mw_392 (gl_cons mw_393 (gl_cons mw_56 (gl_cons mw_394 (gl_cons mw_443 (gl_cons mw_444 (gl_cons mw_445 (gl_cons mw_69 (gl_cons mw_446 (gl_cons mw_1536 (gl_cons mw_448 (gl_cons mw_449 (gl_cons mw_450 (gl_cons mw_59 (gl_cons mw_451 (gl_cons mw_139 (gl_cons mw_141 (gl_cons mw_143 (gl_cons mw_452 (gl_cons mw_453 gl_nil))))))))))))))))))))))))) (show GoodIn lw_tbl wsX12_clause_r2 from (gl_cons mw_454 (gl_cons mw_455 (gl_cons mw_1537 (gl_cons mw_147 (gl_cons mw_151 (gl_cons mw_456 (gl_cons mw_457 (gl_cons mw_458 (gl_cons mw_459 (gl_cons mw_461 (gl_cons mw_463 (gl_cons mw_0 (gl_cons mw_464 (gl_cons mw_155 (gl_cons mw_159 (gl_cons mw_162 (gl_cons mw_465 (gl_cons mw_466 (gl_cons mw_70 (gl_cons mw_467 (gl_cons mw_468 (gl_cons mw_470 (gl_cons mw_471 (gl_cons mw_472 gl_nil)))))))))))))))))))))))))) lgg_X120) lgg_X20))
set_option maxRecDepth 40000 in
theorem lgg_X12_clauseOf : GoodIn lw_tbl wsX12_clauseOf := (gl_cons mw_476 (goodIn_app (goodIn_app (gl_cons mw_358 (gl_cons mw_142 (gl_cons mw_146 (gl_cons mw_150 (gl_cons mw_154 (gl_cons mw_158 (gl_cons mw_161 (gl_cons mw_163 (gl_cons mw_477 (gl_cons mw_478 (gl_cons mw_479 (gl_cons mw_59 (gl_cons mw_480 (gl_cons mw_139 (gl_cons mw_393 (gl_cons mw_56 (gl_cons mw_394 gl_nil))))))))))))))))) lgg_X120) lgg_X20))
set_option maxRecDepth 40000 in
theorem lgg_X12_drop : GoodIn lw_tbl wsX12_drop := (gl_cons mw_485 (goodIn_app (goodIn_app (goodIn_app (gl_cons mw_358 (gl_cons mw_140 (gl_cons mw_360 (gl_cons mw_395 (gl_cons mw_396 (gl_cons mw_397 (gl_cons mw_61 (gl_cons mw_398 (gl_cons mw_224 gl_nil))))))))) lgg_X120) lgg_X20) lgg_X110))
set_option maxRecDepth 40000 in
theorem lgg_X12_swap : GoodIn lw_tbl wsX12_swap := (gl_cons mw_489 (goodIn_app (goodIn_app (goodIn_app (goodIn_app (show GoodIn lw_tbl wsX12_swap_r1 from (gl_cons mw_358 (gl_cons mw_360 (gl_cons mw_477 (gl_cons mw_478 (gl_cons mw_479 (gl_cons mw_59 (gl_cons mw_480 (gl_cons mw_139 (gl_cons mw_393 (gl_cons mw_56 (gl_cons mw_394 (gl_cons mw_490 (gl_cons mw_457 (gl_cons mw_458 (gl_cons mw_459 (gl_cons mw_141 (gl_cons mw_443 (gl_cons mw_444 (gl_cons mw_445 (gl_cons mw_69 (gl_cons mw_446 (gl_cons mw_1536 (gl_cons mw_491 (gl_cons mw_453 gl_nil))))))))))))))))))))))))) (goodIn_app (show GoodIn lw_tbl wsX12_swap_r2 from (gl_cons mw_454 (gl_cons mw_455 (gl_cons mw_1537 (gl_cons mw_147 (gl_cons mw_151 (gl_cons mw_456 (gl_cons mw_461 (gl_cons mw_463 (gl_cons mw_0 (gl_cons mw_464 (gl_cons mw_155 (gl_cons mw_159 (gl_cons mw_162 (gl_cons mw_465 (gl_cons mw_466 (gl_cons mw_70 (gl_cons mw_467 (gl_cons mw_468 (gl_cons mw_143 (gl_cons mw_470 (gl_cons mw_471 (gl_cons mw_472 (gl_cons mw_395 (gl_cons mw_396 gl_nil))))))))))))))))))))))))) (show GoodIn lw_tbl wsX12_swap_r3 from (gl_cons mw_397 (gl_cons mw_61 (gl_cons mw_398 (gl_cons mw_224 gl_nil))))))) lgg_X120) lgg_X20) lgg_X110))
set_option maxRecDepth 40000 in
theorem lgg_X12_value : GoodIn lw_tbl wsX12_value := (gl_cons mw_495 (goodIn_app (goodIn_app (goodIn_app (goodIn_app (goodIn_app (show GoodIn lw_tbl wsX12_value_r1 from (gl_cons mw_358 (gl_cons mw_496 (gl_cons mw_360 (gl_cons mw_477 (gl_cons mw_478 (gl_cons mw_479 (gl_cons mw_59 (gl_cons mw_480 (gl_cons mw_139 (gl_cons mw_393 (gl_cons mw_56 (gl_cons mw_394 (gl_cons mw_411 (gl_cons mw_412 (gl_cons mw_413 (gl_cons mw_414 (gl_cons mw_415 (gl_cons mw_416 (gl_cons mw_392 (gl_cons mw_497 (gl_cons mw_498 (gl_cons mw_499 (gl_cons mw_61 (gl_cons mw_500 gl_nil))))))))))))))))))))))))) (goodIn_app (show GoodIn lw_tbl wsX12_value_r2 from (gl_cons mw_223 (gl_cons mw_224 (gl_cons mw_218 (gl_cons mw_149 (gl_cons mw_157 (gl_cons mw_501 (gl_cons mw_504 (gl_cons mw_517 (gl_cons mw_145 (gl_cons mw_217 (gl_cons mw_153 (gl_cons mw_549 (gl_cons mw_503 (gl_cons mw_457 (gl_cons mw_458 (gl_cons mw_459 (gl_cons mw_141 (gl_cons mw_506 (gl_cons mw_507 (gl_cons mw_509 (gl_cons mw_510 (gl_cons mw_68 (gl_cons mw_511 (gl_cons mw_1538 gl_nil))))))))))))))))))))))))) (goodIn_app (show GoodIn lw_tbl wsX12_value_r3 from (gl_cons mw_512 (gl_cons mw_514 (gl_cons mw_1 (gl_cons mw_515 (gl_cons mw_219 (gl_cons mw_221 (gl_cons mw_516 (gl_cons mw_518 (gl_cons mw_520 (gl_cons mw_2 (gl_cons mw_521 (gl_cons mw_522 (gl_cons mw_523 (gl_cons mw_524 (gl_cons mw_525 (gl_cons mw_526 (gl_cons mw_527 (gl_cons mw_528 (gl_cons mw_529 (gl_cons mw_530 (gl_cons mw_531 (gl_cons mw_70 (gl_cons mw_532 (gl_cons mw_533 gl_nil))))))))))))))))))))))))) (goodIn_app (show GoodIn lw_tbl wsX12_value_r4 from (gl_cons mw_418 (gl_cons mw_419 (gl_cons mw_58 (gl_cons mw_420 (gl_cons mw_100 (gl_cons mw_102 (gl_cons mw_104 (gl_cons mw_534 (gl_cons mw_536 (gl_cons mw_3 (gl_cons mw_537 (gl_cons mw_538 (gl_cons mw_539 (gl_cons mw_540 (gl_cons mw_541 (gl_cons mw_543 (gl_cons mw_4 (gl_cons mw_544 (gl_cons mw_545 (gl_cons mw_546 (gl_cons mw_547 (gl_cons mw_551 (gl_cons mw_553 (gl_cons mw_5 gl_nil))))))))))))))))))))))))) (goodIn_app (show GoodIn lw_tbl wsX12_value_r5 from (gl_cons mw_554 (gl_cons mw_555 (gl_cons mw_556 (gl_cons mw_557 (gl_cons mw_558 (gl_cons mw_559 (gl_cons mw_560 (gl_cons mw_561 (gl_cons mw_562 (gl_cons mw_563 (gl_cons mw_564 (gl_cons mw_70 (gl_cons mw_565 (gl_cons mw_566 (gl_cons mw_567 (gl_cons mw_568 (gl_cons mw_569 (gl_cons mw_570 (gl_cons mw_571 (gl_cons mw_548 (gl_cons mw_108 (gl_cons mw_111 (gl_cons mw_114 (gl_cons mw_117 gl_nil))))))))))))))))))))))))) (show GoodIn lw_tbl wsX12_value_r6 from (gl_cons mw_572 (gl_cons mw_573 (gl_cons mw_574 (gl_cons mw_576 (gl_cons mw_578 (gl_cons mw_580 (gl_cons mw_581 (gl_cons mw_582 (gl_cons mw_583 (gl_cons mw_584 gl_nil)))))))))))))))) lgg_X120) lgg_X20) lgg_X110) lgg_X80))
set_option maxRecDepth 40000 in
theorem lgg_X12_mean : GoodIn lw_tbl wsX12_mean := (gl_cons mw_588 (goodIn_app (goodIn_app (goodIn_app (goodIn_app (goodIn_app (show GoodIn lw_tbl wsX12_mean_r1 from (gl_cons mw_358 (gl_cons mw_496 (gl_cons mw_360 (gl_cons mw_477 (gl_cons mw_478 (gl_cons mw_479 (gl_cons mw_59 (gl_cons mw_480 (gl_cons mw_139 (gl_cons mw_393 (gl_cons mw_56 (gl_cons mw_394 (gl_cons mw_411 (gl_cons mw_412 (gl_cons mw_413 (gl_cons mw_414 (gl_cons mw_415 (gl_cons mw_416 (gl_cons mw_392 (gl_cons mw_589 (gl_cons mw_546 (gl_cons mw_547 (gl_cons mw_61 (gl_cons mw_548 gl_nil))))))))))))))))))))))))) (goodIn_app (show GoodIn lw_tbl wsX12_mean_r2 from (gl_cons mw_217 (gl_cons mw_108 (gl_cons mw_111 (gl_cons mw_114 (gl_cons mw_117 (gl_cons mw_219 (gl_cons mw_221 (gl_cons mw_516 (gl_cons mw_498 (gl_cons mw_499 (gl_cons mw_518 (gl_cons mw_520 (gl_cons mw_2 (gl_cons mw_521 (gl_cons mw_522 (gl_cons mw_523 (gl_cons mw_524 (gl_cons mw_517 (gl_cons mw_525 (gl_cons mw_512 (gl_cons mw_514 (gl_cons mw_1 (gl_cons mw_515 (gl_cons mw_526 gl_nil))))))))))))))))))))))))) (goodIn_app (show GoodIn lw_tbl wsX12_mean_r3 from (gl_cons mw_527 (gl_cons mw_528 (gl_cons mw_529 (gl_cons mw_530 (gl_cons mw_531 (gl_cons mw_70 (gl_cons mw_532 (gl_cons mw_534 (gl_cons mw_536 (gl_cons mw_3 (gl_cons mw_537 (gl_cons mw_538 (gl_cons mw_539 (gl_cons mw_540 (gl_cons mw_572 (gl_cons mw_218 (gl_cons mw_149 (gl_cons mw_153 (gl_cons mw_573 (gl_cons mw_574 (gl_cons mw_145 (gl_cons mw_157 (gl_cons mw_576 (gl_cons mw_578 gl_nil))))))))))))))))))))))))) (goodIn_app (show GoodIn lw_tbl wsX12_mean_r4 from (gl_cons mw_503 (gl_cons mw_457 (gl_cons mw_458 (gl_cons mw_459 (gl_cons mw_141 (gl_cons mw_533 (gl_cons mw_418 (gl_cons mw_419 (gl_cons mw_58 (gl_cons mw_420 (gl_cons mw_100 (gl_cons mw_102 (gl_cons mw_104 (gl_cons mw_555 (gl_cons mw_556 (gl_cons mw_557 (gl_cons mw_558 (gl_cons mw_559 (gl_cons mw_560 (gl_cons mw_561 (gl_cons mw_562 (gl_cons mw_563 (gl_cons mw_564 (gl_cons mw_70 gl_nil))))))))))))))))))))))))) (goodIn_app (show GoodIn lw_tbl wsX12_mean_r5 from (gl_cons mw_565 (gl_cons mw_566 (gl_cons mw_567 (gl_cons mw_568 (gl_cons mw_500 (gl_cons mw_223 (gl_cons mw_224 (gl_cons mw_501 (gl_cons mw_504 (gl_cons mw_549 (gl_cons mw_506 (gl_cons mw_507 (gl_cons mw_509 (gl_cons mw_510 (gl_cons mw_68 (gl_cons mw_511 (gl_cons mw_1538 (gl_cons mw_541 (gl_cons mw_543 (gl_cons mw_4 (gl_cons mw_544 (gl_cons mw_545 (gl_cons mw_551 (gl_cons mw_553 gl_nil))))))))))))))))))))))))) (show GoodIn lw_tbl wsX12_mean_r6 from (gl_cons mw_5 (gl_cons mw_554 (gl_cons mw_569 (gl_cons mw_570 (gl_cons mw_571 (gl_cons mw_580 (gl_cons mw_581 (gl_cons mw_582 (gl_cons mw_583 (gl_cons mw_584 gl_nil)))))))))))))))) lgg_X120) lgg_X20) lgg_X110) lgg_X80))
set_option maxRecDepth 40000 in
theorem lgg_X12_valueAs : GoodIn lw_tbl wsX12_valueAs := (gl_cons mw_593 (goodIn_app (goodIn_app (goodIn_app (goodIn_app (goodIn_app (show GoodIn lw_tbl wsX12_valueAs_r1 from (gl_cons mw_358 (gl_cons mw_496 (gl_cons mw_360 (gl_cons mw_595 (gl_cons mw_220 (gl_cons mw_222 (gl_cons mw_596 (gl_cons mw_615 (gl_cons mw_616 (gl_cons mw_617 (gl_cons mw_477 (gl_cons mw_478 (gl_cons mw_479 (gl_cons mw_59 (gl_cons mw_480 (gl_cons mw_139 (gl_cons mw_393 (gl_cons mw_56 (gl_cons mw_394 (gl_cons mw_411 (gl_cons mw_412 (gl_cons mw_413 (gl_cons mw_414 (gl_cons mw_415 gl_nil))))))))))))))))))))))))) (goodIn_app (show GoodIn lw_tbl wsX12_valueAs_r2 from (gl_cons mw_416 (gl_cons mw_392 (gl_cons mw_497 (gl_cons mw_498 (gl_cons mw_499 (gl_cons mw_61 (gl_cons mw_500 (gl_cons mw_223 (gl_cons mw_224 (gl_cons mw_218 (gl_cons mw_149 (gl_cons mw_157 (gl_cons mw_501 (gl_cons mw_504 (gl_cons mw_517 (gl_cons mw_145 (gl_cons mw_217 (gl_cons mw_153 (gl_cons mw_549 (gl_cons mw_503 (gl_cons mw_457 (gl_cons mw_458 (gl_cons mw_459 (gl_cons mw_141 gl_nil))))))))))))))))))))))))) (goodIn_app (show GoodIn lw_tbl wsX12_valueAs_r3 from (gl_cons mw_506 (gl_cons mw_507 (gl_cons mw_509 (gl_cons mw_510 (gl_cons mw_68 (gl_cons mw_511 (gl_cons mw_1538 (gl_cons mw_512 (gl_cons mw_514 (gl_cons mw_1 (gl_cons mw_515 (gl_cons mw_219 (gl_cons mw_221 (gl_cons mw_516 (gl_cons mw_518 (gl_cons mw_520 (gl_cons mw_2 (gl_cons mw_521 (gl_cons mw_522 (gl_cons mw_523 (gl_cons mw_524 (gl_cons mw_525 (gl_cons mw_526 (gl_cons mw_527 gl_nil))))))))))))))))))))))))) (goodIn_app (show GoodIn lw_tbl wsX12_valueAs_r4 from (gl_cons mw_528 (gl_cons mw_529 (gl_cons mw_530 (gl_cons mw_531 (gl_cons mw_70 (gl_cons mw_532 (gl_cons mw_533 (gl_cons mw_418 (gl_cons mw_419 (gl_cons mw_58 (gl_cons mw_420 (gl_cons mw_100 (gl_cons mw_102 (gl_cons mw_104 (gl_cons mw_534 (gl_cons mw_536 (gl_cons mw_3 (gl_cons mw_537 (gl_cons mw_538 (gl_cons mw_539 (gl_cons mw_540 (gl_cons mw_541 (gl_cons mw_543 (gl_cons mw_4 gl_nil))))))))))))))))))))))))) (goodIn_app (show GoodIn lw_tbl wsX12_valueAs_r5 from (gl_cons mw_544 (gl_cons mw_545 (gl_cons mw_546 (gl_cons mw_547 (gl_cons mw_551 (gl_cons mw_553 (gl_cons mw_5 (gl_cons mw_554 (gl_cons mw_555 (gl_cons mw_556 (gl_cons mw_557 (gl_cons mw_558 (gl_cons mw_559 (gl_cons mw_560 (gl_cons mw_561 (gl_cons mw_562 (gl_cons mw_563 (gl_cons mw_564 (gl_cons mw_70 (gl_cons mw_565 (gl_cons mw_566 (gl_cons mw_567 (gl_cons mw_568 (gl_cons mw_569 gl_nil))))))))))))))))))))))))) (goodIn_app (show GoodIn lw_tbl wsX12_valueAs_r6 from (gl_cons mw_570 (gl_cons mw_571 (gl_cons mw_548 (gl_cons mw_108 (gl_cons mw_111 (gl_cons mw_114 (gl_cons mw_117 (gl_cons mw_572 (gl_cons mw_573 (gl_cons mw_574 (gl_cons mw_576 (gl_cons mw_578 (gl_cons mw_594 (gl_cons mw_597 (gl_cons mw_598 (gl_cons mw_72 (gl_cons mw_599 (gl_cons mw_607 (gl_cons mw_600 (gl_cons mw_601 (gl_cons mw_602 (gl_cons mw_603 (gl_cons mw_604 (gl_cons mw_605 gl_nil))))))))))))))))))))))))) (show GoodIn lw_tbl wsX12_valueAs_r7 from (gl_cons mw_606 (gl_cons mw_608 (gl_cons mw_609 (gl_cons mw_610 (gl_cons mw_611 (gl_cons mw_612 (gl_cons mw_613 (gl_cons mw_614 gl_nil))))))))))))))) lgg_X120) lgg_X110) lgg_X20) lgg_X80))
set_option maxRecDepth 40000 in
theorem lgg_X12_chosen : GoodIn lw_tbl wsX12_chosen := (gl_cons mw_621 (goodIn_app (goodIn_app (goodIn_app (goodIn_app (goodIn_app (show GoodIn lw_tbl wsX12_chosen_r1 from (gl_cons mw_358 (gl_cons mw_622 (gl_cons mw_623 (gl_cons mw_158 (gl_cons mw_360 (gl_cons mw_477 (gl_cons mw_478 (gl_cons mw_479 (gl_cons mw_59 (gl_cons mw_480 (gl_cons mw_139 (gl_cons mw_393 (gl_cons mw_56 (gl_cons mw_394 (gl_cons mw_411 (gl_cons mw_412 (gl_cons mw_413 (gl_cons mw_414 (gl_cons mw_415 (gl_cons mw_416 (gl_cons mw_392 (gl_cons mw_490 (gl_cons mw_457 (gl_cons mw_458 gl_nil))))))))))))))))))))))))) (goodIn_app (show GoodIn lw_tbl wsX12_chosen_r2 from (gl_cons mw_459 (gl_cons mw_141 (gl_cons mw_625 (gl_cons mw_570 (gl_cons mw_571 (gl_cons mw_61 (gl_cons mw_572 (gl_cons mw_218 (gl_cons mw_149 (gl_cons mw_153 (gl_cons mw_573 (gl_cons mw_574 (gl_cons mw_217 (gl_cons mw_145 (gl_cons mw_157 (gl_cons mw_576 (gl_cons mw_578 (gl_cons mw_503 (gl_cons mw_533 (gl_cons mw_418 (gl_cons mw_419 (gl_cons mw_58 (gl_cons mw_420 (gl_cons mw_100 gl_nil))))))))))))))))))))))))) (goodIn_app (show GoodIn lw_tbl wsX12_chosen_r3 from (gl_cons mw_102 (gl_cons mw_104 (gl_cons mw_516 (gl_cons mw_498 (gl_cons mw_499 (gl_cons mw_555 (gl_cons mw_556 (gl_cons mw_557 (gl_cons mw_558 (gl_cons mw_221 (gl_cons mw_559 (gl_cons mw_560 (gl_cons mw_561 (gl_cons mw_562 (gl_cons mw_219 (gl_cons mw_563 (gl_cons mw_564 (gl_cons mw_70 (gl_cons mw_565 (gl_cons mw_566 (gl_cons mw_567 (gl_cons mw_568 (gl_cons mw_548 (gl_cons mw_108 gl_nil))))))))))))))))))))))))) (goodIn_app (show GoodIn lw_tbl wsX12_chosen_r4 from (gl_cons mw_111 (gl_cons mw_114 (gl_cons mw_117 (gl_cons mw_518 (gl_cons mw_520 (gl_cons mw_2 (gl_cons mw_521 (gl_cons mw_522 (gl_cons mw_523 (gl_cons mw_524 (gl_cons mw_517 (gl_cons mw_525 (gl_cons mw_512 (gl_cons mw_514 (gl_cons mw_1 (gl_cons mw_515 (gl_cons mw_526 (gl_cons mw_527 (gl_cons mw_528 (gl_cons mw_529 (gl_cons mw_530 (gl_cons mw_531 (gl_cons mw_70 (gl_cons mw_532 gl_nil))))))))))))))))))))))))) (goodIn_app (show GoodIn lw_tbl wsX12_chosen_r5 from (gl_cons mw_534 (gl_cons mw_536 (gl_cons mw_3 (gl_cons mw_537 (gl_cons mw_538 (gl_cons mw_539 (gl_cons mw_540 (gl_cons mw_500 (gl_cons mw_223 (gl_cons mw_224 (gl_cons mw_501 (gl_cons mw_504 (gl_cons mw_549 (gl_cons mw_506 (gl_cons mw_507 (gl_cons mw_509 (gl_cons mw_510 (gl_cons mw_68 (gl_cons mw_511 (gl_cons mw_1538 (gl_cons mw_541 (gl_cons mw_543 (gl_cons mw_4 (gl_cons mw_544 gl_nil))))))))))))))))))))))))) (show GoodIn lw_tbl wsX12_chosen_r6 from (gl_cons mw_545 (gl_cons mw_546 (gl_cons mw_547 (gl_cons mw_551 (gl_cons mw_553 (gl_cons mw_5 (gl_cons mw_554 (gl_cons mw_569 gl_nil)))))))))))))) lgg_X120) lgg_X20) lgg_X110) lgg_X80))
set_option maxRecDepth 40000 in
theorem lgg_X12_taken : GoodIn lw_tbl wsX12_taken := (gl_cons mw_629 (goodIn_app (goodIn_app (goodIn_app (goodIn_app (goodIn_app (show GoodIn lw_tbl wsX12_taken_r1 from (gl_cons mw_358 (gl_cons mw_630 (gl_cons mw_158 (gl_cons mw_360 (gl_cons mw_477 (gl_cons mw_478 (gl_cons mw_479 (gl_cons mw_59 (gl_cons mw_480 (gl_cons mw_139 (gl_cons mw_393 (gl_cons mw_56 (gl_cons mw_394 (gl_cons mw_414 (gl_cons mw_415 (gl_cons mw_416 (gl_cons mw_392 (gl_cons mw_425 (gl_cons mw_426 (gl_cons mw_427 (gl_cons mw_490 (gl_cons mw_457 (gl_cons mw_458 (gl_cons mw_459 gl_nil))))))))))))))))))))))))) (goodIn_app (show GoodIn lw_tbl wsX12_taken_r2 from (gl_cons mw_141 (gl_cons mw_631 (gl_cons mw_632 (gl_cons mw_633 (gl_cons mw_61 (gl_cons mw_634 (gl_cons mw_218 (gl_cons mw_149 (gl_cons mw_157 (gl_cons mw_635 (gl_cons mw_429 (gl_cons mw_58 (gl_cons mw_430 (gl_cons mw_431 (gl_cons mw_432 (gl_cons mw_67 (gl_cons mw_433 (gl_cons mw_434 (gl_cons mw_435 (gl_cons mw_436 (gl_cons mw_516 (gl_cons mw_498 (gl_cons mw_499 (gl_cons mw_500 gl_nil))))))))))))))))))))))))) (goodIn_app (show GoodIn lw_tbl wsX12_taken_r3 from (gl_cons mw_223 (gl_cons mw_224 (gl_cons mw_501 (gl_cons mw_504 (gl_cons mw_517 (gl_cons mw_145 (gl_cons mw_217 (gl_cons mw_153 (gl_cons mw_549 (gl_cons mw_503 (gl_cons mw_506 (gl_cons mw_507 (gl_cons mw_509 (gl_cons mw_510 (gl_cons mw_68 (gl_cons mw_511 (gl_cons mw_1538 (gl_cons mw_512 (gl_cons mw_514 (gl_cons mw_1 (gl_cons mw_515 (gl_cons mw_219 (gl_cons mw_221 (gl_cons mw_518 gl_nil))))))))))))))))))))))))) (goodIn_app (show GoodIn lw_tbl wsX12_taken_r4 from (gl_cons mw_520 (gl_cons mw_2 (gl_cons mw_521 (gl_cons mw_522 (gl_cons mw_523 (gl_cons mw_524 (gl_cons mw_525 (gl_cons mw_526 (gl_cons mw_527 (gl_cons mw_528 (gl_cons mw_529 (gl_cons mw_530 (gl_cons mw_531 (gl_cons mw_70 (gl_cons mw_532 (gl_cons mw_533 (gl_cons mw_418 (gl_cons mw_419 (gl_cons mw_420 (gl_cons mw_100 (gl_cons mw_102 (gl_cons mw_104 (gl_cons mw_534 (gl_cons mw_536 gl_nil))))))))))))))))))))))))) (goodIn_app (show GoodIn lw_tbl wsX12_taken_r5 from (gl_cons mw_3 (gl_cons mw_537 (gl_cons mw_538 (gl_cons mw_539 (gl_cons mw_540 (gl_cons mw_541 (gl_cons mw_543 (gl_cons mw_4 (gl_cons mw_544 (gl_cons mw_545 (gl_cons mw_546 (gl_cons mw_547 (gl_cons mw_551 (gl_cons mw_553 (gl_cons mw_5 (gl_cons mw_554 (gl_cons mw_555 (gl_cons mw_556 (gl_cons mw_557 (gl_cons mw_558 (gl_cons mw_559 (gl_cons mw_560 (gl_cons mw_561 (gl_cons mw_562 gl_nil))))))))))))))))))))))))) (show GoodIn lw_tbl wsX12_taken_r6 from (gl_cons mw_563 (gl_cons mw_564 (gl_cons mw_70 (gl_cons mw_565 (gl_cons mw_566 (gl_cons mw_567 (gl_cons mw_568 (gl_cons mw_569 (gl_cons mw_570 (gl_cons mw_571 (gl_cons mw_548 (gl_cons mw_108 (gl_cons mw_111 (gl_cons mw_114 (gl_cons mw_117 (gl_cons mw_572 (gl_cons mw_573 (gl_cons mw_574 (gl_cons mw_576 (gl_cons mw_578 gl_nil)))))))))))))))))))))))))) lgg_X120) lgg_X20) lgg_X110) lgg_X80))
set_option maxRecDepth 40000 in
theorem lgg_X12_alike : GoodIn lw_tbl wsX12_alike := (gl_cons mw_639 (goodIn_app (goodIn_app (goodIn_app (goodIn_app (goodIn_app (show GoodIn lw_tbl wsX12_alike_r1 from (gl_cons mw_358 (gl_cons mw_158 (gl_cons mw_360 (gl_cons mw_477 (gl_cons mw_478 (gl_cons mw_479 (gl_cons mw_59 (gl_cons mw_480 (gl_cons mw_139 (gl_cons mw_393 (gl_cons mw_56 (gl_cons mw_394 (gl_cons mw_497 (gl_cons mw_498 (gl_cons mw_499 (gl_cons mw_61 (gl_cons mw_500 (gl_cons mw_223 (gl_cons mw_224 (gl_cons mw_218 (gl_cons mw_149 (gl_cons mw_157 (gl_cons mw_501 (gl_cons mw_504 gl_nil))))))))))))))))))))))))) (goodIn_app (show GoodIn lw_tbl wsX12_alike_r2 from (gl_cons mw_517 (gl_cons mw_145 (gl_cons mw_217 (gl_cons mw_153 (gl_cons mw_549 (gl_cons mw_503 (gl_cons mw_457 (gl_cons mw_458 (gl_cons mw_459 (gl_cons mw_141 (gl_cons mw_506 (gl_cons mw_507 (gl_cons mw_509 (gl_cons mw_510 (gl_cons mw_68 (gl_cons mw_511 (gl_cons mw_1538 (gl_cons mw_512 (gl_cons mw_514 (gl_cons mw_1 (gl_cons mw_515 (gl_cons mw_219 (gl_cons mw_221 (gl_cons mw_516 gl_nil))))))))))))))))))))))))) (goodIn_app (show GoodIn lw_tbl wsX12_alike_r3 from (gl_cons mw_518 (gl_cons mw_520 (gl_cons mw_2 (gl_cons mw_521 (gl_cons mw_522 (gl_cons mw_523 (gl_cons mw_524 (gl_cons mw_525 (gl_cons mw_526 (gl_cons mw_527 (gl_cons mw_528 (gl_cons mw_529 (gl_cons mw_530 (gl_cons mw_531 (gl_cons mw_70 (gl_cons mw_532 (gl_cons mw_533 (gl_cons mw_418 (gl_cons mw_419 (gl_cons mw_58 (gl_cons mw_420 (gl_cons mw_100 (gl_cons mw_102 (gl_cons mw_104 gl_nil))))))))))))))))))))))))) (goodIn_app (show GoodIn lw_tbl wsX12_alike_r4 from (gl_cons mw_534 (gl_cons mw_536 (gl_cons mw_3 (gl_cons mw_537 (gl_cons mw_538 (gl_cons mw_539 (gl_cons mw_540 (gl_cons mw_541 (gl_cons mw_543 (gl_cons mw_4 (gl_cons mw_544 (gl_cons mw_545 (gl_cons mw_546 (gl_cons mw_547 (gl_cons mw_551 (gl_cons mw_553 (gl_cons mw_5 (gl_cons mw_554 (gl_cons mw_555 (gl_cons mw_556 (gl_cons mw_557 (gl_cons mw_558 (gl_cons mw_559 (gl_cons mw_560 gl_nil))))))))))))))))))))))))) (show GoodIn lw_tbl wsX12_alike_r5 from (gl_cons mw_561 (gl_cons mw_562 (gl_cons mw_563 (gl_cons mw_564 (gl_cons mw_70 (gl_cons mw_565 (gl_cons mw_566 (gl_cons mw_567 (gl_cons mw_568 (gl_cons mw_569 (gl_cons mw_570 (gl_cons mw_571 (gl_cons mw_548 (gl_cons mw_108 (gl_cons mw_111 (gl_cons mw_114 (gl_cons mw_117 (gl_cons mw_572 (gl_cons mw_573 (gl_cons mw_574 (gl_cons mw_576 (gl_cons mw_578 (gl_cons mw_594 (gl_cons mw_640 gl_nil))))))))))))))))))))))))))))) lgg_X120) lgg_X20) lgg_X110) lgg_X80))
set_option maxRecDepth 40000 in
theorem lgg_X12_unlike : GoodIn lw_tbl wsX12_unlike := (gl_cons mw_644 (goodIn_app (goodIn_app (goodIn_app (goodIn_app (goodIn_app (show GoodIn lw_tbl wsX12_unlike_r1 from (gl_cons mw_358 (gl_cons mw_360 (gl_cons mw_477 (gl_cons mw_478 (gl_cons mw_479 (gl_cons mw_59 (gl_cons mw_480 (gl_cons mw_139 (gl_cons mw_393 (gl_cons mw_56 (gl_cons mw_394 (gl_cons mw_497 (gl_cons mw_498 (gl_cons mw_499 (gl_cons mw_61 (gl_cons mw_500 (gl_cons mw_223 (gl_cons mw_224 (gl_cons mw_218 (gl_cons mw_149 (gl_cons mw_157 (gl_cons mw_501 (gl_cons mw_504 (gl_cons mw_517 gl_nil))))))))))))))))))))))))) (goodIn_app (show GoodIn lw_tbl wsX12_unlike_r2 from (gl_cons mw_145 (gl_cons mw_217 (gl_cons mw_153 (gl_cons mw_549 (gl_cons mw_503 (gl_cons mw_457 (gl_cons mw_458 (gl_cons mw_459 (gl_cons mw_141 (gl_cons mw_506 (gl_cons mw_507 (gl_cons mw_509 (gl_cons mw_510 (gl_cons mw_68 (gl_cons mw_511 (gl_cons mw_1538 (gl_cons mw_512 (gl_cons mw_514 (gl_cons mw_1 (gl_cons mw_515 (gl_cons mw_219 (gl_cons mw_221 (gl_cons mw_516 (gl_cons mw_518 gl_nil))))))))))))))))))))))))) (goodIn_app (show GoodIn lw_tbl wsX12_unlike_r3 from (gl_cons mw_520 (gl_cons mw_2 (gl_cons mw_521 (gl_cons mw_522 (gl_cons mw_523 (gl_cons mw_524 (gl_cons mw_525 (gl_cons mw_526 (gl_cons mw_527 (gl_cons mw_528 (gl_cons mw_529 (gl_cons mw_530 (gl_cons mw_531 (gl_cons mw_70 (gl_cons mw_532 (gl_cons mw_533 (gl_cons mw_418 (gl_cons mw_419 (gl_cons mw_58 (gl_cons mw_420 (gl_cons mw_100 (gl_cons mw_102 (gl_cons mw_104 (gl_cons mw_534 gl_nil))))))))))))))))))))))))) (goodIn_app (show GoodIn lw_tbl wsX12_unlike_r4 from (gl_cons mw_536 (gl_cons mw_3 (gl_cons mw_537 (gl_cons mw_538 (gl_cons mw_539 (gl_cons mw_540 (gl_cons mw_541 (gl_cons mw_543 (gl_cons mw_4 (gl_cons mw_544 (gl_cons mw_545 (gl_cons mw_546 (gl_cons mw_547 (gl_cons mw_551 (gl_cons mw_553 (gl_cons mw_5 (gl_cons mw_554 (gl_cons mw_555 (gl_cons mw_556 (gl_cons mw_557 (gl_cons mw_558 (gl_cons mw_559 (gl_cons mw_560 (gl_cons mw_561 gl_nil))))))))))))))))))))))))) (show GoodIn lw_tbl wsX12_unlike_r5 from (gl_cons mw_562 (gl_cons mw_563 (gl_cons mw_564 (gl_cons mw_70 (gl_cons mw_565 (gl_cons mw_566 (gl_cons mw_567 (gl_cons mw_568 (gl_cons mw_569 (gl_cons mw_570 (gl_cons mw_571 (gl_cons mw_548 (gl_cons mw_108 (gl_cons mw_111 (gl_cons mw_114 (gl_cons mw_117 (gl_cons mw_572 (gl_cons mw_573 (gl_cons mw_574 (gl_cons mw_576 (gl_cons mw_578 (gl_cons mw_594 (gl_cons mw_640 gl_nil)))))))))))))))))))))))))))) lgg_X120) lgg_X20) lgg_X110) lgg_X80))
set_option maxRecDepth 40000 in
theorem lgg_X12_most : GoodIn lw_tbl wsX12_most := (gl_cons mw_648 (goodIn_app (goodIn_app (goodIn_app (goodIn_app (goodIn_app (show GoodIn lw_tbl wsX12_most_r1 from (gl_cons mw_358 (gl_cons mw_360 (gl_cons mw_477 (gl_cons mw_478 (gl_cons mw_479 (gl_cons mw_59 (gl_cons mw_480 (gl_cons mw_139 (gl_cons mw_393 (gl_cons mw_56 (gl_cons mw_394 (gl_cons mw_414 (gl_cons mw_415 (gl_cons mw_416 (gl_cons mw_392 (gl_cons mw_497 (gl_cons mw_498 (gl_cons mw_499 (gl_cons mw_61 (gl_cons mw_500 (gl_cons mw_223 (gl_cons mw_224 (gl_cons mw_218 (gl_cons mw_149 gl_nil))))))))))))))))))))))))) (goodIn_app (show GoodIn lw_tbl wsX12_most_r2 from (gl_cons mw_157 (gl_cons mw_501 (gl_cons mw_504 (gl_cons mw_517 (gl_cons mw_145 (gl_cons mw_217 (gl_cons mw_153 (gl_cons mw_549 (gl_cons mw_503 (gl_cons mw_457 (gl_cons mw_458 (gl_cons mw_459 (gl_cons mw_141 (gl_cons mw_506 (gl_cons mw_507 (gl_cons mw_509 (gl_cons mw_510 (gl_cons mw_68 (gl_cons mw_511 (gl_cons mw_1538 (gl_cons mw_512 (gl_cons mw_514 (gl_cons mw_1 (gl_cons mw_515 gl_nil))))))))))))))))))))))))) (goodIn_app (show GoodIn lw_tbl wsX12_most_r3 from (gl_cons mw_219 (gl_cons mw_221 (gl_cons mw_516 (gl_cons mw_518 (gl_cons mw_520 (gl_cons mw_2 (gl_cons mw_521 (gl_cons mw_522 (gl_cons mw_523 (gl_cons mw_524 (gl_cons mw_525 (gl_cons mw_526 (gl_cons mw_527 (gl_cons mw_528 (gl_cons mw_529 (gl_cons mw_530 (gl_cons mw_531 (gl_cons mw_70 (gl_cons mw_532 (gl_cons mw_533 (gl_cons mw_418 (gl_cons mw_419 (gl_cons mw_58 (gl_cons mw_420 gl_nil))))))))))))))))))))))))) (goodIn_app (show GoodIn lw_tbl wsX12_most_r4 from (gl_cons mw_100 (gl_cons mw_102 (gl_cons mw_104 (gl_cons mw_534 (gl_cons mw_536 (gl_cons mw_3 (gl_cons mw_537 (gl_cons mw_538 (gl_cons mw_539 (gl_cons mw_540 (gl_cons mw_541 (gl_cons mw_543 (gl_cons mw_4 (gl_cons mw_544 (gl_cons mw_545 (gl_cons mw_546 (gl_cons mw_547 (gl_cons mw_551 (gl_cons mw_553 (gl_cons mw_5 (gl_cons mw_554 (gl_cons mw_555 (gl_cons mw_556 (gl_cons mw_557 gl_nil))))))))))))))))))))))))) (goodIn_app (show GoodIn lw_tbl wsX12_most_r5 from (gl_cons mw_558 (gl_cons mw_559 (gl_cons mw_560 (gl_cons mw_561 (gl_cons mw_562 (gl_cons mw_563 (gl_cons mw_564 (gl_cons mw_70 (gl_cons mw_565 (gl_cons mw_566 (gl_cons mw_567 (gl_cons mw_568 (gl_cons mw_569 (gl_cons mw_570 (gl_cons mw_571 (gl_cons mw_548 (gl_cons mw_108 (gl_cons mw_111 (gl_cons mw_114 (gl_cons mw_117 (gl_cons mw_572 (gl_cons mw_573 (gl_cons mw_574 (gl_cons mw_576 gl_nil))))))))))))))))))))))))) (show GoodIn lw_tbl wsX12_most_r6 from (gl_cons mw_578 (gl_cons mw_594 (gl_cons mw_640 gl_nil))))))))) lgg_X120) lgg_X20) lgg_X110) lgg_X80))
set_option maxRecDepth 40000 in
theorem lgg_X12_due : GoodIn lw_tbl wsX12_due := (gl_cons mw_652 (goodIn_app (goodIn_app (goodIn_app (goodIn_app (goodIn_app (goodIn_app (show GoodIn lw_tbl wsX12_due_r1 from (gl_cons mw_496 (gl_cons mw_361 (gl_cons mw_253 (gl_cons mw_595 (gl_cons mw_249 (gl_cons mw_653 (gl_cons mw_655 (gl_cons mw_6 (gl_cons mw_56 (gl_cons mw_656 (gl_cons mw_358 (gl_cons mw_477 (gl_cons mw_478 (gl_cons mw_479 (gl_cons mw_59 (gl_cons mw_480 (gl_cons mw_139 (gl_cons mw_393 (gl_cons mw_394 (gl_cons mw_414 (gl_cons mw_415 (gl_cons mw_416 (gl_cons mw_392 (gl_cons mw_425 gl_nil))))))))))))))))))))))))) (goodIn_app (show GoodIn lw_tbl wsX12_due_r2 from (gl_cons mw_426 (gl_cons mw_427 (gl_cons mw_657 (gl_cons mw_658 (gl_cons mw_659 (gl_cons mw_62 (gl_cons mw_660 (gl_cons mw_248 (gl_cons mw_250 (gl_cons mw_254 (gl_cons mw_246 (gl_cons mw_160 (gl_cons mw_252 (gl_cons mw_661 (gl_cons mw_663 (gl_cons mw_7 (gl_cons mw_664 (gl_cons mw_156 (gl_cons mw_148 (gl_cons mw_665 (gl_cons mw_673 (gl_cons mw_144 (gl_cons mw_245 (gl_cons mw_152 gl_nil))))))))))))))))))))))))) (goodIn_app (show GoodIn lw_tbl wsX12_due_r3 from (gl_cons mw_247 (gl_cons mw_666 (gl_cons mw_457 (gl_cons mw_458 (gl_cons mw_459 (gl_cons mw_141 (gl_cons mw_667 (gl_cons mw_507 (gl_cons mw_509 (gl_cons mw_510 (gl_cons mw_68 (gl_cons mw_511 (gl_cons mw_1538 (gl_cons mw_668 (gl_cons mw_670 (gl_cons mw_8 (gl_cons mw_671 (gl_cons mw_672 (gl_cons mw_539 (gl_cons mw_61 (gl_cons mw_540 (gl_cons mw_674 (gl_cons mw_676 (gl_cons mw_9 gl_nil))))))))))))))))))))))))) (goodIn_app (show GoodIn lw_tbl wsX12_due_r4 from (gl_cons mw_679 (gl_cons mw_429 (gl_cons mw_58 (gl_cons mw_430 (gl_cons mw_431 (gl_cons mw_432 (gl_cons mw_67 (gl_cons mw_433 (gl_cons mw_434 (gl_cons mw_435 (gl_cons mw_436 (gl_cons mw_680 (gl_cons mw_418 (gl_cons mw_419 (gl_cons mw_420 (gl_cons mw_100 (gl_cons mw_102 (gl_cons mw_104 (gl_cons mw_681 (gl_cons mw_632 (gl_cons mw_633 (gl_cons mw_634 (gl_cons mw_218 (gl_cons mw_149 gl_nil))))))))))))))))))))))))) (goodIn_app (show GoodIn lw_tbl wsX12_due_r5 from (gl_cons mw_157 (gl_cons mw_635 (gl_cons mw_516 (gl_cons mw_498 (gl_cons mw_499 (gl_cons mw_500 (gl_cons mw_223 (gl_cons mw_224 (gl_cons mw_501 (gl_cons mw_504 (gl_cons mw_517 (gl_cons mw_145 (gl_cons mw_217 (gl_cons mw_153 (gl_cons mw_549 (gl_cons mw_503 (gl_cons mw_506 (gl_cons mw_512 (gl_cons mw_514 (gl_cons mw_1 (gl_cons mw_515 (gl_cons mw_219 (gl_cons mw_221 (gl_cons mw_518 gl_nil))))))))))))))))))))))))) (goodIn_app (show GoodIn lw_tbl wsX12_due_r6 from (gl_cons mw_520 (gl_cons mw_2 (gl_cons mw_521 (gl_cons mw_522 (gl_cons mw_523 (gl_cons mw_524 (gl_cons mw_525 (gl_cons mw_526 (gl_cons mw_527 (gl_cons mw_528 (gl_cons mw_529 (gl_cons mw_530 (gl_cons mw_531 (gl_cons mw_70 (gl_cons mw_532 (gl_cons mw_533 (gl_cons mw_534 (gl_cons mw_536 (gl_cons mw_3 (gl_cons mw_537 (gl_cons mw_538 (gl_cons mw_541 (gl_cons mw_543 (gl_cons mw_4 gl_nil))))))))))))))))))))))))) (goodIn_app (show GoodIn lw_tbl wsX12_due_r7 from (gl_cons mw_544 (gl_cons mw_545 (gl_cons mw_546 (gl_cons mw_547 (gl_cons mw_551 (gl_cons mw_553 (gl_cons mw_5 (gl_cons mw_554 (gl_cons mw_555 (gl_cons mw_556 (gl_cons mw_557 (gl_cons mw_558 (gl_cons mw_559 (gl_cons mw_560 (gl_cons mw_561 (gl_cons mw_562 (gl_cons mw_563 (gl_cons mw_564 (gl_cons mw_70 (gl_cons mw_565 (gl_cons mw_566 (gl_cons mw_567 (gl_cons mw_568 (gl_cons mw_569 gl_nil))))))))))))))))))))))))) (show GoodIn lw_tbl wsX12_due_r8 from (gl_cons mw_570 (gl_cons mw_571 (gl_cons mw_548 (gl_cons mw_108 (gl_cons mw_111 (gl_cons mw_114 (gl_cons mw_117 (gl_cons mw_572 (gl_cons mw_573 (gl_cons mw_574 (gl_cons mw_576 (gl_cons mw_578 (gl_cons mw_682 (gl_cons mw_677 (gl_cons mw_678 gl_nil))))))))))))))))))))))) lgg_X120) lgg_X30) lgg_X20) lgg_X80) lgg_X110))
set_option maxRecDepth 40000 in
theorem lgg_X12_dueDays : GoodIn lw_tbl wsX12_dueDays := (gl_cons mw_686 (goodIn_app (goodIn_app (goodIn_app (goodIn_app (goodIn_app (goodIn_app (show GoodIn lw_tbl wsX12_dueDays_r1 from (gl_cons mw_361 (gl_cons mw_253 (gl_cons mw_251 (gl_cons mw_653 (gl_cons mw_655 (gl_cons mw_6 (gl_cons mw_56 (gl_cons mw_656 (gl_cons mw_358 (gl_cons mw_477 (gl_cons mw_478 (gl_cons mw_479 (gl_cons mw_59 (gl_cons mw_480 (gl_cons mw_139 (gl_cons mw_393 (gl_cons mw_394 (gl_cons mw_414 (gl_cons mw_415 (gl_cons mw_416 (gl_cons mw_392 (gl_cons mw_425 (gl_cons mw_426 (gl_cons mw_427 gl_nil))))))))))))))))))))))))) (goodIn_app (show GoodIn lw_tbl wsX12_dueDays_r2 from (gl_cons mw_657 (gl_cons mw_658 (gl_cons mw_659 (gl_cons mw_62 (gl_cons mw_660 (gl_cons mw_248 (gl_cons mw_250 (gl_cons mw_254 (gl_cons mw_246 (gl_cons mw_160 (gl_cons mw_252 (gl_cons mw_661 (gl_cons mw_663 (gl_cons mw_7 (gl_cons mw_664 (gl_cons mw_156 (gl_cons mw_148 (gl_cons mw_665 (gl_cons mw_673 (gl_cons mw_144 (gl_cons mw_245 (gl_cons mw_152 (gl_cons mw_247 (gl_cons mw_666 gl_nil))))))))))))))))))))))))) (goodIn_app (show GoodIn lw_tbl wsX12_dueDays_r3 from (gl_cons mw_457 (gl_cons mw_458 (gl_cons mw_459 (gl_cons mw_141 (gl_cons mw_667 (gl_cons mw_507 (gl_cons mw_509 (gl_cons mw_510 (gl_cons mw_68 (gl_cons mw_511 (gl_cons mw_1538 (gl_cons mw_668 (gl_cons mw_670 (gl_cons mw_8 (gl_cons mw_671 (gl_cons mw_672 (gl_cons mw_539 (gl_cons mw_61 (gl_cons mw_540 (gl_cons mw_674 (gl_cons mw_676 (gl_cons mw_9 (gl_cons mw_679 (gl_cons mw_429 gl_nil))))))))))))))))))))))))) (goodIn_app (show GoodIn lw_tbl wsX12_dueDays_r4 from (gl_cons mw_58 (gl_cons mw_430 (gl_cons mw_431 (gl_cons mw_432 (gl_cons mw_67 (gl_cons mw_433 (gl_cons mw_434 (gl_cons mw_435 (gl_cons mw_436 (gl_cons mw_680 (gl_cons mw_418 (gl_cons mw_419 (gl_cons mw_420 (gl_cons mw_100 (gl_cons mw_102 (gl_cons mw_104 (gl_cons mw_681 (gl_cons mw_632 (gl_cons mw_633 (gl_cons mw_634 (gl_cons mw_218 (gl_cons mw_149 (gl_cons mw_157 (gl_cons mw_635 gl_nil))))))))))))))))))))))))) (goodIn_app (show GoodIn lw_tbl wsX12_dueDays_r5 from (gl_cons mw_516 (gl_cons mw_498 (gl_cons mw_499 (gl_cons mw_500 (gl_cons mw_223 (gl_cons mw_224 (gl_cons mw_501 (gl_cons mw_504 (gl_cons mw_517 (gl_cons mw_145 (gl_cons mw_217 (gl_cons mw_153 (gl_cons mw_549 (gl_cons mw_503 (gl_cons mw_506 (gl_cons mw_512 (gl_cons mw_514 (gl_cons mw_1 (gl_cons mw_515 (gl_cons mw_219 (gl_cons mw_221 (gl_cons mw_518 (gl_cons mw_520 (gl_cons mw_2 gl_nil))))))))))))))))))))))))) (goodIn_app (show GoodIn lw_tbl wsX12_dueDays_r6 from (gl_cons mw_521 (gl_cons mw_522 (gl_cons mw_523 (gl_cons mw_524 (gl_cons mw_525 (gl_cons mw_526 (gl_cons mw_527 (gl_cons mw_528 (gl_cons mw_529 (gl_cons mw_530 (gl_cons mw_531 (gl_cons mw_70 (gl_cons mw_532 (gl_cons mw_533 (gl_cons mw_534 (gl_cons mw_536 (gl_cons mw_3 (gl_cons mw_537 (gl_cons mw_538 (gl_cons mw_541 (gl_cons mw_543 (gl_cons mw_4 (gl_cons mw_544 (gl_cons mw_545 gl_nil))))))))))))))))))))))))) (goodIn_app (show GoodIn lw_tbl wsX12_dueDays_r7 from (gl_cons mw_546 (gl_cons mw_547 (gl_cons mw_551 (gl_cons mw_553 (gl_cons mw_5 (gl_cons mw_554 (gl_cons mw_555 (gl_cons mw_556 (gl_cons mw_557 (gl_cons mw_558 (gl_cons mw_559 (gl_cons mw_560 (gl_cons mw_561 (gl_cons mw_562 (gl_cons mw_563 (gl_cons mw_564 (gl_cons mw_70 (gl_cons mw_565 (gl_cons mw_566 (gl_cons mw_567 (gl_cons mw_568 (gl_cons mw_569 (gl_cons mw_570 (gl_cons mw_571 gl_nil))))))))))))))))))))))))) (show GoodIn lw_tbl wsX12_dueDays_r8 from (gl_cons mw_548 (gl_cons mw_108 (gl_cons mw_111 (gl_cons mw_114 (gl_cons mw_117 (gl_cons mw_572 (gl_cons mw_573 (gl_cons mw_574 (gl_cons mw_576 (gl_cons mw_578 (gl_cons mw_682 (gl_cons mw_677 (gl_cons mw_678 gl_nil))))))))))))))))))))) lgg_X120) lgg_X30) lgg_X20) lgg_X80) lgg_X110))
set_option maxRecDepth 40000 in
theorem lgg_X12_failed : GoodIn lw_tbl wsX12_failed := (gl_cons mw_690 (goodIn_app (goodIn_app (goodIn_app (goodIn_app (goodIn_app (goodIn_app (show GoodIn lw_tbl wsX12_failed_r1 from (gl_cons mw_496 (gl_cons mw_361 (gl_cons mw_253 (gl_cons mw_595 (gl_cons mw_696 (gl_cons mw_653 (gl_cons mw_655 (gl_cons mw_6 (gl_cons mw_56 (gl_cons mw_656 (gl_cons mw_358 (gl_cons mw_477 (gl_cons mw_478 (gl_cons mw_479 (gl_cons mw_59 (gl_cons mw_480 (gl_cons mw_139 (gl_cons mw_393 (gl_cons mw_394 (gl_cons mw_414 (gl_cons mw_415 (gl_cons mw_416 (gl_cons mw_392 (gl_cons mw_425 gl_nil))))))))))))))))))))))))) (goodIn_app (show GoodIn lw_tbl wsX12_failed_r2 from (gl_cons mw_426 (gl_cons mw_427 (gl_cons mw_657 (gl_cons mw_658 (gl_cons mw_659 (gl_cons mw_62 (gl_cons mw_660 (gl_cons mw_248 (gl_cons mw_250 (gl_cons mw_254 (gl_cons mw_246 (gl_cons mw_160 (gl_cons mw_252 (gl_cons mw_661 (gl_cons mw_663 (gl_cons mw_7 (gl_cons mw_664 (gl_cons mw_156 (gl_cons mw_148 (gl_cons mw_665 (gl_cons mw_673 (gl_cons mw_144 (gl_cons mw_245 (gl_cons mw_152 gl_nil))))))))))))))))))))))))) (goodIn_app (show GoodIn lw_tbl wsX12_failed_r3 from (gl_cons mw_247 (gl_cons mw_666 (gl_cons mw_457 (gl_cons mw_458 (gl_cons mw_459 (gl_cons mw_141 (gl_cons mw_667 (gl_cons mw_507 (gl_cons mw_509 (gl_cons mw_510 (gl_cons mw_68 (gl_cons mw_511 (gl_cons mw_1538 (gl_cons mw_668 (gl_cons mw_670 (gl_cons mw_8 (gl_cons mw_671 (gl_cons mw_672 (gl_cons mw_539 (gl_cons mw_61 (gl_cons mw_540 (gl_cons mw_674 (gl_cons mw_676 (gl_cons mw_9 gl_nil))))))))))))))))))))))))) (goodIn_app (show GoodIn lw_tbl wsX12_failed_r4 from (gl_cons mw_679 (gl_cons mw_429 (gl_cons mw_58 (gl_cons mw_430 (gl_cons mw_431 (gl_cons mw_432 (gl_cons mw_67 (gl_cons mw_433 (gl_cons mw_434 (gl_cons mw_435 (gl_cons mw_436 (gl_cons mw_680 (gl_cons mw_418 (gl_cons mw_419 (gl_cons mw_420 (gl_cons mw_100 (gl_cons mw_102 (gl_cons mw_104 (gl_cons mw_681 (gl_cons mw_632 (gl_cons mw_633 (gl_cons mw_634 (gl_cons mw_218 (gl_cons mw_149 gl_nil))))))))))))))))))))))))) (goodIn_app (show GoodIn lw_tbl wsX12_failed_r5 from (gl_cons mw_157 (gl_cons mw_635 (gl_cons mw_516 (gl_cons mw_498 (gl_cons mw_499 (gl_cons mw_500 (gl_cons mw_223 (gl_cons mw_224 (gl_cons mw_501 (gl_cons mw_504 (gl_cons mw_517 (gl_cons mw_145 (gl_cons mw_217 (gl_cons mw_153 (gl_cons mw_549 (gl_cons mw_503 (gl_cons mw_506 (gl_cons mw_512 (gl_cons mw_514 (gl_cons mw_1 (gl_cons mw_515 (gl_cons mw_219 (gl_cons mw_221 (gl_cons mw_518 gl_nil))))))))))))))))))))))))) (goodIn_app (show GoodIn lw_tbl wsX12_failed_r6 from (gl_cons mw_520 (gl_cons mw_2 (gl_cons mw_521 (gl_cons mw_522 (gl_cons mw_523 (gl_cons mw_524 (gl_cons mw_525 (gl_cons mw_526 (gl_cons mw_527 (gl_cons mw_528 (gl_cons mw_529 (gl_cons mw_530 (gl_cons mw_531 (gl_cons mw_70 (gl_cons mw_532 (gl_cons mw_533 (gl_cons mw_534 (gl_cons mw_536 (gl_cons mw_3 (gl_cons mw_537 (gl_cons mw_538 (gl_cons mw_541 (gl_cons mw_543 (gl_cons mw_4 gl_nil))))))))))))))))))))))))) (goodIn_app (show GoodIn lw_tbl wsX12_failed_r7 from (gl_cons mw_544 (gl_cons mw_545 (gl_cons mw_546 (gl_cons mw_547 (gl_cons mw_551 (gl_cons mw_553 (gl_cons mw_5 (gl_cons mw_554 (gl_cons mw_555 (gl_cons mw_556 (gl_cons mw_557 (gl_cons mw_558 (gl_cons mw_559 (gl_cons mw_560 (gl_cons mw_561 (gl_cons mw_562 (gl_cons mw_563 (gl_cons mw_564 (gl_cons mw_70 (gl_cons mw_565 (gl_cons mw_566 (gl_cons mw_567 (gl_cons mw_568 (gl_cons mw_569 gl_nil))))))))))))))))))))))))) (show GoodIn lw_tbl wsX12_failed_r8 from (gl_cons mw_570 (gl_cons mw_571 (gl_cons mw_548 (gl_cons mw_108 (gl_cons mw_111 (gl_cons mw_114 (gl_cons mw_117 (gl_cons mw_572 (gl_cons mw_573 (gl_cons mw_574 (gl_cons mw_576 (gl_cons mw_578 (gl_cons mw_682 (gl_cons mw_677 (gl_cons mw_678 (gl_cons mw_691 (gl_cons mw_692 (gl_cons mw_693 (gl_cons mw_694 (gl_cons mw_695 (gl_cons mw_697 gl_nil))))))))))))))))))))))))))))) lgg_X120) lgg_X30) lgg_X20) lgg_X80) lgg_X110))
set_option maxRecDepth 40000 in
theorem lgg_X12_dues : GoodIn lw_tbl wsX12_dues := (gl_cons mw_701 (goodIn_app (goodIn_app (goodIn_app (goodIn_app (goodIn_app (goodIn_app (goodIn_app (show GoodIn lw_tbl wsX12_dues_r1 from (gl_cons mw_363 (gl_cons mw_310 (gl_cons mw_361 (gl_cons mw_253 (gl_cons mw_312 (gl_cons mw_249 (gl_cons mw_653 (gl_cons mw_655 (gl_cons mw_6 (gl_cons mw_56 (gl_cons mw_656 (gl_cons mw_358 (gl_cons mw_477 (gl_cons mw_478 (gl_cons mw_479 (gl_cons mw_59 (gl_cons mw_480 (gl_cons mw_139 (gl_cons mw_393 (gl_cons mw_394 (gl_cons mw_414 (gl_cons mw_415 (gl_cons mw_416 (gl_cons mw_392 gl_nil))))))))))))))))))))))))) (goodIn_app (show GoodIn lw_tbl wsX12_dues_r2 from (gl_cons mw_425 (gl_cons mw_426 (gl_cons mw_427 (gl_cons mw_657 (gl_cons mw_658 (gl_cons mw_659 (gl_cons mw_62 (gl_cons mw_660 (gl_cons mw_248 (gl_cons mw_250 (gl_cons mw_254 (gl_cons mw_246 (gl_cons mw_160 (gl_cons mw_252 (gl_cons mw_661 (gl_cons mw_663 (gl_cons mw_7 (gl_cons mw_664 (gl_cons mw_156 (gl_cons mw_148 (gl_cons mw_665 (gl_cons mw_673 (gl_cons mw_144 (gl_cons mw_245 gl_nil))))))))))))))))))))))))) (goodIn_app (show GoodIn lw_tbl wsX12_dues_r3 from (gl_cons mw_152 (gl_cons mw_247 (gl_cons mw_666 (gl_cons mw_457 (gl_cons mw_458 (gl_cons mw_459 (gl_cons mw_141 (gl_cons mw_667 (gl_cons mw_507 (gl_cons mw_509 (gl_cons mw_510 (gl_cons mw_68 (gl_cons mw_511 (gl_cons mw_1538 (gl_cons mw_668 (gl_cons mw_670 (gl_cons mw_8 (gl_cons mw_671 (gl_cons mw_672 (gl_cons mw_539 (gl_cons mw_61 (gl_cons mw_540 (gl_cons mw_674 (gl_cons mw_676 gl_nil))))))))))))))))))))))))) (goodIn_app (show GoodIn lw_tbl wsX12_dues_r4 from (gl_cons mw_9 (gl_cons mw_679 (gl_cons mw_429 (gl_cons mw_58 (gl_cons mw_430 (gl_cons mw_431 (gl_cons mw_432 (gl_cons mw_67 (gl_cons mw_433 (gl_cons mw_434 (gl_cons mw_435 (gl_cons mw_436 (gl_cons mw_680 (gl_cons mw_418 (gl_cons mw_419 (gl_cons mw_420 (gl_cons mw_100 (gl_cons mw_102 (gl_cons mw_104 (gl_cons mw_681 (gl_cons mw_632 (gl_cons mw_633 (gl_cons mw_634 (gl_cons mw_218 gl_nil))))))))))))))))))))))))) (goodIn_app (show GoodIn lw_tbl wsX12_dues_r5 from (gl_cons mw_149 (gl_cons mw_157 (gl_cons mw_635 (gl_cons mw_516 (gl_cons mw_498 (gl_cons mw_499 (gl_cons mw_500 (gl_cons mw_223 (gl_cons mw_224 (gl_cons mw_501 (gl_cons mw_504 (gl_cons mw_517 (gl_cons mw_145 (gl_cons mw_217 (gl_cons mw_153 (gl_cons mw_549 (gl_cons mw_503 (gl_cons mw_506 (gl_cons mw_512 (gl_cons mw_514 (gl_cons mw_1 (gl_cons mw_515 (gl_cons mw_219 (gl_cons mw_221 gl_nil))))))))))))))))))))))))) (goodIn_app (show GoodIn lw_tbl wsX12_dues_r6 from (gl_cons mw_518 (gl_cons mw_520 (gl_cons mw_2 (gl_cons mw_521 (gl_cons mw_522 (gl_cons mw_523 (gl_cons mw_524 (gl_cons mw_525 (gl_cons mw_526 (gl_cons mw_527 (gl_cons mw_528 (gl_cons mw_529 (gl_cons mw_530 (gl_cons mw_531 (gl_cons mw_70 (gl_cons mw_532 (gl_cons mw_533 (gl_cons mw_534 (gl_cons mw_536 (gl_cons mw_3 (gl_cons mw_537 (gl_cons mw_538 (gl_cons mw_541 (gl_cons mw_543 gl_nil))))))))))))))))))))))))) (goodIn_app (show GoodIn lw_tbl wsX12_dues_r7 from (gl_cons mw_4 (gl_cons mw_544 (gl_cons mw_545 (gl_cons mw_546 (gl_cons mw_547 (gl_cons mw_551 (gl_cons mw_553 (gl_cons mw_5 (gl_cons mw_554 (gl_cons mw_555 (gl_cons mw_556 (gl_cons mw_557 (gl_cons mw_558 (gl_cons mw_559 (gl_cons mw_560 (gl_cons mw_561 (gl_cons mw_562 (gl_cons mw_563 (gl_cons mw_564 (gl_cons mw_70 (gl_cons mw_565 (gl_cons mw_566 (gl_cons mw_567 (gl_cons mw_568 gl_nil))))))))))))))))))))))))) (goodIn_app (show GoodIn lw_tbl wsX12_dues_r8 from (gl_cons mw_569 (gl_cons mw_570 (gl_cons mw_571 (gl_cons mw_548 (gl_cons mw_108 (gl_cons mw_111 (gl_cons mw_114 (gl_cons mw_117 (gl_cons mw_572 (gl_cons mw_573 (gl_cons mw_574 (gl_cons mw_576 (gl_cons mw_578 (gl_cons mw_682 (gl_cons mw_677 (gl_cons mw_678 (gl_cons mw_702 (gl_cons mw_703 (gl_cons mw_704 (gl_cons mw_64 (gl_cons mw_705 (gl_cons mw_309 (gl_cons mw_313 (gl_cons mw_314 gl_nil))))))))))))))))))))))))) (show GoodIn lw_tbl wsX12_dues_r9 from (gl_cons mw_315 (gl_cons mw_316 gl_nil))))))))))) lgg_X120) lgg_X90) lgg_X30) lgg_X20) lgg_X80) lgg_X110))
set_option maxRecDepth 40000 in
theorem lgg_X12_feed : GoodIn lw_tbl wsX12_feed := (gl_cons mw_709 (goodIn_app (goodIn_app (gl_cons mw_362 (gl_cons mw_277 (gl_cons mw_392 (gl_cons mw_393 (gl_cons mw_56 (gl_cons mw_394 (gl_cons mw_710 (gl_cons mw_711 (gl_cons mw_712 (gl_cons mw_63 (gl_cons mw_713 (gl_cons mw_276 (gl_cons mw_278 gl_nil))))))))))))) lgg_X120) lgg_X100))
set_option maxRecDepth 40000 in
theorem lgg_X12_text : GoodIn lw_tbl wsX12_text := (gl_cons mw_717 (goodIn_app (goodIn_app (goodIn_app (goodIn_app (show GoodIn lw_tbl wsX12_text_r1 from (gl_cons mw_362 (gl_cons mw_358 (gl_cons mw_140 (gl_cons mw_277 (gl_cons mw_283 (gl_cons mw_718 (gl_cons mw_719 (gl_cons mw_720 (gl_cons mw_63 (gl_cons mw_721 (gl_cons mw_281 (gl_cons mw_276 (gl_cons mw_278 (gl_cons mw_279 (gl_cons mw_284 (gl_cons mw_1539 (gl_cons mw_1540 (gl_cons mw_280 (gl_cons mw_1544 (gl_cons mw_723 (gl_cons mw_725 (gl_cons mw_10 (gl_cons mw_726 (gl_cons mw_728 gl_nil))))))))))))))))))))))))) (goodIn_app (show GoodIn lw_tbl wsX12_text_r2 from (gl_cons mw_471 (gl_cons mw_70 (gl_cons mw_472 (gl_cons mw_393 (gl_cons mw_56 (gl_cons mw_394 (gl_cons mw_729 (gl_cons mw_731 (gl_cons mw_11 (gl_cons mw_732 (gl_cons mw_733 (gl_cons mw_735 (gl_cons mw_12 (gl_cons mw_736 (gl_cons mw_1541 (gl_cons mw_737 (gl_cons mw_739 (gl_cons mw_13 (gl_cons mw_740 (gl_cons mw_741 (gl_cons mw_742 (gl_cons mw_743 (gl_cons mw_75 (gl_cons mw_744 gl_nil))))))))))))))))))))))))) (goodIn_app (show GoodIn lw_tbl wsX12_text_r3 from (gl_cons mw_1542 (gl_cons mw_745 (gl_cons mw_746 (gl_cons mw_747 (gl_cons mw_748 (gl_cons mw_749 (gl_cons mw_1543 (gl_cons mw_751 (gl_cons mw_752 (gl_cons mw_753 (gl_cons mw_754 (gl_cons mw_755 (gl_cons mw_756 (gl_cons mw_757 (gl_cons mw_758 (gl_cons mw_759 (gl_cons mw_760 (gl_cons mw_76 (gl_cons mw_761 (gl_cons mw_762 (gl_cons mw_763 (gl_cons mw_764 (gl_cons mw_765 (gl_cons mw_767 gl_nil))))))))))))))))))))))))) (goodIn_app (show GoodIn lw_tbl wsX12_text_r4 from (gl_cons mw_768 (gl_cons mw_77 (gl_cons mw_769 (gl_cons mw_770 (gl_cons mw_771 (gl_cons mw_78 (gl_cons mw_772 (gl_cons mw_773 (gl_cons mw_774 (gl_cons mw_775 (gl_cons mw_776 (gl_cons mw_777 (gl_cons mw_778 (gl_cons mw_779 (gl_cons mw_780 (gl_cons mw_781 (gl_cons mw_782 (gl_cons mw_783 (gl_cons mw_785 (gl_cons mw_787 (gl_cons mw_789 (gl_cons mw_790 (gl_cons mw_791 (gl_cons mw_69 gl_nil))))))))))))))))))))))))) (goodIn_app (show GoodIn lw_tbl wsX12_text_r5 from (gl_cons mw_792 (gl_cons mw_1545 (gl_cons mw_1546 (gl_cons mw_793 (gl_cons mw_794 (gl_cons mw_795 (gl_cons mw_796 (gl_cons mw_282 (gl_cons mw_797 (gl_cons mw_798 (gl_cons mw_449 (gl_cons mw_450 (gl_cons mw_59 (gl_cons mw_451 (gl_cons mw_139 (gl_cons mw_141 (gl_cons mw_143 (gl_cons mw_452 (gl_cons mw_453 (gl_cons mw_454 (gl_cons mw_455 (gl_cons mw_1537 (gl_cons mw_147 (gl_cons mw_151 gl_nil))))))))))))))))))))))))) (show GoodIn lw_tbl wsX12_text_r6 from (gl_cons mw_456 (gl_cons mw_457 (gl_cons mw_458 (gl_cons mw_459 (gl_cons mw_461 (gl_cons mw_463 (gl_cons mw_0 (gl_cons mw_464 (gl_cons mw_155 (gl_cons mw_159 (gl_cons mw_162 (gl_cons mw_465 (gl_cons mw_466 (gl_cons mw_467 (gl_cons mw_468 (gl_cons mw_470 gl_nil)))))))))))))))))))))) lgg_X120) lgg_X20) lgg_X100))
set_option maxRecDepth 40000 in
theorem lgg_X12_put : GoodIn lw_tbl wsX12_put := (gl_cons mw_802 (goodIn_app (goodIn_app (goodIn_app (gl_cons mw_358 (gl_cons mw_359 (gl_cons mw_190 (gl_cons mw_803 (gl_cons mw_804 (gl_cons mw_56 (gl_cons mw_805 (gl_cons mw_392 (gl_cons mw_393 (gl_cons mw_394 (gl_cons mw_477 (gl_cons mw_478 (gl_cons mw_479 (gl_cons mw_59 (gl_cons mw_480 (gl_cons mw_139 (gl_cons mw_806 (gl_cons mw_807 (gl_cons mw_808 (gl_cons mw_60 (gl_cons mw_809 (gl_cons mw_189 (gl_cons mw_191 gl_nil))))))))))))))))))))))) lgg_X120) lgg_X10) lgg_X20))
set_option maxRecDepth 40000 in
theorem lgg_X12_take : GoodIn lw_tbl wsX12_take := (gl_cons mw_813 (goodIn_app (goodIn_app (gl_cons mw_359 (gl_cons mw_190 (gl_cons mw_192 (gl_cons mw_803 (gl_cons mw_804 (gl_cons mw_56 (gl_cons mw_805 (gl_cons mw_392 (gl_cons mw_393 (gl_cons mw_394 gl_nil)))))))))) lgg_X120) lgg_X10))
set_option maxRecDepth 40000 in
theorem lgg_X12_bagOf : GoodIn lw_tbl wsX12_bagOf := (gl_cons mw_817 (goodIn_app (goodIn_app (gl_cons mw_359 (gl_cons mw_190 (gl_cons mw_192 (gl_cons mw_803 (gl_cons mw_804 (gl_cons mw_56 (gl_cons mw_805 (gl_cons mw_392 (gl_cons mw_393 (gl_cons mw_394 gl_nil)))))))))) lgg_X120) lgg_X10))
set_option maxRecDepth 40000 in
theorem lgg_X12_pour : GoodIn lw_tbl wsX12_pour := (gl_cons mw_821 (goodIn_app (goodIn_app (goodIn_app (goodIn_app (show GoodIn lw_tbl wsX12_pour_r1 from (gl_cons mw_359 (gl_cons mw_190 (gl_cons mw_192 (gl_cons mw_358 (gl_cons mw_142 (gl_cons mw_803 (gl_cons mw_804 (gl_cons mw_56 (gl_cons mw_805 (gl_cons mw_392 (gl_cons mw_393 (gl_cons mw_394 (gl_cons mw_477 (gl_cons mw_478 (gl_cons mw_479 (gl_cons mw_59 (gl_cons mw_480 (gl_cons mw_139 (gl_cons mw_806 (gl_cons mw_807 (gl_cons mw_808 (gl_cons mw_60 (gl_cons mw_809 (gl_cons mw_189 gl_nil))))))))))))))))))))))))) (show GoodIn lw_tbl wsX12_pour_r2 from (gl_cons mw_191 gl_nil))) lgg_X120) lgg_X10) lgg_X20))
set_option maxRecDepth 40000 in
theorem lgg_X12_bagBest : GoodIn lw_tbl wsX12_bagBest := (gl_cons mw_825 (goodIn_app (goodIn_app (goodIn_app (goodIn_app (goodIn_app (goodIn_app (show GoodIn lw_tbl wsX12_bagBest_r1 from (gl_cons mw_359 (gl_cons mw_190 (gl_cons mw_192 (gl_cons mw_358 (gl_cons mw_360 (gl_cons mw_803 (gl_cons mw_804 (gl_cons mw_56 (gl_cons mw_805 (gl_cons mw_392 (gl_cons mw_393 (gl_cons mw_394 (gl_cons mw_411 (gl_cons mw_412 (gl_cons mw_413 (gl_cons mw_414 (gl_cons mw_415 (gl_cons mw_416 (gl_cons mw_477 (gl_cons mw_478 (gl_cons mw_479 (gl_cons mw_59 (gl_cons mw_480 (gl_cons mw_139 gl_nil))))))))))))))))))))))))) (goodIn_app (show GoodIn lw_tbl wsX12_bagBest_r2 from (gl_cons mw_497 (gl_cons mw_498 (gl_cons mw_499 (gl_cons mw_61 (gl_cons mw_500 (gl_cons mw_223 (gl_cons mw_224 (gl_cons mw_218 (gl_cons mw_149 (gl_cons mw_157 (gl_cons mw_501 (gl_cons mw_504 (gl_cons mw_517 (gl_cons mw_145 (gl_cons mw_217 (gl_cons mw_153 (gl_cons mw_549 (gl_cons mw_503 (gl_cons mw_457 (gl_cons mw_458 (gl_cons mw_459 (gl_cons mw_141 (gl_cons mw_506 (gl_cons mw_507 gl_nil))))))))))))))))))))))))) (goodIn_app (show GoodIn lw_tbl wsX12_bagBest_r3 from (gl_cons mw_509 (gl_cons mw_510 (gl_cons mw_68 (gl_cons mw_511 (gl_cons mw_1538 (gl_cons mw_512 (gl_cons mw_514 (gl_cons mw_1 (gl_cons mw_515 (gl_cons mw_219 (gl_cons mw_221 (gl_cons mw_516 (gl_cons mw_518 (gl_cons mw_520 (gl_cons mw_2 (gl_cons mw_521 (gl_cons mw_522 (gl_cons mw_523 (gl_cons mw_524 (gl_cons mw_525 (gl_cons mw_526 (gl_cons mw_527 (gl_cons mw_528 (gl_cons mw_529 gl_nil))))))))))))))))))))))))) (goodIn_app (show GoodIn lw_tbl wsX12_bagBest_r4 from (gl_cons mw_530 (gl_cons mw_531 (gl_cons mw_70 (gl_cons mw_532 (gl_cons mw_533 (gl_cons mw_418 (gl_cons mw_419 (gl_cons mw_58 (gl_cons mw_420 (gl_cons mw_100 (gl_cons mw_102 (gl_cons mw_104 (gl_cons mw_534 (gl_cons mw_536 (gl_cons mw_3 (gl_cons mw_537 (gl_cons mw_538 (gl_cons mw_539 (gl_cons mw_540 (gl_cons mw_541 (gl_cons mw_543 (gl_cons mw_4 (gl_cons mw_544 (gl_cons mw_545 gl_nil))))))))))))))))))))))))) (goodIn_app (show GoodIn lw_tbl wsX12_bagBest_r5 from (gl_cons mw_546 (gl_cons mw_547 (gl_cons mw_551 (gl_cons mw_553 (gl_cons mw_5 (gl_cons mw_554 (gl_cons mw_555 (gl_cons mw_556 (gl_cons mw_557 (gl_cons mw_558 (gl_cons mw_559 (gl_cons mw_560 (gl_cons mw_561 (gl_cons mw_562 (gl_cons mw_563 (gl_cons mw_564 (gl_cons mw_70 (gl_cons mw_565 (gl_cons mw_566 (gl_cons mw_567 (gl_cons mw_568 (gl_cons mw_569 (gl_cons mw_570 (gl_cons mw_571 gl_nil))))))))))))))))))))))))) (show GoodIn lw_tbl wsX12_bagBest_r6 from (gl_cons mw_548 (gl_cons mw_108 (gl_cons mw_111 (gl_cons mw_114 (gl_cons mw_117 (gl_cons mw_572 (gl_cons mw_573 (gl_cons mw_574 (gl_cons mw_576 (gl_cons mw_578 (gl_cons mw_594 (gl_cons mw_640 gl_nil)))))))))))))))))) lgg_X120) lgg_X10) lgg_X20) lgg_X110) lgg_X80))
set_option maxRecDepth 40000 in
theorem lgg_X12_sum : GoodIn lw_tbl wsX12_sum := (gl_cons mw_829 (goodIn_app (goodIn_app (goodIn_app (goodIn_app (show GoodIn lw_tbl wsX12_sum_r1 from (gl_cons mw_359 (gl_cons mw_190 (gl_cons mw_358 (gl_cons mw_192 (gl_cons mw_140 (gl_cons mw_830 (gl_cons mw_1547 (gl_cons mw_803 (gl_cons mw_804 (gl_cons mw_56 (gl_cons mw_805 (gl_cons mw_392 (gl_cons mw_393 (gl_cons mw_394 (gl_cons mw_477 (gl_cons mw_478 (gl_cons mw_479 (gl_cons mw_59 (gl_cons mw_480 (gl_cons mw_139 (gl_cons mw_448 (gl_cons mw_449 (gl_cons mw_450 (gl_cons mw_451 gl_nil))))))))))))))))))))))))) (goodIn_app (show GoodIn lw_tbl wsX12_sum_r2 from (gl_cons mw_141 (gl_cons mw_143 (gl_cons mw_452 (gl_cons mw_453 (gl_cons mw_454 (gl_cons mw_455 (gl_cons mw_1537 (gl_cons mw_147 (gl_cons mw_151 (gl_cons mw_456 (gl_cons mw_457 (gl_cons mw_458 (gl_cons mw_459 (gl_cons mw_461 (gl_cons mw_463 (gl_cons mw_0 (gl_cons mw_464 (gl_cons mw_155 (gl_cons mw_159 (gl_cons mw_162 (gl_cons mw_465 (gl_cons mw_466 (gl_cons mw_70 (gl_cons mw_467 gl_nil))))))))))))))))))))))))) (show GoodIn lw_tbl wsX12_sum_r3 from (gl_cons mw_468 (gl_cons mw_470 (gl_cons mw_471 (gl_cons mw_472 gl_nil))))))) lgg_X120) lgg_X10) lgg_X20))
set_option maxRecDepth 40000 in
theorem lgg_X12_sheet : GoodIn lw_tbl wsX12_sheet := (gl_cons mw_835 (goodIn_app (goodIn_app (gl_cons mw_363 (gl_cons mw_310 (gl_cons mw_392 (gl_cons mw_393 (gl_cons mw_56 (gl_cons mw_394 (gl_cons mw_836 (gl_cons mw_837 (gl_cons mw_838 (gl_cons mw_64 (gl_cons mw_839 (gl_cons mw_309 (gl_cons mw_311 (gl_cons mw_840 (gl_cons mw_703 (gl_cons mw_704 (gl_cons mw_705 (gl_cons mw_313 (gl_cons mw_314 (gl_cons mw_315 (gl_cons mw_316 gl_nil))))))))))))))))))))) lgg_X120) lgg_X90))
set_option maxRecDepth 40000 in
theorem lgg_X12_cell : GoodIn lw_tbl wsX12_cell := (gl_cons mw_844 (goodIn_app (goodIn_app (gl_cons mw_363 (gl_cons mw_845 (gl_cons mw_847 (gl_cons mw_14 (gl_cons mw_56 (gl_cons mw_848 (gl_cons mw_310 (gl_cons mw_312 (gl_cons mw_392 (gl_cons mw_393 (gl_cons mw_394 (gl_cons mw_702 (gl_cons mw_703 (gl_cons mw_704 (gl_cons mw_64 (gl_cons mw_705 (gl_cons mw_309 (gl_cons mw_313 (gl_cons mw_314 (gl_cons mw_315 (gl_cons mw_316 gl_nil))))))))))))))))))))) lgg_X120) lgg_X90))
set_option maxRecDepth 40000 in
theorem lgg_X12_read : GoodIn lw_tbl wsX12_read := (gl_cons mw_852 (goodIn_app (goodIn_app (goodIn_app (show GoodIn lw_tbl wsX12_read_r1 from (gl_cons mw_496 (gl_cons mw_853 (gl_cons mw_363 (gl_cons mw_872 (gl_cons mw_392 (gl_cons mw_393 (gl_cons mw_56 (gl_cons mw_394 (gl_cons mw_845 (gl_cons mw_847 (gl_cons mw_14 (gl_cons mw_848 (gl_cons mw_310 (gl_cons mw_312 (gl_cons mw_854 (gl_cons mw_855 (gl_cons mw_856 (gl_cons mw_64 (gl_cons mw_857 (gl_cons mw_309 (gl_cons mw_313 (gl_cons mw_314 (gl_cons mw_315 (gl_cons mw_316 gl_nil))))))))))))))))))))))))) (goodIn_app (show GoodIn lw_tbl wsX12_read_r2 from (gl_cons mw_858 (gl_cons mw_598 (gl_cons mw_72 (gl_cons mw_599 (gl_cons mw_607 (gl_cons mw_600 (gl_cons mw_601 (gl_cons mw_602 (gl_cons mw_603 (gl_cons mw_604 (gl_cons mw_605 (gl_cons mw_606 (gl_cons mw_859 (gl_cons mw_609 (gl_cons mw_610 (gl_cons mw_611 (gl_cons mw_860 (gl_cons mw_861 (gl_cons mw_862 (gl_cons mw_863 (gl_cons mw_864 (gl_cons mw_865 (gl_cons mw_866 (gl_cons mw_867 gl_nil))))))))))))))))))))))))) (show GoodIn lw_tbl wsX12_read_r3 from (gl_cons mw_868 (gl_cons mw_869 (gl_cons mw_870 (gl_cons mw_871 (gl_cons mw_612 (gl_cons mw_613 (gl_cons mw_614 (gl_cons mw_608 gl_nil))))))))))) lgg_X120) lgg_X90))
set_option maxRecDepth 40000 in
theorem lgg_X12_halve : GoodIn lw_tbl wsX12_halve := (gl_cons mw_876 (goodIn_app (goodIn_app (gl_cons mw_363 (gl_cons mw_845 (gl_cons mw_847 (gl_cons mw_14 (gl_cons mw_56 (gl_cons mw_848 (gl_cons mw_310 (gl_cons mw_312 (gl_cons mw_392 (gl_cons mw_393 (gl_cons mw_394 (gl_cons mw_877 (gl_cons mw_878 (gl_cons mw_879 (gl_cons mw_64 (gl_cons mw_880 (gl_cons mw_309 (gl_cons mw_313 (gl_cons mw_314 (gl_cons mw_881 (gl_cons mw_315 (gl_cons mw_316 (gl_cons mw_882 gl_nil))))))))))))))))))))))) lgg_X120) lgg_X90))
set_option maxRecDepth 40000 in
theorem lgg_X12_copy : GoodIn lw_tbl wsX12_copy := (gl_cons mw_886 (goodIn_app (goodIn_app (goodIn_app (show GoodIn lw_tbl wsX12_copy_r1 from (gl_cons mw_363 (gl_cons mw_310 (gl_cons mw_392 (gl_cons mw_393 (gl_cons mw_56 (gl_cons mw_394 (gl_cons mw_887 (gl_cons mw_888 (gl_cons mw_889 (gl_cons mw_64 (gl_cons mw_890 (gl_cons mw_311 (gl_cons mw_891 (gl_cons mw_892 (gl_cons mw_893 (gl_cons mw_894 (gl_cons mw_309 (gl_cons mw_313 (gl_cons mw_895 (gl_cons mw_897 (gl_cons mw_896 (gl_cons mw_79 (gl_cons mw_314 (gl_cons mw_315 gl_nil))))))))))))))))))))))))) (show GoodIn lw_tbl wsX12_copy_r2 from (gl_cons mw_316 gl_nil))) lgg_X120) lgg_X90))
set_option maxRecDepth 40000 in
theorem lgg_X12_hold : GoodIn lw_tbl wsX12_hold := (gl_cons mw_901 (goodIn_app (goodIn_app (goodIn_app (goodIn_app (goodIn_app (show GoodIn lw_tbl wsX12_hold_r1 from (gl_cons mw_358 (gl_cons mw_140 (gl_cons mw_905 (gl_cons mw_364 (gl_cons mw_338 (gl_cons mw_340 (gl_cons mw_360 (gl_cons mw_220 (gl_cons mw_342 (gl_cons mw_222 (gl_cons mw_344 (gl_cons mw_902 (gl_cons mw_903 (gl_cons mw_56 (gl_cons mw_904 (gl_cons mw_392 (gl_cons mw_393 (gl_cons mw_394 (gl_cons mw_906 (gl_cons mw_527 (gl_cons mw_528 (gl_cons mw_61 (gl_cons mw_529 (gl_cons mw_219 gl_nil))))))))))))))))))))))))) (show GoodIn lw_tbl wsX12_hold_r2 from (gl_cons mw_221 (gl_cons mw_530 (gl_cons mw_531 (gl_cons mw_70 (gl_cons mw_532 gl_nil))))))) lgg_X120) lgg_X20) lgg_X40) lgg_X110))
set_option maxRecDepth 40000 in
theorem lgg_X12_asClause : GoodIn lw_tbl wsX12_asClause := (gl_cons mw_910 (goodIn_app (goodIn_app (goodIn_app (gl_cons mw_364 (gl_cons mw_338 (gl_cons mw_358 (gl_cons mw_340 (gl_cons mw_1548 (gl_cons mw_142 (gl_cons mw_902 (gl_cons mw_903 (gl_cons mw_56 (gl_cons mw_904 (gl_cons mw_392 (gl_cons mw_393 (gl_cons mw_394 (gl_cons mw_477 (gl_cons mw_478 (gl_cons mw_479 (gl_cons mw_59 (gl_cons mw_480 (gl_cons mw_139 (gl_cons mw_490 (gl_cons mw_457 (gl_cons mw_458 (gl_cons mw_459 (gl_cons mw_141 gl_nil)))))))))))))))))))))))) lgg_X120) lgg_X40) lgg_X20))
set_option maxRecDepth 40000 in
theorem lgg_X12_asFraction : GoodIn lw_tbl wsX12_asFraction := (gl_cons mw_914 (goodIn_app (goodIn_app (gl_cons mw_496 (gl_cons mw_364 (gl_cons mw_853 (gl_cons mw_342 (gl_cons mw_344 (gl_cons mw_902 (gl_cons mw_903 (gl_cons mw_56 (gl_cons mw_904 (gl_cons mw_392 (gl_cons mw_393 (gl_cons mw_394 (gl_cons mw_915 (gl_cons mw_916 (gl_cons mw_917 (gl_cons mw_65 (gl_cons mw_918 (gl_cons mw_337 gl_nil)))))))))))))))))) lgg_X120) lgg_X40))
set_option maxRecDepth 40000 in
theorem lgg_X12_compare : GoodIn lw_tbl wsX12_compare := (gl_cons mw_922 (goodIn_app (goodIn_app (goodIn_app (goodIn_app (goodIn_app (goodIn_app (show GoodIn lw_tbl wsX12_compare_r1 from (gl_cons mw_358 (gl_cons mw_364 (gl_cons mw_360 (gl_cons mw_342 (gl_cons mw_344 (gl_cons mw_902 (gl_cons mw_903 (gl_cons mw_56 (gl_cons mw_904 (gl_cons mw_392 (gl_cons mw_393 (gl_cons mw_394 (gl_cons mw_477 (gl_cons mw_478 (gl_cons mw_479 (gl_cons mw_59 (gl_cons mw_480 (gl_cons mw_139 (gl_cons mw_411 (gl_cons mw_412 (gl_cons mw_413 (gl_cons mw_414 (gl_cons mw_415 (gl_cons mw_416 gl_nil))))))))))))))))))))))))) (goodIn_app (show GoodIn lw_tbl wsX12_compare_r2 from (gl_cons mw_915 (gl_cons mw_916 (gl_cons mw_917 (gl_cons mw_65 (gl_cons mw_918 (gl_cons mw_337 (gl_cons mw_497 (gl_cons mw_498 (gl_cons mw_499 (gl_cons mw_61 (gl_cons mw_500 (gl_cons mw_223 (gl_cons mw_224 (gl_cons mw_218 (gl_cons mw_149 (gl_cons mw_157 (gl_cons mw_501 (gl_cons mw_504 (gl_cons mw_517 (gl_cons mw_145 (gl_cons mw_217 (gl_cons mw_153 (gl_cons mw_549 (gl_cons mw_503 gl_nil))))))))))))))))))))))))) (goodIn_app (show GoodIn lw_tbl wsX12_compare_r3 from (gl_cons mw_457 (gl_cons mw_458 (gl_cons mw_459 (gl_cons mw_141 (gl_cons mw_506 (gl_cons mw_507 (gl_cons mw_509 (gl_cons mw_510 (gl_cons mw_68 (gl_cons mw_511 (gl_cons mw_1538 (gl_cons mw_512 (gl_cons mw_514 (gl_cons mw_1 (gl_cons mw_515 (gl_cons mw_219 (gl_cons mw_221 (gl_cons mw_516 (gl_cons mw_518 (gl_cons mw_520 (gl_cons mw_2 (gl_cons mw_521 (gl_cons mw_522 (gl_cons mw_523 gl_nil))))))))))))))))))))))))) (goodIn_app (show GoodIn lw_tbl wsX12_compare_r4 from (gl_cons mw_524 (gl_cons mw_525 (gl_cons mw_526 (gl_cons mw_527 (gl_cons mw_528 (gl_cons mw_529 (gl_cons mw_530 (gl_cons mw_531 (gl_cons mw_70 (gl_cons mw_532 (gl_cons mw_533 (gl_cons mw_418 (gl_cons mw_419 (gl_cons mw_58 (gl_cons mw_420 (gl_cons mw_100 (gl_cons mw_102 (gl_cons mw_104 (gl_cons mw_534 (gl_cons mw_536 (gl_cons mw_3 (gl_cons mw_537 (gl_cons mw_538 (gl_cons mw_539 gl_nil))))))))))))))))))))))))) (goodIn_app (show GoodIn lw_tbl wsX12_compare_r5 from (gl_cons mw_540 (gl_cons mw_541 (gl_cons mw_543 (gl_cons mw_4 (gl_cons mw_544 (gl_cons mw_545 (gl_cons mw_546 (gl_cons mw_547 (gl_cons mw_551 (gl_cons mw_553 (gl_cons mw_5 (gl_cons mw_554 (gl_cons mw_555 (gl_cons mw_556 (gl_cons mw_557 (gl_cons mw_558 (gl_cons mw_559 (gl_cons mw_560 (gl_cons mw_561 (gl_cons mw_562 (gl_cons mw_563 (gl_cons mw_564 (gl_cons mw_70 (gl_cons mw_565 gl_nil))))))))))))))))))))))))) (show GoodIn lw_tbl wsX12_compare_r6 from (gl_cons mw_566 (gl_cons mw_567 (gl_cons mw_568 (gl_cons mw_569 (gl_cons mw_570 (gl_cons mw_571 (gl_cons mw_548 (gl_cons mw_108 (gl_cons mw_111 (gl_cons mw_114 (gl_cons mw_117 (gl_cons mw_572 (gl_cons mw_573 (gl_cons mw_574 (gl_cons mw_576 (gl_cons mw_578 (gl_cons mw_594 (gl_cons mw_906 (gl_cons mw_640 gl_nil))))))))))))))))))))))))) lgg_X120) lgg_X40) lgg_X20) lgg_X110) lgg_X80))
set_option maxRecDepth 40000 in
theorem lgg_X12_image : GoodIn lw_tbl wsX12_image := (gl_cons mw_926 (goodIn_app (goodIn_app (goodIn_app (goodIn_app (goodIn_app (goodIn_app (show GoodIn lw_tbl wsX12_image_r1 from (gl_cons mw_355 (gl_cons mw_354 (gl_cons mw_356 (gl_cons mw_358 (gl_cons mw_140 (gl_cons mw_927 (gl_cons mw_928 (gl_cons mw_929 (gl_cons mw_57 (gl_cons mw_930 (gl_cons mw_198 (gl_cons mw_200 (gl_cons mw_202 (gl_cons mw_931 (gl_cons mw_932 (gl_cons mw_933 (gl_cons mw_58 (gl_cons mw_934 (gl_cons mw_100 (gl_cons mw_102 (gl_cons mw_104 (gl_cons mw_106 (gl_cons mw_109 (gl_cons mw_112 gl_nil))))))))))))))))))))))))) (goodIn_app (show GoodIn lw_tbl wsX12_image_r2 from (gl_cons mw_115 (gl_cons mw_935 (gl_cons mw_936 (gl_cons mw_937 (gl_cons mw_59 (gl_cons mw_938 (gl_cons mw_139 (gl_cons mw_141 (gl_cons mw_939 (gl_cons mw_897 (gl_cons mw_896 (gl_cons mw_79 (gl_cons mw_143 (gl_cons mw_147 (gl_cons mw_151 (gl_cons mw_461 (gl_cons mw_463 (gl_cons mw_0 (gl_cons mw_464 (gl_cons mw_1537 (gl_cons mw_155 (gl_cons mw_159 (gl_cons mw_162 (gl_cons mw_465 gl_nil))))))))))))))))))))))))) (show GoodIn lw_tbl wsX12_image_r3 from (gl_cons mw_466 (gl_cons mw_70 (gl_cons mw_467 (gl_cons mw_468 (gl_cons mw_470 (gl_cons mw_471 (gl_cons mw_472 (gl_cons mw_456 (gl_cons mw_457 (gl_cons mw_458 (gl_cons mw_459 (gl_cons mw_940 (gl_cons mw_941 (gl_cons mw_942 (gl_cons mw_60 (gl_cons mw_943 (gl_cons mw_189 (gl_cons mw_191 (gl_cons mw_944 gl_nil)))))))))))))))))))))) lgg_X120) lgg_X20) lgg_X60) lgg_X80) lgg_X10))
set_option maxRecDepth 40000 in
theorem lgg_X12_back : GoodIn lw_tbl wsX12_back := (gl_cons mw_948 (goodIn_app (goodIn_app (goodIn_app (goodIn_app (goodIn_app (goodIn_app (goodIn_app (show GoodIn lw_tbl wsX12_back_r1 from (gl_cons mw_356 (gl_cons mw_354 (gl_cons mw_355 (gl_cons mw_360 (gl_cons mw_358 (gl_cons mw_140 (gl_cons mw_927 (gl_cons mw_928 (gl_cons mw_929 (gl_cons mw_57 (gl_cons mw_930 (gl_cons mw_198 (gl_cons mw_200 (gl_cons mw_202 (gl_cons mw_931 (gl_cons mw_932 (gl_cons mw_933 (gl_cons mw_58 (gl_cons mw_934 (gl_cons mw_100 (gl_cons mw_102 (gl_cons mw_104 (gl_cons mw_106 (gl_cons mw_109 gl_nil))))))))))))))))))))))))) (goodIn_app (show GoodIn lw_tbl wsX12_back_r2 from (gl_cons mw_112 (gl_cons mw_115 (gl_cons mw_935 (gl_cons mw_936 (gl_cons mw_937 (gl_cons mw_59 (gl_cons mw_938 (gl_cons mw_139 (gl_cons mw_141 (gl_cons mw_939 (gl_cons mw_897 (gl_cons mw_896 (gl_cons mw_79 (gl_cons mw_143 (gl_cons mw_147 (gl_cons mw_151 (gl_cons mw_461 (gl_cons mw_463 (gl_cons mw_0 (gl_cons mw_464 (gl_cons mw_1537 (gl_cons mw_155 (gl_cons mw_159 (gl_cons mw_162 gl_nil))))))))))))))))))))))))) (goodIn_app (show GoodIn lw_tbl wsX12_back_r3 from (gl_cons mw_465 (gl_cons mw_466 (gl_cons mw_70 (gl_cons mw_467 (gl_cons mw_468 (gl_cons mw_470 (gl_cons mw_471 (gl_cons mw_472 (gl_cons mw_456 (gl_cons mw_457 (gl_cons mw_458 (gl_cons mw_459 (gl_cons mw_940 (gl_cons mw_941 (gl_cons mw_942 (gl_cons mw_60 (gl_cons mw_943 (gl_cons mw_189 (gl_cons mw_191 (gl_cons mw_944 (gl_cons mw_395 (gl_cons mw_396 (gl_cons mw_397 (gl_cons mw_61 gl_nil))))))))))))))))))))))))) (show GoodIn lw_tbl wsX12_back_r4 from (gl_cons mw_398 (gl_cons mw_224 gl_nil)))))) lgg_X120) lgg_X20) lgg_X60) lgg_X80) lgg_X10) lgg_X110))
set_option maxRecDepth 40000 in
theorem lgg_X12_count : GoodIn lw_tbl wsX12_count := (gl_cons mw_952 (goodIn_app (goodIn_app (goodIn_app (goodIn_app (goodIn_app (show GoodIn lw_tbl wsX12_count_r1 from (gl_cons mw_358 (gl_cons mw_140 (gl_cons mw_357 (gl_cons mw_101 (gl_cons mw_953 (gl_cons mw_954 (gl_cons mw_955 (gl_cons mw_59 (gl_cons mw_956 (gl_cons mw_139 (gl_cons mw_147 (gl_cons mw_151 (gl_cons mw_957 (gl_cons mw_432 (gl_cons mw_67 (gl_cons mw_433 (gl_cons mw_434 (gl_cons mw_435 (gl_cons mw_436 (gl_cons mw_958 (gl_cons mw_960 (gl_cons mw_15 (gl_cons mw_56 (gl_cons mw_961 gl_nil))))))))))))))))))))))))) (show GoodIn lw_tbl wsX12_count_r2 from (gl_cons mw_359 (gl_cons mw_190 (gl_cons mw_192 (gl_cons mw_477 (gl_cons mw_478 (gl_cons mw_479 (gl_cons mw_480 (gl_cons mw_393 (gl_cons mw_394 gl_nil))))))))))) lgg_X120) lgg_X20) lgg_X80) lgg_X10))
set_option maxRecDepth 40000 in
theorem lgg_X13_start : GoodIn lw_tbl wsX13_start := (gl_cons mw_1124 (goodIn_app (gl_cons mw_1125 (gl_cons mw_1126 (gl_cons mw_1130 (gl_cons mw_983 (gl_cons mw_984 (gl_cons mw_985 (gl_cons mw_1127 (gl_cons mw_1128 (gl_cons mw_66 (gl_cons mw_1129 gl_nil)))))))))) lgg_X130))
set_option maxRecDepth 40000 in
theorem lgg_X13_odds : GoodIn lw_tbl wsX13_odds := (gl_cons mw_1134 (goodIn_app (gl_cons mw_1135 (gl_cons mw_1130 (gl_cons mw_986 (gl_cons mw_987 (gl_cons mw_1127 (gl_cons mw_1128 (gl_cons mw_66 (gl_cons mw_1129 gl_nil)))))))) lgg_X130))
set_option maxRecDepth 40000 in
theorem lgg_X13_wait : GoodIn lw_tbl wsX13_wait := (gl_cons mw_1139 (goodIn_app (gl_cons mw_1130 (gl_cons mw_988 (gl_cons mw_989 (gl_cons mw_1127 (gl_cons mw_1128 (gl_cons mw_66 (gl_cons mw_1129 gl_nil))))))) lgg_X130))
set_option maxRecDepth 40000 in
theorem lgg_X13_price : GoodIn lw_tbl wsX13_price := (gl_cons mw_1143 (goodIn_app (gl_cons mw_1144 (gl_cons mw_1145 (gl_cons mw_66 (gl_cons mw_1146 (gl_cons mw_1147 (gl_cons mw_1127 (gl_cons mw_1128 (gl_cons mw_1129 (gl_cons mw_1148 (gl_cons mw_1150 (gl_cons mw_16 (gl_cons mw_1151 (gl_cons mw_983 (gl_cons mw_984 (gl_cons mw_985 gl_nil))))))))))))))) lgg_X130))
set_option maxRecDepth 40000 in
theorem lgg_X13_spotOf : GoodIn lw_tbl wsX13_spotOf := (gl_cons mw_1155 (gl_cons mw_1147 (gl_cons mw_1156 (gl_cons mw_1157 (gl_cons mw_66 (gl_cons mw_1158 (gl_cons mw_1159 (gl_cons mw_1127 (gl_cons mw_1128 (gl_cons mw_1129 (gl_cons mw_1160 (gl_cons mw_1161 (gl_cons mw_1162 gl_nil)))))))))))))
set_option maxRecDepth 40000 in
theorem lgg_X13_clause : GoodIn lw_tbl wsX13_clause := (gl_cons mw_1166 (goodIn_app (goodIn_app (show GoodIn lw_tbl wsX13_clause_r1 from (gl_cons mw_1167 (gl_cons mw_990 (gl_cons mw_1127 (gl_cons mw_1128 (gl_cons mw_66 (gl_cons mw_1129 (gl_cons mw_1168 (gl_cons mw_1169 (gl_cons mw_1170 (gl_cons mw_1171 (gl_cons mw_1130 (gl_cons mw_1147 (gl_cons mw_1125 (gl_cons mw_1126 (gl_cons mw_1172 (gl_cons mw_1173 (gl_cons mw_1174 (gl_cons mw_1175 (gl_cons mw_1176 (gl_cons mw_1177 (gl_cons mw_1178 (gl_cons mw_1180 (gl_cons mw_17 (gl_cons mw_1181 gl_nil))))))))))))))))))))))))) (show GoodIn lw_tbl wsX13_clause_r2 from (gl_cons mw_991 (gl_cons mw_992 (gl_cons mw_993 (gl_cons mw_994 gl_nil)))))) lgg_X130))
set_option maxRecDepth 40000 in
theorem lgg_X13_clauseOf : GoodIn lw_tbl wsX13_clauseOf := (gl_cons mw_1185 (goodIn_app (goodIn_app (show GoodIn lw_tbl wsX13_clauseOf_r1 from (gl_cons mw_991 (gl_cons mw_992 (gl_cons mw_993 (gl_cons mw_994 (gl_cons mw_1000 (gl_cons mw_1001 (gl_cons mw_1002 (gl_cons mw_1186 (gl_cons mw_1188 (gl_cons mw_18 (gl_cons mw_66 (gl_cons mw_1189 (gl_cons mw_990 (gl_cons mw_1127 (gl_cons mw_1128 (gl_cons mw_1129 (gl_cons mw_1190 (gl_cons mw_1192 (gl_cons mw_19 (gl_cons mw_1193 (gl_cons mw_1194 (gl_cons mw_466 (gl_cons mw_70 (gl_cons mw_467 gl_nil))))))))))))))))))))))))) (show GoodIn lw_tbl wsX13_clauseOf_r2 from (gl_cons mw_1195 (gl_cons mw_471 (gl_cons mw_472 (gl_cons mw_1175 (gl_cons mw_1176 (gl_cons mw_1177 gl_nil)))))))) lgg_X130))
set_option maxRecDepth 40000 in
theorem lgg_X13_drop : GoodIn lw_tbl wsX13_drop := (gl_cons mw_1199 (goodIn_app (gl_cons mw_990 gl_nil) lgg_X130))
set_option maxRecDepth 40000 in
theorem lgg_X13_swap : GoodIn lw_tbl wsX13_swap := (gl_cons mw_1203 (goodIn_app (gl_cons mw_991 (gl_cons mw_993 (gl_cons mw_994 (gl_cons mw_1186 (gl_cons mw_1188 (gl_cons mw_18 (gl_cons mw_66 (gl_cons mw_1189 (gl_cons mw_990 (gl_cons mw_1127 (gl_cons mw_1128 (gl_cons mw_1129 (gl_cons mw_1172 (gl_cons mw_1173 (gl_cons mw_1174 (gl_cons mw_1175 (gl_cons mw_1176 (gl_cons mw_1177 gl_nil)))))))))))))))))) lgg_X130))
set_option maxRecDepth 40000 in
theorem lgg_X13_value : GoodIn lw_tbl wsX13_value := (gl_cons mw_1207 (goodIn_app (goodIn_app (show GoodIn lw_tbl wsX13_value_r1 from (gl_cons mw_1005 (gl_cons mw_1003 (gl_cons mw_1004 (gl_cons mw_1186 (gl_cons mw_1188 (gl_cons mw_18 (gl_cons mw_66 (gl_cons mw_1189 (gl_cons mw_990 (gl_cons mw_1127 (gl_cons mw_1128 (gl_cons mw_1129 (gl_cons mw_1144 (gl_cons mw_1145 (gl_cons mw_1146 (gl_cons mw_1147 (gl_cons mw_1208 (gl_cons mw_1209 (gl_cons mw_1210 (gl_cons mw_1211 (gl_cons mw_1212 (gl_cons mw_1214 (gl_cons mw_20 (gl_cons mw_1215 gl_nil))))))))))))))))))))))))) (goodIn_app (show GoodIn lw_tbl wsX13_value_r2 from (gl_cons mw_997 (gl_cons mw_1000 (gl_cons mw_998 (gl_cons mw_999 (gl_cons mw_1190 (gl_cons mw_1192 (gl_cons mw_19 (gl_cons mw_1193 (gl_cons mw_991 (gl_cons mw_993 (gl_cons mw_994 (gl_cons mw_1194 (gl_cons mw_466 (gl_cons mw_70 (gl_cons mw_467 (gl_cons mw_992 (gl_cons mw_1195 (gl_cons mw_471 (gl_cons mw_472 (gl_cons mw_1001 (gl_cons mw_1002 (gl_cons mw_1175 (gl_cons mw_1176 (gl_cons mw_1177 gl_nil))))))))))))))))))))))))) (goodIn_app (show GoodIn lw_tbl wsX13_value_r3 from (gl_cons mw_1216 (gl_cons mw_1218 (gl_cons mw_21 (gl_cons mw_1219 (gl_cons mw_1220 (gl_cons mw_1221 (gl_cons mw_1222 (gl_cons mw_1223 (gl_cons mw_1225 (gl_cons mw_22 (gl_cons mw_1226 (gl_cons mw_1234 (gl_cons mw_1227 (gl_cons mw_1229 (gl_cons mw_23 (gl_cons mw_1230 (gl_cons mw_1231 (gl_cons mw_1232 (gl_cons mw_1233 (gl_cons mw_1235 (gl_cons mw_1237 (gl_cons mw_24 (gl_cons mw_1238 (gl_cons mw_1239 gl_nil))))))))))))))))))))))))) (goodIn_app (show GoodIn lw_tbl wsX13_value_r4 from (gl_cons mw_1241 (gl_cons mw_25 (gl_cons mw_1242 (gl_cons mw_1243 (gl_cons mw_1148 (gl_cons mw_1150 (gl_cons mw_16 (gl_cons mw_1151 (gl_cons mw_983 (gl_cons mw_984 (gl_cons mw_985 (gl_cons mw_1244 (gl_cons mw_1246 (gl_cons mw_26 (gl_cons mw_1247 (gl_cons mw_1248 (gl_cons mw_1250 (gl_cons mw_27 (gl_cons mw_1251 (gl_cons mw_1252 (gl_cons mw_1254 (gl_cons mw_28 (gl_cons mw_1255 (gl_cons mw_1256 gl_nil))))))))))))))))))))))))) (show GoodIn lw_tbl wsX13_value_r5 from (gl_cons mw_1258 (gl_cons mw_29 (gl_cons mw_1259 (gl_cons mw_1260 (gl_cons mw_1261 (gl_cons mw_1262 (gl_cons mw_1263 (gl_cons mw_564 (gl_cons mw_70 (gl_cons mw_565 (gl_cons mw_1264 (gl_cons mw_1266 (gl_cons mw_30 (gl_cons mw_1267 (gl_cons mw_986 (gl_cons mw_987 (gl_cons mw_988 (gl_cons mw_989 (gl_cons mw_1268 (gl_cons mw_1270 (gl_cons mw_31 (gl_cons mw_1271 gl_nil))))))))))))))))))))))))))) lgg_X130))
set_option maxRecDepth 40000 in
theorem lgg_X13_mean : GoodIn lw_tbl wsX13_mean := (gl_cons mw_1275 (goodIn_app (goodIn_app (show GoodIn lw_tbl wsX13_mean_r1 from (gl_cons mw_997 (gl_cons mw_998 (gl_cons mw_999 (gl_cons mw_1186 (gl_cons mw_1188 (gl_cons mw_18 (gl_cons mw_66 (gl_cons mw_1189 (gl_cons mw_990 (gl_cons mw_1127 (gl_cons mw_1128 (gl_cons mw_1129 (gl_cons mw_1144 (gl_cons mw_1145 (gl_cons mw_1146 (gl_cons mw_1147 (gl_cons mw_1208 (gl_cons mw_1209 (gl_cons mw_1210 (gl_cons mw_1211 (gl_cons mw_1212 (gl_cons mw_1214 (gl_cons mw_20 (gl_cons mw_1215 gl_nil))))))))))))))))))))))))) (goodIn_app (show GoodIn lw_tbl wsX13_mean_r2 from (gl_cons mw_1000 (gl_cons mw_1005 (gl_cons mw_1003 (gl_cons mw_1004 (gl_cons mw_1190 (gl_cons mw_1192 (gl_cons mw_19 (gl_cons mw_1193 (gl_cons mw_991 (gl_cons mw_993 (gl_cons mw_994 (gl_cons mw_1194 (gl_cons mw_466 (gl_cons mw_70 (gl_cons mw_467 (gl_cons mw_992 (gl_cons mw_1195 (gl_cons mw_471 (gl_cons mw_472 (gl_cons mw_1001 (gl_cons mw_1002 (gl_cons mw_1175 (gl_cons mw_1176 (gl_cons mw_1177 gl_nil))))))))))))))))))))))))) (goodIn_app (show GoodIn lw_tbl wsX13_mean_r3 from (gl_cons mw_1216 (gl_cons mw_1218 (gl_cons mw_21 (gl_cons mw_1219 (gl_cons mw_1220 (gl_cons mw_1221 (gl_cons mw_1222 (gl_cons mw_1223 (gl_cons mw_1225 (gl_cons mw_22 (gl_cons mw_1226 (gl_cons mw_1234 (gl_cons mw_1227 (gl_cons mw_1229 (gl_cons mw_23 (gl_cons mw_1230 (gl_cons mw_1231 (gl_cons mw_1232 (gl_cons mw_1233 (gl_cons mw_1235 (gl_cons mw_1237 (gl_cons mw_24 (gl_cons mw_1238 (gl_cons mw_1239 gl_nil))))))))))))))))))))))))) (goodIn_app (show GoodIn lw_tbl wsX13_mean_r4 from (gl_cons mw_1241 (gl_cons mw_25 (gl_cons mw_1242 (gl_cons mw_1243 (gl_cons mw_1148 (gl_cons mw_1150 (gl_cons mw_16 (gl_cons mw_1151 (gl_cons mw_983 (gl_cons mw_984 (gl_cons mw_985 (gl_cons mw_1244 (gl_cons mw_1246 (gl_cons mw_26 (gl_cons mw_1247 (gl_cons mw_1248 (gl_cons mw_1250 (gl_cons mw_27 (gl_cons mw_1251 (gl_cons mw_1252 (gl_cons mw_1254 (gl_cons mw_28 (gl_cons mw_1255 (gl_cons mw_1256 gl_nil))))))))))))))))))))))))) (show GoodIn lw_tbl wsX13_mean_r5 from (gl_cons mw_1258 (gl_cons mw_29 (gl_cons mw_1259 (gl_cons mw_1260 (gl_cons mw_1261 (gl_cons mw_1262 (gl_cons mw_1263 (gl_cons mw_564 (gl_cons mw_70 (gl_cons mw_565 (gl_cons mw_1264 (gl_cons mw_1266 (gl_cons mw_30 (gl_cons mw_1267 (gl_cons mw_986 (gl_cons mw_987 (gl_cons mw_988 (gl_cons mw_989 (gl_cons mw_1268 (gl_cons mw_1270 (gl_cons mw_31 (gl_cons mw_1271 gl_nil))))))))))))))))))))))))))) lgg_X130))
set_option maxRecDepth 40000 in
theorem lgg_X13_valueAs : GoodIn lw_tbl wsX13_valueAs := (gl_cons mw_1279 (goodIn_app (goodIn_app (show GoodIn lw_tbl wsX13_valueAs_r1 from (gl_cons mw_1280 (gl_cons mw_1005 (gl_cons mw_1003 (gl_cons mw_1004 (gl_cons mw_1281 (gl_cons mw_1302 (gl_cons mw_1303 (gl_cons mw_1304 (gl_cons mw_1186 (gl_cons mw_1188 (gl_cons mw_18 (gl_cons mw_66 (gl_cons mw_1189 (gl_cons mw_990 (gl_cons mw_1127 (gl_cons mw_1128 (gl_cons mw_1129 (gl_cons mw_1144 (gl_cons mw_1145 (gl_cons mw_1146 (gl_cons mw_1147 (gl_cons mw_1208 (gl_cons mw_1209 (gl_cons mw_1210 gl_nil))))))))))))))))))))))))) (goodIn_app (show GoodIn lw_tbl wsX13_valueAs_r2 from (gl_cons mw_1211 (gl_cons mw_1212 (gl_cons mw_1214 (gl_cons mw_20 (gl_cons mw_1215 (gl_cons mw_997 (gl_cons mw_1000 (gl_cons mw_998 (gl_cons mw_999 (gl_cons mw_1190 (gl_cons mw_1192 (gl_cons mw_19 (gl_cons mw_1193 (gl_cons mw_991 (gl_cons mw_993 (gl_cons mw_994 (gl_cons mw_1194 (gl_cons mw_466 (gl_cons mw_70 (gl_cons mw_467 (gl_cons mw_992 (gl_cons mw_1195 (gl_cons mw_471 (gl_cons mw_472 gl_nil))))))))))))))))))))))))) (goodIn_app (show GoodIn lw_tbl wsX13_valueAs_r3 from (gl_cons mw_1001 (gl_cons mw_1002 (gl_cons mw_1175 (gl_cons mw_1176 (gl_cons mw_1177 (gl_cons mw_1216 (gl_cons mw_1218 (gl_cons mw_21 (gl_cons mw_1219 (gl_cons mw_1220 (gl_cons mw_1221 (gl_cons mw_1222 (gl_cons mw_1223 (gl_cons mw_1225 (gl_cons mw_22 (gl_cons mw_1226 (gl_cons mw_1234 (gl_cons mw_1227 (gl_cons mw_1229 (gl_cons mw_23 (gl_cons mw_1230 (gl_cons mw_1231 (gl_cons mw_1232 (gl_cons mw_1233 gl_nil))))))))))))))))))))))))) (goodIn_app (show GoodIn lw_tbl wsX13_valueAs_r4 from (gl_cons mw_1235 (gl_cons mw_1237 (gl_cons mw_24 (gl_cons mw_1238 (gl_cons mw_1239 (gl_cons mw_1241 (gl_cons mw_25 (gl_cons mw_1242 (gl_cons mw_1243 (gl_cons mw_1148 (gl_cons mw_1150 (gl_cons mw_16 (gl_cons mw_1151 (gl_cons mw_983 (gl_cons mw_984 (gl_cons mw_985 (gl_cons mw_1244 (gl_cons mw_1246 (gl_cons mw_26 (gl_cons mw_1247 (gl_cons mw_1248 (gl_cons mw_1250 (gl_cons mw_27 (gl_cons mw_1251 gl_nil))))))))))))))))))))))))) (goodIn_app (show GoodIn lw_tbl wsX13_valueAs_r5 from (gl_cons mw_1252 (gl_cons mw_1254 (gl_cons mw_28 (gl_cons mw_1255 (gl_cons mw_1256 (gl_cons mw_1258 (gl_cons mw_29 (gl_cons mw_1259 (gl_cons mw_1260 (gl_cons mw_1261 (gl_cons mw_1262 (gl_cons mw_1263 (gl_cons mw_564 (gl_cons mw_70 (gl_cons mw_565 (gl_cons mw_1264 (gl_cons mw_1266 (gl_cons mw_30 (gl_cons mw_1267 (gl_cons mw_986 (gl_cons mw_987 (gl_cons mw_988 (gl_cons mw_989 (gl_cons mw_1268 gl_nil))))))))))))))))))))))))) (goodIn_app (show GoodIn lw_tbl wsX13_valueAs_r6 from (gl_cons mw_1270 (gl_cons mw_31 (gl_cons mw_1271 (gl_cons mw_1282 (gl_cons mw_1283 (gl_cons mw_73 (gl_cons mw_1284 (gl_cons mw_1288 (gl_cons mw_1290 (gl_cons mw_1289 (gl_cons mw_73 (gl_cons mw_1291 (gl_cons mw_1285 (gl_cons mw_1286 (gl_cons mw_1287 (gl_cons mw_1292 (gl_cons mw_1293 (gl_cons mw_74 (gl_cons mw_1294 (gl_cons mw_1298 (gl_cons mw_1300 (gl_cons mw_1299 (gl_cons mw_74 (gl_cons mw_1301 gl_nil))))))))))))))))))))))))) (show GoodIn lw_tbl wsX13_valueAs_r7 from (gl_cons mw_1295 (gl_cons mw_1296 (gl_cons mw_1297 gl_nil)))))))))) lgg_X130))
set_option maxRecDepth 40000 in
theorem lgg_X13_chosen : GoodIn lw_tbl wsX13_chosen := (gl_cons mw_1308 (goodIn_app (goodIn_app (show GoodIn lw_tbl wsX13_chosen_r1 from (gl_cons mw_991 (gl_cons mw_1000 (gl_cons mw_1186 (gl_cons mw_1188 (gl_cons mw_18 (gl_cons mw_66 (gl_cons mw_1189 (gl_cons mw_990 (gl_cons mw_1127 (gl_cons mw_1128 (gl_cons mw_1129 (gl_cons mw_1144 (gl_cons mw_1145 (gl_cons mw_1146 (gl_cons mw_1147 (gl_cons mw_1212 (gl_cons mw_1214 (gl_cons mw_20 (gl_cons mw_1215 (gl_cons mw_997 (gl_cons mw_1005 (gl_cons mw_1003 (gl_cons mw_998 (gl_cons mw_1004 gl_nil))))))))))))))))))))))))) (goodIn_app (show GoodIn lw_tbl wsX13_chosen_r2 from (gl_cons mw_999 (gl_cons mw_1190 (gl_cons mw_1192 (gl_cons mw_19 (gl_cons mw_1193 (gl_cons mw_993 (gl_cons mw_994 (gl_cons mw_1194 (gl_cons mw_466 (gl_cons mw_70 (gl_cons mw_467 (gl_cons mw_992 (gl_cons mw_1195 (gl_cons mw_471 (gl_cons mw_472 (gl_cons mw_1001 (gl_cons mw_1002 (gl_cons mw_1175 (gl_cons mw_1176 (gl_cons mw_1177 (gl_cons mw_1216 (gl_cons mw_1218 (gl_cons mw_21 (gl_cons mw_1219 gl_nil))))))))))))))))))))))))) (goodIn_app (show GoodIn lw_tbl wsX13_chosen_r3 from (gl_cons mw_1220 (gl_cons mw_1221 (gl_cons mw_1222 (gl_cons mw_1223 (gl_cons mw_1225 (gl_cons mw_22 (gl_cons mw_1226 (gl_cons mw_1234 (gl_cons mw_1227 (gl_cons mw_1229 (gl_cons mw_23 (gl_cons mw_1230 (gl_cons mw_1231 (gl_cons mw_1232 (gl_cons mw_1233 (gl_cons mw_1235 (gl_cons mw_1237 (gl_cons mw_24 (gl_cons mw_1238 (gl_cons mw_1239 (gl_cons mw_1241 (gl_cons mw_25 (gl_cons mw_1242 (gl_cons mw_1243 gl_nil))))))))))))))))))))))))) (goodIn_app (show GoodIn lw_tbl wsX13_chosen_r4 from (gl_cons mw_1148 (gl_cons mw_1150 (gl_cons mw_16 (gl_cons mw_1151 (gl_cons mw_983 (gl_cons mw_984 (gl_cons mw_985 (gl_cons mw_1244 (gl_cons mw_1246 (gl_cons mw_26 (gl_cons mw_1247 (gl_cons mw_1248 (gl_cons mw_1250 (gl_cons mw_27 (gl_cons mw_1251 (gl_cons mw_1252 (gl_cons mw_1254 (gl_cons mw_28 (gl_cons mw_1255 (gl_cons mw_1256 (gl_cons mw_1258 (gl_cons mw_29 (gl_cons mw_1259 (gl_cons mw_1260 gl_nil))))))))))))))))))))))))) (goodIn_app (show GoodIn lw_tbl wsX13_chosen_r5 from (gl_cons mw_1261 (gl_cons mw_1262 (gl_cons mw_1263 (gl_cons mw_564 (gl_cons mw_70 (gl_cons mw_565 (gl_cons mw_1264 (gl_cons mw_1266 (gl_cons mw_30 (gl_cons mw_1267 (gl_cons mw_986 (gl_cons mw_987 (gl_cons mw_988 (gl_cons mw_989 (gl_cons mw_1268 (gl_cons mw_1270 (gl_cons mw_31 (gl_cons mw_1271 (gl_cons mw_1309 (gl_cons mw_1311 (gl_cons mw_32 (gl_cons mw_1312 (gl_cons mw_1313 (gl_cons mw_1315 gl_nil))))))))))))))))))))))))) (show GoodIn lw_tbl wsX13_chosen_r6 from (gl_cons mw_33 (gl_cons mw_1316 (gl_cons mw_1317 (gl_cons mw_1319 (gl_cons mw_34 (gl_cons mw_1320 gl_nil)))))))))))) lgg_X130))
set_option maxRecDepth 40000 in
theorem lgg_X13_taken : GoodIn lw_tbl wsX13_taken := (gl_cons mw_1324 (goodIn_app (goodIn_app (show GoodIn lw_tbl wsX13_taken_r1 from (gl_cons mw_991 (gl_cons mw_1147 (gl_cons mw_1000 (gl_cons mw_1186 (gl_cons mw_1188 (gl_cons mw_18 (gl_cons mw_66 (gl_cons mw_1189 (gl_cons mw_990 (gl_cons mw_1127 (gl_cons mw_1128 (gl_cons mw_1129 (gl_cons mw_1156 (gl_cons mw_1157 (gl_cons mw_1158 (gl_cons mw_1159 (gl_cons mw_1212 (gl_cons mw_1214 (gl_cons mw_20 (gl_cons mw_1215 (gl_cons mw_997 (gl_cons mw_1005 (gl_cons mw_1003 (gl_cons mw_998 gl_nil))))))))))))))))))))))))) (goodIn_app (show GoodIn lw_tbl wsX13_taken_r2 from (gl_cons mw_1004 (gl_cons mw_999 (gl_cons mw_1190 (gl_cons mw_1192 (gl_cons mw_19 (gl_cons mw_1193 (gl_cons mw_993 (gl_cons mw_994 (gl_cons mw_1194 (gl_cons mw_466 (gl_cons mw_70 (gl_cons mw_467 (gl_cons mw_992 (gl_cons mw_1195 (gl_cons mw_471 (gl_cons mw_472 (gl_cons mw_1001 (gl_cons mw_1002 (gl_cons mw_1175 (gl_cons mw_1176 (gl_cons mw_1177 (gl_cons mw_1216 (gl_cons mw_1218 (gl_cons mw_21 gl_nil))))))))))))))))))))))))) (goodIn_app (show GoodIn lw_tbl wsX13_taken_r3 from (gl_cons mw_1219 (gl_cons mw_1220 (gl_cons mw_1221 (gl_cons mw_1222 (gl_cons mw_1223 (gl_cons mw_1225 (gl_cons mw_22 (gl_cons mw_1226 (gl_cons mw_1234 (gl_cons mw_1227 (gl_cons mw_1229 (gl_cons mw_23 (gl_cons mw_1230 (gl_cons mw_1231 (gl_cons mw_1232 (gl_cons mw_1233 (gl_cons mw_1235 (gl_cons mw_1237 (gl_cons mw_24 (gl_cons mw_1238 (gl_cons mw_1239 (gl_cons mw_1241 (gl_cons mw_25 (gl_cons mw_1242 gl_nil))))))))))))))))))))))))) (goodIn_app (show GoodIn lw_tbl wsX13_taken_r4 from (gl_cons mw_1243 (gl_cons mw_1148 (gl_cons mw_1150 (gl_cons mw_16 (gl_cons mw_1151 (gl_cons mw_983 (gl_cons mw_984 (gl_cons mw_985 (gl_cons mw_1244 (gl_cons mw_1246 (gl_cons mw_26 (gl_cons mw_1247 (gl_cons mw_1248 (gl_cons mw_1250 (gl_cons mw_27 (gl_cons mw_1251 (gl_cons mw_1252 (gl_cons mw_1254 (gl_cons mw_28 (gl_cons mw_1255 (gl_cons mw_1256 (gl_cons mw_1258 (gl_cons mw_29 (gl_cons mw_1259 gl_nil))))))))))))))))))))))))) (goodIn_app (show GoodIn lw_tbl wsX13_taken_r5 from (gl_cons mw_1260 (gl_cons mw_1261 (gl_cons mw_1262 (gl_cons mw_1263 (gl_cons mw_564 (gl_cons mw_70 (gl_cons mw_565 (gl_cons mw_1264 (gl_cons mw_1266 (gl_cons mw_30 (gl_cons mw_1267 (gl_cons mw_986 (gl_cons mw_987 (gl_cons mw_988 (gl_cons mw_989 (gl_cons mw_1268 (gl_cons mw_1270 (gl_cons mw_31 (gl_cons mw_1271 (gl_cons mw_1325 (gl_cons mw_1327 (gl_cons mw_35 (gl_cons mw_1328 (gl_cons mw_1160 gl_nil))))))))))))))))))))))))) (show GoodIn lw_tbl wsX13_taken_r6 from (gl_cons mw_1161 (gl_cons mw_1162 (gl_cons mw_1313 (gl_cons mw_1315 (gl_cons mw_33 (gl_cons mw_1316 gl_nil)))))))))))) lgg_X130))
set_option maxRecDepth 40000 in
theorem lgg_X13_alike : GoodIn lw_tbl wsX13_alike := (gl_cons mw_1332 (goodIn_app (goodIn_app (show GoodIn lw_tbl wsX13_alike_r1 from (gl_cons mw_1000 (gl_cons mw_1005 (gl_cons mw_1003 (gl_cons mw_1004 (gl_cons mw_1186 (gl_cons mw_1188 (gl_cons mw_18 (gl_cons mw_66 (gl_cons mw_1189 (gl_cons mw_990 (gl_cons mw_1127 (gl_cons mw_1128 (gl_cons mw_1129 (gl_cons mw_1212 (gl_cons mw_1214 (gl_cons mw_20 (gl_cons mw_1215 (gl_cons mw_997 (gl_cons mw_998 (gl_cons mw_999 (gl_cons mw_1190 (gl_cons mw_1192 (gl_cons mw_19 (gl_cons mw_1193 gl_nil))))))))))))))))))))))))) (goodIn_app (show GoodIn lw_tbl wsX13_alike_r2 from (gl_cons mw_991 (gl_cons mw_993 (gl_cons mw_994 (gl_cons mw_1194 (gl_cons mw_466 (gl_cons mw_70 (gl_cons mw_467 (gl_cons mw_992 (gl_cons mw_1195 (gl_cons mw_471 (gl_cons mw_472 (gl_cons mw_1001 (gl_cons mw_1002 (gl_cons mw_1175 (gl_cons mw_1176 (gl_cons mw_1177 (gl_cons mw_1216 (gl_cons mw_1218 (gl_cons mw_21 (gl_cons mw_1219 (gl_cons mw_1220 (gl_cons mw_1221 (gl_cons mw_1222 (gl_cons mw_1223 gl_nil))))))))))))))))))))))))) (goodIn_app (show GoodIn lw_tbl wsX13_alike_r3 from (gl_cons mw_1225 (gl_cons mw_22 (gl_cons mw_1226 (gl_cons mw_1234 (gl_cons mw_1227 (gl_cons mw_1229 (gl_cons mw_23 (gl_cons mw_1230 (gl_cons mw_1231 (gl_cons mw_1232 (gl_cons mw_1233 (gl_cons mw_1235 (gl_cons mw_1237 (gl_cons mw_24 (gl_cons mw_1238 (gl_cons mw_1239 (gl_cons mw_1241 (gl_cons mw_25 (gl_cons mw_1242 (gl_cons mw_1243 (gl_cons mw_1148 (gl_cons mw_1150 (gl_cons mw_16 (gl_cons mw_1151 gl_nil))))))))))))))))))))))))) (goodIn_app (show GoodIn lw_tbl wsX13_alike_r4 from (gl_cons mw_983 (gl_cons mw_984 (gl_cons mw_985 (gl_cons mw_1244 (gl_cons mw_1246 (gl_cons mw_26 (gl_cons mw_1247 (gl_cons mw_1248 (gl_cons mw_1250 (gl_cons mw_27 (gl_cons mw_1251 (gl_cons mw_1252 (gl_cons mw_1254 (gl_cons mw_28 (gl_cons mw_1255 (gl_cons mw_1256 (gl_cons mw_1258 (gl_cons mw_29 (gl_cons mw_1259 (gl_cons mw_1260 (gl_cons mw_1261 (gl_cons mw_1262 (gl_cons mw_1263 (gl_cons mw_564 gl_nil))))))))))))))))))))))))) (show GoodIn lw_tbl wsX13_alike_r5 from (gl_cons mw_70 (gl_cons mw_565 (gl_cons mw_1264 (gl_cons mw_1266 (gl_cons mw_30 (gl_cons mw_1267 (gl_cons mw_986 (gl_cons mw_987 (gl_cons mw_988 (gl_cons mw_989 (gl_cons mw_1268 (gl_cons mw_1270 (gl_cons mw_31 (gl_cons mw_1271 gl_nil))))))))))))))))))) lgg_X130))
set_option maxRecDepth 40000 in
theorem lgg_X13_unlike : GoodIn lw_tbl wsX13_unlike := (gl_cons mw_1336 (goodIn_app (goodIn_app (show GoodIn lw_tbl wsX13_unlike_r1 from (gl_cons mw_1186 (gl_cons mw_1188 (gl_cons mw_18 (gl_cons mw_66 (gl_cons mw_1189 (gl_cons mw_990 (gl_cons mw_1127 (gl_cons mw_1128 (gl_cons mw_1129 (gl_cons mw_1212 (gl_cons mw_1214 (gl_cons mw_20 (gl_cons mw_1215 (gl_cons mw_997 (gl_cons mw_1000 (gl_cons mw_1005 (gl_cons mw_1003 (gl_cons mw_998 (gl_cons mw_1004 (gl_cons mw_999 (gl_cons mw_1190 (gl_cons mw_1192 (gl_cons mw_19 (gl_cons mw_1193 gl_nil))))))))))))))))))))))))) (goodIn_app (show GoodIn lw_tbl wsX13_unlike_r2 from (gl_cons mw_991 (gl_cons mw_993 (gl_cons mw_994 (gl_cons mw_1194 (gl_cons mw_466 (gl_cons mw_70 (gl_cons mw_467 (gl_cons mw_992 (gl_cons mw_1195 (gl_cons mw_471 (gl_cons mw_472 (gl_cons mw_1001 (gl_cons mw_1002 (gl_cons mw_1175 (gl_cons mw_1176 (gl_cons mw_1177 (gl_cons mw_1216 (gl_cons mw_1218 (gl_cons mw_21 (gl_cons mw_1219 (gl_cons mw_1220 (gl_cons mw_1221 (gl_cons mw_1222 (gl_cons mw_1223 gl_nil))))))))))))))))))))))))) (goodIn_app (show GoodIn lw_tbl wsX13_unlike_r3 from (gl_cons mw_1225 (gl_cons mw_22 (gl_cons mw_1226 (gl_cons mw_1234 (gl_cons mw_1227 (gl_cons mw_1229 (gl_cons mw_23 (gl_cons mw_1230 (gl_cons mw_1231 (gl_cons mw_1232 (gl_cons mw_1233 (gl_cons mw_1235 (gl_cons mw_1237 (gl_cons mw_24 (gl_cons mw_1238 (gl_cons mw_1239 (gl_cons mw_1241 (gl_cons mw_25 (gl_cons mw_1242 (gl_cons mw_1243 (gl_cons mw_1148 (gl_cons mw_1150 (gl_cons mw_16 (gl_cons mw_1151 gl_nil))))))))))))))))))))))))) (goodIn_app (show GoodIn lw_tbl wsX13_unlike_r4 from (gl_cons mw_983 (gl_cons mw_984 (gl_cons mw_985 (gl_cons mw_1244 (gl_cons mw_1246 (gl_cons mw_26 (gl_cons mw_1247 (gl_cons mw_1248 (gl_cons mw_1250 (gl_cons mw_27 (gl_cons mw_1251 (gl_cons mw_1252 (gl_cons mw_1254 (gl_cons mw_28 (gl_cons mw_1255 (gl_cons mw_1256 (gl_cons mw_1258 (gl_cons mw_29 (gl_cons mw_1259 (gl_cons mw_1260 (gl_cons mw_1261 (gl_cons mw_1262 (gl_cons mw_1263 (gl_cons mw_564 gl_nil))))))))))))))))))))))))) (show GoodIn lw_tbl wsX13_unlike_r5 from (gl_cons mw_70 (gl_cons mw_565 (gl_cons mw_1264 (gl_cons mw_1266 (gl_cons mw_30 (gl_cons mw_1267 (gl_cons mw_986 (gl_cons mw_987 (gl_cons mw_988 (gl_cons mw_989 (gl_cons mw_1268 (gl_cons mw_1270 (gl_cons mw_31 (gl_cons mw_1271 (gl_cons mw_1313 (gl_cons mw_1315 (gl_cons mw_33 (gl_cons mw_1316 (gl_cons mw_1317 (gl_cons mw_1319 (gl_cons mw_34 (gl_cons mw_1320 gl_nil))))))))))))))))))))))))))) lgg_X130))
set_option maxRecDepth 40000 in
theorem lgg_X13_most : GoodIn lw_tbl wsX13_most := (gl_cons mw_1340 (goodIn_app (goodIn_app (show GoodIn lw_tbl wsX13_most_r1 from (gl_cons mw_1147 (gl_cons mw_1005 (gl_cons mw_1003 (gl_cons mw_1004 (gl_cons mw_1186 (gl_cons mw_1188 (gl_cons mw_18 (gl_cons mw_66 (gl_cons mw_1189 (gl_cons mw_990 (gl_cons mw_1127 (gl_cons mw_1128 (gl_cons mw_1129 (gl_cons mw_1212 (gl_cons mw_1214 (gl_cons mw_20 (gl_cons mw_1215 (gl_cons mw_997 (gl_cons mw_1000 (gl_cons mw_998 (gl_cons mw_999 (gl_cons mw_1190 (gl_cons mw_1192 (gl_cons mw_19 gl_nil))))))))))))))))))))))))) (goodIn_app (show GoodIn lw_tbl wsX13_most_r2 from (gl_cons mw_1193 (gl_cons mw_991 (gl_cons mw_993 (gl_cons mw_994 (gl_cons mw_1194 (gl_cons mw_466 (gl_cons mw_70 (gl_cons mw_467 (gl_cons mw_992 (gl_cons mw_1195 (gl_cons mw_471 (gl_cons mw_472 (gl_cons mw_1001 (gl_cons mw_1002 (gl_cons mw_1175 (gl_cons mw_1176 (gl_cons mw_1177 (gl_cons mw_1216 (gl_cons mw_1218 (gl_cons mw_21 (gl_cons mw_1219 (gl_cons mw_1220 (gl_cons mw_1221 (gl_cons mw_1222 gl_nil))))))))))))))))))))))))) (goodIn_app (show GoodIn lw_tbl wsX13_most_r3 from (gl_cons mw_1223 (gl_cons mw_1225 (gl_cons mw_22 (gl_cons mw_1226 (gl_cons mw_1234 (gl_cons mw_1227 (gl_cons mw_1229 (gl_cons mw_23 (gl_cons mw_1230 (gl_cons mw_1231 (gl_cons mw_1232 (gl_cons mw_1233 (gl_cons mw_1235 (gl_cons mw_1237 (gl_cons mw_24 (gl_cons mw_1238 (gl_cons mw_1239 (gl_cons mw_1241 (gl_cons mw_25 (gl_cons mw_1242 (gl_cons mw_1243 (gl_cons mw_1148 (gl_cons mw_1150 (gl_cons mw_16 gl_nil))))))))))))))))))))))))) (goodIn_app (show GoodIn lw_tbl wsX13_most_r4 from (gl_cons mw_1151 (gl_cons mw_983 (gl_cons mw_984 (gl_cons mw_985 (gl_cons mw_1244 (gl_cons mw_1246 (gl_cons mw_26 (gl_cons mw_1247 (gl_cons mw_1248 (gl_cons mw_1250 (gl_cons mw_27 (gl_cons mw_1251 (gl_cons mw_1252 (gl_cons mw_1254 (gl_cons mw_28 (gl_cons mw_1255 (gl_cons mw_1256 (gl_cons mw_1258 (gl_cons mw_29 (gl_cons mw_1259 (gl_cons mw_1260 (gl_cons mw_1261 (gl_cons mw_1262 (gl_cons mw_1263 gl_nil))))))))))))))))))))))))) (show GoodIn lw_tbl wsX13_most_r5 from (gl_cons mw_564 (gl_cons mw_70 (gl_cons mw_565 (gl_cons mw_1264 (gl_cons mw_1266 (gl_cons mw_30 (gl_cons mw_1267 (gl_cons mw_986 (gl_cons mw_987 (gl_cons mw_988 (gl_cons mw_989 (gl_cons mw_1268 (gl_cons mw_1270 (gl_cons mw_31 (gl_cons mw_1271 gl_nil)))))))))))))))))))) lgg_X130))
set_option maxRecDepth 40000 in
theorem lgg_X13_due : GoodIn lw_tbl wsX13_due := (gl_cons mw_1344 (goodIn_app (goodIn_app (show GoodIn lw_tbl wsX13_due_r1 from (gl_cons mw_1147 (gl_cons mw_1006 (gl_cons mw_1345 (gl_cons mw_1347 (gl_cons mw_36 (gl_cons mw_66 (gl_cons mw_1348 (gl_cons mw_1186 (gl_cons mw_1188 (gl_cons mw_18 (gl_cons mw_1189 (gl_cons mw_990 (gl_cons mw_1127 (gl_cons mw_1128 (gl_cons mw_1129 (gl_cons mw_1156 (gl_cons mw_1157 (gl_cons mw_1158 (gl_cons mw_1159 (gl_cons mw_1208 (gl_cons mw_1209 (gl_cons mw_1210 (gl_cons mw_1211 (gl_cons mw_1349 gl_nil))))))))))))))))))))))))) (goodIn_app (show GoodIn lw_tbl wsX13_due_r2 from (gl_cons mw_1351 (gl_cons mw_37 (gl_cons mw_1352 (gl_cons mw_1001 (gl_cons mw_1007 (gl_cons mw_997 (gl_cons mw_1212 (gl_cons mw_1214 (gl_cons mw_20 (gl_cons mw_1215 (gl_cons mw_1000 (gl_cons mw_1005 (gl_cons mw_1003 (gl_cons mw_998 (gl_cons mw_1004 (gl_cons mw_999 (gl_cons mw_1190 (gl_cons mw_1192 (gl_cons mw_19 (gl_cons mw_1193 (gl_cons mw_991 (gl_cons mw_993 (gl_cons mw_994 (gl_cons mw_1194 gl_nil))))))))))))))))))))))))) (goodIn_app (show GoodIn lw_tbl wsX13_due_r3 from (gl_cons mw_466 (gl_cons mw_70 (gl_cons mw_467 (gl_cons mw_992 (gl_cons mw_1195 (gl_cons mw_471 (gl_cons mw_472 (gl_cons mw_1002 (gl_cons mw_1175 (gl_cons mw_1176 (gl_cons mw_1177 (gl_cons mw_1216 (gl_cons mw_1218 (gl_cons mw_21 (gl_cons mw_1219 (gl_cons mw_1220 (gl_cons mw_1221 (gl_cons mw_1222 (gl_cons mw_1223 (gl_cons mw_1225 (gl_cons mw_22 (gl_cons mw_1226 (gl_cons mw_1234 (gl_cons mw_1227 gl_nil))))))))))))))))))))))))) (goodIn_app (show GoodIn lw_tbl wsX13_due_r4 from (gl_cons mw_1229 (gl_cons mw_23 (gl_cons mw_1230 (gl_cons mw_1231 (gl_cons mw_1232 (gl_cons mw_1233 (gl_cons mw_1235 (gl_cons mw_1237 (gl_cons mw_24 (gl_cons mw_1238 (gl_cons mw_1239 (gl_cons mw_1241 (gl_cons mw_25 (gl_cons mw_1242 (gl_cons mw_1243 (gl_cons mw_1148 (gl_cons mw_1150 (gl_cons mw_16 (gl_cons mw_1151 (gl_cons mw_983 (gl_cons mw_984 (gl_cons mw_985 (gl_cons mw_1244 (gl_cons mw_1246 gl_nil))))))))))))))))))))))))) (goodIn_app (show GoodIn lw_tbl wsX13_due_r5 from (gl_cons mw_26 (gl_cons mw_1247 (gl_cons mw_1248 (gl_cons mw_1250 (gl_cons mw_27 (gl_cons mw_1251 (gl_cons mw_1252 (gl_cons mw_1254 (gl_cons mw_28 (gl_cons mw_1255 (gl_cons mw_1256 (gl_cons mw_1258 (gl_cons mw_29 (gl_cons mw_1259 (gl_cons mw_1260 (gl_cons mw_1261 (gl_cons mw_1262 (gl_cons mw_1263 (gl_cons mw_564 (gl_cons mw_70 (gl_cons mw_565 (gl_cons mw_1264 (gl_cons mw_1266 (gl_cons mw_30 gl_nil))))))))))))))))))))))))) (goodIn_app (show GoodIn lw_tbl wsX13_due_r6 from (gl_cons mw_1267 (gl_cons mw_986 (gl_cons mw_987 (gl_cons mw_988 (gl_cons mw_989 (gl_cons mw_1268 (gl_cons mw_1270 (gl_cons mw_31 (gl_cons mw_1271 (gl_cons mw_1353 (gl_cons mw_1355 (gl_cons mw_38 (gl_cons mw_1356 (gl_cons mw_1160 (gl_cons mw_1161 (gl_cons mw_1162 (gl_cons mw_1357 (gl_cons mw_1359 (gl_cons mw_39 (gl_cons mw_1309 (gl_cons mw_1311 (gl_cons mw_32 (gl_cons mw_1312 (gl_cons mw_1313 gl_nil))))))))))))))))))))))))) (show GoodIn lw_tbl wsX13_due_r7 from (gl_cons mw_1315 (gl_cons mw_33 (gl_cons mw_1316 (gl_cons mw_1317 (gl_cons mw_1319 (gl_cons mw_34 (gl_cons mw_1320 (gl_cons mw_1361 (gl_cons mw_1363 (gl_cons mw_40 (gl_cons mw_1325 (gl_cons mw_1327 (gl_cons mw_35 (gl_cons mw_1328 (gl_cons mw_1364 (gl_cons mw_1360 gl_nil))))))))))))))))))))))) lgg_X130))
set_option maxRecDepth 40000 in
theorem lgg_X13_dueDays : GoodIn lw_tbl wsX13_dueDays := (gl_cons mw_1368 (goodIn_app (goodIn_app (show GoodIn lw_tbl wsX13_dueDays_r1 from (gl_cons mw_1007 (gl_cons mw_1345 (gl_cons mw_1347 (gl_cons mw_36 (gl_cons mw_66 (gl_cons mw_1348 (gl_cons mw_1147 (gl_cons mw_1186 (gl_cons mw_1188 (gl_cons mw_18 (gl_cons mw_1189 (gl_cons mw_990 (gl_cons mw_1127 (gl_cons mw_1128 (gl_cons mw_1129 (gl_cons mw_1156 (gl_cons mw_1157 (gl_cons mw_1158 (gl_cons mw_1159 (gl_cons mw_1349 (gl_cons mw_1351 (gl_cons mw_37 (gl_cons mw_1352 (gl_cons mw_1001 gl_nil))))))))))))))))))))))))) (goodIn_app (show GoodIn lw_tbl wsX13_dueDays_r2 from (gl_cons mw_1006 (gl_cons mw_997 (gl_cons mw_1212 (gl_cons mw_1214 (gl_cons mw_20 (gl_cons mw_1215 (gl_cons mw_1000 (gl_cons mw_1005 (gl_cons mw_1003 (gl_cons mw_998 (gl_cons mw_1004 (gl_cons mw_999 (gl_cons mw_1190 (gl_cons mw_1192 (gl_cons mw_19 (gl_cons mw_1193 (gl_cons mw_991 (gl_cons mw_993 (gl_cons mw_994 (gl_cons mw_1194 (gl_cons mw_466 (gl_cons mw_70 (gl_cons mw_467 (gl_cons mw_992 gl_nil))))))))))))))))))))))))) (goodIn_app (show GoodIn lw_tbl wsX13_dueDays_r3 from (gl_cons mw_1195 (gl_cons mw_471 (gl_cons mw_472 (gl_cons mw_1002 (gl_cons mw_1175 (gl_cons mw_1176 (gl_cons mw_1177 (gl_cons mw_1216 (gl_cons mw_1218 (gl_cons mw_21 (gl_cons mw_1219 (gl_cons mw_1220 (gl_cons mw_1221 (gl_cons mw_1222 (gl_cons mw_1223 (gl_cons mw_1225 (gl_cons mw_22 (gl_cons mw_1226 (gl_cons mw_1234 (gl_cons mw_1227 (gl_cons mw_1229 (gl_cons mw_23 (gl_cons mw_1230 (gl_cons mw_1231 gl_nil))))))))))))))))))))))))) (goodIn_app (show GoodIn lw_tbl wsX13_dueDays_r4 from (gl_cons mw_1232 (gl_cons mw_1233 (gl_cons mw_1235 (gl_cons mw_1237 (gl_cons mw_24 (gl_cons mw_1238 (gl_cons mw_1239 (gl_cons mw_1241 (gl_cons mw_25 (gl_cons mw_1242 (gl_cons mw_1243 (gl_cons mw_1148 (gl_cons mw_1150 (gl_cons mw_16 (gl_cons mw_1151 (gl_cons mw_983 (gl_cons mw_984 (gl_cons mw_985 (gl_cons mw_1244 (gl_cons mw_1246 (gl_cons mw_26 (gl_cons mw_1247 (gl_cons mw_1248 (gl_cons mw_1250 gl_nil))))))))))))))))))))))))) (goodIn_app (show GoodIn lw_tbl wsX13_dueDays_r5 from (gl_cons mw_27 (gl_cons mw_1251 (gl_cons mw_1252 (gl_cons mw_1254 (gl_cons mw_28 (gl_cons mw_1255 (gl_cons mw_1256 (gl_cons mw_1258 (gl_cons mw_29 (gl_cons mw_1259 (gl_cons mw_1260 (gl_cons mw_1261 (gl_cons mw_1262 (gl_cons mw_1263 (gl_cons mw_564 (gl_cons mw_70 (gl_cons mw_565 (gl_cons mw_1264 (gl_cons mw_1266 (gl_cons mw_30 (gl_cons mw_1267 (gl_cons mw_986 (gl_cons mw_987 (gl_cons mw_988 gl_nil))))))))))))))))))))))))) (goodIn_app (show GoodIn lw_tbl wsX13_dueDays_r6 from (gl_cons mw_989 (gl_cons mw_1268 (gl_cons mw_1270 (gl_cons mw_31 (gl_cons mw_1271 (gl_cons mw_1353 (gl_cons mw_1355 (gl_cons mw_38 (gl_cons mw_1356 (gl_cons mw_1160 (gl_cons mw_1161 (gl_cons mw_1162 (gl_cons mw_1357 (gl_cons mw_1359 (gl_cons mw_39 (gl_cons mw_1309 (gl_cons mw_1311 (gl_cons mw_32 (gl_cons mw_1312 (gl_cons mw_1313 (gl_cons mw_1315 (gl_cons mw_33 (gl_cons mw_1316 (gl_cons mw_1317 gl_nil))))))))))))))))))))))))) (show GoodIn lw_tbl wsX13_dueDays_r7 from (gl_cons mw_1319 (gl_cons mw_34 (gl_cons mw_1320 (gl_cons mw_1361 (gl_cons mw_1363 (gl_cons mw_40 (gl_cons mw_1325 (gl_cons mw_1327 (gl_cons mw_35 (gl_cons mw_1328 (gl_cons mw_1364 (gl_cons mw_1360 gl_nil))))))))))))))))))) lgg_X130))
set_option maxRecDepth 40000 in
theorem lgg_X13_failed : GoodIn lw_tbl wsX13_failed := (gl_cons mw_1372 (goodIn_app (goodIn_app (show GoodIn lw_tbl wsX13_failed_r1 from (gl_cons mw_1147 (gl_cons mw_1130 (gl_cons mw_1006 (gl_cons mw_997 (gl_cons mw_1345 (gl_cons mw_1347 (gl_cons mw_36 (gl_cons mw_66 (gl_cons mw_1348 (gl_cons mw_1186 (gl_cons mw_1188 (gl_cons mw_18 (gl_cons mw_1189 (gl_cons mw_990 (gl_cons mw_1127 (gl_cons mw_1128 (gl_cons mw_1129 (gl_cons mw_1156 (gl_cons mw_1157 (gl_cons mw_1158 (gl_cons mw_1159 (gl_cons mw_1208 (gl_cons mw_1209 (gl_cons mw_1210 gl_nil))))))))))))))))))))))))) (goodIn_app (show GoodIn lw_tbl wsX13_failed_r2 from (gl_cons mw_1211 (gl_cons mw_1349 (gl_cons mw_1351 (gl_cons mw_37 (gl_cons mw_1352 (gl_cons mw_1001 (gl_cons mw_1007 (gl_cons mw_1212 (gl_cons mw_1214 (gl_cons mw_20 (gl_cons mw_1215 (gl_cons mw_1000 (gl_cons mw_1005 (gl_cons mw_1003 (gl_cons mw_998 (gl_cons mw_1004 (gl_cons mw_999 (gl_cons mw_1190 (gl_cons mw_1192 (gl_cons mw_19 (gl_cons mw_1193 (gl_cons mw_991 (gl_cons mw_993 (gl_cons mw_994 gl_nil))))))))))))))))))))))))) (goodIn_app (show GoodIn lw_tbl wsX13_failed_r3 from (gl_cons mw_1194 (gl_cons mw_466 (gl_cons mw_70 (gl_cons mw_467 (gl_cons mw_992 (gl_cons mw_1195 (gl_cons mw_471 (gl_cons mw_472 (gl_cons mw_1002 (gl_cons mw_1175 (gl_cons mw_1176 (gl_cons mw_1177 (gl_cons mw_1216 (gl_cons mw_1218 (gl_cons mw_21 (gl_cons mw_1219 (gl_cons mw_1220 (gl_cons mw_1221 (gl_cons mw_1222 (gl_cons mw_1223 (gl_cons mw_1225 (gl_cons mw_22 (gl_cons mw_1226 (gl_cons mw_1234 gl_nil))))))))))))))))))))))))) (goodIn_app (show GoodIn lw_tbl wsX13_failed_r4 from (gl_cons mw_1227 (gl_cons mw_1229 (gl_cons mw_23 (gl_cons mw_1230 (gl_cons mw_1231 (gl_cons mw_1232 (gl_cons mw_1233 (gl_cons mw_1235 (gl_cons mw_1237 (gl_cons mw_24 (gl_cons mw_1238 (gl_cons mw_1239 (gl_cons mw_1241 (gl_cons mw_25 (gl_cons mw_1242 (gl_cons mw_1243 (gl_cons mw_1148 (gl_cons mw_1150 (gl_cons mw_16 (gl_cons mw_1151 (gl_cons mw_983 (gl_cons mw_984 (gl_cons mw_985 (gl_cons mw_1244 gl_nil))))))))))))))))))))))))) (goodIn_app (show GoodIn lw_tbl wsX13_failed_r5 from (gl_cons mw_1246 (gl_cons mw_26 (gl_cons mw_1247 (gl_cons mw_1248 (gl_cons mw_1250 (gl_cons mw_27 (gl_cons mw_1251 (gl_cons mw_1252 (gl_cons mw_1254 (gl_cons mw_28 (gl_cons mw_1255 (gl_cons mw_1256 (gl_cons mw_1258 (gl_cons mw_29 (gl_cons mw_1259 (gl_cons mw_1260 (gl_cons mw_1261 (gl_cons mw_1262 (gl_cons mw_1263 (gl_cons mw_564 (gl_cons mw_70 (gl_cons mw_565 (gl_cons mw_1264 (gl_cons mw_1266 gl_nil))))))))))))))))))))))))) (goodIn_app (show GoodIn lw_tbl wsX13_failed_r6 from (gl_cons mw_30 (gl_cons mw_1267 (gl_cons mw_986 (gl_cons mw_987 (gl_cons mw_988 (gl_cons mw_989 (gl_cons mw_1268 (gl_cons mw_1270 (gl_cons mw_31 (gl_cons mw_1271 (gl_cons mw_1353 (gl_cons mw_1355 (gl_cons mw_38 (gl_cons mw_1356 (gl_cons mw_1160 (gl_cons mw_1161 (gl_cons mw_1162 (gl_cons mw_1357 (gl_cons mw_1359 (gl_cons mw_39 (gl_cons mw_1309 (gl_cons mw_1311 (gl_cons mw_32 (gl_cons mw_1312 gl_nil))))))))))))))))))))))))) (show GoodIn lw_tbl wsX13_failed_r7 from (gl_cons mw_1313 (gl_cons mw_1315 (gl_cons mw_33 (gl_cons mw_1316 (gl_cons mw_1317 (gl_cons mw_1319 (gl_cons mw_34 (gl_cons mw_1320 (gl_cons mw_1361 (gl_cons mw_1363 (gl_cons mw_40 (gl_cons mw_1325 (gl_cons mw_1327 (gl_cons mw_35 (gl_cons mw_1328 (gl_cons mw_1364 (gl_cons mw_1360 gl_nil)))))))))))))))))))))))) lgg_X130))
set_option maxRecDepth 40000 in
theorem lgg_X13_dues : GoodIn lw_tbl wsX13_dues := (gl_cons mw_1376 (goodIn_app (goodIn_app (show GoodIn lw_tbl wsX13_dues_r1 from (gl_cons mw_1017 (gl_cons mw_1006 (gl_cons mw_1345 (gl_cons mw_1347 (gl_cons mw_36 (gl_cons mw_66 (gl_cons mw_1348 (gl_cons mw_1147 (gl_cons mw_1186 (gl_cons mw_1188 (gl_cons mw_18 (gl_cons mw_1189 (gl_cons mw_990 (gl_cons mw_1127 (gl_cons mw_1128 (gl_cons mw_1129 (gl_cons mw_1156 (gl_cons mw_1157 (gl_cons mw_1158 (gl_cons mw_1159 (gl_cons mw_1377 (gl_cons mw_1378 (gl_cons mw_1379 (gl_cons mw_1380 gl_nil))))))))))))))))))))))))) (goodIn_app (show GoodIn lw_tbl wsX13_dues_r2 from (gl_cons mw_1349 (gl_cons mw_1351 (gl_cons mw_37 (gl_cons mw_1352 (gl_cons mw_1001 (gl_cons mw_1007 (gl_cons mw_997 (gl_cons mw_1212 (gl_cons mw_1214 (gl_cons mw_20 (gl_cons mw_1215 (gl_cons mw_1000 (gl_cons mw_1005 (gl_cons mw_1003 (gl_cons mw_998 (gl_cons mw_1004 (gl_cons mw_999 (gl_cons mw_1190 (gl_cons mw_1192 (gl_cons mw_19 (gl_cons mw_1193 (gl_cons mw_991 (gl_cons mw_993 (gl_cons mw_994 gl_nil))))))))))))))))))))))))) (goodIn_app (show GoodIn lw_tbl wsX13_dues_r3 from (gl_cons mw_1194 (gl_cons mw_466 (gl_cons mw_70 (gl_cons mw_467 (gl_cons mw_992 (gl_cons mw_1195 (gl_cons mw_471 (gl_cons mw_472 (gl_cons mw_1002 (gl_cons mw_1175 (gl_cons mw_1176 (gl_cons mw_1177 (gl_cons mw_1216 (gl_cons mw_1218 (gl_cons mw_21 (gl_cons mw_1219 (gl_cons mw_1220 (gl_cons mw_1221 (gl_cons mw_1222 (gl_cons mw_1223 (gl_cons mw_1225 (gl_cons mw_22 (gl_cons mw_1226 (gl_cons mw_1234 gl_nil))))))))))))))))))))))))) (goodIn_app (show GoodIn lw_tbl wsX13_dues_r4 from (gl_cons mw_1227 (gl_cons mw_1229 (gl_cons mw_23 (gl_cons mw_1230 (gl_cons mw_1231 (gl_cons mw_1232 (gl_cons mw_1233 (gl_cons mw_1235 (gl_cons mw_1237 (gl_cons mw_24 (gl_cons mw_1238 (gl_cons mw_1239 (gl_cons mw_1241 (gl_cons mw_25 (gl_cons mw_1242 (gl_cons mw_1243 (gl_cons mw_1148 (gl_cons mw_1150 (gl_cons mw_16 (gl_cons mw_1151 (gl_cons mw_983 (gl_cons mw_984 (gl_cons mw_985 (gl_cons mw_1244 gl_nil))))))))))))))))))))))))) (goodIn_app (show GoodIn lw_tbl wsX13_dues_r5 from (gl_cons mw_1246 (gl_cons mw_26 (gl_cons mw_1247 (gl_cons mw_1248 (gl_cons mw_1250 (gl_cons mw_27 (gl_cons mw_1251 (gl_cons mw_1252 (gl_cons mw_1254 (gl_cons mw_28 (gl_cons mw_1255 (gl_cons mw_1256 (gl_cons mw_1258 (gl_cons mw_29 (gl_cons mw_1259 (gl_cons mw_1260 (gl_cons mw_1261 (gl_cons mw_1262 (gl_cons mw_1263 (gl_cons mw_564 (gl_cons mw_70 (gl_cons mw_565 (gl_cons mw_1264 (gl_cons mw_1266 gl_nil))))))))))))))))))))))))) (goodIn_app (show GoodIn lw_tbl wsX13_dues_r6 from (gl_cons mw_30 (gl_cons mw_1267 (gl_cons mw_986 (gl_cons mw_987 (gl_cons mw_988 (gl_cons mw_989 (gl_cons mw_1268 (gl_cons mw_1270 (gl_cons mw_31 (gl_cons mw_1271 (gl_cons mw_1353 (gl_cons mw_1355 (gl_cons mw_38 (gl_cons mw_1356 (gl_cons mw_1160 (gl_cons mw_1161 (gl_cons mw_1162 (gl_cons mw_1357 (gl_cons mw_1359 (gl_cons mw_39 (gl_cons mw_1309 (gl_cons mw_1311 (gl_cons mw_32 (gl_cons mw_1312 gl_nil))))))))))))))))))))))))) (goodIn_app (show GoodIn lw_tbl wsX13_dues_r7 from (gl_cons mw_1313 (gl_cons mw_1315 (gl_cons mw_33 (gl_cons mw_1316 (gl_cons mw_1317 (gl_cons mw_1319 (gl_cons mw_34 (gl_cons mw_1320 (gl_cons mw_1361 (gl_cons mw_1363 (gl_cons mw_40 (gl_cons mw_1325 (gl_cons mw_1327 (gl_cons mw_35 (gl_cons mw_1328 (gl_cons mw_1364 (gl_cons mw_1360 (gl_cons mw_1381 (gl_cons mw_1382 (gl_cons mw_1383 (gl_cons mw_1384 (gl_cons mw_1019 (gl_cons mw_1020 (gl_cons mw_1385 gl_nil))))))))))))))))))))))))) (show GoodIn lw_tbl wsX13_dues_r8 from (gl_cons mw_1387 (gl_cons mw_41 (gl_cons mw_1388 (gl_cons mw_1018 gl_nil)))))))))))) lgg_X130))
set_option maxRecDepth 40000 in
theorem lgg_X13_feed : GoodIn lw_tbl wsX13_feed := (gl_cons mw_1392 (goodIn_app (gl_cons mw_1393 (gl_cons mw_1009 (gl_cons mw_1008 (gl_cons mw_1127 (gl_cons mw_1128 (gl_cons mw_66 (gl_cons mw_1129 gl_nil))))))) lgg_X130))
set_option maxRecDepth 40000 in
theorem lgg_X13_text : GoodIn lw_tbl wsX13_text := (gl_cons mw_1397 (goodIn_app (goodIn_app (show GoodIn lw_tbl wsX13_text_r1 from (gl_cons mw_990 (gl_cons mw_1011 (gl_cons mw_1013 (gl_cons mw_1014 (gl_cons mw_1015 (gl_cons mw_1009 (gl_cons mw_1012 (gl_cons mw_1398 (gl_cons mw_1400 (gl_cons mw_42 (gl_cons mw_66 (gl_cons mw_1401 (gl_cons mw_1410 (gl_cons mw_1411 (gl_cons mw_1016 (gl_cons mw_1402 (gl_cons mw_1404 (gl_cons mw_43 (gl_cons mw_1405 (gl_cons mw_1406 (gl_cons mw_1408 (gl_cons mw_44 (gl_cons mw_1409 (gl_cons mw_1008 gl_nil))))))))))))))))))))))))) (goodIn_app (show GoodIn lw_tbl wsX13_text_r2 from (gl_cons mw_1127 (gl_cons mw_1128 (gl_cons mw_1129 (gl_cons mw_1412 (gl_cons mw_1414 (gl_cons mw_45 (gl_cons mw_1415 (gl_cons mw_1010 (gl_cons mw_1416 (gl_cons mw_1418 (gl_cons mw_46 (gl_cons mw_1419 (gl_cons mw_1420 (gl_cons mw_742 (gl_cons mw_743 (gl_cons mw_75 (gl_cons mw_744 (gl_cons mw_1542 (gl_cons mw_745 (gl_cons mw_746 (gl_cons mw_747 (gl_cons mw_748 (gl_cons mw_749 (gl_cons mw_1543 gl_nil))))))))))))))))))))))))) (goodIn_app (show GoodIn lw_tbl wsX13_text_r3 from (gl_cons mw_1421 (gl_cons mw_752 (gl_cons mw_753 (gl_cons mw_754 (gl_cons mw_755 (gl_cons mw_756 (gl_cons mw_757 (gl_cons mw_758 (gl_cons mw_759 (gl_cons mw_760 (gl_cons mw_76 (gl_cons mw_761 (gl_cons mw_762 (gl_cons mw_763 (gl_cons mw_764 (gl_cons mw_765 (gl_cons mw_767 (gl_cons mw_768 (gl_cons mw_77 (gl_cons mw_769 (gl_cons mw_770 (gl_cons mw_771 (gl_cons mw_78 (gl_cons mw_772 gl_nil))))))))))))))))))))))))) (goodIn_app (show GoodIn lw_tbl wsX13_text_r4 from (gl_cons mw_773 (gl_cons mw_774 (gl_cons mw_775 (gl_cons mw_776 (gl_cons mw_777 (gl_cons mw_778 (gl_cons mw_779 (gl_cons mw_780 (gl_cons mw_781 (gl_cons mw_782 (gl_cons mw_783 (gl_cons mw_785 (gl_cons mw_787 (gl_cons mw_1422 (gl_cons mw_1424 (gl_cons mw_47 (gl_cons mw_1425 (gl_cons mw_1175 (gl_cons mw_1176 (gl_cons mw_1177 (gl_cons mw_1426 (gl_cons mw_1428 (gl_cons mw_48 (gl_cons mw_1429 gl_nil))))))))))))))))))))))))) (show GoodIn lw_tbl wsX13_text_r5 from (gl_cons mw_1430 (gl_cons mw_1432 (gl_cons mw_49 (gl_cons mw_1433 (gl_cons mw_1434 (gl_cons mw_1435 (gl_cons mw_1168 (gl_cons mw_1169 (gl_cons mw_1170 (gl_cons mw_1171 (gl_cons mw_1130 (gl_cons mw_1147 (gl_cons mw_1125 (gl_cons mw_1126 (gl_cons mw_1178 (gl_cons mw_1180 (gl_cons mw_17 (gl_cons mw_1181 (gl_cons mw_991 (gl_cons mw_992 (gl_cons mw_993 (gl_cons mw_994 gl_nil))))))))))))))))))))))))))) lgg_X130))
set_option maxRecDepth 40000 in
theorem lgg_X13_put : GoodIn lw_tbl wsX13_put := (gl_cons mw_1439 (goodIn_app (gl_cons mw_996 (gl_cons mw_995 (gl_cons mw_1440 (gl_cons mw_1441 (gl_cons mw_66 (gl_cons mw_1442 (gl_cons mw_1135 (gl_cons mw_1127 (gl_cons mw_1128 (gl_cons mw_1129 (gl_cons mw_1186 (gl_cons mw_1188 (gl_cons mw_18 (gl_cons mw_1189 (gl_cons mw_990 gl_nil))))))))))))))) lgg_X130))
set_option maxRecDepth 40000 in
theorem lgg_X13_take : GoodIn lw_tbl wsX13_take := (gl_cons mw_1446 (goodIn_app (gl_cons mw_996 (gl_cons mw_995 (gl_cons mw_1440 (gl_cons mw_1441 (gl_cons mw_66 (gl_cons mw_1442 (gl_cons mw_1135 (gl_cons mw_1127 (gl_cons mw_1128 (gl_cons mw_1129 gl_nil)))))))))) lgg_X130))
set_option maxRecDepth 40000 in
theorem lgg_X13_bagOf : GoodIn lw_tbl wsX13_bagOf := (gl_cons mw_1450 (goodIn_app (gl_cons mw_996 (gl_cons mw_995 (gl_cons mw_1440 (gl_cons mw_1441 (gl_cons mw_66 (gl_cons mw_1442 (gl_cons mw_1135 (gl_cons mw_1127 (gl_cons mw_1128 (gl_cons mw_1129 gl_nil)))))))))) lgg_X130))
set_option maxRecDepth 40000 in
theorem lgg_X13_pour : GoodIn lw_tbl wsX13_pour := (gl_cons mw_1454 (goodIn_app (gl_cons mw_1234 (gl_cons mw_1167 (gl_cons mw_996 (gl_cons mw_995 (gl_cons mw_991 (gl_cons mw_1440 (gl_cons mw_1441 (gl_cons mw_66 (gl_cons mw_1442 (gl_cons mw_1135 (gl_cons mw_1127 (gl_cons mw_1128 (gl_cons mw_1129 (gl_cons mw_1186 (gl_cons mw_1188 (gl_cons mw_18 (gl_cons mw_1189 (gl_cons mw_990 gl_nil)))))))))))))))))) lgg_X130))
set_option maxRecDepth 40000 in
theorem lgg_X13_bagBest : GoodIn lw_tbl wsX13_bagBest := (gl_cons mw_1458 (goodIn_app (goodIn_app (show GoodIn lw_tbl wsX13_bagBest_r1 from (gl_cons mw_990 (gl_cons mw_996 (gl_cons mw_995 (gl_cons mw_1440 (gl_cons mw_1441 (gl_cons mw_66 (gl_cons mw_1442 (gl_cons mw_1135 (gl_cons mw_1127 (gl_cons mw_1128 (gl_cons mw_1129 (gl_cons mw_1144 (gl_cons mw_1145 (gl_cons mw_1146 (gl_cons mw_1147 (gl_cons mw_1212 (gl_cons mw_1214 (gl_cons mw_20 (gl_cons mw_1215 (gl_cons mw_997 (gl_cons mw_1000 (gl_cons mw_1005 (gl_cons mw_1003 (gl_cons mw_998 gl_nil))))))))))))))))))))))))) (goodIn_app (show GoodIn lw_tbl wsX13_bagBest_r2 from (gl_cons mw_1004 (gl_cons mw_999 (gl_cons mw_1190 (gl_cons mw_1192 (gl_cons mw_19 (gl_cons mw_1193 (gl_cons mw_991 (gl_cons mw_993 (gl_cons mw_994 (gl_cons mw_1194 (gl_cons mw_466 (gl_cons mw_70 (gl_cons mw_467 (gl_cons mw_992 (gl_cons mw_1195 (gl_cons mw_471 (gl_cons mw_472 (gl_cons mw_1001 (gl_cons mw_1002 (gl_cons mw_1175 (gl_cons mw_1176 (gl_cons mw_1177 (gl_cons mw_1216 (gl_cons mw_1218 gl_nil))))))))))))))))))))))))) (goodIn_app (show GoodIn lw_tbl wsX13_bagBest_r3 from (gl_cons mw_21 (gl_cons mw_1219 (gl_cons mw_1220 (gl_cons mw_1221 (gl_cons mw_1222 (gl_cons mw_1223 (gl_cons mw_1225 (gl_cons mw_22 (gl_cons mw_1226 (gl_cons mw_1234 (gl_cons mw_1227 (gl_cons mw_1229 (gl_cons mw_23 (gl_cons mw_1230 (gl_cons mw_1231 (gl_cons mw_1232 (gl_cons mw_1233 (gl_cons mw_1235 (gl_cons mw_1237 (gl_cons mw_24 (gl_cons mw_1238 (gl_cons mw_1239 (gl_cons mw_1241 (gl_cons mw_25 gl_nil))))))))))))))))))))))))) (goodIn_app (show GoodIn lw_tbl wsX13_bagBest_r4 from (gl_cons mw_1242 (gl_cons mw_1243 (gl_cons mw_1148 (gl_cons mw_1150 (gl_cons mw_16 (gl_cons mw_1151 (gl_cons mw_983 (gl_cons mw_984 (gl_cons mw_985 (gl_cons mw_1244 (gl_cons mw_1246 (gl_cons mw_26 (gl_cons mw_1247 (gl_cons mw_1248 (gl_cons mw_1250 (gl_cons mw_27 (gl_cons mw_1251 (gl_cons mw_1252 (gl_cons mw_1254 (gl_cons mw_28 (gl_cons mw_1255 (gl_cons mw_1256 (gl_cons mw_1258 (gl_cons mw_29 gl_nil))))))))))))))))))))))))) (goodIn_app (show GoodIn lw_tbl wsX13_bagBest_r5 from (gl_cons mw_1259 (gl_cons mw_1260 (gl_cons mw_1261 (gl_cons mw_1262 (gl_cons mw_1263 (gl_cons mw_564 (gl_cons mw_70 (gl_cons mw_565 (gl_cons mw_1264 (gl_cons mw_1266 (gl_cons mw_30 (gl_cons mw_1267 (gl_cons mw_986 (gl_cons mw_987 (gl_cons mw_988 (gl_cons mw_989 (gl_cons mw_1268 (gl_cons mw_1270 (gl_cons mw_31 (gl_cons mw_1271 (gl_cons mw_1186 (gl_cons mw_1188 (gl_cons mw_18 (gl_cons mw_1189 gl_nil))))))))))))))))))))))))) (show GoodIn lw_tbl wsX13_bagBest_r6 from (gl_cons mw_1313 (gl_cons mw_1315 (gl_cons mw_33 (gl_cons mw_1316 (gl_cons mw_1317 (gl_cons mw_1319 (gl_cons mw_34 (gl_cons mw_1320 gl_nil)))))))))))))) lgg_X130))
set_option maxRecDepth 40000 in
theorem lgg_X13_sum : GoodIn lw_tbl wsX13_sum := (gl_cons mw_1462 (goodIn_app (gl_cons mw_996 (gl_cons mw_995 (gl_cons mw_990 (gl_cons mw_1440 (gl_cons mw_1441 (gl_cons mw_66 (gl_cons mw_1442 (gl_cons mw_1135 (gl_cons mw_1127 (gl_cons mw_1128 (gl_cons mw_1129 (gl_cons mw_1186 (gl_cons mw_1188 (gl_cons mw_18 (gl_cons mw_1189 (gl_cons mw_1178 (gl_cons mw_1180 (gl_cons mw_17 (gl_cons mw_1181 (gl_cons mw_991 (gl_cons mw_992 (gl_cons mw_993 (gl_cons mw_994 gl_nil))))))))))))))))))))))) lgg_X130))
set_option maxRecDepth 40000 in
theorem lgg_X13_sheet : GoodIn lw_tbl wsX13_sheet := (gl_cons mw_1466 (goodIn_app (gl_cons mw_1234 (gl_cons mw_1380 (gl_cons mw_1017 (gl_cons mw_1018 (gl_cons mw_1019 (gl_cons mw_1020 (gl_cons mw_1377 (gl_cons mw_1378 (gl_cons mw_66 (gl_cons mw_1379 (gl_cons mw_1127 (gl_cons mw_1128 (gl_cons mw_1129 gl_nil))))))))))))) lgg_X130))
set_option maxRecDepth 40000 in
theorem lgg_X13_cell : GoodIn lw_tbl wsX13_cell := (gl_cons mw_1384 (goodIn_app (gl_cons mw_1017 (gl_cons mw_1019 (gl_cons mw_1020 (gl_cons mw_1385 (gl_cons mw_1387 (gl_cons mw_41 (gl_cons mw_66 (gl_cons mw_1388 (gl_cons mw_1018 (gl_cons mw_1377 (gl_cons mw_1378 (gl_cons mw_1379 (gl_cons mw_1380 (gl_cons mw_1127 (gl_cons mw_1128 (gl_cons mw_1129 gl_nil)))))))))))))))) lgg_X130))
set_option maxRecDepth 40000 in
theorem lgg_X13_read : GoodIn lw_tbl wsX13_read := (gl_cons mw_1471 (goodIn_app (goodIn_app (show GoodIn lw_tbl wsX13_read_r1 from (gl_cons mw_1380 (gl_cons mw_1019 (gl_cons mw_1020 (gl_cons mw_1017 (gl_cons mw_1472 (gl_cons mw_1377 (gl_cons mw_1378 (gl_cons mw_66 (gl_cons mw_1379 (gl_cons mw_1127 (gl_cons mw_1128 (gl_cons mw_1129 (gl_cons mw_1208 (gl_cons mw_1209 (gl_cons mw_1210 (gl_cons mw_1211 (gl_cons mw_1385 (gl_cons mw_1387 (gl_cons mw_41 (gl_cons mw_1388 (gl_cons mw_1018 (gl_cons mw_1282 (gl_cons mw_1283 (gl_cons mw_73 gl_nil))))))))))))))))))))))))) (show GoodIn lw_tbl wsX13_read_r2 from (gl_cons mw_1284 (gl_cons mw_1288 (gl_cons mw_1290 (gl_cons mw_1289 (gl_cons mw_73 (gl_cons mw_1291 (gl_cons mw_1285 (gl_cons mw_1286 (gl_cons mw_1287 (gl_cons mw_1292 (gl_cons mw_1293 (gl_cons mw_74 (gl_cons mw_1294 (gl_cons mw_1298 (gl_cons mw_1300 (gl_cons mw_1299 (gl_cons mw_74 (gl_cons mw_1301 (gl_cons mw_1295 (gl_cons mw_1296 (gl_cons mw_1297 gl_nil))))))))))))))))))))))) lgg_X130))
set_option maxRecDepth 40000 in
theorem lgg_X13_halve : GoodIn lw_tbl wsX13_halve := (gl_cons mw_1476 (goodIn_app (gl_cons mw_1019 (gl_cons mw_1135 (gl_cons mw_1020 (gl_cons mw_1017 (gl_cons mw_1477 (gl_cons mw_1385 (gl_cons mw_1387 (gl_cons mw_41 (gl_cons mw_66 (gl_cons mw_1388 (gl_cons mw_1018 (gl_cons mw_1377 (gl_cons mw_1378 (gl_cons mw_1379 (gl_cons mw_1380 (gl_cons mw_1127 (gl_cons mw_1128 (gl_cons mw_1129 gl_nil)))))))))))))))))) lgg_X130))
set_option maxRecDepth 40000 in
theorem lgg_X13_copy : GoodIn lw_tbl wsX13_copy := (gl_cons mw_1481 (goodIn_app (gl_cons mw_1017 (gl_cons mw_1018 (gl_cons mw_1019 (gl_cons mw_1020 (gl_cons mw_1377 (gl_cons mw_1378 (gl_cons mw_66 (gl_cons mw_1379 (gl_cons mw_1380 (gl_cons mw_1127 (gl_cons mw_1128 (gl_cons mw_1129 gl_nil)))))))))))) lgg_X130))
set_option maxRecDepth 40000 in
theorem lgg_X13_hold : GoodIn lw_tbl wsX13_hold := (gl_cons mw_1485 (goodIn_app (gl_cons mw_1135 (gl_cons mw_990 (gl_cons mw_1243 (gl_cons mw_1021 (gl_cons mw_1022 (gl_cons mw_1023 (gl_cons mw_1486 (gl_cons mw_1487 (gl_cons mw_66 (gl_cons mw_1488 (gl_cons mw_1380 (gl_cons mw_1127 (gl_cons mw_1128 (gl_cons mw_1129 (gl_cons mw_1220 (gl_cons mw_1221 (gl_cons mw_1222 gl_nil))))))))))))))))) lgg_X130))
set_option maxRecDepth 40000 in
theorem lgg_X13_asClause : GoodIn lw_tbl wsX13_asClause := (gl_cons mw_1492 (goodIn_app (gl_cons mw_1380 (gl_cons mw_1022 (gl_cons mw_991 (gl_cons mw_1486 (gl_cons mw_1487 (gl_cons mw_66 (gl_cons mw_1488 (gl_cons mw_1127 (gl_cons mw_1128 (gl_cons mw_1129 (gl_cons mw_1493 (gl_cons mw_1495 (gl_cons mw_50 (gl_cons mw_1496 (gl_cons mw_1021 (gl_cons mw_1186 (gl_cons mw_1188 (gl_cons mw_18 (gl_cons mw_1189 (gl_cons mw_990 (gl_cons mw_1175 (gl_cons mw_1176 (gl_cons mw_1177 gl_nil))))))))))))))))))))))) lgg_X130))
set_option maxRecDepth 40000 in
theorem lgg_X13_asFraction : GoodIn lw_tbl wsX13_asFraction := (gl_cons mw_1500 (goodIn_app (gl_cons mw_1022 (gl_cons mw_1023 (gl_cons mw_1486 (gl_cons mw_1487 (gl_cons mw_66 (gl_cons mw_1488 (gl_cons mw_1380 (gl_cons mw_1127 (gl_cons mw_1128 (gl_cons mw_1129 (gl_cons mw_1208 (gl_cons mw_1209 (gl_cons mw_1210 (gl_cons mw_1211 (gl_cons mw_1493 (gl_cons mw_1495 (gl_cons mw_50 (gl_cons mw_1496 (gl_cons mw_1021 gl_nil))))))))))))))))))) lgg_X130))
set_option maxRecDepth 40000 in
theorem lgg_X13_compare : GoodIn lw_tbl wsX13_compare := (gl_cons mw_1504 (goodIn_app (goodIn_app (show GoodIn lw_tbl wsX13_compare_r1 from (gl_cons mw_1005 (gl_cons mw_1003 (gl_cons mw_1004 (gl_cons mw_1022 (gl_cons mw_1023 (gl_cons mw_1486 (gl_cons mw_1487 (gl_cons mw_66 (gl_cons mw_1488 (gl_cons mw_1380 (gl_cons mw_1127 (gl_cons mw_1128 (gl_cons mw_1129 (gl_cons mw_1186 (gl_cons mw_1188 (gl_cons mw_18 (gl_cons mw_1189 (gl_cons mw_990 (gl_cons mw_1144 (gl_cons mw_1145 (gl_cons mw_1146 (gl_cons mw_1147 (gl_cons mw_1493 (gl_cons mw_1495 gl_nil))))))))))))))))))))))))) (goodIn_app (show GoodIn lw_tbl wsX13_compare_r2 from (gl_cons mw_50 (gl_cons mw_1496 (gl_cons mw_1021 (gl_cons mw_1212 (gl_cons mw_1214 (gl_cons mw_20 (gl_cons mw_1215 (gl_cons mw_997 (gl_cons mw_1000 (gl_cons mw_998 (gl_cons mw_999 (gl_cons mw_1190 (gl_cons mw_1192 (gl_cons mw_19 (gl_cons mw_1193 (gl_cons mw_991 (gl_cons mw_993 (gl_cons mw_994 (gl_cons mw_1194 (gl_cons mw_466 (gl_cons mw_70 (gl_cons mw_467 (gl_cons mw_992 (gl_cons mw_1195 gl_nil))))))))))))))))))))))))) (goodIn_app (show GoodIn lw_tbl wsX13_compare_r3 from (gl_cons mw_471 (gl_cons mw_472 (gl_cons mw_1001 (gl_cons mw_1002 (gl_cons mw_1175 (gl_cons mw_1176 (gl_cons mw_1177 (gl_cons mw_1216 (gl_cons mw_1218 (gl_cons mw_21 (gl_cons mw_1219 (gl_cons mw_1220 (gl_cons mw_1221 (gl_cons mw_1222 (gl_cons mw_1223 (gl_cons mw_1225 (gl_cons mw_22 (gl_cons mw_1226 (gl_cons mw_1234 (gl_cons mw_1227 (gl_cons mw_1229 (gl_cons mw_23 (gl_cons mw_1230 (gl_cons mw_1231 gl_nil))))))))))))))))))))))))) (goodIn_app (show GoodIn lw_tbl wsX13_compare_r4 from (gl_cons mw_1232 (gl_cons mw_1233 (gl_cons mw_1235 (gl_cons mw_1237 (gl_cons mw_24 (gl_cons mw_1238 (gl_cons mw_1239 (gl_cons mw_1241 (gl_cons mw_25 (gl_cons mw_1242 (gl_cons mw_1243 (gl_cons mw_1148 (gl_cons mw_1150 (gl_cons mw_16 (gl_cons mw_1151 (gl_cons mw_983 (gl_cons mw_984 (gl_cons mw_985 (gl_cons mw_1244 (gl_cons mw_1246 (gl_cons mw_26 (gl_cons mw_1247 (gl_cons mw_1248 (gl_cons mw_1250 gl_nil))))))))))))))))))))))))) (goodIn_app (show GoodIn lw_tbl wsX13_compare_r5 from (gl_cons mw_27 (gl_cons mw_1251 (gl_cons mw_1252 (gl_cons mw_1254 (gl_cons mw_28 (gl_cons mw_1255 (gl_cons mw_1256 (gl_cons mw_1258 (gl_cons mw_29 (gl_cons mw_1259 (gl_cons mw_1260 (gl_cons mw_1261 (gl_cons mw_1262 (gl_cons mw_1263 (gl_cons mw_564 (gl_cons mw_70 (gl_cons mw_565 (gl_cons mw_1264 (gl_cons mw_1266 (gl_cons mw_30 (gl_cons mw_1267 (gl_cons mw_986 (gl_cons mw_987 (gl_cons mw_988 gl_nil))))))))))))))))))))))))) (show GoodIn lw_tbl wsX13_compare_r6 from (gl_cons mw_989 (gl_cons mw_1268 (gl_cons mw_1270 (gl_cons mw_31 (gl_cons mw_1271 gl_nil))))))))))) lgg_X130))
set_option maxRecDepth 40000 in
theorem lgg_X13_image : GoodIn lw_tbl wsX13_image := (gl_cons mw_1508 (goodIn_app (goodIn_app (show GoodIn lw_tbl wsX13_image_r1 from (gl_cons mw_1024 (gl_cons mw_990 (gl_cons mw_1509 (gl_cons mw_1511 (gl_cons mw_51 (gl_cons mw_66 (gl_cons mw_1512 (gl_cons mw_1027 (gl_cons mw_1026 (gl_cons mw_983 (gl_cons mw_984 (gl_cons mw_985 (gl_cons mw_986 (gl_cons mw_987 (gl_cons mw_988 (gl_cons mw_989 (gl_cons mw_991 (gl_cons mw_992 (gl_cons mw_993 (gl_cons mw_994 (gl_cons mw_995 (gl_cons mw_996 (gl_cons mw_1513 (gl_cons mw_1515 gl_nil))))))))))))))))))))))))) (show GoodIn lw_tbl wsX13_image_r2 from (gl_cons mw_52 (gl_cons mw_1516 (gl_cons mw_1025 (gl_cons mw_1517 (gl_cons mw_1519 (gl_cons mw_53 (gl_cons mw_1520 gl_nil))))))))) lgg_X130))
set_option maxRecDepth 40000 in
theorem lgg_X13_back : GoodIn lw_tbl wsX13_back := (gl_cons mw_1524 (goodIn_app (goodIn_app (show GoodIn lw_tbl wsX13_back_r1 from (gl_cons mw_1024 (gl_cons mw_990 (gl_cons mw_1509 (gl_cons mw_1511 (gl_cons mw_51 (gl_cons mw_66 (gl_cons mw_1512 (gl_cons mw_1027 (gl_cons mw_1026 (gl_cons mw_983 (gl_cons mw_984 (gl_cons mw_985 (gl_cons mw_986 (gl_cons mw_987 (gl_cons mw_988 (gl_cons mw_989 (gl_cons mw_991 (gl_cons mw_992 (gl_cons mw_993 (gl_cons mw_994 (gl_cons mw_995 (gl_cons mw_996 (gl_cons mw_1513 (gl_cons mw_1515 gl_nil))))))))))))))))))))))))) (show GoodIn lw_tbl wsX13_back_r2 from (gl_cons mw_52 (gl_cons mw_1516 (gl_cons mw_1025 (gl_cons mw_1517 (gl_cons mw_1519 (gl_cons mw_53 (gl_cons mw_1520 gl_nil))))))))) lgg_X130))
set_option maxRecDepth 40000 in
theorem lgg_X13_count : GoodIn lw_tbl wsX13_count := (gl_cons mw_1528 (goodIn_app (gl_cons mw_990 (gl_cons mw_996 (gl_cons mw_995 (gl_cons mw_983 (gl_cons mw_1529 (gl_cons mw_1531 (gl_cons mw_54 (gl_cons mw_66 (gl_cons mw_1532 (gl_cons mw_991 (gl_cons mw_993 (gl_cons mw_994 (gl_cons mw_1175 (gl_cons mw_1176 (gl_cons mw_1177 (gl_cons mw_1186 (gl_cons mw_1188 (gl_cons mw_18 (gl_cons mw_1189 (gl_cons mw_1127 (gl_cons mw_1128 (gl_cons mw_1129 gl_nil)))))))))))))))))))))) lgg_X130))
end
section
/-! the surroundings at the law's entry, out of the Statement's tables and premises -/
def lwFl : List Cond := flatC (Jvm.Cond.and given_1 narrow_1)
theorem kx_m {k : Nat} {w : Cond} (h : lwFl[k]? = some w) : w ∈ lwFl := List.mem_of_getElem? h
set_option maxRecDepth 100000 in
theorem kx_ex : ∀ i : Fin 13, lwFl[([29, 127, 142, 158, 175, 113, 83, 95, 22, 72, 193, 53, 62] : List Nat).getD i.val 0]? = some (Cond.exactly (.static "ClauseBook$Kind" (kdN.getD i.val "") "LClauseBook$Kind;") "ClauseBook$Kind") := by decide +kernel
set_option maxRecDepth 100000 in
theorem kx_f_names : ∀ i : Fin 13, lwFl[([33, 131, 146, 162, 179, 117, 87, 99, 26, 76, 197, 57, 66] : List Nat).getD i.val 0]? = some (Cond.eq (.field (.static "ClauseBook$Kind" (kdN.getD i.val "") "LClauseBook$Kind;") "ClauseBook$Kind" "names" "I") (.int (([0, 0, 1, 1, 1, 2, 2, 2, 1, 2, 1, 1, 2] : List Int32).getD i.val 0))) := by decide +kernel
set_option maxRecDepth 100000 in
theorem kx_f_least : ∀ i : Fin 13, lwFl[([34, 132, 147, 163, 180, 118, 88, 100, 27, 77, 198, 58, 67] : List Nat).getD i.val 0]? = some (Cond.eq (.field (.static "ClauseBook$Kind" (kdN.getD i.val "") "LClauseBook$Kind;") "ClauseBook$Kind" "least" "I") (.int (([0, 0, 0, -9, 0, 0, 0, 0, 0, 0, 0, 0, -99] : List Int32).getD i.val 0))) := by decide +kernel
set_option maxRecDepth 100000 in
theorem kx_f_most : ∀ i : Fin 13, lwFl[([35, 133, 148, 164, 181, 119, 89, 101, 28, 78, 199, 59, 68] : List Nat).getD i.val 0]? = some (Cond.eq (.field (.static "ClauseBook$Kind" (kdN.getD i.val "") "LClauseBook$Kind;") "ClauseBook$Kind" "most" "I") (.int (([0, 0, 0, 9, 0, 0, 0, 0, 6, 0, 0, 0, 99] : List Int32).getD i.val 0))) := by decide +kernel
set_option maxRecDepth 100000 in
theorem kx_f_number : ∀ i : Fin 13, lwFl[([31, 129, 144, 160, 177, 115, 85, 97, 24, 74, 195, 55, 64] : List Nat).getD i.val 0]? = some (Cond.eq (.field (.static "ClauseBook$Kind" (kdN.getD i.val "") "LClauseBook$Kind;") "ClauseBook$Kind" "number" "I") (.int (([0, 1, 2, 3, 4, 5, 6, 7, 8, 9, 10, 11, 12] : List Int32).getD i.val 0))) := by decide +kernel
set_option maxRecDepth 100000 in
theorem kx_el : ∀ i : Fin 13, lwFl[([9, 10, 11, 12, 13, 14, 15, 16, 17, 18, 19, 20, 21] : List Nat).getD i.val 0]? = some (Cond.eq (.elem (.static "ClauseBook$Kind" "ALL" "[LClauseBook$Kind;") (.int (Int32.ofNat i.val))) (.static "ClauseBook$Kind" (kdN.getD i.val "") "LClauseBook$Kind;")) := by decide +kernel
set_option maxRecDepth 100000 in
theorem kx_all : lwFl[6]? = some (Cond.arrayOf (.static "ClauseBook$Kind" "ALL" "[LClauseBook$Kind;") (.object "ClauseBook$Kind")) ∧ lwFl[7]? = some (Cond.eq (.length (.static "ClauseBook$Kind" "ALL" "[LClauseBook$Kind;")) (.int 13)) ∧ lwFl[108]? = some (Cond.eq (.static "java/lang/String" "COMPACT_STRINGS" "Z") (.int 1)) := by decide +kernel
set_option maxRecDepth 100000 in
theorem kx_or : ∀ i : Fin 13, lwFl[([30, 128, 143, 159, 176, 114, 84, 96, 23, 73, 194, 54, 63] : List Nat).getD i.val 0]? = some (Cond.eq (.field (.static "ClauseBook$Kind" (kdN.getD i.val "") "LClauseBook$Kind;") "java/lang/Enum" "ordinal" "I") (.int (([0, 1, 2, 3, 4, 5, 6, 7, 8, 9, 10, 11, 12] : List Int32).getD i.val 0))) := by decide +kernel
def kwI : List Nat := [86, 92, 95, 98, 101, 104, 107, 110, 113, 116, 119, 122, 125]
set_option maxRecDepth 100000 in
theorem kx_kw : ∀ i : Fin 13, lwFl[([32, 130, 145, 161, 178, 116, 86, 98, 25, 75, 196, 56, 65] : List Nat).getD i.val 0]? = some (Cond.eq (.field (.static "ClauseBook$Kind" (kdN.getD i.val "") "LClauseBook$Kind;") "ClauseBook$Kind" "word" "Ljava/lang/String;") (.string "ClauseBook$Kind" (kwI.getD i.val 0))) := by decide +kernel
set_option maxRecDepth 100000 in
theorem kx_eq : ∀ i : Fin 13, lwFl[([385, 451, 461, 472, 483, 443, 424, 434, 373, 413, 492, 394, 404] : List Nat).getD i.val 0]? = some (Cond.eq (.string "ClauseBookModel" (ksI.getD i.val 0)) (.string "ClauseBook$Kind" (kwI.getD i.val 0))) := by decide +kernel
set_option maxRecDepth 100000 in
theorem kx_sw : ∀ i : Fin 13, lwFl[([40, 41, 42, 43, 44, 45, 46, 47, 48, 49, 50, 51, 52] : List Nat).getD i.val 0]? = some (Cond.eq (.elem (.static "ClauseBook$1" "$SwitchMap$ClauseBook$Kind" "[I") (.int (Int32.ofNat i.val))) (.int (swT i.val))) := by decide +kernel
set_option maxRecDepth 100000 in
theorem kx_sx : lwFl[38]? = some (Cond.arrayOf (.static "ClauseBook$1" "$SwitchMap$ClauseBook$Kind" "[I") .int) ∧ lwFl[39]? = some (Cond.eq (.length (.static "ClauseBook$1" "$SwitchMap$ClauseBook$Kind" "[I")) (.int 13)) ∧ lwFl[109]? = some (Cond.isRef (.static "jdk/internal/util/Preconditions" "SIOOBE_FORMATTER" "Ljava/util/function/BiFunction;")) := by decide +kernel
end
section
set_option maxRecDepth 100000 in
theorem kx_ne_0 : ∀ j : Fin 13, j.val ≠ 0 → (lwFl[([0, 135, 150, 166, 183, 121, 91, 103, 36, 80, 201, 61, 70] : List Nat).getD j.val 0]? = some (Cond.not (.eq (.static "ClauseBook$Kind" "NOTHING" "LClauseBook$Kind;") (.static "ClauseBook$Kind" (kdN.getD j.val "") "LClauseBook$Kind;"))) ∨ lwFl[([0, 135, 150, 166, 183, 121, 91, 103, 36, 80, 201, 61, 70] : List Nat).getD j.val 0]? = some (Cond.not (.eq (.static "ClauseBook$Kind" (kdN.getD j.val "") "LClauseBook$Kind;") (.static "ClauseBook$Kind" "NOTHING" "LClauseBook$Kind;")))) := by decide +kernel
set_option maxRecDepth 100000 in
theorem kx_ne_1 : ∀ j : Fin 13, j.val ≠ 1 → (lwFl[([135, 0, 157, 173, 190, 141, 139, 140, 134, 138, 208, 136, 137] : List Nat).getD j.val 0]? = some (Cond.not (.eq (.static "ClauseBook$Kind" "ONE" "LClauseBook$Kind;") (.static "ClauseBook$Kind" (kdN.getD j.val "") "LClauseBook$Kind;"))) ∨ lwFl[([135, 0, 157, 173, 190, 141, 139, 140, 134, 138, 208, 136, 137] : List Nat).getD j.val 0]? = some (Cond.not (.eq (.static "ClauseBook$Kind" (kdN.getD j.val "") "LClauseBook$Kind;") (.static "ClauseBook$Kind" "ONE" "LClauseBook$Kind;")))) := by decide +kernel
set_option maxRecDepth 100000 in
theorem kx_ne_2 : ∀ j : Fin 13, j.val ≠ 2 → (lwFl[([150, 157, 0, 174, 191, 156, 154, 155, 149, 153, 209, 151, 152] : List Nat).getD j.val 0]? = some (Cond.not (.eq (.static "ClauseBook$Kind" "GIVEN" "LClauseBook$Kind;") (.static "ClauseBook$Kind" (kdN.getD j.val "") "LClauseBook$Kind;"))) ∨ lwFl[([150, 157, 0, 174, 191, 156, 154, 155, 149, 153, 209, 151, 152] : List Nat).getD j.val 0]? = some (Cond.not (.eq (.static "ClauseBook$Kind" (kdN.getD j.val "") "LClauseBook$Kind;") (.static "ClauseBook$Kind" "GIVEN" "LClauseBook$Kind;")))) := by decide +kernel
set_option maxRecDepth 100000 in
theorem kx_ne_3 : ∀ j : Fin 13, j.val ≠ 3 → (lwFl[([166, 173, 174, 0, 192, 172, 170, 171, 165, 169, 210, 167, 168] : List Nat).getD j.val 0]? = some (Cond.not (.eq (.static "ClauseBook$Kind" "SCALED" "LClauseBook$Kind;") (.static "ClauseBook$Kind" (kdN.getD j.val "") "LClauseBook$Kind;"))) ∨ lwFl[([166, 173, 174, 0, 192, 172, 170, 171, 165, 169, 210, 167, 168] : List Nat).getD j.val 0]? = some (Cond.not (.eq (.static "ClauseBook$Kind" (kdN.getD j.val "") "LClauseBook$Kind;") (.static "ClauseBook$Kind" "SCALED" "LClauseBook$Kind;")))) := by decide +kernel
set_option maxRecDepth 100000 in
theorem kx_ne_4 : ∀ j : Fin 13, j.val ≠ 4 → (lwFl[([183, 190, 191, 192, 0, 189, 187, 188, 182, 186, 211, 184, 185] : List Nat).getD j.val 0]? = some (Cond.not (.eq (.static "ClauseBook$Kind" "PRICED" "LClauseBook$Kind;") (.static "ClauseBook$Kind" (kdN.getD j.val "") "LClauseBook$Kind;"))) ∨ lwFl[([183, 190, 191, 192, 0, 189, 187, 188, 182, 186, 211, 184, 185] : List Nat).getD j.val 0]? = some (Cond.not (.eq (.static "ClauseBook$Kind" (kdN.getD j.val "") "LClauseBook$Kind;") (.static "ClauseBook$Kind" "PRICED" "LClauseBook$Kind;")))) := by decide +kernel
set_option maxRecDepth 100000 in
theorem kx_ne_5 : ∀ j : Fin 13, j.val ≠ 5 → (lwFl[([121, 141, 156, 172, 189, 0, 125, 126, 120, 124, 207, 122, 123] : List Nat).getD j.val 0]? = some (Cond.not (.eq (.static "ClauseBook$Kind" "BOTH" "LClauseBook$Kind;") (.static "ClauseBook$Kind" (kdN.getD j.val "") "LClauseBook$Kind;"))) ∨ lwFl[([121, 141, 156, 172, 189, 0, 125, 126, 120, 124, 207, 122, 123] : List Nat).getD j.val 0]? = some (Cond.not (.eq (.static "ClauseBook$Kind" (kdN.getD j.val "") "LClauseBook$Kind;") (.static "ClauseBook$Kind" "BOTH" "LClauseBook$Kind;")))) := by decide +kernel
set_option maxRecDepth 100000 in
theorem kx_ne_6 : ∀ j : Fin 13, j.val ≠ 6 → (lwFl[([91, 139, 154, 170, 187, 125, 0, 107, 90, 94, 205, 92, 93] : List Nat).getD j.val 0]? = some (Cond.not (.eq (.static "ClauseBook$Kind" "BETTER" "LClauseBook$Kind;") (.static "ClauseBook$Kind" (kdN.getD j.val "") "LClauseBook$Kind;"))) ∨ lwFl[([91, 139, 154, 170, 187, 125, 0, 107, 90, 94, 205, 92, 93] : List Nat).getD j.val 0]? = some (Cond.not (.eq (.static "ClauseBook$Kind" (kdN.getD j.val "") "LClauseBook$Kind;") (.static "ClauseBook$Kind" "BETTER" "LClauseBook$Kind;")))) := by decide +kernel
set_option maxRecDepth 100000 in
theorem kx_ne_7 : ∀ j : Fin 13, j.val ≠ 7 → (lwFl[([103, 140, 155, 171, 188, 126, 107, 0, 102, 106, 206, 104, 105] : List Nat).getD j.val 0]? = some (Cond.not (.eq (.static "ClauseBook$Kind" "WORSE" "LClauseBook$Kind;") (.static "ClauseBook$Kind" (kdN.getD j.val "") "LClauseBook$Kind;"))) ∨ lwFl[([103, 140, 155, 171, 188, 126, 107, 0, 102, 106, 206, 104, 105] : List Nat).getD j.val 0]? = some (Cond.not (.eq (.static "ClauseBook$Kind" (kdN.getD j.val "") "LClauseBook$Kind;") (.static "ClauseBook$Kind" "WORSE" "LClauseBook$Kind;")))) := by decide +kernel
set_option maxRecDepth 100000 in
theorem kx_ne_8 : ∀ j : Fin 13, j.val ≠ 8 → (lwFl[([36, 134, 149, 165, 182, 120, 90, 102, 0, 79, 200, 60, 69] : List Nat).getD j.val 0]? = some (Cond.not (.eq (.static "ClauseBook$Kind" "UNTIL" "LClauseBook$Kind;") (.static "ClauseBook$Kind" (kdN.getD j.val "") "LClauseBook$Kind;"))) ∨ lwFl[([36, 134, 149, 165, 182, 120, 90, 102, 0, 79, 200, 60, 69] : List Nat).getD j.val 0]? = some (Cond.not (.eq (.static "ClauseBook$Kind" (kdN.getD j.val "") "LClauseBook$Kind;") (.static "ClauseBook$Kind" "UNTIL" "LClauseBook$Kind;")))) := by decide +kernel
set_option maxRecDepth 100000 in
theorem kx_ne_9 : ∀ j : Fin 13, j.val ≠ 9 → (lwFl[([80, 138, 153, 169, 186, 124, 94, 106, 79, 0, 204, 81, 82] : List Nat).getD j.val 0]? = some (Cond.not (.eq (.static "ClauseBook$Kind" "THEN" "LClauseBook$Kind;") (.static "ClauseBook$Kind" (kdN.getD j.val "") "LClauseBook$Kind;"))) ∨ lwFl[([80, 138, 153, 169, 186, 124, 94, 106, 79, 0, 204, 81, 82] : List Nat).getD j.val 0]? = some (Cond.not (.eq (.static "ClauseBook$Kind" (kdN.getD j.val "") "LClauseBook$Kind;") (.static "ClauseBook$Kind" "THEN" "LClauseBook$Kind;")))) := by decide +kernel
set_option maxRecDepth 100000 in
theorem kx_ne_10 : ∀ j : Fin 13, j.val ≠ 10 → (lwFl[([201, 208, 209, 210, 211, 207, 205, 206, 200, 204, 0, 202, 203] : List Nat).getD j.val 0]? = some (Cond.not (.eq (.static "ClauseBook$Kind" "LATE" "LClauseBook$Kind;") (.static "ClauseBook$Kind" (kdN.getD j.val "") "LClauseBook$Kind;"))) ∨ lwFl[([201, 208, 209, 210, 211, 207, 205, 206, 200, 204, 0, 202, 203] : List Nat).getD j.val 0]? = some (Cond.not (.eq (.static "ClauseBook$Kind" (kdN.getD j.val "") "LClauseBook$Kind;") (.static "ClauseBook$Kind" "LATE" "LClauseBook$Kind;")))) := by decide +kernel
set_option maxRecDepth 100000 in
theorem kx_ne_11 : ∀ j : Fin 13, j.val ≠ 11 → (lwFl[([61, 136, 151, 167, 184, 122, 92, 104, 60, 81, 202, 0, 71] : List Nat).getD j.val 0]? = some (Cond.not (.eq (.static "ClauseBook$Kind" "FREE" "LClauseBook$Kind;") (.static "ClauseBook$Kind" (kdN.getD j.val "") "LClauseBook$Kind;"))) ∨ lwFl[([61, 136, 151, 167, 184, 122, 92, 104, 60, 81, 202, 0, 71] : List Nat).getD j.val 0]? = some (Cond.not (.eq (.static "ClauseBook$Kind" (kdN.getD j.val "") "LClauseBook$Kind;") (.static "ClauseBook$Kind" "FREE" "LClauseBook$Kind;")))) := by decide +kernel
set_option maxRecDepth 100000 in
theorem kx_ne_12 : ∀ j : Fin 13, j.val ≠ 12 → (lwFl[([70, 137, 152, 168, 185, 123, 93, 105, 69, 82, 203, 71, 0] : List Nat).getD j.val 0]? = some (Cond.not (.eq (.static "ClauseBook$Kind" "WHERE" "LClauseBook$Kind;") (.static "ClauseBook$Kind" (kdN.getD j.val "") "LClauseBook$Kind;"))) ∨ lwFl[([70, 137, 152, 168, 185, 123, 93, 105, 69, 82, 203, 71, 0] : List Nat).getD j.val 0]? = some (Cond.not (.eq (.static "ClauseBook$Kind" (kdN.getD j.val "") "LClauseBook$Kind;") (.static "ClauseBook$Kind" "WHERE" "LClauseBook$Kind;")))) := by decide +kernel
theorem kx_ne : ∀ (i j : Nat) (_ : i < 13) (hj : j < 13), i ≠ j → (Cond.not (.eq (.static "ClauseBook$Kind" (kdN.getD i "") "LClauseBook$Kind;") (.static "ClauseBook$Kind" (kdN.getD j "") "LClauseBook$Kind;")) ∈ lwFl ∨ Cond.not (.eq (.static "ClauseBook$Kind" (kdN.getD j "") "LClauseBook$Kind;") (.static "ClauseBook$Kind" (kdN.getD i "") "LClauseBook$Kind;")) ∈ lwFl) := by
  intro i j hi hj hne
  match i, hi, hne with
  | 0, _, hne => exact (kx_ne_0 ⟨j, hj⟩ (fun e => hne e.symm)).imp kx_m kx_m
  | 1, _, hne => exact (kx_ne_1 ⟨j, hj⟩ (fun e => hne e.symm)).imp kx_m kx_m
  | 2, _, hne => exact (kx_ne_2 ⟨j, hj⟩ (fun e => hne e.symm)).imp kx_m kx_m
  | 3, _, hne => exact (kx_ne_3 ⟨j, hj⟩ (fun e => hne e.symm)).imp kx_m kx_m
  | 4, _, hne => exact (kx_ne_4 ⟨j, hj⟩ (fun e => hne e.symm)).imp kx_m kx_m
  | 5, _, hne => exact (kx_ne_5 ⟨j, hj⟩ (fun e => hne e.symm)).imp kx_m kx_m
  | 6, _, hne => exact (kx_ne_6 ⟨j, hj⟩ (fun e => hne e.symm)).imp kx_m kx_m
  | 7, _, hne => exact (kx_ne_7 ⟨j, hj⟩ (fun e => hne e.symm)).imp kx_m kx_m
  | 8, _, hne => exact (kx_ne_8 ⟨j, hj⟩ (fun e => hne e.symm)).imp kx_m kx_m
  | 9, _, hne => exact (kx_ne_9 ⟨j, hj⟩ (fun e => hne e.symm)).imp kx_m kx_m
  | 10, _, hne => exact (kx_ne_10 ⟨j, hj⟩ (fun e => hne e.symm)).imp kx_m kx_m
  | 11, _, hne => exact (kx_ne_11 ⟨j, hj⟩ (fun e => hne e.symm)).imp kx_m kx_m
  | 12, _, hne => exact (kx_ne_12 ⟨j, hj⟩ (fun e => hne e.symm)).imp kx_m kx_m
  | i + 13, hi, _ => omega
end
section
set_option maxRecDepth 100000 in
theorem ks_ex : ∀ i : Fin 13, lwFl[([248, 259, 266, 275, 285, 295, 303, 313, 322, 331, 339, 347, 355] : List Nat).getD i.val 0]? = some (Cond.exactly (.string "ClauseBookModel" (ksI.getD i.val 0)) "java/lang/String") := by decide +kernel
set_option maxRecDepth 100000 in
theorem ks_co : ∀ i : Fin 13, lwFl[([249, 260, 267, 276, 286, 296, 304, 314, 323, 332, 340, 348, 356] : List Nat).getD i.val 0]? = some (Cond.eq (.field (.string "ClauseBookModel" (ksI.getD i.val 0)) "java/lang/String" "coder" "B") (.int 0)) := by decide +kernel
set_option maxRecDepth 100000 in
theorem ks_ar : ∀ i : Fin 13, lwFl[([250, 261, 268, 277, 287, 297, 305, 315, 324, 333, 341, 349, 357] : List Nat).getD i.val 0]? = some (Cond.arrayOf (.field (.string "ClauseBookModel" (ksI.getD i.val 0)) "java/lang/String" "value" "[B") .byte) := by decide +kernel
set_option maxRecDepth 100000 in
theorem ks_le : ∀ i : Fin 13, lwFl[([251, 262, 269, 278, 288, 298, 306, 316, 325, 334, 342, 350, 358] : List Nat).getD i.val 0]? = some (Cond.eq (.length (.field (.string "ClauseBookModel" (ksI.getD i.val 0)) "java/lang/String" "value" "[B")) (.int (Int32.ofNat (ksL.getD i.val 0)))) := by decide +kernel
end
section
def ksP : List (List Nat) := [[252, 253, 254, 255, 256, 257, 258], [263, 264, 265], [270, 271, 272, 273, 274], [279, 280, 281, 282, 283, 284], [289, 290, 291, 292, 293, 294], [299, 300, 301, 302], [307, 308, 309, 310, 311, 312], [317, 318, 319, 320, 321], [326, 327, 328, 329, 330], [335, 336, 337, 338], [343, 344, 345, 346], [351, 352, 353, 354], [359, 360, 361, 362, 363]]
set_option maxRecDepth 100000 in
theorem ks_el_0 : ∀ j : Fin 7, lwFl[([252, 253, 254, 255, 256, 257, 258] : List Nat).getD j.val 0]? = some (Cond.eq (.elem (.field (.string "ClauseBookModel" 75) "java/lang/String" "value" "[B") (.int (Int32.ofNat j.val))) (.int (([110, 111, 116, 104, 105, 110, 103] : List Int32).getD j.val 0))) := by decide +kernel
set_option maxRecDepth 100000 in
theorem ks_el_1 : ∀ j : Fin 3, lwFl[([263, 264, 265] : List Nat).getD j.val 0]? = some (Cond.eq (.elem (.field (.string "ClauseBookModel" 77) "java/lang/String" "value" "[B") (.int (Int32.ofNat j.val))) (.int (([111, 110, 101] : List Int32).getD j.val 0))) := by decide +kernel
set_option maxRecDepth 100000 in
theorem ks_el_2 : ∀ j : Fin 5, lwFl[([270, 271, 272, 273, 274] : List Nat).getD j.val 0]? = some (Cond.eq (.elem (.field (.string "ClauseBookModel" 78) "java/lang/String" "value" "[B") (.int (Int32.ofNat j.val))) (.int (([103, 105, 118, 101, 110] : List Int32).getD j.val 0))) := by decide +kernel
set_option maxRecDepth 100000 in
theorem ks_el_3 : ∀ j : Fin 6, lwFl[([279, 280, 281, 282, 283, 284] : List Nat).getD j.val 0]? = some (Cond.eq (.elem (.field (.string "ClauseBookModel" 80) "java/lang/String" "value" "[B") (.int (Int32.ofNat j.val))) (.int (([115, 99, 97, 108, 101, 100] : List Int32).getD j.val 0))) := by decide +kernel
set_option maxRecDepth 100000 in
theorem ks_el_4 : ∀ j : Fin 6, lwFl[([289, 290, 291, 292, 293, 294] : List Nat).getD j.val 0]? = some (Cond.eq (.elem (.field (.string "ClauseBookModel" 82) "java/lang/String" "value" "[B") (.int (Int32.ofNat j.val))) (.int (([112, 114, 105, 99, 101, 100] : List Int32).getD j.val 0))) := by decide +kernel
set_option maxRecDepth 100000 in
theorem ks_el_5 : ∀ j : Fin 4, lwFl[([299, 300, 301, 302] : List Nat).getD j.val 0]? = some (Cond.eq (.elem (.field (.string "ClauseBookModel" 84) "java/lang/String" "value" "[B") (.int (Int32.ofNat j.val))) (.int (([98, 111, 116, 104] : List Int32).getD j.val 0))) := by decide +kernel
set_option maxRecDepth 100000 in
theorem ks_el_6 : ∀ j : Fin 6, lwFl[([307, 308, 309, 310, 311, 312] : List Nat).getD j.val 0]? = some (Cond.eq (.elem (.field (.string "ClauseBookModel" 86) "java/lang/String" "value" "[B") (.int (Int32.ofNat j.val))) (.int (([98, 101, 116, 116, 101, 114] : List Int32).getD j.val 0))) := by decide +kernel
set_option maxRecDepth 100000 in
theorem ks_el_7 : ∀ j : Fin 5, lwFl[([317, 318, 319, 320, 321] : List Nat).getD j.val 0]? = some (Cond.eq (.elem (.field (.string "ClauseBookModel" 88) "java/lang/String" "value" "[B") (.int (Int32.ofNat j.val))) (.int (([119, 111, 114, 115, 101] : List Int32).getD j.val 0))) := by decide +kernel
set_option maxRecDepth 100000 in
theorem ks_el_8 : ∀ j : Fin 5, lwFl[([326, 327, 328, 329, 330] : List Nat).getD j.val 0]? = some (Cond.eq (.elem (.field (.string "ClauseBookModel" 90) "java/lang/String" "value" "[B") (.int (Int32.ofNat j.val))) (.int (([117, 110, 116, 105, 108] : List Int32).getD j.val 0))) := by decide +kernel
set_option maxRecDepth 100000 in
theorem ks_el_9 : ∀ j : Fin 4, lwFl[([335, 336, 337, 338] : List Nat).getD j.val 0]? = some (Cond.eq (.elem (.field (.string "ClauseBookModel" 92) "java/lang/String" "value" "[B") (.int (Int32.ofNat j.val))) (.int (([116, 104, 101, 110] : List Int32).getD j.val 0))) := by decide +kernel
set_option maxRecDepth 100000 in
theorem ks_el_10 : ∀ j : Fin 4, lwFl[([343, 344, 345, 346] : List Nat).getD j.val 0]? = some (Cond.eq (.elem (.field (.string "ClauseBookModel" 94) "java/lang/String" "value" "[B") (.int (Int32.ofNat j.val))) (.int (([108, 97, 116, 101] : List Int32).getD j.val 0))) := by decide +kernel
set_option maxRecDepth 100000 in
theorem ks_el_11 : ∀ j : Fin 4, lwFl[([351, 352, 353, 354] : List Nat).getD j.val 0]? = some (Cond.eq (.elem (.field (.string "ClauseBookModel" 96) "java/lang/String" "value" "[B") (.int (Int32.ofNat j.val))) (.int (([102, 114, 101, 101] : List Int32).getD j.val 0))) := by decide +kernel
set_option maxRecDepth 100000 in
theorem ks_el_12 : ∀ j : Fin 5, lwFl[([359, 360, 361, 362, 363] : List Nat).getD j.val 0]? = some (Cond.eq (.elem (.field (.string "ClauseBookModel" 98) "java/lang/String" "value" "[B") (.int (Int32.ofNat j.val))) (.int (([119, 104, 101, 114, 101] : List Int32).getD j.val 0))) := by decide +kernel
theorem ks_el : ∀ (i : Nat) (_ : i < 13) (j : Nat), j < ksL.getD i 0 → Cond.eq (.elem (.field (.string "ClauseBookModel" (ksI.getD i 0)) "java/lang/String" "value" "[B") (.int (Int32.ofNat j))) (.int ((ksB.getD i []).getD j 0)) ∈ lwFl := by
  intro i hi j hj
  match i, hi, hj with
  | 0, _, hj => exact kx_m (ks_el_0 ⟨j, hj⟩)
  | 1, _, hj => exact kx_m (ks_el_1 ⟨j, hj⟩)
  | 2, _, hj => exact kx_m (ks_el_2 ⟨j, hj⟩)
  | 3, _, hj => exact kx_m (ks_el_3 ⟨j, hj⟩)
  | 4, _, hj => exact kx_m (ks_el_4 ⟨j, hj⟩)
  | 5, _, hj => exact kx_m (ks_el_5 ⟨j, hj⟩)
  | 6, _, hj => exact kx_m (ks_el_6 ⟨j, hj⟩)
  | 7, _, hj => exact kx_m (ks_el_7 ⟨j, hj⟩)
  | 8, _, hj => exact kx_m (ks_el_8 ⟨j, hj⟩)
  | 9, _, hj => exact kx_m (ks_el_9 ⟨j, hj⟩)
  | 10, _, hj => exact kx_m (ks_el_10 ⟨j, hj⟩)
  | 11, _, hj => exact kx_m (ks_el_11 ⟨j, hj⟩)
  | 12, _, hj => exact kx_m (ks_el_12 ⟨j, hj⟩)
  | i + 13, hi, _ => omega
theorem ks_l7 : ∀ i : Fin 13, ksL.getD i.val 0 ≤ 7 := by decide
end
section
set_option maxRecDepth 100000 in
theorem kx_ls_0 : Cond.laysStatic "ClauseBook$Kind" "NOTHING" "LClauseBook$Kind;" ∈ lw_tbl := lwt_1 _ (List.mem_of_getElem? (i := 207) rfl)
set_option maxRecDepth 100000 in
theorem ks_sr_0 : Cond.stringRef "ClauseBookModel" 75 "nothing" ∈ lw_tbl := lwt_3 _ (List.mem_of_getElem? (i := 195) rfl)
set_option maxRecDepth 100000 in
theorem kx_ls_1 : Cond.laysStatic "ClauseBook$Kind" "ONE" "LClauseBook$Kind;" ∈ lw_tbl := lwt_6 _ (List.mem_of_getElem? (i := 54) rfl)
set_option maxRecDepth 100000 in
theorem ks_sr_1 : Cond.stringRef "ClauseBookModel" 77 "one" ∈ lw_tbl := lwt_3 _ (List.mem_of_getElem? (i := 196) rfl)
set_option maxRecDepth 100000 in
theorem kx_ls_2 : Cond.laysStatic "ClauseBook$Kind" "GIVEN" "LClauseBook$Kind;" ∈ lw_tbl := lwt_6 _ (List.mem_of_getElem? (i := 55) rfl)
set_option maxRecDepth 100000 in
theorem ks_sr_2 : Cond.stringRef "ClauseBookModel" 78 "given" ∈ lw_tbl := lwt_3 _ (List.mem_of_getElem? (i := 197) rfl)
set_option maxRecDepth 100000 in
theorem kx_ls_3 : Cond.laysStatic "ClauseBook$Kind" "SCALED" "LClauseBook$Kind;" ∈ lw_tbl := lwt_6 _ (List.mem_of_getElem? (i := 56) rfl)
set_option maxRecDepth 100000 in
theorem ks_sr_3 : Cond.stringRef "ClauseBookModel" 80 "scaled" ∈ lw_tbl := lwt_3 _ (List.mem_of_getElem? (i := 198) rfl)
set_option maxRecDepth 100000 in
theorem kx_ls_4 : Cond.laysStatic "ClauseBook$Kind" "PRICED" "LClauseBook$Kind;" ∈ lw_tbl := lwt_6 _ (List.mem_of_getElem? (i := 57) rfl)
set_option maxRecDepth 100000 in
theorem ks_sr_4 : Cond.stringRef "ClauseBookModel" 82 "priced" ∈ lw_tbl := lwt_3 _ (List.mem_of_getElem? (i := 199) rfl)
set_option maxRecDepth 100000 in
theorem kx_ls_5 : Cond.laysStatic "ClauseBook$Kind" "BOTH" "LClauseBook$Kind;" ∈ lw_tbl := lwt_3 _ (List.mem_of_getElem? (i := 56) rfl)
set_option maxRecDepth 100000 in
theorem ks_sr_5 : Cond.stringRef "ClauseBookModel" 84 "both" ∈ lw_tbl := lwt_3 _ (List.mem_of_getElem? (i := 200) rfl)
set_option maxRecDepth 100000 in
theorem kx_ls_6 : Cond.laysStatic "ClauseBook$Kind" "BETTER" "LClauseBook$Kind;" ∈ lw_tbl := lwt_2 _ (List.mem_of_getElem? (i := 44) rfl)
set_option maxRecDepth 100000 in
theorem ks_sr_6 : Cond.stringRef "ClauseBookModel" 86 "better" ∈ lw_tbl := lwt_3 _ (List.mem_of_getElem? (i := 201) rfl)
set_option maxRecDepth 100000 in
theorem kx_ls_7 : Cond.laysStatic "ClauseBook$Kind" "WORSE" "LClauseBook$Kind;" ∈ lw_tbl := lwt_2 _ (List.mem_of_getElem? (i := 89) rfl)
set_option maxRecDepth 100000 in
theorem ks_sr_7 : Cond.stringRef "ClauseBookModel" 88 "worse" ∈ lw_tbl := lwt_3 _ (List.mem_of_getElem? (i := 202) rfl)
set_option maxRecDepth 100000 in
theorem kx_ls_8 : Cond.laysStatic "ClauseBook$Kind" "UNTIL" "LClauseBook$Kind;" ∈ lw_tbl := lwt_1 _ (List.mem_of_getElem? (i := 174) rfl)
set_option maxRecDepth 100000 in
theorem ks_sr_8 : Cond.stringRef "ClauseBookModel" 90 "until" ∈ lw_tbl := lwt_3 _ (List.mem_of_getElem? (i := 203) rfl)
set_option maxRecDepth 100000 in
theorem kx_ls_9 : Cond.laysStatic "ClauseBook$Kind" "THEN" "LClauseBook$Kind;" ∈ lw_tbl := lwt_2 _ (List.mem_of_getElem? (i := 42) rfl)
set_option maxRecDepth 100000 in
theorem ks_sr_9 : Cond.stringRef "ClauseBookModel" 92 "then" ∈ lw_tbl := lwt_3 _ (List.mem_of_getElem? (i := 204) rfl)
set_option maxRecDepth 100000 in
theorem kx_ls_10 : Cond.laysStatic "ClauseBook$Kind" "LATE" "LClauseBook$Kind;" ∈ lw_tbl := lwt_6 _ (List.mem_of_getElem? (i := 58) rfl)
set_option maxRecDepth 100000 in
theorem ks_sr_10 : Cond.stringRef "ClauseBookModel" 94 "late" ∈ lw_tbl := lwt_3 _ (List.mem_of_getElem? (i := 205) rfl)
set_option maxRecDepth 100000 in
theorem kx_ls_11 : Cond.laysStatic "ClauseBook$Kind" "FREE" "LClauseBook$Kind;" ∈ lw_tbl := lwt_2 _ (List.mem_of_getElem? (i := 15) rfl)
set_option maxRecDepth 100000 in
theorem ks_sr_11 : Cond.stringRef "ClauseBookModel" 96 "free" ∈ lw_tbl := lwt_3 _ (List.mem_of_getElem? (i := 206) rfl)
set_option maxRecDepth 100000 in
theorem kx_ls_12 : Cond.laysStatic "ClauseBook$Kind" "WHERE" "LClauseBook$Kind;" ∈ lw_tbl := lwt_2 _ (List.mem_of_getElem? (i := 40) rfl)
set_option maxRecDepth 100000 in
theorem ks_sr_12 : Cond.stringRef "ClauseBookModel" 98 "where" ∈ lw_tbl := lwt_3 _ (List.mem_of_getElem? (i := 207) rfl)
theorem kx_ls : ∀ (i : Nat), i < 13 → Cond.laysStatic "ClauseBook$Kind" (kdN.getD i "") "LClauseBook$Kind;" ∈ lw_tbl := by
  intro i hi
  match i, hi with
  | 0, _ => exact kx_ls_0
  | 1, _ => exact kx_ls_1
  | 2, _ => exact kx_ls_2
  | 3, _ => exact kx_ls_3
  | 4, _ => exact kx_ls_4
  | 5, _ => exact kx_ls_5
  | 6, _ => exact kx_ls_6
  | 7, _ => exact kx_ls_7
  | 8, _ => exact kx_ls_8
  | 9, _ => exact kx_ls_9
  | 10, _ => exact kx_ls_10
  | 11, _ => exact kx_ls_11
  | 12, _ => exact kx_ls_12
  | i + 13, hi => omega
theorem ks_sr : ∀ (i : Nat), i < 13 → Cond.stringRef "ClauseBookModel" (ksI.getD i 0) (ksT.getD i "") ∈ lw_tbl := by
  intro i hi
  match i, hi with
  | 0, _ => exact ks_sr_0
  | 1, _ => exact ks_sr_1
  | 2, _ => exact ks_sr_2
  | 3, _ => exact ks_sr_3
  | 4, _ => exact ks_sr_4
  | 5, _ => exact ks_sr_5
  | 6, _ => exact ks_sr_6
  | 7, _ => exact ks_sr_7
  | 8, _ => exact ks_sr_8
  | 9, _ => exact ks_sr_9
  | 10, _ => exact ks_sr_10
  | 11, _ => exact ks_sr_11
  | 12, _ => exact ks_sr_12
  | i + 13, hi => omega
theorem kx_f : ∀ q ∈ kdF, ∀ (i : Nat) (_ : i < 13), Cond.eq (.field (.static "ClauseBook$Kind" (kdN.getD i "") "LClauseBook$Kind;") q.1 q.2.1 q.2.2.1) (.int (q.2.2.2.getD i 0)) ∈ lwFl := by
  intro q hq i hi
  rcases List.mem_cons.mp hq with rfl | hq
  · exact kx_m (kx_f_names ⟨i, hi⟩)
  rcases List.mem_cons.mp hq with rfl | hq
  · exact kx_m (kx_f_least ⟨i, hi⟩)
  rcases List.mem_cons.mp hq with rfl | hq
  · exact kx_m (kx_f_most ⟨i, hi⟩)
  rcases List.mem_cons.mp hq with rfl | hq
  · exact kx_m (kx_f_number ⟨i, hi⟩)
  rcases List.mem_cons.mp hq with rfl | hq
  · exact kx_m (kx_or ⟨i, hi⟩)
  exact absurd hq List.not_mem_nil
theorem va_eqw {args : Array Value} {s : State} {t u : Term} {v : Value} (h : (Cond.eq t u).before args s = true) (ht : t.eval args s none [] s = some v) : u.eval args s none [] s = some v := by
  cases hu : u.eval args s none [] s with
  | none => simp [Cond.before, Cond.holds, Cond.value, ht, hu] at h
  | some z =>
    simp [Cond.before, Cond.holds, Cond.value, ht, hu] at h
    cases v <;> cases z <;> simp_all
/-- the constants -/
theorem env_V {args : Array Value} {s : State} (hs : ∀ w ∈ lwFl, w.before args s = true) (hts : ∀ w ∈ lw_tbl, w.before args s = true) : ∃ (ad sa av : Nat → Nat) (ta : Nat), evK ad sa av ta (fun q => s.heap.size ≤ q) s s.heap := by
  have hA : ∀ a : Nat, a < s.heap.size → ¬ (fun q => s.heap.size ≤ q) a := fun a h => Nat.not_le.mpr h
  have hini : (Cond.initialized "ClauseBook$Kind").before args s = true := hts _ (lwt_0 _ (List.mem_of_getElem? (i := 14) rfl))
  obtain ⟨ad, hEn, hev⟩ := va_Enof2 (args := args) (s := s) (E := "ClauseBook$Kind") (d := "LClauseBook$Kind;") (nm := kdN) (F := kdF) (A := fun q => s.heap.size ≤ q)
    (fun i hi => hts _ (kx_ls i hi)) hini (fun i hi => hs _ (kx_m (kx_ex ⟨i, hi⟩))) (fun q hq i hi => hs _ (kx_f q hq i hi))
    (fun i j hi hj hne => (kx_ne i j hi hj hne).imp (hs _) (hs _)) hA
  obtain ⟨ta, hta, hT⟩ := va_Tof (args := args) (s := s) (tm := (.static "ClauseBook$Kind" "ALL" "[LClauseBook$Kind;")) (ty := .object "ClauseBook$Kind") (N := 13) (f := fun j => .ref (ad j)) (A := fun q => s.heap.size ≤ q) (by decide +kernel) (hs _ (kx_m kx_all.1)) (va_eqt (hs _ (kx_m kx_all.2.1)))
    (fun j hj => va_eqv (hs _ (kx_m (kx_el ⟨j, hj⟩))) (hev j hj)) hA
  have hZ : va_Z "ClauseBook$Kind" "ALL" "[LClauseBook$Kind;" (.ref ta) (fun q => s.heap.size ≤ q) s s.heap := va_Zref (hts _ (lwt_1 _ (List.mem_of_getElem? (i := 147) rfl))) hini hta hA
  have hC : va_Z "java/lang/String" "COMPACT_STRINGS" "Z" (.int 1) (fun q => s.heap.size ≤ q) s s.heap := va_Zof (hts _ (lwt_2 _ (List.mem_of_getElem? (i := 215) rfl))) (hts _ (lwt_0 _ (List.mem_of_getElem? (i := 20) rfl))) (va_eqi (hs _ (kx_m kx_all.2.2))) hA
  have h0 : ∀ i : Nat, ∃ q : Nat × Nat, i < 13 → (Term.string "ClauseBookModel" (ksI.getD i 0)).eval args s none [] s = some (.ref q.1) ∧ va_O "java/lang/String" q.1 (fun q => s.heap.size ≤ q) s s.heap ∧ va_OF "java/lang/String" "coder" "B" (.int 0) q.1 (fun q => s.heap.size ≤ q) s s.heap ∧ va_OF "java/lang/String" "value" "[B" (.ref q.2) q.1 (fun q => s.heap.size ≤ q) s s.heap ∧ va_T .byte q.2 (ksL.getD i 0) (fun j => .int ((ksB.getD i []).getD j 0)) (fun q => s.heap.size ≤ q) s s.heap := by
    intro i
    by_cases hi : i < 13
    · obtain ⟨a, c, cell, k, q1, q2, q3, q4, q5, q6, -⟩ := Cond.exactly_spec (hs _ (kx_m (ks_ex ⟨i, hi⟩)))
      obtain ⟨t, ht, hT⟩ := va_Tof (f := fun j => .int ((ksB.getD i []).getD j 0)) (A := fun q => s.heap.size ≤ q) (N := ksL.getD i 0) (Nat.lt_of_le_of_lt (ks_l7 ⟨i, hi⟩) (by decide +kernel)) (hs _ (kx_m (ks_ar ⟨i, hi⟩))) (va_eqt (hs _ (kx_m (ks_le ⟨i, hi⟩)))) (fun j hj => va_eqt (hs _ (ks_el i hi j hj))) hA
      exact ⟨(a, t), fun _ => ⟨q1, ⟨cell, q3, q5, by rw [q6]; exact q2, hA a (Array.getElem?_eq_some_iff.mp q3).1⟩, vk_OFof q1 (va_eqt (hs _ (kx_m (ks_co ⟨i, hi⟩)))) hA, vk_OFof q1 ht hA, hT⟩⟩
    · exact ⟨(0, 0), fun h => absurd h hi⟩
  obtain ⟨w, hw⟩ := Classical.axiomOfChoice h0
  obtain ⟨ts, hts2, hTs⟩ := va_Tof (args := args) (s := s) (tm := (.static "ClauseBook$1" "$SwitchMap$ClauseBook$Kind" "[I")) (ty := .int) (N := 13) (f := fun j => .int (swT j)) (A := fun q => s.heap.size ≤ q) (by decide +kernel) (hs _ (kx_m kx_sx.1)) (va_eqt (hs _ (kx_m kx_sx.2.1)))
    (fun j hj => va_eqt (hs _ (kx_m (kx_sw ⟨j, hj⟩)))) hA
  have hZs : va_Z "ClauseBook$1" "$SwitchMap$ClauseBook$Kind" "[I" (.ref ts) (fun q => s.heap.size ≤ q) s s.heap := va_Zref (hts _ (lwt_1 _ (List.mem_of_getElem? (i := 210) rfl))) (hts _ (lwt_0 _ (List.mem_of_getElem? (i := 16) rfl))) hts2 hA
  obtain ⟨vs, hvs, hvr⟩ := Cond.isRef_spec (show (Cond.isRef _).before args s = true from hs _ (kx_m kx_sx.2.2))
  have hZf : va_Z "jdk/internal/util/Preconditions" "SIOOBE_FORMATTER" "Ljava/util/function/BiFunction;" vs (fun q => s.heap.size ≤ q) s s.heap := va_Zof (hts _ (lwt_2 _ (List.mem_of_getElem? (i := 231) rfl))) (hts _ (lwt_0 _ (List.mem_of_getElem? (i := 22) rfl))) hvs hA
  have hwo : ∀ i, i < 13 → va_OF "ClauseBook$Kind" "word" "Ljava/lang/String;" (.ref (w i).1) (ad i) (fun q => s.heap.size ≤ q) s s.heap := fun i hi => vk_OFof (hev i hi) (va_eqv (hs _ (kx_m (kx_kw ⟨i, hi⟩))) (va_eqw (hs _ (kx_m (kx_eq ⟨i, hi⟩))) (hw i hi).1)) hA
  obtain ⟨tf, hvs2⟩ : ∃ tf : Nat, vs = .null ∨ vs = .ref tf := by
    cases vs with
    | null => exact ⟨0, Or.inl rfl⟩
    | ref a => exact ⟨a, Or.inr rfl⟩
    | _ => simp [Value.isRef] at hvr
  refine ⟨ad, fun i => (w i).1, fun i => if i < 13 then (w i).2 else if i = 13 then ts else tf, ta, ⟨hEn, hZ, hT⟩, ⟨fun i hi => ?_, hC⟩, fun i hi => vk_R.of (hts _ (ks_sr i hi)) (hw i hi).1, ⟨hwo, hZs, hTs, ?_⟩⟩
  · simp only [if_pos hi]
    exact (hw i hi).2
  · rcases hvs2 with rfl | rfl
    · exact Or.inl hZf
    · exact Or.inr hZf
set_option maxRecDepth 100000 in
theorem nw_m : ∀ q ∈ nwM, Cond.methodLinkNest q.1 q.2.1 q.2.2 RX12 ∈ lw_tbl := List.forall_mem_cons.mpr ⟨lwt_0 _ (List.mem_of_getElem? (i := 41) rfl), List.forall_mem_cons.mpr ⟨lwt_0 _ (List.mem_of_getElem? (i := 80) rfl), List.forall_mem_cons.mpr ⟨lwt_0 _ (List.mem_of_getElem? (i := 130) rfl), List.forall_mem_cons.mpr ⟨lwt_0 _ (List.mem_of_getElem? (i := 217) rfl), List.forall_mem_cons.mpr ⟨lwt_1 _ (List.mem_of_getElem? (i := 10) rfl), List.forall_mem_cons.mpr ⟨lwt_1 _ (List.mem_of_getElem? (i := 38) rfl), List.forall_mem_cons.mpr ⟨lwt_1 _ (List.mem_of_getElem? (i := 152) rfl), List.forall_mem_cons.mpr ⟨lwt_1 _ (List.mem_of_getElem? (i := 186) rfl), List.forall_mem_cons.mpr ⟨lwt_2 _ (List.mem_of_getElem? (i := 192) rfl), fun _ h => absurd h List.not_mem_nil⟩⟩⟩⟩⟩⟩⟩⟩⟩
set_option maxRecDepth 100000 in
theorem nw_f : ∀ q ∈ nwF, Cond.fieldLinkNest q.1 q.2 RX7 "ALL" "[LClauseBook$Kind;" RX12 ∈ lw_tbl := List.forall_mem_cons.mpr ⟨lwt_1 _ (List.mem_of_getElem? (i := 146) rfl), List.forall_mem_cons.mpr ⟨lwt_1 _ (List.mem_of_getElem? (i := 165) rfl), List.forall_mem_cons.mpr ⟨lwt_2 _ (List.mem_of_getElem? (i := 187) rfl), fun _ h => absurd h List.not_mem_nil⟩⟩⟩
set_option maxRecDepth 100000 in
theorem nw_a : ∀ q ∈ (["ClauseBook$Bag", "ClauseBook$Sheet", "ClauseBook$Hand", "java/lang/String"] : List String), Cond.arrayOver (.object q) ∈ lw_tbl := List.forall_mem_cons.mpr ⟨lwt_0 _ (List.mem_of_getElem? (i := 128) rfl), List.forall_mem_cons.mpr ⟨lwt_1 _ (List.mem_of_getElem? (i := 6) rfl), List.forall_mem_cons.mpr ⟨lwt_1 _ (List.mem_of_getElem? (i := 8) rfl), List.forall_mem_cons.mpr ⟨lwt_3 _ (List.mem_of_getElem? (i := 194) rfl), fun _ h => absurd h List.not_mem_nil⟩⟩⟩⟩
set_option maxRecDepth 100000 in
set_option maxHeartbeats 4000000 in
/-- the classes, the arrays, the nest -/
theorem env_E {args : Array Value} {s : State} (hts : ∀ w ∈ lw_tbl, w.before args s = true) : ∃ (D : va_G) (T : Nat → ClassId), ekK D T s := by
  obtain ⟨c0, i0, hKn0⟩ := u_known (C := RX1) (T := TX1) (N := 2) (n := 2) hts (fun w h => (lgg_X10 w h).1) (hts (.instantiable RX1 2) (lwt_0 _ (List.mem_of_getElem? (i := 129) rfl)))
  obtain ⟨c1, i1, hKn1⟩ := u_known (C := RX2) (T := TX2) (N := 8) (n := 8) hts (fun w h => (lgg_X20 w h).1) (hts (.instantiable RX2 8) (lwt_0 _ (List.mem_of_getElem? (i := 79) rfl)))
  obtain ⟨c2, i2, hKn2⟩ := u_known (C := RX3) (T := TX3) (N := 7) (n := 7) hts (fun w h => (lgg_X30 w h).1) (hts (.instantiable RX3 7) (lwt_0 _ (List.mem_of_getElem? (i := 185) rfl)))
  obtain ⟨c3, i3, hKn3⟩ := u_known (C := RX4) (T := TX4) (N := 4) (n := 4) hts (fun w h => (lgg_X40 w h).1) (hts (.instantiable RX4 4) (lwt_1 _ (List.mem_of_getElem? (i := 37) rfl)))
  obtain ⟨c4, i4, hKn4⟩ := u_known (C := RX6) (T := TX6) (N := 3) (n := 3) hts (fun w h => (lgg_X60 w h).1) (hts (.instantiable RX6 3) (lwt_0 _ (List.mem_of_getElem? (i := 34) rfl)))
  obtain ⟨c5, i5, hKn5⟩ := u_known (C := RX8) (T := TX8) (N := 7) (n := 7) hts (fun w h => (lgg_X80 w h).1) (hts (.instantiable RX8 7) (lwt_0 _ (List.mem_of_getElem? (i := 40) rfl)))
  obtain ⟨c6, i6, hKn6⟩ := u_known (C := RX9) (T := TX9) (N := 6) (n := 6) hts (fun w h => (lgg_X90 w h).1) (hts (.instantiable RX9 6) (lwt_1 _ (List.mem_of_getElem? (i := 9) rfl)))
  obtain ⟨c7, i7, hKn7⟩ := u_known (C := RX10) (T := TX10) (N := 7) (n := 7) hts (fun w h => (lgg_X100 w h).1) (hts (.instantiable RX10 7) (lwt_0 _ (List.mem_of_getElem? (i := 216) rfl)))
  obtain ⟨c8, i8, hKn8⟩ := u_known (C := RX11) (T := TX11) (N := 6) (n := 6) hts (fun w h => (lgg_X110 w h).1) (hts (.instantiable RX11 6) (lwt_0 _ (List.mem_of_getElem? (i := 157) rfl)))
  obtain ⟨c9, i9, hKn9⟩ := u_known (C := RX12) (T := TX12) (N := 11) (n := 11) hts (fun w h => (lgg_X120 w h).1) (hts (.instantiable RX12 11) (lwt_0 _ (List.mem_of_getElem? (i := 26) rfl)))
  obtain ⟨c10, i10, hKn10⟩ := u_known (C := RX13) (T := TX13) (N := 45) (n := 45) hts (fun w h => (lgg_X130 w h).1) (hts (.instantiable RX13 45) (lwt_3 _ (List.mem_of_getElem? (i := 188) rfl)))
  obtain ⟨dC, dI, hKc⟩ : ∃ (dC : Nat → ClassId) (dI : Nat → Nat → Nat), ∀ (k : Nat) (q : vw_C), vwCl[k]? = some q → u_Kn s q.1 q.2.1 q.2.2 (dC k) (dI k) := by
    refine ⟨fun k => [c0, c1, c2, c3, c4, c5, c6, c7, c8, c9, c10].getD k c0, fun k => [i0, i1, i2, i3, i4, i5, i6, i7, i8, i9, i10].getD k i0, ?_⟩
    intro k q hq
    match k, hq with
    | 0, hq => cases hq; exact hKn0
    | 1, hq => cases hq; exact hKn1
    | 2, hq => cases hq; exact hKn2
    | 3, hq => cases hq; exact hKn3
    | 4, hq => cases hq; exact hKn4
    | 5, hq => cases hq; exact hKn5
    | 6, hq => cases hq; exact hKn6
    | 7, hq => cases hq; exact hKn7
    | 8, hq => cases hq; exact hKn8
    | 9, hq => cases hq; exact hKn9
    | 10, hq => cases hq; exact hKn10
    | k + 11, hq => simp [vwCl] at hq
  obtain ⟨t0, k0, p0, a0, b0, d0⟩ := Cond.arrayClass_spec (hts (.arrayClass .int) (lwt_0 _ (List.mem_of_getElem? (i := 126) rfl)))
  obtain ⟨t1, k1, p1, a1, b1, d1⟩ := Cond.arrayClass_spec (hts (.arrayClass .long) (lwt_0 _ (List.mem_of_getElem? (i := 183) rfl)))
  obtain ⟨t2, k2, p2, a2, b2, d2⟩ := Cond.arrayClass_spec (hts (.arrayClass .float) (lwt_1 _ (List.mem_of_getElem? (i := 35) rfl)))
  obtain ⟨t3, k3, p3, a3, b3, d3⟩ := Cond.arrayClass_spec (hts (.arrayClass .double) (lwt_1 _ (List.mem_of_getElem? (i := 36) rfl)))
  obtain ⟨t4, k4, p4, a4, b4, d4⟩ := Cond.arrayClass_spec (hts (.arrayClass .boolean) (lwt_4 _ (List.mem_of_getElem? (i := 104) rfl)))
  obtain ⟨p5, t5, k5, a5, -, b5, d5, g5⟩ := Cond.arrayOver_spec (hts (.arrayOver (.object "ClauseBook$Bag")) (lwt_0 _ (List.mem_of_getElem? (i := 128) rfl)))
  obtain ⟨p6, t6, k6, a6, -, b6, d6, g6⟩ := Cond.arrayOver_spec (hts (.arrayOver (.object "ClauseBook$Sheet")) (lwt_1 _ (List.mem_of_getElem? (i := 6) rfl)))
  obtain ⟨p7, t7, k7, a7, -, b7, d7, g7⟩ := Cond.arrayOver_spec (hts (.arrayOver (.object "ClauseBook$Hand")) (lwt_1 _ (List.mem_of_getElem? (i := 8) rfl)))
  obtain ⟨p8, t8, k8, a8, -, b8, d8, g8⟩ := Cond.arrayOver_spec (hts (.arrayOver (.object "java/lang/String")) (lwt_3 _ (List.mem_of_getElem? (i := 194) rfl)))
  refine ⟨(dC, dI), fun k => [t0, t1, t2, t3, t4, t5, t6, t7, t8].getD k t0, ⟨hKc, ?_⟩, fun q hq => va_Nw.of rfl (hts _ (nw_m q hq)), fun q hq => va_Nw.of rfl (hts _ (nw_f q hq)), fun q hq => va_AO.of (hts _ (nw_a q hq))⟩
  intro k q hq
  match k, hq with
  | 0, hq => cases hq; exact ⟨fun n z => ⟨fun k9 h9 => (by cases h9), k0, b0, p0, d0⟩, a0⟩
  | 1, hq => cases hq; exact ⟨fun n z => ⟨fun k9 h9 => (by cases h9), k1, b1, p1, d1⟩, a1⟩
  | 2, hq => cases hq; exact ⟨fun n z => ⟨fun k9 h9 => (by cases h9), k2, b2, p2, d2⟩, a2⟩
  | 3, hq => cases hq; exact ⟨fun n z => ⟨fun k9 h9 => (by cases h9), k3, b3, p3, d3⟩, a3⟩
  | 4, hq => cases hq; exact ⟨fun n z => ⟨fun k9 h9 => (by cases h9), k4, b4, p4, d4⟩, a4⟩
  | 5, hq => cases hq; exact ⟨fun n z => ⟨fun k9 h9 => (by cases h9), k5, b5, p5, d5⟩, k5, p5, b5, d5, a5, g5⟩
  | 6, hq => cases hq; exact ⟨fun n z => ⟨fun k9 h9 => (by cases h9), k6, b6, p6, d6⟩, k6, p6, b6, d6, a6, g6⟩
  | 7, hq => cases hq; exact ⟨fun n z => ⟨fun k9 h9 => (by cases h9), k7, b7, p7, d7⟩, k7, p7, b7, d7, a7, g7⟩
  | 8, hq => cases hq; exact ⟨fun n z => ⟨fun k9 h9 => (by cases h9), k8, b8, p8, d8⟩, k8, p8, b8, d8, a8, g8⟩
  | k + 9, hq => simp [tyL] at hq
end
section
/-! both sides against each other, over a call -/
theorem rlC_ext {n m m' : Int32} {fk fn fc fd fk' fn' fc' fd' g1 g2 g3 g4 h1 h2 h3 h4 : Nat → Int32} (R : rlC n fk fn fc fd (rfA m g1 g2 g3 g4)) (hn : n.toInt ≤ 24) (hm : m' = m) (e1 : ∀ j : Nat, j < 24 → fk' j = fk j ∧ fn' j = fn j ∧ fc' j = fc j ∧ fd' j = fd j) (e2 : ∀ j : Nat, j < 24 → h1 j = g1 j ∧ h2 j = g2 j ∧ h3 j = g3 j ∧ h4 j = g4 j) : rlC n fk' fn' fc' fd' (rfA m' h1 h2 h3 h4) := by
  subst hm
  refine ⟨R.1, fun j hj => ?_⟩
  have hR := R.1
  have hj : j < m'.toNatClampNeg := hj
  have hR : n.toInt = (m'.toNatClampNeg : Int) := hR
  obtain ⟨a1, a2, a3, a4⟩ := e1 j (by omega)
  obtain ⟨b1, b2, b3, b4⟩ := e2 j (by omega)
  show fk' j = h1 j ∧ fn' j = h2 j ∧ fc' j = (if 1 ≤ (nmT (h1 j).toNatClampNeg).toInt then h3 j else -1) ∧ fd' j = (if (nmT (h1 j).toNatClampNeg).toInt = 2 then h4 j else -1)
  rw [a1, a2, a3, a4, b1, b2, b3, b4]
  exact R.2 j hj
theorem rlB_ext {bn bn' gn gn' g g' : Nat → Int32} {bf bf' : Nat → Nat → Int32} (R : rlB bn bf gn g) (O : bgOk bn) (e1 : ∀ k : Nat, k < 3 → bn' k = bn k ∧ ∀ j : Nat, j < 12 → bf' k j = bf k j) (e2 : ∀ k : Nat, k < 3 → gn' k = gn k) (e3 : ∀ j : Nat, j < 36 → g' j = g j) : rlB bn' bf' gn' g' := by
  intro k hk
  have o := O k hk
  rw [(e1 k hk).1, e2 k hk]
  refine ⟨(R k hk).1, fun i hi => ?_⟩
  rw [(e1 k hk).2 i (by omega), e3 (12 * k + i) (by omega)]
  exact (R k hk).2 i hi
theorem rlB_list {bn gn g : Nat → Int32} {bf : Nat → Nat → Int32} (R : rlB bn bf gn g) : rlB (fun k => [bn 0, bn 1, bn 2].getD k 0) bf gn g := all3 (R 0 (by decide +kernel)) (R 1 (by decide +kernel)) (R 2 (by decide +kernel))
theorem rlC_kind {n m : Int32} {fk fn fc fd g1 g2 g3 g4 : Nat → Int32} (R : rlC n fk fn fc fd (rfA m g1 g2 g3 g4)) : ∀ j : Nat, (j : Int) < n.toInt → fk j = g1 j := fun j hj => by
  have h := R.1
  have h : n.toInt = (m.toNatClampNeg : Int) := h
  exact (R.2 j (by show j < m.toNatClampNeg; omega)).1
theorem getD4 {a : Nat → Int32} {k : Nat} (h : k < 4) : [a 0, a 1, a 2, a 3].getD k 0 = a k := by
  match k, h with
  | 0, _ => rfl
  | 1, _ => rfl
  | 2, _ => rfl
  | 3, _ => rfl
  | k + 4, h => omega
theorem feed_rel {n x1 x2 : Int32} {f u w : Nat → Int32} (a : ((1 ≤ x1.toInt ∧ x1.toInt ≤ 4) ∧ n.toInt + x1.toInt ≤ 120 → u = fdF f n.toNatClampNeg x2 x1.toNatClampNeg) ∧ (¬ ((1 ≤ x1.toInt ∧ x1.toInt ≤ 4) ∧ n.toInt + x1.toInt ≤ 120) → u = f)) (b : ((1 ≤ x1.toInt ∧ x1.toInt ≤ 4) ∧ n.toInt + x1.toInt ≤ 120 → w = fdF f n.toNatClampNeg x2 x1.toNatClampNeg) ∧ (¬ ((1 ≤ x1.toInt ∧ x1.toInt ≤ 4) ∧ n.toInt + x1.toInt ≤ 120) → w = f)) : u = w := by
  by_cases c : (1 ≤ x1.toInt ∧ x1.toInt ≤ 4) ∧ n.toInt + x1.toInt ≤ 120
  · rw [a.1 c, b.1 c]
  · rw [a.2 c, b.2 c]
/-- what an image keeps, on both sides -/
def rlK (n : Int32) (fk fn fc fd : Nat → Int32) (bn : Nat → Int32) (bf : Nat → Nat → Int32) (g : Nat → Int32) : Prop := rlC n fk fn fc fd (rfA (g 7) (fun j => g (8 + j)) (fun j => g (32 + j)) (fun j => g (56 + j)) (fun j => g (80 + j))) ∧ rlB bn bf (fun k => g (140 + k)) (fun k => g (104 + k))
/-! worth on both sides -/
/-- from A to B: the clauses that there were are as they were -/
def extA (A B : clsA) : Prop := A.1 ≤ B.1 ∧ ∀ j : Nat, j < A.1 → A.2.1 j = B.2.1 j ∧ A.2.2.1 j = B.2.2.1 j ∧ A.2.2.2.1 j = B.2.2.2.1 j ∧ A.2.2.2.2 j = B.2.2.2.2 j
theorem extA_rf (A : clsA) : extA A A := ⟨Nat.le_refl _, fun _ _ => ⟨rfl, rfl, rfl, rfl⟩⟩
theorem extA_tr {A B C : clsA} (a : extA A B) (b : extA B C) : extA A C := by
  refine ⟨Nat.le_trans a.1 b.1, fun j hj => ?_⟩
  obtain ⟨a1, a2, a3, a4⟩ := a.2 j hj
  obtain ⟨b1, b2, b3, b4⟩ := b.2 j (Nat.lt_of_lt_of_le hj a.1)
  exact ⟨a1.trans b1, a2.trans b2, a3.trans b3, a4.trans b4⟩
theorem extA_p {A : clsA} {k v c d : Int32} : extA A (clsP A k v c d) := by
  refine ⟨Nat.le_succ _, fun j hj => ?_⟩
  have i : ¬ j = A.1 := by omega
  show A.2.1 j = upd A.2.1 A.1 k j ∧ A.2.2.1 j = upd A.2.2.1 A.1 v j ∧ A.2.2.2.1 j = upd A.2.2.2.1 A.1 c j ∧ A.2.2.2.2 j = upd A.2.2.2.2 A.1 d j
  simp only [upd, if_neg i]
  refine ⟨?_, ?_, ?_, ?_⟩ <;> first | rfl | trivial
theorem bldF_ext {K V : Nat → Int32} : ∀ (t nx : Nat) (A : clsA), extA A (bldF K V t nx A).2.2
  | 0, nx, A => extA_rf A
  | t + 1, nx, A => by
    obtain ⟨R1, hR1⟩ : ∃ R1 : Nat × Nat × clsA, R1 = if 1 ≤ (nmT (K nx).toNatClampNeg).toInt then bldF K V t (nx + 1) A else (nx + 1, 0, A) := ⟨_, rfl⟩
    obtain ⟨R2, hR2⟩ : ∃ R2 : Nat × Nat × clsA, R2 = if (nmT (K nx).toNatClampNeg).toInt = 2 then bldF K V t R1.1 R1.2.2 else (R1.1, 0, R1.2.2) := ⟨_, rfl⟩
    have e : bldF K V (t + 1) nx A = (R2.1, R2.2.2.1, clsP R2.2.2 (K nx) (V nx) (nI R1.2.1) (nI R2.2.1)) := by rw [hR2, hR1]; rfl
    have i1 : extA A R1.2.2 := by
      rw [hR1]
      split
      · exact bldF_ext t (nx + 1) A
      · exact extA_rf A
    have i2 : extA R1.2.2 R2.2.2 := by
      rw [hR2]
      split
      · exact bldF_ext t R1.1 R1.2.2
      · exact extA_rf _
    rw [e]
    exact extA_tr (extA_tr i1 i2) extA_p
theorem bldR_ext {K V : Nat → Int32} {nx nx' r : Nat} {A B : clsA} (h : bldR K V nx A nx' r B) : extA A B := by
  obtain ⟨t, h⟩ := h
  have g := bldF_ext (K := K) (V := V) t nx A
  rw [h t (Nat.le_refl t)] at g
  exact g
theorem sumF_extA {g : Nat → Int32} {A : clsA} : ∀ k : Nat, extA A (sumF g A k).2
  | 0 => extA_rf A
  | k + 1 => extA_tr (sumF_extA k) extA_p
/-- the class's clauses: those that there were are as they were -/
def clsX (n u : Int32) (f1 f2 f3 f4 u1 u2 u3 u4 : Nat → Int32) : Prop := n.toInt ≤ u.toInt ∧ ∀ j : Nat, (j : Int) < n.toInt → f1 j = u1 j ∧ f2 j = u2 j ∧ f3 j = u3 j ∧ f4 j = u4 j
theorem clsX_rf {n : Int32} {f1 f2 f3 f4 : Nat → Int32} : clsX n n f1 f2 f3 f4 f1 f2 f3 f4 := ⟨Int.le_refl _, fun _ _ => ⟨rfl, rfl, rfl, rfl⟩⟩
theorem clsX_of {n u : Int32} {f1 f2 f3 f4 u1 u2 u3 u4 : Nat → Int32} {A B : clsA} (R : rlC n f1 f2 f3 f4 A) (S : rlC u u1 u2 u3 u4 B) (h : extA A B) : clsX n u f1 f2 f3 f4 u1 u2 u3 u4 := by
  have r1 := R.1
  have s1 := S.1
  have h1 := h.1
  refine ⟨by omega, fun j hj => ?_⟩
  obtain ⟨a1, a2, a3, a4⟩ := R.2 j (by omega)
  obtain ⟨b1, b2, b3, b4⟩ := S.2 j (by omega)
  obtain ⟨e1, e2, e3, e4⟩ := h.2 j (by omega)
  exact ⟨by rw [a1, b1, e1], by rw [a2, b2, e2], by rw [a3, b3, e1, e3], by rw [a4, b4, e1, e4]⟩
theorem clauseX {n0 k n c d r u0 : Int32} {f1 f2 f3 f4 u1 u2 u3 u4 : Nat → Int32} (h0 : 0 ≤ n0.toInt) (C : clauseC n0 k n c d r u0 f1 f2 f3 f4 u1 u2 u3 u4) : clsX n0 u0 f1 f2 f3 f4 u1 u2 u3 u4 := by
  have t := tn h0
  rcases C with ⟨_, _, a, b1, b2, b3, b4⟩ | ⟨_, _, _, a, b1, b2, b3, b4⟩ | ⟨_, _, _, a, b1, b2, b3, b4⟩
  · subst a; subst b1; subst b2; subst b3; subst b4
    exact clsX_rf
  · subst a; subst b1; subst b2; subst b3; subst b4
    exact clsX_rf
  · refine ⟨by omega, fun j hj => ?_⟩
    have i : ¬ j = n0.toNatClampNeg := by omega
    rw [b1, b2, b3, b4]
    simp only [upd, if_neg i]
    refine ⟨?_, ?_, ?_, ?_⟩ <;> first | rfl | trivial
theorem textX {fb : Nat → Int32} {n n0 r u0 : Int32} {f1 f2 f3 f4 u1 u2 u3 u4 : Nat → Int32} {A : clsA} (R : rlC n0 f1 f2 f3 f4 A) (C : textC fb n n0 r u0 f1 f2 f3 f4 u1 u2 u3 u4) : clsX n0 u0 f1 f2 f3 f4 u1 u2 u3 u4 := by
  rcases C with ⟨_, _, _, a, b1, b2, b3, b4⟩ | ⟨K, V, m, _, h⟩
  · subst a; subst b1; subst b2; subst b3; subst b4
    exact clsX_rf
  · obtain ⟨nb, rb, B, h1, _, _, h2⟩ := h A R
    exact clsX_of R h2 (bldR_ext h1)
theorem sumX {n0 r u0 m : Int32} {g f1 f2 f3 f4 u1 u2 u3 u4 : Nat → Int32} {bad : Prop} {A : clsA} (R : rlC n0 f1 f2 f3 f4 A) (C : sumC n0 r u0 m g f1 f2 f3 f4 u1 u2 u3 u4 bad) : clsX n0 u0 f1 f2 f3 f4 u1 u2 u3 u4 := by
  rcases C with ⟨_, _, a, b1, b2, b3, b4⟩ | ⟨_, _, _, a, b1, b2, b3, b4⟩ | ⟨_, _, _, _, a, b1, b2, b3, b4⟩ | ⟨_, _, _, h⟩
  · subst a; subst b1; subst b2; subst b3; subst b4
    exact clsX_rf
  · subst a; subst b1; subst b2; subst b3; subst b4
    exact clsX_rf
  · subst a; subst b1; subst b2; subst b3; subst b4
    exact clsX_rf
  · exact clsX_of R (h A R).2 (sumF_extA _)
/-! what is found, from call to call -/
theorem memW_grow {l f1 f2 f3 f4 f5 f6 f7 u1 u2 u3 u4 u5 u6 u7 : Nat → Int32} {n u a : Int32} {g0 g1 : Nat → Int64} {g4 : Nat → Int32} (X : clsX n u f1 f2 f3 f4 u1 u2 u3 u4) (h0 : 0 ≤ n.toInt ∧ n.toInt ≤ 24) (ok : okC f1 f3 f4 f5) (p : ∀ j : Nat, (j : Int) < n.toInt → mesP f1 f2 f3 f4 f5 f6 f7 j) (q : ∀ j : Nat, (j : Int) < u.toInt → mesP u1 u2 u3 u4 u5 u6 u7 j) (h : memW (VALW l f1 f2 f3 f4 f5) n a g0 g1 g4) : memW (VALW l u1 u2 u3 u4 u5) u a g0 g1 g4 := by
  have t := tn h0.1
  have x1 := X.1
  have E := mes_uniq (fk := f1) (gk := u1) (fn := f2) (gn := u2) (fc := f3) (gc := u3) (fd := f4) (gd := u4) (fe := f5) (ge := u5) (fm := f6) (gm := u6) (fp := f7) (gp := u7) (n := n.toNatClampNeg) (ok.Nx (by omega)) (fun j hj => by
    obtain ⟨e1, e2, e3, e4⟩ := X.2 j (by omega)
    exact ⟨e1, e2, fun _ => e3, fun _ => e4⟩) (fun j hj => p j (by omega)) (fun j hj => q j (by omega)) n.toNatClampNeg
  intro x t2 k hx ht hk e
  obtain ⟨h1, h2⟩ := h x t2 k hx ht hk e
  refine ⟨by omega, h2.trans (valF_ext (n := n.toNatClampNeg) (by omega) ok (fun _ _ => rfl) (fun j hj => ?_) 31 x t2 k ⟨hx.1, by omega⟩ ht)⟩
  obtain ⟨e1, e2, e3, e4⟩ := X.2 j (by omega)
  exact ⟨e1, e2, fun _ => e3, fun _ => e4, (E j hj hj).1⟩
theorem memW_lat {l l' f1 f2 f3 f4 f5 : Nat → Int32} {n a : Int32} {g0 g1 : Nat → Int64} {g4 : Nat → Int32} (ok : okC f1 f3 f4 f5) (hl : ∀ j : Nat, j < 7 → l' j = l j) (h : memW (VALW l f1 f2 f3 f4 f5) n a g0 g1 g4) : memW (VALW l' f1 f2 f3 f4 f5) n a g0 g1 g4 := by
  intro x t k hx ht hk e
  obtain ⟨h1, h2⟩ := h x t k hx ht hk e
  exact ⟨h1, h2.trans (valF_ext (n := 24) (Nat.le_refl _) ok (fun j hj => (hl j hj).symm) (fun j _ => ⟨rfl, rfl, fun _ => rfl, fun _ => rfl, rfl⟩) 31 x t k hx ht)⟩
theorem memW_lo {V : vaF} {n a : Int32} {g0 g1 u0 u1 : Nat → Int64} {g4 : Nat → Int32} (h : memW V n a g0 g1 g4) (e : ∀ j : Nat, j < 672 → u0 j = g0 j ∧ u1 j = g1 j) : memW V n a u0 u1 g4 := by
  intro x t k hx ht hk q
  obtain ⟨h1, h2⟩ := h x t k hx ht hk q
  obtain ⟨e1, e2⟩ := e _ (slN_lt hx ht hk)
  exact ⟨h1, by rw [e1, e2]; exact h2⟩
theorem agW_mm {S : Prop} {V V' : vaF} {n n' a a' : Int32} {g0 g1 : Nat → Int64} {g4 : Nat → Int32} (A : agW S a a') (hg : ∀ j : Nat, j < 672 → (g4 j).toInt ≤ a.toInt) (ha : a.toInt ≤ 5000) (h : memW V n a g0 g1 g4) (hS : S → memW V n a g0 g1 g4 → memW V' n' a g0 g1 g4) : memW V' n' a' g0 g1 g4 ∧ (∀ j : Nat, j < 672 → (g4 j).toInt ≤ a'.toInt) ∧ a'.toInt ≤ a.toInt + 1 := by
  rcases A with ⟨s, e⟩ | e
  · subst e
    exact ⟨hS s h, hg, by omega⟩
  · have i := inc1 (i := a) (n := 6000) (by omega) (by decide +kernel)
    rw [← e] at i
    refine ⟨fun x t k hx ht hk q => ?_, fun j hj => ?_, by omega⟩
    · have h1 := hg _ (slN_lt hx ht hk)
      rw [q] at h1
      omega
    · have h1 := hg j hj
      omega
theorem stW_le {V : vaF} {n a : Int32} {P : Nat → Prop} {g0 g1 u0 u1 : Nat → Int64} {g4 u4 : Nat → Int32} (h : stW V n a P g0 g1 g4 u0 u1 u4) (hg : ∀ j : Nat, j < 672 → (g4 j).toInt ≤ a.toInt) : ∀ j : Nat, j < 672 → (u4 j).toInt ≤ a.toInt := fun j hj => by
  rcases h.2.2.1 j hj with e | e
  · rw [e]; exact hg j hj
  · rw [e]; exact Int.le_refl _
theorem memW_zero {V : vaF} {n : Int32} {g0 g1 : Nat → Int64} : memW V n 1 g0 g1 (fun _ => 0) := fun x t k hx ht hk q => absurd (show (0 : Int32) = 1 from q) (by decide +kernel)
/-! both are alike -/
theorem lat7 {l : Nat → Int32} {a b c d e f g : Int32} (h0 : l 0 = a) (h1 : l 1 = b) (h2 : l 2 = c) (h3 : l 3 = d) (h4 : l 4 = e) (h5 : l 5 = f) (h6 : l 6 = g) : ∀ j : Nat, j < 7 → l j = lqW a b c d e f g j := all7 h0 h1 h2 h3 h4 h5 h6
/-- the lattices are alike, the clauses ahead of n are -/
def bothW (n : Int32) (l f1 f2 f3 f4 f5 l' g1 g2 g3 g4 g5 : Nat → Int32) : Prop := (0 ≤ n.toInt ∧ n.toInt ≤ 24) ∧ (∀ j : Nat, j < 7 → l j = l' j) ∧ okC f1 f3 f4 f5 ∧ ∀ j : Nat, (j : Int) < n.toInt → f1 j = g1 j ∧ f2 j = g2 j ∧ (1 ≤ (nmT (f1 j).toNatClampNeg).toInt → f3 j = g3 j) ∧ ((nmT (f1 j).toNatClampNeg).toInt = 2 → f4 j = g4 j) ∧ f5 j = g5 j
theorem both_of {n m : Int32} {l l' f1 f2 f3 f4 f5 f6 f7 g1 g2 g3 g4 g5 g6 g7 : Nat → Int32} (R : rlC n f1 f2 f3 f4 (rfA m g1 g2 g3 g4)) (hm : 0 ≤ m.toInt ∧ m.toInt ≤ 24) (ok : okN g1 g3 g4 24) (hl : ∀ j : Nat, j < 7 → l j = l' j) (okc : okC f1 f3 f4 f5) (a : ∀ j : Nat, (j : Int) < n.toInt → mesP f1 f2 f3 f4 f5 f6 f7 j) (b : ∀ j : Nat, (j : Int) < n.toInt → mesP g1 g2 g3 g4 g5 g6 g7 j) : bothW n l f1 f2 f3 f4 f5 l' g1 g2 g3 g4 g5 := by
  have e := rlC_size R hm.1
  subst e
  have t := tn hm.1
  have h := mes_uniq (fk := g1) (gk := f1) (fn := g2) (gn := f2) (fc := g3) (gc := f3) (fd := g4) (gd := f4) (fe := g5) (ge := f5) (fm := g6) (gm := f6) (fp := g7) (gp := f7) (n := n.toNatClampNeg) (fun j hj => ok j (by omega)) (fun j hj => by
    obtain ⟨h1, h2, h3, h4⟩ := R.2 j hj
    have h1 : f1 j = g1 j := h1
    have h2 : f2 j = g2 j := h2
    have h3 : f3 j = (if 1 ≤ (nmT (g1 j).toNatClampNeg).toInt then g3 j else -1) := h3
    have h4 : f4 j = (if (nmT (g1 j).toNatClampNeg).toInt = 2 then g4 j else -1) := h4
    exact ⟨h1.symm, h2.symm, fun q => by rw [h3, if_pos q], fun q => by rw [h4, if_pos q]⟩) (fun j hj => b j (by omega)) (fun j hj => a j (by omega)) n.toNatClampNeg
  refine ⟨hm, hl, okc, fun j hj => ?_⟩
  obtain ⟨h1, h2, h3, h4⟩ := R.2 j (by show j < n.toNatClampNeg; omega)
  have h1 : f1 j = g1 j := h1
  have h2 : f2 j = g2 j := h2
  have h3 : f3 j = (if 1 ≤ (nmT (g1 j).toNatClampNeg).toInt then g3 j else -1) := h3
  have h4 : f4 j = (if (nmT (g1 j).toNatClampNeg).toInt = 2 then g4 j else -1) := h4
  exact ⟨h1, h2, fun q => by rw [h1] at q; rw [h3, if_pos q], fun q => by rw [h1] at q; rw [h4, if_pos q], (h j (by omega) (by omega)).1.symm⟩
section
variable {n : Int32} {l f1 f2 f3 f4 f5 l' g1 g2 g3 g4 g5 : Nat → Int32}
theorem bothW.val (h : bothW n l f1 f2 f3 f4 f5 l' g1 g2 g3 g4 g5) {x : Int32} (hx : inN n x) {t k : Int32} (g : spK t k) : VALW l f1 f2 f3 f4 f5 x t k = VALW l' g1 g2 g3 g4 g5 x t k := by
  obtain ⟨h0, h1, h2, h3⟩ := h
  have e := tn h0.1
  exact valF_ext (n := n.toNatClampNeg) (by omega) h2 h1 (fun j hj => h3 j (by omega)) 31 x t k ⟨hx.1, by have := hx.2; omega⟩ g.1
theorem bothW.at (h : bothW n l f1 f2 f3 f4 f5 l' g1 g2 g3 g4 g5) {x : Int32} (hx : inN n x) : f1 x.toNatClampNeg = g1 x.toNatClampNeg ∧ f2 x.toNatClampNeg = g2 x.toNatClampNeg ∧ (1 ≤ (nmT (f1 x.toNatClampNeg).toNatClampNeg).toInt → f3 x.toNatClampNeg = g3 x.toNatClampNeg ∧ inN n (f3 x.toNatClampNeg)) ∧ ((nmT (f1 x.toNatClampNeg).toNatClampNeg).toInt = 2 → f4 x.toNatClampNeg = g4 x.toNatClampNeg ∧ inN n (f4 x.toNatClampNeg)) ∧ f5 x.toNatClampNeg = g5 x.toNatClampNeg ∧ (f5 x.toNatClampNeg).toInt ≤ 6 := by
  obtain ⟨h0, h1, h2, h3⟩ := h
  obtain ⟨x1, x2⟩ := hx
  have t := tn x1
  obtain ⟨e1, e2, e3, e4, e5⟩ := h3 x.toNatClampNeg (by omega)
  obtain ⟨o1, o2, o3, o4⟩ := h2 x.toNatClampNeg (by omega)
  refine ⟨e1, e2, fun q => ⟨e3 q, ?_⟩, fun q => ⟨e4 q, ?_⟩, e5, o4⟩
  · have c := o2 q
    exact ⟨c.1, by omega⟩
  · have c := o3 q
    exact ⟨c.1, by omega⟩
theorem bothW.avg (h : bothW n l f1 f2 f3 f4 f5 l' g1 g2 g3 g4 g5) {x : Int32} (hx : inN n x) {t k : Int32} (g : spK t k) (h6 : t.toInt ≤ 5) : avgW l (VALW l f1 f2 f3 f4 f5) x t k = avgW l' (VALW l' g1 g2 g3 g4 g5) x t k := by
  have h1 := h.2.1
  obtain ⟨⟨a1, a2⟩, a3, a4⟩ := g
  have e := inc1 (i := t) (n := 6) (by omega) (by decide +kernel)
  have e2 := inc1 (i := k) (n := 6) (by omega) (by decide +kernel)
  exact avg_ext ⟨h1 3 (by decide +kernel), h1 4 (by decide +kernel), h1 5 (by decide +kernel), h1 6 (by decide +kernel)⟩ ⟨h.val hx ⟨⟨by omega, by omega⟩, by omega, by omega⟩, h.val hx ⟨⟨by omega, by omega⟩, by omega, by omega⟩⟩
theorem bothW.pick (h : bothW n l f1 f2 f3 f4 f5 l' g1 g2 g3 g4 g5) {x : Int32} (hx : inN n x) {t k : Int32} (g : spK t k) (hk : (f1 x.toNatClampNeg).toNatClampNeg = 6 ∨ (f1 x.toNatClampNeg).toNatClampNeg = 7) : pickW l f1 f2 f3 f4 f5 (VALW l f1 f2 f3 f4 f5) x t k = pickW l' g1 g2 g3 g4 g5 (VALW l' g1 g2 g3 g4 g5) x t k := by
  obtain ⟨e1, e2, e3, e4, e5, e6⟩ := h.at hx
  have n2 : (nmT (f1 x.toNatClampNeg).toNatClampNeg).toInt = 2 := by
    rcases hk with q | q <;> rw [q] <;> decide
  have c := e3 (by omega)
  have d := e4 n2
  have h1 := h.2.1
  refine pick_ext ⟨h1 0 (by decide +kernel), h1 1 (by decide +kernel), h1 2 (by decide +kernel)⟩ e1 e2 ⟨c.1, (h.at c.2).2.2.2.2.1, h.val c.2 g⟩ (Or.inr ⟨d.1, (h.at d.2).2.2.2.2.1, h.val d.2 g⟩)
theorem bothW.one (h : bothW n l f1 f2 f3 f4 f5 l' g1 g2 g3 g4 g5) {x : Int32} (hx : inN n x) (hk : (f1 x.toNatClampNeg).toNatClampNeg = 11) : ∀ t s : Int32, spK t s → VALW l' g1 g2 g3 g4 g5 (g3 x.toNatClampNeg) t s = VALW l f1 f2 f3 f4 f5 (f3 x.toNatClampNeg) t s := fun t s g => by
  have c := (h.at hx).2.2.1 (by rw [hk]; decide)
  rw [← c.1]
  exact (h.val c.2 g).symm
end
theorem rl_k {n m : Int32} {f1 f2 f3 f4 g1 g2 g3 g4 : Nat → Int32} (R : rlC n f1 f2 f3 f4 (rfA m g1 g2 g3 g4)) {x : Int32} (hx : inN n x) : f1 x.toNatClampNeg = g1 x.toNatClampNeg := by
  obtain ⟨x1, x2⟩ := hx
  have t := tn x1
  have r := R.1
  exact (R.2 x.toNatClampNeg (by omega)).1
/-! the answers are one -/
theorem valQ_uniqW {V V' : vaF} {n x t k i : Int32} {r r' : Int64} (hV : (atV n x t k ∧ 0 ≤ i.toInt ∧ i.toInt ≤ 1) → V x t k = V' x t k) (a : valQ V n x t k i r) (b : valQ V' n x t k i r') : r = r' := by
  rcases a with ⟨a1, a2⟩ | ⟨a1, a2⟩
  · have b := b.resolve_right (fun q => a1 q.1)
    exact Int64.toInt_inj.1 (a2.trans b.2.symm)
  · have b := b.resolve_left (fun q => q.1 a1)
    rw [hV a1] at a2
    exact partW_uniq a2 b.2
theorem meanQ_uniqW {l l' : Nat → Int32} {V V' : vaF} {n x t k i : Int32} {r r' : Int64} (hV : (atV n x t k ∧ t.toInt ≠ 6 ∧ 0 ≤ i.toInt ∧ i.toInt ≤ 1) → avgW l V x t k = avgW l' V' x t k) (a : meanQ l V n x t k i r) (b : meanQ l' V' n x t k i r') : r = r' := by
  rcases a with ⟨a1, a2⟩ | ⟨a1, a2⟩
  · have b := b.resolve_right (fun q => a1 q.1)
    exact Int64.toInt_inj.1 (a2.trans b.2.symm)
  · have b := b.resolve_left (fun q => q.1 a1)
    rw [hV a1] at a2
    exact partW_uniq a2 b.2
theorem chQ_uniqW {l fk fn fc fd fe l' fk' fn' fc' fd' fe' : Nat → Int32} {V V' : vaF} {n x t k r r' : Int32} (hk : inN n x → fk x.toNatClampNeg = fk' x.toNatClampNeg) (hp : (atV n x t k ∧ ((fk' x.toNatClampNeg).toNatClampNeg = 6 ∨ (fk' x.toNatClampNeg).toNatClampNeg = 7)) → fe x.toNatClampNeg = fe' x.toNatClampNeg ∧ pickW l fk fn fc fd fe V x t k = pickW l' fk' fn' fc' fd' fe' V' x t k) (a : chQ l fk fn fc fd fe V n x t k r) (b : chQ l' fk' fn' fc' fd' fe' V' n x t k r') : r = r' := by
  unfold chQ at a b
  by_cases h : atV n x t k
  · rw [hk h.1] at a
    rcases a with ⟨a1, a2⟩ | ⟨a1, a2⟩
    · have b := b.resolve_right (fun q => a1 q.1)
      exact Int32.toInt_inj.1 (by omega)
    · have b := (b.resolve_left (fun q => q.1 a1)).2
      obtain ⟨p1, p2⟩ := hp a1
      rw [← p1, ← p2] at b
      rcases a2 with ⟨a2, a3⟩ | ⟨a2, a3⟩
      · rcases b with ⟨_, b3⟩ | ⟨b2, _⟩
        · exact Int32.toInt_inj.1 (by omega)
        · exact absurd a2 b2
      · rcases b with ⟨b2, _⟩ | ⟨_, b3⟩
        · exact absurd b2 a2
        · rw [a3, b3]
  · have a := a.resolve_right (fun q => h q.1.1)
    have b := b.resolve_right (fun q => h q.1.1)
    exact Int32.toInt_inj.1 (by omega)
theorem tkQ_uniqW {l l' fk fk' fc fc' fe fe' : Nat → Int32} {V V' : vaF} {n x t p r r' : Int32} (hk : inN n x → fk x.toNatClampNeg = fk' x.toNatClampNeg) (hq : (hadV n x t p ∧ (fk' x.toNatClampNeg).toNatClampNeg = 11) → fe x.toNatClampNeg = fe' x.toNatClampNeg ∧ (fe x.toNatClampNeg).toInt ≤ 6 ∧ (∀ t s : Int32, spK t s → V' (fc' x.toNatClampNeg) t s = V (fc x.toNatClampNeg) t s) ∧ ∀ t k : Int32, spK t k → t.toInt ≤ 5 → avgW l' V' x t k = avgW l V x t k) (a : tkQ l fk fc fe V n x t p r) (b : tkQ l' fk' fc' fe' V' n x t p r') : r = r' := by
  unfold tkQ at a b
  by_cases h : hadV n x t p
  · rw [hk h.1] at a
    rcases a with ⟨a1, a2⟩ | ⟨a1, a2⟩
    · have b := b.resolve_right (fun q => a1 q.1)
      exact Int32.toInt_inj.1 (by omega)
    · have b := (b.resolve_left (fun q => q.1 a1)).2
      obtain ⟨p1, p2, p3, p4⟩ := hq a1
      rw [← p1] at b
      rcases a2 with ⟨a2, a3⟩ | ⟨a2, a3⟩
      · rcases b with ⟨_, b3⟩ | ⟨b2, _⟩
        · exact Int32.toInt_inj.1 (by omega)
        · exact absurd a2 b2
      · rcases b with ⟨b2, _⟩ | ⟨_, b3⟩
        · exact absurd b2 a2
        · exact takQ_uniq a3 (takQ_ext p2 h.2.1.1 h.2.2 p3 p4 b3)
  · have a := a.resolve_right (fun q => h q.1.1)
    have b := b.resolve_right (fun q => h q.1.1)
    exact Int32.toInt_inj.1 (by omega)
theorem bbQ_uniqW {V V' : vaF} {n z z' : Int32} {f f' : Nat → Int32} {ok : Prop} {t k r r' : Int32} (hz : ok → z = z' ∧ ∀ i : Int32, (0 ≤ i.toInt ∧ i.toInt < z.toInt) → f i.toNatClampNeg = f' i.toNatClampNeg) (hV : (ok ∧ spK t k) → ∀ x : Int32, inN n x → V x t k = V' x t k) (a : bbQ V n z f ok t k r) (b : bbQ V' n z' f' ok t k r') : r = r' := by
  by_cases h : ok ∧ spK t k
  · obtain ⟨e, hf⟩ := hz h.1
    subst e
    exact bbQ_uniq (fun _ => hf) (fun x hx _ => hV h x hx) a b
  · have a := a.resolve_right (fun q => h q.1)
    have b := b.resolve_right (fun q => h q.1)
    exact Int32.toInt_inj.1 (by omega)
theorem cpQ_uniqW {V V' : vaF} {n : Int32} {ok : Prop} {z z' : Int32} {p p' : Int64 × Int64} {x t k r r' : Int32} (hz : ok → z = z' ∧ (z.toInt = 2 → p = p')) (hV : ((ok ∧ atV n x t k) ∧ z'.toInt = 2) → V x t k = V' x t k) (a : cpQ V n ok z p x t k r) (b : cpQ V' n ok z' p' x t k r') : r = r' := by
  refine Int32.toInt_inj.1 ?_
  rcases a with ⟨a1, a2⟩ | ⟨a1, a2⟩
  · have b := b.resolve_right (fun q => a1 q.1)
    omega
  · have b := (b.resolve_left (fun q => q.1 a1)).2
    obtain ⟨e, hp⟩ := hz a1.1
    subst e
    rcases a2 with a2 | a2 | ⟨a2, a3⟩
    · omega
    · omega
    · have e := hp a2
      have v := hV ⟨a1, a2⟩
      subst e
      rw [← v] at b
      omega
/-! fractions in hands are in lowest terms -/
theorem red_self {a b : Int64} (hb : 1 ≤ b.toInt) (h : lowW (a, b)) : redW a b = (a, b) := by
  have h := h.resolve_left (fun e => by
    have e2 : b = 0 := congrArg Prod.snd e
    rw [e2] at hb
    exact absurd hb (by decide +kernel))
  have g : Nat.gcd a.toInt.natAbs b.toInt.natAbs = 1 := h.2
  have e : (gI a b).toInt = 1 := by
    have q := gI_toInt (x := a) hb
    omega
  have e1 : gI a b = 1 := Int64.toInt_inj.1 (by rw [e]; decide)
  show (a / gI a b, b / gI a b) = (a, b)
  rw [e1, l_div1, l_div1]
theorem hl_hold {n9 h s r : Int32} {v w : Int64} {hs ws : Nat → Int32} {ha hb wa wb : Nat → Int64} (H : ∀ k : Nat, k < 4 → (hs k).toInt = 2 → lowW (ha k, hb k)) (M : holdR n9 h s r v w hs ws ha wa) (G : holdG n9 h s v w ha hb wa wb) : ∀ k : Nat, k < 4 → (ws k).toInt = 2 → lowW (wa k, wb k) := by
  intro k hk h2
  rcases G with ⟨g1, g2, g3⟩ | ⟨g1, g2, g3⟩
  · have m := (M.resolve_right (fun q => g1 q.1)).2.2.1
    rw [m] at h2
    rw [g2, g3]
    exact H k hk h2
  · have m := (M.resolve_left (fun q => q.1 g1)).2.2.1
    rw [m] at h2
    by_cases e : k = h.toNatClampNeg
    · subst e
      simp only [upd, if_pos] at h2
      obtain ⟨q1, q2⟩ := g2 h2
      rw [q1, q2]
      exact redW_low (g1.2.2.2 h2).1
    · simp only [upd, if_neg e] at h2
      rw [(g3 k e).1, (g3 k e).2]
      exact H k hk h2
/-! dues on both sides -/
theorem bothW.pickA {n : Int32} {l f1 f2 f3 f4 f5 l' g1 g2 g3 g4 g5 : Nat → Int32} (h : bothW n l f1 f2 f3 f4 f5 l' g1 g2 g3 g4 g5) {x : Int32} (hx : inN n x) {t k : Int32} (g : spK t k) (hk : pkK (f1 x.toNatClampNeg).toNatClampNeg) : pickW l f1 f2 f3 f4 f5 (VALW l f1 f2 f3 f4 f5) x t k = pickW l' g1 g2 g3 g4 g5 (VALW l' g1 g2 g3 g4 g5) x t k := by
  obtain ⟨e1, e2, e3, e4, e5, e6⟩ := h.at hx
  unfold pkK at hk
  have hK : (f1 x.toNatClampNeg).toNatClampNeg < 13 := by omega
  have hT := nmT_tab ⟨_, hK⟩
  have hT : (nmT (f1 x.toNatClampNeg).toNatClampNeg).toInt = if (f1 x.toNatClampNeg).toNatClampNeg < 2 then 0 else if (f1 x.toNatClampNeg).toNatClampNeg = 5 ∨ (f1 x.toNatClampNeg).toNatClampNeg = 6 ∨ (f1 x.toNatClampNeg).toNatClampNeg = 7 ∨ (f1 x.toNatClampNeg).toNatClampNeg = 9 ∨ (f1 x.toNatClampNeg).toNatClampNeg = 12 then 2 else 1 := hT
  rw [if_neg (by omega)] at hT
  have c := e3 (by rw [hT]; split <;> decide)
  have h1 := h.2.1
  refine pick_ext ⟨h1 0 (by decide +kernel), h1 1 (by decide +kernel), h1 2 (by decide +kernel)⟩ e1 e2 ⟨c.1, (h.at c.2).2.2.2.2.1, h.val c.2 g⟩ ?_
  by_cases k8 : (f1 x.toNatClampNeg).toNatClampNeg = 8
  · exact Or.inl k8
  · have d := e4 (by rw [hT, if_pos (by omega)])
    exact Or.inr ⟨d.1, (h.at d.2).2.2.2.2.1, h.val d.2 g⟩
/-- what one side tells, told of the other's rows -/
theorem fal_sim {n : Int32} {l f1 f2 f3 f4 f5 l' g1 g2 g3 g4 g5 : Nat → Int32} {p : Int32} (H : bothW n l f1 f2 f3 f4 f5 l' g1 g2 g3 g4 g5) (hp : 0 ≤ p.toInt ∧ p.toInt ≤ 63) : ∀ (d : Nat) (x t : Int32) (m : Int64) (s s' : duS), inN n x → (0 ≤ t.toInt ∧ t.toInt ≤ 6) → falP l' g1 g2 g3 g4 g5 (VALW l' g1 g2 g3 g4 g5) p d x t m s s' → falP l f1 f2 f3 f4 f5 (VALW l f1 f2 f3 f4 f5) p d x t m s s'
  | 0, x, t, m, s, s', hx, ht, a => trivial
  | d + 1, x, t, m, s, s', hx, ht, a => by
    have ih := fal_sim H hp d
    obtain ⟨e1, e2, e3, e4, e5, e6⟩ := H.at hx
    refine ⟨a.1, fun h0 => ⟨fun he => (a.2 h0).1 (by rw [← e5]; exact he), fun he => ?_⟩⟩
    have a := (a.2 h0).2 (by rw [← e5]; exact he)
    unfold falB at a ⊢
    rw [← e1, ← e2, ← e5] at a
    obtain ⟨a0, a1, a2, a3, a4, a5, a10, a11, ap⟩ := a
    have hsp : spK t (spW p t) := ⟨ht, spot_in hp ht⟩
    have h1 := H.2.1
    have hpr : prW l t (spW p t) = prW l' t (spW p t) := by unfold prW; rw [h1 0 (by decide +kernel), h1 1 (by decide +kernel), h1 2 (by decide +kernel)]
    have T : ∀ (v : Int64) (y y' : Int32), y = y' ∧ inN n y → duT m v (fun v => falP l' g1 g2 g3 g4 g5 (VALW l' g1 g2 g3 g4 g5) p d y' t v s s') s' → duT m v (fun v => falP l f1 f2 f3 f4 f5 (VALW l f1 f2 f3 f4 f5) p d y t v s s') s' := fun v y y' hy A => by
      obtain ⟨e, hy⟩ := hy
      subst e
      exact ⟨fun q => ih y t (m * v) s s' hy ht (A.1 q), A.2⟩
    have N1 : 2 ≤ (f1 x.toNatClampNeg).toNatClampNeg → (f1 x.toNatClampNeg).toNatClampNeg < 13 → 1 ≤ (nmT (f1 x.toNatClampNeg).toNatClampNeg).toInt := fun q q2 => by
      have hT := nmT_tab ⟨_, q2⟩
      have hT : (nmT (f1 x.toNatClampNeg).toNatClampNeg).toInt = if (f1 x.toNatClampNeg).toNatClampNeg < 2 then 0 else if (f1 x.toNatClampNeg).toNatClampNeg = 5 ∨ (f1 x.toNatClampNeg).toNatClampNeg = 6 ∨ (f1 x.toNatClampNeg).toNatClampNeg = 7 ∨ (f1 x.toNatClampNeg).toNatClampNeg = 9 ∨ (f1 x.toNatClampNeg).toNatClampNeg = 12 then 2 else 1 := hT
      rw [if_neg (by omega)] at hT
      rw [hT]
      split <;> decide
    refine ⟨a0, a1, fun q => T _ _ _ (e3 (N1 (by omega) (by omega))) (a2 q), fun q => T _ _ _ (e3 (N1 (by omega) (by omega))) (a3 q), fun q => ?_, fun q => ?_, fun q => ?_, fun q => ?_, fun q => ?_⟩
    · rw [hpr]
      exact T _ _ _ (e3 (N1 (by omega) (by omega))) (a4 q)
    · obtain ⟨s1, x1, x2⟩ := a5 q
      have c := e3 (N1 (by omega) (by omega))
      have dd := e4 (by rw [q]; decide)
      exact ⟨s1, ih _ t m s s1 c.2 ht (by rw [c.1]; exact x1), ih _ t m s1 s' dd.2 ht (by rw [dd.1]; exact x2)⟩
    · have c := e3 (N1 (by omega) (by omega))
      exact ih _ _ m s s' c.2 ⟨by omega, e6⟩ (by rw [c.1]; exact a10 q)
    · obtain ⟨r, x1, x2⟩ := a11 q
      have c := e3 (N1 (by omega) (by omega))
      have x1 := takQ_ext (l' := l) (fc' := f3) (V := VALW l f1 f2 f3 f4 f5) e6 ht.1 hp (fun t s g => H.one hx q t s g) (fun t k g h5 => (H.avg hx g h5).symm) x1
      refine ⟨r, x1, x2.1, fun q2 => ?_⟩
      rcases x1 with ⟨z1, _⟩ | ⟨z1, z2, _⟩
      · exact absurd z1 q2
      · exact ih _ r m s s' c.2 ⟨by omega, by omega⟩ (by rw [c.1]; exact x2.2 q2)
    · have hpk := H.pickA hx hsp q
      have ap := ap q
      rw [hpk]
      refine ⟨ap.1, fun q2 => ih _ t m s s' ?_ ht (ap.2 q2)⟩
      rw [← hpk] at q2 ⊢
      have c := e3 (N1 (by unfold pkK at q; omega) (by unfold pkK at q; omega))
      rcases pick_in (l := l) (fk := f1) (fn := f2) (fc := f3) (fd := f4) (fe := f5) (V := VALW l f1 f2 f3 f4 f5) (x := x) (t := t) (k := spW p t) with e | e | ⟨e8, e⟩
      · rw [e] at q2
        exact absurd (by decide +kernel) q2
      · rw [e]
        exact c.2
      · rw [e]
        refine (e4 ?_).2
        have q13 : (f1 x.toNatClampNeg).toNatClampNeg < 13 := by unfold pkK at q; omega
        have hT := nmT_tab ⟨_, q13⟩
        have hT : (nmT (f1 x.toNatClampNeg).toNatClampNeg).toInt = if (f1 x.toNatClampNeg).toNatClampNeg < 2 then 0 else if (f1 x.toNatClampNeg).toNatClampNeg = 5 ∨ (f1 x.toNatClampNeg).toNatClampNeg = 6 ∨ (f1 x.toNatClampNeg).toNatClampNeg = 7 ∨ (f1 x.toNatClampNeg).toNatClampNeg = 9 ∨ (f1 x.toNatClampNeg).toNatClampNeg = 12 then 2 else 1 := hT
        rw [hT, if_neg (by unfold pkK at q; omega), if_pos (by unfold pkK at q; omega)]
/-- how many clauses one is made of, on both sides -/
theorem both_made {n m : Int32} {f1 f2 f3 f4 f5 f6 f7 g1 g2 g3 g4 g5 g6 g7 : Nat → Int32} (R : rlC n f1 f2 f3 f4 (rfA m g1 g2 g3 g4)) (hm : 0 ≤ m.toInt ∧ m.toInt ≤ 24) (ok : okN g1 g3 g4 24) (a : ∀ j : Nat, (j : Int) < n.toInt → mesP f1 f2 f3 f4 f5 f6 f7 j) (b : ∀ j : Nat, (j : Int) < n.toInt → mesP g1 g2 g3 g4 g5 g6 g7 j) {x : Int32} (hx : inN n x) : f6 x.toNatClampNeg = g6 x.toNatClampNeg := by
  have e := rlC_size R hm.1
  subst e
  have t := tn hm.1
  have t2 := tn hx.1
  have x2 := hx.2
  have h := mes_uniq (fk := g1) (gk := f1) (fn := g2) (gn := f2) (fc := g3) (gc := f3) (fd := g4) (gd := f4) (fe := g5) (ge := f5) (fm := g6) (gm := f6) (fp := g7) (gp := f7) (n := n.toNatClampNeg) (fun j hj => ok j (by omega)) (fun j hj => by
    obtain ⟨h1, h2, h3, h4⟩ := R.2 j hj
    have h1 : f1 j = g1 j := h1
    have h2 : f2 j = g2 j := h2
    have h3 : f3 j = (if 1 ≤ (nmT (g1 j).toNatClampNeg).toInt then g3 j else -1) := h3
    have h4 : f4 j = (if (nmT (g1 j).toNatClampNeg).toInt = 2 then g4 j else -1) := h4
    exact ⟨h1.symm, h2.symm, fun q => by rw [h3, if_pos q], fun q => by rw [h4, if_pos q]⟩) (fun j hj => b j (by omega)) (fun j hj => a j (by omega)) n.toNatClampNeg
  exact (h x.toNatClampNeg (by omega) (by omega)).2.1.symm
theorem dus_uniq {n : Int32} {l f1 f2 f3 f4 f5 f6 l' g1 g2 g3 g4 g5 g6 : Nat → Int32} {p x t : Int32} {u u' : duS} (H : bothW n l f1 f2 f3 f4 f5 l' g1 g2 g3 g4 g5) (hM : f6 x.toNatClampNeg = g6 x.toNatClampNeg) (hp : 0 ≤ p.toInt ∧ p.toInt ≤ 63) (hx : inN n x) (ht : 0 ≤ t.toInt ∧ t.toInt ≤ 6) (a : dusP l f1 f2 f3 f4 f5 f6 (VALW l f1 f2 f3 f4 f5) p x t u) (b : dusP l' g1 g2 g3 g4 g5 g6 (VALW l' g1 g2 g3 g4 g5) p x t u') : duE u u' := by
  obtain ⟨s, a1, a2, a3, a4⟩ := a
  obtain ⟨s', b1, b2, b3, b4⟩ := b
  rw [← hM] at b3
  have h24 : x.toInt < 24 := by
    have := H.1.2
    have := hx.2
    omega
  exact fal_det H.2.2.1 24 x t 1 s u s' u' ⟨hx.1, h24⟩ h24 ht ⟨a3.trans b3.symm, fun _ => ⟨a2.trans b2.symm, fun j hj => (a1 j hj).trans (b1 j hj).symm⟩⟩ a4 (fal_sim H hp 24 x t 1 s' u' hx ht b4)
theorem duQ_uniqW {l f1 f2 f3 f4 f5 f6 l' g1 g2 g3 g4 g5 g6 : Nat → Int32} {n x t p o : Int32} {r r' : Int64} (H : odV n x t p o → bothW n l f1 f2 f3 f4 f5 l' g1 g2 g3 g4 g5 ∧ f6 x.toNatClampNeg = g6 x.toNatClampNeg) (a : duQ l f1 f2 f3 f4 f5 f6 (VALW l f1 f2 f3 f4 f5) n x t p o r) (b : duQ l' g1 g2 g3 g4 g5 g6 (VALW l' g1 g2 g3 g4 g5) n x t p o r') : r = r' := by
  rcases a with ⟨a1, a2⟩ | ⟨a1, u, a2, a3⟩
  · have b := b.resolve_right (fun q => a1 q.1)
    exact Int64.toInt_inj.1 (a2.trans b.2.symm)
  · obtain ⟨_, u', b2, b3⟩ := b.resolve_left (fun q => q.1 a1)
    have E := dus_uniq (H a1).1 (H a1).2 a1.1.2.2 a1.1.1 a1.1.2.1 a2 b2
    rcases a3 with ⟨a3, a4⟩ | ⟨a3, a4⟩
    · have b := b3.resolve_right (fun q => a3 (E.1.2 q.1))
      exact Int64.toInt_inj.1 (a4.trans b.2.symm)
    · have b := b3.resolve_left (fun q => q.1 (E.1.1 a3))
      have k := tn a1.2.1
      have k2 := a1.2.2
      rw [a4, b.2, (E.2 a3).2 o.toNatClampNeg (by omega)]
theorem ddQ_uniqW {l f1 f2 f3 f4 f5 f6 l' g1 g2 g3 g4 g5 g6 : Nat → Int32} {n x t p r r' : Int32} (H : hadV n x t p → bothW n l f1 f2 f3 f4 f5 l' g1 g2 g3 g4 g5 ∧ f6 x.toNatClampNeg = g6 x.toNatClampNeg) (a : ddQ l f1 f2 f3 f4 f5 f6 (VALW l f1 f2 f3 f4 f5) n x t p r) (b : ddQ l' g1 g2 g3 g4 g5 g6 (VALW l' g1 g2 g3 g4 g5) n x t p r') : r = r' := by
  rcases a with ⟨a1, a2⟩ | ⟨a1, u, a2, a3⟩
  · have b := b.resolve_right (fun q => a1 q.1)
    exact Int32.toInt_inj.1 (a2.trans b.2.symm)
  · obtain ⟨_, u', b2, b3⟩ := b.resolve_left (fun q => q.1 a1)
    have E := dus_uniq (H a1).1 (H a1).2 a1.2.2 a1.1 a1.2.1 a2 b2
    rcases a3 with ⟨a3, a4⟩ | ⟨a3, a4⟩
    · have b := b3.resolve_right (fun q => a3 (E.1.2 q.1))
      exact Int32.toInt_inj.1 (a4.trans b.2.symm)
    · have b := b3.resolve_left (fun q => q.1 (E.1.1 a3))
      rw [a4, b.2, (E.2 a3).1]
theorem faQ_uniqW {l f1 f2 f3 f4 f5 f6 l' g1 g2 g3 g4 g5 g6 : Nat → Int32} {n x t p o k : Int32} {r r' : Int64} (H : (odV n x t p o ∧ 0 ≤ k.toInt ∧ k.toInt ≤ 9) → bothW n l f1 f2 f3 f4 f5 l' g1 g2 g3 g4 g5 ∧ f6 x.toNatClampNeg = g6 x.toNatClampNeg) (a : faQ l f1 f2 f3 f4 f5 f6 (VALW l f1 f2 f3 f4 f5) n x t p o k r) (b : faQ l' g1 g2 g3 g4 g5 g6 (VALW l' g1 g2 g3 g4 g5) n x t p o k r') : r = r' := by
  rcases a with ⟨a1, a2⟩ | ⟨a1, u, a2, a3⟩
  · have b := b.resolve_right (fun q => a1 q.1)
    exact Int64.toInt_inj.1 (a2.trans b.2.symm)
  · obtain ⟨_, u', b2, b3⟩ := b.resolve_left (fun q => q.1 a1)
    have E := dus_uniq (H a1).1 (H a1).2 a1.1.1.2.2 a1.1.1.1 a1.1.1.2.1 a2 b2
    have q := tn a1.1.2.1
    have q2 := a1.1.2.2
    exact fsR_uniq (by omega) E a3 b3
end
section
/-! THE CLAIM OUT OF ONE WALK OF THE LAW'S BODY. Your part is whole_start (and what it stands on); all else here is the same for every law, but numbers. -/
def R_law : String := "ClauseBookLaw"
def lw_P (b : Addr) (xs : List Int32) (args : Array Value) (s : State) : Prop := args = #[.ref b] ∧ s.IntsAt b xs ∧ xs.length ≤ 3584 ∧ (Jvm.Cond.and given_1 narrow_1).before args s = true
/-- what a walk over the start with the record d0 says of its end, said of the start itself -/
theorem lw_closed {s t : State} {o : Outcome} {d0 : Drawn} {L : List Loc} {k n : Nat} (hd0 : s.drawn.sameBut d0 lw_cs) (hv : ∃ v, o = .returned v) (hW : (s.setDrawn d0).WarmedH t.vm) (hs : (s.setDrawn d0).sameButNew ({ t with vm := s.vm } : State) L k n) : State.butDraws s t lw_cs (fun t1 => Framed s o t1 L k n) := by
  have h2 : t.drawn = d0 := congrArg State.drawn hs.1
  refine ⟨⟨hv, hW, State.sameButNew.setDrawn hs s.drawn⟩, ?_, by decide⟩
  rw [h2]
  exact hd0
def lw_Q (_ : Array Value) (s : State) (o : Outcome) (t : State) : Prop := o = .returned (some (.int 1)) ∧ State.butDraws s t lw_cs (fun t1 => Framed s o t1 [] 600000 7302249)
def lw_Z (below : List Frame) (a : Array Value) (s : State) : State → Prop := fun t => ∃ o, t.status = .running ∧ Ended t below o ∧ lw_Q a s o t
/-- the law's own end, with 1 on the stack, nothing written that was there before, its room as the claim has it; d0: the record of draws at this point (at the entry s.drawn: begin with 'refine W.base ?_' and 'have hd0 := Drawn.sameBut.refl s.drawn lw_cs') -/
theorem lw_ret {p : Program} {l : Launch} {e : Env} {s : State} {m : MethodId} {below : List Frame} {meth : Method} {c : Code} {b : Nat} {d0 : Drawn} (hd0 : s.drawn.sameBut d0 lw_cs) (hx : p.tables.exec = Jvm.exec) (hb : c.code = code) (hr : meth.sig.returnType = ret) (hlocks : meth.locks = false) {pc : Nat} {H : Heap} {ls : Array Slot} (hdg : decode code pc = .ok (.ireturn, 1)) : W p l e room_1 (s.setDrawn d0) m #[Value.ref b] below meth c H [] 600000 7302249 (lw_Z below #[Value.ref b] s) (F0 m pc ls [.int 1]) := by
  intro T hT X
  obtain ⟨fs, hret, hrun, hended, hW, hframe⟩ := X.leave (v := some (.int 1)) (hlocks := hlocks) (fun h => by rw [hr] at h; cases h)
  have hmeth' : T.vm.method? m = some meth := X.method'
  refine ⟨T.setFrames fs, ?_, .returned (some (.int 1)), hrun, hended, rfl, lw_closed hd0 ⟨_, rfl⟩ hW hframe⟩
  jvm_step X.here [X.here.top, hx, hb, hdg, hmeth', hr, ret, narrow_b1]
  (try refine ⟨rfl, ?_⟩); (try refine ⟨rfl, ?_⟩)
  first | (intro acts; rw [hret _ acts rfl rfl rfl]) | rw [hret _ _ rfl rfl rfl]
  exact Steps.refl _
/-- what holds at the law's entry: the machine, the code, the tables' words (any of lw_tbl by 'hts w (by decide +kernel)'), the script of L ints xs at the cell b, what the Statement gives of the start (any of its parts by flat_of_before) -/
def lw_At (p : Program) (s : State) (m : MethodId) (meth : Method) (c : Code) (b L : Nat) (xs : Nat → Int32) : Prop :=
  p.tables.exec = Jvm.exec ∧ c.code = code ∧ meth.sig.returnType = ret ∧ c.maxLocals = 4 ∧ s.vm.findClass R_law = some m.cls ∧ (∀ w ∈ lw_tbl, w.before #[Value.ref b] s = true) ∧ va_X b L xs s s.heap ∧ b < s.heap.size ∧ meth.locks = false ∧ (Jvm.Cond.and given_1 narrow_1).before #[Value.ref b] s = true
/-- what lies there at the loop's head -/
abbrev lwW (T : Nat → ClassId) (sa : Nat → Nat) (q1 q2 : Nat) (u v : Nat → Nat) (c1 : Nat → Int32) (c2 : Nat → Nat → Int32) (c3 : Nat → Nat → Int64) (c4 : Nat → Nat → UInt32) (c5 : Nat → Nat → UInt64) (q : Nat → Int32) (vl wl : Int64) (rf : Nat → Nat → Int32) (rl : Nat → Nat → Int64) (rd : Nat → UInt64) : va_W := [(q1, .inr (9, [.ref (u 0), .ref (u 1), .int (c1 0), .ref (u 2), .ref (u 3), .ref (u 11), .ref (u 34), .ref (u 38), .ref (u 40), .ref (u 44), .ref (u 65)])), ((u 0), .inr (4, [.ref (u 2), .ref (u 3), .ref (u 11)])), ((u 2), .inr (5, [.int (c2 0 0), .int (c2 0 1), .int (c2 0 2), .int (c2 0 3), .int (c2 0 4), .int (c2 0 5), .int (c2 0 6)])), ((u 3), .inr (1, [.int (c1 1), .ref (u 4), .ref (u 5), .ref (u 6), .ref (u 7), .ref (u 8), .ref (u 9), .ref (u 10)])), ((u 4), .inl (T 0, 24, .inl (c2 2))), ((u 5), .inl (T 0, 24, .inl (c2 3))), ((u 6), .inl (T 0, 24, .inl (c2 4))), ((u 7), .inl (T 0, 24, .inl (c2 5))), ((u 8), .inl (T 0, 24, .inl (c2 6))), ((u 9), .inl (T 0, 24, .inl (c2 7))), ((u 10), .inl (T 0, 24, .inl (c2 8))), ((u 11), .inl (T 5, 3, .inr (.inr (.inr (.inr (va_up (va_up (va_up (fun _ => none) 0 (some (u 12))) 1 (some (u 13))) 2 (some (u 14)))))))), ((u 12), .inr (0, [.int (c2 16 0), .ref (u 15)])), ((u 13), .inr (0, [.int (c2 16 1), .ref (u 16)])), ((u 14), .inr (0, [.int (c2 16 2), .ref (u 17)])), ((u 15), .inl (T 0, 12, .inl (c2 18))), ((u 16), .inl (T 0, 12, .inl (c2 19))), ((u 17), .inl (T 0, 12, .inl (c2 20))), ((u 1), .inr (4, [.ref (u 18), .ref (u 19), .ref (u 27)])), ((u 18), .inr (5, [.int (c2 1 0), .int (c2 1 1), .int (c2 1 2), .int (c2 1 3), .int (c2 1 4), .int (c2 1 5), .int (c2 1 6)])), ((u 19), .inr (1, [.int (c1 2), .ref (u 20), .ref (u 21), .ref (u 22), .ref (u 23), .ref (u 24), .ref (u 25), .ref (u 26)])), ((u 20), .inl (T 0, 24, .inl (c2 9))), ((u 21), .inl (T 0, 24, .inl (c2 10))), ((u 22), .inl (T 0, 24, .inl (c2 11))), ((u 23), .inl (T 0, 24, .inl (c2 12))), ((u 24), .inl (T 0, 24, .inl (c2 13))), ((u 25), .inl (T 0, 24, .inl (c2 14))), ((u 26), .inl (T 0, 24, .inl (c2 15))), ((u 27), .inl (T 5, 3, .inr (.inr (.inr (.inr (va_up (va_up (va_up (fun _ => none) 0 (some (u 28))) 1 (some (u 29))) 2 (some (u 30)))))))), ((u 28), .inr (0, [.int (c2 17 0), .ref (u 31)])), ((u 29), .inr (0, [.int (c2 17 1), .ref (u 32)])), ((u 30), .inr (0, [.int (c2 17 2), .ref (u 33)])), ((u 31), .inl (T 0, 12, .inl (c2 21))), ((u 32), .inl (T 0, 12, .inl (c2 22))), ((u 33), .inl (T 0, 12, .inl (c2 23))), ((u 34), .inr (8, [.ref (u 2), .ref (u 3), .ref (u 35), .ref (u 36), .ref (u 37), .int (c1 3)])), ((u 35), .inl (T 1, 676, .inr (.inl (c3 0)))), ((u 36), .inl (T 1, 676, .inr (.inl (c3 1)))), ((u 37), .inl (T 0, 672, .inl (c2 24))), ((u 38), .inr (2, [.ref (u 2), .ref (u 3), .ref (u 34), .ref (u 39), .int (c1 4), .int (c1 5), .int (c1 6)])), ((u 39), .inl (T 1, 7, .inr (.inl (c3 2)))), ((u 40), .inr (7, [.int (c1 7), .ref (u 41), .ref (u 42), .ref (u 43), .int (c1 8), .int (c1 9), .int (c1 10)])), ((u 41), .inl (T 0, 120, .inl (c2 25))), ((u 42), .inl (T 0, 24, .inl (c2 26))), ((u 43), .inl (T 0, 24, .inl (c2 27))), ((u 44), .inl (T 6, 4, .inr (.inr (.inr (.inr (va_up (va_up (va_up (va_up (fun _ => none) 0 (some (u 45))) 1 (some (u 46))) 2 (some (u 47))) 3 (some (u 48)))))))), ((u 45), .inr (6, [.int (c2 28 0), .int (c2 29 0), .ref (u 49), .ref (u 50), .ref (u 51), .ref (u 52)])), ((u 46), .inr (6, [.int (c2 28 1), .int (c2 29 1), .ref (u 53), .ref (u 54), .ref (u 55), .ref (u 56)])), ((u 47), .inr (6, [.int (c2 28 2), .int (c2 29 2), .ref (u 57), .ref (u 58), .ref (u 59), .ref (u 60)])), ((u 48), .inr (6, [.int (c2 28 3), .int (c2 29 3), .ref (u 61), .ref (u 62), .ref (u 63), .ref (u 64)])), ((u 49), .inl (T 0, 30, .inl (c2 30))), ((u 50), .inl (T 1, 30, .inr (.inl (c3 3)))), ((u 51), .inl (T 2, 30, .inr (.inr (.inl (c4 0))))), ((u 52), .inl (T 3, 30, .inr (.inr (.inr (.inl (c5 0)))))), ((u 53), .inl (T 0, 30, .inl (c2 31))), ((u 54), .inl (T 1, 30, .inr (.inl (c3 4)))), ((u 55), .inl (T 2, 30, .inr (.inr (.inl (c4 1))))), ((u 56), .inl (T 3, 30, .inr (.inr (.inr (.inl (c5 1)))))), ((u 57), .inl (T 0, 30, .inl (c2 32))), ((u 58), .inl (T 1, 30, .inr (.inl (c3 5)))), ((u 59), .inl (T 2, 30, .inr (.inr (.inl (c4 2))))), ((u 60), .inl (T 3, 30, .inr (.inr (.inr (.inl (c5 2)))))), ((u 61), .inl (T 0, 30, .inl (c2 33))), ((u 62), .inl (T 1, 30, .inr (.inl (c3 6)))), ((u 63), .inl (T 2, 30, .inr (.inr (.inl (c4 3))))), ((u 64), .inl (T 3, 30, .inr (.inr (.inr (.inl (c5 3)))))), ((u 65), .inl (T 7, 4, .inr (.inr (.inr (.inr (va_up (va_up (va_up (va_up (fun _ => none) 0 (some (u 66))) 1 (some (u 67))) 2 (some (u 68))) 3 (some (u 69)))))))), ((u 66), .inr (3, [.int (c2 34 0), .int (c2 35 0), .long (c3 7 0), .long (c3 8 0)])), ((u 67), .inr (3, [.int (c2 34 1), .int (c2 35 1), .long (c3 7 1), .long (c3 8 1)])), ((u 68), .inr (3, [.int (c2 34 2), .int (c2 35 2), .long (c3 7 2), .long (c3 8 2)])), ((u 69), .inr (3, [.int (c2 34 3), .int (c2 35 3), .long (c3 7 3), .long (c3 8 3)])), (q2, .inr (10, (Value.int (q 0) :: Value.int (q 1) :: Value.int (q 2) :: Value.int (q 3) :: Value.int (q 4) :: Value.int (q 5) :: Value.int (q 6) :: Value.int (q 7) :: Value.ref (v 8) :: Value.ref (v 9) :: Value.ref (v 10) :: Value.ref (v 11) :: Value.ref (v 12) :: Value.ref (v 13) :: Value.int (q 14) :: Value.long vl :: Value.long wl :: Value.ref (v 17) :: Value.ref (v 18) :: Value.ref (v 19) :: Value.ref (v 20) :: Value.ref (v 21) :: Value.ref (v 22) :: Value.ref (v 23) :: Value.int (q 24) :: Value.ref (v 25) :: Value.int (q 26) :: Value.ref (v 27) :: Value.int (q 28) :: Value.int (q 29) :: Value.int (q 30) :: Value.int (q 31) :: Value.int (q 32) :: Value.int (q 33) :: Value.ref (v 34) :: Value.ref (v 35) :: Value.ref (v 36) :: Value.ref (v 37) :: Value.ref (v 38) :: Value.ref (v 39) :: Value.ref (v 40) :: Value.int (q 41) :: Value.ref (v 42) :: Value.int (q 43) :: Value.int (q 44) :: []))), ((v 8), .inl (T 0, 24, .inl (rf 8))), ((v 9), .inl (T 0, 24, .inl (rf 9))), ((v 10), .inl (T 0, 24, .inl (rf 10))), ((v 11), .inl (T 0, 24, .inl (rf 11))), ((v 12), .inl (T 0, 36, .inl (rf 12))), ((v 13), .inl (T 0, 3, .inl (rf 13))), ((v 17), .inl (T 0, 24, .inl (rf 17))), ((v 18), .inl (T 0, 24, .inl (rf 18))), ((v 19), .inl (T 0, 24, .inl (rf 19))), ((v 20), .inl (T 1, 672, .inr (.inl (rl 20)))), ((v 21), .inl (T 1, 672, .inr (.inl (rl 21)))), ((v 22), .inl (T 4, 672, .inl (rf 22))), ((v 23), .inl (T 1, 7, .inr (.inl (rl 23)))), ((v 25), .inl (T 0, 120, .inl (rf 25))), ((v 27), .inl (T 8, 13, .inr (.inr (.inr (.inr (va_up (va_up (va_up (va_up (va_up (va_up (va_up (va_up (va_up (va_up (va_up (va_up (va_up (fun _ => none) 0 (some (sa 0))) 1 (some (sa 1))) 2 (some (sa 2))) 3 (some (sa 3))) 4 (some (sa 4))) 5 (some (sa 5))) 6 (some (sa 6))) 7 (some (sa 7))) 8 (some (sa 8))) 9 (some (sa 9))) 10 (some (sa 10))) 11 (some (sa 11))) 12 (some (sa 12)))))))), ((v 34), .inl (T 0, 4, .inl (rf 34))), ((v 35), .inl (T 0, 4, .inl (rf 35))), ((v 36), .inl (T 1, 120, .inr (.inl (rl 36)))), ((v 37), .inl (T 3, 120, .inr (.inr (.inr (.inl rd))))), ((v 38), .inl (T 0, 4, .inl (rf 38))), ((v 39), .inl (T 1, 4, .inr (.inl (rl 39)))), ((v 40), .inl (T 1, 4, .inr (.inl (rl 40)))), ((v 42), .inl (T 0, 143, .inl (rf 42)))]
/-- what is kept from call to call -/
def lwI (c1 : Nat → Int32) (c2 : Nat → Nat → Int32) (c3 : Nat → Nat → Int64) (q : Nat → Int32) (rf : Nat → Nat → Int32) (rl : Nat → Nat → Int64) : Prop := ((0 ≤ (((c1 1) : Int32)).toInt ∧ (((c1 1) : Int32)).toInt ≤ 24) ∧ (0 ≤ (((c1 2) : Int32)).toInt ∧ (((c1 2) : Int32)).toInt ≤ 24) ∧ (0 ≤ (((c2 16 0) : Int32)).toInt ∧ (((c2 16 0) : Int32)).toInt ≤ 12) ∧ (0 ≤ (((c2 16 1) : Int32)).toInt ∧ (((c2 16 1) : Int32)).toInt ≤ 12) ∧ (0 ≤ (((c2 16 2) : Int32)).toInt ∧ (((c2 16 2) : Int32)).toInt ≤ 12) ∧ (0 ≤ (((c2 17 0) : Int32)).toInt ∧ (((c2 17 0) : Int32)).toInt ≤ 12) ∧ (0 ≤ (((c2 17 1) : Int32)).toInt ∧ (((c2 17 1) : Int32)).toInt ≤ 12) ∧ (0 ≤ (((c2 17 2) : Int32)).toInt ∧ (((c2 17 2) : Int32)).toInt ≤ 12) ∧ (0 ≤ (((c1 7) : Int32)).toInt ∧ (((c1 7) : Int32)).toInt ≤ 120) ∧ ((-1 ≤ (((c2 28 0) : Int32)).toInt ∧ (((c2 28 0) : Int32)).toInt ≤ 3) ∧ (0 ≤ (((c2 29 0) : Int32)).toInt ∧ (((c2 29 0) : Int32)).toInt ≤ 30)) ∧ ((-1 ≤ (((c2 28 1) : Int32)).toInt ∧ (((c2 28 1) : Int32)).toInt ≤ 3) ∧ (0 ≤ (((c2 29 1) : Int32)).toInt ∧ (((c2 29 1) : Int32)).toInt ≤ 30)) ∧ ((-1 ≤ (((c2 28 2) : Int32)).toInt ∧ (((c2 28 2) : Int32)).toInt ≤ 3) ∧ (0 ≤ (((c2 29 2) : Int32)).toInt ∧ (((c2 29 2) : Int32)).toInt ≤ 30)) ∧ ((-1 ≤ (((c2 28 3) : Int32)).toInt ∧ (((c2 28 3) : Int32)).toInt ≤ 3) ∧ (0 ≤ (((c2 29 3) : Int32)).toInt ∧ (((c2 29 3) : Int32)).toInt ≤ 30))) ∧ (okC (c2 2) (c2 4) (c2 5) (c2 6)) ∧ (okC (c2 9) (c2 11) (c2 12) (c2 13)) ∧ ((0 ≤ (((q 7) : Int32)).toInt ∧ (((q 7) : Int32)).toInt ≤ 24) ∧ ((1 ≤ (((q 4) : Int32)).toInt ∧ (((q 4) : Int32)).toInt ≤ 9) ∧ (1 ≤ (((q 6) : Int32)).toInt ∧ (((q 6) : Int32)).toInt ≤ 9)) ∧ (0 ≤ (((q 26) : Int32)).toInt ∧ (((q 26) : Int32)).toInt ≤ 120)) ∧ (okR (rf 8) (rf 10) (rf 11)) ∧ (isB (q 14)) ∧ (∀ j : Nat, isB ((rf 22) j)) ∧ (∀ k : Nat, k < 3 → 0 ≤ ((rf 13) k).toInt ∧ ((rf 13) k).toInt ≤ 12) ∧ (∀ k : Nat, k < 4 → 0 ≤ ((rf 35) k).toInt ∧ ((rf 35) k).toInt ≤ 30) ∧ (∀ k : Nat, k < 4 → ((rf 38) k).toInt = 2 → 1 ≤ ((rl 40) k).toInt) ∧ (¬ ((q 41) : Int32).toInt = 0 → okK (rf 42)) ∧ (((c2 0 0) : Int32) = (q 0) ∧ ((c2 0 1) : Int32) = (q 1) ∧ ((c2 0 2) : Int32) = (q 2) ∧ ((c2 0 3) : Int32) = (q 3) ∧ ((c2 0 4) : Int32) = (q 4) ∧ ((c2 0 5) : Int32) = (q 5) ∧ ((c2 0 6) : Int32) = (q 6)) ∧ (((c1 0) : Int32) = (q 41)) ∧ (¬ ((q 41) : Int32).toInt = 0 → ((c2 1 0) : Int32) = (rf 42) 0 ∧ ((c2 1 1) : Int32) = (rf 42) 1 ∧ ((c2 1 2) : Int32) = (rf 42) 2 ∧ ((c2 1 3) : Int32) = (rf 42) 3 ∧ ((c2 1 4) : Int32) = (rf 42) 4 ∧ ((c2 1 5) : Int32) = (rf 42) 5 ∧ ((c2 1 6) : Int32) = (rf 42) 6) ∧ (((c1 7) : Int32) = (q 26)) ∧ (∀ k : Nat, k < 4 → ((c2 28) k).toInt = ((rf 34) k).toInt ∧ (0 ≤ ((c2 28) k).toInt → ((c2 29) k).toInt = ((rf 35) k).toInt)) ∧ (rlF (c2 34) (c3 7) (c3 8) (rl 39) (rl 40)) ∧ (rlC (c1 1) (c2 2) (c2 3) (c2 4) (c2 5) (rfA (q 7) (rf 8) (rf 9) (rf 10) (rf 11))) ∧ (rlB (c2 16) (fun k => [(c2 18), (c2 19), (c2 20)].getD k (c2 18)) (rf 13) (rf 12)) ∧ (rlH (c2 34) (c2 35) (rf 38) (rl 39)) ∧ ((c2 25) = (rf 25)) ∧ (¬ ((q 41) : Int32).toInt = 0 → rlK (c1 2) (c2 9) (c2 10) (c2 11) (c2 12) (c2 17) (fun k => [(c2 21), (c2 22), (c2 23)].getD k (c2 21)) (rf 42)) ∧ (∀ j : Nat, (j : Int) < ((c1 1) : Int32).toInt → mesP (c2 2) (c2 3) (c2 4) (c2 5) (c2 6) (c2 7) (c2 8) j) ∧ (memW (VALW (fun k => [(c2 0 0), (c2 0 1), (c2 0 2), (c2 0 3), (c2 0 4), (c2 0 5), (c2 0 6)].getD k 0) (c2 2) (c2 3) (c2 4) (c2 5) (c2 6)) ((c1 1) : Int32) ((c1 3) : Int32) (c3 0) (c3 1) (c2 24)) ∧ (∀ j : Nat, j < 672 → ((c2 24) j).toInt ≤ ((c1 3) : Int32).toInt) ∧ (∀ k : Nat, k < 4 → ((rf 38) k).toInt = 2 → lowW ((rl 39) k, (rl 40) k))
/-- what is known at the foot of the loop's body -/
def lwK (p : Program) (l : Launch) (e : Env) (s : State) (m : MethodId) (below : List Frame) (meth : Method) (c : Code) (b : Nat) (D : va_G) (T : Nat → ClassId) (sa : Nat → Nat) (A : Nat → Prop) (q1 q2 : Nat) (u v : Nat → Nat) (ii : Int32) : Prop := ∀ (c1 : Nat → Int32) (c2 : Nat → Nat → Int32) (c3 : Nat → Nat → Int64) (c4 : Nat → Nat → UInt32) (c5 : Nat → Nat → UInt64) (q : Nat → Int32) (vl wl : Int64) (rf : Nat → Nat → Int32) (rl : Nat → Nat → Int64) (rd : Nat → UInt64) (ls : Array Slot) (H : Heap) (locs : List Loc) (d0 : Drawn), s.drawn.sameBut d0 lw_cs → lwI c1 c2 c3 q rf rl → (c1 3).toInt ≤ ii.toInt + 2 → va_P D vwCl (lwW T sa q1 q2 u v c1 c2 c3 c4 c5 q vl wl rf rl rd) H → va_D A (lwW T sa q1 q2 u v c1 c2 c3 c4 c5 q vl wl rf rl rd) → va_S A s.heap H locs → lv_has ls 4 [(3, .int ii), (2, .ref q2), (1, .ref q1), (0, .ref b)] → W p l e room_1 (s.setDrawn d0) m #[Value.ref b] below meth c H locs 95 6031 (lw_Z below #[Value.ref b] s) (F0 m 1867 ls [])
end
