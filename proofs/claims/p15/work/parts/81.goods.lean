theorem gl_nil {big : List Cond} : GoodIn big [] := fun _ h => absurd h List.not_mem_nil
theorem gl_cons {big ws : List Cond} {w : Cond} (h : w ∈ big ∧ goodWord w = true) (t : GoodIn big ws) : GoodIn big (w :: ws) := fun v hv => (List.mem_cons.mp hv).elim (fun e => by subst e; exact ⟨h.1, good_of_word h.2⟩) (t v)
theorem lwt_s : ∀ w ∈ k2_sels lw_privs, w ∈ lw_tbl := fun _ h => List.mem_append_left _ h
theorem lwt_0 : ∀ w ∈ tables_1_1, w ∈ lw_tbl := fun _ h => List.mem_append_right _ (show _ ∈ tables_1 from List.mem_append_left _ h)
theorem lwt_1 : ∀ w ∈ tables_1_2, w ∈ lw_tbl := fun _ h => List.mem_append_right _ (show _ ∈ tables_1 from List.mem_append_right _ (List.mem_append_left _ h))
theorem lwt_2 : ∀ w ∈ tables_1_3, w ∈ lw_tbl := fun _ h => List.mem_append_right _ (show _ ∈ tables_1 from List.mem_append_right _ (List.mem_append_right _ (List.mem_append_left _ h)))
theorem lwt_3 : ∀ w ∈ tables_1_4, w ∈ lw_tbl := fun _ h => List.mem_append_right _ (show _ ∈ tables_1 from List.mem_append_right _ (List.mem_append_right _ (List.mem_append_right _ (List.mem_append_left _ h))))
theorem lwt_4 : ∀ w ∈ tables_1_5, w ∈ lw_tbl := fun _ h => List.mem_append_right _ (show _ ∈ tables_1 from List.mem_append_right _ (List.mem_append_right _ (List.mem_append_right _ (List.mem_append_right _ (List.mem_append_left _ h)))))
theorem lwt_5 : ∀ w ∈ tables_1_6, w ∈ lw_tbl := fun _ h => List.mem_append_right _ (show _ ∈ tables_1 from List.mem_append_right _ (List.mem_append_right _ (List.mem_append_right _ (List.mem_append_right _ (List.mem_append_right _ (List.mem_append_left _ h))))))
theorem lwt_6 : ∀ w ∈ tables_1_7, w ∈ lw_tbl := fun _ h => List.mem_append_right _ (show _ ∈ tables_1 from List.mem_append_right _ (List.mem_append_right _ (List.mem_append_right _ (List.mem_append_right _ (List.mem_append_right _ (List.mem_append_right _ (h)))))))
set_option maxRecDepth 20000 in
theorem mw_84 : (Cond.code yX12_init cX12_init 2 none) ∈ lw_tbl ∧ goodWord (Cond.code yX12_init cX12_init 2 none) = true := ⟨lwt_0 _ (List.mem_of_getElem? (i := 29) rfl), by decide +kernel⟩
set_option maxRecDepth 20000 in
theorem mw_270 : (Cond.classLink RX12 56 RX10) ∈ lw_tbl ∧ goodWord (Cond.classLink RX12 56 RX10) = true := ⟨lwt_0 _ (List.mem_of_getElem? (i := 215) rfl), by decide +kernel⟩
set_option maxRecDepth 20000 in
theorem mw_361 : (Cond.fieldLink RX12 52 "ClauseBook" "falling" "LClauseBook$Falling;") ∈ lw_tbl ∧ goodWord (Cond.fieldLink RX12 52 "ClauseBook" "falling" "LClauseBook$Falling;") = true := ⟨lwt_1 _ (List.mem_of_getElem? (i := 66) rfl), by decide +kernel⟩
set_option maxRecDepth 20000 in
theorem mw_62 : (Cond.initialized RX3) ∈ lw_tbl ∧ goodWord (Cond.initialized RX3) = true := ⟨lwt_0 _ (List.mem_of_getElem? (i := 7) rfl), by decide +kernel⟩
set_option maxRecDepth 20000 in
theorem mw_240 : (Cond.instantiable RX3 7) ∈ lw_tbl ∧ goodWord (Cond.instantiable RX3 7) = true := ⟨lwt_0 _ (List.mem_of_getElem? (i := 185) rfl), by decide +kernel⟩
set_option maxRecDepth 20000 in
theorem mw_239 : (Cond.classLink RX12 47 RX3) ∈ lw_tbl ∧ goodWord (Cond.classLink RX12 47 RX3) = true := ⟨lwt_0 _ (List.mem_of_getElem? (i := 184) rfl), by decide +kernel⟩
set_option maxRecDepth 20000 in
theorem mw_360 : (Cond.fieldLink RX12 43 "ClauseBook" "worth" "LClauseBook$Worth;") ∈ lw_tbl ∧ goodWord (Cond.fieldLink RX12 43 "ClauseBook" "worth" "LClauseBook$Worth;") = true := ⟨lwt_1 _ (List.mem_of_getElem? (i := 65) rfl), by decide +kernel⟩
set_option maxRecDepth 20000 in
theorem mw_61 : (Cond.initialized RX11) ∈ lw_tbl ∧ goodWord (Cond.initialized RX11) = true := ⟨lwt_0 _ (List.mem_of_getElem? (i := 6) rfl), by decide +kernel⟩
set_option maxRecDepth 20000 in
theorem mw_212 : (Cond.instantiable RX11 6) ∈ lw_tbl ∧ goodWord (Cond.instantiable RX11 6) = true := ⟨lwt_0 _ (List.mem_of_getElem? (i := 157) rfl), by decide +kernel⟩
set_option maxRecDepth 20000 in
theorem mw_211 : (Cond.classLink RX12 38 RX11) ∈ lw_tbl ∧ goodWord (Cond.classLink RX12 38 RX11) = true := ⟨lwt_0 _ (List.mem_of_getElem? (i := 156) rfl), by decide +kernel⟩
set_option maxRecDepth 20000 in
theorem mw_359 : (Cond.fieldLink RX12 37 "ClauseBook" "bags" "[LClauseBook$Bag;") ∈ lw_tbl ∧ goodWord (Cond.fieldLink RX12 37 "ClauseBook" "bags" "[LClauseBook$Bag;") = true := ⟨lwt_1 _ (List.mem_of_getElem? (i := 64) rfl), by decide +kernel⟩
set_option maxRecDepth 20000 in
theorem mw_203 : (Cond.fieldLink RX12 33 "ClauseBook$Kept" "bags" "[LClauseBook$Bag;") ∈ lw_tbl ∧ goodWord (Cond.fieldLink RX12 33 "ClauseBook$Kept" "bags" "[LClauseBook$Bag;") = true := ⟨lwt_0 _ (List.mem_of_getElem? (i := 148) rfl), by decide +kernel⟩
set_option maxRecDepth 20000 in
theorem mw_358 : (Cond.fieldLink RX12 32 "ClauseBook" "clauses" "LClauseBook$Clauses;") ∈ lw_tbl ∧ goodWord (Cond.fieldLink RX12 32 "ClauseBook" "clauses" "LClauseBook$Clauses;") = true := ⟨lwt_1 _ (List.mem_of_getElem? (i := 63) rfl), by decide +kernel⟩
set_option maxRecDepth 20000 in
theorem mw_201 : (Cond.fieldLink RX12 28 "ClauseBook$Kept" "clauses" "LClauseBook$Clauses;") ∈ lw_tbl ∧ goodWord (Cond.fieldLink RX12 28 "ClauseBook$Kept" "clauses" "LClauseBook$Clauses;") = true := ⟨lwt_0 _ (List.mem_of_getElem? (i := 146) rfl), by decide +kernel⟩
set_option maxRecDepth 20000 in
theorem mw_357 : (Cond.fieldLink RX12 27 "ClauseBook" "lattice" "LClauseBook$Lattice;") ∈ lw_tbl ∧ goodWord (Cond.fieldLink RX12 27 "ClauseBook" "lattice" "LClauseBook$Lattice;") = true := ⟨lwt_1 _ (List.mem_of_getElem? (i := 62) rfl), by decide +kernel⟩
set_option maxRecDepth 20000 in
theorem mw_199 : (Cond.fieldLink RX12 23 "ClauseBook$Kept" "lattice" "LClauseBook$Lattice;") ∈ lw_tbl ∧ goodWord (Cond.fieldLink RX12 23 "ClauseBook$Kept" "lattice" "LClauseBook$Lattice;") = true := ⟨lwt_0 _ (List.mem_of_getElem? (i := 144) rfl), by decide +kernel⟩
set_option maxRecDepth 20000 in
theorem mw_356 : (Cond.fieldLink RX12 19 "ClauseBook" "imaged" "Z") ∈ lw_tbl ∧ goodWord (Cond.fieldLink RX12 19 "ClauseBook" "imaged" "Z") = true := ⟨lwt_1 _ (List.mem_of_getElem? (i := 61) rfl), by decide +kernel⟩
set_option maxRecDepth 20000 in
theorem mw_355 : (Cond.fieldLink RX12 16 "ClauseBook" "kept" "LClauseBook$Kept;") ∈ lw_tbl ∧ goodWord (Cond.fieldLink RX12 16 "ClauseBook" "kept" "LClauseBook$Kept;") = true := ⟨lwt_1 _ (List.mem_of_getElem? (i := 60) rfl), by decide +kernel⟩
set_option maxRecDepth 20000 in
theorem mw_354 : (Cond.fieldLink RX12 10 "ClauseBook" "now" "LClauseBook$Kept;") ∈ lw_tbl ∧ goodWord (Cond.fieldLink RX12 10 "ClauseBook" "now" "LClauseBook$Kept;") = true := ⟨lwt_1 _ (List.mem_of_getElem? (i := 59) rfl), by decide +kernel⟩
set_option maxRecDepth 20000 in
theorem mw_57 : (Cond.initialized RX6) ∈ lw_tbl ∧ goodWord (Cond.initialized RX6) = true := ⟨lwt_0 _ (List.mem_of_getElem? (i := 2) rfl), by decide +kernel⟩
set_option maxRecDepth 20000 in
theorem mw_89 : (Cond.instantiable RX6 3) ∈ lw_tbl ∧ goodWord (Cond.instantiable RX6 3) = true := ⟨lwt_0 _ (List.mem_of_getElem? (i := 34) rfl), by decide +kernel⟩
set_option maxRecDepth 20000 in
theorem mw_88 : (Cond.classLink RX12 7 RX6) ∈ lw_tbl ∧ goodWord (Cond.classLink RX12 7 RX6) = true := ⟨lwt_0 _ (List.mem_of_getElem? (i := 33) rfl), by decide +kernel⟩
set_option maxRecDepth 20000 in
theorem mw_87 : (Cond.code objectInit ⟨#[0xb1]⟩ 1 none) ∈ lw_tbl ∧ goodWord (Cond.code objectInit ⟨#[0xb1]⟩ 1 none) = true := ⟨lwt_0 _ (List.mem_of_getElem? (i := 32) rfl), by decide +kernel⟩
set_option maxRecDepth 20000 in
theorem mw_86 : (Cond.instanceMethod objectInit) ∈ lw_tbl ∧ goodWord (Cond.instanceMethod objectInit) = true := ⟨lwt_0 _ (List.mem_of_getElem? (i := 31) rfl), by decide +kernel⟩
set_option maxRecDepth 20000 in
theorem mw_85 : (Cond.methodLink RX12 1 objectInit) ∈ lw_tbl ∧ goodWord (Cond.methodLink RX12 1 objectInit) = true := ⟨lwt_0 _ (List.mem_of_getElem? (i := 30) rfl), by decide +kernel⟩
set_option maxRecDepth 20000 in
theorem mw_182 : (Cond.classLink RX6 25 RX1) ∈ lw_tbl ∧ goodWord (Cond.classLink RX6 25 RX1) = true := ⟨lwt_0 _ (List.mem_of_getElem? (i := 127) rfl), by decide +kernel⟩
set_option maxRecDepth 20000 in
theorem mw_200 : (Cond.fieldLink RX6 21 "ClauseBook$Kept" "clauses" "LClauseBook$Clauses;") ∈ lw_tbl ∧ goodWord (Cond.fieldLink RX6 21 "ClauseBook$Kept" "clauses" "LClauseBook$Clauses;") = true := ⟨lwt_0 _ (List.mem_of_getElem? (i := 145) rfl), by decide +kernel⟩
set_option maxRecDepth 20000 in
theorem mw_59 : (Cond.initialized RX2) ∈ lw_tbl ∧ goodWord (Cond.initialized RX2) = true := ⟨lwt_0 _ (List.mem_of_getElem? (i := 4) rfl), by decide +kernel⟩
set_option maxRecDepth 20000 in
theorem mw_134 : (Cond.instantiable RX2 8) ∈ lw_tbl ∧ goodWord (Cond.instantiable RX2 8) = true := ⟨lwt_0 _ (List.mem_of_getElem? (i := 79) rfl), by decide +kernel⟩
set_option maxRecDepth 20000 in
theorem mw_133 : (Cond.classLink RX6 18 RX2) ∈ lw_tbl ∧ goodWord (Cond.classLink RX6 18 RX2) = true := ⟨lwt_0 _ (List.mem_of_getElem? (i := 78) rfl), by decide +kernel⟩
set_option maxRecDepth 20000 in
theorem mw_198 : (Cond.fieldLink RX6 12 "ClauseBook$Kept" "lattice" "LClauseBook$Lattice;") ∈ lw_tbl ∧ goodWord (Cond.fieldLink RX6 12 "ClauseBook$Kept" "lattice" "LClauseBook$Lattice;") = true := ⟨lwt_0 _ (List.mem_of_getElem? (i := 143) rfl), by decide +kernel⟩
set_option maxRecDepth 20000 in
theorem mw_58 : (Cond.initialized RX8) ∈ lw_tbl ∧ goodWord (Cond.initialized RX8) = true := ⟨lwt_0 _ (List.mem_of_getElem? (i := 3) rfl), by decide +kernel⟩
set_option maxRecDepth 20000 in
theorem mw_95 : (Cond.instantiable RX8 7) ∈ lw_tbl ∧ goodWord (Cond.instantiable RX8 7) = true := ⟨lwt_0 _ (List.mem_of_getElem? (i := 40) rfl), by decide +kernel⟩
set_option maxRecDepth 20000 in
theorem mw_94 : (Cond.classLink RX6 9 RX8) ∈ lw_tbl ∧ goodWord (Cond.classLink RX6 9 RX8) = true := ⟨lwt_0 _ (List.mem_of_getElem? (i := 39) rfl), by decide +kernel⟩
set_option maxRecDepth 20000 in
theorem mw_93 : (Cond.methodLink RX6 3 objectInit) ∈ lw_tbl ∧ goodWord (Cond.methodLink RX6 3 objectInit) = true := ⟨lwt_0 _ (List.mem_of_getElem? (i := 38) rfl), by decide +kernel⟩
set_option maxRecDepth 20000 in
theorem mw_92 : (Cond.code yX6_init cX6_init 2 none) ∈ lw_tbl ∧ goodWord (Cond.code yX6_init cX6_init 2 none) = true := ⟨lwt_0 _ (List.mem_of_getElem? (i := 37) rfl), by decide +kernel⟩
set_option maxRecDepth 20000 in
theorem mw_91 : (Cond.instanceMethod yX6_init) ∈ lw_tbl ∧ goodWord (Cond.instanceMethod yX6_init) = true := ⟨lwt_0 _ (List.mem_of_getElem? (i := 36) rfl), by decide +kernel⟩
set_option maxRecDepth 20000 in
theorem mw_90 : (Cond.methodLink RX12 9 yX6_init) ∈ lw_tbl ∧ goodWord (Cond.methodLink RX12 9 yX6_init) = true := ⟨lwt_0 _ (List.mem_of_getElem? (i := 35) rfl), by decide +kernel⟩
set_option maxRecDepth 20000 in
theorem mw_65 : (Cond.initialized RX4) ∈ lw_tbl ∧ goodWord (Cond.initialized RX4) = true := ⟨lwt_0 _ (List.mem_of_getElem? (i := 10) rfl), by decide +kernel⟩
set_option maxRecDepth 20000 in
theorem mw_332 : (Cond.instantiable RX4 4) ∈ lw_tbl ∧ goodWord (Cond.instantiable RX4 4) = true := ⟨lwt_1 _ (List.mem_of_getElem? (i := 37) rfl), by decide +kernel⟩
set_option maxRecDepth 20000 in
theorem mw_64 : (Cond.initialized RX9) ∈ lw_tbl ∧ goodWord (Cond.initialized RX9) = true := ⟨lwt_0 _ (List.mem_of_getElem? (i := 9) rfl), by decide +kernel⟩
set_option maxRecDepth 20000 in
theorem mw_304 : (Cond.instantiable RX9 6) ∈ lw_tbl ∧ goodWord (Cond.instantiable RX9 6) = true := ⟨lwt_1 _ (List.mem_of_getElem? (i := 9) rfl), by decide +kernel⟩
set_option maxRecDepth 20000 in
theorem mw_364 : (Cond.fieldLink RX12 71 "ClauseBook" "hands" "[LClauseBook$Hand;") ∈ lw_tbl ∧ goodWord (Cond.fieldLink RX12 71 "ClauseBook" "hands" "[LClauseBook$Hand;") = true := ⟨lwt_1 _ (List.mem_of_getElem? (i := 69) rfl), by decide +kernel⟩
set_option maxRecDepth 20000 in
theorem mw_302 : (Cond.classLink RX12 69 RX4) ∈ lw_tbl ∧ goodWord (Cond.classLink RX12 69 RX4) = true := ⟨lwt_1 _ (List.mem_of_getElem? (i := 7) rfl), by decide +kernel⟩
set_option maxRecDepth 20000 in
theorem mw_363 : (Cond.fieldLink RX12 65 "ClauseBook" "sheets" "[LClauseBook$Sheet;") ∈ lw_tbl ∧ goodWord (Cond.fieldLink RX12 65 "ClauseBook" "sheets" "[LClauseBook$Sheet;") = true := ⟨lwt_1 _ (List.mem_of_getElem? (i := 68) rfl), by decide +kernel⟩
set_option maxRecDepth 20000 in
theorem mw_300 : (Cond.classLink RX12 63 RX9) ∈ lw_tbl ∧ goodWord (Cond.classLink RX12 63 RX9) = true := ⟨lwt_1 _ (List.mem_of_getElem? (i := 5) rfl), by decide +kernel⟩
set_option maxRecDepth 20000 in
theorem mw_362 : (Cond.fieldLink RX12 59 "ClauseBook" "tape" "LClauseBook$Tape;") ∈ lw_tbl ∧ goodWord (Cond.fieldLink RX12 59 "ClauseBook" "tape" "LClauseBook$Tape;") = true := ⟨lwt_1 _ (List.mem_of_getElem? (i := 67) rfl), by decide +kernel⟩
set_option maxRecDepth 20000 in
theorem mw_63 : (Cond.initialized RX10) ∈ lw_tbl ∧ goodWord (Cond.initialized RX10) = true := ⟨lwt_0 _ (List.mem_of_getElem? (i := 8) rfl), by decide +kernel⟩
set_option maxRecDepth 20000 in
theorem mw_271 : (Cond.instantiable RX10 7) ∈ lw_tbl ∧ goodWord (Cond.instantiable RX10 7) = true := ⟨lwt_0 _ (List.mem_of_getElem? (i := 216) rfl), by decide +kernel⟩
set_option maxRecDepth 20000 in
theorem mw_159 : (Cond.fieldLink RX2 31 "ClauseBook$Clauses" "made" "[I") ∈ lw_tbl ∧ goodWord (Cond.fieldLink RX2 31 "ClauseBook$Clauses" "made" "[I") = true := ⟨lwt_0 _ (List.mem_of_getElem? (i := 104) rfl), by decide +kernel⟩
set_option maxRecDepth 20000 in
theorem mw_155 : (Cond.fieldLink RX2 28 "ClauseBook$Clauses" "end" "[I") ∈ lw_tbl ∧ goodWord (Cond.fieldLink RX2 28 "ClauseBook$Clauses" "end" "[I") = true := ⟨lwt_0 _ (List.mem_of_getElem? (i := 100) rfl), by decide +kernel⟩
set_option maxRecDepth 20000 in
theorem mw_151 : (Cond.fieldLink RX2 25 "ClauseBook$Clauses" "d" "[I") ∈ lw_tbl ∧ goodWord (Cond.fieldLink RX2 25 "ClauseBook$Clauses" "d" "[I") = true := ⟨lwt_0 _ (List.mem_of_getElem? (i := 96) rfl), by decide +kernel⟩
set_option maxRecDepth 20000 in
theorem mw_147 : (Cond.fieldLink RX2 22 "ClauseBook$Clauses" "c" "[I") ∈ lw_tbl ∧ goodWord (Cond.fieldLink RX2 22 "ClauseBook$Clauses" "c" "[I") = true := ⟨lwt_0 _ (List.mem_of_getElem? (i := 92) rfl), by decide +kernel⟩
set_option maxRecDepth 20000 in
theorem mw_143 : (Cond.fieldLink RX2 19 "ClauseBook$Clauses" "n" "[I") ∈ lw_tbl ∧ goodWord (Cond.fieldLink RX2 19 "ClauseBook$Clauses" "n" "[I") = true := ⟨lwt_0 _ (List.mem_of_getElem? (i := 88) rfl), by decide +kernel⟩
set_option maxRecDepth 20000 in
theorem mw_141 : (Cond.fieldLink RX2 15 "ClauseBook$Clauses" "kind" "[I") ∈ lw_tbl ∧ goodWord (Cond.fieldLink RX2 15 "ClauseBook$Clauses" "kind" "[I") = true := ⟨lwt_0 _ (List.mem_of_getElem? (i := 86) rfl), by decide +kernel⟩
set_option maxRecDepth 20000 in
theorem mw_181 : (Cond.arrayClass .int) ∈ lw_tbl ∧ goodWord (Cond.arrayClass .int) = true := ⟨lwt_0 _ (List.mem_of_getElem? (i := 126) rfl), by decide +kernel⟩
set_option maxRecDepth 20000 in
theorem mw_139 : (Cond.fieldLink RX2 9 "ClauseBook$Clauses" "size" "I") ∈ lw_tbl ∧ goodWord (Cond.fieldLink RX2 9 "ClauseBook$Clauses" "size" "I") = true := ⟨lwt_0 _ (List.mem_of_getElem? (i := 84) rfl), by decide +kernel⟩
set_option maxRecDepth 20000 in
theorem mw_138 : (Cond.methodLink RX2 3 objectInit) ∈ lw_tbl ∧ goodWord (Cond.methodLink RX2 3 objectInit) = true := ⟨lwt_0 _ (List.mem_of_getElem? (i := 83) rfl), by decide +kernel⟩
set_option maxRecDepth 20000 in
theorem mw_137 : (Cond.code yX2_init cX2_init 1 none) ∈ lw_tbl ∧ goodWord (Cond.code yX2_init cX2_init 1 none) = true := ⟨lwt_0 _ (List.mem_of_getElem? (i := 82) rfl), by decide +kernel⟩
set_option maxRecDepth 20000 in
theorem mw_136 : (Cond.instanceMethod yX2_init) ∈ lw_tbl ∧ goodWord (Cond.instanceMethod yX2_init) = true := ⟨lwt_0 _ (List.mem_of_getElem? (i := 81) rfl), by decide +kernel⟩
set_option maxRecDepth 20000 in
theorem mw_115 : (Cond.fieldLink RX8 28 "ClauseBook$Lattice" "b" "I") ∈ lw_tbl ∧ goodWord (Cond.fieldLink RX8 28 "ClauseBook$Lattice" "b" "I") = true := ⟨lwt_0 _ (List.mem_of_getElem? (i := 60) rfl), by decide +kernel⟩
set_option maxRecDepth 20000 in
theorem mw_112 : (Cond.fieldLink RX8 25 "ClauseBook$Lattice" "a" "I") ∈ lw_tbl ∧ goodWord (Cond.fieldLink RX8 25 "ClauseBook$Lattice" "a" "I") = true := ⟨lwt_0 _ (List.mem_of_getElem? (i := 57) rfl), by decide +kernel⟩
set_option maxRecDepth 20000 in
theorem mw_109 : (Cond.fieldLink RX8 22 "ClauseBook$Lattice" "q" "I") ∈ lw_tbl ∧ goodWord (Cond.fieldLink RX8 22 "ClauseBook$Lattice" "q" "I") = true := ⟨lwt_0 _ (List.mem_of_getElem? (i := 54) rfl), by decide +kernel⟩
set_option maxRecDepth 20000 in
theorem mw_106 : (Cond.fieldLink RX8 19 "ClauseBook$Lattice" "p" "I") ∈ lw_tbl ∧ goodWord (Cond.fieldLink RX8 19 "ClauseBook$Lattice" "p" "I") = true := ⟨lwt_0 _ (List.mem_of_getElem? (i := 51) rfl), by decide +kernel⟩
set_option maxRecDepth 20000 in
theorem mw_104 : (Cond.fieldLink RX8 16 "ClauseBook$Lattice" "down" "I") ∈ lw_tbl ∧ goodWord (Cond.fieldLink RX8 16 "ClauseBook$Lattice" "down" "I") = true := ⟨lwt_0 _ (List.mem_of_getElem? (i := 49) rfl), by decide +kernel⟩
set_option maxRecDepth 20000 in
theorem mw_102 : (Cond.fieldLink RX8 13 "ClauseBook$Lattice" "up" "I") ∈ lw_tbl ∧ goodWord (Cond.fieldLink RX8 13 "ClauseBook$Lattice" "up" "I") = true := ⟨lwt_0 _ (List.mem_of_getElem? (i := 47) rfl), by decide +kernel⟩
set_option maxRecDepth 20000 in
theorem mw_100 : (Cond.fieldLink RX8 7 "ClauseBook$Lattice" "start" "I") ∈ lw_tbl ∧ goodWord (Cond.fieldLink RX8 7 "ClauseBook$Lattice" "start" "I") = true := ⟨lwt_0 _ (List.mem_of_getElem? (i := 45) rfl), by decide +kernel⟩
set_option maxRecDepth 20000 in
theorem mw_99 : (Cond.methodLink RX8 1 objectInit) ∈ lw_tbl ∧ goodWord (Cond.methodLink RX8 1 objectInit) = true := ⟨lwt_0 _ (List.mem_of_getElem? (i := 44) rfl), by decide +kernel⟩
set_option maxRecDepth 20000 in
theorem mw_98 : (Cond.code yX8_init cX8_init 1 none) ∈ lw_tbl ∧ goodWord (Cond.code yX8_init cX8_init 1 none) = true := ⟨lwt_0 _ (List.mem_of_getElem? (i := 43) rfl), by decide +kernel⟩
set_option maxRecDepth 20000 in
theorem mw_97 : (Cond.instanceMethod yX8_init) ∈ lw_tbl ∧ goodWord (Cond.instanceMethod yX8_init) = true := ⟨lwt_0 _ (List.mem_of_getElem? (i := 42) rfl), by decide +kernel⟩
set_option maxRecDepth 20000 in
theorem mw_60 : (Cond.initialized RX1) ∈ lw_tbl ∧ goodWord (Cond.initialized RX1) = true := ⟨lwt_0 _ (List.mem_of_getElem? (i := 5) rfl), by decide +kernel⟩
set_option maxRecDepth 20000 in
theorem mw_184 : (Cond.instantiable RX1 2) ∈ lw_tbl ∧ goodWord (Cond.instantiable RX1 2) = true := ⟨lwt_0 _ (List.mem_of_getElem? (i := 129) rfl), by decide +kernel⟩
set_option maxRecDepth 20000 in
theorem mw_202 : (Cond.fieldLink RX6 27 "ClauseBook$Kept" "bags" "[LClauseBook$Bag;") ∈ lw_tbl ∧ goodWord (Cond.fieldLink RX6 27 "ClauseBook$Kept" "bags" "[LClauseBook$Bag;") = true := ⟨lwt_0 _ (List.mem_of_getElem? (i := 147) rfl), by decide +kernel⟩
set_option maxRecDepth 20000 in
theorem mw_252 : (Cond.fieldLink RX3 19 "ClauseBook$Falling" "much" "Z") ∈ lw_tbl ∧ goodWord (Cond.fieldLink RX3 19 "ClauseBook$Falling" "much" "Z") = true := ⟨lwt_0 _ (List.mem_of_getElem? (i := 197) rfl), by decide +kernel⟩
set_option maxRecDepth 20000 in
theorem mw_250 : (Cond.fieldLink RX3 15 "ClauseBook$Falling" "days" "I") ∈ lw_tbl ∧ goodWord (Cond.fieldLink RX3 15 "ClauseBook$Falling" "days" "I") = true := ⟨lwt_0 _ (List.mem_of_getElem? (i := 195) rfl), by decide +kernel⟩
set_option maxRecDepth 20000 in
theorem mw_248 : (Cond.fieldLink RX3 9 "ClauseBook$Falling" "on" "[J") ∈ lw_tbl ∧ goodWord (Cond.fieldLink RX3 9 "ClauseBook$Falling" "on" "[J") = true := ⟨lwt_0 _ (List.mem_of_getElem? (i := 193) rfl), by decide +kernel⟩
set_option maxRecDepth 20000 in
theorem mw_244 : (Cond.methodLink RX3 3 objectInit) ∈ lw_tbl ∧ goodWord (Cond.methodLink RX3 3 objectInit) = true := ⟨lwt_0 _ (List.mem_of_getElem? (i := 189) rfl), by decide +kernel⟩
set_option maxRecDepth 20000 in
theorem mw_243 : (Cond.code yX3_init cX3_init 4 none) ∈ lw_tbl ∧ goodWord (Cond.code yX3_init cX3_init 4 none) = true := ⟨lwt_0 _ (List.mem_of_getElem? (i := 188) rfl), by decide +kernel⟩
set_option maxRecDepth 20000 in
theorem mw_242 : (Cond.instanceMethod yX3_init) ∈ lw_tbl ∧ goodWord (Cond.instanceMethod yX3_init) = true := ⟨lwt_0 _ (List.mem_of_getElem? (i := 187) rfl), by decide +kernel⟩
set_option maxRecDepth 20000 in
theorem mw_241 : (Cond.methodLink RX12 49 yX3_init) ∈ lw_tbl ∧ goodWord (Cond.methodLink RX12 49 yX3_init) = true := ⟨lwt_0 _ (List.mem_of_getElem? (i := 186) rfl), by decide +kernel⟩
set_option maxRecDepth 20000 in
theorem mw_218 : (Cond.fieldLink RX11 30 "ClauseBook$Worth" "clauses" "LClauseBook$Clauses;") ∈ lw_tbl ∧ goodWord (Cond.fieldLink RX11 30 "ClauseBook$Worth" "clauses" "LClauseBook$Clauses;") = true := ⟨lwt_0 _ (List.mem_of_getElem? (i := 163) rfl), by decide +kernel⟩
set_option maxRecDepth 20000 in
theorem mw_217 : (Cond.fieldLink RX11 26 "ClauseBook$Worth" "lattice" "LClauseBook$Lattice;") ∈ lw_tbl ∧ goodWord (Cond.fieldLink RX11 26 "ClauseBook$Worth" "lattice" "LClauseBook$Lattice;") = true := ⟨lwt_0 _ (List.mem_of_getElem? (i := 162) rfl), by decide +kernel⟩
set_option maxRecDepth 20000 in
theorem mw_224 : (Cond.fieldLink RX11 22 "ClauseBook$Worth" "age" "I") ∈ lw_tbl ∧ goodWord (Cond.fieldLink RX11 22 "ClauseBook$Worth" "age" "I") = true := ⟨lwt_0 _ (List.mem_of_getElem? (i := 169) rfl), by decide +kernel⟩
set_option maxRecDepth 20000 in
theorem mw_223 : (Cond.fieldLink RX11 18 "ClauseBook$Worth" "foundAt" "[I") ∈ lw_tbl ∧ goodWord (Cond.fieldLink RX11 18 "ClauseBook$Worth" "foundAt" "[I") = true := ⟨lwt_0 _ (List.mem_of_getElem? (i := 168) rfl), by decide +kernel⟩
set_option maxRecDepth 20000 in
theorem mw_221 : (Cond.fieldLink RX11 15 "ClauseBook$Worth" "below" "[J") ∈ lw_tbl ∧ goodWord (Cond.fieldLink RX11 15 "ClauseBook$Worth" "below" "[J") = true := ⟨lwt_0 _ (List.mem_of_getElem? (i := 166) rfl), by decide +kernel⟩
set_option maxRecDepth 20000 in
theorem mw_219 : (Cond.fieldLink RX11 11 "ClauseBook$Worth" "above" "[J") ∈ lw_tbl ∧ goodWord (Cond.fieldLink RX11 11 "ClauseBook$Worth" "above" "[J") = true := ⟨lwt_0 _ (List.mem_of_getElem? (i := 164) rfl), by decide +kernel⟩
set_option maxRecDepth 20000 in
theorem mw_238 : (Cond.arrayClass .long) ∈ lw_tbl ∧ goodWord (Cond.arrayClass .long) = true := ⟨lwt_0 _ (List.mem_of_getElem? (i := 183) rfl), by decide +kernel⟩
set_option maxRecDepth 20000 in
theorem mw_216 : (Cond.methodLink RX11 5 objectInit) ∈ lw_tbl ∧ goodWord (Cond.methodLink RX11 5 objectInit) = true := ⟨lwt_0 _ (List.mem_of_getElem? (i := 161) rfl), by decide +kernel⟩
set_option maxRecDepth 20000 in
theorem mw_215 : (Cond.code yX11_init cX11_init 3 none) ∈ lw_tbl ∧ goodWord (Cond.code yX11_init cX11_init 3 none) = true := ⟨lwt_0 _ (List.mem_of_getElem? (i := 160) rfl), by decide +kernel⟩
set_option maxRecDepth 20000 in
theorem mw_214 : (Cond.instanceMethod yX11_init) ∈ lw_tbl ∧ goodWord (Cond.instanceMethod yX11_init) = true := ⟨lwt_0 _ (List.mem_of_getElem? (i := 159) rfl), by decide +kernel⟩
set_option maxRecDepth 20000 in
theorem mw_213 : (Cond.methodLink RX12 40 yX11_init) ∈ lw_tbl ∧ goodWord (Cond.methodLink RX12 40 yX11_init) = true := ⟨lwt_0 _ (List.mem_of_getElem? (i := 158) rfl), by decide +kernel⟩
set_option maxRecDepth 20000 in
theorem mw_191 : (Cond.fieldLink RX1 15 "ClauseBook$Bag" "numbers" "[I") ∈ lw_tbl ∧ goodWord (Cond.fieldLink RX1 15 "ClauseBook$Bag" "numbers" "[I") = true := ⟨lwt_0 _ (List.mem_of_getElem? (i := 136) rfl), by decide +kernel⟩
set_option maxRecDepth 20000 in
theorem mw_189 : (Cond.fieldLink RX1 9 "ClauseBook$Bag" "size" "I") ∈ lw_tbl ∧ goodWord (Cond.fieldLink RX1 9 "ClauseBook$Bag" "size" "I") = true := ⟨lwt_0 _ (List.mem_of_getElem? (i := 134) rfl), by decide +kernel⟩
set_option maxRecDepth 20000 in
theorem mw_188 : (Cond.methodLink RX1 3 objectInit) ∈ lw_tbl ∧ goodWord (Cond.methodLink RX1 3 objectInit) = true := ⟨lwt_0 _ (List.mem_of_getElem? (i := 133) rfl), by decide +kernel⟩
set_option maxRecDepth 20000 in
theorem mw_187 : (Cond.code yX1_init cX1_init 1 none) ∈ lw_tbl ∧ goodWord (Cond.code yX1_init cX1_init 1 none) = true := ⟨lwt_0 _ (List.mem_of_getElem? (i := 132) rfl), by decide +kernel⟩
set_option maxRecDepth 20000 in
theorem mw_186 : (Cond.instanceMethod yX1_init) ∈ lw_tbl ∧ goodWord (Cond.instanceMethod yX1_init) = true := ⟨lwt_0 _ (List.mem_of_getElem? (i := 131) rfl), by decide +kernel⟩
set_option maxRecDepth 20000 in
theorem mw_162 : (Cond.fieldLink RX2 34 "ClauseBook$Clauses" "deep" "[I") ∈ lw_tbl ∧ goodWord (Cond.fieldLink RX2 34 "ClauseBook$Clauses" "deep" "[I") = true := ⟨lwt_0 _ (List.mem_of_getElem? (i := 107) rfl), by decide +kernel⟩
set_option maxRecDepth 20000 in
theorem mw_331 : (Cond.arrayClass .double) ∈ lw_tbl ∧ goodWord (Cond.arrayClass .double) = true := ⟨lwt_1 _ (List.mem_of_getElem? (i := 36) rfl), by decide +kernel⟩
set_option maxRecDepth 20000 in
theorem mw_315 : (Cond.fieldLink RX9 26 "ClauseBook$Sheet" "floats" "[F") ∈ lw_tbl ∧ goodWord (Cond.fieldLink RX9 26 "ClauseBook$Sheet" "floats" "[F") = true := ⟨lwt_1 _ (List.mem_of_getElem? (i := 20) rfl), by decide +kernel⟩
set_option maxRecDepth 20000 in
theorem mw_330 : (Cond.arrayClass .float) ∈ lw_tbl ∧ goodWord (Cond.arrayClass .float) = true := ⟨lwt_1 _ (List.mem_of_getElem? (i := 35) rfl), by decide +kernel⟩
set_option maxRecDepth 20000 in
theorem mw_314 : (Cond.fieldLink RX9 22 "ClauseBook$Sheet" "longs" "[J") ∈ lw_tbl ∧ goodWord (Cond.fieldLink RX9 22 "ClauseBook$Sheet" "longs" "[J") = true := ⟨lwt_1 _ (List.mem_of_getElem? (i := 19) rfl), by decide +kernel⟩
set_option maxRecDepth 20000 in
theorem mw_313 : (Cond.fieldLink RX9 18 "ClauseBook$Sheet" "ints" "[I") ∈ lw_tbl ∧ goodWord (Cond.fieldLink RX9 18 "ClauseBook$Sheet" "ints" "[I") = true := ⟨lwt_1 _ (List.mem_of_getElem? (i := 18) rfl), by decide +kernel⟩
set_option maxRecDepth 20000 in
theorem mw_311 : (Cond.fieldLink RX9 15 "ClauseBook$Sheet" "size" "I") ∈ lw_tbl ∧ goodWord (Cond.fieldLink RX9 15 "ClauseBook$Sheet" "size" "I") = true := ⟨lwt_1 _ (List.mem_of_getElem? (i := 16) rfl), by decide +kernel⟩
set_option maxRecDepth 20000 in
theorem mw_309 : (Cond.fieldLink RX9 9 "ClauseBook$Sheet" "sort" "I") ∈ lw_tbl ∧ goodWord (Cond.fieldLink RX9 9 "ClauseBook$Sheet" "sort" "I") = true := ⟨lwt_1 _ (List.mem_of_getElem? (i := 14) rfl), by decide +kernel⟩
set_option maxRecDepth 20000 in
theorem mw_308 : (Cond.methodLink RX9 3 objectInit) ∈ lw_tbl ∧ goodWord (Cond.methodLink RX9 3 objectInit) = true := ⟨lwt_1 _ (List.mem_of_getElem? (i := 13) rfl), by decide +kernel⟩
set_option maxRecDepth 20000 in
theorem mw_307 : (Cond.code yX9_init cX9_init 1 none) ∈ lw_tbl ∧ goodWord (Cond.code yX9_init cX9_init 1 none) = true := ⟨lwt_1 _ (List.mem_of_getElem? (i := 12) rfl), by decide +kernel⟩
set_option maxRecDepth 20000 in
theorem mw_306 : (Cond.instanceMethod yX9_init) ∈ lw_tbl ∧ goodWord (Cond.instanceMethod yX9_init) = true := ⟨lwt_1 _ (List.mem_of_getElem? (i := 11) rfl), by decide +kernel⟩
set_option maxRecDepth 20000 in
theorem mw_284 : (Cond.fieldLink RX10 31 "ClauseBook$Tape" "number" "I") ∈ lw_tbl ∧ goodWord (Cond.fieldLink RX10 31 "ClauseBook$Tape" "number" "I") = true := ⟨lwt_0 _ (List.mem_of_getElem? (i := 229) rfl), by decide +kernel⟩
set_option maxRecDepth 20000 in
theorem mw_282 : (Cond.fieldLink RX10 28 "ClauseBook$Tape" "next" "I") ∈ lw_tbl ∧ goodWord (Cond.fieldLink RX10 28 "ClauseBook$Tape" "next" "I") = true := ⟨lwt_0 _ (List.mem_of_getElem? (i := 227) rfl), by decide +kernel⟩
set_option maxRecDepth 20000 in
theorem mw_281 : (Cond.fieldLink RX10 25 "ClauseBook$Tape" "words" "I") ∈ lw_tbl ∧ goodWord (Cond.fieldLink RX10 25 "ClauseBook$Tape" "words" "I") = true := ⟨lwt_0 _ (List.mem_of_getElem? (i := 226) rfl), by decide +kernel⟩
set_option maxRecDepth 20000 in
theorem mw_280 : (Cond.fieldLink RX10 22 "ClauseBook$Tape" "numbers" "[I") ∈ lw_tbl ∧ goodWord (Cond.fieldLink RX10 22 "ClauseBook$Tape" "numbers" "[I") = true := ⟨lwt_0 _ (List.mem_of_getElem? (i := 225) rfl), by decide +kernel⟩
set_option maxRecDepth 20000 in
theorem mw_279 : (Cond.fieldLink RX10 19 "ClauseBook$Tape" "kinds" "[I") ∈ lw_tbl ∧ goodWord (Cond.fieldLink RX10 19 "ClauseBook$Tape" "kinds" "[I") = true := ⟨lwt_0 _ (List.mem_of_getElem? (i := 224) rfl), by decide +kernel⟩
set_option maxRecDepth 20000 in
theorem mw_278 : (Cond.fieldLink RX10 15 "ClauseBook$Tape" "bytes" "[I") ∈ lw_tbl ∧ goodWord (Cond.fieldLink RX10 15 "ClauseBook$Tape" "bytes" "[I") = true := ⟨lwt_0 _ (List.mem_of_getElem? (i := 223) rfl), by decide +kernel⟩
set_option maxRecDepth 20000 in
theorem mw_276 : (Cond.fieldLink RX10 9 "ClauseBook$Tape" "size" "I") ∈ lw_tbl ∧ goodWord (Cond.fieldLink RX10 9 "ClauseBook$Tape" "size" "I") = true := ⟨lwt_0 _ (List.mem_of_getElem? (i := 221) rfl), by decide +kernel⟩
set_option maxRecDepth 20000 in
theorem mw_275 : (Cond.methodLink RX10 3 objectInit) ∈ lw_tbl ∧ goodWord (Cond.methodLink RX10 3 objectInit) = true := ⟨lwt_0 _ (List.mem_of_getElem? (i := 220) rfl), by decide +kernel⟩
set_option maxRecDepth 20000 in
theorem mw_274 : (Cond.code yX10_init cX10_init 1 none) ∈ lw_tbl ∧ goodWord (Cond.code yX10_init cX10_init 1 none) = true := ⟨lwt_0 _ (List.mem_of_getElem? (i := 219) rfl), by decide +kernel⟩
set_option maxRecDepth 20000 in
theorem mw_273 : (Cond.instanceMethod yX10_init) ∈ lw_tbl ∧ goodWord (Cond.instanceMethod yX10_init) = true := ⟨lwt_0 _ (List.mem_of_getElem? (i := 218) rfl), by decide +kernel⟩
set_option maxRecDepth 20000 in
theorem mw_247 : (Cond.fieldLink RX3 34 "ClauseBook$Falling" "worth" "LClauseBook$Worth;") ∈ lw_tbl ∧ goodWord (Cond.fieldLink RX3 34 "ClauseBook$Falling" "worth" "LClauseBook$Worth;") = true := ⟨lwt_0 _ (List.mem_of_getElem? (i := 192) rfl), by decide +kernel⟩
set_option maxRecDepth 20000 in
theorem mw_246 : (Cond.fieldLink RX3 30 "ClauseBook$Falling" "clauses" "LClauseBook$Clauses;") ∈ lw_tbl ∧ goodWord (Cond.fieldLink RX3 30 "ClauseBook$Falling" "clauses" "LClauseBook$Clauses;") = true := ⟨lwt_0 _ (List.mem_of_getElem? (i := 191) rfl), by decide +kernel⟩
set_option maxRecDepth 20000 in
theorem mw_245 : (Cond.fieldLink RX3 26 "ClauseBook$Falling" "lattice" "LClauseBook$Lattice;") ∈ lw_tbl ∧ goodWord (Cond.fieldLink RX3 26 "ClauseBook$Falling" "lattice" "LClauseBook$Lattice;") = true := ⟨lwt_0 _ (List.mem_of_getElem? (i := 190) rfl), by decide +kernel⟩
set_option maxRecDepth 20000 in
theorem mw_254 : (Cond.fieldLink RX3 23 "ClauseBook$Falling" "path" "I") ∈ lw_tbl ∧ goodWord (Cond.fieldLink RX3 23 "ClauseBook$Falling" "path" "I") = true := ⟨lwt_0 _ (List.mem_of_getElem? (i := 199) rfl), by decide +kernel⟩
set_option maxRecDepth 20000 in
theorem mw_343 : (Cond.fieldLink RX4 22 "ClauseBook$Hand" "below" "J") ∈ lw_tbl ∧ goodWord (Cond.fieldLink RX4 22 "ClauseBook$Hand" "below" "J") = true := ⟨lwt_1 _ (List.mem_of_getElem? (i := 48) rfl), by decide +kernel⟩
set_option maxRecDepth 20000 in
theorem mw_341 : (Cond.fieldLink RX4 18 "ClauseBook$Hand" "above" "J") ∈ lw_tbl ∧ goodWord (Cond.fieldLink RX4 18 "ClauseBook$Hand" "above" "J") = true := ⟨lwt_1 _ (List.mem_of_getElem? (i := 46) rfl), by decide +kernel⟩
set_option maxRecDepth 20000 in
theorem mw_339 : (Cond.fieldLink RX4 15 "ClauseBook$Hand" "number" "I") ∈ lw_tbl ∧ goodWord (Cond.fieldLink RX4 15 "ClauseBook$Hand" "number" "I") = true := ⟨lwt_1 _ (List.mem_of_getElem? (i := 44) rfl), by decide +kernel⟩
set_option maxRecDepth 20000 in
theorem mw_337 : (Cond.fieldLink RX4 9 "ClauseBook$Hand" "sort" "I") ∈ lw_tbl ∧ goodWord (Cond.fieldLink RX4 9 "ClauseBook$Hand" "sort" "I") = true := ⟨lwt_1 _ (List.mem_of_getElem? (i := 42) rfl), by decide +kernel⟩
set_option maxRecDepth 20000 in
theorem mw_336 : (Cond.methodLink RX4 3 objectInit) ∈ lw_tbl ∧ goodWord (Cond.methodLink RX4 3 objectInit) = true := ⟨lwt_1 _ (List.mem_of_getElem? (i := 41) rfl), by decide +kernel⟩
set_option maxRecDepth 20000 in
theorem mw_335 : (Cond.code yX4_init cX4_init 1 none) ∈ lw_tbl ∧ goodWord (Cond.code yX4_init cX4_init 1 none) = true := ⟨lwt_1 _ (List.mem_of_getElem? (i := 40) rfl), by decide +kernel⟩
set_option maxRecDepth 20000 in
theorem mw_334 : (Cond.instanceMethod yX4_init) ∈ lw_tbl ∧ goodWord (Cond.instanceMethod yX4_init) = true := ⟨lwt_1 _ (List.mem_of_getElem? (i := 39) rfl), by decide +kernel⟩
set_option maxRecDepth 20000 in
theorem mw_316 : (Cond.fieldLink RX9 30 "ClauseBook$Sheet" "doubles" "[D") ∈ lw_tbl ∧ goodWord (Cond.fieldLink RX9 30 "ClauseBook$Sheet" "doubles" "[D") = true := ⟨lwt_1 _ (List.mem_of_getElem? (i := 21) rfl), by decide +kernel⟩
set_option maxRecDepth 20000 in
theorem mw_966 : (Cond.code yX13_init cX13_init 1 none) ∈ lw_tbl ∧ goodWord (Cond.code yX13_init cX13_init 1 none) = true := ⟨lwt_3 _ (List.mem_of_getElem? (i := 191) rfl), by decide +kernel⟩
set_option maxRecDepth 20000 in
theorem mw_1005 : (Cond.fieldLink RX13 63 "ClauseBookModel" "worthMuch" "[Z") ∈ lw_tbl ∧ goodWord (Cond.fieldLink RX13 63 "ClauseBookModel" "worthMuch" "[Z") = true := ⟨lwt_3 _ (List.mem_of_getElem? (i := 230) rfl), by decide +kernel⟩
set_option maxRecDepth 20000 in
theorem mw_1119 : (Cond.arrayClass .boolean) ∈ lw_tbl ∧ goodWord (Cond.arrayClass .boolean) = true := ⟨lwt_4 _ (List.mem_of_getElem? (i := 104) rfl), by decide +kernel⟩
set_option maxRecDepth 20000 in
theorem mw_1004 : (Cond.fieldLink RX13 60 "ClauseBookModel" "worthBelow" "[J") ∈ lw_tbl ∧ goodWord (Cond.fieldLink RX13 60 "ClauseBookModel" "worthBelow" "[J") = true := ⟨lwt_3 _ (List.mem_of_getElem? (i := 229) rfl), by decide +kernel⟩
set_option maxRecDepth 20000 in
theorem mw_1003 : (Cond.fieldLink RX13 56 "ClauseBookModel" "worthAbove" "[J") ∈ lw_tbl ∧ goodWord (Cond.fieldLink RX13 56 "ClauseBookModel" "worthAbove" "[J") = true := ⟨lwt_3 _ (List.mem_of_getElem? (i := 228) rfl), by decide +kernel⟩
set_option maxRecDepth 20000 in
theorem mw_1002 : (Cond.fieldLink RX13 53 "ClauseBookModel" "deep" "[I") ∈ lw_tbl ∧ goodWord (Cond.fieldLink RX13 53 "ClauseBookModel" "deep" "[I") = true := ⟨lwt_3 _ (List.mem_of_getElem? (i := 227) rfl), by decide +kernel⟩
set_option maxRecDepth 20000 in
theorem mw_1001 : (Cond.fieldLink RX13 50 "ClauseBookModel" "parts" "[I") ∈ lw_tbl ∧ goodWord (Cond.fieldLink RX13 50 "ClauseBookModel" "parts" "[I") = true := ⟨lwt_3 _ (List.mem_of_getElem? (i := 226) rfl), by decide +kernel⟩
set_option maxRecDepth 20000 in
theorem mw_1000 : (Cond.fieldLink RX13 47 "ClauseBookModel" "end" "[I") ∈ lw_tbl ∧ goodWord (Cond.fieldLink RX13 47 "ClauseBookModel" "end" "[I") = true := ⟨lwt_3 _ (List.mem_of_getElem? (i := 225) rfl), by decide +kernel⟩
set_option maxRecDepth 20000 in
theorem mw_996 : (Cond.fieldLink RX13 44 "ClauseBookModel" "bagged" "[I") ∈ lw_tbl ∧ goodWord (Cond.fieldLink RX13 44 "ClauseBookModel" "bagged" "[I") = true := ⟨lwt_3 _ (List.mem_of_getElem? (i := 221) rfl), by decide +kernel⟩
set_option maxRecDepth 20000 in
theorem mw_995 : (Cond.fieldLink RX13 41 "ClauseBookModel" "bag" "[I") ∈ lw_tbl ∧ goodWord (Cond.fieldLink RX13 41 "ClauseBookModel" "bag" "[I") = true := ⟨lwt_3 _ (List.mem_of_getElem? (i := 220) rfl), by decide +kernel⟩
set_option maxRecDepth 20000 in
theorem mw_994 : (Cond.fieldLink RX13 38 "ClauseBookModel" "two" "[I") ∈ lw_tbl ∧ goodWord (Cond.fieldLink RX13 38 "ClauseBookModel" "two" "[I") = true := ⟨lwt_3 _ (List.mem_of_getElem? (i := 219) rfl), by decide +kernel⟩
set_option maxRecDepth 20000 in
theorem mw_993 : (Cond.fieldLink RX13 35 "ClauseBookModel" "one" "[I") ∈ lw_tbl ∧ goodWord (Cond.fieldLink RX13 35 "ClauseBookModel" "one" "[I") = true := ⟨lwt_3 _ (List.mem_of_getElem? (i := 218) rfl), by decide +kernel⟩
set_option maxRecDepth 20000 in
theorem mw_992 : (Cond.fieldLink RX13 32 "ClauseBookModel" "number" "[I") ∈ lw_tbl ∧ goodWord (Cond.fieldLink RX13 32 "ClauseBookModel" "number" "[I") = true := ⟨lwt_3 _ (List.mem_of_getElem? (i := 217) rfl), by decide +kernel⟩
set_option maxRecDepth 20000 in
theorem mw_991 : (Cond.fieldLink RX13 28 "ClauseBookModel" "kind" "[I") ∈ lw_tbl ∧ goodWord (Cond.fieldLink RX13 28 "ClauseBookModel" "kind" "[I") = true := ⟨lwt_3 _ (List.mem_of_getElem? (i := 216) rfl), by decide +kernel⟩
set_option maxRecDepth 20000 in
theorem mw_989 : (Cond.fieldLink RX13 25 "ClauseBookModel" "waitB" "I") ∈ lw_tbl ∧ goodWord (Cond.fieldLink RX13 25 "ClauseBookModel" "waitB" "I") = true := ⟨lwt_3 _ (List.mem_of_getElem? (i := 214) rfl), by decide +kernel⟩
set_option maxRecDepth 20000 in
theorem mw_988 : (Cond.fieldLink RX13 22 "ClauseBookModel" "waitA" "I") ∈ lw_tbl ∧ goodWord (Cond.fieldLink RX13 22 "ClauseBookModel" "waitA" "I") = true := ⟨lwt_3 _ (List.mem_of_getElem? (i := 213) rfl), by decide +kernel⟩
set_option maxRecDepth 20000 in
theorem mw_987 : (Cond.fieldLink RX13 19 "ClauseBookModel" "oddsQ" "I") ∈ lw_tbl ∧ goodWord (Cond.fieldLink RX13 19 "ClauseBookModel" "oddsQ" "I") = true := ⟨lwt_3 _ (List.mem_of_getElem? (i := 212) rfl), by decide +kernel⟩
set_option maxRecDepth 20000 in
theorem mw_986 : (Cond.fieldLink RX13 16 "ClauseBookModel" "oddsP" "I") ∈ lw_tbl ∧ goodWord (Cond.fieldLink RX13 16 "ClauseBookModel" "oddsP" "I") = true := ⟨lwt_3 _ (List.mem_of_getElem? (i := 211) rfl), by decide +kernel⟩
set_option maxRecDepth 20000 in
theorem mw_985 : (Cond.fieldLink RX13 13 "ClauseBookModel" "down" "I") ∈ lw_tbl ∧ goodWord (Cond.fieldLink RX13 13 "ClauseBookModel" "down" "I") = true := ⟨lwt_3 _ (List.mem_of_getElem? (i := 210) rfl), by decide +kernel⟩
set_option maxRecDepth 20000 in
theorem mw_984 : (Cond.fieldLink RX13 7 "ClauseBookModel" "up" "I") ∈ lw_tbl ∧ goodWord (Cond.fieldLink RX13 7 "ClauseBookModel" "up" "I") = true := ⟨lwt_3 _ (List.mem_of_getElem? (i := 209) rfl), by decide +kernel⟩
set_option maxRecDepth 20000 in
theorem mw_967 : (Cond.methodLink RX13 1 objectInit) ∈ lw_tbl ∧ goodWord (Cond.methodLink RX13 1 objectInit) = true := ⟨lwt_3 _ (List.mem_of_getElem? (i := 192) rfl), by decide +kernel⟩
