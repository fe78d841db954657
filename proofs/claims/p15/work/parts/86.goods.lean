set_option maxRecDepth 20000 in
theorem mw_1220 : (Cond.methodLink RX13 141 yX13_divisor) ∈ lw_tbl ∧ goodWord (Cond.methodLink RX13 141 yX13_divisor) = true := ⟨lwt_4 _ (List.mem_of_getElem? (i := 205) rfl), by decide +kernel⟩
set_option maxRecDepth 20000 in
theorem mw_1219 : (Cond.code yX13_becomes cX13_becomes 7 none) ∈ lw_tbl ∧ goodWord (Cond.code yX13_becomes cX13_becomes 7 none) = true := ⟨lwt_4 _ (List.mem_of_getElem? (i := 204) rfl), by decide +kernel⟩
set_option maxRecDepth 20000 in
theorem mw_21 : (Cond.selects RX13 yX13_becomes yX13_becomes) ∈ lw_tbl ∧ goodWord (Cond.selects RX13 yX13_becomes yX13_becomes) = true := ⟨lwt_s _ (List.mem_of_getElem? (i := 21) rfl), by decide +kernel⟩
set_option maxRecDepth 20000 in
theorem mw_1218 : (Cond.instanceMethod yX13_becomes) ∈ lw_tbl ∧ goodWord (Cond.instanceMethod yX13_becomes) = true := ⟨lwt_4 _ (List.mem_of_getElem? (i := 203) rfl), by decide +kernel⟩
set_option maxRecDepth 20000 in
theorem mw_1216 : (Cond.methodLink RX13 155 yX13_becomes) ∈ lw_tbl ∧ goodWord (Cond.methodLink RX13 155 yX13_becomes) = true := ⟨lwt_4 _ (List.mem_of_getElem? (i := 201) rfl), by decide +kernel⟩
set_option maxRecDepth 20000 in
theorem mw_1256 : (Cond.methodLink RX13 263 yX13_takesBest) ∈ lw_tbl ∧ goodWord (Cond.methodLink RX13 263 yX13_takesBest) = true := ⟨lwt_5 _ (List.mem_of_getElem? (i := 1) rfl), by decide +kernel⟩
set_option maxRecDepth 20000 in
theorem mw_1255 : (Cond.code yX13_laysChoice cX13_laysChoice 6 none) ∈ lw_tbl ∧ goodWord (Cond.code yX13_laysChoice cX13_laysChoice 6 none) = true := ⟨lwt_5 _ (List.mem_of_getElem? (i := 0) rfl), by decide +kernel⟩
set_option maxRecDepth 20000 in
theorem mw_28 : (Cond.selects RX13 yX13_laysChoice yX13_laysChoice) ∈ lw_tbl ∧ goodWord (Cond.selects RX13 yX13_laysChoice yX13_laysChoice) = true := ⟨lwt_s _ (List.mem_of_getElem? (i := 28) rfl), by decide +kernel⟩
set_option maxRecDepth 20000 in
theorem mw_1254 : (Cond.instanceMethod yX13_laysChoice) ∈ lw_tbl ∧ goodWord (Cond.instanceMethod yX13_laysChoice) = true := ⟨lwt_4 _ (List.mem_of_getElem? (i := 239) rfl), by decide +kernel⟩
set_option maxRecDepth 20000 in
theorem mw_1252 : (Cond.methodLink RX13 254 yX13_laysChoice) ∈ lw_tbl ∧ goodWord (Cond.methodLink RX13 254 yX13_laysChoice) = true := ⟨lwt_4 _ (List.mem_of_getElem? (i := 237) rfl), by decide +kernel⟩
set_option maxRecDepth 20000 in
theorem mw_1251 : (Cond.code yX13_plus cX13_plus 7 (some .long)) ∈ lw_tbl ∧ goodWord (Cond.code yX13_plus cX13_plus 7 (some .long)) = true := ⟨lwt_4 _ (List.mem_of_getElem? (i := 236) rfl), by decide +kernel⟩
set_option maxRecDepth 20000 in
theorem mw_27 : (Cond.selects RX13 yX13_plus yX13_plus) ∈ lw_tbl ∧ goodWord (Cond.selects RX13 yX13_plus yX13_plus) = true := ⟨lwt_s _ (List.mem_of_getElem? (i := 27) rfl), by decide +kernel⟩
set_option maxRecDepth 20000 in
theorem mw_1250 : (Cond.instanceMethod yX13_plus) ∈ lw_tbl ∧ goodWord (Cond.instanceMethod yX13_plus) = true := ⟨lwt_4 _ (List.mem_of_getElem? (i := 235) rfl), by decide +kernel⟩
set_option maxRecDepth 20000 in
theorem mw_1248 : (Cond.methodLink RX13 159 yX13_plus) ∈ lw_tbl ∧ goodWord (Cond.methodLink RX13 159 yX13_plus) = true := ⟨lwt_4 _ (List.mem_of_getElem? (i := 233) rfl), by decide +kernel⟩
set_option maxRecDepth 20000 in
theorem mw_1247 : (Cond.code yX13_adds cX13_adds 17 none) ∈ lw_tbl ∧ goodWord (Cond.code yX13_adds cX13_adds 17 none) = true := ⟨lwt_4 _ (List.mem_of_getElem? (i := 232) rfl), by decide +kernel⟩
set_option maxRecDepth 20000 in
theorem mw_26 : (Cond.selects RX13 yX13_adds yX13_adds) ∈ lw_tbl ∧ goodWord (Cond.selects RX13 yX13_adds yX13_adds) = true := ⟨lwt_s _ (List.mem_of_getElem? (i := 26) rfl), by decide +kernel⟩
set_option maxRecDepth 20000 in
theorem mw_1246 : (Cond.instanceMethod yX13_adds) ∈ lw_tbl ∧ goodWord (Cond.instanceMethod yX13_adds) = true := ⟨lwt_4 _ (List.mem_of_getElem? (i := 231) rfl), by decide +kernel⟩
set_option maxRecDepth 20000 in
theorem mw_1244 : (Cond.methodLink RX13 251 yX13_adds) ∈ lw_tbl ∧ goodWord (Cond.methodLink RX13 251 yX13_adds) = true := ⟨lwt_4 _ (List.mem_of_getElem? (i := 229) rfl), by decide +kernel⟩
set_option maxRecDepth 20000 in
theorem mw_1243 : (Cond.constantLong RX13 139 (-9223372036854775808)) ∈ lw_tbl ∧ goodWord (Cond.constantLong RX13 139 (-9223372036854775808)) = true := ⟨lwt_4 _ (List.mem_of_getElem? (i := 228) rfl), by decide +kernel⟩
set_option maxRecDepth 20000 in
theorem mw_1242 : (Cond.code yX13_times cX13_times 7 (some .long)) ∈ lw_tbl ∧ goodWord (Cond.code yX13_times cX13_times 7 (some .long)) = true := ⟨lwt_4 _ (List.mem_of_getElem? (i := 227) rfl), by decide +kernel⟩
set_option maxRecDepth 20000 in
theorem mw_25 : (Cond.selects RX13 yX13_times yX13_times) ∈ lw_tbl ∧ goodWord (Cond.selects RX13 yX13_times yX13_times) = true := ⟨lwt_s _ (List.mem_of_getElem? (i := 25) rfl), by decide +kernel⟩
set_option maxRecDepth 20000 in
theorem mw_1241 : (Cond.instanceMethod yX13_times) ∈ lw_tbl ∧ goodWord (Cond.instanceMethod yX13_times) = true := ⟨lwt_4 _ (List.mem_of_getElem? (i := 226) rfl), by decide +kernel⟩
set_option maxRecDepth 20000 in
theorem mw_1271 : (Cond.code yX13_laysFree cX13_laysFree 9 none) ∈ lw_tbl ∧ goodWord (Cond.code yX13_laysFree cX13_laysFree 9 none) = true := ⟨lwt_5 _ (List.mem_of_getElem? (i := 16) rfl), by decide +kernel⟩
set_option maxRecDepth 20000 in
theorem mw_31 : (Cond.selects RX13 yX13_laysFree yX13_laysFree) ∈ lw_tbl ∧ goodWord (Cond.selects RX13 yX13_laysFree yX13_laysFree) = true := ⟨lwt_s _ (List.mem_of_getElem? (i := 31) rfl), by decide +kernel⟩
set_option maxRecDepth 20000 in
theorem mw_1270 : (Cond.instanceMethod yX13_laysFree) ∈ lw_tbl ∧ goodWord (Cond.instanceMethod yX13_laysFree) = true := ⟨lwt_5 _ (List.mem_of_getElem? (i := 15) rfl), by decide +kernel⟩
set_option maxRecDepth 20000 in
theorem mw_1268 : (Cond.methodLink RX13 260 yX13_laysFree) ∈ lw_tbl ∧ goodWord (Cond.methodLink RX13 260 yX13_laysFree) = true := ⟨lwt_5 _ (List.mem_of_getElem? (i := 13) rfl), by decide +kernel⟩
set_option maxRecDepth 20000 in
theorem mw_1267 : (Cond.code yX13_means cX13_means 10 none) ∈ lw_tbl ∧ goodWord (Cond.code yX13_means cX13_means 10 none) = true := ⟨lwt_5 _ (List.mem_of_getElem? (i := 12) rfl), by decide +kernel⟩
set_option maxRecDepth 20000 in
theorem mw_30 : (Cond.selects RX13 yX13_means yX13_means) ∈ lw_tbl ∧ goodWord (Cond.selects RX13 yX13_means yX13_means) = true := ⟨lwt_s _ (List.mem_of_getElem? (i := 30) rfl), by decide +kernel⟩
set_option maxRecDepth 20000 in
theorem mw_1266 : (Cond.instanceMethod yX13_means) ∈ lw_tbl ∧ goodWord (Cond.instanceMethod yX13_means) = true := ⟨lwt_5 _ (List.mem_of_getElem? (i := 11) rfl), by decide +kernel⟩
set_option maxRecDepth 20000 in
theorem mw_1264 : (Cond.methodLink RX13 257 yX13_means) ∈ lw_tbl ∧ goodWord (Cond.methodLink RX13 257 yX13_means) = true := ⟨lwt_5 _ (List.mem_of_getElem? (i := 9) rfl), by decide +kernel⟩
set_option maxRecDepth 20000 in
theorem mw_1263 : (Cond.methodLink RX13 162 yJ9_floorDiv_f86c9) ∈ lw_tbl ∧ goodWord (Cond.methodLink RX13 162 yJ9_floorDiv_f86c9) = true := ⟨lwt_5 _ (List.mem_of_getElem? (i := 8) rfl), by decide +kernel⟩
set_option maxRecDepth 20000 in
theorem mw_1262 : (Cond.code yX13_compared cX13_compared 16 (some .int)) ∈ lw_tbl ∧ goodWord (Cond.code yX13_compared cX13_compared 16 (some .int)) = true := ⟨lwt_5 _ (List.mem_of_getElem? (i := 7) rfl), by decide +kernel⟩
set_option maxRecDepth 20000 in
theorem mw_1261 : (Cond.static yX13_compared) ∈ lw_tbl ∧ goodWord (Cond.static yX13_compared) = true := ⟨lwt_5 _ (List.mem_of_getElem? (i := 6) rfl), by decide +kernel⟩
set_option maxRecDepth 20000 in
theorem mw_1260 : (Cond.methodLink RX13 167 yX13_compared) ∈ lw_tbl ∧ goodWord (Cond.methodLink RX13 167 yX13_compared) = true := ⟨lwt_5 _ (List.mem_of_getElem? (i := 5) rfl), by decide +kernel⟩
set_option maxRecDepth 20000 in
theorem mw_1259 : (Cond.code yX13_takesBest cX13_takesBest 10 none) ∈ lw_tbl ∧ goodWord (Cond.code yX13_takesBest cX13_takesBest 10 none) = true := ⟨lwt_5 _ (List.mem_of_getElem? (i := 4) rfl), by decide +kernel⟩
set_option maxRecDepth 20000 in
theorem mw_29 : (Cond.selects RX13 yX13_takesBest yX13_takesBest) ∈ lw_tbl ∧ goodWord (Cond.selects RX13 yX13_takesBest yX13_takesBest) = true := ⟨lwt_s _ (List.mem_of_getElem? (i := 29) rfl), by decide +kernel⟩
set_option maxRecDepth 20000 in
theorem mw_1258 : (Cond.instanceMethod yX13_takesBest) ∈ lw_tbl ∧ goodWord (Cond.instanceMethod yX13_takesBest) = true := ⟨lwt_5 _ (List.mem_of_getElem? (i := 3) rfl), by decide +kernel⟩
set_option maxRecDepth 20000 in
theorem mw_1275 : (Cond.code yX13_mean cX13_mean 5 (some .long)) ∈ lw_tbl ∧ goodWord (Cond.code yX13_mean cX13_mean 5 (some .long)) = true := ⟨lwt_5 _ (List.mem_of_getElem? (i := 20) rfl), by decide +kernel⟩
set_option maxRecDepth 20000 in
theorem mw_1279 : (Cond.code yX13_valueAs cX13_valueAs 8 (some .long)) ∈ lw_tbl ∧ goodWord (Cond.code yX13_valueAs cX13_valueAs 8 (some .long)) = true := ⟨lwt_5 _ (List.mem_of_getElem? (i := 24) rfl), by decide +kernel⟩
set_option maxRecDepth 20000 in
theorem mw_1304 : (Cond.constantFloat RX13 298 (1061158912)) ∈ lw_tbl ∧ goodWord (Cond.constantFloat RX13 298 (1061158912)) = true := ⟨lwt_5 _ (List.mem_of_getElem? (i := 49) rfl), by decide +kernel⟩
set_option maxRecDepth 20000 in
theorem mw_1303 : (Cond.constantDouble RX13 296 (4600427019358961664)) ∈ lw_tbl ∧ goodWord (Cond.constantDouble RX13 296 (4600427019358961664)) = true := ⟨lwt_5 _ (List.mem_of_getElem? (i := 48) rfl), by decide +kernel⟩
set_option maxRecDepth 20000 in
theorem mw_1302 : (Cond.constantDouble RX13 294 (4652007308841189376)) ∈ lw_tbl ∧ goodWord (Cond.constantDouble RX13 294 (4652007308841189376)) = true := ⟨lwt_5 _ (List.mem_of_getElem? (i := 47) rfl), by decide +kernel⟩
set_option maxRecDepth 20000 in
theorem mw_1281 : (Cond.constantDouble RX13 280 (4636737291354636288)) ∈ lw_tbl ∧ goodWord (Cond.constantDouble RX13 280 (4636737291354636288)) = true := ⟨lwt_5 _ (List.mem_of_getElem? (i := 26) rfl), by decide +kernel⟩
set_option maxRecDepth 20000 in
theorem mw_1280 : (Cond.constantLong RX13 278 (5)) ∈ lw_tbl ∧ goodWord (Cond.constantLong RX13 278 (5)) = true := ⟨lwt_5 _ (List.mem_of_getElem? (i := 25) rfl), by decide +kernel⟩
set_option maxRecDepth 20000 in
theorem mw_1301 : (Cond.constantLong RJxe99ae 137 (9221120237041090560)) ∈ lw_tbl ∧ goodWord (Cond.constantLong RJxe99ae 137 (9221120237041090560)) = true := ⟨lwt_5 _ (List.mem_of_getElem? (i := 46) rfl), by decide +kernel⟩
set_option maxRecDepth 20000 in
theorem mw_74 : (Cond.initialized "java/lang/Double") ∈ lw_tbl ∧ goodWord (Cond.initialized "java/lang/Double") = true := ⟨lwt_0 _ (List.mem_of_getElem? (i := 19) rfl), by decide +kernel⟩
set_option maxRecDepth 20000 in
theorem mw_1299 : (Cond.static ⟨"java/lang/Double", "doubleToRawLongBits", "(D)J"⟩) ∈ lw_tbl ∧ goodWord (Cond.static ⟨"java/lang/Double", "doubleToRawLongBits", "(D)J"⟩) = true := ⟨lwt_5 _ (List.mem_of_getElem? (i := 44) rfl), by decide +kernel⟩
set_option maxRecDepth 20000 in
theorem mw_1300 : (Cond.native ⟨"java/lang/Double", "doubleToRawLongBits", "(D)J"⟩) ∈ lw_tbl ∧ goodWord (Cond.native ⟨"java/lang/Double", "doubleToRawLongBits", "(D)J"⟩) = true := ⟨lwt_5 _ (List.mem_of_getElem? (i := 45) rfl), by decide +kernel⟩
set_option maxRecDepth 20000 in
theorem mw_1298 : (Cond.methodLink RJxe99ae 134 ⟨"java/lang/Double", "doubleToRawLongBits", "(D)J"⟩) ∈ lw_tbl ∧ goodWord (Cond.methodLink RJxe99ae 134 ⟨"java/lang/Double", "doubleToRawLongBits", "(D)J"⟩) = true := ⟨lwt_5 _ (List.mem_of_getElem? (i := 43) rfl), by decide +kernel⟩
set_option maxRecDepth 20000 in
theorem mw_1294 : (Cond.code yJxe99ae_doubleToLongBits_ccdee cJxe99ae_doubleToLongBits_ccdee 2 (some .long)) ∈ lw_tbl ∧ goodWord (Cond.code yJxe99ae_doubleToLongBits_ccdee cJxe99ae_doubleToLongBits_ccdee 2 (some .long)) = true := ⟨lwt_5 _ (List.mem_of_getElem? (i := 39) rfl), by decide +kernel⟩
set_option maxRecDepth 20000 in
theorem mw_1293 : (Cond.static yJxe99ae_doubleToLongBits_ccdee) ∈ lw_tbl ∧ goodWord (Cond.static yJxe99ae_doubleToLongBits_ccdee) = true := ⟨lwt_5 _ (List.mem_of_getElem? (i := 38) rfl), by decide +kernel⟩
set_option maxRecDepth 20000 in
theorem mw_1292 : (Cond.methodLink RX13 288 yJxe99ae_doubleToLongBits_ccdee) ∈ lw_tbl ∧ goodWord (Cond.methodLink RX13 288 yJxe99ae_doubleToLongBits_ccdee) = true := ⟨lwt_5 _ (List.mem_of_getElem? (i := 37) rfl), by decide +kernel⟩
set_option maxRecDepth 20000 in
theorem mw_1287 : (Cond.code yJxf58ca_isNaN_12338 cJxf58ca_isNaN_12338 1 (some .boolean)) ∈ lw_tbl ∧ goodWord (Cond.code yJxf58ca_isNaN_12338 cJxf58ca_isNaN_12338 1 (some .boolean)) = true := ⟨lwt_5 _ (List.mem_of_getElem? (i := 32) rfl), by decide +kernel⟩
set_option maxRecDepth 20000 in
theorem mw_1286 : (Cond.static yJxf58ca_isNaN_12338) ∈ lw_tbl ∧ goodWord (Cond.static yJxf58ca_isNaN_12338) = true := ⟨lwt_5 _ (List.mem_of_getElem? (i := 31) rfl), by decide +kernel⟩
set_option maxRecDepth 20000 in
theorem mw_1285 : (Cond.methodLink RJxf58ca 59 yJxf58ca_isNaN_12338) ∈ lw_tbl ∧ goodWord (Cond.methodLink RJxf58ca 59 yJxf58ca_isNaN_12338) = true := ⟨lwt_5 _ (List.mem_of_getElem? (i := 30) rfl), by decide +kernel⟩
set_option maxRecDepth 20000 in
theorem mw_1291 : (Cond.constant RJxf58ca 77 (2143289344)) ∈ lw_tbl ∧ goodWord (Cond.constant RJxf58ca 77 (2143289344)) = true := ⟨lwt_5 _ (List.mem_of_getElem? (i := 36) rfl), by decide +kernel⟩
set_option maxRecDepth 20000 in
theorem mw_73 : (Cond.initialized "java/lang/Float") ∈ lw_tbl ∧ goodWord (Cond.initialized "java/lang/Float") = true := ⟨lwt_0 _ (List.mem_of_getElem? (i := 18) rfl), by decide +kernel⟩
set_option maxRecDepth 20000 in
theorem mw_1289 : (Cond.static ⟨"java/lang/Float", "floatToRawIntBits", "(F)I"⟩) ∈ lw_tbl ∧ goodWord (Cond.static ⟨"java/lang/Float", "floatToRawIntBits", "(F)I"⟩) = true := ⟨lwt_5 _ (List.mem_of_getElem? (i := 34) rfl), by decide +kernel⟩
set_option maxRecDepth 20000 in
theorem mw_1290 : (Cond.native ⟨"java/lang/Float", "floatToRawIntBits", "(F)I"⟩) ∈ lw_tbl ∧ goodWord (Cond.native ⟨"java/lang/Float", "floatToRawIntBits", "(F)I"⟩) = true := ⟨lwt_5 _ (List.mem_of_getElem? (i := 35) rfl), by decide +kernel⟩
set_option maxRecDepth 20000 in
theorem mw_1288 : (Cond.methodLink RJxf58ca 74 ⟨"java/lang/Float", "floatToRawIntBits", "(F)I"⟩) ∈ lw_tbl ∧ goodWord (Cond.methodLink RJxf58ca 74 ⟨"java/lang/Float", "floatToRawIntBits", "(F)I"⟩) = true := ⟨lwt_5 _ (List.mem_of_getElem? (i := 33) rfl), by decide +kernel⟩
set_option maxRecDepth 20000 in
theorem mw_1284 : (Cond.code yJxf58ca_floatToIntBits_5c35a cJxf58ca_floatToIntBits_5c35a 1 (some .int)) ∈ lw_tbl ∧ goodWord (Cond.code yJxf58ca_floatToIntBits_5c35a cJxf58ca_floatToIntBits_5c35a 1 (some .int)) = true := ⟨lwt_5 _ (List.mem_of_getElem? (i := 29) rfl), by decide +kernel⟩
set_option maxRecDepth 20000 in
theorem mw_1283 : (Cond.static yJxf58ca_floatToIntBits_5c35a) ∈ lw_tbl ∧ goodWord (Cond.static yJxf58ca_floatToIntBits_5c35a) = true := ⟨lwt_5 _ (List.mem_of_getElem? (i := 28) rfl), by decide +kernel⟩
set_option maxRecDepth 20000 in
theorem mw_1282 : (Cond.methodLink RX13 282 yJxf58ca_floatToIntBits_5c35a) ∈ lw_tbl ∧ goodWord (Cond.methodLink RX13 282 yJxf58ca_floatToIntBits_5c35a) = true := ⟨lwt_5 _ (List.mem_of_getElem? (i := 27) rfl), by decide +kernel⟩
set_option maxRecDepth 20000 in
theorem mw_1297 : (Cond.code yJxe99ae_isNaN_b9ae7 cJxe99ae_isNaN_b9ae7 2 (some .boolean)) ∈ lw_tbl ∧ goodWord (Cond.code yJxe99ae_isNaN_b9ae7 cJxe99ae_isNaN_b9ae7 2 (some .boolean)) = true := ⟨lwt_5 _ (List.mem_of_getElem? (i := 42) rfl), by decide +kernel⟩
set_option maxRecDepth 20000 in
theorem mw_1296 : (Cond.static yJxe99ae_isNaN_b9ae7) ∈ lw_tbl ∧ goodWord (Cond.static yJxe99ae_isNaN_b9ae7) = true := ⟨lwt_5 _ (List.mem_of_getElem? (i := 41) rfl), by decide +kernel⟩
set_option maxRecDepth 20000 in
theorem mw_1295 : (Cond.methodLink RJxe99ae 122 yJxe99ae_isNaN_b9ae7) ∈ lw_tbl ∧ goodWord (Cond.methodLink RJxe99ae 122 yJxe99ae_isNaN_b9ae7) = true := ⟨lwt_5 _ (List.mem_of_getElem? (i := 40) rfl), by decide +kernel⟩
set_option maxRecDepth 20000 in
theorem mw_1308 : (Cond.code yX13_chosen cX13_chosen 4 (some .int)) ∈ lw_tbl ∧ goodWord (Cond.code yX13_chosen cX13_chosen 4 (some .int)) = true := ⟨lwt_5 _ (List.mem_of_getElem? (i := 53) rfl), by decide +kernel⟩
set_option maxRecDepth 20000 in
theorem mw_1315 : (Cond.instanceMethod yX13_isMuchAt) ∈ lw_tbl ∧ goodWord (Cond.instanceMethod yX13_isMuchAt) = true := ⟨lwt_5 _ (List.mem_of_getElem? (i := 60) rfl), by decide +kernel⟩
set_option maxRecDepth 20000 in
theorem mw_1313 : (Cond.methodLink RX13 299 yX13_isMuchAt) ∈ lw_tbl ∧ goodWord (Cond.methodLink RX13 299 yX13_isMuchAt) = true := ⟨lwt_5 _ (List.mem_of_getElem? (i := 58) rfl), by decide +kernel⟩
set_option maxRecDepth 20000 in
theorem mw_1312 : (Cond.code yX13_chosenAt cX13_chosenAt 7 (some .int)) ∈ lw_tbl ∧ goodWord (Cond.code yX13_chosenAt cX13_chosenAt 7 (some .int)) = true := ⟨lwt_5 _ (List.mem_of_getElem? (i := 57) rfl), by decide +kernel⟩
set_option maxRecDepth 20000 in
theorem mw_32 : (Cond.selects RX13 yX13_chosenAt yX13_chosenAt) ∈ lw_tbl ∧ goodWord (Cond.selects RX13 yX13_chosenAt yX13_chosenAt) = true := ⟨lwt_s _ (List.mem_of_getElem? (i := 32) rfl), by decide +kernel⟩
set_option maxRecDepth 20000 in
theorem mw_1311 : (Cond.instanceMethod yX13_chosenAt) ∈ lw_tbl ∧ goodWord (Cond.instanceMethod yX13_chosenAt) = true := ⟨lwt_5 _ (List.mem_of_getElem? (i := 56) rfl), by decide +kernel⟩
set_option maxRecDepth 20000 in
theorem mw_1309 : (Cond.methodLink RX13 306 yX13_chosenAt) ∈ lw_tbl ∧ goodWord (Cond.methodLink RX13 306 yX13_chosenAt) = true := ⟨lwt_5 _ (List.mem_of_getElem? (i := 54) rfl), by decide +kernel⟩
set_option maxRecDepth 20000 in
theorem mw_1320 : (Cond.code yX13_comparedAt cX13_comparedAt 7 (some .int)) ∈ lw_tbl ∧ goodWord (Cond.code yX13_comparedAt cX13_comparedAt 7 (some .int)) = true := ⟨lwt_5 _ (List.mem_of_getElem? (i := 65) rfl), by decide +kernel⟩
set_option maxRecDepth 20000 in
theorem mw_34 : (Cond.selects RX13 yX13_comparedAt yX13_comparedAt) ∈ lw_tbl ∧ goodWord (Cond.selects RX13 yX13_comparedAt yX13_comparedAt) = true := ⟨lwt_s _ (List.mem_of_getElem? (i := 34) rfl), by decide +kernel⟩
set_option maxRecDepth 20000 in
theorem mw_1319 : (Cond.instanceMethod yX13_comparedAt) ∈ lw_tbl ∧ goodWord (Cond.instanceMethod yX13_comparedAt) = true := ⟨lwt_5 _ (List.mem_of_getElem? (i := 64) rfl), by decide +kernel⟩
set_option maxRecDepth 20000 in
theorem mw_1317 : (Cond.methodLink RX13 303 yX13_comparedAt) ∈ lw_tbl ∧ goodWord (Cond.methodLink RX13 303 yX13_comparedAt) = true := ⟨lwt_5 _ (List.mem_of_getElem? (i := 62) rfl), by decide +kernel⟩
set_option maxRecDepth 20000 in
theorem mw_1316 : (Cond.code yX13_isMuchAt cX13_isMuchAt 4 (some .boolean)) ∈ lw_tbl ∧ goodWord (Cond.code yX13_isMuchAt cX13_isMuchAt 4 (some .boolean)) = true := ⟨lwt_5 _ (List.mem_of_getElem? (i := 61) rfl), by decide +kernel⟩
set_option maxRecDepth 20000 in
theorem mw_33 : (Cond.selects RX13 yX13_isMuchAt yX13_isMuchAt) ∈ lw_tbl ∧ goodWord (Cond.selects RX13 yX13_isMuchAt yX13_isMuchAt) = true := ⟨lwt_s _ (List.mem_of_getElem? (i := 33) rfl), by decide +kernel⟩
set_option maxRecDepth 20000 in
theorem mw_1324 : (Cond.code yX13_taken cX13_taken 4 (some .int)) ∈ lw_tbl ∧ goodWord (Cond.code yX13_taken cX13_taken 4 (some .int)) = true := ⟨lwt_5 _ (List.mem_of_getElem? (i := 69) rfl), by decide +kernel⟩
set_option maxRecDepth 20000 in
theorem mw_1328 : (Cond.code yX13_takenAt cX13_takenAt 9 (some .int)) ∈ lw_tbl ∧ goodWord (Cond.code yX13_takenAt cX13_takenAt 9 (some .int)) = true := ⟨lwt_5 _ (List.mem_of_getElem? (i := 73) rfl), by decide +kernel⟩
set_option maxRecDepth 20000 in
theorem mw_35 : (Cond.selects RX13 yX13_takenAt yX13_takenAt) ∈ lw_tbl ∧ goodWord (Cond.selects RX13 yX13_takenAt yX13_takenAt) = true := ⟨lwt_s _ (List.mem_of_getElem? (i := 35) rfl), by decide +kernel⟩
set_option maxRecDepth 20000 in
theorem mw_1327 : (Cond.instanceMethod yX13_takenAt) ∈ lw_tbl ∧ goodWord (Cond.instanceMethod yX13_takenAt) = true := ⟨lwt_5 _ (List.mem_of_getElem? (i := 72) rfl), by decide +kernel⟩
set_option maxRecDepth 20000 in
theorem mw_1325 : (Cond.methodLink RX13 309 yX13_takenAt) ∈ lw_tbl ∧ goodWord (Cond.methodLink RX13 309 yX13_takenAt) = true := ⟨lwt_5 _ (List.mem_of_getElem? (i := 70) rfl), by decide +kernel⟩
set_option maxRecDepth 20000 in
theorem mw_1332 : (Cond.code yX13_alike cX13_alike 6 (some .int)) ∈ lw_tbl ∧ goodWord (Cond.code yX13_alike cX13_alike 6 (some .int)) = true := ⟨lwt_5 _ (List.mem_of_getElem? (i := 77) rfl), by decide +kernel⟩
set_option maxRecDepth 20000 in
theorem mw_1336 : (Cond.code yX13_unlike cX13_unlike 5 (some .int)) ∈ lw_tbl ∧ goodWord (Cond.code yX13_unlike cX13_unlike 5 (some .int)) = true := ⟨lwt_5 _ (List.mem_of_getElem? (i := 81) rfl), by decide +kernel⟩
set_option maxRecDepth 20000 in
theorem mw_1340 : (Cond.code yX13_most cX13_most 8 (some .int)) ∈ lw_tbl ∧ goodWord (Cond.code yX13_most cX13_most 8 (some .int)) = true := ⟨lwt_5 _ (List.mem_of_getElem? (i := 85) rfl), by decide +kernel⟩
set_option maxRecDepth 20000 in
theorem mw_1344 : (Cond.code yX13_due cX13_due 5 (some .long)) ∈ lw_tbl ∧ goodWord (Cond.code yX13_due cX13_due 5 (some .long)) = true := ⟨lwt_5 _ (List.mem_of_getElem? (i := 89) rfl), by decide +kernel⟩
set_option maxRecDepth 20000 in
theorem mw_1349 : (Cond.methodLink RX13 329 yX13_laysDues) ∈ lw_tbl ∧ goodWord (Cond.methodLink RX13 329 yX13_laysDues) = true := ⟨lwt_5 _ (List.mem_of_getElem? (i := 94) rfl), by decide +kernel⟩
set_option maxRecDepth 20000 in
theorem mw_1348 : (Cond.code yX13_isHad cX13_isHad 4 (some .boolean)) ∈ lw_tbl ∧ goodWord (Cond.code yX13_isHad cX13_isHad 4 (some .boolean)) = true := ⟨lwt_5 _ (List.mem_of_getElem? (i := 93) rfl), by decide +kernel⟩
set_option maxRecDepth 20000 in
theorem mw_36 : (Cond.selects RX13 yX13_isHad yX13_isHad) ∈ lw_tbl ∧ goodWord (Cond.selects RX13 yX13_isHad yX13_isHad) = true := ⟨lwt_s _ (List.mem_of_getElem? (i := 36) rfl), by decide +kernel⟩
set_option maxRecDepth 20000 in
theorem mw_1347 : (Cond.instanceMethod yX13_isHad) ∈ lw_tbl ∧ goodWord (Cond.instanceMethod yX13_isHad) = true := ⟨lwt_5 _ (List.mem_of_getElem? (i := 92) rfl), by decide +kernel⟩
set_option maxRecDepth 20000 in
theorem mw_1345 : (Cond.methodLink RX13 326 yX13_isHad) ∈ lw_tbl ∧ goodWord (Cond.methodLink RX13 326 yX13_isHad) = true := ⟨lwt_5 _ (List.mem_of_getElem? (i := 90) rfl), by decide +kernel⟩
set_option maxRecDepth 20000 in
theorem mw_1007 : (Cond.fieldLink RX13 312 "ClauseBookModel" "dueBits" "I") ∈ lw_tbl ∧ goodWord (Cond.fieldLink RX13 312 "ClauseBookModel" "dueBits" "I") = true := ⟨lwt_3 _ (List.mem_of_getElem? (i := 232) rfl), by decide +kernel⟩
set_option maxRecDepth 20000 in
theorem mw_1352 : (Cond.code yX13_laysDues cX13_laysDues 5 (some .boolean)) ∈ lw_tbl ∧ goodWord (Cond.code yX13_laysDues cX13_laysDues 5 (some .boolean)) = true := ⟨lwt_5 _ (List.mem_of_getElem? (i := 97) rfl), by decide +kernel⟩
set_option maxRecDepth 20000 in
theorem mw_37 : (Cond.selects RX13 yX13_laysDues yX13_laysDues) ∈ lw_tbl ∧ goodWord (Cond.selects RX13 yX13_laysDues yX13_laysDues) = true := ⟨lwt_s _ (List.mem_of_getElem? (i := 37) rfl), by decide +kernel⟩
set_option maxRecDepth 20000 in
theorem mw_1351 : (Cond.instanceMethod yX13_laysDues) ∈ lw_tbl ∧ goodWord (Cond.instanceMethod yX13_laysDues) = true := ⟨lwt_5 _ (List.mem_of_getElem? (i := 96) rfl), by decide +kernel⟩
set_option maxRecDepth 20000 in
theorem mw_39 : (Cond.selects RX13 yX13_fallsTimes yX13_fallsTimes) ∈ lw_tbl ∧ goodWord (Cond.selects RX13 yX13_fallsTimes yX13_fallsTimes) = true := ⟨lwt_s _ (List.mem_of_getElem? (i := 39) rfl), by decide +kernel⟩
set_option maxRecDepth 20000 in
theorem mw_1359 : (Cond.instanceMethod yX13_fallsTimes) ∈ lw_tbl ∧ goodWord (Cond.instanceMethod yX13_fallsTimes) = true := ⟨lwt_5 _ (List.mem_of_getElem? (i := 104) rfl), by decide +kernel⟩
set_option maxRecDepth 20000 in
theorem mw_1357 : (Cond.methodLink RX13 315 yX13_fallsTimes) ∈ lw_tbl ∧ goodWord (Cond.methodLink RX13 315 yX13_fallsTimes) = true := ⟨lwt_5 _ (List.mem_of_getElem? (i := 102) rfl), by decide +kernel⟩
set_option maxRecDepth 20000 in
theorem mw_1356 : (Cond.code yX13_falls cX13_falls 10 none) ∈ lw_tbl ∧ goodWord (Cond.code yX13_falls cX13_falls 10 none) = true := ⟨lwt_5 _ (List.mem_of_getElem? (i := 101) rfl), by decide +kernel⟩
set_option maxRecDepth 20000 in
theorem mw_38 : (Cond.selects RX13 yX13_falls yX13_falls) ∈ lw_tbl ∧ goodWord (Cond.selects RX13 yX13_falls yX13_falls) = true := ⟨lwt_s _ (List.mem_of_getElem? (i := 38) rfl), by decide +kernel⟩
set_option maxRecDepth 20000 in
theorem mw_1355 : (Cond.instanceMethod yX13_falls) ∈ lw_tbl ∧ goodWord (Cond.instanceMethod yX13_falls) = true := ⟨lwt_5 _ (List.mem_of_getElem? (i := 100) rfl), by decide +kernel⟩
set_option maxRecDepth 20000 in
theorem mw_1353 : (Cond.methodLink RX13 319 yX13_falls) ∈ lw_tbl ∧ goodWord (Cond.methodLink RX13 319 yX13_falls) = true := ⟨lwt_5 _ (List.mem_of_getElem? (i := 98) rfl), by decide +kernel⟩
set_option maxRecDepth 20000 in
theorem mw_1360 : (Cond.code yX13_fallsTimes cX13_fallsTimes 10 none) ∈ lw_tbl ∧ goodWord (Cond.code yX13_fallsTimes cX13_fallsTimes 10 none) = true := ⟨lwt_5 _ (List.mem_of_getElem? (i := 105) rfl), by decide +kernel⟩
set_option maxRecDepth 20000 in
theorem mw_1364 : (Cond.code yX13_fallsBy cX13_fallsBy 6 none) ∈ lw_tbl ∧ goodWord (Cond.code yX13_fallsBy cX13_fallsBy 6 none) = true := ⟨lwt_5 _ (List.mem_of_getElem? (i := 109) rfl), by decide +kernel⟩
set_option maxRecDepth 20000 in
theorem mw_40 : (Cond.selects RX13 yX13_fallsBy yX13_fallsBy) ∈ lw_tbl ∧ goodWord (Cond.selects RX13 yX13_fallsBy yX13_fallsBy) = true := ⟨lwt_s _ (List.mem_of_getElem? (i := 40) rfl), by decide +kernel⟩
set_option maxRecDepth 20000 in
theorem mw_1363 : (Cond.instanceMethod yX13_fallsBy) ∈ lw_tbl ∧ goodWord (Cond.instanceMethod yX13_fallsBy) = true := ⟨lwt_5 _ (List.mem_of_getElem? (i := 108) rfl), by decide +kernel⟩
set_option maxRecDepth 20000 in
theorem mw_1361 : (Cond.methodLink RX13 323 yX13_fallsBy) ∈ lw_tbl ∧ goodWord (Cond.methodLink RX13 323 yX13_fallsBy) = true := ⟨lwt_5 _ (List.mem_of_getElem? (i := 106) rfl), by decide +kernel⟩
set_option maxRecDepth 20000 in
theorem mw_1368 : (Cond.code yX13_dueDays cX13_dueDays 4 (some .int)) ∈ lw_tbl ∧ goodWord (Cond.code yX13_dueDays cX13_dueDays 4 (some .int)) = true := ⟨lwt_5 _ (List.mem_of_getElem? (i := 113) rfl), by decide +kernel⟩
set_option maxRecDepth 20000 in
theorem mw_1372 : (Cond.code yX13_failed cX13_failed 13 (some .long)) ∈ lw_tbl ∧ goodWord (Cond.code yX13_failed cX13_failed 13 (some .long)) = true := ⟨lwt_5 _ (List.mem_of_getElem? (i := 117) rfl), by decide +kernel⟩
set_option maxRecDepth 20000 in
theorem mw_1376 : (Cond.code yX13_dues cX13_dues 7 (some .int)) ∈ lw_tbl ∧ goodWord (Cond.code yX13_dues cX13_dues 7 (some .int)) = true := ⟨lwt_5 _ (List.mem_of_getElem? (i := 121) rfl), by decide +kernel⟩
set_option maxRecDepth 20000 in
theorem mw_1380 : (Cond.constantLong RX13 408 (3)) ∈ lw_tbl ∧ goodWord (Cond.constantLong RX13 408 (3)) = true := ⟨lwt_5 _ (List.mem_of_getElem? (i := 125) rfl), by decide +kernel⟩
set_option maxRecDepth 20000 in
theorem mw_1379 : (Cond.code yX13_isSheet cX13_isSheet 1 (some .boolean)) ∈ lw_tbl ∧ goodWord (Cond.code yX13_isSheet cX13_isSheet 1 (some .boolean)) = true := ⟨lwt_5 _ (List.mem_of_getElem? (i := 124) rfl), by decide +kernel⟩
set_option maxRecDepth 20000 in
theorem mw_1378 : (Cond.static yX13_isSheet) ∈ lw_tbl ∧ goodWord (Cond.static yX13_isSheet) = true := ⟨lwt_5 _ (List.mem_of_getElem? (i := 123) rfl), by decide +kernel⟩
set_option maxRecDepth 20000 in
theorem mw_1377 : (Cond.methodLink RX13 332 yX13_isSheet) ∈ lw_tbl ∧ goodWord (Cond.methodLink RX13 332 yX13_isSheet) = true := ⟨lwt_5 _ (List.mem_of_getElem? (i := 122) rfl), by decide +kernel⟩
set_option maxRecDepth 20000 in
theorem mw_1385 : (Cond.methodLink RX13 410 yX13_wrong) ∈ lw_tbl ∧ goodWord (Cond.methodLink RX13 410 yX13_wrong) = true := ⟨lwt_5 _ (List.mem_of_getElem? (i := 130) rfl), by decide +kernel⟩
set_option maxRecDepth 20000 in
theorem mw_1384 : (Cond.code yX13_cell cX13_cell 6 (some .int)) ∈ lw_tbl ∧ goodWord (Cond.code yX13_cell cX13_cell 6 (some .int)) = true := ⟨lwt_5 _ (List.mem_of_getElem? (i := 129) rfl), by decide +kernel⟩
set_option maxRecDepth 20000 in
theorem mw_1383 : (Cond.selects RX13 yX13_cell yX13_cell) ∈ lw_tbl ∧ goodWord (Cond.selects RX13 yX13_cell yX13_cell) = true := ⟨lwt_5 _ (List.mem_of_getElem? (i := 128) rfl), by decide +kernel⟩
set_option maxRecDepth 20000 in
theorem mw_1382 : (Cond.instanceMethod yX13_cell) ∈ lw_tbl ∧ goodWord (Cond.instanceMethod yX13_cell) = true := ⟨lwt_5 _ (List.mem_of_getElem? (i := 127) rfl), by decide +kernel⟩
set_option maxRecDepth 20000 in
theorem mw_1381 : (Cond.methodLink RX13 335 yX13_cell) ∈ lw_tbl ∧ goodWord (Cond.methodLink RX13 335 yX13_cell) = true := ⟨lwt_5 _ (List.mem_of_getElem? (i := 126) rfl), by decide +kernel⟩
set_option maxRecDepth 20000 in
theorem mw_1388 : (Cond.code yX13_wrong cX13_wrong 3 (some .int)) ∈ lw_tbl ∧ goodWord (Cond.code yX13_wrong cX13_wrong 3 (some .int)) = true := ⟨lwt_5 _ (List.mem_of_getElem? (i := 133) rfl), by decide +kernel⟩
set_option maxRecDepth 20000 in
theorem mw_41 : (Cond.selects RX13 yX13_wrong yX13_wrong) ∈ lw_tbl ∧ goodWord (Cond.selects RX13 yX13_wrong yX13_wrong) = true := ⟨lwt_s _ (List.mem_of_getElem? (i := 41) rfl), by decide +kernel⟩
set_option maxRecDepth 20000 in
theorem mw_1387 : (Cond.instanceMethod yX13_wrong) ∈ lw_tbl ∧ goodWord (Cond.instanceMethod yX13_wrong) = true := ⟨lwt_5 _ (List.mem_of_getElem? (i := 132) rfl), by decide +kernel⟩
set_option maxRecDepth 20000 in
theorem mw_1392 : (Cond.code yX13_feed cX13_feed 4 (some .int)) ∈ lw_tbl ∧ goodWord (Cond.code yX13_feed cX13_feed 4 (some .int)) = true := ⟨lwt_5 _ (List.mem_of_getElem? (i := 137) rfl), by decide +kernel⟩
set_option maxRecDepth 20000 in
theorem mw_1009 : (Cond.fieldLink RX13 341 "ClauseBookModel" "taped" "I") ∈ lw_tbl ∧ goodWord (Cond.fieldLink RX13 341 "ClauseBookModel" "taped" "I") = true := ⟨lwt_3 _ (List.mem_of_getElem? (i := 234) rfl), by decide +kernel⟩
set_option maxRecDepth 20000 in
theorem mw_1393 : (Cond.constantLong RX13 339 (4)) ∈ lw_tbl ∧ goodWord (Cond.constantLong RX13 339 (4)) = true := ⟨lwt_5 _ (List.mem_of_getElem? (i := 138) rfl), by decide +kernel⟩
set_option maxRecDepth 20000 in
theorem mw_1397 : (Cond.code yX13_text cX13_text 3 (some .int)) ∈ lw_tbl ∧ goodWord (Cond.code yX13_text cX13_text 3 (some .int)) = true := ⟨lwt_5 _ (List.mem_of_getElem? (i := 142) rfl), by decide +kernel⟩
set_option maxRecDepth 20000 in
theorem mw_1409 : (Cond.code yX13_here cX13_here 1 (some .int)) ∈ lw_tbl ∧ goodWord (Cond.code yX13_here cX13_here 1 (some .int)) = true := ⟨lwt_5 _ (List.mem_of_getElem? (i := 154) rfl), by decide +kernel⟩
set_option maxRecDepth 20000 in
theorem mw_44 : (Cond.selects RX13 yX13_here yX13_here) ∈ lw_tbl ∧ goodWord (Cond.selects RX13 yX13_here yX13_here) = true := ⟨lwt_s _ (List.mem_of_getElem? (i := 44) rfl), by decide +kernel⟩
set_option maxRecDepth 20000 in
theorem mw_1408 : (Cond.instanceMethod yX13_here) ∈ lw_tbl ∧ goodWord (Cond.instanceMethod yX13_here) = true := ⟨lwt_5 _ (List.mem_of_getElem? (i := 153) rfl), by decide +kernel⟩
set_option maxRecDepth 20000 in
theorem mw_1406 : (Cond.methodLink RX13 350 yX13_here) ∈ lw_tbl ∧ goodWord (Cond.methodLink RX13 350 yX13_here) = true := ⟨lwt_5 _ (List.mem_of_getElem? (i := 151) rfl), by decide +kernel⟩
set_option maxRecDepth 20000 in
theorem mw_1405 : (Cond.code yX13_blanks cX13_blanks 1 none) ∈ lw_tbl ∧ goodWord (Cond.code yX13_blanks cX13_blanks 1 none) = true := ⟨lwt_5 _ (List.mem_of_getElem? (i := 150) rfl), by decide +kernel⟩
set_option maxRecDepth 20000 in
theorem mw_43 : (Cond.selects RX13 yX13_blanks yX13_blanks) ∈ lw_tbl ∧ goodWord (Cond.selects RX13 yX13_blanks yX13_blanks) = true := ⟨lwt_s _ (List.mem_of_getElem? (i := 43) rfl), by decide +kernel⟩
set_option maxRecDepth 20000 in
theorem mw_1404 : (Cond.instanceMethod yX13_blanks) ∈ lw_tbl ∧ goodWord (Cond.instanceMethod yX13_blanks) = true := ⟨lwt_5 _ (List.mem_of_getElem? (i := 149) rfl), by decide +kernel⟩
set_option maxRecDepth 20000 in
theorem mw_1402 : (Cond.methodLink RX13 358 yX13_blanks) ∈ lw_tbl ∧ goodWord (Cond.methodLink RX13 358 yX13_blanks) = true := ⟨lwt_5 _ (List.mem_of_getElem? (i := 147) rfl), by decide +kernel⟩
set_option maxRecDepth 20000 in
theorem mw_1016 : (Cond.fieldLink RX13 369 "ClauseBookModel" "value" "I") ∈ lw_tbl ∧ goodWord (Cond.fieldLink RX13 369 "ClauseBookModel" "value" "I") = true := ⟨lwt_4 _ (List.mem_of_getElem? (i := 1) rfl), by decide +kernel⟩
set_option maxRecDepth 20000 in
theorem mw_1411 : (Cond.constantLong RX13 385 (122)) ∈ lw_tbl ∧ goodWord (Cond.constantLong RX13 385 (122)) = true := ⟨lwt_5 _ (List.mem_of_getElem? (i := 156) rfl), by decide +kernel⟩
set_option maxRecDepth 20000 in
theorem mw_1410 : (Cond.constantLong RX13 383 (97)) ∈ lw_tbl ∧ goodWord (Cond.constantLong RX13 383 (97)) = true := ⟨lwt_5 _ (List.mem_of_getElem? (i := 155) rfl), by decide +kernel⟩
set_option maxRecDepth 20000 in
theorem mw_1401 : (Cond.code yX13_told cX13_told 6 (some .int)) ∈ lw_tbl ∧ goodWord (Cond.code yX13_told cX13_told 6 (some .int)) = true := ⟨lwt_5 _ (List.mem_of_getElem? (i := 146) rfl), by decide +kernel⟩
set_option maxRecDepth 20000 in
theorem mw_42 : (Cond.selects RX13 yX13_told yX13_told) ∈ lw_tbl ∧ goodWord (Cond.selects RX13 yX13_told yX13_told) = true := ⟨lwt_s _ (List.mem_of_getElem? (i := 42) rfl), by decide +kernel⟩
set_option maxRecDepth 20000 in
theorem mw_1400 : (Cond.instanceMethod yX13_told) ∈ lw_tbl ∧ goodWord (Cond.instanceMethod yX13_told) = true := ⟨lwt_5 _ (List.mem_of_getElem? (i := 145) rfl), by decide +kernel⟩
set_option maxRecDepth 20000 in
theorem mw_1398 : (Cond.methodLink RX13 402 yX13_told) ∈ lw_tbl ∧ goodWord (Cond.methodLink RX13 402 yX13_told) = true := ⟨lwt_5 _ (List.mem_of_getElem? (i := 143) rfl), by decide +kernel⟩
set_option maxRecDepth 20000 in
theorem mw_1012 : (Cond.fieldLink RX13 347 "ClauseBookModel" "fault" "I") ∈ lw_tbl ∧ goodWord (Cond.fieldLink RX13 347 "ClauseBookModel" "fault" "I") = true := ⟨lwt_3 _ (List.mem_of_getElem? (i := 237) rfl), by decide +kernel⟩
set_option maxRecDepth 20000 in
theorem mw_1015 : (Cond.fieldLink RX13 396 "ClauseBookModel" "room" "I") ∈ lw_tbl ∧ goodWord (Cond.fieldLink RX13 396 "ClauseBookModel" "room" "I") = true := ⟨lwt_4 _ (List.mem_of_getElem? (i := 0) rfl), by decide +kernel⟩
set_option maxRecDepth 20000 in
theorem mw_1014 : (Cond.fieldLink RX13 393 "ClauseBookModel" "open" "I") ∈ lw_tbl ∧ goodWord (Cond.fieldLink RX13 393 "ClauseBookModel" "open" "I") = true := ⟨lwt_3 _ (List.mem_of_getElem? (i := 239) rfl), by decide +kernel⟩
set_option maxRecDepth 20000 in
theorem mw_1013 : (Cond.fieldLink RX13 390 "ClauseBookModel" "read" "I") ∈ lw_tbl ∧ goodWord (Cond.fieldLink RX13 390 "ClauseBookModel" "read" "I") = true := ⟨lwt_3 _ (List.mem_of_getElem? (i := 238) rfl), by decide +kernel⟩
set_option maxRecDepth 20000 in
theorem mw_1011 : (Cond.fieldLink RX13 344 "ClauseBookModel" "cursor" "I") ∈ lw_tbl ∧ goodWord (Cond.fieldLink RX13 344 "ClauseBookModel" "cursor" "I") = true := ⟨lwt_3 _ (List.mem_of_getElem? (i := 236) rfl), by decide +kernel⟩
set_option maxRecDepth 20000 in
theorem mw_1420 : (Cond.methodLink RX13 376 yJ0_length_8abf5) ∈ lw_tbl ∧ goodWord (Cond.methodLink RX13 376 yJ0_length_8abf5) = true := ⟨lwt_5 _ (List.mem_of_getElem? (i := 165) rfl), by decide +kernel⟩
set_option maxRecDepth 20000 in
theorem mw_1419 : (Cond.code yX13_isWord cX13_isWord 5 (some .boolean)) ∈ lw_tbl ∧ goodWord (Cond.code yX13_isWord cX13_isWord 5 (some .boolean)) = true := ⟨lwt_5 _ (List.mem_of_getElem? (i := 164) rfl), by decide +kernel⟩
