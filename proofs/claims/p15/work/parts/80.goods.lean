set_option maxRecDepth 40000 in
theorem lgg_X10 : GoodIn lw_tbl wsX10 := goodIn_r _ [193, 195] rfl (by decide +kernel)
set_option maxRecDepth 40000 in
theorem lgg_X20 : GoodIn lw_tbl wsX20 := goodIn_r _ [164, 166, 168, 170, 172, 174, 176, 178] rfl (by decide +kernel)
set_option maxRecDepth 40000 in
theorem lgg_X30 : GoodIn lw_tbl wsX30 := goodIn_r _ [255, 257, 259, 261, 263, 265, 267] rfl (by decide +kernel)
set_option maxRecDepth 40000 in
theorem lgg_X40 : GoodIn lw_tbl wsX40 := goodIn_r _ [345, 347, 349, 351] rfl (by decide +kernel)
set_option maxRecDepth 40000 in
theorem lgg_X60 : GoodIn lw_tbl wsX60 := goodIn_r _ [204, 206, 208] rfl (by decide +kernel)
set_option maxRecDepth 40000 in
theorem lgg_X80 : GoodIn lw_tbl wsX80 := goodIn_r _ [118, 120, 122, 124, 126, 128, 130] rfl (by decide +kernel)
set_option maxRecDepth 40000 in
theorem lgg_X90 : GoodIn lw_tbl wsX90 := goodIn_r _ [317, 319, 321, 323, 325, 327] rfl (by decide +kernel)
set_option maxRecDepth 40000 in
theorem lgg_X100 : GoodIn lw_tbl wsX100 := goodIn_r _ [285, 287, 289, 291, 293, 295, 297] rfl (by decide +kernel)
set_option maxRecDepth 40000 in
theorem lgg_X110 : GoodIn lw_tbl wsX110 := goodIn_r _ [225, 227, 229, 231, 233, 235] rfl (by decide +kernel)
set_option maxRecDepth 40000 in
theorem lgg_X120 : GoodIn lw_tbl wsX120 := goodIn_r _ [365, 367, 369, 371, 373, 375, 377, 379, 381, 383, 385] rfl (by decide +kernel)
set_option maxRecDepth 40000 in
theorem lgg_X130 : GoodIn lw_tbl wsX130 := goodIn_r _ [1028, 1030, 1032, 1034, 1036, 1038, 1040, 1042, 1044, 1046, 1048, 1050, 1052, 1054, 1056, 1058, 1060, 1062, 1064, 1066, 1068, 1070, 1072, 1074, 1076, 1078, 1080, 1082, 1084, 1086, 1088, 1090, 1092, 1094, 1096, 1098, 1100, 1102, 1104, 1106, 1108, 1110, 1112, 1114, 1116] rfl (by decide +kernel)
