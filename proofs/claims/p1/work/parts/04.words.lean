theorem piX1 : ∀ w ∈ u_ws RX1 TX1 4, w ∈ pxAll := fun w h => List.mem_filter.mpr ⟨(goodIn_r (big := lw_tbl) (u_ws RX1 TX1 4) [235, 237, 239, 241] (by decide +kernel) (by decide +kernel) w h).1, (List.all_eq_true.mp (by decide +kernel : (u_ws RX1 TX1 4).all goodWord = true) w h)⟩
theorem piX2 : ∀ w ∈ u_ws RX2 TX2 3, w ∈ pxAll := fun w h => List.mem_filter.mpr ⟨(goodIn_r (big := lw_tbl) (u_ws RX2 TX2 3) [191, 193, 195] (by decide +kernel) (by decide +kernel) w h).1, (List.all_eq_true.mp (by decide +kernel : (u_ws RX2 TX2 3).all goodWord = true) w h)⟩
theorem piX3 : ∀ w ∈ u_ws RX3 TX3 10, w ∈ pxAll := fun w h => List.mem_filter.mpr ⟨(goodIn_r (big := lw_tbl) (u_ws RX3 TX3 10) [158, 160, 162, 164, 166, 168, 170, 172, 174, 176] (by decide +kernel) (by decide +kernel) w h).1, (List.all_eq_true.mp (by decide +kernel : (u_ws RX3 TX3 10).all goodWord = true) w h)⟩
theorem piX4 : ∀ w ∈ u_ws RX4 TX4 4, w ∈ pxAll := fun w h => List.mem_filter.mpr ⟨(goodIn_r (big := lw_tbl) (u_ws RX4 TX4 4) [137, 139, 141, 143] (by decide +kernel) (by decide +kernel) w h).1, (List.all_eq_true.mp (by decide +kernel : (u_ws RX4 TX4 4).all goodWord = true) w h)⟩
theorem piX5 : ∀ w ∈ u_ws RX5 TX5 6, w ∈ pxAll := fun w h => List.mem_filter.mpr ⟨(goodIn_r (big := lw_tbl) (u_ws RX5 TX5 6) [210, 212, 214, 216, 218, 220] (by decide +kernel) (by decide +kernel) w h).1, (List.all_eq_true.mp (by decide +kernel : (u_ws RX5 TX5 6).all goodWord = true) w h)⟩
theorem piX6 : ∀ w ∈ u_ws RX6 TX6 8, w ∈ pxAll := fun w h => List.mem_filter.mpr ⟨(goodIn_r (big := lw_tbl) (u_ws RX6 TX6 8) [252, 254, 256, 258, 260, 262, 264, 266] (by decide +kernel) (by decide +kernel) w h).1, (List.all_eq_true.mp (by decide +kernel : (u_ws RX6 TX6 8).all goodWord = true) w h)⟩
theorem piX7 : ∀ w ∈ u_ws RX7 TX7 22, w ∈ pxAll := fun w h => List.mem_filter.mpr ⟨(goodIn_r (big := lw_tbl) (u_ws RX7 TX7 22) [1314, 1316, 1318, 1320, 1322, 1324, 1326, 1328, 1330, 1332, 1334, 1336, 1338, 1340, 1342, 1344, 1346, 1348, 1350, 1352, 1354, 1356] (by decide +kernel) (by decide +kernel) w h).1, (List.all_eq_true.mp (by decide +kernel : (u_ws RX7 TX7 22).all goodWord = true) w h)⟩
theorem pxh_x1 : ∀ w ∈ (vx_atS RX6 95 "java/lang/UnsupportedOperationException" ["java/lang/RuntimeException", "java/lang/Exception"]).filter (fun w => !goodWord w), w ∈ ([.castable "java/lang/UnsupportedOperationException" "java/lang/UnsupportedOperationException", .declares (pxIS "java/lang/RuntimeException"), .declares (pxIS "java/lang/Exception"), .declares (pxIS "java/lang/Throwable")] : List Cond) := by decide +kernel
theorem pxg_x1 : ∀ w ∈ Cond.classLink RX6 91 "java/lang/UnsupportedOperationException" :: Cond.initialized "java/lang/UnsupportedOperationException" :: (vx_atS RX6 95 "java/lang/UnsupportedOperationException" ["java/lang/RuntimeException", "java/lang/Exception"]), vx_ot w = true := by decide +kernel
theorem pxh_x3 : ∀ w ∈ (vx_atS RX6 109 "java/lang/IllegalArgumentException" ["java/lang/RuntimeException", "java/lang/Exception"]).filter (fun w => !goodWord w), w ∈ ([.castable "java/lang/IllegalArgumentException" "java/lang/IllegalArgumentException", .declares (pxIS "java/lang/RuntimeException"), .declares (pxIS "java/lang/Exception"), .declares (pxIS "java/lang/Throwable")] : List Cond) := by decide +kernel
theorem pxg_x3 : ∀ w ∈ Cond.classLink RX6 105 "java/lang/IllegalArgumentException" :: Cond.initialized "java/lang/IllegalArgumentException" :: (vx_atS RX6 109 "java/lang/IllegalArgumentException" ["java/lang/RuntimeException", "java/lang/Exception"]), vx_ot w = true := by decide +kernel
theorem pxh_x4 : ∀ w ∈ (vx_atS RX6 117 "java/lang/IllegalStateException" ["java/lang/RuntimeException", "java/lang/Exception"]).filter (fun w => !goodWord w), w ∈ ([.castable "java/lang/IllegalStateException" "java/lang/IllegalStateException", .declares (pxIS "java/lang/RuntimeException"), .declares (pxIS "java/lang/Exception"), .declares (pxIS "java/lang/Throwable")] : List Cond) := by decide +kernel
theorem pxg_x4 : ∀ w ∈ Cond.classLink RX6 113 "java/lang/IllegalStateException" :: Cond.initialized "java/lang/IllegalStateException" :: (vx_atS RX6 117 "java/lang/IllegalStateException" ["java/lang/RuntimeException", "java/lang/Exception"]), vx_ot w = true := by decide +kernel
theorem pxh_x6 : ∀ w ∈ (vx_atS RX6 280 "java/lang/IndexOutOfBoundsException" ["java/lang/RuntimeException", "java/lang/Exception"]).filter (fun w => !goodWord w), w ∈ ([.castable "java/lang/IndexOutOfBoundsException" "java/lang/IndexOutOfBoundsException", .declares (pxIS "java/lang/RuntimeException"), .declares (pxIS "java/lang/Exception"), .declares (pxIS "java/lang/Throwable")] : List Cond) := by decide +kernel
theorem pxg_x6 : ∀ w ∈ Cond.classLink RX6 276 "java/lang/IndexOutOfBoundsException" :: Cond.initialized "java/lang/IndexOutOfBoundsException" :: (vx_atS RX6 280 "java/lang/IndexOutOfBoundsException" ["java/lang/RuntimeException", "java/lang/Exception"]), vx_ot w = true := by decide +kernel
theorem pxh_x7 : ∀ w ∈ (vx_atS RX6 288 "java/lang/ArithmeticException" ["java/lang/RuntimeException", "java/lang/Exception"]).filter (fun w => !goodWord w), w ∈ ([.castable "java/lang/ArithmeticException" "java/lang/ArithmeticException", .declares (pxIS "java/lang/RuntimeException"), .declares (pxIS "java/lang/Exception"), .declares (pxIS "java/lang/Throwable")] : List Cond) := by decide +kernel
theorem pxg_x7 : ∀ w ∈ Cond.classLink RX6 284 "java/lang/ArithmeticException" :: Cond.initialized "java/lang/ArithmeticException" :: (vx_atS RX6 288 "java/lang/ArithmeticException" ["java/lang/RuntimeException", "java/lang/Exception"]), vx_ot w = true := by decide +kernel
theorem pm0 : Cond.classLink RL 8 RX6 ∈ pxAll := pxM 112 (by decide +kernel) rfl
theorem pm1 : Cond.instantiable RX6 8 ∈ pxAll := pxM 113 (by decide +kernel) rfl
theorem pm2 : Cond.initialized RX6 ∈ pxAll := pxM 83 (by decide +kernel) rfl
theorem pm3 : Cond.methodLink RX6 1 objectInit ∈ pxAll := pxM 117 (by decide +kernel) rfl
theorem pm4 : Cond.instanceMethod objectInit ∈ pxAll := pxM 118 (by decide +kernel) rfl
set_option maxRecDepth 100000 in
theorem pm5 : Cond.code objectInit ⟨#[0xb1]⟩ 1 none ∈ pxAll := pxM 119 rfl rfl
theorem pm6 : Cond.classLink RX6 7 RX3 ∈ pxAll := pxM 120 (by decide +kernel) rfl
theorem pm7 : Cond.instantiable RX3 10 ∈ pxAll := pxM 121 (by decide +kernel) rfl
theorem pm8 : Cond.initialized RX3 ∈ pxAll := pxM 84 (by decide +kernel) rfl
theorem pm9 : Cond.methodLink RX3 3 objectInit ∈ pxAll := pxM 125 (by decide +kernel) rfl
theorem pm10 : Cond.classLink RX3 9 RX4 ∈ pxAll := pxM 126 (by decide +kernel) rfl
theorem pm11 : Cond.fieldLink RX3 11 "MortgageRegister$Ledger" "rows" "[LMortgageRegister$Row;" ∈ pxAll := pxM 148 (by decide +kernel) rfl
theorem pm12 : Cond.arrayClass .int ∈ pxAll := pxM 146 (by decide +kernel) rfl
theorem pm13 : Cond.fieldLink RX3 17 "MortgageRegister$Ledger" "worths" "[I" ∈ pxAll := pxM 149 (by decide +kernel) rfl
theorem pm14 : Cond.fieldLink RX3 21 "MortgageRegister$Ledger" "prices" "[I" ∈ pxAll := pxM 150 (by decide +kernel) rfl
theorem pm15 : Cond.fieldLink RX3 24 "MortgageRegister$Ledger" "creditors" "[I" ∈ pxAll := pxM 151 (by decide +kernel) rfl
theorem pm16 : Cond.fieldLink RX3 27 "MortgageRegister$Ledger" "debts" "[I" ∈ pxAll := pxM 152 (by decide +kernel) rfl
theorem pm17 : Cond.fieldLink RX3 30 "MortgageRegister$Ledger" "receipts" "[I" ∈ pxAll := pxM 153 (by decide +kernel) rfl
theorem pm18 : Cond.fieldLink RX3 33 "MortgageRegister$Ledger" "gains" "[I" ∈ pxAll := pxM 154 (by decide +kernel) rfl
theorem pm19 : Cond.arrayClass .long ∈ pxAll := pxM 147 (by decide +kernel) rfl
theorem pm20 : Cond.fieldLink RX3 36 "MortgageRegister$Ledger" "accounts" "[J" ∈ pxAll := pxM 155 (by decide +kernel) rfl
theorem pm21 : Cond.instantiable RX4 4 ∈ pxAll := pxM 128 (by decide +kernel) rfl
theorem pm22 : Cond.initialized RX4 ∈ pxAll := pxM 85 (by decide +kernel) rfl
theorem pm23 : Cond.methodLink RX4 1 objectInit ∈ pxAll := pxM 132 (by decide +kernel) rfl
theorem pm24 : Cond.fieldLink RX4 9 "MortgageRegister$Row" "owners" "[I" ∈ pxAll := pxM 133 (by decide +kernel) rfl
theorem pm25 : Cond.fieldLink RX4 13 "MortgageRegister$Row" "amounts" "[I" ∈ pxAll := pxM 134 (by decide +kernel) rfl
theorem pm26 : Cond.fieldLink RX4 16 "MortgageRegister$Row" "ranks" "[I" ∈ pxAll := pxM 135 (by decide +kernel) rfl
set_option maxRecDepth 100000 in
theorem pm27 : Cond.code yX4_init cX4_init 1 none ∈ pxAll := pxM 131 rfl rfl
theorem pm28 : Cond.instanceMethod yX4_init ∈ pxAll := pxM 130 (by decide +kernel) rfl
set_option maxRecDepth 100000 in
theorem pm29 : Cond.code yX3_init cX3_init 2 none ∈ pxAll := pxM 124 rfl rfl
theorem pm30 : Cond.methodLink RX6 9 yX3_init ∈ pxAll := pxM 122 (by decide +kernel) rfl
theorem pm31 : Cond.instanceMethod yX3_init ∈ pxAll := pxM 123 (by decide +kernel) rfl
theorem pm32 : Cond.fieldLink RX6 10 "MortgageRegister" "ledger" "LMortgageRegister$Ledger;" ∈ pxAll := pxM 244 (by decide +kernel) rfl
theorem pm33 : Cond.classLink RX6 16 RX2 ∈ pxAll := pxM 179 (by decide +kernel) rfl
theorem pm34 : Cond.instantiable RX2 3 ∈ pxAll := pxM 180 (by decide +kernel) rfl
theorem pm35 : Cond.initialized RX2 ∈ pxAll := pxM 86 (by decide +kernel) rfl
theorem pm36 : Cond.methodLink RX2 3 objectInit ∈ pxAll := pxM 184 (by decide +kernel) rfl
theorem pm37 : Cond.classLink RX2 11 RX3 ∈ pxAll := pxM 185 (by decide +kernel) rfl
theorem pm38 : Cond.fieldLink RX2 13 "MortgageRegister$History" "ring" "[LMortgageRegister$Ledger;" ∈ pxAll := pxM 188 (by decide +kernel) rfl
theorem pm39 : Cond.methodLink RX2 17 yX3_init ∈ pxAll := pxM 187 (by decide +kernel) rfl
set_option maxRecDepth 100000 in
theorem pm40 : Cond.code yX2_init cX2_init 2 none ∈ pxAll := pxM 183 rfl rfl
theorem pm41 : Cond.methodLink RX6 18 yX2_init ∈ pxAll := pxM 181 (by decide +kernel) rfl
theorem pm42 : Cond.instanceMethod yX2_init ∈ pxAll := pxM 182 (by decide +kernel) rfl
theorem pm43 : Cond.fieldLink RX6 19 "MortgageRegister" "history" "LMortgageRegister$History;" ∈ pxAll := pxM 245 (by decide +kernel) rfl
theorem pm44 : Cond.fieldLink RX6 23 "MortgageRegister" "snapshot" "LMortgageRegister$Ledger;" ∈ pxAll := pxM 246 (by decide +kernel) rfl
theorem pm45 : Cond.classLink RX6 26 RX5 ∈ pxAll := pxM 198 (by decide +kernel) rfl
theorem pm46 : Cond.instantiable RX5 6 ∈ pxAll := pxM 199 (by decide +kernel) rfl
theorem pm47 : Cond.initialized RX5 ∈ pxAll := pxM 87 (by decide +kernel) rfl
theorem pm48 : Cond.methodLink RX5 3 objectInit ∈ pxAll := pxM 203 (by decide +kernel) rfl
theorem pm49 : Cond.arrayClass .char ∈ pxAll := pxM 223 (by decide +kernel) rfl
theorem pm50 : Cond.fieldLink RX5 9 "MortgageRegister$Text" "signs" "[C" ∈ pxAll := pxM 204 (by decide +kernel) rfl
theorem pm51 : Cond.fieldLink RX5 15 "MortgageRegister$Text" "kinds" "[C" ∈ pxAll := pxM 205 (by decide +kernel) rfl
theorem pm52 : Cond.fieldLink RX5 18 "MortgageRegister$Text" "numbers" "[I" ∈ pxAll := pxM 206 (by decide +kernel) rfl
set_option maxRecDepth 100000 in
theorem pm53 : Cond.code yX5_init cX5_init 1 none ∈ pxAll := pxM 202 rfl rfl
theorem pm54 : Cond.instanceMethod yX5_init ∈ pxAll := pxM 201 (by decide +kernel) rfl
theorem pm55 : Cond.fieldLink RX6 29 "MortgageRegister" "text" "LMortgageRegister$Text;" ∈ pxAll := pxM 247 (by decide +kernel) rfl
theorem pm56 : Cond.classLink RX6 33 RX1 ∈ pxAll := pxM 224 (by decide +kernel) rfl
theorem pm57 : Cond.fieldLink RX6 35 "MortgageRegister" "drawers" "[LMortgageRegister$Drawer;" ∈ pxAll := pxM 248 (by decide +kernel) rfl
theorem pm58 : Cond.fieldLink RX6 39 "MortgageRegister" "fault" "I" ∈ pxAll := pxM 251 (by decide +kernel) rfl
theorem pm59 : Cond.instantiable RX1 4 ∈ pxAll := pxM 226 (by decide +kernel) rfl
theorem pm60 : Cond.initialized RX1 ∈ pxAll := pxM 88 (by decide +kernel) rfl
theorem pm61 : Cond.methodLink RX1 3 objectInit ∈ pxAll := pxM 230 (by decide +kernel) rfl
theorem pm62 : Cond.fieldLink RX1 9 "MortgageRegister$Drawer" "numbers" "[I" ∈ pxAll := pxM 231 (by decide +kernel) rfl
theorem pm63 : Cond.fieldLink RX1 15 "MortgageRegister$Drawer" "values" "[I" ∈ pxAll := pxM 232 (by decide +kernel) rfl
set_option maxRecDepth 100000 in
theorem pm64 : Cond.code yX1_init cX1_init 1 none ∈ pxAll := pxM 229 rfl rfl
theorem pm65 : Cond.instanceMethod yX1_init ∈ pxAll := pxM 228 (by decide +kernel) rfl
set_option maxRecDepth 100000 in
theorem pm66 : Cond.code yX6_init cX6_init 2 none ∈ pxAll := pxM 116 rfl rfl
theorem pm67 : Cond.methodLink RL 137 yX6_init ∈ pxAll := pxM 114 (by decide +kernel) rfl
theorem pm68 : Cond.instanceMethod yX6_init ∈ pxAll := pxM 115 (by decide +kernel) rfl
theorem pm69 : Cond.classLink RL 138 RX7 ∈ pxAll := pxM 1285 (by decide +kernel) rfl
theorem pm70 : Cond.instantiable RX7 22 ∈ pxAll := pxM 1286 (by decide +kernel) rfl
theorem pm71 : Cond.initialized RX7 ∈ pxAll := pxM 89 (by decide +kernel) rfl
theorem pm72 : Cond.methodLink RX7 3 objectInit ∈ pxAll := pxM 1290 (by decide +kernel) rfl
theorem pm73 : Cond.fieldLink RX7 9 "MortgageRegisterModel" "s" "[I" ∈ pxAll := pxM 1292 (by decide +kernel) rfl
theorem pm74 : Cond.fieldLink RX7 13 "MortgageRegisterModel" "before" "[I" ∈ pxAll := pxM 1293 (by decide +kernel) rfl
theorem pm75 : Cond.fieldLink RX7 16 "MortgageRegisterModel" "saved" "[I" ∈ pxAll := pxM 1294 (by decide +kernel) rfl
theorem pm76 : Cond.constant RX7 19 (39128) ∈ pxAll := pxM 1291 (by decide +kernel) rfl
theorem pm77 : Cond.fieldLink RX7 20 "MortgageRegisterModel" "past" "[I" ∈ pxAll := pxM 1296 (by decide +kernel) rfl
theorem pm78 : Cond.fieldLink RX7 23 "MortgageRegisterModel" "got" "[I" ∈ pxAll := pxM 1301 (by decide +kernel) rfl
theorem pm79 : Cond.fieldLink RX7 26 "MortgageRegisterModel" "buffer" "[I" ∈ pxAll := pxM 1303 (by decide +kernel) rfl
theorem pm80 : Cond.fieldLink RX7 29 "MortgageRegisterModel" "fault" "I" ∈ pxAll := pxM 1307 (by decide +kernel) rfl
theorem pm81 : Cond.fieldLink RX7 33 "MortgageRegisterModel" "entryKind" "[I" ∈ pxAll := pxM 1308 (by decide +kernel) rfl
theorem pm82 : Cond.fieldLink RX7 36 "MortgageRegisterModel" "entryNumber" "[I" ∈ pxAll := pxM 1309 (by decide +kernel) rfl
theorem pm83 : Cond.fieldLink RX7 39 "MortgageRegisterModel" "places" "[I" ∈ pxAll := pxM 1311 (by decide +kernel) rfl
theorem pm84 : Cond.fieldLink RX7 42 "MortgageRegisterModel" "sorts" "[I" ∈ pxAll := pxM 1312 (by decide +kernel) rfl
theorem pm85 : Cond.fieldLink RX7 45 "MortgageRegisterModel" "filed" "[I" ∈ pxAll := pxM 1313 (by decide +kernel) rfl
set_option maxRecDepth 100000 in
theorem pm86 : Cond.code yX7_init cX7_init 1 none ∈ pxAll := pxM 1289 rfl rfl
theorem pm87 : Cond.methodLink RL 140 yX7_init ∈ pxAll := pxM 1287 (by decide +kernel) rfl
theorem pm88 : Cond.instanceMethod yX7_init ∈ pxAll := pxM 1288 (by decide +kernel) rfl
theorem pm89 : Cond.arrayClass .double ∈ pxAll := pxM 1782 (by decide +kernel) rfl
