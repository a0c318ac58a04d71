set_option maxRecDepth 20000 in
theorem inTX0 : ∀ w ∈ u_ws RX0 TX0 2, w ∈ lw_tbl ∧ goodWord w = true := by decide +kernel
theorem inGX0 : ∀ w ∈ u_ws RX0 TX0 2, w ∈ GW := fun w h => List.mem_filter.mpr (inTX0 w h)
set_option maxRecDepth 20000 in
theorem inTX1 : ∀ w ∈ u_ws RX1 TX1 7, w ∈ lw_tbl ∧ goodWord w = true := by decide +kernel
theorem inGX1 : ∀ w ∈ u_ws RX1 TX1 7, w ∈ GW := fun w h => List.mem_filter.mpr (inTX1 w h)
set_option maxRecDepth 20000 in
theorem inTX2 : ∀ w ∈ u_ws RX2 TX2 8, w ∈ lw_tbl ∧ goodWord w = true := by decide +kernel
theorem inGX2 : ∀ w ∈ u_ws RX2 TX2 8, w ∈ GW := fun w h => List.mem_filter.mpr (inTX2 w h)
set_option maxRecDepth 20000 in
theorem inTX3 : ∀ w ∈ u_ws RX3 TX3 12, w ∈ lw_tbl ∧ goodWord w = true := by decide +kernel
theorem inGX3 : ∀ w ∈ u_ws RX3 TX3 12, w ∈ GW := fun w h => List.mem_filter.mpr (inTX3 w h)
set_option maxRecDepth 20000 in
theorem inTX4 : ∀ w ∈ u_ws RX4 TX4 1, w ∈ lw_tbl ∧ goodWord w = true := by decide +kernel
theorem inGX4 : ∀ w ∈ u_ws RX4 TX4 1, w ∈ GW := fun w h => List.mem_filter.mpr (inTX4 w h)
set_option maxRecDepth 20000 in
theorem inTX5 : ∀ w ∈ u_ws RX5 TX5 4, w ∈ lw_tbl ∧ goodWord w = true := by decide +kernel
theorem inGX5 : ∀ w ∈ u_ws RX5 TX5 4, w ∈ GW := fun w h => List.mem_filter.mpr (inTX5 w h)
set_option maxRecDepth 20000 in
theorem inTX6 : ∀ w ∈ u_ws RX6 TX6 13, w ∈ lw_tbl ∧ goodWord w = true := by decide +kernel
theorem inGX6 : ∀ w ∈ u_ws RX6 TX6 13, w ∈ GW := fun w h => List.mem_filter.mpr (inTX6 w h)
set_option maxRecDepth 20000 in
theorem inTX7 : ∀ w ∈ u_ws RX7 TX7 4, w ∈ lw_tbl ∧ goodWord w = true := by decide +kernel
theorem inGX7 : ∀ w ∈ u_ws RX7 TX7 4, w ∈ GW := fun w h => List.mem_filter.mpr (inTX7 w h)
set_option maxRecDepth 20000 in
theorem inTX8 : ∀ w ∈ u_ws RX8 TX8 14, w ∈ lw_tbl ∧ goodWord w = true := by decide +kernel
theorem inGX8 : ∀ w ∈ u_ws RX8 TX8 14, w ∈ GW := fun w h => List.mem_filter.mpr (inTX8 w h)
set_option maxRecDepth 20000 in
theorem inTX9 : ∀ w ∈ u_ws RX9 TX9 6, w ∈ lw_tbl ∧ goodWord w = true := by decide +kernel
theorem inGX9 : ∀ w ∈ u_ws RX9 TX9 6, w ∈ GW := fun w h => List.mem_filter.mpr (inTX9 w h)
set_option maxRecDepth 20000 in
theorem inTX10 : ∀ w ∈ u_ws RX10 TX10 20, w ∈ lw_tbl ∧ goodWord w = true := by decide +kernel
theorem inGX10 : ∀ w ∈ u_ws RX10 TX10 20, w ∈ GW := fun w h => List.mem_filter.mpr (inTX10 w h)
set_option maxRecDepth 20000 in
theorem inTX11 : ∀ w ∈ u_ws RX11 TX11 49, w ∈ lw_tbl ∧ goodWord w = true := by decide +kernel
theorem inGX11 : ∀ w ∈ u_ws RX11 TX11 49, w ∈ GW := fun w h => List.mem_filter.mpr (inTX11 w h)
theorem kw_1 : Cond.initialized "DimStars" ∈ GW := gw_t (mt1 1 rfl) rfl
theorem kw_10 : Cond.initialized "DimStarsModel" ∈ GW := gw_t (mt1 10 rfl) rfl
theorem kw_1025 : Cond.methodLink "DimStars" 343 ⟨"DimStars", "isWeighed", "(III)Z"⟩ ∈ GW := gw_t (mt5 65 rfl) rfl
theorem kw_1027 : Cond.instanceMethod ⟨"DimStars", "isWeighed", "(III)Z"⟩ ∈ GW := gw_t (mt5 67 rfl) rfl
theorem kw_1028 : Cond.code yX10_isWeighed cX10_isWeighed 4 (some .boolean) ∈ GW := gw_t (mt5 68 rfl) rfl
theorem kw_1029 : Cond.methodLink "DimStars" 349 ⟨"DimStars", "sorterAt", "(I)LDimStars$Text;"⟩ ∈ GW := gw_t (mt5 69 rfl) rfl
theorem kw_1031 : Cond.instanceMethod ⟨"DimStars", "sorterAt", "(I)LDimStars$Text;"⟩ ∈ GW := gw_t (mt5 71 rfl) rfl
theorem kw_1032 : Cond.code yX10_sorterAt cX10_sorterAt 2 (some (.object "DimStars$Text")) ∈ GW := gw_t (mt5 72 rfl) rfl
theorem kw_11 : Cond.initialized "DimStars$Star" ∈ GW := gw_t (mt1 11 rfl) rfl
theorem kw_114 : Cond.fieldLink "DimStars$Text" 27 "DimStars$Text" "noise" "I" ∈ GW := gw_t (mt1 114 rfl) rfl
theorem kw_1155 : Cond.constantLong "DimStars" 408 (-1000000000) ∈ GW := gw_t (mt5 195 rfl) rfl
theorem kw_117 : Cond.fieldLink "DimStars$Text" 31 "DimStars$Text" "beatFrom" "I" ∈ GW := gw_t (mt1 117 rfl) rfl
theorem kw_1178 : Cond.instanceMethod ⟨"DimStars$Sky", "numbers", "()I"⟩ ∈ GW := gw_t (mt5 218 rfl) rfl
theorem kw_1179 : Cond.code yX6_numbers cX6_numbers 4 (some .int) ∈ GW := gw_t (mt5 219 rfl) rfl
theorem kw_12 : Cond.initialized "java/util/Arrays" ∈ GW := gw_t (mt1 12 rfl) rfl
theorem kw_120 : Cond.fieldLink "DimStars$Text" 34 "DimStars$Text" "beatTo" "I" ∈ GW := gw_t (mt1 120 rfl) rfl
theorem kw_1208 : Cond.fieldLink "DimStarsModel" 7 "DimStarsModel" "told" "[I" ∈ GW := gw_t (mt6 8 rfl) rfl
theorem kw_1210 : Cond.fieldLink "DimStarsModel" 16 "DimStarsModel" "tape" "[B" ∈ GW := gw_t (mt6 10 rfl) rfl
theorem kw_1211 : Cond.fieldLink "DimStarsModel" 169 "DimStarsModel" "taped" "I" ∈ GW := gw_t (mt6 11 rfl) rfl
theorem kw_1212 : Cond.fieldLink "DimStarsModel" 20 "DimStarsModel" "texts" "[I" ∈ GW := gw_t (mt6 12 rfl) rfl
theorem kw_1214 : Cond.fieldLink "DimStarsModel" 26 "DimStarsModel" "length" "[I" ∈ GW := gw_t (mt6 14 rfl) rfl
theorem kw_1216 : Cond.fieldLink "DimStarsModel" 32 "DimStarsModel" "clauses" "[I" ∈ GW := gw_t (mt6 16 rfl) rfl
theorem kw_1217 : Cond.fieldLink "DimStarsModel" 35 "DimStarsModel" "noise" "[I" ∈ GW := gw_t (mt6 17 rfl) rfl
theorem kw_1218 : Cond.fieldLink "DimStarsModel" 38 "DimStarsModel" "beatFrom" "[I" ∈ GW := gw_t (mt6 18 rfl) rfl
theorem kw_1220 : Cond.fieldLink "DimStarsModel" 44 "DimStarsModel" "longFrom" "[I" ∈ GW := gw_t (mt6 20 rfl) rfl
theorem kw_1222 : Cond.fieldLink "DimStarsModel" 50 "DimStarsModel" "least" "[I" ∈ GW := gw_t (mt6 22 rfl) rfl
theorem kw_1223 : Cond.fieldLink "DimStarsModel" 53 "DimStarsModel" "bar" "[I" ∈ GW := gw_t (mt6 23 rfl) rfl
theorem kw_1224 : Cond.fieldLink "DimStarsModel" 180 "DimStarsModel" "next" "I" ∈ GW := gw_t (mt6 24 rfl) rfl
theorem kw_1225 : Cond.fieldLink "DimStarsModel" 177 "DimStarsModel" "wrong" "I" ∈ GW := gw_t (mt6 25 rfl) rfl
theorem kw_1227 : Cond.fieldLink "DimStarsModel" 206 "DimStarsModel" "text" "I" ∈ GW := gw_t (mt6 27 rfl) rfl
theorem kw_1228 : Cond.fieldLink "DimStarsModel" 237 "DimStarsModel" "made" "I" ∈ GW := gw_t (mt6 28 rfl) rfl
theorem kw_123 : Cond.fieldLink "DimStars$Text" 37 "DimStars$Text" "longFrom" "I" ∈ GW := gw_t (mt1 123 rfl) rfl
theorem kw_1230 : Cond.fieldLink "DimStarsModel" 335 "DimStarsModel" "lines" "I" ∈ GW := gw_t (mt6 30 rfl) rfl
theorem kw_1256 : Cond.fieldLink "DimStarsModel" 93 "DimStarsModel" "isMade" "[Z" ∈ GW := gw_t (mt6 56 rfl) rfl
theorem kw_126 : Cond.fieldLink "DimStars$Text" 40 "DimStars$Text" "longTo" "I" ∈ GW := gw_t (mt1 126 rfl) rfl
theorem kw_129 : Cond.fieldLink "DimStars$Text" 43 "DimStars$Text" "least" "I" ∈ GW := gw_t (mt1 129 rfl) rfl
theorem kw_133 : Cond.fieldLink "DimStars$Text" 46 "DimStars$Text" "line" "I" ∈ GW := gw_t (mt1 133 rfl) rfl
theorem kw_1361 : Cond.constantLong "DimStarsModel" 97 (999) ∈ GW := gw_t (mt6 161 rfl) rfl
theorem kw_1362 : Cond.methodLink "DimStarsModel" 99 ⟨"DimStarsModel", "in", "(JJJ)Z"⟩ ∈ GW := gw_t (mt6 162 rfl) rfl
theorem kw_1363 : Cond.static ⟨"DimStarsModel", "in", "(JJJ)Z"⟩ ∈ GW := gw_t (mt6 163 rfl) rfl
theorem kw_1364 : Cond.code yX11_in cX11_in 6 (some .boolean) ∈ GW := gw_t (mt6 164 rfl) rfl
theorem kw_1365 : Cond.constantLong "DimStarsModel" 103 (7) ∈ GW := gw_t (mt6 165 rfl) rfl
theorem kw_1366 : Cond.constantLong "DimStarsModel" 105 (1000) ∈ GW := gw_t (mt6 166 rfl) rfl
theorem kw_1367 : Cond.constant "DimStarsModel" 107 (-100000) ∈ GW := gw_t (mt6 167 rfl) rfl
theorem kw_137 : Cond.fieldLink "DimStars$Text" 49 "DimStars$Text" "clauses" "I" ∈ GW := gw_t (mt1 137 rfl) rfl
theorem kw_1372 : Cond.methodLink "DimStarsModel" 108 ⟨"DimStarsModel", "isStar", "(I)Z"⟩ ∈ GW := gw_t (mt6 172 rfl) rfl
theorem kw_1374 : Cond.instanceMethod ⟨"DimStarsModel", "isStar", "(I)Z"⟩ ∈ GW := gw_t (mt6 174 rfl) rfl
theorem kw_1375 : Cond.code yX11_isStar cX11_isStar 2 (some .boolean) ∈ GW := gw_t (mt6 175 rfl) rfl
theorem kw_1380 : Cond.constantLong "DimStarsModel" 117 (30000) ∈ GW := gw_t (mt6 180 rfl) rfl
theorem kw_1381 : Cond.constant "DimStarsModel" 119 (-200000) ∈ GW := gw_t (mt6 181 rfl) rfl
theorem kw_1394 : Cond.constantLong "DimStarsModel" 124 (50) ∈ GW := gw_t (mt6 194 rfl) rfl
theorem kw_1399 : Cond.constantLong "DimStarsModel" 126 (12) ∈ GW := gw_t (mt6 199 rfl) rfl
theorem kw_14 : Cond.initialized "java/lang/Math" ∈ GW := gw_t (mt1 14 rfl) rfl
theorem kw_1404 : Cond.constantLong "DimStarsModel" 128 (23) ∈ GW := gw_t (mt6 204 rfl) rfl
theorem kw_1443 : Cond.constantLong "DimStarsModel" 160 (2) ∈ GW := gw_t (mt7 3 rfl) rfl
theorem kw_1450 : Cond.methodLink "DimStarsModel" 173 ⟨"DimStarsModel", "four", "(I)V"⟩ ∈ GW := gw_t (mt7 10 rfl) rfl
theorem kw_1452 : Cond.instanceMethod ⟨"DimStarsModel", "four", "(I)V"⟩ ∈ GW := gw_t (mt7 12 rfl) rfl
theorem kw_1453 : Cond.code yX11_four cX11_four 3 none ∈ GW := gw_t (mt7 13 rfl) rfl
theorem kw_1462 : Cond.methodLink "DimStarsModel" 344 ⟨"DimStarsModel", "clauseHere", "()Z"⟩ ∈ GW := gw_t (mt7 22 rfl) rfl
theorem kw_1464 : Cond.instanceMethod ⟨"DimStarsModel", "clauseHere", "()Z"⟩ ∈ GW := gw_t (mt7 24 rfl) rfl
theorem kw_1465 : Cond.code yX11_clauseHere cX11_clauseHere 5 (some .boolean) ∈ GW := gw_t (mt7 25 rfl) rfl
theorem kw_1466 : Cond.methodLink "DimStarsModel" 183 ⟨"DimStarsModel", "see", "()I"⟩ ∈ GW := gw_t (mt7 26 rfl) rfl
theorem kw_1468 : Cond.instanceMethod ⟨"DimStarsModel", "see", "()I"⟩ ∈ GW := gw_t (mt7 28 rfl) rfl
theorem kw_1469 : Cond.code yX11_see cX11_see 1 (some .int) ∈ GW := gw_t (mt7 29 rfl) rfl
theorem kw_1470 : Cond.constantLong "DimStarsModel" 321 (512970878052) ∈ GW := gw_t (mt7 30 rfl) rfl
theorem kw_1471 : Cond.methodLink "DimStarsModel" 190 ⟨"DimStarsModel", "isWord", "(J)Z"⟩ ∈ GW := gw_t (mt7 31 rfl) rfl
theorem kw_1473 : Cond.instanceMethod ⟨"DimStarsModel", "isWord", "(J)Z"⟩ ∈ GW := gw_t (mt7 33 rfl) rfl
theorem kw_1474 : Cond.code yX11_isWord cX11_isWord 6 (some .boolean) ∈ GW := gw_t (mt7 34 rfl) rfl
theorem kw_1475 : Cond.methodLink "DimStarsModel" 187 ⟨"DimStarsModel", "isLetter", "(I)Z"⟩ ∈ GW := gw_t (mt7 35 rfl) rfl
theorem kw_1477 : Cond.instanceMethod ⟨"DimStarsModel", "isLetter", "(I)Z"⟩ ∈ GW := gw_t (mt7 37 rfl) rfl
theorem kw_1478 : Cond.code yX11_isLetter cX11_isLetter 2 (some .boolean) ∈ GW := gw_t (mt7 38 rfl) rfl
theorem kw_1479 : Cond.constantLong "DimStarsModel" 323 (1885432178) ∈ GW := gw_t (mt7 39 rfl) rfl
theorem kw_148 : Cond.fieldLink "DimStars$Text" 52 "DimStars$Text" "codeLength" "I" ∈ GW := gw_t (mt1 148 rfl) rfl
theorem kw_1480 : Cond.constantLong "DimStarsModel" 325 (1936748404) ∈ GW := gw_t (mt7 40 rfl) rfl
theorem kw_1481 : Cond.constantLong "DimStarsModel" 327 (444199957363) ∈ GW := gw_t (mt7 41 rfl) rfl
theorem kw_1482 : Cond.constantLong "DimStarsModel" 329 (109299962372965) ∈ GW := gw_t (mt7 42 rfl) rfl
theorem kw_1483 : Cond.constantLong "DimStarsModel" 310 (108243534178420) ∈ GW := gw_t (mt7 43 rfl) rfl
theorem kw_1484 : Cond.constantLong "DimStarsModel" 331 (474315584357) ∈ GW := gw_t (mt7 44 rfl) rfl
theorem kw_1485 : Cond.constantLong "DimStarsModel" 219 (1650811252) ∈ GW := gw_t (mt7 45 rfl) rfl
theorem kw_1486 : Cond.constantLong "DimStarsModel" 221 (1819242087) ∈ GW := gw_t (mt7 46 rfl) rfl
theorem kw_1487 : Cond.constantLong "DimStarsModel" 319 (465557353332) ∈ GW := gw_t (mt7 47 rfl) rfl
theorem kw_1488 : Cond.constantLong "DimStarsModel" 333 (1818848869) ∈ GW := gw_t (mt7 48 rfl) rfl
theorem kw_1489 : Cond.methodLink "DimStarsModel" 200 ⟨"DimStarsModel", "fails", "(II)Z"⟩ ∈ GW := gw_t (mt7 49 rfl) rfl
theorem kw_1491 : Cond.instanceMethod ⟨"DimStarsModel", "fails", "(II)Z"⟩ ∈ GW := gw_t (mt7 51 rfl) rfl
theorem kw_1492 : Cond.code yX11_fails cX11_fails 3 (some .boolean) ∈ GW := gw_t (mt7 52 rfl) rfl
theorem kw_1605 : Cond.methodLink "DimStarsModel" 366 ⟨"DimStarsModel", "isText", "(II)Z"⟩ ∈ GW := gw_t (mt7 165 rfl) rfl
theorem kw_1607 : Cond.instanceMethod ⟨"DimStarsModel", "isText", "(II)Z"⟩ ∈ GW := gw_t (mt7 167 rfl) rfl
theorem kw_1608 : Cond.code yX11_isText cX11_isText 3 (some .boolean) ∈ GW := gw_t (mt7 168 rfl) rfl
theorem kw_1650 : Cond.constantLong "DimStarsModel" 404 (-1) ∈ GW := gw_t (mt7 210 rfl) rfl
theorem kw_1665 : Cond.constantLong "DimStarsModel" 422 (4) ∈ GW := gw_t (mt7 225 rfl) rfl
theorem kw_1666 : Cond.constantLong "DimStarsModel" 424 (-200000) ∈ GW := gw_t (mt7 226 rfl) rfl
theorem kw_1707 : Cond.constantLong "DimStarsModel" 485 (-2) ∈ GW := gw_t (mt8 27 rfl) rfl
theorem kw_178 : Cond.fieldLink "DimStars$Parser" 9 "DimStars$Parser" "tape" "[B" ∈ GW := gw_t (mt1 178 rfl) rfl
theorem kw_179 : Cond.fieldLink "DimStars$Parser" 34 "DimStars$Parser" "length" "I" ∈ GW := gw_t (mt1 179 rfl) rfl
theorem kw_180 : Cond.fieldLink "DimStars$Parser" 38 "DimStars$Parser" "place" "I" ∈ GW := gw_t (mt1 180 rfl) rfl
theorem kw_181 : Cond.fieldLink "DimStars$Parser" 68 "DimStars$Parser" "kind" "I" ∈ GW := gw_t (mt1 181 rfl) rfl
theorem kw_1814 : Cond.methodLink "DimStarsModel" 546 ⟨"DimStarsModel", "canWeigh", "(III)Z"⟩ ∈ GW := gw_t (mt8 134 rfl) rfl
theorem kw_1816 : Cond.instanceMethod ⟨"DimStarsModel", "canWeigh", "(III)Z"⟩ ∈ GW := gw_t (mt8 136 rfl) rfl
theorem kw_1817 : Cond.code yX11_canWeigh cX11_canWeigh 4 (some .boolean) ∈ GW := gw_t (mt8 137 rfl) rfl
theorem kw_182 : Cond.fieldLink "DimStars$Parser" 75 "DimStars$Parser" "start" "I" ∈ GW := gw_t (mt1 182 rfl) rfl
theorem kw_184 : Cond.fieldLink "DimStars$Parser" 41 "DimStars$Parser" "fault" "I" ∈ GW := gw_t (mt1 184 rfl) rfl
theorem kw_185 : Cond.fieldLink "DimStars$Parser" 44 "DimStars$Parser" "values" "I" ∈ GW := gw_t (mt1 185 rfl) rfl
theorem kw_186 : Cond.fieldLink "DimStars$Parser" 47 "DimStars$Parser" "given" "I" ∈ GW := gw_t (mt1 186 rfl) rfl
theorem kw_187 : Cond.fieldLink "DimStars$Parser" 17 "DimStars$Parser" "known" "Ljava/lang/String;" ∈ GW := gw_t (mt1 187 rfl) rfl
theorem kw_188 : Cond.fieldLink "DimStars$Parser" 24 "DimStars$Parser" "text" "LDimStars$Text;" ∈ GW := gw_t (mt1 188 rfl) rfl
theorem kw_189 : Cond.fieldLink "DimStars$Parser" 54 "DimStars$Parser" "isHanded" "Z" ∈ GW := gw_t (mt1 189 rfl) rfl
theorem kw_1893 : Cond.constantLong "DimStarsModel" 567 (-1000000000) ∈ GW := gw_t (mt8 213 rfl) rfl
theorem kw_1899 : Cond.constantLong "DimStarsModel" 571 (9999) ∈ GW := gw_t (mt8 219 rfl) rfl
theorem kw_1912 : Cond.constantLong "DimStarsModel" 573 (3) ∈ GW := gw_t (mt8 232 rfl) rfl
theorem kw_2 : Cond.initialized "DimStars$Sky" ∈ GW := gw_t (mt1 2 rfl) rfl
theorem kw_27 : Cond.instanceMethod objectInit ∈ GW := gw_t (mt1 27 rfl) rfl
theorem kw_28 : Cond.code objectInit ⟨#[0xb1]⟩ 1 none ∈ GW := gw_t (mt1 28 rfl) rfl
theorem kw_3 : Cond.initialized "DimStars$Parser" ∈ GW := gw_t (mt1 3 rfl) rfl
theorem kw_349 : Cond.fieldLink "DimStars" 10 "DimStars" "sky" "LDimStars$Sky;" ∈ GW := gw_t (mt2 109 rfl) rfl
theorem kw_35 : Cond.classLink "DimStars$Sky" 9 "DimStars$Star" ∈ GW := gw_t (mt1 35 rfl) rfl
theorem kw_350 : Cond.fieldLink "DimStars" 16 "DimStars" "images" "[LDimStars$Sky;" ∈ GW := gw_t (mt2 110 rfl) rfl
theorem kw_354 : Cond.fieldLink "DimStars" 169 "DimStars" "lawCount" "I" ∈ GW := gw_t (mt2 114 rfl) rfl
theorem kw_355 : Cond.fieldLink "DimStars" 172 "DimStars" "searchCount" "I" ∈ GW := gw_t (mt2 115 rfl) rfl
theorem kw_356 : Cond.fieldLink "DimStars" 175 "DimStars" "sorterCount" "I" ∈ GW := gw_t (mt2 116 rfl) rfl
theorem kw_357 : Cond.fieldLink "DimStars" 35 "DimStars" "parser" "LDimStars$Parser;" ∈ GW := gw_t (mt2 117 rfl) rfl
theorem kw_366 : Cond.fieldLink "DimStars" 84 "DimStars" "age" "I" ∈ GW := gw_t (mt2 126 rfl) rfl
theorem kw_39 : Cond.fieldLink "DimStars$Sky" 44 "DimStars$Sky" "starCount" "I" ∈ GW := gw_t (mt1 39 rfl) rfl
theorem kw_4 : Cond.initialized "DimStars$Text" ∈ GW := gw_t (mt1 4 rfl) rfl
theorem kw_414 : Cond.methodLink "DimStars" 96 ⟨"DimStars", "isSize", "(I)Z"⟩ ∈ GW := gw_t (mt2 174 rfl) rfl
theorem kw_415 : Cond.static ⟨"DimStars", "isSize", "(I)Z"⟩ ∈ GW := gw_t (mt2 175 rfl) rfl
theorem kw_416 : Cond.code yX10_isSize cX10_isSize 1 (some .boolean) ∈ GW := gw_t (mt2 176 rfl) rfl
theorem kw_417 : Cond.methodLink "DimStars" 100 ⟨"DimStars", "isWithin", "(III)Z"⟩ ∈ GW := gw_t (mt2 177 rfl) rfl
theorem kw_418 : Cond.static ⟨"DimStars", "isWithin", "(III)Z"⟩ ∈ GW := gw_t (mt2 178 rfl) rfl
theorem kw_419 : Cond.code yX10_isWithin cX10_isWithin 3 (some .boolean) ∈ GW := gw_t (mt2 179 rfl) rfl
theorem kw_42 : Cond.fieldLink "DimStars$Sky" 11 "DimStars$Sky" "stars" "[LDimStars$Star;" ∈ GW := gw_t (mt1 42 rfl) rfl
theorem kw_422 : Cond.instanceMethod ⟨"DimStars$Sky", "addStar", "(III)I"⟩ ∈ GW := gw_t (mt2 182 rfl) rfl
theorem kw_423 : Cond.code yX6_addStar cX6_addStar 5 (some .int) ∈ GW := gw_t (mt2 183 rfl) rfl
theorem kw_424 : Cond.methodLink "DimStars$Sky" 68 ⟨"DimStars$Sky", "placeFor", "(I)LDimStars$Star;"⟩ ∈ GW := gw_t (mt2 184 rfl) rfl
theorem kw_426 : Cond.instanceMethod ⟨"DimStars$Sky", "placeFor", "(I)LDimStars$Star;"⟩ ∈ GW := gw_t (mt2 186 rfl) rfl
theorem kw_427 : Cond.code yX6_placeFor cX6_placeFor 3 (some (.object "DimStars$Star")) ∈ GW := gw_t (mt2 187 rfl) rfl
theorem kw_428 : Cond.instantiable "DimStars$Star" 4 ∈ GW := gw_t (mt2 188 rfl) rfl
theorem kw_43 : Cond.fieldLink "DimStars$Sky" 47 "DimStars$Sky" "worldCount" "I" ∈ GW := gw_t (mt1 43 rfl) rfl
theorem kw_430 : Cond.instanceMethod ⟨"DimStars$Star", "<init>", "()V"⟩ ∈ GW := gw_t (mt2 190 rfl) rfl
theorem kw_431 : Cond.code yX7_init cX7_init 1 none ∈ GW := gw_t (mt2 191 rfl) rfl
theorem kw_432 : Cond.methodLink "DimStars$Star" 3 objectInit ∈ GW := gw_t (mt2 192 rfl) rfl
theorem kw_433 : Cond.fieldLink "DimStars$Star" 15 "DimStars$Star" "size" "I" ∈ GW := gw_t (mt2 193 rfl) rfl
theorem kw_436 : Cond.fieldLink "DimStars$Star" 19 "DimStars$Star" "cell" "I" ∈ GW := gw_t (mt2 196 rfl) rfl
theorem kw_439 : Cond.fieldLink "DimStars$Star" 22 "DimStars$Star" "luck" "I" ∈ GW := gw_t (mt2 199 rfl) rfl
theorem kw_441 : Cond.fieldLink "DimStars$Star" 9 "DimStars$Star" "row" "[I" ∈ GW := gw_t (mt2 201 rfl) rfl
theorem kw_455 : Cond.instanceMethod ⟨"DimStars$Star", "begin", "(III)V"⟩ ∈ GW := gw_t (mt2 215 rfl) rfl
theorem kw_456 : Cond.code yX7_begin cX7_begin 4 none ∈ GW := gw_t (mt2 216 rfl) rfl
theorem kw_457 : Cond.constant "DimStars$Star" 25 (-100000) ∈ GW := gw_t (mt2 217 rfl) rfl
theorem kw_458 : Cond.methodLink "DimStars$Star" 26 ⟨"java/util/Arrays", "fill", "([II)V"⟩ ∈ GW := gw_t (mt2 218 rfl) rfl
theorem kw_459 : Cond.static ⟨"java/util/Arrays", "fill", "([II)V"⟩ ∈ GW := gw_t (mt2 219 rfl) rfl
theorem kw_460 : Cond.code yJ7_fill_53178 cJ7_fill_53178 4 none ∈ GW := gw_t (mt2 220 rfl) rfl
theorem kw_467 : Cond.instanceMethod ⟨"DimStars$Sky", "starAt", "(I)LDimStars$Star;"⟩ ∈ GW := gw_t (mt2 227 rfl) rfl
theorem kw_468 : Cond.code yX6_starAt cX6_starAt 2 (some (.object "DimStars$Star")) ∈ GW := gw_t (mt2 228 rfl) rfl
theorem kw_469 : Cond.constant "DimStars" 112 (-100000) ∈ GW := gw_t (mt2 229 rfl) rfl
theorem kw_470 : Cond.methodLink "DimStars" 113 ⟨"DimStars", "isHour", "(I)Z"⟩ ∈ GW := gw_t (mt2 230 rfl) rfl
theorem kw_471 : Cond.static ⟨"DimStars", "isHour", "(I)Z"⟩ ∈ GW := gw_t (mt2 231 rfl) rfl
theorem kw_472 : Cond.code yX10_isHour cX10_isHour 1 (some .boolean) ∈ GW := gw_t (mt2 232 rfl) rfl
theorem kw_473 : Cond.constant "DimStars" 116 (-200000) ∈ GW := gw_t (mt2 233 rfl) rfl
theorem kw_494 : Cond.methodLink "DimStars" 137 ⟨"DimStars", "isStar", "(I)Z"⟩ ∈ GW := gw_t (mt3 14 rfl) rfl
theorem kw_496 : Cond.instanceMethod ⟨"DimStars", "isStar", "(I)Z"⟩ ∈ GW := gw_t (mt3 16 rfl) rfl
theorem kw_497 : Cond.code yX10_isStar cX10_isStar 2 (some .boolean) ∈ GW := gw_t (mt3 17 rfl) rfl
theorem kw_601 : Cond.instanceMethod ⟨"DimStars$Sky", "addBytes", "(I)V"⟩ ∈ GW := gw_t (mt3 121 rfl) rfl
theorem kw_602 : Cond.code yX6_addBytes cX6_addBytes 3 none ∈ GW := gw_t (mt3 122 rfl) rfl
theorem kw_613 : Cond.instanceMethod ⟨"DimStars$Parser", "read", "([BII)I"⟩ ∈ GW := gw_t (mt3 133 rfl) rfl
theorem kw_614 : Cond.code yX3_read cX3_read 5 (some .int) ∈ GW := gw_t (mt3 134 rfl) rfl
theorem kw_615 : Cond.methodLink "DimStars$Parser" 28 Lib.Math.min.name ∈ GW := gw_t (mt3 135 rfl) rfl
theorem kw_616 : Cond.static Lib.Math.min.name ∈ GW := gw_t (mt3 136 rfl) rfl
theorem kw_617 : Cond.code Lib.Math.min.name Lib.Math.min.code 2 (some .int) ∈ GW := gw_t (mt3 137 rfl) rfl
theorem kw_622 : Cond.instanceMethod ⟨"DimStars$Text", "begin", "()V"⟩ ∈ GW := gw_t (mt3 142 rfl) rfl
theorem kw_623 : Cond.code yX8_begin cX8_begin 1 none ∈ GW := gw_t (mt3 143 rfl) rfl
theorem kw_624 : Cond.methodLink "DimStars$Parser" 61 ⟨"DimStars$Parser", "step", "()V"⟩ ∈ GW := gw_t (mt3 144 rfl) rfl
theorem kw_626 : Cond.instanceMethod ⟨"DimStars$Parser", "step", "()V"⟩ ∈ GW := gw_t (mt3 146 rfl) rfl
theorem kw_627 : Cond.code yX3_step cX3_step 3 none ∈ GW := gw_t (mt3 147 rfl) rfl
theorem kw_628 : Cond.methodLink "DimStars$Parser" 64 ⟨"DimStars$Parser", "readClause", "(II)V"⟩ ∈ GW := gw_t (mt3 148 rfl) rfl
theorem kw_630 : Cond.instanceMethod ⟨"DimStars$Parser", "readClause", "(II)V"⟩ ∈ GW := gw_t (mt3 150 rfl) rfl
theorem kw_631 : Cond.code yX3_readClause cX3_readClause 7 none ∈ GW := gw_t (mt3 151 rfl) rfl
theorem kw_635 : Cond.methodLink "DimStars$Parser" 99 ⟨"DimStars$Parser", "whichOf", "(Ljava/lang/String;)I"⟩ ∈ GW := gw_t (mt3 155 rfl) rfl
theorem kw_637 : Cond.instanceMethod ⟨"DimStars$Parser", "whichOf", "(Ljava/lang/String;)I"⟩ ∈ GW := gw_t (mt3 157 rfl) rfl
theorem kw_638 : Cond.code yX3_whichOf cX3_whichOf 7 (some .int) ∈ GW := gw_t (mt3 158 rfl) rfl
theorem kw_65 : Cond.fieldLink "DimStars$Sky" 40 "DimStars$Sky" "tape" "[B" ∈ GW := gw_t (mt1 65 rfl) rfl
theorem kw_67 : Cond.fieldLink "DimStars$Sky" 76 "DimStars$Sky" "tapeLength" "I" ∈ GW := gw_t (mt1 67 rfl) rfl
theorem kw_687 : Cond.methodLink "DimStars$Parser" 78 ⟨"DimStars$Parser", "setFault", "(I)V"⟩ ∈ GW := gw_t (mt3 207 rfl) rfl
theorem kw_689 : Cond.instanceMethod ⟨"DimStars$Parser", "setFault", "(I)V"⟩ ∈ GW := gw_t (mt3 209 rfl) rfl
theorem kw_690 : Cond.code yX3_setFault cX3_setFault 2 none ∈ GW := gw_t (mt3 210 rfl) rfl
theorem kw_760 : Cond.methodLink "DimStars" 194 ⟨"DimStars", "lawAt", "(I)LDimStars$Text;"⟩ ∈ GW := gw_t (mt4 40 rfl) rfl
theorem kw_762 : Cond.instanceMethod ⟨"DimStars", "lawAt", "(I)LDimStars$Text;"⟩ ∈ GW := gw_t (mt4 42 rfl) rfl
theorem kw_763 : Cond.code yX10_lawAt cX10_lawAt 2 (some (.object "DimStars$Text")) ∈ GW := gw_t (mt4 43 rfl) rfl
theorem kw_802 : Cond.instanceMethod ⟨"DimStars$Sky", "worldAt", "(I)LDimStars$World;"⟩ ∈ GW := gw_t (mt4 82 rfl) rfl
theorem kw_803 : Cond.code yX6_worldAt cX6_worldAt 2 (some (.object "DimStars$World")) ∈ GW := gw_t (mt4 83 rfl) rfl
theorem kw_814 : Cond.methodLink "DimStars" 234 ⟨"DimStars", "isBeat", "(I)Z"⟩ ∈ GW := gw_t (mt4 94 rfl) rfl
theorem kw_815 : Cond.static ⟨"DimStars", "isBeat", "(I)Z"⟩ ∈ GW := gw_t (mt4 95 rfl) rfl
theorem kw_816 : Cond.code yX10_isBeat cX10_isBeat 1 (some .boolean) ∈ GW := gw_t (mt4 96 rfl) rfl
theorem kw_817 : Cond.constantLong "DimStars" 237 (-200000) ∈ GW := gw_t (mt4 97 rfl) rfl
theorem kw_848 : Cond.methodLink "DimStars" 259 ⟨"DimStars", "searchAt", "(I)LDimStars$Text;"⟩ ∈ GW := gw_t (mt4 128 rfl) rfl
theorem kw_850 : Cond.instanceMethod ⟨"DimStars", "searchAt", "(I)LDimStars$Text;"⟩ ∈ GW := gw_t (mt4 130 rfl) rfl
theorem kw_851 : Cond.code yX10_searchAt cX10_searchAt 2 (some (.object "DimStars$Text")) ∈ GW := gw_t (mt4 131 rfl) rfl
theorem kw_852 : Cond.constantLong "DimStars" 262 (-2) ∈ GW := gw_t (mt4 132 rfl) rfl
theorem kw_899 : Cond.constantLong "DimStars" 274 (-1) ∈ GW := gw_t (mt4 179 rfl) rfl
theorem kw_96 : Cond.arrayClass .int ∈ GW := gw_t (mt1 96 rfl) rfl
theorem kw_s0 : Cond.selects "DimStars$Sky" ⟨"DimStars$Sky", "addStar", "(III)I"⟩ ⟨"DimStars$Sky", "addStar", "(III)I"⟩ ∈ GW := gw_s 0 rfl rfl
theorem kw_s1 : Cond.selects "DimStars$Sky" ⟨"DimStars$Sky", "placeFor", "(I)LDimStars$Star;"⟩ ⟨"DimStars$Sky", "placeFor", "(I)LDimStars$Star;"⟩ ∈ GW := gw_s 1 rfl rfl
theorem kw_s100 : Cond.selects "DimStarsModel" ⟨"DimStarsModel", "four", "(I)V"⟩ ⟨"DimStarsModel", "four", "(I)V"⟩ ∈ GW := gw_s 100 rfl rfl
theorem kw_s101 : Cond.selects "DimStarsModel" ⟨"DimStarsModel", "clauseHere", "()Z"⟩ ⟨"DimStarsModel", "clauseHere", "()Z"⟩ ∈ GW := gw_s 101 rfl rfl
theorem kw_s102 : Cond.selects "DimStarsModel" ⟨"DimStarsModel", "see", "()I"⟩ ⟨"DimStarsModel", "see", "()I"⟩ ∈ GW := gw_s 102 rfl rfl
theorem kw_s103 : Cond.selects "DimStarsModel" ⟨"DimStarsModel", "isWord", "(J)Z"⟩ ⟨"DimStarsModel", "isWord", "(J)Z"⟩ ∈ GW := gw_s 103 rfl rfl
theorem kw_s104 : Cond.selects "DimStarsModel" ⟨"DimStarsModel", "isLetter", "(I)Z"⟩ ⟨"DimStarsModel", "isLetter", "(I)Z"⟩ ∈ GW := gw_s 104 rfl rfl
theorem kw_s105 : Cond.selects "DimStarsModel" ⟨"DimStarsModel", "fails", "(II)Z"⟩ ⟨"DimStarsModel", "fails", "(II)Z"⟩ ∈ GW := gw_s 105 rfl rfl
theorem kw_s128 : Cond.selects "DimStarsModel" ⟨"DimStarsModel", "isText", "(II)Z"⟩ ⟨"DimStarsModel", "isText", "(II)Z"⟩ ∈ GW := gw_s 128 rfl rfl
theorem kw_s13 : Cond.selects "DimStars$Sky" ⟨"DimStars$Sky", "addBytes", "(I)V"⟩ ⟨"DimStars$Sky", "addBytes", "(I)V"⟩ ∈ GW := gw_s 13 rfl rfl
theorem kw_s14 : Cond.selects "DimStars$Parser" ⟨"DimStars$Parser", "read", "([BII)I"⟩ ⟨"DimStars$Parser", "read", "([BII)I"⟩ ∈ GW := gw_s 14 rfl rfl
theorem kw_s15 : Cond.selects "DimStars$Text" ⟨"DimStars$Text", "begin", "()V"⟩ ⟨"DimStars$Text", "begin", "()V"⟩ ∈ GW := gw_s 15 rfl rfl
theorem kw_s16 : Cond.selects "DimStars$Parser" ⟨"DimStars$Parser", "step", "()V"⟩ ⟨"DimStars$Parser", "step", "()V"⟩ ∈ GW := gw_s 16 rfl rfl
theorem kw_s163 : Cond.selects "DimStarsModel" ⟨"DimStarsModel", "canWeigh", "(III)Z"⟩ ⟨"DimStarsModel", "canWeigh", "(III)Z"⟩ ∈ GW := gw_s 163 rfl rfl
theorem kw_s17 : Cond.selects "DimStars$Parser" ⟨"DimStars$Parser", "readClause", "(II)V"⟩ ⟨"DimStars$Parser", "readClause", "(II)V"⟩ ∈ GW := gw_s 17 rfl rfl
theorem kw_s18 : Cond.selects "DimStars$Parser" ⟨"DimStars$Parser", "whichOf", "(Ljava/lang/String;)I"⟩ ⟨"DimStars$Parser", "whichOf", "(Ljava/lang/String;)I"⟩ ∈ GW := gw_s 18 rfl rfl
theorem kw_s19 : Cond.selects "DimStars$Parser" ⟨"DimStars$Parser", "setFault", "(I)V"⟩ ⟨"DimStars$Parser", "setFault", "(I)V"⟩ ∈ GW := gw_s 19 rfl rfl
theorem kw_s2 : Cond.selects "DimStars$Star" ⟨"DimStars$Star", "begin", "(III)V"⟩ ⟨"DimStars$Star", "begin", "(III)V"⟩ ∈ GW := gw_s 2 rfl rfl
theorem kw_s3 : Cond.selects "DimStars$Sky" ⟨"DimStars$Sky", "starAt", "(I)LDimStars$Star;"⟩ ⟨"DimStars$Sky", "starAt", "(I)LDimStars$Star;"⟩ ∈ GW := gw_s 3 rfl rfl
theorem kw_s34 : Cond.selects "DimStars" ⟨"DimStars", "lawAt", "(I)LDimStars$Text;"⟩ ⟨"DimStars", "lawAt", "(I)LDimStars$Text;"⟩ ∈ GW := gw_s 34 rfl rfl
theorem kw_s39 : Cond.selects "DimStars$Sky" ⟨"DimStars$Sky", "worldAt", "(I)LDimStars$World;"⟩ ⟨"DimStars$Sky", "worldAt", "(I)LDimStars$World;"⟩ ∈ GW := gw_s 39 rfl rfl
theorem kw_s4 : Cond.selects "DimStars" ⟨"DimStars", "isStar", "(I)Z"⟩ ⟨"DimStars", "isStar", "(I)Z"⟩ ∈ GW := gw_s 4 rfl rfl
theorem kw_s46 : Cond.selects "DimStars" ⟨"DimStars", "searchAt", "(I)LDimStars$Text;"⟩ ⟨"DimStars", "searchAt", "(I)LDimStars$Text;"⟩ ∈ GW := gw_s 46 rfl rfl
theorem kw_s71 : Cond.selects "DimStars" ⟨"DimStars", "isWeighed", "(III)Z"⟩ ⟨"DimStars", "isWeighed", "(III)Z"⟩ ∈ GW := gw_s 71 rfl rfl
theorem kw_s72 : Cond.selects "DimStars" ⟨"DimStars", "sorterAt", "(I)LDimStars$Text;"⟩ ⟨"DimStars", "sorterAt", "(I)LDimStars$Text;"⟩ ∈ GW := gw_s 72 rfl rfl
theorem kw_s89 : Cond.selects "DimStars$Sky" ⟨"DimStars$Sky", "numbers", "()I"⟩ ⟨"DimStars$Sky", "numbers", "()I"⟩ ∈ GW := gw_s 89 rfl rfl
theorem kw_s93 : Cond.selects "DimStarsModel" ⟨"DimStarsModel", "isStar", "(I)Z"⟩ ⟨"DimStarsModel", "isStar", "(I)Z"⟩ ∈ GW := gw_s 93 rfl rfl
theorem kn_41 : Cond.fieldLinkNest "DimStars" 352 "DimStars$Sky" "starCount" "I" "DimStars" ∈ tables_1 := mt1 41 rfl
theorem kn_44 : Cond.fieldLinkNest "DimStars" 150 "DimStars$Sky" "worldCount" "I" "DimStars" ∈ tables_1 := mt1 44 rfl
theorem kn_48 : Cond.fieldLinkNest "DimStars" 413 "DimStars$Sky" "candidateCount" "I" "DimStars" ∈ tables_1 := mt1 48 rfl
theorem kn_55 : Cond.fieldLinkNest "DimStars" 125 "DimStars$Sky" "wide" "I" "DimStars" ∈ tables_1 := mt1 55 rfl
theorem kn_58 : Cond.fieldLinkNest "DimStars" 128 "DimStars$Sky" "maskStars" "[I" "DimStars" ∈ tables_1 := mt1 58 rfl
theorem kn_60 : Cond.fieldLinkNest "DimStars" 131 "DimStars$Sky" "maskBelow" "[I" "DimStars" ∈ tables_1 := mt1 60 rfl
theorem kn_63 : Cond.fieldLinkNest "DimStars" 134 "DimStars$Sky" "order" "I" "DimStars" ∈ tables_1 := mt1 63 rfl
theorem kn_66 : Cond.fieldLinkNest "DimStars" 178 "DimStars$Sky" "tape" "[B" "DimStars" ∈ tables_1 := mt1 66 rfl
theorem kn_68 : Cond.fieldLinkNest "DimStars" 162 "DimStars$Sky" "tapeLength" "I" "DimStars" ∈ tables_1 := mt1 68 rfl
theorem kn_420 : Cond.methodLinkNest "DimStars" 104 ⟨"DimStars$Sky", "addStar", "(III)I"⟩ "DimStars" ∈ tables_1 := mt2 180 rfl
theorem kn_429 : Cond.methodLinkNest "DimStars$Sky" 75 ⟨"DimStars$Star", "<init>", "()V"⟩ "DimStars" ∈ tables_1 := mt2 189 rfl
theorem kn_453 : Cond.methodLinkNest "DimStars$Sky" 71 ⟨"DimStars$Star", "begin", "(III)V"⟩ "DimStars" ∈ tables_1 := mt2 213 rfl
theorem kn_465 : Cond.methodLinkNest "DimStars" 108 ⟨"DimStars$Sky", "starAt", "(I)LDimStars$Star;"⟩ "DimStars" ∈ tables_1 := mt2 225 rfl
theorem kn_599 : Cond.methodLinkNest "DimStars" 165 ⟨"DimStars$Sky", "addBytes", "(I)V"⟩ "DimStars" ∈ tables_1 := mt3 119 rfl
theorem kn_611 : Cond.methodLinkNest "DimStars" 182 ⟨"DimStars$Parser", "read", "([BII)I"⟩ "DimStars" ∈ tables_1 := mt3 131 rfl
theorem kn_620 : Cond.methodLinkNest "DimStars$Parser" 58 ⟨"DimStars$Text", "begin", "()V"⟩ "DimStars" ∈ tables_1 := mt3 140 rfl
theorem kn_904 : Cond.methodLinkNest "DimStars" 280 ⟨"DimStars$Sky", "worldAt", "(I)LDimStars$World;"⟩ "DimStars" ∈ tables_1 := mt4 184 rfl
theorem kn_1176 : Cond.methodLinkNest "DimStars" 426 ⟨"DimStars$Sky", "numbers", "()I"⟩ "DimStars" ∈ tables_1 := mt5 216 rfl
theorem lk_X10_100 : LkS RX10 100 yX10_isWithin cX10_isWithin 3 (some .boolean) 3 := ⟨kw_417, kw_418, kw_1, kw_419, ⟨by decide +kernel, by decide +kernel, by decide +kernel⟩⟩
theorem lk_X10_104 : LkNV RX10 104 yX6_addStar "DimStars" cX6_addStar 5 (some .int) 3 := ⟨kn_420, kw_422, kw_s0, kw_2, kw_423, ⟨by decide +kernel, by decide +kernel, by decide +kernel⟩⟩
theorem lk_X10_108 : LkNV RX10 108 yX6_starAt "DimStars" cX6_starAt 2 (some (.object "DimStars$Star")) 1 := ⟨kn_465, kw_467, kw_s3, kw_2, kw_468, ⟨by decide +kernel, by decide +kernel, by decide +kernel⟩⟩
theorem lk_X10_113 : LkS RX10 113 yX10_isHour cX10_isHour 1 (some .boolean) 1 := ⟨kw_470, kw_471, kw_1, kw_472, ⟨by decide +kernel, by decide +kernel, by decide +kernel⟩⟩
theorem lk_X10_137 : LkV RX10 137 yX10_isStar cX10_isStar 2 (some .boolean) 1 := ⟨kw_494, kw_496, kw_s4, kw_1, kw_497, ⟨by decide +kernel, by decide +kernel, by decide +kernel⟩⟩
theorem lk_X10_165 : LkNV RX10 165 yX6_addBytes "DimStars" cX6_addBytes 3 none 1 := ⟨kn_599, kw_601, kw_s13, kw_2, kw_602, ⟨by decide +kernel, by decide +kernel, by decide +kernel⟩⟩
theorem lk_X10_182 : LkNV RX10 182 yX3_read "DimStars" cX3_read 5 (some .int) 3 := ⟨kn_611, kw_613, kw_s14, kw_3, kw_614, ⟨by decide +kernel, by decide +kernel, by decide +kernel⟩⟩
theorem lk_X10_194 : LkV RX10 194 yX10_lawAt cX10_lawAt 2 (some (.object "DimStars$Text")) 1 := ⟨kw_760, kw_762, kw_s34, kw_1, kw_763, ⟨by decide +kernel, by decide +kernel, by decide +kernel⟩⟩
theorem lk_X10_234 : LkS RX10 234 yX10_isBeat cX10_isBeat 1 (some .boolean) 1 := ⟨kw_814, kw_815, kw_1, kw_816, ⟨by decide +kernel, by decide +kernel, by decide +kernel⟩⟩
theorem lk_X10_259 : LkV RX10 259 yX10_searchAt cX10_searchAt 2 (some (.object "DimStars$Text")) 1 := ⟨kw_848, kw_850, kw_s46, kw_1, kw_851, ⟨by decide +kernel, by decide +kernel, by decide +kernel⟩⟩
theorem lk_X10_280 : LkNV RX10 280 yX6_worldAt "DimStars" cX6_worldAt 2 (some (.object "DimStars$World")) 1 := ⟨kn_904, kw_802, kw_s39, kw_2, kw_803, ⟨by decide +kernel, by decide +kernel, by decide +kernel⟩⟩
theorem lk_X10_343 : LkV RX10 343 yX10_isWeighed cX10_isWeighed 4 (some .boolean) 3 := ⟨kw_1025, kw_1027, kw_s71, kw_1, kw_1028, ⟨by decide +kernel, by decide +kernel, by decide +kernel⟩⟩
theorem lk_X10_349 : LkV RX10 349 yX10_sorterAt cX10_sorterAt 2 (some (.object "DimStars$Text")) 1 := ⟨kw_1029, kw_1031, kw_s72, kw_1, kw_1032, ⟨by decide +kernel, by decide +kernel, by decide +kernel⟩⟩
theorem lk_X10_426 : LkNV RX10 426 yX6_numbers "DimStars" cX6_numbers 4 (some .int) 0 := ⟨kn_1176, kw_1178, kw_s89, kw_2, kw_1179, ⟨by decide +kernel, by decide +kernel, by decide +kernel⟩⟩
theorem lk_X10_96 : LkS RX10 96 yX10_isSize cX10_isSize 1 (some .boolean) 1 := ⟨kw_414, kw_415, kw_1, kw_416, ⟨by decide +kernel, by decide +kernel, by decide +kernel⟩⟩
theorem lk_X11_108 : LkV RX11 108 yX11_isStar cX11_isStar 2 (some .boolean) 1 := ⟨kw_1372, kw_1374, kw_s93, kw_10, kw_1375, ⟨by decide +kernel, by decide +kernel, by decide +kernel⟩⟩
theorem lk_X11_173 : LkV RX11 173 yX11_four cX11_four 3 none 1 := ⟨kw_1450, kw_1452, kw_s100, kw_10, kw_1453, ⟨by decide +kernel, by decide +kernel, by decide +kernel⟩⟩
theorem lk_X11_183 : LkV RX11 183 yX11_see cX11_see 1 (some .int) 0 := ⟨kw_1466, kw_1468, kw_s102, kw_10, kw_1469, ⟨by decide +kernel, by decide +kernel, by decide +kernel⟩⟩
theorem lk_X11_187 : LkV RX11 187 yX11_isLetter cX11_isLetter 2 (some .boolean) 1 := ⟨kw_1475, kw_1477, kw_s104, kw_10, kw_1478, ⟨by decide +kernel, by decide +kernel, by decide +kernel⟩⟩
theorem lk_X11_190 : LkV RX11 190 yX11_isWord cX11_isWord 6 (some .boolean) 1 := ⟨kw_1471, kw_1473, kw_s103, kw_10, kw_1474, ⟨by decide +kernel, by decide +kernel, by decide +kernel⟩⟩
theorem lk_X11_200 : LkV RX11 200 yX11_fails cX11_fails 3 (some .boolean) 2 := ⟨kw_1489, kw_1491, kw_s105, kw_10, kw_1492, ⟨by decide +kernel, by decide +kernel, by decide +kernel⟩⟩
theorem lk_X11_344 : LkV RX11 344 yX11_clauseHere cX11_clauseHere 5 (some .boolean) 0 := ⟨kw_1462, kw_1464, kw_s101, kw_10, kw_1465, ⟨by decide +kernel, by decide +kernel, by decide +kernel⟩⟩
theorem lk_X11_366 : LkV RX11 366 yX11_isText cX11_isText 3 (some .boolean) 2 := ⟨kw_1605, kw_1607, kw_s128, kw_10, kw_1608, ⟨by decide +kernel, by decide +kernel, by decide +kernel⟩⟩
theorem lk_X11_546 : LkV RX11 546 yX11_canWeigh cX11_canWeigh 4 (some .boolean) 3 := ⟨kw_1814, kw_1816, kw_s163, kw_10, kw_1817, ⟨by decide +kernel, by decide +kernel, by decide +kernel⟩⟩
theorem lk_X11_99 : LkS RX11 99 yX11_in cX11_in 6 (some .boolean) 3 := ⟨kw_1362, kw_1363, kw_10, kw_1364, ⟨by decide +kernel, by decide +kernel, by decide +kernel⟩⟩
theorem lk_X3_58 : LkNV RX3 58 yX8_begin "DimStars" cX8_begin 1 none 0 := ⟨kn_620, kw_622, kw_s15, kw_4, kw_623, ⟨by decide +kernel, by decide +kernel, by decide +kernel⟩⟩
theorem lk_X3_61 : LkV RX3 61 yX3_step cX3_step 3 none 0 := ⟨kw_624, kw_626, kw_s16, kw_3, kw_627, ⟨by decide +kernel, by decide +kernel, by decide +kernel⟩⟩
theorem lk_X3_64 : LkV RX3 64 yX3_readClause cX3_readClause 7 none 2 := ⟨kw_628, kw_630, kw_s17, kw_3, kw_631, ⟨by decide +kernel, by decide +kernel, by decide +kernel⟩⟩
theorem lk_X3_78 : LkV RX3 78 yX3_setFault cX3_setFault 2 none 1 := ⟨kw_687, kw_689, kw_s19, kw_3, kw_690, ⟨by decide +kernel, by decide +kernel, by decide +kernel⟩⟩
theorem lk_X3_99 : LkV RX3 99 yX3_whichOf cX3_whichOf 7 (some .int) 1 := ⟨kw_635, kw_637, kw_s18, kw_3, kw_638, ⟨by decide +kernel, by decide +kernel, by decide +kernel⟩⟩
theorem lk_X6_68 : LkV RX6 68 yX6_placeFor cX6_placeFor 3 (some (.object "DimStars$Star")) 1 := ⟨kw_424, kw_426, kw_s1, kw_2, kw_427, ⟨by decide +kernel, by decide +kernel, by decide +kernel⟩⟩
theorem lk_X6_71 : LkNV RX6 71 yX7_begin "DimStars" cX7_begin 4 none 3 := ⟨kn_453, kw_455, kw_s2, kw_11, kw_456, ⟨by decide +kernel, by decide +kernel, by decide +kernel⟩⟩
theorem lk_X6_75 : LkNI RX6 75 yX7_init "DimStars" cX7_init 1 0 := ⟨kn_429, kw_430, rfl, kw_11, kw_431, ⟨by decide +kernel, by decide +kernel, by decide +kernel⟩⟩
theorem lk_X7_26 : LkS RX7 26 yJ7_fill_53178 cJ7_fill_53178 4 none 2 := ⟨kw_458, kw_459, kw_12, kw_460, ⟨by decide +kernel, by decide +kernel, by decide +kernel⟩⟩
