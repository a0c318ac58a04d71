set_option maxRecDepth 20000 in
theorem inTX0 : ∀ w ∈ u_ws RX0 TX0 2, w ∈ lw_tbl ∧ goodWord w = true := by decide +kernel
theorem inGX0 : ∀ w ∈ u_ws RX0 TX0 2, w ∈ GW := fun w h => List.mem_filter.mpr (inTX0 w h)
set_option maxRecDepth 20000 in
theorem inTX1 : ∀ w ∈ u_ws RX1 TX1 7, w ∈ lw_tbl ∧ goodWord w = true := by decide +kernel
theorem inGX1 : ∀ w ∈ u_ws RX1 TX1 7, w ∈ GW := fun w h => List.mem_filter.mpr (inTX1 w h)
set_option maxRecDepth 20000 in
theorem inTX2 : ∀ w ∈ u_ws RX2 TX2 8, w ∈ lw_tbl ∧ goodWord w = true := by decide +kernel
theorem inGX2 : ∀ w ∈ u_ws RX2 TX2 8, w ∈ GW := fun w h => List.mem_filter.mpr (inTX2 w h)
set_option maxRecDepth 20000 in
theorem inTX3 : ∀ w ∈ u_ws RX3 TX3 12, w ∈ lw_tbl ∧ goodWord w = true := by decide +kernel
theorem inGX3 : ∀ w ∈ u_ws RX3 TX3 12, w ∈ GW := fun w h => List.mem_filter.mpr (inTX3 w h)
set_option maxRecDepth 20000 in
theorem inTX4 : ∀ w ∈ u_ws RX4 TX4 1, w ∈ lw_tbl ∧ goodWord w = true := by decide +kernel
theorem inGX4 : ∀ w ∈ u_ws RX4 TX4 1, w ∈ GW := fun w h => List.mem_filter.mpr (inTX4 w h)
set_option maxRecDepth 20000 in
theorem inTX5 : ∀ w ∈ u_ws RX5 TX5 4, w ∈ lw_tbl ∧ goodWord w = true := by decide +kernel
theorem inGX5 : ∀ w ∈ u_ws RX5 TX5 4, w ∈ GW := fun w h => List.mem_filter.mpr (inTX5 w h)
set_option maxRecDepth 20000 in
theorem inTX6 : ∀ w ∈ u_ws RX6 TX6 13, w ∈ lw_tbl ∧ goodWord w = true := by decide +kernel
theorem inGX6 : ∀ w ∈ u_ws RX6 TX6 13, w ∈ GW := fun w h => List.mem_filter.mpr (inTX6 w h)
set_option maxRecDepth 20000 in
theorem inTX7 : ∀ w ∈ u_ws RX7 TX7 4, w ∈ lw_tbl ∧ goodWord w = true := by decide +kernel
theorem inGX7 : ∀ w ∈ u_ws RX7 TX7 4, w ∈ GW := fun w h => List.mem_filter.mpr (inTX7 w h)
set_option maxRecDepth 20000 in
theorem inTX8 : ∀ w ∈ u_ws RX8 TX8 14, w ∈ lw_tbl ∧ goodWord w = true := by decide +kernel
theorem inGX8 : ∀ w ∈ u_ws RX8 TX8 14, w ∈ GW := fun w h => List.mem_filter.mpr (inTX8 w h)
set_option maxRecDepth 20000 in
theorem inTX9 : ∀ w ∈ u_ws RX9 TX9 6, w ∈ lw_tbl ∧ goodWord w = true := by decide +kernel
theorem inGX9 : ∀ w ∈ u_ws RX9 TX9 6, w ∈ GW := fun w h => List.mem_filter.mpr (inTX9 w h)
set_option maxRecDepth 20000 in
theorem inTX10 : ∀ w ∈ u_ws RX10 TX10 20, w ∈ lw_tbl ∧ goodWord w = true := by decide +kernel
theorem inGX10 : ∀ w ∈ u_ws RX10 TX10 20, w ∈ GW := fun w h => List.mem_filter.mpr (inTX10 w h)
set_option maxRecDepth 20000 in
theorem inTX11 : ∀ w ∈ u_ws RX11 TX11 49, w ∈ lw_tbl ∧ goodWord w = true := by decide +kernel
theorem inGX11 : ∀ w ∈ u_ws RX11 TX11 49, w ∈ GW := fun w h => List.mem_filter.mpr (inTX11 w h)
theorem kw_1 : Cond.initialized "DimStars" ∈ GW := gw_t (mt1 1 rfl) rfl
theorem kw_10 : Cond.initialized "DimStarsModel" ∈ GW := gw_t (mt1 10 rfl) rfl
theorem kw_1025 : Cond.methodLink "DimStars" 343 ⟨"DimStars", "isWeighed", "(III)Z"⟩ ∈ GW := gw_t (mt5 65 rfl) rfl
theorem kw_1027 : Cond.instanceMethod ⟨"DimStars", "isWeighed", "(III)Z"⟩ ∈ GW := gw_t (mt5 67 rfl) rfl
theorem kw_1028 : Cond.code yX10_isWeighed cX10_isWeighed 4 (some .boolean) ∈ GW := gw_t (mt5 68 rfl) rfl
theorem kw_1029 : Cond.methodLink "DimStars" 349 ⟨"DimStars", "sorterAt", "(I)LDimStars$Text;"⟩ ∈ GW := gw_t (mt5 69 rfl) rfl
theorem kw_1031 : Cond.instanceMethod ⟨"DimStars", "sorterAt", "(I)LDimStars$Text;"⟩ ∈ GW := gw_t (mt5 71 rfl) rfl
theorem kw_1032 : Cond.code yX10_sorterAt cX10_sorterAt 2 (some (.object "DimStars$Text")) ∈ GW := gw_t (mt5 72 rfl) rfl
theorem kw_1155 : Cond.constantLong "DimStars" 408 (-1000000000) ∈ GW := gw_t (mt5 195 rfl) rfl
theorem kw_1208 : Cond.fieldLink "DimStarsModel" 7 "DimStarsModel" "told" "[I" ∈ GW := gw_t (mt6 8 rfl) rfl
theorem kw_1212 : Cond.fieldLink "DimStarsModel" 20 "DimStarsModel" "texts" "[I" ∈ GW := gw_t (mt6 12 rfl) rfl
theorem kw_1256 : Cond.fieldLink "DimStarsModel" 93 "DimStarsModel" "isMade" "[Z" ∈ GW := gw_t (mt6 56 rfl) rfl
theorem kw_1362 : Cond.methodLink "DimStarsModel" 99 ⟨"DimStarsModel", "in", "(JJJ)Z"⟩ ∈ GW := gw_t (mt6 162 rfl) rfl
theorem kw_1363 : Cond.static ⟨"DimStarsModel", "in", "(JJJ)Z"⟩ ∈ GW := gw_t (mt6 163 rfl) rfl
theorem kw_1364 : Cond.code yX11_in cX11_in 6 (some .boolean) ∈ GW := gw_t (mt6 164 rfl) rfl
theorem kw_1372 : Cond.methodLink "DimStarsModel" 108 ⟨"DimStarsModel", "isStar", "(I)Z"⟩ ∈ GW := gw_t (mt6 172 rfl) rfl
theorem kw_1374 : Cond.instanceMethod ⟨"DimStarsModel", "isStar", "(I)Z"⟩ ∈ GW := gw_t (mt6 174 rfl) rfl
theorem kw_1375 : Cond.code yX11_isStar cX11_isStar 2 (some .boolean) ∈ GW := gw_t (mt6 175 rfl) rfl
theorem kw_1381 : Cond.constant "DimStarsModel" 119 (-200000) ∈ GW := gw_t (mt6 181 rfl) rfl
theorem kw_1605 : Cond.methodLink "DimStarsModel" 366 ⟨"DimStarsModel", "isText", "(II)Z"⟩ ∈ GW := gw_t (mt7 165 rfl) rfl
theorem kw_1607 : Cond.instanceMethod ⟨"DimStarsModel", "isText", "(II)Z"⟩ ∈ GW := gw_t (mt7 167 rfl) rfl
theorem kw_1608 : Cond.code yX11_isText cX11_isText 3 (some .boolean) ∈ GW := gw_t (mt7 168 rfl) rfl
theorem kw_1650 : Cond.constantLong "DimStarsModel" 404 (-1) ∈ GW := gw_t (mt7 210 rfl) rfl
theorem kw_1665 : Cond.constantLong "DimStarsModel" 422 (4) ∈ GW := gw_t (mt7 225 rfl) rfl
theorem kw_1666 : Cond.constantLong "DimStarsModel" 424 (-200000) ∈ GW := gw_t (mt7 226 rfl) rfl
theorem kw_1707 : Cond.constantLong "DimStarsModel" 485 (-2) ∈ GW := gw_t (mt8 27 rfl) rfl
theorem kw_1814 : Cond.methodLink "DimStarsModel" 546 ⟨"DimStarsModel", "canWeigh", "(III)Z"⟩ ∈ GW := gw_t (mt8 134 rfl) rfl
theorem kw_1816 : Cond.instanceMethod ⟨"DimStarsModel", "canWeigh", "(III)Z"⟩ ∈ GW := gw_t (mt8 136 rfl) rfl
theorem kw_1817 : Cond.code yX11_canWeigh cX11_canWeigh 4 (some .boolean) ∈ GW := gw_t (mt8 137 rfl) rfl
theorem kw_1893 : Cond.constantLong "DimStarsModel" 567 (-1000000000) ∈ GW := gw_t (mt8 213 rfl) rfl
theorem kw_1912 : Cond.constantLong "DimStarsModel" 573 (3) ∈ GW := gw_t (mt8 232 rfl) rfl
theorem kw_2 : Cond.initialized "DimStars$Sky" ∈ GW := gw_t (mt1 2 rfl) rfl
theorem kw_349 : Cond.fieldLink "DimStars" 10 "DimStars" "sky" "LDimStars$Sky;" ∈ GW := gw_t (mt2 109 rfl) rfl
theorem kw_350 : Cond.fieldLink "DimStars" 16 "DimStars" "images" "[LDimStars$Sky;" ∈ GW := gw_t (mt2 110 rfl) rfl
theorem kw_354 : Cond.fieldLink "DimStars" 169 "DimStars" "lawCount" "I" ∈ GW := gw_t (mt2 114 rfl) rfl
theorem kw_355 : Cond.fieldLink "DimStars" 172 "DimStars" "searchCount" "I" ∈ GW := gw_t (mt2 115 rfl) rfl
theorem kw_356 : Cond.fieldLink "DimStars" 175 "DimStars" "sorterCount" "I" ∈ GW := gw_t (mt2 116 rfl) rfl
theorem kw_39 : Cond.fieldLink "DimStars$Sky" 44 "DimStars$Sky" "starCount" "I" ∈ GW := gw_t (mt1 39 rfl) rfl
theorem kw_417 : Cond.methodLink "DimStars" 100 ⟨"DimStars", "isWithin", "(III)Z"⟩ ∈ GW := gw_t (mt2 177 rfl) rfl
theorem kw_418 : Cond.static ⟨"DimStars", "isWithin", "(III)Z"⟩ ∈ GW := gw_t (mt2 178 rfl) rfl
theorem kw_419 : Cond.code yX10_isWithin cX10_isWithin 3 (some .boolean) ∈ GW := gw_t (mt2 179 rfl) rfl
theorem kw_43 : Cond.fieldLink "DimStars$Sky" 47 "DimStars$Sky" "worldCount" "I" ∈ GW := gw_t (mt1 43 rfl) rfl
theorem kw_467 : Cond.instanceMethod ⟨"DimStars$Sky", "starAt", "(I)LDimStars$Star;"⟩ ∈ GW := gw_t (mt2 227 rfl) rfl
theorem kw_468 : Cond.code yX6_starAt cX6_starAt 2 (some (.object "DimStars$Star")) ∈ GW := gw_t (mt2 228 rfl) rfl
theorem kw_469 : Cond.constant "DimStars" 112 (-100000) ∈ GW := gw_t (mt2 229 rfl) rfl
theorem kw_470 : Cond.methodLink "DimStars" 113 ⟨"DimStars", "isHour", "(I)Z"⟩ ∈ GW := gw_t (mt2 230 rfl) rfl
theorem kw_471 : Cond.static ⟨"DimStars", "isHour", "(I)Z"⟩ ∈ GW := gw_t (mt2 231 rfl) rfl
theorem kw_472 : Cond.code yX10_isHour cX10_isHour 1 (some .boolean) ∈ GW := gw_t (mt2 232 rfl) rfl
theorem kw_473 : Cond.constant "DimStars" 116 (-200000) ∈ GW := gw_t (mt2 233 rfl) rfl
theorem kw_494 : Cond.methodLink "DimStars" 137 ⟨"DimStars", "isStar", "(I)Z"⟩ ∈ GW := gw_t (mt3 14 rfl) rfl
theorem kw_496 : Cond.instanceMethod ⟨"DimStars", "isStar", "(I)Z"⟩ ∈ GW := gw_t (mt3 16 rfl) rfl
theorem kw_497 : Cond.code yX10_isStar cX10_isStar 2 (some .boolean) ∈ GW := gw_t (mt3 17 rfl) rfl
theorem kw_760 : Cond.methodLink "DimStars" 194 ⟨"DimStars", "lawAt", "(I)LDimStars$Text;"⟩ ∈ GW := gw_t (mt4 40 rfl) rfl
theorem kw_762 : Cond.instanceMethod ⟨"DimStars", "lawAt", "(I)LDimStars$Text;"⟩ ∈ GW := gw_t (mt4 42 rfl) rfl
theorem kw_763 : Cond.code yX10_lawAt cX10_lawAt 2 (some (.object "DimStars$Text")) ∈ GW := gw_t (mt4 43 rfl) rfl
theorem kw_802 : Cond.instanceMethod ⟨"DimStars$Sky", "worldAt", "(I)LDimStars$World;"⟩ ∈ GW := gw_t (mt4 82 rfl) rfl
theorem kw_803 : Cond.code yX6_worldAt cX6_worldAt 2 (some (.object "DimStars$World")) ∈ GW := gw_t (mt4 83 rfl) rfl
theorem kw_814 : Cond.methodLink "DimStars" 234 ⟨"DimStars", "isBeat", "(I)Z"⟩ ∈ GW := gw_t (mt4 94 rfl) rfl
theorem kw_815 : Cond.static ⟨"DimStars", "isBeat", "(I)Z"⟩ ∈ GW := gw_t (mt4 95 rfl) rfl
theorem kw_816 : Cond.code yX10_isBeat cX10_isBeat 1 (some .boolean) ∈ GW := gw_t (mt4 96 rfl) rfl
theorem kw_817 : Cond.constantLong "DimStars" 237 (-200000) ∈ GW := gw_t (mt4 97 rfl) rfl
theorem kw_848 : Cond.methodLink "DimStars" 259 ⟨"DimStars", "searchAt", "(I)LDimStars$Text;"⟩ ∈ GW := gw_t (mt4 128 rfl) rfl
theorem kw_850 : Cond.instanceMethod ⟨"DimStars", "searchAt", "(I)LDimStars$Text;"⟩ ∈ GW := gw_t (mt4 130 rfl) rfl
theorem kw_851 : Cond.code yX10_searchAt cX10_searchAt 2 (some (.object "DimStars$Text")) ∈ GW := gw_t (mt4 131 rfl) rfl
theorem kw_852 : Cond.constantLong "DimStars" 262 (-2) ∈ GW := gw_t (mt4 132 rfl) rfl
theorem kw_899 : Cond.constantLong "DimStars" 274 (-1) ∈ GW := gw_t (mt4 179 rfl) rfl
theorem kw_s128 : Cond.selects "DimStarsModel" ⟨"DimStarsModel", "isText", "(II)Z"⟩ ⟨"DimStarsModel", "isText", "(II)Z"⟩ ∈ GW := gw_s 128 rfl rfl
theorem kw_s163 : Cond.selects "DimStarsModel" ⟨"DimStarsModel", "canWeigh", "(III)Z"⟩ ⟨"DimStarsModel", "canWeigh", "(III)Z"⟩ ∈ GW := gw_s 163 rfl rfl
theorem kw_s3 : Cond.selects "DimStars$Sky" ⟨"DimStars$Sky", "starAt", "(I)LDimStars$Star;"⟩ ⟨"DimStars$Sky", "starAt", "(I)LDimStars$Star;"⟩ ∈ GW := gw_s 3 rfl rfl
theorem kw_s34 : Cond.selects "DimStars" ⟨"DimStars", "lawAt", "(I)LDimStars$Text;"⟩ ⟨"DimStars", "lawAt", "(I)LDimStars$Text;"⟩ ∈ GW := gw_s 34 rfl rfl
theorem kw_s39 : Cond.selects "DimStars$Sky" ⟨"DimStars$Sky", "worldAt", "(I)LDimStars$World;"⟩ ⟨"DimStars$Sky", "worldAt", "(I)LDimStars$World;"⟩ ∈ GW := gw_s 39 rfl rfl
theorem kw_s4 : Cond.selects "DimStars" ⟨"DimStars", "isStar", "(I)Z"⟩ ⟨"DimStars", "isStar", "(I)Z"⟩ ∈ GW := gw_s 4 rfl rfl
theorem kw_s46 : Cond.selects "DimStars" ⟨"DimStars", "searchAt", "(I)LDimStars$Text;"⟩ ⟨"DimStars", "searchAt", "(I)LDimStars$Text;"⟩ ∈ GW := gw_s 46 rfl rfl
theorem kw_s71 : Cond.selects "DimStars" ⟨"DimStars", "isWeighed", "(III)Z"⟩ ⟨"DimStars", "isWeighed", "(III)Z"⟩ ∈ GW := gw_s 71 rfl rfl
theorem kw_s72 : Cond.selects "DimStars" ⟨"DimStars", "sorterAt", "(I)LDimStars$Text;"⟩ ⟨"DimStars", "sorterAt", "(I)LDimStars$Text;"⟩ ∈ GW := gw_s 72 rfl rfl
theorem kw_s93 : Cond.selects "DimStarsModel" ⟨"DimStarsModel", "isStar", "(I)Z"⟩ ⟨"DimStarsModel", "isStar", "(I)Z"⟩ ∈ GW := gw_s 93 rfl rfl
theorem kn_465 : Cond.methodLinkNest "DimStars" 108 ⟨"DimStars$Sky", "starAt", "(I)LDimStars$Star;"⟩ "DimStars" ∈ tables_1 := mt2 225 rfl
theorem kn_904 : Cond.methodLinkNest "DimStars" 280 ⟨"DimStars$Sky", "worldAt", "(I)LDimStars$World;"⟩ "DimStars" ∈ tables_1 := mt4 184 rfl
theorem lk_X10_100 : LkS RX10 100 yX10_isWithin cX10_isWithin 3 (some .boolean) 3 := ⟨kw_417, kw_418, kw_1, kw_419, ⟨by decide +kernel, by decide +kernel, by decide +kernel⟩⟩
theorem lk_X10_108 : LkNV RX10 108 yX6_starAt "DimStars" cX6_starAt 2 (some (.object "DimStars$Star")) 1 := ⟨kn_465, kw_467, kw_s3, kw_2, kw_468, ⟨by decide +kernel, by decide +kernel, by decide +kernel⟩⟩
theorem lk_X10_113 : LkS RX10 113 yX10_isHour cX10_isHour 1 (some .boolean) 1 := ⟨kw_470, kw_471, kw_1, kw_472, ⟨by decide +kernel, by decide +kernel, by decide +kernel⟩⟩
theorem lk_X10_137 : LkV RX10 137 yX10_isStar cX10_isStar 2 (some .boolean) 1 := ⟨kw_494, kw_496, kw_s4, kw_1, kw_497, ⟨by decide +kernel, by decide +kernel, by decide +kernel⟩⟩
theorem lk_X10_194 : LkV RX10 194 yX10_lawAt cX10_lawAt 2 (some (.object "DimStars$Text")) 1 := ⟨kw_760, kw_762, kw_s34, kw_1, kw_763, ⟨by decide +kernel, by decide +kernel, by decide +kernel⟩⟩
theorem lk_X10_234 : LkS RX10 234 yX10_isBeat cX10_isBeat 1 (some .boolean) 1 := ⟨kw_814, kw_815, kw_1, kw_816, ⟨by decide +kernel, by decide +kernel, by decide +kernel⟩⟩
theorem lk_X10_259 : LkV RX10 259 yX10_searchAt cX10_searchAt 2 (some (.object "DimStars$Text")) 1 := ⟨kw_848, kw_850, kw_s46, kw_1, kw_851, ⟨by decide +kernel, by decide +kernel, by decide +kernel⟩⟩
theorem lk_X10_280 : LkNV RX10 280 yX6_worldAt "DimStars" cX6_worldAt 2 (some (.object "DimStars$World")) 1 := ⟨kn_904, kw_802, kw_s39, kw_2, kw_803, ⟨by decide +kernel, by decide +kernel, by decide +kernel⟩⟩
theorem lk_X10_343 : LkV RX10 343 yX10_isWeighed cX10_isWeighed 4 (some .boolean) 3 := ⟨kw_1025, kw_1027, kw_s71, kw_1, kw_1028, ⟨by decide +kernel, by decide +kernel, by decide +kernel⟩⟩
theorem lk_X10_349 : LkV RX10 349 yX10_sorterAt cX10_sorterAt 2 (some (.object "DimStars$Text")) 1 := ⟨kw_1029, kw_1031, kw_s72, kw_1, kw_1032, ⟨by decide +kernel, by decide +kernel, by decide +kernel⟩⟩
theorem lk_X11_108 : LkV RX11 108 yX11_isStar cX11_isStar 2 (some .boolean) 1 := ⟨kw_1372, kw_1374, kw_s93, kw_10, kw_1375, ⟨by decide +kernel, by decide +kernel, by decide +kernel⟩⟩
theorem lk_X11_366 : LkV RX11 366 yX11_isText cX11_isText 3 (some .boolean) 2 := ⟨kw_1605, kw_1607, kw_s128, kw_10, kw_1608, ⟨by decide +kernel, by decide +kernel, by decide +kernel⟩⟩
theorem lk_X11_546 : LkV RX11 546 yX11_canWeigh cX11_canWeigh 4 (some .boolean) 3 := ⟨kw_1814, kw_1816, kw_s163, kw_10, kw_1817, ⟨by decide +kernel, by decide +kernel, by decide +kernel⟩⟩
theorem lk_X11_99 : LkS RX11 99 yX11_in cX11_in 6 (some .boolean) 3 := ⟨kw_1362, kw_1363, kw_10, kw_1364, ⟨by decide +kernel, by decide +kernel, by decide +kernel⟩⟩
