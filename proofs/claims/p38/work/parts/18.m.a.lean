abbrev cX11_back : ByteArray := prog_13_method_127_code
def yX11_back : MethodName := ⟨RX11, "back", "(I)I"⟩
abbrev cX11_image : ByteArray := prog_13_method_126_code
def yX11_image : MethodName := ⟨RX11, "image", "(I)I"⟩
theorem kw_1255 : Cond.fieldLink "DimStarsModel" 90 "DimStarsModel" "images" "[I" ∈ GW := gw_t (mt6 55 rfl) rfl
theorem kw_1256 : Cond.fieldLink "DimStarsModel" 93 "DimStarsModel" "isMade" "[Z" ∈ GW := gw_t (mt6 56 rfl) rfl
theorem kw_1912 : Cond.constantLong "DimStarsModel" 573 (3) ∈ GW := gw_t (mt8 232 rfl) rfl
