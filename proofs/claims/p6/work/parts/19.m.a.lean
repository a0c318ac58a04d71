abbrev cX11_sets : ByteArray := prog_13_method_50_code
def yX11_sets : MethodName := ⟨RX11, "sets", "([IIII)Z"⟩
