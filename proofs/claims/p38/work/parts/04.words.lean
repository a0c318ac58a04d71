set_option maxRecDepth 20000 in
theorem inTX0 : ∀ w ∈ u_ws RX0 TX0 2, w ∈ lw_tbl ∧ goodWord w = true := by decide +kernel
theorem inGX0 : ∀ w ∈ u_ws RX0 TX0 2, w ∈ GW := fun w h => List.mem_filter.mpr (inTX0 w h)
set_option maxRecDepth 20000 in
theorem inTX1 : ∀ w ∈ u_ws RX1 TX1 7, w ∈ lw_tbl ∧ goodWord w = true := by decide +kernel
theorem inGX1 : ∀ w ∈ u_ws RX1 TX1 7, w ∈ GW := fun w h => List.mem_filter.mpr (inTX1 w h)
set_option maxRecDepth 20000 in
theorem inTX2 : ∀ w ∈ u_ws RX2 TX2 8, w ∈ lw_tbl ∧ goodWord w = true := by decide +kernel
theorem inGX2 : ∀ w ∈ u_ws RX2 TX2 8, w ∈ GW := fun w h => List.mem_filter.mpr (inTX2 w h)
set_option maxRecDepth 20000 in
theorem inTX3 : ∀ w ∈ u_ws RX3 TX3 12, w ∈ lw_tbl ∧ goodWord w = true := by decide +kernel
theorem inGX3 : ∀ w ∈ u_ws RX3 TX3 12, w ∈ GW := fun w h => List.mem_filter.mpr (inTX3 w h)
set_option maxRecDepth 20000 in
theorem inTX4 : ∀ w ∈ u_ws RX4 TX4 1, w ∈ lw_tbl ∧ goodWord w = true := by decide +kernel
theorem inGX4 : ∀ w ∈ u_ws RX4 TX4 1, w ∈ GW := fun w h => List.mem_filter.mpr (inTX4 w h)
set_option maxRecDepth 20000 in
theorem inTX5 : ∀ w ∈ u_ws RX5 TX5 4, w ∈ lw_tbl ∧ goodWord w = true := by decide +kernel
theorem inGX5 : ∀ w ∈ u_ws RX5 TX5 4, w ∈ GW := fun w h => List.mem_filter.mpr (inTX5 w h)
set_option maxRecDepth 20000 in
theorem inTX6 : ∀ w ∈ u_ws RX6 TX6 13, w ∈ lw_tbl ∧ goodWord w = true := by decide +kernel
theorem inGX6 : ∀ w ∈ u_ws RX6 TX6 13, w ∈ GW := fun w h => List.mem_filter.mpr (inTX6 w h)
set_option maxRecDepth 20000 in
theorem inTX7 : ∀ w ∈ u_ws RX7 TX7 4, w ∈ lw_tbl ∧ goodWord w = true := by decide +kernel
theorem inGX7 : ∀ w ∈ u_ws RX7 TX7 4, w ∈ GW := fun w h => List.mem_filter.mpr (inTX7 w h)
set_option maxRecDepth 20000 in
theorem inTX8 : ∀ w ∈ u_ws RX8 TX8 14, w ∈ lw_tbl ∧ goodWord w = true := by decide +kernel
theorem inGX8 : ∀ w ∈ u_ws RX8 TX8 14, w ∈ GW := fun w h => List.mem_filter.mpr (inTX8 w h)
set_option maxRecDepth 20000 in
theorem inTX9 : ∀ w ∈ u_ws RX9 TX9 6, w ∈ lw_tbl ∧ goodWord w = true := by decide +kernel
theorem inGX9 : ∀ w ∈ u_ws RX9 TX9 6, w ∈ GW := fun w h => List.mem_filter.mpr (inTX9 w h)
set_option maxRecDepth 20000 in
theorem inTX10 : ∀ w ∈ u_ws RX10 TX10 20, w ∈ lw_tbl ∧ goodWord w = true := by decide +kernel
theorem inGX10 : ∀ w ∈ u_ws RX10 TX10 20, w ∈ GW := fun w h => List.mem_filter.mpr (inTX10 w h)
set_option maxRecDepth 20000 in
theorem inTX11 : ∀ w ∈ u_ws RX11 TX11 49, w ∈ lw_tbl ∧ goodWord w = true := by decide +kernel
theorem inGX11 : ∀ w ∈ u_ws RX11 TX11 49, w ∈ GW := fun w h => List.mem_filter.mpr (inTX11 w h)
