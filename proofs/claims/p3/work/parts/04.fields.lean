set_option maxRecDepth 100000 in
theorem zi_X0 : ∀ w ∈ u_ws RX0 TX0 3, w ∈ zall := by decide +kernel
set_option maxRecDepth 100000 in
theorem zi_X1 : ∀ w ∈ u_ws RX1 TX1 3, w ∈ zall := by decide +kernel
set_option maxRecDepth 100000 in
theorem zi_X2 : ∀ w ∈ u_ws RX2 TX2 14, w ∈ zall := by decide +kernel
set_option maxRecDepth 100000 in
theorem zi_X3 : ∀ w ∈ u_ws RX3 TX3 6, w ∈ zall := by decide +kernel
set_option maxRecDepth 100000 in
theorem zi_X4 : ∀ w ∈ u_ws RX4 TX4 7, w ∈ zall := by decide +kernel
set_option maxRecDepth 100000 in
theorem zi_X5 : ∀ w ∈ u_ws RX5 TX5 1, w ∈ zall := by decide +kernel
set_option maxRecDepth 100000 in
theorem zi_X6 : ∀ w ∈ u_ws RX6 TX6 4, w ∈ zall := by decide +kernel
set_option maxRecDepth 100000 in
theorem zi_X7 : ∀ w ∈ u_ws RX7 TX7 16, w ∈ zall := by decide +kernel
set_option maxRecDepth 100000 in
theorem zi_X8 : ∀ w ∈ u_ws RX8 TX8 8, w ∈ zall := by decide +kernel
set_option maxRecDepth 100000 in
theorem zi_X9 : ∀ w ∈ u_ws RX9 TX9 9, w ∈ zall := by decide +kernel
set_option maxRecDepth 100000 in
theorem zi_X10 : ∀ w ∈ u_ws RX10 TX10 16, w ∈ zall := by decide +kernel
set_option maxRecDepth 100000 in
theorem zi_X11 : ∀ w ∈ u_ws RX11 TX11 53, w ∈ zall := by decide +kernel
