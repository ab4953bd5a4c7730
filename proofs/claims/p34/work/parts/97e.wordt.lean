/-! the words of the law's calls are of the tables -/
set_option maxRecDepth 20000 in
theorem wi_wsX60 : ∀ w ∈ wsX60, w ∈ lw_tbl := in_p _ [129, 131, 133, 135, 137, 139] (by decide +kernel)
set_option maxRecDepth 20000 in
theorem wi_wsJx4a65c0 : ∀ w ∈ wsJx4a65c0, w ∈ lw_tbl := in_p _ [88, 84, 86] (by decide +kernel)
set_option maxRecDepth 20000 in
theorem wi_wsX10 : ∀ w ∈ wsX10, w ∈ lw_tbl := in_p _ [109, 111, 113, 115, 117, 119] (by decide +kernel)
set_option maxRecDepth 20000 in
theorem wi_wsX30 : ∀ w ∈ wsX30, w ∈ lw_tbl := in_p _ [258, 260] (by decide +kernel)
set_option maxRecDepth 20000 in
theorem wi_wsX20 : ∀ w ∈ wsX20, w ∈ lw_tbl := in_p _ [717, 719, 721] (by decide +kernel)
set_option maxRecDepth 20000 in
theorem wi_wsX50 : ∀ w ∈ wsX50, w ∈ lw_tbl := in_p _ [757, 759, 761] (by decide +kernel)
set_option maxRecDepth 20000 in
theorem wi_wsX40 : ∀ w ∈ wsX40, w ∈ lw_tbl := in_p _ [842, 844, 846] (by decide +kernel)
set_option maxRecDepth 20000 in
theorem wi_wsX00 : ∀ w ∈ wsX00, w ∈ lw_tbl := in_p _ [793, 795, 797, 799] (by decide +kernel)
set_option maxRecDepth 20000 in
theorem wi_atN : ∀ w ∈ atN, w ∈ lw_tbl := in_p _ [30, 172, 181, 186, 189, 191, 173, 174, 61, 62, 175, 180, 187, 207, 162, 208, 164, 209, 166, 176, 178, 168, 203, 204, 206, 168, 351, 352, 353, 197, 197, 198, 199, 200, 200, 201, 202, 203, 350, 341, 343, 185, 344, 345, 346, 347, 171, 170, 348] (by decide +kernel)
theorem wi_s0 : ∀ w ∈ (vx_atS RX6 117 "java/lang/IllegalStateException" ["java/lang/RuntimeException", "java/lang/Exception"]).filter goodWord, w ∈ lw_tbl := by decide +kernel
theorem wi_s1 : ∀ w ∈ (vx_atS RX6 189 "java/lang/IllegalArgumentException" ["java/lang/RuntimeException", "java/lang/Exception"]).filter goodWord, w ∈ lw_tbl := by decide +kernel
theorem wi_s2 : ∀ w ∈ (vx_atS RX6 217 "java/lang/IndexOutOfBoundsException" ["java/lang/RuntimeException", "java/lang/Exception"]).filter goodWord, w ∈ lw_tbl := by decide +kernel
