/-! the words of the law's calls are of the tables -/
set_option maxRecDepth 20000 in
theorem wi_wsX60 : ∀ w ∈ wsX60, w ∈ lw_tbl := in_p _ [151, 153, 155, 157, 159, 161] (by decide +kernel)
set_option maxRecDepth 20000 in
theorem wi_wsX70 : ∀ w ∈ wsX70, w ∈ lw_tbl := in_p _ [1100, 1102, 1104, 1106, 1108, 1110, 1112, 1114, 1116, 1118, 1120, 1122, 1124, 1126, 1128, 1130, 1132, 1134, 1136, 1138, 1140, 1142, 1144, 1146, 1148, 1150, 1152, 1154, 1156, 1158, 1160] (by decide +kernel)
set_option maxRecDepth 20000 in
theorem wi_wsJx4a65c0 : ∀ w ∈ wsJx4a65c0, w ∈ lw_tbl := in_p _ [110, 106, 108] (by decide +kernel)
set_option maxRecDepth 20000 in
theorem wi_wsX10 : ∀ w ∈ wsX10, w ∈ lw_tbl := in_p _ [131, 133, 135, 137, 139, 141] (by decide +kernel)
set_option maxRecDepth 20000 in
theorem wi_wsX30 : ∀ w ∈ wsX30, w ∈ lw_tbl := in_p _ [316, 318] (by decide +kernel)
set_option maxRecDepth 20000 in
theorem wi_wsX20 : ∀ w ∈ wsX20, w ∈ lw_tbl := in_p _ [847, 849, 851] (by decide +kernel)
set_option maxRecDepth 20000 in
theorem wi_wsX50 : ∀ w ∈ wsX50, w ∈ lw_tbl := in_p _ [928, 930, 932] (by decide +kernel)
set_option maxRecDepth 20000 in
theorem wi_wsX00 : ∀ w ∈ wsX00, w ∈ lw_tbl := in_p _ [970, 972, 974, 976] (by decide +kernel)
set_option maxRecDepth 20000 in
theorem wi_wsX40 : ∀ w ∈ wsX40, w ∈ lw_tbl := in_p _ [1023, 1025, 1027] (by decide +kernel)
set_option maxRecDepth 20000 in
theorem wi_atN : ∀ w ∈ atN, w ∈ lw_tbl := in_p _ [52, 248, 257, 262, 265, 267, 249, 250, 83, 84, 251, 256, 263, 283, 238, 284, 240, 285, 242, 252, 254, 244, 279, 280, 282, 244, 404, 405, 406, 273, 273, 274, 275, 276, 276, 277, 278, 279, 403, 394, 396, 261, 397, 398, 399, 400, 247, 246, 401] (by decide +kernel)
theorem wi_s0 : ∀ w ∈ (vx_atS RX6 117 "java/lang/IllegalStateException" ["java/lang/RuntimeException", "java/lang/Exception"]).filter goodWord, w ∈ lw_tbl := by decide +kernel
theorem wi_s1 : ∀ w ∈ (vx_atS RX6 189 "java/lang/IllegalArgumentException" ["java/lang/RuntimeException", "java/lang/Exception"]).filter goodWord, w ∈ lw_tbl := by decide +kernel
theorem wi_s2 : ∀ w ∈ (vx_atS RX6 217 "java/lang/IndexOutOfBoundsException" ["java/lang/RuntimeException", "java/lang/Exception"]).filter goodWord, w ∈ lw_tbl := by decide +kernel
