/-! the words of the law's calls are of the tables -/
set_option maxRecDepth 20000 in
theorem wi_r1 : ∀ w ∈ wsL_law0_r1, w ∈ lw_tbl := in_p _ [55, 56, 25, 122, 57, 58, 59, 60, 61, 62, 63, 123, 65, 66, 28, 124, 125, 126, 127, 128, 91, 29, 67, 68] (by decide +kernel)
set_option maxRecDepth 20000 in
theorem wi_r2 : ∀ w ∈ wsL_law0_r2, w ∈ lw_tbl := in_p _ [69, 77, 79, 70, 71, 27, 72, 81, 73, 74, 26, 75, 76, 92, 93, 94, 95, 96, 99, 103, 105, 107, 101, 880] (by decide +kernel)
set_option maxRecDepth 20000 in
theorem wi_r3 : ∀ w ∈ wsL_law0_r3, w ∈ lw_tbl := in_p _ [881, 24, 882, 883, 884, 885, 886, 887, 888, 892, 893, 894, 922, 923, 924, 925, 926, 927, 928, 142, 143, 144, 145, 146] (by decide +kernel)
set_option maxRecDepth 20000 in
theorem wi_r4 : ∀ w ∈ wsL_law0_r4, w ∈ lw_tbl := in_p _ [148, 0, 149, 150, 33, 219, 221, 2, 222, 224, 226, 3, 227, 246, 246, 247, 36, 228, 229, 230, 231, 80, 232, 233] (by decide +kernel)
set_option maxRecDepth 20000 in
theorem wi_r5 : ∀ w ∈ wsL_law0_r5, w ∈ lw_tbl := in_p _ [234, 235, 236, 237, 34, 238, 239, 240, 35, 241, 242, 243, 244, 245, 248, 249, 250, 251, 252, 256, 254, 253, 263, 264] (by decide +kernel)
set_option maxRecDepth 20000 in
theorem wi_r6 : ∀ w ∈ wsL_law0_r6, w ∈ lw_tbl := in_p _ [265, 266, 82, 83, 267, 269, 4, 270, 271, 273, 5, 274, 275, 277, 6, 278, 322, 283, 38, 284, 323, 279, 280, 37] (by decide +kernel)
set_option maxRecDepth 20000 in
theorem wi_r7 : ∀ w ∈ wsL_law0_r7, w ∈ lw_tbl := in_p _ [281, 282, 285, 286, 287, 288, 289, 290, 39, 291, 292, 1047, 293, 309, 310, 311, 312, 313, 315, 316, 317, 318, 319, 321] (by decide +kernel)
set_option maxRecDepth 20000 in
theorem wi_r8 : ∀ w ∈ wsL_law0_r8, w ∈ lw_tbl := in_p _ [320, 40, 324, 325, 326, 327, 63, 328, 330, 7, 331, 340, 41, 332, 334, 8, 335, 336, 337, 338, 339, 356, 358, 9] (by decide +kernel)
