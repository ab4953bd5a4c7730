set_option maxRecDepth 20000 in
theorem ggR_r1 : GoodIn wsL_law (.code yL_rows cL_rows 15 (some .boolean) :: wsL_rows_r1) := goodIn_r _ [494, 495, 496, 497, 2, 498, 15, 89, 90, 91, 14, 92, 93, 401, 402, 49, 403, 499, 500, 501, 502, 273, 274, 275, 276] (by decide +kernel) (by decide +kernel)
set_option maxRecDepth 20000 in
theorem ggR_r2 : GoodIn wsL_law (wsL_rows_r2) := goodIn_r _ [277, 278, 85, 94, 95, 96, 97, 98, 99, 100, 101, 102, 103, 104, 105, 106, 107, 108, 109, 26, 503, 504, 505, 506] (by decide +kernel) (by decide +kernel)
set_option maxRecDepth 20000 in
theorem ggR_r3 : GoodIn wsL_law (wsL_rows_r3) := goodIn_r _ [60, 61, 62, 63, 64, 65, 66, 67, 68, 69, 70, 71, 72, 73, 74, 75, 76, 18, 77, 78, 79, 80, 11, 81] (by decide +kernel) (by decide +kernel)
set_option maxRecDepth 20000 in
theorem ggR_r4 : GoodIn wsL_law (wsL_rows_r4) := goodIn_r _ [82, 83, 84, 86, 87, 88, 110, 111, 112, 113, 8, 9, 114, 13, 115, 116, 117, 23, 24, 25, 27, 28, 29, 30] (by decide +kernel) (by decide +kernel)
set_option maxRecDepth 20000 in
theorem ggR_r5 : GoodIn wsL_law (wsL_rows_r5) := goodIn_r _ [31, 32, 33, 34, 35, 36, 118, 119, 120, 121, 122, 123, 124, 125, 126, 127, 128, 129, 130, 131, 132, 133, 134, 135] (by decide +kernel) (by decide +kernel)
set_option maxRecDepth 20000 in
theorem ggR_r6 : GoodIn wsL_law (wsL_rows_r6) := goodIn_r _ [136, 137, 138, 139, 140, 141, 142, 143, 144, 145, 146, 147, 148, 149, 150, 151, 152, 153, 154, 155, 156, 157, 158, 159] (by decide +kernel) (by decide +kernel)
set_option maxRecDepth 20000 in
theorem ggR_r7 : GoodIn wsL_law (wsL_rows_r7) := goodIn_r _ [160, 161, 162, 163, 164, 165, 166, 167, 168, 169, 170, 171, 172, 173, 174, 175, 176, 177, 178, 179, 180, 181, 182, 183] (by decide +kernel) (by decide +kernel)
set_option maxRecDepth 20000 in
theorem ggR_r8 : GoodIn wsL_law (wsL_rows_r8) := goodIn_r _ [184, 185, 186, 187, 21, 188, 43, 46, 189, 190, 191, 192, 12, 22, 193, 194, 195, 196, 197, 198, 199, 200, 201, 202] (by decide +kernel) (by decide +kernel)
set_option maxRecDepth 20000 in
theorem ggR_r9 : GoodIn wsL_law (wsL_rows_r9) := goodIn_r _ [203, 204, 205, 206, 207, 208, 209, 210, 211, 212, 213, 214, 215, 216, 217, 218, 219, 220, 221, 222, 223, 224, 44, 45] (by decide +kernel) (by decide +kernel)
set_option maxRecDepth 20000 in
theorem ggR_r10 : GoodIn wsL_law (wsL_rows_r10) := goodIn_r _ [225, 226, 227, 228, 229, 230, 231, 232, 233, 234, 235, 236, 237, 19, 238, 239, 240, 241, 242, 243, 244, 245, 246, 247] (by decide +kernel) (by decide +kernel)
set_option maxRecDepth 20000 in
theorem ggR_r11 : GoodIn wsL_law (wsL_rows_r11) := goodIn_r _ [248, 249, 250, 251, 252, 41, 42, 253, 254, 255, 256, 257, 258, 259, 260, 261, 262, 263, 264, 265, 266, 267, 268, 269] (by decide +kernel) (by decide +kernel)
set_option maxRecDepth 20000 in
theorem ggR_r12 : GoodIn wsL_law (wsL_rows_r12) := goodIn_r _ [270, 271, 272, 279, 280, 281, 282, 283, 284, 285, 286, 287, 288, 289, 16, 290, 291, 292, 293, 294, 295, 296, 297, 298] (by decide +kernel) (by decide +kernel)
set_option maxRecDepth 20000 in
theorem ggR_r13 : GoodIn wsL_law (wsL_rows_r13) := goodIn_r _ [299, 300, 301, 302, 303, 304, 305, 306, 307, 308, 309, 310, 311, 312, 313, 314, 315, 316, 317, 318, 319, 320, 321, 322] (by decide +kernel) (by decide +kernel)
set_option maxRecDepth 20000 in
theorem ggR_r14 : GoodIn wsL_law (wsL_rows_r14) := goodIn_r _ [323, 324, 325, 326, 17, 327, 328, 329, 330, 331, 332, 333, 334, 335, 336, 337, 338, 339, 340, 341, 342, 343, 344, 345] (by decide +kernel) (by decide +kernel)
set_option maxRecDepth 20000 in
theorem ggR_r15 : GoodIn wsL_law (wsL_rows_r15) := goodIn_r _ [346, 347, 348, 349, 350, 351, 352, 353, 354, 355, 356, 357, 358, 359, 360, 361, 362, 363, 364, 365, 366, 367, 368, 369] (by decide +kernel) (by decide +kernel)
set_option maxRecDepth 20000 in
theorem ggR_r16 : GoodIn wsL_law (wsL_rows_r16) := goodIn_r _ [370, 371, 372, 373, 374, 375, 376, 377, 378, 379, 380, 381, 382, 383, 384, 385, 386, 387, 388, 410, 411, 412, 57, 58] (by decide +kernel) (by decide +kernel)
set_option maxRecDepth 20000 in
theorem ggR_r17 : GoodIn wsL_law (wsL_rows_r17) := goodIn_r _ [59, 456, 457, 458, 507, 508, 509, 510, 511, 512, 513, 514, 515, 516, 517, 518, 519, 520, 521, 522, 523, 524, 525, 526] (by decide +kernel) (by decide +kernel)
set_option maxRecDepth 20000 in
theorem ggR_r18 : GoodIn wsL_law (wsL_rows_r18) := goodIn_r _ [527] (by decide +kernel) (by decide +kernel)
set_option maxRecDepth 20000 in
theorem ggR_wsX60 : GoodIn wsL_law (wsX60) := goodIn_r _ [528, 529, 530, 531, 532, 533] (by decide +kernel) (by decide +kernel)
set_option maxRecDepth 20000 in
theorem ggR_wsJx4a65c0 : GoodIn wsL_law (wsJx4a65c0) := goodIn_r _ [534, 535, 536] (by decide +kernel) (by decide +kernel)
set_option maxRecDepth 20000 in
theorem ggR_wsX30 : GoodIn wsL_law (wsX30) := goodIn_r _ [543, 544] (by decide +kernel) (by decide +kernel)
set_option maxRecDepth 20000 in
theorem ggR_wsX10 : GoodIn wsL_law (wsX10) := goodIn_r _ [537, 538, 539, 540, 541, 542] (by decide +kernel) (by decide +kernel)
set_option maxRecDepth 20000 in
theorem ggR_wsX20 : GoodIn wsL_law (wsX20) := goodIn_r _ [545, 546, 547] (by decide +kernel) (by decide +kernel)
set_option maxRecDepth 20000 in
theorem ggR_wsX50 : GoodIn wsL_law (wsX50) := goodIn_r _ [548, 549, 550] (by decide +kernel) (by decide +kernel)
set_option maxRecDepth 20000 in
theorem ggR_wsX40 : GoodIn wsL_law (wsX40) := goodIn_r _ [551, 552, 553] (by decide +kernel) (by decide +kernel)
set_option maxRecDepth 20000 in
theorem ggR_wsX00 : GoodIn wsL_law (wsX00) := goodIn_r _ [554, 555, 556, 557] (by decide +kernel) (by decide +kernel)
set_option maxRecDepth 20000 in
theorem ggL_law_L_rows : GoodIn wsL_law wsL_rows := goodIn_ca (goodIn_ca (goodIn_ca (goodIn_ca (goodIn_ca (goodIn_ca (goodIn_ca (goodIn_ca (goodIn_ca (goodIn_ca (goodIn_ca (goodIn_ca (goodIn_ca ggR_r1 (goodIn_app ggR_r2 (goodIn_app ggR_r3 (goodIn_app ggR_r4 (goodIn_app ggR_r5 (goodIn_app ggR_r6 (goodIn_app ggR_r7 (goodIn_app ggR_r8 (goodIn_app ggR_r9 (goodIn_app ggR_r10 (goodIn_app ggR_r11 (goodIn_app ggR_r12 (goodIn_app ggR_r13 (goodIn_app ggR_r14 (goodIn_app ggR_r15 (goodIn_app ggR_r16 (goodIn_app ggR_r17 (ggR_r18)))))))))))))))))) ggR_wsX60) ggR_wsJx4a65c0) ggR_wsX30) ggR_wsX10) ggR_wsX20) ggR_wsX50) ggR_wsX40) ggR_wsX00) (goodIn_sub (fun _ h => List.mem_append_right _ h) (by decide +kernel))) (goodIn_sub (fun _ h => List.mem_append_left _ (List.mem_append_left _ (List.mem_append_left _ (List.mem_append_right _ h)))) (by decide +kernel))) (goodIn_sub (fun _ h => List.mem_append_left _ (List.mem_append_left _ (List.mem_append_right _ h))) (by decide +kernel))) (goodIn_sub (fun _ h => List.mem_append_left _ (List.mem_append_right _ h)) (by decide +kernel))
set_option maxRecDepth 20000 in
theorem gL_law_L_rows : GoodIn wsL_law (va_wsS RL 185 yL_rows wsL_rows) := goodIn_app (goodIn_of _ (by decide +kernel)) ggL_law_L_rows
