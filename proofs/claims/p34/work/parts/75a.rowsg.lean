set_option maxRecDepth 20000 in
theorem ggL_law_X6_init : GoodIn wsL_law wsX6_init := goodIn_r _ [6, 7, 8, 9, 10, 11, 12, 13, 14, 15, 16, 17, 18, 19, 20, 21, 22, 23, 24, 25, 26, 27, 28, 29, 30, 31, 32, 33, 34, 35, 36, 37, 38, 39, 40, 3, 41, 42, 43, 44, 45, 46, 528, 529, 530, 531, 532, 533, 534, 535, 536, 537, 538, 539, 540, 541, 542] (by decide +kernel) (by decide +kernel)
set_option maxRecDepth 20000 in
theorem gL_law_X6_init : GoodIn wsL_law (wsX6_init) := ggL_law_X6_init
set_option maxRecDepth 20000 in
theorem ggL_law_L_cell : GoodIn wsL_law wsL_cell := goodIn_r _ [50, 51, 52] (by decide +kernel) (by decide +kernel)
set_option maxRecDepth 20000 in
theorem gL_law_L_cell : GoodIn wsL_law (va_wsS RL 148 yL_cell wsL_cell) := goodIn_app (goodIn_of _ (by decide +kernel)) ggL_law_L_cell
set_option maxRecDepth 20000 in
theorem ggL_law_L_low : GoodIn wsL_law wsL_low := goodIn_r _ [55, 56] (by decide +kernel) (by decide +kernel)
set_option maxRecDepth 20000 in
theorem gL_law_L_low : GoodIn wsL_law (va_wsS RL 152 yL_low wsL_low) := goodIn_app (goodIn_of _ (by decide +kernel)) ggL_law_L_low
set_option maxRecDepth 20000 in
theorem ggL_law_L_handle : GoodIn wsL_law wsL_handle := goodIn_r _ [59] (by decide +kernel) (by decide +kernel)
set_option maxRecDepth 20000 in
theorem gL_law_L_handle : GoodIn wsL_law (va_wsS RL 102 yL_handle wsL_handle) := goodIn_app (goodIn_of _ (by decide +kernel)) ggL_law_L_handle
set_option maxRecDepth 20000 in
theorem ggL_law_L_there : GoodIn wsL_law wsL_there := goodIn_r _ [391] (by decide +kernel) (by decide +kernel)
set_option maxRecDepth 20000 in
theorem gL_law_L_there : GoodIn wsL_law (va_wsS RL 155 yL_there wsL_there) := goodIn_app (goodIn_of _ (by decide +kernel)) ggL_law_L_there
set_option maxRecDepth 20000 in
theorem ggL_law_X6_make : GoodIn wsL_law wsX6_make := goodIn_ca (goodIn_r _ [70, 71, 72, 73, 2, 74, 75, 76, 18, 77, 78, 79, 80, 11, 81, 82, 83, 84, 15, 85, 86, 87, 88, 89, 90, 91, 14, 92, 93, 94, 95, 96, 97, 98, 99, 100, 101, 102, 103, 104, 105, 106, 107, 108, 109, 26, 110, 111, 112, 113, 8, 9, 114, 13, 115, 116, 117, 23, 24, 25, 27, 28, 29, 30, 31, 32, 33, 34, 35, 36, 118, 119, 120, 121, 122, 123, 124, 125, 126, 127, 128, 129, 130, 131, 132, 133, 134, 135, 136, 137, 138, 139, 140, 141, 142, 143, 144, 145, 146, 147, 148, 149, 150, 151, 152, 153, 154, 155, 156, 157, 158, 159, 160, 161, 162, 163, 164, 165, 166, 167, 168, 169, 537, 538, 539, 540, 541, 542, 543, 544, 528, 529, 530, 531, 532, 533, 534, 535, 536] (by decide +kernel) (by decide +kernel)) (goodIn_sub (fun _ h => List.mem_append_left _ (List.mem_append_left _ (List.mem_append_left _ (List.mem_append_right _ h)))) (by decide +kernel))
set_option maxRecDepth 20000 in
theorem gL_law_X6_make : GoodIn wsL_law (wsV RL 32 RX6 yX6_make wsX6_make) := goodIn_app (goodIn_of _ (by decide +kernel)) ggL_law_X6_make
set_option maxRecDepth 20000 in
theorem ggL_law_L_make : GoodIn wsL_law wsL_make := goodIn_r _ [394, 395, 396, 49, 397, 398, 399, 400, 401, 402, 403] (by decide +kernel) (by decide +kernel)
set_option maxRecDepth 20000 in
theorem gL_law_L_make : GoodIn wsL_law (va_wsS RL 141 yL_make wsL_make) := goodIn_app (goodIn_of _ (by decide +kernel)) ggL_law_L_make
set_option maxRecDepth 20000 in
theorem ggL_law_L_change : GoodIn wsL_law wsL_change := goodIn_r _ [406, 407, 408, 49, 409, 401, 402, 403, 410, 411, 412, 395, 396, 397, 398, 399, 400] (by decide +kernel) (by decide +kernel)
set_option maxRecDepth 20000 in
theorem gL_law_L_change : GoodIn wsL_law (va_wsS RL 144 yL_change wsL_change) := goodIn_app (goodIn_of _ (by decide +kernel)) ggL_law_L_change
set_option maxRecDepth 20000 in
theorem ggL_law_X6_add : GoodIn wsL_law wsX6_add := goodIn_ca (goodIn_ca (goodIn_ca (goodIn_r _ [237, 75, 76, 19, 175, 176, 177, 2, 178, 179, 180, 181, 182, 183, 184, 11, 185, 186, 187, 21, 188, 43, 46, 238, 239, 240, 232, 233, 241, 242, 243, 244, 45, 71, 72, 73, 74, 18, 245, 246, 247, 248, 81, 82, 83, 84, 15, 85, 86, 87, 88, 89, 90, 91, 14, 92, 93, 94, 95, 96, 97, 98, 99, 100, 101, 102, 103, 104, 105, 106, 107, 108, 109, 26, 110, 111, 112, 113, 8, 9, 114, 13, 115, 116, 117, 23, 24, 25, 27, 28, 29, 30, 31, 32, 33, 34, 35, 36, 118, 119, 120, 121, 122, 123, 124, 125, 126, 127, 128, 129, 130, 131, 132, 133, 134, 135, 136, 137, 138, 139, 140, 141, 142, 143, 144, 145, 146, 147, 148, 149, 150, 151, 152, 153, 154, 155, 156, 157, 158, 159, 160, 161, 162, 163, 164, 165, 166, 167, 168, 169, 202, 203, 204, 205, 206, 207, 208, 209, 210, 211, 212, 213, 214, 215, 216, 217, 218, 219, 220, 197, 249, 250, 251, 252, 41, 42, 537, 538, 539, 540, 541, 542, 528, 529, 530, 531, 532, 533, 543, 544, 534, 535, 536] (by decide +kernel) (by decide +kernel)) (goodIn_sub (fun _ h => List.mem_append_left _ (List.mem_append_left _ (List.mem_append_left _ (List.mem_append_right _ h)))) (by decide +kernel))) (goodIn_sub (fun _ h => List.mem_append_left _ (List.mem_append_left _ (List.mem_append_right _ h))) (by decide +kernel))) (goodIn_sub (fun _ h => List.mem_append_left _ (List.mem_append_right _ h)) (by decide +kernel))
set_option maxRecDepth 20000 in
theorem gL_law_X6_add : GoodIn wsL_law (wsV RL 46 RX6 yX6_add wsX6_add) := goodIn_app (goodIn_of _ (by decide +kernel)) ggL_law_X6_add
set_option maxRecDepth 20000 in
theorem ggL_law_X6_take : GoodIn wsL_law wsX6_take := goodIn_ca (goodIn_ca (goodIn_ca (goodIn_r _ [256, 257, 258, 259, 2, 260, 75, 76, 175, 176, 177, 178, 179, 180, 181, 182, 183, 184, 11, 185, 186, 187, 21, 188, 43, 46, 238, 239, 240, 232, 233, 241, 242, 243, 244, 45, 71, 72, 73, 74, 18, 245, 246, 247, 248, 81, 82, 83, 84, 15, 85, 86, 87, 88, 89, 90, 91, 14, 92, 93, 94, 95, 96, 97, 98, 99, 100, 101, 102, 103, 104, 105, 106, 107, 108, 109, 26, 110, 111, 112, 113, 8, 9, 114, 13, 115, 116, 117, 23, 24, 25, 27, 28, 29, 30, 31, 32, 33, 34, 35, 36, 118, 119, 120, 121, 122, 123, 124, 125, 126, 127, 128, 129, 130, 131, 132, 133, 134, 135, 136, 137, 138, 139, 140, 141, 142, 143, 144, 145, 146, 147, 148, 149, 150, 151, 152, 153, 154, 155, 156, 157, 158, 159, 160, 161, 162, 163, 164, 165, 166, 167, 168, 169, 202, 203, 204, 205, 206, 207, 208, 209, 210, 211, 212, 213, 214, 215, 216, 217, 218, 219, 220, 197, 537, 538, 539, 540, 541, 542, 528, 529, 530, 531, 532, 533, 543, 544, 534, 535, 536] (by decide +kernel) (by decide +kernel)) (goodIn_sub (fun _ h => List.mem_append_left _ (List.mem_append_left _ (List.mem_append_left _ (List.mem_append_right _ h)))) (by decide +kernel))) (goodIn_sub (fun _ h => List.mem_append_left _ (List.mem_append_left _ (List.mem_append_right _ h))) (by decide +kernel))) (goodIn_sub (fun _ h => List.mem_append_left _ (List.mem_append_right _ h)) (by decide +kernel))
set_option maxRecDepth 20000 in
theorem gL_law_X6_take : GoodIn wsL_law (wsV RL 50 RX6 yX6_take wsX6_take) := goodIn_app (goodIn_of _ (by decide +kernel)) ggL_law_X6_take
set_option maxRecDepth 20000 in
theorem ggL_law_X6_set : GoodIn wsL_law wsX6_set := goodIn_ca (goodIn_ca (goodIn_ca (goodIn_r _ [264, 19, 257, 258, 259, 2, 260, 75, 76, 175, 176, 177, 178, 179, 180, 181, 182, 183, 184, 11, 185, 186, 187, 21, 188, 43, 46, 238, 239, 240, 232, 233, 241, 242, 243, 244, 45, 249, 250, 251, 252, 41, 42, 537, 538, 539, 540, 541, 542, 528, 529, 530, 531, 532, 533] (by decide +kernel) (by decide +kernel)) (goodIn_sub (fun _ h => List.mem_append_left _ (List.mem_append_left _ (List.mem_append_left _ (List.mem_append_right _ h)))) (by decide +kernel))) (goodIn_sub (fun _ h => List.mem_append_left _ (List.mem_append_left _ (List.mem_append_right _ h))) (by decide +kernel))) (goodIn_sub (fun _ h => List.mem_append_left _ (List.mem_append_right _ h)) (by decide +kernel))
set_option maxRecDepth 20000 in
theorem gL_law_X6_set : GoodIn wsL_law (wsV RL 53 RX6 yX6_set wsX6_set) := goodIn_app (goodIn_of _ (by decide +kernel)) ggL_law_X6_set
set_option maxRecDepth 20000 in
theorem ggL_law_X6_end : GoodIn wsL_law wsX6_end := goodIn_ca (goodIn_ca (goodIn_r _ [173, 174, 175, 176, 177, 2, 178, 179, 180, 181, 182, 183, 184, 11, 185, 186, 187, 21, 188, 43, 46, 71, 72, 73, 74, 75, 76, 18, 189, 190, 191, 192, 12, 13, 14, 22, 23, 24, 25, 26, 27, 28, 29, 30, 31, 32, 33, 34, 35, 36, 8, 9, 118, 119, 120, 121, 122, 123, 93, 124, 125, 126, 127, 128, 129, 130, 131, 132, 133, 134, 135, 136, 137, 138, 139, 140, 141, 142, 143, 144, 145, 146, 147, 148, 149, 150, 151, 152, 153, 154, 155, 156, 157, 158, 159, 160, 161, 162, 163, 164, 165, 166, 167, 168, 169, 89, 90, 91, 92, 94, 95, 96, 97, 98, 99, 100, 101, 102, 103, 104, 105, 106, 107, 108, 109, 193, 194, 195, 196, 197, 198, 199, 200, 201, 81, 82, 83, 84, 15, 85, 86, 87, 88, 110, 111, 112, 113, 114, 115, 116, 117, 202, 203, 204, 205, 206, 207, 208, 209, 210, 211, 212, 213, 214, 215, 216, 217, 218, 219, 220, 221, 222, 223, 224, 44, 45, 537, 538, 539, 540, 541, 542, 528, 529, 530, 531, 532, 533, 534, 535, 536, 543, 544] (by decide +kernel) (by decide +kernel)) (goodIn_sub (fun _ h => List.mem_append_left _ (List.mem_append_left _ (List.mem_append_right _ h))) (by decide +kernel))) (goodIn_sub (fun _ h => List.mem_append_left _ (List.mem_append_left _ (List.mem_append_left _ (List.mem_append_right _ h)))) (by decide +kernel))
set_option maxRecDepth 20000 in
theorem gL_law_X6_end : GoodIn wsL_law (wsV RL 38 RX6 yX6_end wsX6_end) := goodIn_app (goodIn_of _ (by decide +kernel)) ggL_law_X6_end
set_option maxRecDepth 20000 in
theorem ggL_law_L_end : GoodIn wsL_law wsL_end := goodIn_r _ [415, 407, 408, 49, 409, 401, 402, 403, 410, 411, 412] (by decide +kernel) (by decide +kernel)
set_option maxRecDepth 20000 in
theorem gL_law_L_end : GoodIn wsL_law (va_wsS RL 139 yL_end wsL_end) := goodIn_app (goodIn_of _ (by decide +kernel)) ggL_law_L_end
set_option maxRecDepth 20000 in
theorem ggL_law_X6_adopt : GoodIn wsL_law wsX6_adopt := goodIn_ca (goodIn_ca (goodIn_ca (goodIn_r _ [228, 175, 176, 177, 2, 178, 179, 180, 181, 182, 183, 184, 11, 185, 186, 187, 21, 188, 43, 46, 229, 230, 231, 232, 233, 71, 72, 73, 74, 75, 76, 18, 537, 538, 539, 540, 541, 542, 528, 529, 530, 531, 532, 533] (by decide +kernel) (by decide +kernel)) (goodIn_sub (fun _ h => List.mem_append_left _ (List.mem_append_left _ (List.mem_append_right _ h))) (by decide +kernel))) (goodIn_sub (fun _ h => List.mem_append_left _ (List.mem_append_right _ h)) (by decide +kernel))) (goodIn_sub (fun _ h => List.mem_append_left _ (List.mem_append_left _ (List.mem_append_left _ (List.mem_append_right _ h)))) (by decide +kernel))
set_option maxRecDepth 20000 in
theorem gL_law_X6_adopt : GoodIn wsL_law (wsV RL 42 RX6 yX6_adopt wsX6_adopt) := goodIn_app (goodIn_of _ (by decide +kernel)) ggL_law_X6_adopt
set_option maxRecDepth 20000 in
theorem ggL_law_X6_question : GoodIn wsL_law wsX6_question := goodIn_ca (goodIn_ca (goodIn_r _ [419, 75, 76, 16, 420, 421, 298, 422, 423, 2, 424, 232, 233, 89, 90, 91, 14, 92, 93, 425, 426, 427, 428, 8, 9, 300, 301, 302, 118, 119, 120, 121, 122, 123, 26, 124, 125, 126, 127, 128, 129, 130, 131, 132, 133, 134, 135, 25, 136, 137, 138, 139, 140, 141, 142, 143, 144, 145, 146, 147, 148, 149, 150, 151, 152, 153, 154, 155, 156, 157, 158, 159, 160, 161, 162, 163, 164, 165, 166, 167, 168, 169, 528, 529, 530, 531, 532, 533, 545, 546, 547, 534, 535, 536] (by decide +kernel) (by decide +kernel)) (goodIn_sub (fun _ h => List.mem_append_left _ (List.mem_append_left _ (List.mem_append_left _ (List.mem_append_right _ h)))) (by decide +kernel))) (goodIn_sub (fun _ h => List.mem_append_left _ (List.mem_append_right _ h)) (by decide +kernel))
set_option maxRecDepth 20000 in
theorem gL_law_X6_question : GoodIn wsL_law (wsV RL 159 RX6 yX6_question wsX6_question) := goodIn_app (goodIn_of _ (by decide +kernel)) ggL_law_X6_question
set_option maxRecDepth 20000 in
theorem ggL_law_X6_system : GoodIn wsL_law wsX6_system := goodIn_ca (goodIn_ca (goodIn_r _ [432, 75, 76, 17, 433, 434, 340, 422, 423, 2, 424, 232, 233, 89, 90, 91, 14, 92, 93, 435, 436, 437, 438, 327, 328, 137, 138, 139, 94, 95, 96, 97, 98, 99, 100, 101, 102, 103, 104, 105, 106, 107, 108, 109, 26, 439, 440, 441, 442, 343, 342, 443, 444, 445, 446, 8, 9, 447, 118, 119, 120, 121, 122, 123, 124, 125, 126, 127, 128, 129, 130, 131, 132, 133, 134, 135, 25, 136, 140, 141, 142, 143, 144, 145, 146, 147, 148, 149, 150, 151, 152, 153, 154, 155, 156, 157, 158, 159, 160, 161, 162, 163, 164, 165, 166, 167, 168, 169, 528, 529, 530, 531, 532, 533, 551, 552, 553, 534, 535, 536] (by decide +kernel) (by decide +kernel)) (goodIn_sub (fun _ h => List.mem_append_left _ (List.mem_append_left _ (List.mem_append_left _ (List.mem_append_right _ h)))) (by decide +kernel))) (goodIn_sub (fun _ h => List.mem_append_left _ (List.mem_append_right _ h)) (by decide +kernel))
set_option maxRecDepth 20000 in
theorem gL_law_X6_system : GoodIn wsL_law (wsV RL 162 RX6 yX6_system wsX6_system) := goodIn_app (goodIn_of _ (by decide +kernel)) ggL_law_X6_system
set_option maxRecDepth 20000 in
theorem ggL_law_X6_stage : GoodIn wsL_law wsX6_stage := goodIn_ca (goodIn_r _ [451, 277, 278, 17, 327, 89, 90, 91, 14, 92, 93, 94, 95, 96, 97, 98, 99, 100, 101, 102, 103, 104, 105, 106, 107, 108, 109, 26, 528, 529, 530, 531, 532, 533, 551, 552, 553, 534, 535, 536] (by decide +kernel) (by decide +kernel)) (goodIn_sub (fun _ h => List.mem_append_right _ h) (by decide +kernel))
set_option maxRecDepth 20000 in
theorem gL_law_X6_stage : GoodIn wsL_law (wsV RL 165 RX6 yX6_stage wsX6_stage) := goodIn_app (goodIn_of _ (by decide +kernel)) ggL_law_X6_stage
set_option maxRecDepth 20000 in
theorem ggL_law_X6_stages : GoodIn wsL_law wsX6_stages := goodIn_r _ [326, 17, 327, 328, 137, 138, 139, 89, 90, 91, 14, 92, 93, 94, 95, 96, 97, 98, 99, 100, 101, 102, 103, 104, 105, 106, 107, 108, 109, 26, 528, 529, 530, 531, 532, 533, 551, 552, 553, 534, 535, 536] (by decide +kernel) (by decide +kernel)
set_option maxRecDepth 20000 in
theorem gL_law_X6_stages : GoodIn wsL_law (wsV RL 168 RX6 yX6_stages wsX6_stages) := goodIn_app (goodIn_of _ (by decide +kernel)) ggL_law_X6_stages
set_option maxRecDepth 20000 in
theorem ggL_law_X6_run : GoodIn wsL_law wsX6_run := goodIn_ca (goodIn_r _ [322, 19, 71, 72, 73, 2, 74, 75, 76, 18, 323, 324, 325, 326, 17, 327, 328, 137, 138, 139, 89, 90, 91, 14, 92, 93, 94, 95, 96, 97, 98, 99, 100, 101, 102, 103, 104, 105, 106, 107, 108, 109, 26, 329, 330, 331, 332, 333, 334, 335, 336, 15, 85, 174, 337, 338, 339, 340, 341, 342, 343, 344, 345, 346, 347, 348, 250, 251, 21, 252, 41, 42, 528, 529, 530, 531, 532, 533, 551, 552, 553, 534, 535, 536, 543, 544, 537, 538, 539, 540, 541, 542] (by decide +kernel) (by decide +kernel)) (goodIn_sub (fun _ h => List.mem_append_left _ (List.mem_append_left _ (List.mem_append_left _ (List.mem_append_right _ h)))) (by decide +kernel))
set_option maxRecDepth 20000 in
theorem gL_law_X6_run : GoodIn wsL_law (wsV RL 68 RX6 yX6_run wsX6_run) := goodIn_app (goodIn_of _ (by decide +kernel)) ggL_law_X6_run
set_option maxRecDepth 20000 in
theorem ggL_law_L_run : GoodIn wsL_law wsL_run := goodIn_r _ [455] (by decide +kernel) (by decide +kernel)
set_option maxRecDepth 20000 in
theorem gL_law_L_run : GoodIn wsL_law (va_wsS RL 171 yL_run wsL_run) := goodIn_app (goodIn_of _ (by decide +kernel)) ggL_law_L_run
set_option maxRecDepth 20000 in
theorem ggL_law_L_many : GoodIn wsL_law wsL_many := goodIn_r _ [403] (by decide +kernel) (by decide +kernel)
set_option maxRecDepth 20000 in
theorem gL_law_L_many : GoodIn wsL_law (va_wsS RL 10 yL_many wsL_many) := goodIn_app (goodIn_of _ (by decide +kernel)) ggL_law_L_many
set_option maxRecDepth 20000 in
theorem ggL_law_L_answers : GoodIn wsL_law wsL_answers := goodIn_r _ [458] (by decide +kernel) (by decide +kernel)
set_option maxRecDepth 20000 in
theorem gL_law_L_answers : GoodIn wsL_law (va_wsS RL 105 yL_answers wsL_answers) := goodIn_app (goodIn_of _ (by decide +kernel)) ggL_law_L_answers
set_option maxRecDepth 20000 in
theorem ggL_law_L_at : GoodIn wsL_law wsL_at := goodIn_r _ [412] (by decide +kernel) (by decide +kernel)
set_option maxRecDepth 20000 in
theorem gL_law_L_at : GoodIn wsL_law (va_wsS RL 16 yL_at wsL_at) := goodIn_app (goodIn_of _ (by decide +kernel)) ggL_law_L_at
set_option maxRecDepth 20000 in
theorem ggL_law_X6_walk : GoodIn wsL_law wsX6_walk := goodIn_ca (goodIn_ca (goodIn_r _ [306, 307, 308, 309, 18, 286, 287, 288, 2, 289, 277, 278, 16, 290, 89, 90, 91, 14, 92, 93, 94, 95, 96, 97, 98, 99, 100, 101, 102, 103, 104, 105, 106, 107, 108, 109, 26, 71, 72, 73, 74, 75, 76, 291, 292, 293, 294, 12, 13, 15, 85, 174, 22, 23, 24, 25, 27, 28, 29, 30, 31, 32, 33, 34, 35, 36, 8, 9, 295, 296, 297, 298, 299, 300, 301, 302, 118, 119, 120, 121, 122, 123, 124, 125, 126, 127, 128, 129, 130, 131, 132, 133, 134, 135, 136, 137, 138, 139, 140, 141, 142, 143, 144, 145, 146, 147, 148, 149, 150, 151, 152, 153, 154, 155, 156, 157, 158, 159, 160, 161, 162, 163, 164, 165, 166, 167, 168, 169, 310, 311, 312, 313, 314, 315, 316, 317, 318, 548, 549, 550, 528, 529, 530, 531, 532, 533, 534, 535, 536, 543, 544, 545, 546, 547] (by decide +kernel) (by decide +kernel)) (goodIn_sub (fun _ h => List.mem_append_right _ h) (by decide +kernel))) (goodIn_sub (fun _ h => List.mem_append_left _ (List.mem_append_left _ (List.mem_append_left _ (List.mem_append_right _ h)))) (by decide +kernel))
set_option maxRecDepth 20000 in
theorem gL_law_X6_walk : GoodIn wsL_law (wsV RL 65 RX6 yX6_walk wsX6_walk) := goodIn_app (goodIn_of _ (by decide +kernel)) ggL_law_X6_walk
set_option maxRecDepth 20000 in
theorem ggL_law_X6_next : GoodIn wsL_law wsX6_next := goodIn_ca (goodIn_r _ [373, 174, 354, 355, 356, 2, 357, 75, 76, 18, 89, 90, 91, 14, 92, 93, 94, 95, 96, 97, 98, 99, 100, 101, 102, 103, 104, 105, 106, 107, 108, 109, 26, 548, 549, 550, 537, 538, 539, 540, 541, 542, 528, 529, 530, 531, 532, 533, 534, 535, 536] (by decide +kernel) (by decide +kernel)) (goodIn_sub (fun _ h => List.mem_append_left _ (List.mem_append_left _ (List.mem_append_left _ (List.mem_append_right _ h)))) (by decide +kernel))
set_option maxRecDepth 20000 in
theorem gL_law_X6_next : GoodIn wsL_law (wsV RL 74 RX6 yX6_next wsX6_next) := goodIn_app (goodIn_of _ (by decide +kernel)) ggL_law_X6_next
set_option maxRecDepth 20000 in
theorem ggL_law_X6_defer : GoodIn wsL_law wsX6_defer := goodIn_ca (goodIn_ca (goodIn_r _ [377, 232, 233, 75, 76, 378, 379, 380, 354, 355, 356, 2, 357, 18, 89, 90, 91, 14, 92, 93, 381, 382, 383, 384, 8, 9, 385, 386, 387, 388, 118, 119, 120, 121, 122, 123, 26, 124, 125, 126, 127, 128, 129, 130, 131, 132, 133, 134, 135, 25, 136, 137, 138, 139, 140, 141, 142, 143, 144, 145, 146, 147, 148, 149, 150, 151, 152, 153, 154, 155, 156, 157, 158, 159, 160, 161, 162, 163, 164, 165, 166, 167, 168, 169, 548, 549, 550, 554, 555, 556, 557, 528, 529, 530, 531, 532, 533, 534, 535, 536] (by decide +kernel) (by decide +kernel)) (goodIn_sub (fun _ h => List.mem_append_left _ (List.mem_append_right _ h)) (by decide +kernel))) (goodIn_sub (fun _ h => List.mem_append_left _ (List.mem_append_left _ (List.mem_append_left _ (List.mem_append_right _ h)))) (by decide +kernel))
set_option maxRecDepth 20000 in
theorem gL_law_X6_defer : GoodIn wsL_law (wsV RL 77 RX6 yX6_defer wsX6_defer) := goodIn_app (goodIn_of _ (by decide +kernel)) ggL_law_X6_defer
set_option maxRecDepth 20000 in
theorem ggL_law_L_slot : GoodIn wsL_law wsL_slot := goodIn_r _ [461] (by decide +kernel) (by decide +kernel)
set_option maxRecDepth 20000 in
theorem gL_law_L_slot : GoodIn wsL_law (va_wsS RL 174 yL_slot wsL_slot) := goodIn_app (goodIn_of _ (by decide +kernel)) ggL_law_L_slot
set_option maxRecDepth 20000 in
theorem ggL_law_L_does : GoodIn wsL_law wsL_does := goodIn_r _ [464, 413, 414, 49, 415, 407, 408, 409, 401, 402, 403, 410, 411, 412, 392, 393, 394, 395, 396, 397, 398, 399, 400, 404, 405, 406] (by decide +kernel) (by decide +kernel)
set_option maxRecDepth 20000 in
theorem gL_law_L_does : GoodIn wsL_law (va_wsS RL 177 yL_does wsL_does) := goodIn_app (goodIn_of _ (by decide +kernel)) ggL_law_L_does
set_option maxRecDepth 20000 in
theorem ggL_law_X6_finish : GoodIn wsL_law wsX6_finish := goodIn_ca (goodIn_ca (goodIn_ca (goodIn_r _ [352, 18, 353, 354, 355, 356, 2, 357, 75, 76, 89, 90, 91, 14, 92, 93, 94, 95, 96, 97, 98, 99, 100, 101, 102, 103, 104, 105, 106, 107, 108, 109, 26, 358, 359, 360, 361, 179, 232, 362, 235, 236, 237, 19, 175, 176, 177, 178, 180, 181, 182, 183, 184, 11, 185, 186, 187, 21, 188, 43, 46, 238, 239, 240, 233, 241, 242, 243, 244, 45, 71, 72, 73, 74, 245, 246, 247, 248, 81, 82, 83, 84, 15, 85, 86, 87, 88, 110, 111, 112, 113, 8, 9, 114, 13, 115, 116, 117, 23, 24, 25, 27, 28, 29, 30, 31, 32, 33, 34, 35, 36, 118, 119, 120, 121, 122, 123, 124, 125, 126, 127, 128, 129, 130, 131, 132, 133, 134, 135, 136, 137, 138, 139, 140, 141, 142, 143, 144, 145, 146, 147, 148, 149, 150, 151, 152, 153, 154, 155, 156, 157, 158, 159, 160, 161, 162, 163, 164, 165, 166, 167, 168, 169, 202, 203, 204, 205, 206, 207, 208, 209, 210, 211, 212, 213, 214, 215, 216, 217, 218, 219, 220, 197, 249, 250, 251, 252, 41, 42, 363, 254, 255, 256, 257, 258, 259, 260, 364, 171, 172, 173, 174, 189, 190, 191, 192, 12, 22, 193, 194, 195, 196, 198, 199, 200, 201, 221, 222, 223, 224, 44, 365, 366, 367, 368, 369, 68, 69, 70, 77, 78, 79, 80, 548, 549, 550, 528, 529, 530, 531, 532, 533, 534, 535, 536, 554, 555, 556, 557, 537, 538, 539, 540, 541, 542, 543, 544] (by decide +kernel) (by decide +kernel)) (goodIn_sub (fun _ h => List.mem_append_left _ (List.mem_append_left _ (List.mem_append_left _ (List.mem_append_right _ h)))) (by decide +kernel))) (goodIn_sub (fun _ h => List.mem_append_left _ (List.mem_append_left _ (List.mem_append_right _ h))) (by decide +kernel))) (goodIn_sub (fun _ h => List.mem_append_left _ (List.mem_append_right _ h)) (by decide +kernel))
set_option maxRecDepth 20000 in
theorem gL_law_X6_finish : GoodIn wsL_law (wsV RL 71 RX6 yX6_finish wsX6_finish) := goodIn_app (goodIn_of _ (by decide +kernel)) ggL_law_X6_finish
