set_option maxRecDepth 20000 in
theorem ggL_law_X5_init : GoodIn wsL_law wsX5_init := goodIn_r _ [10, 11, 12, 13, 14, 15, 16, 17, 18, 19, 20, 21, 22, 23, 24, 25, 26, 27, 28, 29, 30, 31, 32, 33, 34, 35, 36, 37, 38, 39, 40, 41, 42, 43, 44, 45, 46, 47, 48, 49, 50, 51, 52, 53, 54, 55, 56, 57, 58, 59, 60, 61, 62, 63, 64, 65, 66, 67, 68, 69, 70, 71, 72, 73, 74, 75, 76, 77, 78, 79, 80, 81, 82, 83, 84, 85, 86, 87, 88, 89, 90, 2, 91, 92, 93, 94, 95, 96, 97, 98, 99, 100, 101, 102, 103, 104, 105, 106, 107, 108, 109, 110, 111, 112, 113, 114, 115, 116, 117, 118, 119, 120, 121, 122, 123, 124, 125, 126, 127, 128, 129, 130, 131, 596, 597, 598, 585, 586, 587, 588, 589, 590, 591, 592, 593, 594, 595, 599, 600, 601, 602, 603, 604, 605, 606, 607, 608, 609, 610, 611, 612, 613, 614, 615, 616, 617, 618, 619, 620, 621, 622, 623, 624, 625] (by decide +kernel) (by decide +kernel)
set_option maxRecDepth 20000 in
theorem gL_law_X5_init : GoodIn wsL_law (wsX5_init) := ggL_law_X5_init
set_option maxRecDepth 20000 in
theorem ggL_law_L_roll : GoodIn wsL_law wsL_roll := goodIn_ca (goodIn_ca (goodIn_ca (goodIn_r _ [135, 136, 137, 138, 139, 140, 4, 141, 142, 143, 2, 144, 145, 146, 147, 29, 28, 148, 149, 150, 151, 152, 153, 154, 155, 156, 157, 158, 159, 160, 161, 162, 12, 13, 32, 163, 164, 165, 166, 167, 74, 75, 76, 585, 586, 587, 588, 589, 590, 591, 592, 593, 594, 595, 626, 627, 628, 629, 630] (by decide +kernel) (by decide +kernel)) (goodIn_sub (fun _ h => List.mem_append_left _ (List.mem_append_left _ (List.mem_append_right _ h))) (by decide +kernel))) (goodIn_sub (fun _ h => List.mem_append_left _ (List.mem_append_right _ h)) (by decide +kernel))) (goodIn_sub (fun _ h => List.mem_append_right _ h) (by decide +kernel))
set_option maxRecDepth 20000 in
theorem gL_law_L_roll : GoodIn wsL_law (va_wsS RL 187 yL_roll wsL_roll) := goodIn_app (goodIn_of _ (by decide +kernel)) ggL_law_L_roll
set_option maxRecDepth 20000 in
theorem ggL_law_L_draw : GoodIn wsL_law wsL_draw := goodIn_r _ [170, 171, 172] (by decide +kernel) (by decide +kernel)
set_option maxRecDepth 20000 in
theorem gL_law_L_draw : GoodIn wsL_law (va_wsS RL 199 yL_draw wsL_draw) := goodIn_app (goodIn_of _ (by decide +kernel)) ggL_law_L_draw
set_option maxRecDepth 20000 in
theorem ggL_law_X5_day : GoodIn wsL_law wsX5_day := goodIn_r _ [176, 34, 585, 586, 587, 588, 589, 590, 591, 592, 593, 594, 595] (by decide +kernel) (by decide +kernel)
set_option maxRecDepth 20000 in
theorem gL_law_X5_day : GoodIn wsL_law (wsV RL 153 RX5 yX5_day wsX5_day) := goodIn_app (goodIn_of _ (by decide +kernel)) ggL_law_X5_day
set_option maxRecDepth 20000 in
theorem ggL_law_L_birth : GoodIn wsL_law wsL_birth := goodIn_ca (goodIn_ca (goodIn_ca (goodIn_r _ [179, 136, 137, 138, 139, 140, 4, 180, 181, 182, 2, 183, 145, 146, 184, 27, 185, 186, 85, 34, 187, 188, 189, 190, 191, 192, 193, 194, 153, 154, 195, 196, 197, 198, 199, 200, 201, 155, 156, 157, 158, 159, 202, 203, 204, 205, 17, 206, 207, 208, 209, 210, 26, 211, 212, 56, 213, 57, 214, 215, 216, 217, 58, 218, 219, 220, 90, 91, 221, 222, 223, 12, 13, 224, 225, 226, 227, 88, 228, 229, 230, 231, 232, 233, 234, 21, 235, 16, 236, 237, 238, 39, 239, 240, 241, 242, 243, 99, 20, 100, 101, 43, 45, 46, 92, 93, 102, 103, 104, 105, 44, 48, 49, 50, 106, 107, 108, 109, 110, 111, 112, 113, 47, 114, 115, 116, 117, 118, 119, 120, 121, 122, 123, 124, 125, 126, 127, 128, 129, 51, 130, 131, 63, 64, 65, 66, 67, 68, 69, 70, 71, 72, 73, 74, 75, 76, 77, 78, 79, 80, 81, 82, 83, 84, 86, 87, 89, 95, 96, 97, 98, 585, 586, 587, 588, 589, 590, 591, 592, 593, 594, 595, 616, 617, 618, 619, 620, 621, 622, 623, 624, 625, 596, 597, 598, 612, 613, 614, 615, 599, 600, 601, 602, 603, 604, 605, 606, 607, 608, 609, 610, 611] (by decide +kernel) (by decide +kernel)) (goodIn_sub (fun _ h => List.mem_append_left _ (List.mem_append_left _ (List.mem_append_right _ h))) (by decide +kernel))) (goodIn_sub (fun _ h => List.mem_append_left _ (List.mem_append_right _ h)) (by decide +kernel))) (goodIn_sub (fun _ h => List.mem_append_right _ h) (by decide +kernel))
set_option maxRecDepth 20000 in
theorem gL_law_L_birth : GoodIn wsL_law (va_wsS RL 159 yL_birth wsL_birth) := goodIn_app (goodIn_of _ (by decide +kernel)) ggL_law_L_birth
set_option maxRecDepth 20000 in
theorem ggL_law_L_number : GoodIn wsL_law wsL_number := goodIn_ca (goodIn_r _ [246, 136, 139, 247, 248, 249, 2, 250, 27, 191, 192, 193, 194, 153, 154, 184, 251, 26, 252, 253, 213, 57, 56, 92, 93, 585, 586, 587, 588, 589, 590, 591, 592, 593, 594, 595, 612, 613, 614, 615] (by decide +kernel) (by decide +kernel)) (goodIn_sub (fun _ h => List.mem_append_left _ (List.mem_append_right _ h)) (by decide +kernel))
set_option maxRecDepth 20000 in
theorem gL_law_L_number : GoodIn wsL_law (va_wsS RL 183 yL_number wsL_number) := goodIn_app (goodIn_of _ (by decide +kernel)) ggL_law_L_number
set_option maxRecDepth 20000 in
theorem ggL_law_L_bearer : GoodIn wsL_law wsL_bearer := goodIn_ca (goodIn_r _ [256, 137, 140, 257, 258, 259, 2, 260, 158, 159, 261, 27, 155, 156, 157, 262, 26, 263, 218, 219, 220, 264, 265, 266, 213, 56, 57, 92, 93, 585, 586, 587, 588, 589, 590, 591, 592, 593, 594, 595, 612, 613, 614, 615] (by decide +kernel) (by decide +kernel)) (goodIn_sub (fun _ h => List.mem_append_right _ h) (by decide +kernel))
set_option maxRecDepth 20000 in
theorem gL_law_L_bearer : GoodIn wsL_law (va_wsS RL 185 yL_bearer wsL_bearer) := goodIn_app (goodIn_of _ (by decide +kernel)) ggL_law_L_bearer
