set_option maxRecDepth 20000 in
theorem ggL_refuses_L_bearer : GoodIn wsL_refuses wsL_bearer := goodIn_ca (goodIn_r _ [393, 13, 1, 394, 395, 396, 6, 397, 26, 27, 398, 97, 23, 24, 25, 399, 127, 400, 138, 139, 140, 401, 402, 403, 131, 130, 132, 48, 49, 537, 538, 539, 540, 541, 542, 543, 544, 545, 546, 547, 574, 575, 576, 577] (by decide +kernel) (by decide +kernel)) (goodIn_sub (fun _ h => List.mem_cons_of_mem _ (List.mem_append_left _ (List.mem_append_right _ h))) (by decide +kernel))
set_option maxRecDepth 20000 in
theorem gL_refuses_L_bearer : GoodIn wsL_refuses (va_wsS RL 185 yL_bearer wsL_bearer) := goodIn_app (goodIn_of _ (by decide +kernel)) ggL_refuses_L_bearer
set_option maxRecDepth 20000 in
theorem ggL_refuses_L_roll : GoodIn wsL_refuses wsL_roll := goodIn_ca (goodIn_ca (goodIn_ca (goodIn_r _ [406, 91, 13, 14, 2, 1, 15, 407, 408, 409, 6, 410, 20, 21, 411, 412, 413, 414, 415, 318, 319, 320, 108, 109, 23, 24, 25, 26, 27, 416, 417, 418, 144, 145, 419, 420, 421, 422, 423, 424, 176, 177, 178, 537, 538, 539, 540, 541, 542, 543, 544, 545, 546, 547, 578, 579, 580, 581, 582] (by decide +kernel) (by decide +kernel)) (goodIn_sub (fun _ h => List.mem_cons_of_mem _ (List.mem_append_left _ (List.mem_append_left _ (List.mem_append_right _ h)))) (by decide +kernel))) (goodIn_sub (fun _ h => List.mem_cons_of_mem _ (List.mem_append_right _ h)) (by decide +kernel))) (goodIn_sub (fun _ h => List.mem_cons_of_mem _ (List.mem_append_left _ (List.mem_append_right _ h))) (by decide +kernel))
set_option maxRecDepth 20000 in
theorem gL_refuses_L_roll : GoodIn wsL_refuses (va_wsS RL 187 yL_roll wsL_roll) := goodIn_app (goodIn_of _ (by decide +kernel)) ggL_refuses_L_roll
set_option maxRecDepth 20000 in
theorem ggL_refuses_L_deliver : GoodIn wsL_refuses wsL_deliver := goodIn_ca (goodIn_r _ [427, 91, 2, 428, 429, 430, 6, 431, 96, 432, 433, 434, 435, 108, 109, 412, 436, 437, 438, 439, 22, 440, 48, 49, 441, 442, 443, 444, 59, 29, 60, 61, 54, 259, 260, 261, 32, 57, 58, 262, 263, 264, 265, 445, 446, 447, 46, 448, 324, 325, 326, 449, 415, 450, 451, 452, 453, 454, 421, 420, 455, 456, 457, 458, 459, 284, 285, 286, 460, 461, 177, 462, 463, 464, 465, 466, 467, 468, 419, 469, 470, 471, 472, 473, 62, 63, 474, 475, 476, 477, 478, 479, 537, 538, 539, 540, 541, 542, 543, 544, 545, 546, 547, 578, 579, 580, 581, 582, 548, 549, 550, 551, 552, 553, 554, 555, 556, 557, 558, 559, 560] (by decide +kernel) (by decide +kernel)) (goodIn_sub (fun _ h => List.mem_cons_of_mem _ (List.mem_append_right _ h)) (by decide +kernel))
set_option maxRecDepth 20000 in
theorem gL_refuses_L_deliver : GoodIn wsL_refuses (va_wsS RL 138 yL_deliver wsL_deliver) := goodIn_app (goodIn_of _ (by decide +kernel)) ggL_refuses_L_deliver
set_option maxRecDepth 20000 in
theorem ggL_refuses_L_owes : GoodIn wsL_refuses wsL_owes := goodIn_ca (goodIn_r _ [482, 91, 2, 483, 484, 485, 6, 486, 96, 432, 433, 434, 435, 108, 109, 412, 436, 437, 438, 439, 22, 440, 48, 49, 441, 442, 443, 444, 59, 29, 60, 61, 54, 259, 260, 261, 32, 57, 58, 262, 263, 264, 265, 445, 446, 447, 46, 448, 324, 325, 326, 449, 415, 450, 537, 538, 539, 540, 541, 542, 543, 544, 545, 546, 547, 578, 579, 580, 581, 582, 548, 549, 550, 551, 552, 553, 554, 555, 556, 557, 558, 559, 560] (by decide +kernel) (by decide +kernel)) (goodIn_sub (fun _ h => List.mem_cons_of_mem _ (List.mem_append_right _ h)) (by decide +kernel))
set_option maxRecDepth 20000 in
theorem gL_refuses_L_owes : GoodIn wsL_refuses (va_wsS RL 135 yL_owes wsL_owes) := goodIn_app (goodIn_of _ (by decide +kernel)) ggL_refuses_L_owes
set_option maxRecDepth 20000 in
theorem ggL_refuses_L_message : GoodIn wsL_refuses wsL_message := goodIn_ca (goodIn_r _ [489, 91, 2, 490, 491, 492, 6, 493, 108, 109, 432, 433, 434, 435, 412, 440, 48, 49, 578, 579, 580, 581, 582, 537, 538, 539, 540, 541, 542, 543, 544, 545, 546, 547] (by decide +kernel) (by decide +kernel)) (goodIn_sub (fun _ h => List.mem_cons_of_mem _ (List.mem_append_right _ h)) (by decide +kernel))
set_option maxRecDepth 20000 in
theorem gL_refuses_L_message : GoodIn wsL_refuses (va_wsS RL 189 yL_message wsL_message) := goodIn_app (goodIn_of _ (by decide +kernel)) ggL_refuses_L_message
set_option maxRecDepth 20000 in
theorem ggL_refuses_L_holds : GoodIn wsL_refuses wsL_holds := goodIn_ca (goodIn_r _ [496, 91, 2, 497, 498, 499, 6, 500, 432, 433, 434, 435, 108, 109, 412, 104, 105, 106, 107, 96, 440, 48, 49, 578, 579, 580, 581, 582, 537, 538, 539, 540, 541, 542, 543, 544, 545, 546, 547] (by decide +kernel) (by decide +kernel)) (goodIn_sub (fun _ h => List.mem_cons_of_mem _ (List.mem_append_right _ h)) (by decide +kernel))
set_option maxRecDepth 20000 in
theorem gL_refuses_L_holds : GoodIn wsL_refuses (va_wsS RL 149 yL_holds wsL_holds) := goodIn_app (goodIn_of _ (by decide +kernel)) ggL_refuses_L_holds
set_option maxRecDepth 20000 in
theorem ggL_refuses_L_holdsAnew : GoodIn wsL_refuses wsL_holdsAnew := goodIn_ca (goodIn_r _ [503, 91, 2, 504, 505, 506, 6, 507, 432, 433, 434, 435, 108, 109, 412, 104, 105, 106, 107, 96, 508, 415, 509, 510, 454, 421, 48, 49, 474, 475, 476, 477, 478, 479, 537, 538, 539, 540, 541, 542, 543, 544, 545, 546, 547, 578, 579, 580, 581, 582] (by decide +kernel) (by decide +kernel)) (goodIn_sub (fun _ h => List.mem_cons_of_mem _ (List.mem_append_right _ h)) (by decide +kernel))
set_option maxRecDepth 20000 in
theorem gL_refuses_L_holdsAnew : GoodIn wsL_refuses (va_wsS RL 151 yL_holdsAnew wsL_holdsAnew) := goodIn_app (goodIn_of _ (by decide +kernel)) ggL_refuses_L_holdsAnew
set_option maxRecDepth 20000 in
theorem ggL_refuses_L_bar : GoodIn wsL_refuses wsL_bar := goodIn_ca (goodIn_r _ [513, 91, 2, 514, 515, 516, 6, 517, 518, 104, 105, 106, 107, 108, 109, 96, 519, 348, 349, 520, 86, 87, 537, 538, 539, 540, 541, 542, 543, 544, 545, 546, 547] (by decide +kernel) (by decide +kernel)) (goodIn_sub (fun _ h => List.mem_cons_of_mem _ (List.mem_append_right _ h)) (by decide +kernel))
set_option maxRecDepth 20000 in
theorem gL_refuses_L_bar : GoodIn wsL_refuses (va_wsS RL 191 yL_bar wsL_bar) := goodIn_app (goodIn_of _ (by decide +kernel)) ggL_refuses_L_bar
set_option maxRecDepth 20000 in
theorem ggL_refuses_L_look : GoodIn wsL_refuses wsL_look := goodIn_ca (goodIn_ca (goodIn_r _ [523, 91, 13, 2, 1, 524, 525, 526, 6, 527, 528, 518, 22, 104, 105, 106, 107, 108, 109, 96, 23, 24, 25, 26, 27, 440, 48, 49, 529, 62, 63, 519, 348, 349, 445, 29, 446, 447, 46, 537, 538, 539, 540, 541, 542, 543, 544, 545, 546, 547, 548, 549, 550, 551, 552, 553, 554, 555, 556, 557, 558, 559, 560] (by decide +kernel) (by decide +kernel)) (goodIn_sub (fun _ h => List.mem_cons_of_mem _ (List.mem_append_right _ h)) (by decide +kernel))) (goodIn_sub (fun _ h => List.mem_cons_of_mem _ (List.mem_append_left _ (List.mem_append_right _ h))) (by decide +kernel))
set_option maxRecDepth 20000 in
theorem gL_refuses_L_look : GoodIn wsL_refuses (va_wsS RL 194 yL_look wsL_look) := goodIn_app (goodIn_of _ (by decide +kernel)) ggL_refuses_L_look
set_option maxRecDepth 20000 in
theorem ggL_refuses_L_looks : GoodIn wsL_refuses wsL_looks := goodIn_ca (goodIn_r _ [532, 91, 2, 533, 534, 535, 6, 536, 528, 104, 105, 106, 107, 108, 109, 96, 440, 48, 49, 537, 538, 539, 540, 541, 542, 543, 544, 545, 546, 547] (by decide +kernel) (by decide +kernel)) (goodIn_sub (fun _ h => List.mem_cons_of_mem _ (List.mem_append_right _ h)) (by decide +kernel))
set_option maxRecDepth 20000 in
theorem gL_refuses_L_looks : GoodIn wsL_refuses (va_wsS RL 196 yL_looks wsL_looks) := goodIn_app (goodIn_of _ (by decide +kernel)) ggL_refuses_L_looks
