theorem goodIn_c9 {big a : List Cond} {c : Cond} (h : GoodIn big [c]) (ha : GoodIn big a) : GoodIn big (c :: a) := goodIn_app h ha
set_option maxRecDepth 20000 in
theorem gk_refuses_1 : GoodIn wsL_law wsL_refuses_r1 := goodIn_r _ [140, 139, 173, 174, 175, 2, 176, 34, 397, 398, 134, 399, 137, 138, 4, 400, 401, 402, 403, 145, 146, 21, 155, 156] (by decide +kernel) (by decide +kernel)
set_option maxRecDepth 20000 in
theorem gk_refuses_2 : GoodIn wsL_law wsL_refuses_r2 := goodIn_r _ [157, 158, 159, 95, 20, 96, 97, 67, 68, 66, 84, 85, 86, 87, 88, 89, 98, 99, 100, 101, 43, 45, 46, 92] (by decide +kernel) (by decide +kernel)
set_option maxRecDepth 20000 in
theorem gk_refuses_3 : GoodIn wsL_law wsL_refuses_r3 := goodIn_r _ [93, 102, 103, 104, 105, 44, 48, 49, 50, 106, 107, 108, 109, 90, 91, 110, 111, 112, 113, 47, 114, 115, 116, 117] (by decide +kernel) (by decide +kernel)
set_option maxRecDepth 20000 in
theorem gk_refuses_4 : GoodIn wsL_law wsL_refuses_r4 := goodIn_r _ [118, 119, 120, 121, 122, 123, 124, 125, 126, 127, 128, 129, 51, 130, 131, 177, 178, 179, 136, 180, 181, 182, 183, 184] (by decide +kernel) (by decide +kernel)
set_option maxRecDepth 20000 in
theorem gk_refuses_5 : GoodIn wsL_law wsL_refuses_r5 := goodIn_r _ [27, 185, 186, 187, 188, 189, 190, 191, 192, 193, 194, 153, 154, 195, 196, 197, 198, 199, 200, 201, 202, 203, 204, 205] (by decide +kernel) (by decide +kernel)
set_option maxRecDepth 20000 in
theorem gk_refuses_6 : GoodIn wsL_law wsL_refuses_r6 := goodIn_r _ [17, 206, 207, 208, 209, 210, 26, 211, 212, 56, 213, 57, 214, 215, 216, 217, 58, 218, 219, 220, 221, 222, 223, 12] (by decide +kernel) (by decide +kernel)
set_option maxRecDepth 20000 in
theorem gk_refuses_7 : GoodIn wsL_law wsL_refuses_r7 := goodIn_r _ [13, 224, 225, 226, 227, 228, 229, 230, 231, 232, 233, 234, 235, 16, 236, 237, 238, 39, 239, 240, 241, 242, 243, 63] (by decide +kernel) (by decide +kernel)
set_option maxRecDepth 20000 in
theorem gk_refuses_8 : GoodIn wsL_law wsL_refuses_r8 := goodIn_r _ [64, 65, 69, 70, 71, 72, 73, 74, 75, 76, 77, 78, 79, 80, 81, 82, 83, 278, 279, 280, 281, 282, 283, 284] (by decide +kernel) (by decide +kernel)
set_option maxRecDepth 20000 in
theorem gk_refuses_9 : GoodIn wsL_law wsL_refuses_r9 := goodIn_r _ [285, 286, 287, 288, 289, 290, 291, 292, 293, 294, 295, 296, 297, 298, 299, 300, 301, 302, 303, 304, 305, 306, 307, 308] (by decide +kernel) (by decide +kernel)
set_option maxRecDepth 20000 in
theorem gk_refuses_10 : GoodIn wsL_law wsL_refuses_r10 := goodIn_r _ [309, 310, 311, 312, 313, 314, 315, 390, 391, 392, 393, 394, 395, 396, 274, 275, 276, 277, 267, 268, 269, 270, 271, 272] (by decide +kernel) (by decide +kernel)
set_option maxRecDepth 20000 in
theorem gk_refuses_11 : GoodIn wsL_law wsL_refuses_r11 := goodIn_r _ [273, 439, 440, 441, 442, 443, 444, 445, 22, 59, 60, 61, 62, 94, 323, 324, 325, 326, 327, 328, 329, 330, 331, 332] (by decide +kernel) (by decide +kernel)
set_option maxRecDepth 20000 in
theorem gk_refuses_12 : GoodIn wsL_law wsL_refuses_r12 := goodIn_r _ [333, 334, 335, 336, 337, 52, 338, 339, 340, 341, 342, 343, 344, 345, 346, 347, 348, 349, 350, 351, 352, 353, 354, 355] (by decide +kernel) (by decide +kernel)
set_option maxRecDepth 20000 in
theorem gk_refuses_13 : GoodIn wsL_law wsL_refuses_r13 := goodIn_r _ [356, 357, 358, 359, 360, 316, 317, 318, 319, 320, 321, 322, 454, 455, 456, 457, 458, 459, 460, 461, 462, 463, 464, 465] (by decide +kernel) (by decide +kernel)
set_option maxRecDepth 20000 in
theorem gk_refuses_14 : GoodIn wsL_law wsL_refuses_r14 := goodIn_r _ [466, 467, 468, 469, 470, 150, 151, 152, 471, 472, 473, 474, 475, 476, 477, 478, 479, 480, 481, 482, 483, 23, 484, 485] (by decide +kernel) (by decide +kernel)
set_option maxRecDepth 20000 in
theorem gk_refuses_15 : GoodIn wsL_law wsL_refuses_r15 := goodIn_r _ [486, 378, 379, 380, 381, 382, 383, 384, 385, 386, 387, 388, 389, 361, 362, 363, 364, 365, 366, 367, 368, 369, 370, 371] (by decide +kernel) (by decide +kernel)
set_option maxRecDepth 20000 in
theorem gk_refuses_16 : GoodIn wsL_law wsL_refuses_r16 := goodIn_r _ [372, 373, 374, 375, 376, 377, 571, 572, 573, 574, 575, 576, 577, 432, 433, 434, 435, 436, 437, 438, 244, 245, 246, 247] (by decide +kernel) (by decide +kernel)
set_option maxRecDepth 20000 in
theorem gk_refuses_17 : GoodIn wsL_law wsL_refuses_r17 := goodIn_r _ [248, 249, 250, 251, 252, 253, 254, 255, 256, 257, 258, 259, 260, 261, 262, 263, 264, 265, 266, 132, 133, 135, 141, 142] (by decide +kernel) (by decide +kernel)
set_option maxRecDepth 20000 in
theorem gk_refuses_18 : GoodIn wsL_law wsL_refuses_r18 := goodIn_r _ [143, 144, 147, 29, 28, 148, 149, 160, 161, 162, 32, 163, 164, 165, 166, 167, 515, 516, 517, 518, 519, 520, 521, 500] (by decide +kernel) (by decide +kernel)
set_option maxRecDepth 20000 in
theorem gk_refuses_19 : GoodIn wsL_law wsL_refuses_r19 := goodIn_r _ [501, 502, 503, 504, 505, 506, 507, 411, 508, 509, 510, 511, 421, 422, 423, 512, 513, 514, 522, 523, 524, 525, 526, 527] (by decide +kernel) (by decide +kernel)
set_option maxRecDepth 20000 in
theorem gk_refuses_20 : GoodIn wsL_law wsL_refuses_r20 := goodIn_r _ [528, 529, 530, 531, 532, 533, 534, 535, 536, 537, 538, 539, 540, 541, 542, 543, 544, 545, 546, 547, 548, 549, 550, 493] (by decide +kernel) (by decide +kernel)
set_option maxRecDepth 20000 in
theorem gk_refuses_21 : GoodIn wsL_law wsL_refuses_r21 := goodIn_r _ [494, 495, 496, 497, 498, 499, 578, 579, 580, 581, 582, 583, 584, 551, 552, 553, 554, 555, 556, 557, 558, 559, 560, 561] (by decide +kernel) (by decide +kernel)
set_option maxRecDepth 20000 in
theorem gk_refuses_22 : GoodIn wsL_law wsL_refuses_r22 := goodIn_r _ [562, 563, 564, 565, 566, 567, 424, 425, 426, 427, 428, 429, 430, 31, 420, 431, 412, 413, 414, 415, 416, 417, 418, 33] (by decide +kernel) (by decide +kernel)
set_option maxRecDepth 20000 in
theorem gk_refuses_23 : GoodIn wsL_law wsL_refuses_r23 := goodIn_r _ [419, 404, 405, 406, 407, 408, 409, 410] (by decide +kernel) (by decide +kernel)
set_option maxRecDepth 20000 in
theorem gk_refuses_X5 : GoodIn wsL_law wsX50 := goodIn_sub inlX5 (by decide +kernel)
set_option maxRecDepth 20000 in
theorem gk_refuses_X2 : GoodIn wsL_law wsX20 := goodIn_sub inlX2 (by decide +kernel)
set_option maxRecDepth 20000 in
theorem gk_refuses_X0 : GoodIn wsL_law wsX00 := goodIn_sub inlX0 (by decide +kernel)
set_option maxRecDepth 20000 in
theorem gk_refuses_X1 : GoodIn wsL_law wsX10 := goodIn_sub inlX1 (by decide +kernel)
set_option maxRecDepth 20000 in
theorem gk_refuses_X3 : GoodIn wsL_law wsX30 := goodIn_sub inlX3 (by decide +kernel)
set_option maxRecDepth 20000 in
theorem gk_refuses_X4 : GoodIn wsL_law wsX40 := goodIn_sub inlX4 (by decide +kernel)
set_option maxRecDepth 20000 in
theorem ggL_law_L_refuses : GoodIn wsL_law wsL_refuses := goodIn_c9 (goodIn_r _ [570] (by decide +kernel) (by decide +kernel)) (goodIn_app (goodIn_app (goodIn_app (goodIn_app (goodIn_app (goodIn_app (goodIn_app (goodIn_app (goodIn_app (goodIn_app gk_refuses_1 (goodIn_app gk_refuses_2 (goodIn_app gk_refuses_3 (goodIn_app gk_refuses_4 (goodIn_app gk_refuses_5 (goodIn_app gk_refuses_6 (goodIn_app gk_refuses_7 (goodIn_app gk_refuses_8 (goodIn_app gk_refuses_9 (goodIn_app gk_refuses_10 (goodIn_app gk_refuses_11 (goodIn_app gk_refuses_12 (goodIn_app gk_refuses_13 (goodIn_app gk_refuses_14 (goodIn_app gk_refuses_15 (goodIn_app gk_refuses_16 (goodIn_app gk_refuses_17 (goodIn_app gk_refuses_18 (goodIn_app gk_refuses_19 (goodIn_app gk_refuses_20 (goodIn_app gk_refuses_21 (goodIn_app gk_refuses_22 gk_refuses_23)))))))))))))))))))))) gk_refuses_X5) gk_refuses_X2) gk_refuses_X0) gk_refuses_X1) gk_refuses_X3) gk_refuses_X4) (goodIn_sub (fun _ h => List.mem_append_left _ (List.mem_append_left _ (List.mem_append_right _ h))) (by decide +kernel))) (goodIn_sub (fun _ h => List.mem_append_right _ h) (by decide +kernel))) (goodIn_sub (fun _ h => List.mem_append_left _ (List.mem_append_right _ h)) (by decide +kernel)))
set_option maxRecDepth 20000 in
theorem gL_law_L_refuses : GoodIn wsL_law (va_wsS RL 217 yL_refuses wsL_refuses) := goodIn_app (goodIn_of _ (by decide +kernel)) ggL_law_L_refuses
