/-! ===== the law's words among the tables, cut small ===== -/
theorem in_app {a b t : List Cond} (ha : ∀ w ∈ a, w ∈ t) (hb : ∀ w ∈ b, w ∈ t) : ∀ w ∈ a ++ b, w ∈ t := fun w h => (List.mem_append.mp h).elim (ha w) (hb w)
set_option maxRecDepth 20000 in
theorem lw_in1 : ∀ w ∈ wsL_law0_r1, w ∈ lw_tbl := fun w h => (goodIn_r (big := lw_tbl) wsL_law0_r1 [65, 66, 50, 764, 378, 762, 912, 913, 67, 68, 69, 70, 71, 72, 73, 74, 51, 237, 94, 95, 52, 238, 239, 240] (by decide +kernel) (by decide +kernel) w h).1
set_option maxRecDepth 20000 in
theorem lw_in2 : ∀ w ∈ wsL_law0_r2, w ∈ lw_tbl := fun w h => (goodIn_r (big := lw_tbl) wsL_law0_r2 [142, 143, 53, 241, 162, 242, 141, 243, 140, 244, 245, 76, 77, 78, 79, 81, 97, 98, 99, 100, 101, 102, 103, 104] (by decide +kernel) (by decide +kernel) w h).1
set_option maxRecDepth 20000 in
theorem lw_in3 : ∀ w ∈ wsL_law0_r3, w ∈ lw_tbl := fun w h => (goodIn_r (big := lw_tbl) wsL_law0_r3 [105, 106, 107, 108, 109, 145, 146, 147, 148, 149, 152, 166, 0, 167, 168, 170, 1, 171, 111, 110, 112, 172, 174, 2] (by decide +kernel) (by decide +kernel) w h).1
set_option maxRecDepth 20000 in
theorem lw_in4 : ∀ w ∈ wsL_law0_r4, w ∈ lw_tbl := fun w h => (goodIn_r (big := lw_tbl) wsL_law0_r4 [175, 176, 177, 54, 178, 179, 181, 3, 182, 185, 4, 186, 189, 62, 5, 191, 450, 470, 193, 194, 196, 197, 198, 200] (by decide +kernel) (by decide +kernel) w h).1
set_option maxRecDepth 20000 in
theorem lw_in5 : ∀ w ∈ wsL_law0_r5, w ∈ lw_tbl := fun w h => (goodIn_r (big := lw_tbl) wsL_law0_r5 [6, 201, 202, 204, 7, 205, 206, 208, 8, 209, 210, 212, 9, 213, 214, 216, 10, 217, 218, 220, 11, 221, 222, 224] (by decide +kernel) (by decide +kernel) w h).1
set_option maxRecDepth 20000 in
theorem lw_in6 : ∀ w ∈ wsL_law0_r6, w ∈ lw_tbl := fun w h => (goodIn_r (big := lw_tbl) wsL_law0_r6 [12, 225, 226, 228, 13, 229, 230, 232, 14, 233, 235, 236, 691, 692, 49, 693, 382, 283, 284, 510, 377, 694, 695, 696] (by decide +kernel) (by decide +kernel) w h).1
set_option maxRecDepth 20000 in
theorem lw_in7 : ∀ w ∈ wsL_law0_r7, w ∈ lw_tbl := fun w h => (goodIn_r (big := lw_tbl) wsL_law0_r7 [697, 360, 60, 247, 703, 61, 698, 699, 700, 395, 58, 289, 290, 291, 292, 59, 705, 706, 707, 713, 715, 709, 711, 708] (by decide +kernel) (by decide +kernel) w h).1
set_option maxRecDepth 20000 in
theorem lw_in8 : ∀ w ∈ wsL_law0_r8, w ∈ lw_tbl := fun w h => (goodIn_r (big := lw_tbl) wsL_law0_r8 [275, 276, 277, 278, 279, 271, 272, 273, 274, 379, 380, 381, 383, 384, 385, 386, 246, 442, 190, 387, 389, 16, 390, 391] (by decide +kernel) (by decide +kernel) w h).1
set_option maxRecDepth 20000 in
theorem lw_in9 : ∀ w ∈ wsL_law0_r9, w ∈ lw_tbl := fun w h => (goodIn_r (big := lw_tbl) wsL_law0_r9 [393, 17, 394, 411, 412, 413, 415, 417, 18, 418, 420, 422, 19, 423, 425, 427, 20, 428, 432, 21, 433, 150, 434, 436] (by decide +kernel) (by decide +kernel) w h).1
set_option maxRecDepth 20000 in
theorem lw_in10 : ∀ w ∈ wsL_law0_r10, w ∈ lw_tbl := fun w h => (goodIn_r (big := lw_tbl) wsL_law0_r10 [22, 437, 438, 439, 440, 444, 445, 446, 461, 464, 467, 447, 452, 456, 459, 496, 498, 23, 499, 502, 24, 503, 82, 504] (by decide +kernel) (by decide +kernel) w h).1
set_option maxRecDepth 20000 in
theorem lw_in11 : ∀ w ∈ wsL_law0_r11, w ∈ lw_tbl := fun w h => (goodIn_r (big := lw_tbl) wsL_law0_r11 [506, 25, 507, 86, 663, 664, 665, 666, 667, 668, 669, 672, 37, 673, 675, 676, 677, 678, 679, 680, 681, 682, 684, 685] (by decide +kernel) (by decide +kernel) w h).1
set_option maxRecDepth 20000 in
theorem lw_in12 : ∀ w ∈ wsL_law0_r12, w ∈ lw_tbl := fun w h => (goodIn_r (big := lw_tbl) wsL_law0_r12 [689, 38, 690, 566, 567, 568, 569, 570, 571, 572, 559, 561, 26, 562, 511, 512, 513, 514, 515, 516, 517, 518, 519, 520] (by decide +kernel) (by decide +kernel) w h).1
set_option maxRecDepth 20000 in
theorem lw_in13 : ∀ w ∈ wsL_law0_r13, w ∈ lw_tbl := fun w h => (goodIn_r (big := lw_tbl) wsL_law0_r13 [521, 522, 523, 524, 525, 526, 527, 528, 529, 530, 531, 533, 534, 535, 537, 538, 539, 540, 541, 542, 543, 544, 545, 546] (by decide +kernel) (by decide +kernel) w h).1
set_option maxRecDepth 20000 in
theorem lw_in14 : ∀ w ∈ wsL_law0_r14, w ∈ lw_tbl := fun w h => (goodIn_r (big := lw_tbl) wsL_law0_r14 [547, 548, 549, 550, 617, 618, 619, 620, 621, 622, 623, 582, 27, 583, 584, 586, 28, 587, 588, 589, 63, 590, 591, 593] (by decide +kernel) (by decide +kernel) w h).1
set_option maxRecDepth 20000 in
theorem lw_in15 : ∀ w ∈ wsL_law0_r15, w ∈ lw_tbl := fun w h => (goodIn_r (big := lw_tbl) wsL_law0_r15 [29, 594, 595, 597, 30, 598, 599, 601, 31, 602, 603, 605, 32, 606, 607, 608, 63, 609, 610, 611, 612, 613, 615, 33] (by decide +kernel) (by decide +kernel) w h).1
set_option maxRecDepth 20000 in
theorem lw_in16 : ∀ w ∈ wsL_law0_r16, w ∈ lw_tbl := fun w h => (goodIn_r (big := lw_tbl) wsL_law0_r16 [616, 638, 639, 640, 641, 642, 643, 644, 647, 35, 648, 653, 654, 655, 649, 651, 36, 652, 624, 625, 626, 627, 628, 629] (by decide +kernel) (by decide +kernel) w h).1
set_option maxRecDepth 20000 in
theorem lw_in17 : ∀ w ∈ wsL_law0_r17, w ∈ lw_tbl := fun w h => (goodIn_r (big := lw_tbl) wsL_law0_r17 [630, 633, 34, 634, 636, 637, 552, 553, 554, 555, 556, 557, 558, 280, 281, 282, 285, 286, 287, 288, 752, 753, 754, 755] (by decide +kernel) (by decide +kernel) w h).1
set_option maxRecDepth 20000 in
theorem lw_in18 : ∀ w ∈ wsL_law0_r18, w ∈ lw_tbl := fun w h => (goodIn_r (big := lw_tbl) wsL_law0_r18 [756, 757, 758, 746, 739, 740, 741, 742, 743, 744, 745, 747, 737, 750, 39, 751, 730, 731, 732, 733, 734, 735, 736, 738] (by decide +kernel) (by decide +kernel) w h).1
set_option maxRecDepth 20000 in
theorem lw_in19 : ∀ w ∈ wsL_law0_r19, w ∈ lw_tbl := fun w h => (goodIn_r (big := lw_tbl) wsL_law0_r19 [656, 657, 658, 659, 660, 661, 662, 573, 574, 575, 576, 577, 578, 579, 759, 760, 761, 763, 765, 766, 767, 768, 769, 770] (by decide +kernel) (by decide +kernel) w h).1
set_option maxRecDepth 20000 in
theorem lw_in20 : ∀ w ∈ wsL_law0_r20, w ∈ lw_tbl := fun w h => (goodIn_r (big := lw_tbl) wsL_law0_r20 [771, 772, 773, 774, 775, 778, 40, 779, 780, 781, 782, 783, 784, 785, 786, 789, 41, 790, 792, 793, 794, 795, 796, 797] (by decide +kernel) (by decide +kernel) w h).1
set_option maxRecDepth 20000 in
theorem lw_in21 : ∀ w ∈ wsL_law0_r21, w ∈ lw_tbl := fun w h => (goodIn_r (big := lw_tbl) wsL_law0_r21 [798, 799, 800, 801, 804, 42, 805, 806, 807, 808, 872, 873, 874, 809, 810, 811, 812, 813, 814, 815, 816, 818, 43, 819] (by decide +kernel) (by decide +kernel) w h).1
set_option maxRecDepth 20000 in
theorem lw_in22 : ∀ w ∈ wsL_law0_r22, w ∈ lw_tbl := fun w h => (goodIn_r (big := lw_tbl) wsL_law0_r22 [821, 823, 44, 824, 825, 827, 45, 828, 831, 833, 834, 835, 836, 837, 838, 839, 840, 841, 844, 46, 845, 717, 846, 848] (by decide +kernel) (by decide +kernel) w h).1
set_option maxRecDepth 20000 in
theorem lw_in23 : ∀ w ∈ wsL_law0_r23, w ∈ lw_tbl := fun w h => (goodIn_r (big := lw_tbl) wsL_law0_r23 [47, 849, 850, 851, 852, 853, 854, 855, 856, 857, 858, 860, 861, 862, 864, 863, 64, 866, 867, 868, 869, 870, 871, 875] (by decide +kernel) (by decide +kernel) w h).1
set_option maxRecDepth 20000 in
theorem lw_in24 : ∀ w ∈ wsL_law0_r24, w ∈ lw_tbl := fun w h => (goodIn_r (big := lw_tbl) wsL_law0_r24 [876, 877, 878, 879, 880, 881, 882, 883, 884, 885, 886, 887, 888, 891, 48, 892, 894, 895, 896, 897, 898, 899, 900, 901] (by decide +kernel) (by decide +kernel) w h).1
set_option maxRecDepth 20000 in
theorem lw_in25 : ∀ w ∈ wsL_law0_r25, w ∈ lw_tbl := fun w h => (goodIn_r (big := lw_tbl) wsL_law0_r25 [902, 903, 904, 905, 906, 907, 908, 909, 910] (by decide +kernel) (by decide +kernel) w h).1
set_option maxRecDepth 20000 in
theorem lw_inX50 : ∀ w ∈ wsX50, w ∈ lw_tbl := fun w h => (goodIn_p wsX50 [] (by decide +kernel) (by decide +kernel) w h).1
set_option maxRecDepth 20000 in
theorem lw_inX10 : ∀ w ∈ wsX10, w ∈ lw_tbl := fun w h => (goodIn_p wsX10 [] (by decide +kernel) (by decide +kernel) w h).1
set_option maxRecDepth 20000 in
theorem lw_inX20 : ∀ w ∈ wsX20, w ∈ lw_tbl := fun w h => (goodIn_p wsX20 [] (by decide +kernel) (by decide +kernel) w h).1
set_option maxRecDepth 20000 in
theorem lw_inX30 : ∀ w ∈ wsX30, w ∈ lw_tbl := fun w h => (goodIn_p wsX30 [] (by decide +kernel) (by decide +kernel) w h).1
set_option maxRecDepth 20000 in
theorem lw_inX00 : ∀ w ∈ wsX00, w ∈ lw_tbl := fun w h => (goodIn_p wsX00 [] (by decide +kernel) (by decide +kernel) w h).1
set_option maxRecDepth 20000 in
theorem lw_inX40 : ∀ w ∈ wsX40, w ∈ lw_tbl := fun w h => (goodIn_p wsX40 [] (by decide +kernel) (by decide +kernel) w h).1
theorem wsL_law_in0 : ∀ w ∈ wsL_law0, w ∈ lw_tbl := in_app (in_app (in_app (in_app (in_app (in_app (in_app (in_app lw_in1 (in_app lw_in2 (in_app lw_in3 (in_app lw_in4 (in_app lw_in5 (in_app lw_in6 (in_app lw_in7 (in_app lw_in8 (in_app lw_in9 (in_app lw_in10 (in_app lw_in11 (in_app lw_in12 (in_app lw_in13 (in_app lw_in14 (in_app lw_in15 (in_app lw_in16 (in_app lw_in17 (in_app lw_in18 (in_app lw_in19 (in_app lw_in20 (in_app lw_in21 (in_app lw_in22 (in_app lw_in23 (in_app lw_in24 lw_in25)))))))))))))))))))))))) lw_inX50) lw_inX10) lw_inX20) lw_inX30) lw_inX00) lw_inX40) (fun w h => absurd h List.not_mem_nil)
theorem wsL_law_x0 : ∀ w ∈ (vx_atS RX5 66 "java/lang/IllegalStateException" ["java/lang/RuntimeException", "java/lang/Exception"]).filter goodWord, w ∈ lw_tbl := by decide +kernel
theorem wsL_law_x1 : ∀ w ∈ (vx_atS RX5 216 "java/lang/IndexOutOfBoundsException" ["java/lang/RuntimeException", "java/lang/Exception"]).filter goodWord, w ∈ lw_tbl := by decide +kernel
theorem wsL_law_x2 : ∀ w ∈ (vx_atS RX5 119 "java/lang/IllegalArgumentException" ["java/lang/RuntimeException", "java/lang/Exception"]).filter goodWord, w ∈ lw_tbl := by decide +kernel
theorem wsL_law_in : ∀ w ∈ wsL_law, w ∈ lw_tbl := fun w h => (List.mem_append.mp h).elim (fun h => (List.mem_append.mp h).elim (fun h => (List.mem_append.mp h).elim (fun h => wsL_law_in0 w h) (fun h => wsL_law_x0 w h)) (fun h => wsL_law_x1 w h)) (fun h => wsL_law_x2 w h)
