set_option maxRecDepth 20000 in
theorem ggL_holdsAnew_X5_holdsAnew : GoodIn wsL_holdsAnew wsX5_holdsAnew := goodIn_ca (goodIn_r _ [6, 7, 8, 9, 5, 10, 11, 12, 13, 14, 15, 16, 17, 18, 19, 20, 21, 22, 23, 24, 25, 26, 27, 28, 29, 30, 31, 32, 33, 34, 35, 36, 37, 38, 39, 40, 41, 42, 43, 44, 45, 46, 47, 48] (by decide +kernel) (by decide +kernel)) (goodIn_sub (fun _ h => List.mem_cons_of_mem _ (List.mem_append_right _ h)) (by decide +kernel))
set_option maxRecDepth 20000 in
theorem gL_holdsAnew_X5_holdsAnew : GoodIn wsL_holdsAnew (wsV RL 94 RX5 yX5_holdsAnew wsX5_holdsAnew) := goodIn_app (goodIn_of _ (by decide +kernel)) ggL_holdsAnew_X5_holdsAnew
theorem dL_holdsAnew_0 : decode cL_holdsAnew 0 = .ok (.aload_n 3, 1) := by decide +kernel
theorem dL_holdsAnew_1 : decode cL_holdsAnew 1 = .ok (.iconst 0, 1) := by decide +kernel
theorem dL_holdsAnew_2 : decode cL_holdsAnew 2 = .ok (.aload_n 0, 1) := by decide +kernel
theorem dL_holdsAnew_3 : decode cL_holdsAnew 3 = .ok (.iload_n 1, 1) := by decide +kernel
theorem dL_holdsAnew_4 : decode cL_holdsAnew 4 = .ok (.iload_n 2, 1) := by decide +kernel
theorem dL_holdsAnew_5 : decode cL_holdsAnew 5 = .ok (.invokevirtual 94, 3) := by decide +kernel
theorem dL_holdsAnew_8 : decode cL_holdsAnew 8 = .ok (.i2l, 1) := by decide +kernel
theorem dL_holdsAnew_9 : decode cL_holdsAnew 9 = .ok (.lastore, 1) := by decide +kernel
theorem dL_holdsAnew_10 : decode cL_holdsAnew 10 = .ok (.goto 7, 3) := by decide +kernel
theorem dL_holdsAnew_13 : decode cL_holdsAnew 13 = .ok (.astore 4, 2) := by decide +kernel
theorem dL_holdsAnew_15 : decode cL_holdsAnew 15 = .ok (.iconst 1, 1) := by decide +kernel
theorem dL_holdsAnew_16 : decode cL_holdsAnew 16 = .ok (.ireturn, 1) := by decide +kernel
theorem dL_holdsAnew_17 : decode cL_holdsAnew 17 = .ok (.iconst 0, 1) := by decide +kernel
theorem dL_holdsAnew_18 : decode cL_holdsAnew 18 = .ok (.ireturn, 1) := by decide +kernel
set_option maxRecDepth 20000 in
theorem ggL_bar_X5_bar : GoodIn wsL_bar wsX5_bar := goodIn_ca (goodIn_r _ [6, 7, 8, 9, 10, 5, 11, 12, 13, 14, 15, 16, 17, 18, 19, 20, 21, 22, 23, 24, 25, 26, 27, 28, 29, 30, 31] (by decide +kernel) (by decide +kernel)) (goodIn_sub (fun _ h => List.mem_cons_of_mem _ (List.mem_append_right _ h)) (by decide +kernel))
set_option maxRecDepth 20000 in
theorem gL_bar_X5_bar : GoodIn wsL_bar (wsV RL 97 RX5 yX5_bar wsX5_bar) := goodIn_app (goodIn_of _ (by decide +kernel)) ggL_bar_X5_bar
theorem dL_bar_0 : decode cL_bar 0 = .ok (.aload_n 3, 1) := by decide +kernel
theorem dL_bar_1 : decode cL_bar 1 = .ok (.iconst 0, 1) := by decide +kernel
theorem dL_bar_2 : decode cL_bar 2 = .ok (.aload_n 0, 1) := by decide +kernel
theorem dL_bar_3 : decode cL_bar 3 = .ok (.iload_n 1, 1) := by decide +kernel
theorem dL_bar_4 : decode cL_bar 4 = .ok (.iload_n 2, 1) := by decide +kernel
theorem dL_bar_5 : decode cL_bar 5 = .ok (.invokevirtual 97, 3) := by decide +kernel
theorem dL_bar_8 : decode cL_bar 8 = .ok (.ifCond .eq 7, 3) := by decide +kernel
theorem dL_bar_11 : decode cL_bar 11 = .ok (.lconst 1, 1) := by decide +kernel
theorem dL_bar_12 : decode cL_bar 12 = .ok (.goto 4, 3) := by decide +kernel
theorem dL_bar_15 : decode cL_bar 15 = .ok (.lconst 0, 1) := by decide +kernel
theorem dL_bar_16 : decode cL_bar 16 = .ok (.lastore, 1) := by decide +kernel
theorem dL_bar_17 : decode cL_bar 17 = .ok (.goto 7, 3) := by decide +kernel
theorem dL_bar_20 : decode cL_bar 20 = .ok (.astore 4, 2) := by decide +kernel
theorem dL_bar_22 : decode cL_bar 22 = .ok (.iconst 1, 1) := by decide +kernel
theorem dL_bar_23 : decode cL_bar 23 = .ok (.ireturn, 1) := by decide +kernel
theorem dL_bar_24 : decode cL_bar 24 = .ok (.iconst 0, 1) := by decide +kernel
theorem dL_bar_25 : decode cL_bar 25 = .ok (.ireturn, 1) := by decide +kernel
set_option maxRecDepth 20000 in
theorem ggL_look_X5_look : GoodIn wsL_look wsX5_look := goodIn_ca (goodIn_ca (goodIn_r _ [7, 8, 9, 10, 11, 12, 13, 6, 14, 15, 16, 17, 18, 19, 20, 21, 22, 23, 24, 25, 26, 27, 28, 29, 30, 31, 32, 33, 34, 35, 36, 37, 38, 39, 40, 41, 42, 43, 44, 45, 46, 47, 48, 49, 50, 51, 52, 53, 54, 55, 56, 57, 58, 59, 60] (by decide +kernel) (by decide +kernel)) (goodIn_sub (fun _ h => List.mem_cons_of_mem _ (List.mem_append_left _ (List.mem_append_right _ h))) (by decide +kernel))) (goodIn_sub (fun _ h => List.mem_cons_of_mem _ (List.mem_append_right _ h)) (by decide +kernel))
set_option maxRecDepth 20000 in
theorem gL_look_X5_look : GoodIn wsL_look (wsV RL 101 RX5 yX5_look wsX5_look) := goodIn_app (goodIn_of _ (by decide +kernel)) ggL_look_X5_look
theorem dL_look_0 : decode cL_look 0 = .ok (.aload_n 3, 1) := by decide +kernel
theorem dL_look_1 : decode cL_look 1 = .ok (.iconst 0, 1) := by decide +kernel
theorem dL_look_2 : decode cL_look 2 = .ok (.aload_n 0, 1) := by decide +kernel
theorem dL_look_3 : decode cL_look 3 = .ok (.iload_n 1, 1) := by decide +kernel
theorem dL_look_4 : decode cL_look 4 = .ok (.iload_n 2, 1) := by decide +kernel
theorem dL_look_5 : decode cL_look 5 = .ok (.invokevirtual 101, 3) := by decide +kernel
theorem dL_look_8 : decode cL_look 8 = .ok (.i2l, 1) := by decide +kernel
theorem dL_look_9 : decode cL_look 9 = .ok (.lastore, 1) := by decide +kernel
theorem dL_look_10 : decode cL_look 10 = .ok (.goto 11, 3) := by decide +kernel
theorem dL_look_13 : decode cL_look 13 = .ok (.astore 4, 2) := by decide +kernel
theorem dL_look_15 : decode cL_look 15 = .ok (.iconst 1, 1) := by decide +kernel
theorem dL_look_16 : decode cL_look 16 = .ok (.ireturn, 1) := by decide +kernel
theorem dL_look_17 : decode cL_look 17 = .ok (.astore 4, 2) := by decide +kernel
theorem dL_look_19 : decode cL_look 19 = .ok (.iconst 2, 1) := by decide +kernel
theorem dL_look_20 : decode cL_look 20 = .ok (.ireturn, 1) := by decide +kernel
theorem dL_look_21 : decode cL_look 21 = .ok (.iconst 0, 1) := by decide +kernel
theorem dL_look_22 : decode cL_look 22 = .ok (.ireturn, 1) := by decide +kernel
set_option maxRecDepth 20000 in
theorem ggL_looks_X5_looks : GoodIn wsL_looks wsX5_looks := goodIn_ca (goodIn_r _ [6, 7, 8, 9, 10, 5, 11, 12, 13, 14, 15, 16, 17, 18, 19, 20, 21, 22, 23, 24, 25, 26, 27, 28] (by decide +kernel) (by decide +kernel)) (goodIn_sub (fun _ h => List.mem_cons_of_mem _ (List.mem_append_right _ h)) (by decide +kernel))
set_option maxRecDepth 20000 in
theorem gL_looks_X5_looks : GoodIn wsL_looks (wsV RL 104 RX5 yX5_looks wsX5_looks) := goodIn_app (goodIn_of _ (by decide +kernel)) ggL_looks_X5_looks
theorem dL_looks_0 : decode cL_looks 0 = .ok (.aload_n 2, 1) := by decide +kernel
theorem dL_looks_1 : decode cL_looks 1 = .ok (.iconst 0, 1) := by decide +kernel
theorem dL_looks_2 : decode cL_looks 2 = .ok (.aload_n 0, 1) := by decide +kernel
theorem dL_looks_3 : decode cL_looks 3 = .ok (.iload_n 1, 1) := by decide +kernel
theorem dL_looks_4 : decode cL_looks 4 = .ok (.invokevirtual 104, 3) := by decide +kernel
theorem dL_looks_7 : decode cL_looks 7 = .ok (.i2l, 1) := by decide +kernel
theorem dL_looks_8 : decode cL_looks 8 = .ok (.lastore, 1) := by decide +kernel
theorem dL_looks_9 : decode cL_looks 9 = .ok (.goto 6, 3) := by decide +kernel
theorem dL_looks_12 : decode cL_looks 12 = .ok (.astore_n 3, 1) := by decide +kernel
theorem dL_looks_13 : decode cL_looks 13 = .ok (.iconst 1, 1) := by decide +kernel
theorem dL_looks_14 : decode cL_looks 14 = .ok (.ireturn, 1) := by decide +kernel
theorem dL_looks_15 : decode cL_looks 15 = .ok (.iconst 0, 1) := by decide +kernel
theorem dL_looks_16 : decode cL_looks 16 = .ok (.ireturn, 1) := by decide +kernel
set_option maxRecDepth 20000 in
theorem ggL_law_X5_init : GoodIn wsL_law wsX5_init := goodIn_r _ [9, 10, 11, 12, 13, 14, 15, 16, 17, 18, 19, 20, 21, 22, 23, 24, 25, 26, 27, 28, 29, 30, 31, 32, 33, 34, 35, 36, 37, 38, 39, 40, 41, 42, 43, 44, 45, 46, 47, 48, 49, 50, 51, 52, 53, 54, 55, 56, 57, 58, 59, 60, 61, 62, 63, 64, 65, 66, 67, 68, 69, 70, 71, 72, 73, 74, 75, 76, 77, 78, 79, 80, 81, 82, 83, 84, 85, 86, 87, 88, 89, 2, 90, 91, 92, 93, 94, 95, 96, 97, 98, 99, 100, 101, 102, 103, 104, 105, 106, 107, 108, 109, 110, 111, 112, 113, 114, 115, 116, 117, 118, 119, 120, 121, 122, 123, 124, 125, 126, 127, 128, 129, 130, 868, 869, 870, 819, 820, 821, 822, 823, 824, 825, 826, 827, 828, 829, 871, 872, 873, 874, 875, 876, 877, 878, 879, 880, 881, 882, 883, 884, 885, 886, 887, 888, 889, 890, 891, 892, 893, 894, 895, 896, 897] (by decide +kernel) (by decide +kernel)
set_option maxRecDepth 20000 in
theorem gL_law_X5_init : GoodIn wsL_law (wsX5_init) := ggL_law_X5_init
set_option maxRecDepth 20000 in
theorem ggL_law_X6_init : GoodIn wsL_law wsX6_init := goodIn_r _ [133, 134, 11, 12, 135, 31, 136, 137, 138, 139, 140, 141, 142, 143, 144, 145, 146, 147, 148, 149, 150, 151, 152, 153, 154, 155, 29, 156, 157, 158, 159, 160, 161, 162, 163, 164, 165, 830, 831, 832, 833, 834, 835, 836, 837, 838, 839, 840, 841, 842, 843, 844, 845, 846, 847, 848, 849, 850, 851, 852, 853, 854, 855, 856, 857, 858, 859, 860, 861, 862, 863, 864, 865, 866, 867] (by decide +kernel) (by decide +kernel)
set_option maxRecDepth 20000 in
theorem gL_law_X6_init : GoodIn wsL_law (wsX6_init) := ggL_law_X6_init
set_option maxRecDepth 20000 in
theorem ggL_law_L_pass : GoodIn wsL_law wsL_pass := goodIn_ca (goodIn_ca (goodIn_r _ [169, 170, 171, 172, 173, 174, 2, 175, 176, 177, 33, 20, 178, 179, 180, 181, 182, 94, 19, 95, 96, 66, 67, 65, 83, 84, 85, 86, 87, 88, 97, 98, 99, 100, 42, 44, 45, 91, 92, 101, 102, 103, 104, 43, 47, 48, 49, 105, 106, 107, 108, 89, 90, 109, 110, 111, 112, 46, 113, 114, 115, 116, 117, 118, 119, 120, 121, 122, 123, 124, 125, 126, 127, 128, 50, 129, 130, 819, 820, 821, 822, 823, 824, 825, 826, 827, 828, 829, 871, 872, 873, 874, 875, 876, 877, 878, 879, 880, 881, 882, 883, 888, 889, 890, 891, 892, 893, 894, 895, 896, 897] (by decide +kernel) (by decide +kernel)) (goodIn_sub (fun _ h => List.mem_append_left _ (List.mem_append_left _ (List.mem_append_right _ h))) (by decide +kernel))) (goodIn_sub (fun _ h => List.mem_append_left _ (List.mem_append_right _ h)) (by decide +kernel))
set_option maxRecDepth 20000 in
theorem gL_law_L_pass : GoodIn wsL_law (va_wsS RL 111 yL_pass wsL_pass) := goodIn_app (goodIn_of _ (by decide +kernel)) ggL_law_L_pass
set_option maxRecDepth 20000 in
theorem ggL_law_X6_pass : GoodIn wsL_law wsX6_pass := goodIn_r _ [186, 135, 187, 188, 5, 189, 190, 191, 192, 193, 194, 830, 831, 832, 833, 834, 835, 836, 837, 838, 839, 840, 841, 842, 843, 844, 845, 846, 847, 848, 849, 850, 851, 852, 853, 854, 855, 856, 857, 858, 859, 860, 861, 862, 863, 864, 865, 866, 867] (by decide +kernel) (by decide +kernel)
set_option maxRecDepth 20000 in
theorem gL_law_X6_pass : GoodIn wsL_law (wsV RL 116 RX6 yX6_pass wsX6_pass) := goodIn_app (goodIn_of _ (by decide +kernel)) ggL_law_X6_pass
set_option maxRecDepth 20000 in
theorem ggL_law_X6_thrown : GoodIn wsL_law wsX6_thrown := goodIn_r _ [198, 194, 830, 831, 832, 833, 834, 835, 836, 837, 838, 839, 840, 841, 842, 843, 844, 845, 846, 847, 848, 849, 850, 851, 852, 853, 854, 855, 856, 857, 858, 859, 860, 861, 862, 863, 864, 865, 866, 867] (by decide +kernel) (by decide +kernel)
set_option maxRecDepth 20000 in
theorem gL_law_X6_thrown : GoodIn wsL_law (wsV RL 117 RX6 yX6_thrown wsX6_thrown) := goodIn_app (goodIn_of _ (by decide +kernel)) ggL_law_X6_thrown
set_option maxRecDepth 20000 in
theorem ggL_law_L_birth : GoodIn wsL_law wsL_birth := goodIn_ca (goodIn_ca (goodIn_ca (goodIn_r _ [201, 202, 170, 171, 203, 204, 205, 2, 206, 176, 177, 207, 26, 208, 209, 84, 33, 210, 211, 212, 213, 214, 215, 216, 217, 218, 219, 220, 221, 222, 223, 224, 225, 226, 178, 179, 180, 181, 182, 227, 228, 229, 230, 16, 231, 232, 233, 234, 235, 25, 236, 237, 55, 238, 56, 239, 240, 241, 242, 57, 243, 244, 245, 89, 90, 246, 247, 248, 11, 12, 249, 250, 251, 252, 87, 253, 254, 255, 256, 257, 258, 259, 20, 260, 15, 261, 262, 263, 38, 264, 265, 266, 267, 268, 98, 19, 99, 100, 42, 44, 45, 91, 92, 101, 102, 103, 104, 43, 47, 48, 49, 105, 106, 107, 108, 109, 110, 111, 112, 46, 113, 114, 115, 116, 117, 118, 119, 120, 121, 122, 123, 124, 125, 126, 127, 128, 50, 129, 130, 62, 63, 64, 65, 66, 67, 68, 69, 70, 71, 72, 73, 74, 75, 76, 77, 78, 79, 80, 81, 82, 83, 85, 86, 88, 94, 95, 96, 97, 819, 820, 821, 822, 823, 824, 825, 826, 827, 828, 829, 888, 889, 890, 891, 892, 893, 894, 895, 896, 897, 868, 869, 870, 884, 885, 886, 887, 871, 872, 873, 874, 875, 876, 877, 878, 879, 880, 881, 882, 883] (by decide +kernel) (by decide +kernel)) (goodIn_sub (fun _ h => List.mem_append_left _ (List.mem_append_left _ (List.mem_append_right _ h))) (by decide +kernel))) (goodIn_sub (fun _ h => List.mem_append_right _ h) (by decide +kernel))) (goodIn_sub (fun _ h => List.mem_append_left _ (List.mem_append_right _ h)) (by decide +kernel))
set_option maxRecDepth 20000 in
theorem gL_law_L_birth : GoodIn wsL_law (va_wsS RL 121 yL_birth wsL_birth) := goodIn_app (goodIn_of _ (by decide +kernel)) ggL_law_L_birth
set_option maxRecDepth 20000 in
theorem ggL_law_X6_birth : GoodIn wsL_law wsX6_birth := goodIn_r _ [272, 273, 274, 275, 276, 277, 278, 5, 279, 187, 188, 189, 280, 281, 282, 283, 135, 190, 191, 192, 193, 194, 284, 285, 286, 287, 136, 137, 138, 139, 140, 141, 142, 143, 288, 144, 289, 290, 291, 292, 145, 146, 147, 293, 294, 295, 830, 831, 832, 833, 834, 835, 836, 837, 838, 839, 840, 841, 842, 843, 844, 845, 846, 847, 848, 849, 850, 851, 852, 853, 854, 855, 856, 857, 858, 859, 860, 861, 862, 863, 864, 865, 866, 867] (by decide +kernel) (by decide +kernel)
set_option maxRecDepth 20000 in
theorem gL_law_X6_birth : GoodIn wsL_law (wsV RL 124 RX6 yX6_birth wsX6_birth) := goodIn_app (goodIn_of _ (by decide +kernel)) ggL_law_X6_birth
set_option maxRecDepth 20000 in
theorem ggL_law_L_move : GoodIn wsL_law wsL_move := goodIn_ca (goodIn_ca (goodIn_ca (goodIn_r _ [298, 202, 170, 171, 299, 300, 301, 2, 302, 208, 209, 84, 33, 214, 215, 216, 217, 218, 219, 207, 220, 221, 222, 223, 224, 225, 226, 178, 179, 180, 181, 182, 227, 228, 229, 230, 176, 177, 16, 246, 247, 248, 11, 12, 249, 250, 251, 252, 87, 253, 254, 255, 256, 257, 258, 259, 20, 260, 15, 261, 262, 263, 38, 264, 265, 266, 267, 268, 98, 19, 99, 100, 42, 44, 45, 91, 92, 101, 102, 103, 104, 43, 47, 48, 49, 105, 106, 107, 108, 89, 90, 109, 110, 111, 112, 46, 113, 114, 115, 116, 117, 118, 119, 120, 121, 122, 123, 124, 125, 126, 127, 128, 50, 129, 130, 62, 63, 64, 65, 66, 67, 68, 69, 70, 71, 72, 73, 74, 75, 76, 77, 78, 79, 80, 81, 82, 83, 85, 86, 88, 94, 95, 96, 97, 888, 889, 890, 891, 892, 893, 894, 895, 896, 897, 819, 820, 821, 822, 823, 824, 825, 826, 827, 828, 829, 868, 869, 870, 871, 872, 873, 874, 875, 876, 877, 878, 879, 880, 881, 882, 883] (by decide +kernel) (by decide +kernel)) (goodIn_sub (fun _ h => List.mem_append_right _ h) (by decide +kernel))) (goodIn_sub (fun _ h => List.mem_append_left _ (List.mem_append_right _ h)) (by decide +kernel))) (goodIn_sub (fun _ h => List.mem_append_left _ (List.mem_append_left _ (List.mem_append_right _ h))) (by decide +kernel))
set_option maxRecDepth 20000 in
theorem gL_law_L_move : GoodIn wsL_law (va_wsS RL 125 yL_move wsL_move) := goodIn_app (goodIn_of _ (by decide +kernel)) ggL_law_L_move
set_option maxRecDepth 20000 in
theorem ggL_law_X6_move : GoodIn wsL_law wsX6_move := goodIn_r _ [306, 274, 276, 277, 278, 5, 279, 273, 187, 188, 189, 280, 281, 282, 283, 135, 190, 191, 192, 193, 194, 284, 285, 286, 287, 136, 137, 138, 139, 140, 141, 142, 143, 288, 144, 830, 831, 832, 833, 834, 835, 836, 837, 838, 839, 840, 841, 842, 843, 844, 845, 846, 847, 848, 849, 850, 851, 852, 853, 854, 855, 856, 857, 858, 859, 860, 861, 862, 863, 864, 865, 866, 867] (by decide +kernel) (by decide +kernel)
set_option maxRecDepth 20000 in
theorem gL_law_X6_move : GoodIn wsL_law (wsV RL 128 RX6 yX6_move wsX6_move) := goodIn_app (goodIn_of _ (by decide +kernel)) ggL_law_X6_move
set_option maxRecDepth 20000 in
theorem ggL_law_L_naming : GoodIn wsL_law wsL_naming := goodIn_ca (goodIn_ca (goodIn_ca (goodIn_r _ [309, 202, 170, 171, 310, 311, 312, 2, 313, 208, 209, 84, 33, 214, 215, 216, 217, 218, 219, 207, 223, 224, 225, 226, 178, 179, 180, 181, 182, 227, 228, 229, 230, 176, 177, 16, 246, 247, 248, 11, 12, 249, 250, 251, 252, 87, 253, 254, 255, 256, 257, 258, 259, 20, 260, 15, 261, 262, 263, 38, 264, 265, 266, 267, 268, 98, 19, 99, 100, 42, 44, 45, 91, 92, 101, 102, 103, 104, 43, 47, 48, 49, 105, 106, 107, 108, 89, 90, 109, 110, 111, 112, 46, 113, 114, 115, 116, 117, 118, 119, 120, 121, 122, 123, 124, 125, 126, 127, 128, 50, 129, 130, 62, 63, 64, 65, 66, 67, 68, 69, 70, 71, 72, 73, 74, 75, 76, 77, 78, 79, 80, 81, 82, 83, 85, 86, 88, 94, 95, 96, 97, 888, 889, 890, 891, 892, 893, 894, 895, 896, 897, 819, 820, 821, 822, 823, 824, 825, 826, 827, 828, 829, 868, 869, 870, 871, 872, 873, 874, 875, 876, 877, 878, 879, 880, 881, 882, 883] (by decide +kernel) (by decide +kernel)) (goodIn_sub (fun _ h => List.mem_append_right _ h) (by decide +kernel))) (goodIn_sub (fun _ h => List.mem_append_left _ (List.mem_append_right _ h)) (by decide +kernel))) (goodIn_sub (fun _ h => List.mem_append_left _ (List.mem_append_left _ (List.mem_append_right _ h))) (by decide +kernel))
set_option maxRecDepth 20000 in
theorem gL_law_L_naming : GoodIn wsL_law (va_wsS RL 129 yL_naming wsL_naming) := goodIn_app (goodIn_of _ (by decide +kernel)) ggL_law_L_naming
set_option maxRecDepth 20000 in
theorem ggL_law_X6_naming : GoodIn wsL_law wsX6_naming := goodIn_r _ [317, 274, 280, 281, 282, 5, 283, 135, 187, 188, 189, 276, 277, 278, 279, 273, 190, 191, 192, 193, 194, 284, 285, 286, 287, 136, 137, 138, 139, 140, 141, 142, 143, 288, 144, 830, 831, 832, 833, 834, 835, 836, 837, 838, 839, 840, 841, 842, 843, 844, 845, 846, 847, 848, 849, 850, 851, 852, 853, 854, 855, 856, 857, 858, 859, 860, 861, 862, 863, 864, 865, 866, 867] (by decide +kernel) (by decide +kernel)
set_option maxRecDepth 20000 in
theorem gL_law_X6_naming : GoodIn wsL_law (wsV RL 131 RX6 yX6_naming wsX6_naming) := goodIn_app (goodIn_of _ (by decide +kernel)) ggL_law_X6_naming
set_option maxRecDepth 20000 in
theorem ggL_law_L_tie : GoodIn wsL_law wsL_tie := goodIn_ca (goodIn_ca (goodIn_ca (goodIn_r _ [320, 202, 170, 171, 321, 322, 323, 2, 324, 181, 182, 208, 209, 84, 33, 214, 215, 216, 217, 218, 219, 207, 223, 224, 225, 226, 178, 179, 180, 325, 326, 327, 227, 228, 229, 230, 176, 177, 16, 246, 247, 248, 11, 12, 249, 250, 251, 252, 87, 253, 254, 255, 256, 257, 258, 259, 20, 260, 15, 261, 262, 263, 38, 264, 265, 266, 267, 268, 98, 19, 99, 100, 42, 44, 45, 91, 92, 101, 102, 103, 104, 43, 47, 48, 49, 105, 106, 107, 108, 89, 90, 109, 110, 111, 112, 46, 113, 114, 115, 116, 117, 118, 119, 120, 121, 122, 123, 124, 125, 126, 127, 128, 50, 129, 130, 62, 63, 64, 65, 66, 67, 68, 69, 70, 71, 72, 73, 74, 75, 76, 77, 78, 79, 80, 81, 82, 83, 85, 86, 88, 94, 95, 96, 97, 888, 889, 890, 891, 892, 893, 894, 895, 896, 897, 819, 820, 821, 822, 823, 824, 825, 826, 827, 828, 829, 868, 869, 870, 871, 872, 873, 874, 875, 876, 877, 878, 879, 880, 881, 882, 883] (by decide +kernel) (by decide +kernel)) (goodIn_sub (fun _ h => List.mem_append_left _ (List.mem_append_right _ h)) (by decide +kernel))) (goodIn_sub (fun _ h => List.mem_append_right _ h) (by decide +kernel))) (goodIn_sub (fun _ h => List.mem_append_left _ (List.mem_append_left _ (List.mem_append_right _ h))) (by decide +kernel))
set_option maxRecDepth 20000 in
theorem gL_law_L_tie : GoodIn wsL_law (va_wsS RL 132 yL_tie wsL_tie) := goodIn_app (goodIn_of _ (by decide +kernel)) ggL_law_L_tie
set_option maxRecDepth 20000 in
theorem ggL_law_X6_tie : GoodIn wsL_law wsX6_tie := goodIn_r _ [331, 274, 276, 277, 278, 5, 279, 273, 187, 188, 189, 280, 281, 282, 283, 135, 190, 191, 192, 193, 194, 284, 285, 286, 287, 136, 137, 138, 139, 140, 141, 142, 143, 288, 144, 830, 831, 832, 833, 834, 835, 836, 837, 838, 839, 840, 841, 842, 843, 844, 845, 846, 847, 848, 849, 850, 851, 852, 853, 854, 855, 856, 857, 858, 859, 860, 861, 862, 863, 864, 865, 866, 867] (by decide +kernel) (by decide +kernel)
set_option maxRecDepth 20000 in
theorem gL_law_X6_tie : GoodIn wsL_law (wsV RL 134 RX6 yX6_tie wsX6_tie) := goodIn_app (goodIn_of _ (by decide +kernel)) ggL_law_X6_tie
set_option maxRecDepth 20000 in
theorem ggL_law_L_death : GoodIn wsL_law wsL_death := goodIn_ca (goodIn_ca (goodIn_ca (goodIn_r _ [334, 202, 170, 171, 335, 336, 337, 2, 338, 208, 209, 84, 33, 214, 215, 216, 217, 218, 219, 207, 223, 224, 225, 226, 178, 179, 180, 181, 182, 227, 228, 229, 230, 176, 177, 16, 246, 247, 248, 11, 12, 249, 250, 251, 252, 87, 253, 254, 255, 256, 257, 258, 259, 20, 260, 15, 261, 262, 263, 38, 264, 265, 266, 267, 268, 98, 19, 99, 100, 42, 44, 45, 91, 92, 101, 102, 103, 104, 43, 47, 48, 49, 105, 106, 107, 108, 89, 90, 109, 110, 111, 112, 46, 113, 114, 115, 116, 117, 118, 119, 120, 121, 122, 123, 124, 125, 126, 127, 128, 50, 129, 130, 62, 63, 64, 65, 66, 67, 68, 69, 70, 71, 72, 73, 74, 75, 76, 77, 78, 79, 80, 81, 82, 83, 85, 86, 88, 94, 95, 96, 97, 888, 889, 890, 891, 892, 893, 894, 895, 896, 897, 819, 820, 821, 822, 823, 824, 825, 826, 827, 828, 829, 868, 869, 870, 871, 872, 873, 874, 875, 876, 877, 878, 879, 880, 881, 882, 883] (by decide +kernel) (by decide +kernel)) (goodIn_sub (fun _ h => List.mem_append_right _ h) (by decide +kernel))) (goodIn_sub (fun _ h => List.mem_append_left _ (List.mem_append_right _ h)) (by decide +kernel))) (goodIn_sub (fun _ h => List.mem_append_left _ (List.mem_append_left _ (List.mem_append_right _ h))) (by decide +kernel))
set_option maxRecDepth 20000 in
theorem gL_law_L_death : GoodIn wsL_law (va_wsS RL 135 yL_death wsL_death) := goodIn_app (goodIn_of _ (by decide +kernel)) ggL_law_L_death
set_option maxRecDepth 20000 in
theorem ggL_law_X6_death : GoodIn wsL_law wsX6_death := goodIn_r _ [342, 274, 276, 277, 278, 5, 279, 273, 187, 188, 189, 280, 281, 282, 283, 135, 190, 191, 192, 193, 194, 284, 285, 286, 287, 136, 137, 138, 139, 140, 141, 142, 143, 288, 144, 830, 831, 832, 833, 834, 835, 836, 837, 838, 839, 840, 841, 842, 843, 844, 845, 846, 847, 848, 849, 850, 851, 852, 853, 854, 855, 856, 857, 858, 859, 860, 861, 862, 863, 864, 865, 866, 867] (by decide +kernel) (by decide +kernel)
set_option maxRecDepth 20000 in
theorem gL_law_X6_death : GoodIn wsL_law (wsV RL 138 RX6 yX6_death wsX6_death) := goodIn_app (goodIn_of _ (by decide +kernel)) ggL_law_X6_death
set_option maxRecDepth 20000 in
theorem ggL_law_L_join : GoodIn wsL_law wsL_join := goodIn_ca (goodIn_ca (goodIn_ca (goodIn_r _ [345, 202, 170, 171, 346, 347, 348, 2, 349, 181, 182, 208, 209, 84, 33, 214, 215, 216, 217, 218, 219, 207, 227, 228, 229, 230, 176, 177, 16, 246, 247, 248, 11, 12, 249, 250, 251, 252, 87, 253, 254, 255, 256, 257, 258, 259, 20, 260, 15, 261, 262, 263, 38, 264, 265, 266, 267, 268, 98, 19, 99, 100, 42, 44, 45, 91, 92, 101, 102, 103, 104, 43, 47, 48, 49, 105, 106, 107, 108, 89, 90, 109, 110, 111, 112, 46, 113, 114, 115, 116, 117, 118, 119, 120, 121, 122, 123, 124, 125, 126, 127, 128, 50, 129, 130, 62, 63, 64, 65, 66, 67, 68, 69, 70, 71, 72, 73, 74, 75, 76, 77, 78, 79, 80, 81, 82, 83, 85, 86, 88, 94, 95, 96, 97, 888, 889, 890, 891, 892, 893, 894, 895, 896, 897, 819, 820, 821, 822, 823, 824, 825, 826, 827, 828, 829, 868, 869, 870, 871, 872, 873, 874, 875, 876, 877, 878, 879, 880, 881, 882, 883] (by decide +kernel) (by decide +kernel)) (goodIn_sub (fun _ h => List.mem_append_left _ (List.mem_append_right _ h)) (by decide +kernel))) (goodIn_sub (fun _ h => List.mem_append_right _ h) (by decide +kernel))) (goodIn_sub (fun _ h => List.mem_append_left _ (List.mem_append_left _ (List.mem_append_right _ h))) (by decide +kernel))
set_option maxRecDepth 20000 in
theorem gL_law_L_join : GoodIn wsL_law (va_wsS RL 139 yL_join wsL_join) := goodIn_app (goodIn_of _ (by decide +kernel)) ggL_law_L_join
set_option maxRecDepth 20000 in
theorem ggL_law_X6_join : GoodIn wsL_law wsX6_join := goodIn_r _ [353, 274, 276, 277, 278, 5, 279, 273, 187, 188, 189, 190, 191, 192, 193, 194, 284, 285, 286, 287, 136, 137, 135, 138, 139, 140, 141, 142, 143, 288, 144, 830, 831, 832, 833, 834, 835, 836, 837, 838, 839, 840, 841, 842, 843, 844, 845, 846, 847, 848, 849, 850, 851, 852, 853, 854, 855, 856, 857, 858, 859, 860, 861, 862, 863, 864, 865, 866, 867] (by decide +kernel) (by decide +kernel)
set_option maxRecDepth 20000 in
theorem gL_law_X6_join : GoodIn wsL_law (wsV RL 141 RX6 yX6_join wsX6_join) := goodIn_app (goodIn_of _ (by decide +kernel)) ggL_law_X6_join
set_option maxRecDepth 20000 in
theorem ggL_law_L_strike : GoodIn wsL_law wsL_strike := goodIn_ca (goodIn_ca (goodIn_r _ [356, 202, 171, 357, 358, 359, 2, 360, 176, 177, 208, 209, 84, 33, 361, 362, 363, 364, 218, 219, 16, 80, 15, 81, 82, 38, 227, 228, 229, 230, 246, 247, 248, 11, 12, 249, 250, 251, 252, 87, 253, 254, 255, 256, 257, 258, 259, 20, 260, 261, 262, 263, 264, 265, 266, 267, 268, 98, 19, 99, 100, 42, 44, 45, 91, 92, 101, 102, 103, 104, 43, 47, 48, 49, 105, 106, 107, 108, 89, 90, 109, 110, 111, 112, 46, 113, 114, 115, 116, 117, 118, 119, 120, 121, 122, 123, 124, 125, 126, 127, 128, 50, 129, 130, 62, 63, 64, 65, 66, 67, 68, 69, 70, 71, 72, 73, 74, 75, 76, 77, 78, 79, 83, 85, 86, 88, 94, 95, 96, 97, 888, 889, 890, 891, 892, 893, 894, 895, 896, 897, 819, 820, 821, 822, 823, 824, 825, 826, 827, 828, 829, 868, 869, 870, 871, 872, 873, 874, 875, 876, 877, 878, 879, 880, 881, 882, 883] (by decide +kernel) (by decide +kernel)) (goodIn_sub (fun _ h => List.mem_append_left _ (List.mem_append_left _ (List.mem_append_right _ h))) (by decide +kernel))) (goodIn_sub (fun _ h => List.mem_append_right _ h) (by decide +kernel))
set_option maxRecDepth 20000 in
theorem gL_law_L_strike : GoodIn wsL_law (va_wsS RL 142 yL_strike wsL_strike) := goodIn_app (goodIn_of _ (by decide +kernel)) ggL_law_L_strike
set_option maxRecDepth 20000 in
theorem ggL_law_X6_strike : GoodIn wsL_law wsX6_strike := goodIn_r _ [368, 274, 136, 143, 187, 188, 5, 189, 190, 191, 192, 193, 194, 284, 285, 286, 287, 137, 135, 138, 139, 140, 141, 142, 288, 144, 830, 831, 832, 833, 834, 835, 836, 837, 838, 839, 840, 841, 842, 843, 844, 845, 846, 847, 848, 849, 850, 851, 852, 853, 854, 855, 856, 857, 858, 859, 860, 861, 862, 863, 864, 865, 866, 867] (by decide +kernel) (by decide +kernel)
set_option maxRecDepth 20000 in
theorem gL_law_X6_strike : GoodIn wsL_law (wsV RL 144 RX6 yX6_strike wsX6_strike) := goodIn_app (goodIn_of _ (by decide +kernel)) ggL_law_X6_strike
set_option maxRecDepth 20000 in
theorem ggL_law_X5_day : GoodIn wsL_law wsX5_day := goodIn_r _ [372, 33, 819, 820, 821, 822, 823, 824, 825, 826, 827, 828, 829] (by decide +kernel) (by decide +kernel)
set_option maxRecDepth 20000 in
theorem gL_law_X5_day : GoodIn wsL_law (wsV RL 145 RX5 yX5_day wsX5_day) := goodIn_app (goodIn_of _ (by decide +kernel)) ggL_law_X5_day
set_option maxRecDepth 20000 in
theorem ggL_law_X6_day : GoodIn wsL_law wsX6_day := goodIn_r _ [376, 194, 135, 830, 831, 832, 833, 834, 835, 836, 837, 838, 839, 840, 841, 842, 843, 844, 845, 846, 847, 848, 849, 850, 851, 852, 853, 854, 855, 856, 857, 858, 859, 860, 861, 862, 863, 864, 865, 866, 867] (by decide +kernel) (by decide +kernel)
set_option maxRecDepth 20000 in
theorem gL_law_X6_day : GoodIn wsL_law (wsV RL 148 RX6 yX6_day wsX6_day) := goodIn_app (goodIn_of _ (by decide +kernel)) ggL_law_X6_day
set_option maxRecDepth 20000 in
theorem ggL_law_L_actOf : GoodIn wsL_law wsL_actOf := goodIn_ca (goodIn_ca (goodIn_r _ [379, 202, 170, 380, 381, 382, 2, 383, 361, 362, 363, 364, 218, 219, 16, 80, 15, 81, 82, 38, 178, 179, 180, 181, 182, 888, 889, 890, 891, 892, 893, 894, 895, 896, 897, 819, 820, 821, 822, 823, 824, 825, 826, 827, 828, 829, 868, 869, 870] (by decide +kernel) (by decide +kernel)) (goodIn_sub (fun _ h => List.mem_append_right _ h) (by decide +kernel))) (goodIn_sub (fun _ h => List.mem_append_left _ (List.mem_append_right _ h)) (by decide +kernel))
set_option maxRecDepth 20000 in
theorem gL_law_L_actOf : GoodIn wsL_law (va_wsS RL 149 yL_actOf wsL_actOf) := goodIn_app (goodIn_of _ (by decide +kernel)) ggL_law_L_actOf
set_option maxRecDepth 20000 in
theorem ggL_law_X6_actOf : GoodIn wsL_law wsX6_actOf := goodIn_r _ [387, 274, 136, 137, 138, 139, 143, 187, 188, 5, 189, 190, 191, 192, 193, 194, 830, 831, 832, 833, 834, 835, 836, 837, 838, 839, 840, 841, 842, 843, 844, 845, 846, 847, 848, 849, 850, 851, 852, 853, 854, 855, 856, 857, 858, 859, 860, 861, 862, 863, 864, 865, 866, 867] (by decide +kernel) (by decide +kernel)
set_option maxRecDepth 20000 in
theorem gL_law_X6_actOf : GoodIn wsL_law (wsV RL 151 RX6 yX6_actOf wsX6_actOf) := goodIn_app (goodIn_of _ (by decide +kernel)) ggL_law_X6_actOf
set_option maxRecDepth 20000 in
theorem ggL_law_L_asOf : GoodIn wsL_law wsL_asOf := goodIn_ca (goodIn_ca (goodIn_r _ [390, 202, 170, 391, 392, 393, 2, 394, 21, 16, 214, 215, 216, 217, 218, 219, 207, 178, 179, 180, 181, 182, 223, 224, 225, 226, 33, 58, 19, 59, 60, 61, 62, 63, 64, 65, 66, 67, 68, 69, 70, 71, 42, 50, 43, 44, 45, 46, 47, 48, 49, 72, 73, 74, 75, 76, 77, 78, 79, 80, 15, 81, 82, 38, 83, 84, 85, 86, 87, 88, 89, 90, 91, 92, 93, 94, 95, 96, 97, 98, 99, 100, 101, 102, 103, 104, 105, 106, 107, 108, 109, 110, 111, 112, 113, 114, 115, 116, 117, 118, 119, 120, 121, 122, 123, 124, 125, 126, 127, 128, 129, 130, 395, 396, 397, 398, 399, 400, 401, 402, 403, 404, 405, 406, 407, 408, 409, 51, 410, 411, 412, 413, 414, 415, 416, 417, 418, 419, 420, 421, 422, 423, 424, 425, 426, 427, 428, 429, 430, 431, 432, 819, 820, 821, 822, 823, 824, 825, 826, 827, 828, 829, 871, 872, 873, 874, 875, 876, 877, 878, 879, 880, 881, 882, 883, 868, 869, 870, 888, 889, 890, 891, 892, 893, 894, 895, 896, 897] (by decide +kernel) (by decide +kernel)) (goodIn_sub (fun _ h => List.mem_append_right _ h) (by decide +kernel))) (goodIn_sub (fun _ h => List.mem_append_left _ (List.mem_append_right _ h)) (by decide +kernel))
set_option maxRecDepth 20000 in
theorem gL_law_L_asOf : GoodIn wsL_law (va_wsS RL 152 yL_asOf wsL_asOf) := goodIn_app (goodIn_of _ (by decide +kernel)) ggL_law_L_asOf
set_option maxRecDepth 20000 in
theorem ggL_law_X6_asOf : GoodIn wsL_law wsX6_asOf := goodIn_r _ [436, 276, 277, 278, 5, 279, 273, 187, 188, 189, 280, 281, 282, 283, 135, 190, 191, 192, 193, 194, 437, 438, 439, 440, 148, 149, 150, 151, 152, 153, 154, 155, 156, 274, 136, 140, 139, 288, 144, 138, 441, 442, 443, 444, 137, 143, 445, 446, 447, 448, 449, 450, 451, 452, 141, 142, 453, 454, 455, 456, 457, 458, 459, 460, 461, 462, 463, 464, 157, 465, 466, 467, 468, 469, 470, 471, 472, 473, 474, 475, 476, 830, 831, 832, 833, 834, 835, 836, 837, 838, 839, 840, 841, 842, 843, 844, 845, 846, 847, 848, 849, 850, 851, 852, 853, 854, 855, 856, 857, 858, 859, 860, 861, 862, 863, 864, 865, 866, 867] (by decide +kernel) (by decide +kernel)
set_option maxRecDepth 20000 in
theorem gL_law_X6_asOf : GoodIn wsL_law (wsV RL 154 RX6 yX6_asOf wsX6_asOf) := goodIn_app (goodIn_of _ (by decide +kernel)) ggL_law_X6_asOf
set_option maxRecDepth 20000 in
theorem ggL_law_L_now : GoodIn wsL_law wsL_now := goodIn_ca (goodIn_ca (goodIn_r _ [479, 202, 170, 480, 481, 482, 2, 483, 20, 214, 215, 216, 217, 218, 219, 207, 178, 179, 180, 181, 182, 395, 19, 396, 397, 43, 44, 45, 46, 47, 91, 92, 398, 399, 400, 401, 66, 49, 105, 106, 107, 108, 402, 403, 404, 405, 406, 407, 408, 409, 51, 410, 411, 412, 413, 414, 415, 416, 417, 418, 419, 420, 421, 422, 423, 424, 425, 426, 427, 428, 429, 430, 431, 432, 819, 820, 821, 822, 823, 824, 825, 826, 827, 828, 829, 871, 872, 873, 874, 875, 876, 877, 878, 879, 880, 881, 882, 883] (by decide +kernel) (by decide +kernel)) (goodIn_sub (fun _ h => List.mem_append_right _ h) (by decide +kernel))) (goodIn_sub (fun _ h => List.mem_append_left _ (List.mem_append_right _ h)) (by decide +kernel))
set_option maxRecDepth 20000 in
theorem gL_law_L_now : GoodIn wsL_law (va_wsS RL 155 yL_now wsL_now) := goodIn_app (goodIn_of _ (by decide +kernel)) ggL_law_L_now
set_option maxRecDepth 20000 in
theorem ggL_law_X6_now : GoodIn wsL_law wsX6_now := goodIn_r _ [487, 135, 488, 434, 435, 5, 436, 276, 277, 278, 279, 273, 187, 188, 189, 280, 281, 282, 283, 190, 191, 192, 193, 194, 437, 438, 439, 440, 148, 149, 150, 151, 152, 153, 154, 155, 156, 274, 136, 140, 139, 288, 144, 138, 441, 442, 443, 444, 137, 143, 445, 446, 447, 448, 449, 450, 451, 452, 141, 142, 453, 454, 455, 456, 457, 458, 459, 460, 461, 462, 463, 464, 157, 465, 466, 467, 468, 469, 470, 471, 472, 473, 474, 475, 476, 830, 831, 832, 833, 834, 835, 836, 837, 838, 839, 840, 841, 842, 843, 844, 845, 846, 847, 848, 849, 850, 851, 852, 853, 854, 855, 856, 857, 858, 859, 860, 861, 862, 863, 864, 865, 866, 867] (by decide +kernel) (by decide +kernel)
set_option maxRecDepth 20000 in
theorem gL_law_X6_now : GoodIn wsL_law (wsV RL 157 RX6 yX6_now wsX6_now) := goodIn_app (goodIn_of _ (by decide +kernel)) ggL_law_X6_now
set_option maxRecDepth 20000 in
theorem ggL_law_L_households : GoodIn wsL_law wsL_households := goodIn_ca (goodIn_ca (goodIn_r _ [491, 202, 170, 492, 493, 494, 2, 495, 21, 16, 220, 221, 222, 218, 219, 223, 224, 225, 226, 33, 178, 179, 180, 181, 182, 58, 19, 59, 60, 61, 62, 63, 64, 65, 66, 67, 68, 69, 70, 71, 42, 50, 43, 44, 45, 46, 47, 48, 49, 72, 73, 74, 75, 76, 77, 78, 79, 80, 15, 81, 82, 38, 83, 84, 85, 86, 87, 88, 89, 90, 91, 92, 93, 94, 95, 96, 97, 98, 99, 100, 101, 102, 103, 104, 105, 106, 107, 108, 109, 110, 111, 112, 113, 114, 115, 116, 117, 118, 119, 120, 121, 122, 123, 124, 125, 126, 127, 128, 129, 130, 496, 497, 498, 51, 410, 411, 412, 413, 414, 415, 416, 417, 418, 419, 420, 421, 422, 423, 424, 425, 426, 427, 428, 429, 430, 431, 432, 398, 399, 400, 401, 402, 403, 404, 405, 819, 820, 821, 822, 823, 824, 825, 826, 827, 828, 829, 871, 872, 873, 874, 875, 876, 877, 878, 879, 880, 881, 882, 883, 868, 869, 870, 888, 889, 890, 891, 892, 893, 894, 895, 896, 897] (by decide +kernel) (by decide +kernel)) (goodIn_sub (fun _ h => List.mem_append_right _ h) (by decide +kernel))) (goodIn_sub (fun _ h => List.mem_append_left _ (List.mem_append_right _ h)) (by decide +kernel))
set_option maxRecDepth 20000 in
theorem gL_law_L_households : GoodIn wsL_law (va_wsS RL 158 yL_households wsL_households) := goodIn_app (goodIn_of _ (by decide +kernel)) ggL_law_L_households
set_option maxRecDepth 20000 in
theorem ggL_law_X6_households : GoodIn wsL_law wsX6_households := goodIn_r _ [502, 273, 150, 157, 187, 188, 5, 189, 280, 281, 282, 283, 135, 190, 191, 192, 193, 194, 437, 438, 439, 440, 148, 149, 151, 152, 153, 154, 155, 156, 274, 136, 140, 139, 288, 144, 138, 441, 442, 443, 444, 137, 143, 445, 446, 447, 448, 449, 450, 451, 452, 141, 142, 453, 454, 455, 456, 457, 458, 459, 460, 469, 470, 471, 472, 473, 474, 475, 476, 465, 466, 467, 468, 830, 831, 832, 833, 834, 835, 836, 837, 838, 839, 840, 841, 842, 843, 844, 845, 846, 847, 848, 849, 850, 851, 852, 853, 854, 855, 856, 857, 858, 859, 860, 861, 862, 863, 864, 865, 866, 867] (by decide +kernel) (by decide +kernel)
set_option maxRecDepth 20000 in
theorem gL_law_X6_households : GoodIn wsL_law (wsV RL 160 RX6 yX6_households wsX6_households) := goodIn_app (goodIn_of _ (by decide +kernel)) ggL_law_X6_households
set_option maxRecDepth 20000 in
theorem ggL_law_L_money : GoodIn wsL_law wsL_money := goodIn_ca (goodIn_ca (goodIn_r _ [505, 202, 170, 506, 507, 508, 2, 509, 21, 16, 510, 511, 512, 218, 219, 223, 224, 225, 226, 33, 178, 179, 180, 181, 182, 62, 19, 63, 64, 65, 66, 67, 68, 69, 70, 71, 42, 50, 43, 44, 45, 46, 47, 48, 49, 72, 73, 74, 75, 76, 77, 78, 79, 80, 15, 81, 82, 38, 83, 84, 85, 86, 87, 88, 89, 90, 91, 92, 94, 95, 96, 97, 98, 99, 100, 101, 102, 103, 104, 105, 106, 107, 108, 109, 110, 111, 112, 113, 114, 115, 116, 117, 118, 119, 120, 121, 122, 123, 124, 125, 126, 127, 128, 129, 130, 513, 514, 515, 516, 517, 518, 403, 404, 405, 819, 820, 821, 822, 823, 824, 825, 826, 827, 828, 829, 871, 872, 873, 874, 875, 876, 877, 878, 879, 880, 881, 882, 883, 868, 869, 870, 888, 889, 890, 891, 892, 893, 894, 895, 896, 897] (by decide +kernel) (by decide +kernel)) (goodIn_sub (fun _ h => List.mem_append_right _ h) (by decide +kernel))) (goodIn_sub (fun _ h => List.mem_append_left _ (List.mem_append_right _ h)) (by decide +kernel))
set_option maxRecDepth 20000 in
theorem gL_law_L_money : GoodIn wsL_law (va_wsS RL 161 yL_money wsL_money) := goodIn_app (goodIn_of _ (by decide +kernel)) ggL_law_L_money
set_option maxRecDepth 20000 in
theorem ggL_law_X6_money : GoodIn wsL_law wsX6_money := goodIn_r _ [522, 135, 273, 150, 187, 188, 5, 189, 280, 281, 282, 283, 190, 191, 192, 193, 194, 437, 438, 439, 440, 148, 149, 151, 152, 153, 154, 155, 156, 274, 136, 140, 139, 288, 144, 138, 441, 442, 443, 444, 137, 143, 445, 446, 447, 448, 449, 450, 451, 452, 141, 142, 453, 454, 455, 456, 457, 458, 459, 460, 830, 831, 832, 833, 834, 835, 836, 837, 838, 839, 840, 841, 842, 843, 844, 845, 846, 847, 848, 849, 850, 851, 852, 853, 854, 855, 856, 857, 858, 859, 860, 861, 862, 863, 864, 865, 866, 867] (by decide +kernel) (by decide +kernel)
set_option maxRecDepth 20000 in
theorem gL_law_X6_money : GoodIn wsL_law (wsV RL 163 RX6 yX6_money wsX6_money) := goodIn_app (goodIn_of _ (by decide +kernel)) ggL_law_X6_money
set_option maxRecDepth 20000 in
theorem ggL_law_L_changed : GoodIn wsL_law wsL_changed := goodIn_ca (goodIn_r _ [525, 170, 526, 527, 528, 2, 529, 21, 16, 22, 207, 223, 224, 225, 226, 33, 178, 179, 180, 181, 182, 58, 19, 59, 60, 61, 62, 63, 64, 65, 66, 67, 68, 69, 70, 71, 42, 50, 43, 44, 45, 46, 47, 48, 49, 72, 73, 74, 75, 76, 77, 78, 79, 80, 15, 81, 82, 38, 83, 84, 85, 86, 87, 88, 89, 90, 91, 92, 93, 94, 95, 96, 97, 98, 99, 100, 101, 102, 103, 104, 105, 106, 107, 108, 109, 110, 111, 112, 113, 114, 115, 116, 117, 118, 119, 120, 121, 122, 123, 124, 125, 126, 127, 128, 129, 130, 530, 531, 532, 819, 820, 821, 822, 823, 824, 825, 826, 827, 828, 829, 871, 872, 873, 874, 875, 876, 877, 878, 879, 880, 881, 882, 883, 868, 869, 870, 888, 889, 890, 891, 892, 893, 894, 895, 896, 897] (by decide +kernel) (by decide +kernel)) (goodIn_sub (fun _ h => List.mem_append_left _ (List.mem_append_right _ h)) (by decide +kernel))
set_option maxRecDepth 20000 in
theorem gL_law_L_changed : GoodIn wsL_law (va_wsS RL 164 yL_changed wsL_changed) := goodIn_app (goodIn_of _ (by decide +kernel)) ggL_law_L_changed
set_option maxRecDepth 20000 in
theorem ggL_law_X6_changed : GoodIn wsL_law wsX6_changed := goodIn_r _ [536, 273, 158, 280, 281, 282, 5, 283, 135, 187, 188, 189, 190, 191, 192, 193, 194, 437, 438, 439, 440, 148, 149, 150, 151, 152, 153, 154, 155, 156, 274, 136, 140, 139, 288, 144, 138, 441, 442, 443, 444, 137, 143, 445, 446, 447, 448, 449, 450, 451, 452, 141, 142, 453, 454, 455, 456, 457, 458, 459, 460, 461, 462, 463, 464, 157, 465, 466, 467, 468, 469, 470, 471, 472, 473, 474, 475, 476, 830, 831, 832, 833, 834, 835, 836, 837, 838, 839, 840, 841, 842, 843, 844, 845, 846, 847, 848, 849, 850, 851, 852, 853, 854, 855, 856, 857, 858, 859, 860, 861, 862, 863, 864, 865, 866, 867] (by decide +kernel) (by decide +kernel)
set_option maxRecDepth 20000 in
theorem gL_law_X6_changed : GoodIn wsL_law (wsV RL 166 RX6 yX6_changed wsX6_changed) := goodIn_app (goodIn_of _ (by decide +kernel)) ggL_law_X6_changed
set_option maxRecDepth 20000 in
theorem ggL_law_L_origin : GoodIn wsL_law wsL_origin := goodIn_ca (goodIn_r _ [539, 202, 540, 541, 542, 2, 543, 20, 214, 215, 216, 217, 218, 219, 207, 210, 211, 212, 213, 544, 19, 545, 546, 42, 50, 47, 48, 91, 92, 547, 548, 819, 820, 821, 822, 823, 824, 825, 826, 827, 828, 829, 871, 872, 873, 874, 875, 876, 877, 878, 879, 880, 881, 882, 883] (by decide +kernel) (by decide +kernel)) (goodIn_sub (fun _ h => List.mem_append_right _ h) (by decide +kernel))
set_option maxRecDepth 20000 in
theorem gL_law_L_origin : GoodIn wsL_law (va_wsS RL 167 yL_origin wsL_origin) := goodIn_app (goodIn_of _ (by decide +kernel)) ggL_law_L_origin
set_option maxRecDepth 20000 in
theorem ggL_law_X6_origin : GoodIn wsL_law wsX6_origin := goodIn_r _ [552, 135, 153, 156, 155, 276, 277, 278, 5, 279, 273, 187, 188, 189, 190, 191, 192, 193, 194, 437, 438, 439, 440, 148, 149, 150, 151, 152, 154, 274, 136, 140, 139, 288, 144, 138, 441, 442, 443, 444, 137, 143, 445, 446, 447, 448, 449, 450, 451, 452, 141, 142, 453, 454, 455, 456, 457, 458, 459, 460, 553, 554, 555, 556, 830, 831, 832, 833, 834, 835, 836, 837, 838, 839, 840, 841, 842, 843, 844, 845, 846, 847, 848, 849, 850, 851, 852, 853, 854, 855, 856, 857, 858, 859, 860, 861, 862, 863, 864, 865, 866, 867] (by decide +kernel) (by decide +kernel)
set_option maxRecDepth 20000 in
theorem gL_law_X6_origin : GoodIn wsL_law (wsV RL 169 RX6 yX6_origin wsX6_origin) := goodIn_app (goodIn_of _ (by decide +kernel)) ggL_law_X6_origin
set_option maxRecDepth 20000 in
theorem ggL_law_L_likeness : GoodIn wsL_law wsL_likeness := goodIn_ca (goodIn_ca (goodIn_r _ [559, 202, 170, 560, 561, 562, 2, 563, 20, 214, 215, 216, 217, 218, 219, 207, 325, 326, 327, 181, 182, 564, 19, 565, 566, 49, 567, 568, 424, 569, 45, 570, 571, 572, 573, 43, 91, 92, 414, 415, 416, 417, 44, 105, 106, 107, 108, 819, 820, 821, 822, 823, 824, 825, 826, 827, 828, 829, 871, 872, 873, 874, 875, 876, 877, 878, 879, 880, 881, 882, 883] (by decide +kernel) (by decide +kernel)) (goodIn_sub (fun _ h => List.mem_append_right _ h) (by decide +kernel))) (goodIn_sub (fun _ h => List.mem_append_left _ (List.mem_append_right _ h)) (by decide +kernel))
set_option maxRecDepth 20000 in
theorem gL_law_L_likeness : GoodIn wsL_law (va_wsS RL 170 yL_likeness wsL_likeness) := goodIn_app (goodIn_of _ (by decide +kernel)) ggL_law_L_likeness
set_option maxRecDepth 20000 in
theorem ggL_law_X6_likeness : GoodIn wsL_law wsX6_likeness := goodIn_r _ [577, 135, 276, 277, 278, 5, 279, 273, 187, 188, 189, 190, 191, 192, 193, 194, 437, 438, 439, 440, 148, 149, 150, 151, 152, 153, 154, 155, 156, 274, 136, 140, 139, 288, 144, 138, 441, 442, 443, 444, 137, 143, 445, 446, 447, 448, 449, 450, 451, 452, 141, 142, 453, 454, 455, 456, 457, 458, 459, 460, 578, 579, 580, 581, 553, 554, 555, 556, 830, 831, 832, 833, 834, 835, 836, 837, 838, 839, 840, 841, 842, 843, 844, 845, 846, 847, 848, 849, 850, 851, 852, 853, 854, 855, 856, 857, 858, 859, 860, 861, 862, 863, 864, 865, 866, 867] (by decide +kernel) (by decide +kernel)
set_option maxRecDepth 20000 in
theorem gL_law_X6_likeness : GoodIn wsL_law (wsV RL 172 RX6 yX6_likeness wsX6_likeness) := goodIn_app (goodIn_of _ (by decide +kernel)) ggL_law_X6_likeness
set_option maxRecDepth 20000 in
theorem ggL_law_L_doubleOf : GoodIn wsL_law wsL_doubleOf := goodIn_ca (goodIn_r _ [584, 202, 585, 586, 587, 2, 588, 207, 20, 214, 215, 216, 217, 218, 219, 564, 19, 565, 566, 49, 567, 568, 424, 569, 45, 570, 571, 572, 573, 43, 91, 92, 414, 415, 416, 417, 44, 105, 106, 107, 108, 819, 820, 821, 822, 823, 824, 825, 826, 827, 828, 829, 871, 872, 873, 874, 875, 876, 877, 878, 879, 880, 881, 882, 883] (by decide +kernel) (by decide +kernel)) (goodIn_sub (fun _ h => List.mem_append_right _ h) (by decide +kernel))
set_option maxRecDepth 20000 in
theorem gL_law_L_doubleOf : GoodIn wsL_law (va_wsS RL 173 yL_doubleOf wsL_doubleOf) := goodIn_app (goodIn_of _ (by decide +kernel)) ggL_law_L_doubleOf
set_option maxRecDepth 20000 in
theorem ggL_law_X6_doubleOf : GoodIn wsL_law wsX6_doubleOf := goodIn_r _ [592, 135, 273, 276, 277, 278, 5, 279, 187, 188, 189, 190, 191, 192, 193, 194, 437, 438, 439, 440, 148, 149, 150, 151, 152, 153, 154, 155, 156, 274, 136, 140, 139, 288, 144, 138, 441, 442, 443, 444, 137, 143, 445, 446, 447, 448, 449, 450, 451, 452, 141, 142, 453, 454, 455, 456, 457, 458, 459, 460, 578, 579, 580, 581, 553, 554, 555, 556, 830, 831, 832, 833, 834, 835, 836, 837, 838, 839, 840, 841, 842, 843, 844, 845, 846, 847, 848, 849, 850, 851, 852, 853, 854, 855, 856, 857, 858, 859, 860, 861, 862, 863, 864, 865, 866, 867] (by decide +kernel) (by decide +kernel)
set_option maxRecDepth 20000 in
theorem gL_law_X6_doubleOf : GoodIn wsL_law (wsV RL 175 RX6 yX6_doubleOf wsX6_doubleOf) := goodIn_app (goodIn_of _ (by decide +kernel)) ggL_law_X6_doubleOf
set_option maxRecDepth 20000 in
theorem ggL_law_L_renumber : GoodIn wsL_law wsL_renumber := goodIn_ca (goodIn_ca (goodIn_r _ [595, 202, 171, 596, 597, 598, 2, 599, 26, 214, 215, 216, 217, 218, 219, 207, 231, 232, 233, 234, 176, 177, 235, 25, 236, 237, 55, 238, 56, 239, 240, 241, 242, 57, 243, 244, 245, 89, 90, 819, 820, 821, 822, 823, 824, 825, 826, 827, 828, 829, 884, 885, 886, 887] (by decide +kernel) (by decide +kernel)) (goodIn_sub (fun _ h => List.mem_append_right _ h) (by decide +kernel))) (goodIn_sub (fun _ h => List.mem_append_left _ (List.mem_append_left _ (List.mem_append_right _ h))) (by decide +kernel))
set_option maxRecDepth 20000 in
theorem gL_law_L_renumber : GoodIn wsL_law (va_wsS RL 176 yL_renumber wsL_renumber) := goodIn_app (goodIn_of _ (by decide +kernel)) ggL_law_L_renumber
set_option maxRecDepth 20000 in
theorem ggL_law_X6_renumber : GoodIn wsL_law wsX6_renumber := goodIn_r _ [603, 275, 276, 277, 278, 5, 279, 273, 187, 188, 189, 190, 191, 192, 193, 194, 289, 290, 291, 292, 145, 146, 147, 293, 294, 295, 830, 831, 832, 833, 834, 835, 836, 837, 838, 839, 840, 841, 842, 843, 844, 845, 846, 847, 848, 849, 850, 851, 852, 853, 854, 855, 856, 857, 858, 859, 860, 861, 862, 863, 864, 865, 866, 867] (by decide +kernel) (by decide +kernel)
set_option maxRecDepth 20000 in
theorem gL_law_X6_renumber : GoodIn wsL_law (wsV RL 178 RX6 yX6_renumber wsX6_renumber) := goodIn_app (goodIn_of _ (by decide +kernel)) ggL_law_X6_renumber
set_option maxRecDepth 20000 in
theorem ggL_law_L_number : GoodIn wsL_law wsL_number := goodIn_ca (goodIn_r _ [606, 202, 607, 608, 609, 2, 610, 26, 214, 215, 216, 217, 218, 219, 207, 611, 25, 612, 613, 238, 56, 55, 91, 92, 819, 820, 821, 822, 823, 824, 825, 826, 827, 828, 829, 884, 885, 886, 887] (by decide +kernel) (by decide +kernel)) (goodIn_sub (fun _ h => List.mem_append_right _ h) (by decide +kernel))
set_option maxRecDepth 20000 in
theorem gL_law_L_number : GoodIn wsL_law (va_wsS RL 179 yL_number wsL_number) := goodIn_app (goodIn_of _ (by decide +kernel)) ggL_law_L_number
set_option maxRecDepth 20000 in
theorem ggL_law_X6_number : GoodIn wsL_law wsX6_number := goodIn_r _ [617, 275, 147, 146, 276, 277, 278, 5, 279, 273, 187, 188, 189, 190, 191, 192, 193, 194, 830, 831, 832, 833, 834, 835, 836, 837, 838, 839, 840, 841, 842, 843, 844, 845, 846, 847, 848, 849, 850, 851, 852, 853, 854, 855, 856, 857, 858, 859, 860, 861, 862, 863, 864, 865, 866, 867] (by decide +kernel) (by decide +kernel)
set_option maxRecDepth 20000 in
theorem gL_law_X6_number : GoodIn wsL_law (wsV RL 181 RX6 yX6_number wsX6_number) := goodIn_app (goodIn_of _ (by decide +kernel)) ggL_law_X6_number
set_option maxRecDepth 20000 in
theorem ggL_law_L_bearer : GoodIn wsL_law wsL_bearer := goodIn_ca (goodIn_r _ [620, 170, 621, 622, 623, 2, 624, 181, 182, 625, 26, 178, 179, 180, 626, 25, 627, 243, 244, 245, 628, 629, 630, 238, 55, 56, 91, 92, 819, 820, 821, 822, 823, 824, 825, 826, 827, 828, 829, 884, 885, 886, 887] (by decide +kernel) (by decide +kernel)) (goodIn_sub (fun _ h => List.mem_append_left _ (List.mem_append_right _ h)) (by decide +kernel))
set_option maxRecDepth 20000 in
theorem gL_law_L_bearer : GoodIn wsL_law (va_wsS RL 182 yL_bearer wsL_bearer) := goodIn_app (goodIn_of _ (by decide +kernel)) ggL_law_L_bearer
set_option maxRecDepth 20000 in
theorem ggL_law_X6_bearer : GoodIn wsL_law wsX6_bearer := goodIn_r _ [634, 635, 275, 146, 147, 187, 188, 5, 189, 293, 294, 295, 190, 191, 192, 193, 194, 830, 831, 832, 833, 834, 835, 836, 837, 838, 839, 840, 841, 842, 843, 844, 845, 846, 847, 848, 849, 850, 851, 852, 853, 854, 855, 856, 857, 858, 859, 860, 861, 862, 863, 864, 865, 866, 867] (by decide +kernel) (by decide +kernel)
set_option maxRecDepth 20000 in
theorem gL_law_X6_bearer : GoodIn wsL_law (wsV RL 184 RX6 yX6_bearer wsX6_bearer) := goodIn_app (goodIn_of _ (by decide +kernel)) ggL_law_X6_bearer
set_option maxRecDepth 20000 in
theorem ggL_law_L_roll : GoodIn wsL_law wsL_roll := goodIn_ca (goodIn_ca (goodIn_ca (goodIn_r _ [638, 202, 170, 171, 639, 640, 641, 2, 642, 176, 177, 643, 28, 27, 644, 645, 510, 511, 512, 218, 219, 178, 179, 180, 181, 182, 646, 647, 648, 11, 12, 31, 649, 650, 651, 652, 653, 73, 74, 75, 819, 820, 821, 822, 823, 824, 825, 826, 827, 828, 829, 898, 899, 900, 901, 902] (by decide +kernel) (by decide +kernel)) (goodIn_sub (fun _ h => List.mem_append_left _ (List.mem_append_left _ (List.mem_append_right _ h))) (by decide +kernel))) (goodIn_sub (fun _ h => List.mem_append_right _ h) (by decide +kernel))) (goodIn_sub (fun _ h => List.mem_append_left _ (List.mem_append_right _ h)) (by decide +kernel))
set_option maxRecDepth 20000 in
theorem gL_law_L_roll : GoodIn wsL_law (va_wsS RL 185 yL_roll wsL_roll) := goodIn_app (goodIn_of _ (by decide +kernel)) ggL_law_L_roll
set_option maxRecDepth 20000 in
theorem ggL_law_X6_roll : GoodIn wsL_law wsX6_roll := goodIn_r _ [657, 658, 159, 160, 187, 188, 5, 189, 190, 191, 192, 193, 194, 830, 831, 832, 833, 834, 835, 836, 837, 838, 839, 840, 841, 842, 843, 844, 845, 846, 847, 848, 849, 850, 851, 852, 853, 854, 855, 856, 857, 858, 859, 860, 861, 862, 863, 864, 865, 866, 867] (by decide +kernel) (by decide +kernel)
set_option maxRecDepth 20000 in
theorem gL_law_X6_roll : GoodIn wsL_law (wsV RL 187 RX6 yX6_roll wsX6_roll) := goodIn_app (goodIn_of _ (by decide +kernel)) ggL_law_X6_roll
set_option maxRecDepth 20000 in
theorem ggL_law_L_deliver : GoodIn wsL_law wsL_deliver := goodIn_ca (goodIn_r _ [661, 202, 662, 663, 664, 2, 665, 207, 666, 667, 668, 669, 218, 219, 28, 670, 671, 672, 673, 20, 674, 91, 92, 675, 676, 677, 678, 106, 19, 107, 108, 43, 399, 400, 401, 66, 49, 105, 402, 403, 404, 405, 679, 680, 681, 44, 682, 516, 517, 518, 683, 645, 684, 685, 686, 687, 688, 650, 649, 689, 690, 691, 692, 693, 423, 424, 425, 694, 695, 74, 696, 697, 698, 699, 700, 701, 702, 31, 703, 704, 705, 706, 707, 89, 90, 708, 709, 710, 711, 712, 713, 819, 820, 821, 822, 823, 824, 825, 826, 827, 828, 829, 898, 899, 900, 901, 902, 871, 872, 873, 874, 875, 876, 877, 878, 879, 880, 881, 882, 883] (by decide +kernel) (by decide +kernel)) (goodIn_sub (fun _ h => List.mem_append_right _ h) (by decide +kernel))
set_option maxRecDepth 20000 in
theorem gL_law_L_deliver : GoodIn wsL_law (va_wsS RL 188 yL_deliver wsL_deliver) := goodIn_app (goodIn_of _ (by decide +kernel)) ggL_law_L_deliver
set_option maxRecDepth 20000 in
theorem ggL_law_X6_deliver : GoodIn wsL_law wsX6_deliver := goodIn_r _ [717, 718, 719, 720, 5, 721, 658, 187, 188, 189, 190, 191, 192, 193, 194, 722, 723, 724, 725, 135, 273, 163, 726, 162, 161, 150, 437, 438, 439, 440, 148, 149, 151, 152, 153, 154, 155, 156, 274, 136, 140, 139, 288, 144, 138, 441, 442, 443, 444, 137, 143, 445, 446, 447, 448, 449, 450, 451, 452, 141, 142, 453, 454, 455, 456, 457, 458, 459, 460, 727, 728, 729, 730, 731, 732, 733, 734, 159, 160, 465, 466, 467, 468, 830, 831, 832, 833, 834, 835, 836, 837, 838, 839, 840, 841, 842, 843, 844, 845, 846, 847, 848, 849, 850, 851, 852, 853, 854, 855, 856, 857, 858, 859, 860, 861, 862, 863, 864, 865, 866, 867] (by decide +kernel) (by decide +kernel)
set_option maxRecDepth 20000 in
theorem gL_law_X6_deliver : GoodIn wsL_law (wsV RL 190 RX6 yX6_deliver wsX6_deliver) := goodIn_app (goodIn_of _ (by decide +kernel)) ggL_law_X6_deliver
set_option maxRecDepth 20000 in
theorem ggL_law_L_owes : GoodIn wsL_law wsL_owes := goodIn_ca (goodIn_r _ [737, 202, 738, 739, 740, 2, 741, 207, 666, 667, 668, 669, 218, 219, 28, 670, 671, 672, 673, 20, 674, 91, 92, 675, 676, 677, 678, 106, 19, 107, 108, 43, 399, 400, 401, 66, 49, 105, 402, 403, 404, 405, 679, 680, 681, 44, 682, 516, 517, 518, 683, 645, 684, 819, 820, 821, 822, 823, 824, 825, 826, 827, 828, 829, 898, 899, 900, 901, 902, 871, 872, 873, 874, 875, 876, 877, 878, 879, 880, 881, 882, 883] (by decide +kernel) (by decide +kernel)) (goodIn_sub (fun _ h => List.mem_append_right _ h) (by decide +kernel))
set_option maxRecDepth 20000 in
theorem gL_law_L_owes : GoodIn wsL_law (va_wsS RL 191 yL_owes wsL_owes) := goodIn_app (goodIn_of _ (by decide +kernel)) ggL_law_L_owes
set_option maxRecDepth 20000 in
theorem ggL_law_X6_owes : GoodIn wsL_law wsX6_owes := goodIn_r _ [745, 718, 719, 720, 5, 721, 658, 187, 188, 189, 190, 191, 192, 193, 194, 722, 723, 724, 725, 135, 273, 163, 726, 162, 161, 150, 437, 438, 439, 440, 148, 149, 151, 152, 153, 154, 155, 156, 274, 136, 140, 139, 288, 144, 138, 441, 442, 443, 444, 137, 143, 445, 446, 447, 448, 449, 450, 451, 452, 141, 142, 453, 454, 455, 456, 457, 458, 459, 460, 727, 728, 729, 730, 731, 732, 733, 734, 159, 160, 465, 466, 467, 468, 830, 831, 832, 833, 834, 835, 836, 837, 838, 839, 840, 841, 842, 843, 844, 845, 846, 847, 848, 849, 850, 851, 852, 853, 854, 855, 856, 857, 858, 859, 860, 861, 862, 863, 864, 865, 866, 867] (by decide +kernel) (by decide +kernel)
set_option maxRecDepth 20000 in
theorem gL_law_X6_owes : GoodIn wsL_law (wsV RL 193 RX6 yX6_owes wsX6_owes) := goodIn_app (goodIn_of _ (by decide +kernel)) ggL_law_X6_owes
set_option maxRecDepth 20000 in
theorem ggL_law_L_message : GoodIn wsL_law wsL_message := goodIn_ca (goodIn_r _ [748, 202, 749, 750, 751, 2, 752, 218, 219, 666, 667, 668, 669, 28, 674, 91, 92, 898, 899, 900, 901, 902, 819, 820, 821, 822, 823, 824, 825, 826, 827, 828, 829] (by decide +kernel) (by decide +kernel)) (goodIn_sub (fun _ h => List.mem_append_right _ h) (by decide +kernel))
set_option maxRecDepth 20000 in
theorem gL_law_L_message : GoodIn wsL_law (va_wsS RL 194 yL_message wsL_message) := goodIn_app (goodIn_of _ (by decide +kernel)) ggL_law_L_message
set_option maxRecDepth 20000 in
theorem ggL_law_X6_message : GoodIn wsL_law wsX6_message := goodIn_r _ [756, 726, 162, 163, 718, 719, 720, 5, 721, 658, 187, 188, 189, 190, 191, 192, 193, 194, 830, 831, 832, 833, 834, 835, 836, 837, 838, 839, 840, 841, 842, 843, 844, 845, 846, 847, 848, 849, 850, 851, 852, 853, 854, 855, 856, 857, 858, 859, 860, 861, 862, 863, 864, 865, 866, 867] (by decide +kernel) (by decide +kernel)
set_option maxRecDepth 20000 in
theorem gL_law_X6_message : GoodIn wsL_law (wsV RL 196 RX6 yX6_message wsX6_message) := goodIn_app (goodIn_of _ (by decide +kernel)) ggL_law_X6_message
set_option maxRecDepth 20000 in
theorem ggL_law_L_holds : GoodIn wsL_law wsL_holds := goodIn_ca (goodIn_r _ [759, 202, 760, 761, 762, 2, 763, 666, 667, 668, 669, 218, 219, 28, 214, 215, 216, 217, 207, 674, 91, 92, 898, 899, 900, 901, 902, 819, 820, 821, 822, 823, 824, 825, 826, 827, 828, 829] (by decide +kernel) (by decide +kernel)) (goodIn_sub (fun _ h => List.mem_append_right _ h) (by decide +kernel))
set_option maxRecDepth 20000 in
theorem gL_law_L_holds : GoodIn wsL_law (va_wsS RL 197 yL_holds wsL_holds) := goodIn_app (goodIn_of _ (by decide +kernel)) ggL_law_L_holds
set_option maxRecDepth 20000 in
theorem ggL_law_X6_holds : GoodIn wsL_law wsX6_holds := goodIn_r _ [767, 161, 718, 719, 720, 5, 721, 658, 187, 188, 189, 276, 277, 278, 279, 273, 190, 191, 192, 193, 194, 830, 831, 832, 833, 834, 835, 836, 837, 838, 839, 840, 841, 842, 843, 844, 845, 846, 847, 848, 849, 850, 851, 852, 853, 854, 855, 856, 857, 858, 859, 860, 861, 862, 863, 864, 865, 866, 867] (by decide +kernel) (by decide +kernel)
set_option maxRecDepth 20000 in
theorem gL_law_X6_holds : GoodIn wsL_law (wsV RL 199 RX6 yX6_holds wsX6_holds) := goodIn_app (goodIn_of _ (by decide +kernel)) ggL_law_X6_holds
set_option maxRecDepth 20000 in
theorem ggL_law_L_holdsAnew : GoodIn wsL_law wsL_holdsAnew := goodIn_ca (goodIn_r _ [770, 202, 771, 772, 773, 2, 774, 666, 667, 668, 669, 218, 219, 28, 214, 215, 216, 217, 207, 775, 645, 776, 777, 688, 650, 91, 92, 708, 709, 710, 711, 712, 713, 819, 820, 821, 822, 823, 824, 825, 826, 827, 828, 829, 898, 899, 900, 901, 902] (by decide +kernel) (by decide +kernel)) (goodIn_sub (fun _ h => List.mem_append_right _ h) (by decide +kernel))
set_option maxRecDepth 20000 in
theorem gL_law_L_holdsAnew : GoodIn wsL_law (va_wsS RL 200 yL_holdsAnew wsL_holdsAnew) := goodIn_app (goodIn_of _ (by decide +kernel)) ggL_law_L_holdsAnew
set_option maxRecDepth 20000 in
theorem ggL_law_X6_holdsAnew : GoodIn wsL_law wsX6_holdsAnew := goodIn_r _ [781, 782, 765, 766, 5, 767, 161, 718, 719, 720, 721, 658, 187, 188, 189, 276, 277, 278, 279, 273, 190, 191, 192, 193, 194, 830, 831, 832, 833, 834, 835, 836, 837, 838, 839, 840, 841, 842, 843, 844, 845, 846, 847, 848, 849, 850, 851, 852, 853, 854, 855, 856, 857, 858, 859, 860, 861, 862, 863, 864, 865, 866, 867] (by decide +kernel) (by decide +kernel)
set_option maxRecDepth 20000 in
theorem gL_law_X6_holdsAnew : GoodIn wsL_law (wsV RL 202 RX6 yX6_holdsAnew wsX6_holdsAnew) := goodIn_app (goodIn_of _ (by decide +kernel)) ggL_law_X6_holdsAnew
set_option maxRecDepth 20000 in
theorem ggL_law_L_bar : GoodIn wsL_law wsL_bar := goodIn_ca (goodIn_r _ [785, 202, 786, 787, 788, 2, 789, 30, 214, 215, 216, 217, 218, 219, 207, 790, 547, 548, 791, 129, 130, 819, 820, 821, 822, 823, 824, 825, 826, 827, 828, 829] (by decide +kernel) (by decide +kernel)) (goodIn_sub (fun _ h => List.mem_append_right _ h) (by decide +kernel))
set_option maxRecDepth 20000 in
theorem gL_law_L_bar : GoodIn wsL_law (va_wsS RL 203 yL_bar wsL_bar) := goodIn_app (goodIn_of _ (by decide +kernel)) ggL_law_L_bar
set_option maxRecDepth 20000 in
theorem ggL_law_X6_bar : GoodIn wsL_law wsX6_bar := goodIn_r _ [795, 164, 276, 277, 278, 5, 279, 273, 187, 188, 189, 190, 191, 192, 193, 194, 830, 831, 832, 833, 834, 835, 836, 837, 838, 839, 840, 841, 842, 843, 844, 845, 846, 847, 848, 849, 850, 851, 852, 853, 854, 855, 856, 857, 858, 859, 860, 861, 862, 863, 864, 865, 866, 867] (by decide +kernel) (by decide +kernel)
set_option maxRecDepth 20000 in
theorem gL_law_X6_bar : GoodIn wsL_law (wsV RL 206 RX6 yX6_bar wsX6_bar) := goodIn_app (goodIn_of _ (by decide +kernel)) ggL_law_X6_bar
set_option maxRecDepth 20000 in
theorem ggL_law_L_look : GoodIn wsL_law wsL_look := goodIn_ca (goodIn_ca (goodIn_r _ [798, 202, 170, 799, 800, 801, 2, 802, 32, 30, 20, 214, 215, 216, 217, 218, 219, 207, 178, 179, 180, 181, 182, 674, 91, 92, 803, 89, 90, 790, 547, 548, 679, 19, 680, 681, 44, 819, 820, 821, 822, 823, 824, 825, 826, 827, 828, 829, 871, 872, 873, 874, 875, 876, 877, 878, 879, 880, 881, 882, 883] (by decide +kernel) (by decide +kernel)) (goodIn_sub (fun _ h => List.mem_append_right _ h) (by decide +kernel))) (goodIn_sub (fun _ h => List.mem_append_left _ (List.mem_append_right _ h)) (by decide +kernel))
set_option maxRecDepth 20000 in
theorem gL_law_L_look : GoodIn wsL_law (va_wsS RL 207 yL_look wsL_look) := goodIn_app (goodIn_of _ (by decide +kernel)) ggL_law_L_look
set_option maxRecDepth 20000 in
theorem ggL_law_X6_look : GoodIn wsL_law wsX6_look := goodIn_r _ [807, 165, 135, 164, 150, 276, 277, 278, 5, 279, 273, 187, 188, 189, 190, 191, 192, 193, 194, 437, 438, 439, 440, 148, 149, 151, 152, 153, 154, 155, 156, 274, 136, 140, 139, 288, 144, 138, 441, 442, 443, 444, 137, 143, 445, 446, 447, 448, 449, 450, 451, 452, 141, 142, 453, 454, 455, 456, 457, 458, 459, 460, 830, 831, 832, 833, 834, 835, 836, 837, 838, 839, 840, 841, 842, 843, 844, 845, 846, 847, 848, 849, 850, 851, 852, 853, 854, 855, 856, 857, 858, 859, 860, 861, 862, 863, 864, 865, 866, 867] (by decide +kernel) (by decide +kernel)
set_option maxRecDepth 20000 in
theorem gL_law_X6_look : GoodIn wsL_law (wsV RL 209 RX6 yX6_look wsX6_look) := goodIn_app (goodIn_of _ (by decide +kernel)) ggL_law_X6_look
set_option maxRecDepth 20000 in
theorem ggL_law_L_looks : GoodIn wsL_law wsL_looks := goodIn_ca (goodIn_r _ [810, 202, 811, 812, 813, 2, 814, 32, 214, 215, 216, 217, 218, 219, 207, 674, 91, 92, 819, 820, 821, 822, 823, 824, 825, 826, 827, 828, 829] (by decide +kernel) (by decide +kernel)) (goodIn_sub (fun _ h => List.mem_append_right _ h) (by decide +kernel))
set_option maxRecDepth 20000 in
theorem gL_law_L_looks : GoodIn wsL_law (va_wsS RL 210 yL_looks wsL_looks) := goodIn_app (goodIn_of _ (by decide +kernel)) ggL_law_L_looks
set_option maxRecDepth 20000 in
theorem ggL_law_X6_looks : GoodIn wsL_law wsX6_looks := goodIn_r _ [818, 165, 276, 277, 278, 5, 279, 273, 187, 188, 189, 190, 191, 192, 193, 194, 830, 831, 832, 833, 834, 835, 836, 837, 838, 839, 840, 841, 842, 843, 844, 845, 846, 847, 848, 849, 850, 851, 852, 853, 854, 855, 856, 857, 858, 859, 860, 861, 862, 863, 864, 865, 866, 867] (by decide +kernel) (by decide +kernel)
set_option maxRecDepth 20000 in
theorem gL_law_X6_looks : GoodIn wsL_law (wsV RL 212 RX6 yX6_looks wsX6_looks) := goodIn_app (goodIn_of _ (by decide +kernel)) ggL_law_X6_looks
