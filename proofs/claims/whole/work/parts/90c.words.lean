/-! ===== the law's words among the tables, cut small ===== -/
theorem in_app {a b t : List Cond} (ha : ∀ w ∈ a, w ∈ t) (hb : ∀ w ∈ b, w ∈ t) : ∀ w ∈ a ++ b, w ∈ t := fun w h => (List.mem_append.mp h).elim (ha w) (hb w)
set_option maxRecDepth 20000 in
theorem lw_in1 : ∀ w ∈ wsL_law0_r1, w ∈ lw_tbl := fun w h => (goodIn_r (big := lw_tbl) wsL_law0_r1 [87, 88, 71, 907, 908, 76, 1245, 89, 90, 91, 92, 93, 94, 95, 96, 72, 259, 116, 117, 73, 260, 261, 262, 164] (by decide +kernel) (by decide +kernel) w h).1
set_option maxRecDepth 20000 in
theorem lw_in2 : ∀ w ∈ wsL_law0_r2, w ∈ lw_tbl := fun w h => (goodIn_r (big := lw_tbl) wsL_law0_r2 [165, 74, 263, 184, 264, 163, 265, 162, 266, 267, 98, 99, 100, 101, 103, 119, 120, 121, 122, 123, 124, 125, 126, 127] (by decide +kernel) (by decide +kernel) w h).1
set_option maxRecDepth 20000 in
theorem lw_in3 : ∀ w ∈ wsL_law0_r3, w ∈ lw_tbl := fun w h => (goodIn_r (big := lw_tbl) wsL_law0_r3 [128, 129, 130, 131, 167, 168, 169, 170, 171, 174, 188, 0, 189, 190, 192, 1, 193, 133, 132, 134, 194, 196, 2, 197] (by decide +kernel) (by decide +kernel) w h).1
set_option maxRecDepth 20000 in
theorem lw_in4 : ∀ w ∈ wsL_law0_r4, w ∈ lw_tbl := fun w h => (goodIn_r (big := lw_tbl) wsL_law0_r4 [198, 199, 75, 200, 201, 203, 3, 204, 207, 4, 208, 211, 83, 5, 213, 465, 485, 215, 216, 218, 219, 220, 222, 6] (by decide +kernel) (by decide +kernel) w h).1
set_option maxRecDepth 20000 in
theorem lw_in5 : ∀ w ∈ wsL_law0_r5, w ∈ lw_tbl := fun w h => (goodIn_r (big := lw_tbl) wsL_law0_r5 [223, 224, 226, 7, 227, 228, 230, 8, 231, 232, 234, 9, 235, 236, 238, 10, 239, 240, 242, 11, 243, 244, 246, 12] (by decide +kernel) (by decide +kernel) w h).1
set_option maxRecDepth 20000 in
theorem lw_in6 : ∀ w ∈ wsL_law0_r6, w ∈ lw_tbl := fun w h => (goodIn_r (big := lw_tbl) wsL_law0_r6 [247, 248, 250, 13, 251, 252, 254, 14, 255, 257, 258, 909, 910, 911, 912, 914, 916, 917, 918, 919, 920, 921, 922, 923] (by decide +kernel) (by decide +kernel) w h).1
set_option maxRecDepth 20000 in
theorem lw_in7 : ∀ w ∈ wsL_law0_r7, w ∈ lw_tbl := fun w h => (goodIn_r (big := lw_tbl) wsL_law0_r7 [925, 928, 929, 930, 931, 932, 933, 934, 935, 936, 937, 938, 939, 940, 941, 943, 944, 945, 947, 948, 949, 950, 297, 298] (by decide +kernel) (by decide +kernel) w h).1
set_option maxRecDepth 20000 in
theorem lw_in8 : ∀ w ∈ wsL_law0_r8, w ∈ lw_tbl := fun w h => (goodIn_r (big := lw_tbl) wsL_law0_r8 [70, 299, 300, 301, 302, 303, 304, 305, 377, 81, 306, 307, 308, 309, 80, 1032, 1033, 1034, 1035, 1036, 1037, 1038, 1039, 1041] (by decide +kernel) (by decide +kernel) w h).1
set_option maxRecDepth 20000 in
theorem lw_in9 : ∀ w ∈ wsL_law0_r9, w ∈ lw_tbl := fun w h => (goodIn_r (big := lw_tbl) wsL_law0_r9 [49, 1042, 913, 1028, 1029, 1030, 1031, 394, 395, 396, 397, 398, 399, 400, 401, 268, 457, 212, 402, 404, 16, 405, 406, 408] (by decide +kernel) (by decide +kernel) w h).1
set_option maxRecDepth 20000 in
theorem lw_in10 : ∀ w ∈ wsL_law0_r10, w ∈ lw_tbl := fun w h => (goodIn_r (big := lw_tbl) wsL_law0_r10 [17, 409, 410, 82, 426, 427, 428, 430, 432, 18, 433, 435, 437, 19, 438, 440, 442, 20, 443, 447, 21, 448, 172, 449] (by decide +kernel) (by decide +kernel) w h).1
set_option maxRecDepth 20000 in
theorem lw_in11 : ∀ w ∈ wsL_law0_r11, w ∈ lw_tbl := fun w h => (goodIn_r (big := lw_tbl) wsL_law0_r11 [451, 22, 452, 453, 454, 455, 459, 460, 461, 476, 479, 482, 462, 467, 471, 474, 511, 513, 23, 514, 517, 24, 518, 104] (by decide +kernel) (by decide +kernel) w h).1
set_option maxRecDepth 20000 in
theorem lw_in12 : ∀ w ∈ wsL_law0_r12, w ∈ lw_tbl := fun w h => (goodIn_r (big := lw_tbl) wsL_law0_r12 [519, 521, 25, 522, 108, 1043, 1044, 1045, 1046, 926, 915, 927, 1047, 1049, 50, 1050, 1051, 1053, 51, 1054, 1055, 1057, 52, 1058] (by decide +kernel) (by decide +kernel) w h).1
set_option maxRecDepth 20000 in
theorem lw_in13 : ∀ w ∈ wsL_law0_r13, w ∈ lw_tbl := fun w h => (goodIn_r (big := lw_tbl) wsL_law0_r13 [924, 1059, 1061, 53, 1062, 1063, 1064, 1065, 525, 526, 527, 528, 529, 530, 531, 1066, 1067, 1068, 1069, 532, 533, 534, 535, 536] (by decide +kernel) (by decide +kernel) w h).1
set_option maxRecDepth 20000 in
theorem lw_in14 : ∀ w ∈ wsL_law0_r14, w ∈ lw_tbl := fun w h => (goodIn_r (big := lw_tbl) wsL_law0_r14 [537, 538, 1070, 1071, 1072, 1073, 539, 540, 541, 542, 543, 544, 545, 547, 548, 549, 1074, 1075, 1076, 1077, 551, 552, 553, 554] (by decide +kernel) (by decide +kernel) w h).1
set_option maxRecDepth 20000 in
theorem lw_in15 : ∀ w ∈ wsL_law0_r15, w ∈ lw_tbl := fun w h => (goodIn_r (big := lw_tbl) wsL_law0_r15 [555, 556, 557, 1078, 1079, 1080, 1081, 558, 559, 560, 561, 562, 563, 564, 1082, 1083, 1084, 1085, 566, 567, 568, 569, 570, 571] (by decide +kernel) (by decide +kernel) w h).1
set_option maxRecDepth 20000 in
theorem lw_in16 : ∀ w ∈ wsL_law0_r16, w ∈ lw_tbl := fun w h => (goodIn_r (big := lw_tbl) wsL_law0_r16 [572, 573, 575, 26, 576, 1086, 1087, 1088, 1089, 293, 294, 295, 296, 1090, 1091, 1092, 1093, 580, 581, 582, 583, 584, 585, 586] (by decide +kernel) (by decide +kernel) w h).1
set_option maxRecDepth 20000 in
theorem lw_in17 : ∀ w ∈ wsL_law0_r17, w ∈ lw_tbl := fun w h => (goodIn_r (big := lw_tbl) wsL_law0_r17 [1094, 1095, 1096, 1097, 587, 588, 589, 590, 591, 592, 593, 596, 27, 597, 598, 600, 28, 601, 602, 603, 84, 604, 605, 607] (by decide +kernel) (by decide +kernel) w h).1
set_option maxRecDepth 20000 in
theorem lw_in18 : ∀ w ∈ wsL_law0_r18, w ∈ lw_tbl := fun w h => (goodIn_r (big := lw_tbl) wsL_law0_r18 [29, 608, 609, 611, 30, 612, 613, 615, 31, 616, 617, 619, 32, 620, 621, 622, 84, 623, 624, 625, 626, 627, 629, 33] (by decide +kernel) (by decide +kernel) w h).1
set_option maxRecDepth 20000 in
theorem lw_in19 : ∀ w ∈ wsL_law0_r19, w ∈ lw_tbl := fun w h => (goodIn_r (big := lw_tbl) wsL_law0_r19 [630, 1098, 1099, 1100, 1101, 1102, 1104, 54, 1105, 1106, 1108, 55, 1109, 1110, 1112, 56, 1113, 1114, 1116, 57, 1117, 1118, 1120, 58] (by decide +kernel) (by decide +kernel) w h).1
set_option maxRecDepth 20000 in
theorem lw_in20 : ∀ w ∈ wsL_law0_r20, w ∈ lw_tbl := fun w h => (goodIn_r (big := lw_tbl) wsL_law0_r20 [1121, 1122, 1124, 59, 1125, 1126, 1128, 60, 1129, 1130, 1132, 61, 1133, 1134, 1136, 62, 1137, 1138, 1140, 63, 1141, 631, 632, 633] (by decide +kernel) (by decide +kernel) w h).1
set_option maxRecDepth 20000 in
theorem lw_in21 : ∀ w ∈ wsL_law0_r21, w ∈ lw_tbl := fun w h => (goodIn_r (big := lw_tbl) wsL_law0_r21 [634, 635, 636, 637, 1142, 1143, 1144, 1145, 1146, 638, 639, 640, 641, 642, 643, 644, 647, 34, 648, 1147, 1148, 1149, 1150, 649] (by decide +kernel) (by decide +kernel) w h).1
set_option maxRecDepth 20000 in
theorem lw_in22 : ∀ w ∈ wsL_law0_r22, w ∈ lw_tbl := fun w h => (goodIn_r (big := lw_tbl) wsL_law0_r22 [650, 651, 652, 653, 654, 655, 656, 657, 658, 662, 35, 663, 665, 666, 667, 1151, 1152, 1153, 1154, 668, 669, 670, 671, 672] (by decide +kernel) (by decide +kernel) w h).1
set_option maxRecDepth 20000 in
theorem lw_in23 : ∀ w ∈ wsL_law0_r23, w ∈ lw_tbl := fun w h => (goodIn_r (big := lw_tbl) wsL_law0_r23 [673, 674, 677, 36, 678, 1155, 1156, 1157, 1158, 679, 680, 681, 682, 683, 684, 685, 688, 37, 689, 691, 692, 1159, 1160, 1161] (by decide +kernel) (by decide +kernel) w h).1
set_option maxRecDepth 20000 in
theorem lw_in24 : ∀ w ∈ wsL_law0_r24, w ∈ lw_tbl := fun w h => (goodIn_r (big := lw_tbl) wsL_law0_r24 [1162, 1163, 1165, 64, 1166, 693, 694, 695, 696, 697, 698, 699, 702, 38, 703, 708, 709, 710, 704, 706, 39, 707, 1167, 1168] (by decide +kernel) (by decide +kernel) w h).1
set_option maxRecDepth 20000 in
theorem lw_in25 : ∀ w ∈ wsL_law0_r25, w ∈ lw_tbl := fun w h => (goodIn_r (big := lw_tbl) wsL_law0_r25 [1169, 1170, 1171, 1173, 65, 1174, 711, 712, 713, 714, 715, 716, 717, 1175, 1176, 1177, 1178, 718, 719, 720, 721, 722, 723, 724] (by decide +kernel) (by decide +kernel) w h).1
set_option maxRecDepth 20000 in
theorem lw_in26 : ∀ w ∈ wsL_law0_r26, w ∈ lw_tbl := fun w h => (goodIn_r (big := lw_tbl) wsL_law0_r26 [1179, 1180, 1181, 1182, 725, 726, 727, 728, 729, 730, 731, 734, 40, 735, 1183, 1184, 1185, 1186, 737, 738, 739, 740, 741, 742] (by decide +kernel) (by decide +kernel) w h).1
set_option maxRecDepth 20000 in
theorem lw_in27 : ∀ w ∈ wsL_law0_r27, w ∈ lw_tbl := fun w h => (goodIn_r (big := lw_tbl) wsL_law0_r27 [743, 744, 746, 747, 751, 41, 752, 1187, 1188, 1189, 1190, 1191, 753, 754, 755, 756, 757, 758, 759, 269, 761, 85, 763, 764] (by decide +kernel) (by decide +kernel) w h).1
set_option maxRecDepth 20000 in
theorem lw_in28 : ∀ w ∈ wsL_law0_r28, w ∈ lw_tbl := fun w h => (goodIn_r (big := lw_tbl) wsL_law0_r28 [765, 771, 773, 767, 769, 766, 1192, 1193, 1194, 1195, 942, 788, 789, 790, 791, 792, 793, 794, 795, 797, 42, 798, 800, 802] (by decide +kernel) (by decide +kernel) w h).1
set_option maxRecDepth 20000 in
theorem lw_in29 : ∀ w ∈ wsL_law0_r29, w ∈ lw_tbl := fun w h => (goodIn_r (big := lw_tbl) wsL_law0_r29 [43, 803, 804, 805, 807, 44, 808, 813, 45, 814, 815, 817, 818, 821, 46, 822, 775, 823, 825, 47, 826, 827, 828, 829] (by decide +kernel) (by decide +kernel) w h).1
set_option maxRecDepth 20000 in
theorem lw_in30 : ∀ w ∈ wsL_law0_r30, w ∈ lw_tbl := fun w h => (goodIn_r (big := lw_tbl) wsL_law0_r30 [830, 831, 832, 833, 834, 835, 837, 838, 839, 841, 840, 86, 843, 844, 845, 846, 847, 848, 1196, 1197, 1198, 1199, 1200, 1202] (by decide +kernel) (by decide +kernel) w h).1
set_option maxRecDepth 20000 in
theorem lw_in31 : ∀ w ∈ wsL_law0_r31, w ∈ lw_tbl := fun w h => (goodIn_r (big := lw_tbl) wsL_law0_r31 [66, 1203, 1204, 1206, 67, 1207, 946, 1208, 1210, 68, 1211, 1212, 1214, 69, 1215, 849, 850, 851, 852, 853, 854, 855, 1216, 1217] (by decide +kernel) (by decide +kernel) w h).1
set_option maxRecDepth 20000 in
theorem lw_in32 : ∀ w ∈ wsL_law0_r32, w ∈ lw_tbl := fun w h => (goodIn_r (big := lw_tbl) wsL_law0_r32 [1218, 1219, 856, 857, 858, 859, 860, 861, 862, 1220, 1221, 1222, 1223, 864, 865, 866, 867, 868, 869, 870, 1224, 1225, 1226, 1227] (by decide +kernel) (by decide +kernel) w h).1
set_option maxRecDepth 20000 in
theorem lw_in33 : ∀ w ∈ wsL_law0_r33, w ∈ lw_tbl := fun w h => (goodIn_r (big := lw_tbl) wsL_law0_r33 [871, 872, 873, 874, 875, 876, 877, 880, 48, 881, 1228, 1229, 1230, 1231, 1232, 883, 884, 885, 886, 887, 888, 889, 890, 891] (by decide +kernel) (by decide +kernel) w h).1
set_option maxRecDepth 20000 in
theorem lw_in34 : ∀ w ∈ wsL_law0_r34, w ∈ lw_tbl := fun w h => (goodIn_r (big := lw_tbl) wsL_law0_r34 [1233, 1234, 1235, 1236, 892, 893, 894, 895, 896, 897, 898, 899, 1237, 1238, 1239, 1240, 900, 901, 902, 903, 904, 905, 906, 1241] (by decide +kernel) (by decide +kernel) w h).1
set_option maxRecDepth 20000 in
theorem lw_in35 : ∀ w ∈ wsL_law0_r35, w ∈ lw_tbl := fun w h => (goodIn_r (big := lw_tbl) wsL_law0_r35 [1242, 1243, 1244] (by decide +kernel) (by decide +kernel) w h).1
set_option maxRecDepth 20000 in
theorem lw_inX50 : ∀ w ∈ wsX50, w ∈ lw_tbl := fun w h => (goodIn_p wsX50 [] (by decide +kernel) (by decide +kernel) w h).1
set_option maxRecDepth 20000 in
theorem lw_inX60 : ∀ w ∈ wsX60, w ∈ lw_tbl := fun w h => (goodIn_p wsX60 [] (by decide +kernel) (by decide +kernel) w h).1
set_option maxRecDepth 20000 in
theorem lw_inX10 : ∀ w ∈ wsX10, w ∈ lw_tbl := fun w h => (goodIn_p wsX10 [] (by decide +kernel) (by decide +kernel) w h).1
set_option maxRecDepth 20000 in
theorem lw_inX20 : ∀ w ∈ wsX20, w ∈ lw_tbl := fun w h => (goodIn_p wsX20 [] (by decide +kernel) (by decide +kernel) w h).1
set_option maxRecDepth 20000 in
theorem lw_inX30 : ∀ w ∈ wsX30, w ∈ lw_tbl := fun w h => (goodIn_p wsX30 [] (by decide +kernel) (by decide +kernel) w h).1
set_option maxRecDepth 20000 in
theorem lw_inX00 : ∀ w ∈ wsX00, w ∈ lw_tbl := fun w h => (goodIn_p wsX00 [] (by decide +kernel) (by decide +kernel) w h).1
set_option maxRecDepth 20000 in
theorem lw_inX40 : ∀ w ∈ wsX40, w ∈ lw_tbl := fun w h => (goodIn_p wsX40 [] (by decide +kernel) (by decide +kernel) w h).1
theorem wsL_law_in0 : ∀ w ∈ wsL_law0, w ∈ lw_tbl := in_app (in_app (in_app (in_app (in_app (in_app (in_app (in_app (in_app lw_in1 (in_app lw_in2 (in_app lw_in3 (in_app lw_in4 (in_app lw_in5 (in_app lw_in6 (in_app lw_in7 (in_app lw_in8 (in_app lw_in9 (in_app lw_in10 (in_app lw_in11 (in_app lw_in12 (in_app lw_in13 (in_app lw_in14 (in_app lw_in15 (in_app lw_in16 (in_app lw_in17 (in_app lw_in18 (in_app lw_in19 (in_app lw_in20 (in_app lw_in21 (in_app lw_in22 (in_app lw_in23 (in_app lw_in24 (in_app lw_in25 (in_app lw_in26 (in_app lw_in27 (in_app lw_in28 (in_app lw_in29 (in_app lw_in30 (in_app lw_in31 (in_app lw_in32 (in_app lw_in33 (in_app lw_in34 lw_in35)))))))))))))))))))))))))))))))))) lw_inX50) lw_inX60) lw_inX10) lw_inX20) lw_inX30) lw_inX00) lw_inX40) (fun w h => absurd h List.not_mem_nil)
theorem wsL_law_x0 : ∀ w ∈ (vx_atS RX5 66 "java/lang/IllegalStateException" ["java/lang/RuntimeException", "java/lang/Exception"]).filter goodWord, w ∈ lw_tbl := by decide +kernel
theorem wsL_law_x1 : ∀ w ∈ (vx_atS RX5 119 "java/lang/IllegalArgumentException" ["java/lang/RuntimeException", "java/lang/Exception"]).filter goodWord, w ∈ lw_tbl := by decide +kernel
theorem wsL_law_x2 : ∀ w ∈ (vx_atS RX5 216 "java/lang/IndexOutOfBoundsException" ["java/lang/RuntimeException", "java/lang/Exception"]).filter goodWord, w ∈ lw_tbl := by decide +kernel
theorem wsL_law_in : ∀ w ∈ wsL_law, w ∈ lw_tbl := fun w h => (List.mem_append.mp h).elim (fun h => (List.mem_append.mp h).elim (fun h => (List.mem_append.mp h).elim (fun h => wsL_law_in0 w h) (fun h => wsL_law_x0 w h)) (fun h => wsL_law_x1 w h)) (fun h => wsL_law_x2 w h)
