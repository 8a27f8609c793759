set_option maxRecDepth 20000 in
theorem ggL_pass_X5_pass : GoodIn wsL_pass wsX5_pass := goodIn_ca (goodIn_ca (goodIn_r _ [7, 8, 9, 10, 11, 12, 13, 6, 14, 15, 16, 17, 18, 19, 20, 21, 22, 23, 24, 25, 26, 27, 28, 29, 30, 31, 32, 33, 34, 35, 36, 37, 38, 39, 40, 41, 42, 43, 44, 45, 46, 47, 48, 49, 50, 51, 52, 53, 54, 55, 56, 57, 58, 59, 60, 61, 62, 63, 64, 65, 66, 67, 68, 69, 70, 71, 72, 73, 74, 75, 76, 77, 78, 79, 80, 81, 82, 83, 84, 85, 86, 87, 88, 89, 90, 91, 92, 93, 94, 95, 96, 97, 98, 99, 100, 101, 102, 103, 104, 105, 106, 107, 108, 109, 110] (by decide +kernel) (by decide +kernel)) (goodIn_sub (fun _ h => List.mem_cons_of_mem _ (List.mem_append_left _ (List.mem_append_right _ h))) (by decide +kernel))) (goodIn_sub (fun _ h => List.mem_cons_of_mem _ (List.mem_append_right _ h)) (by decide +kernel))
set_option maxRecDepth 20000 in
theorem gL_pass_X5_pass : GoodIn wsL_pass (wsV RL 7 RX5 yX5_pass wsX5_pass) := goodIn_app (goodIn_of _ (by decide +kernel)) ggL_pass_X5_pass
theorem dL_pass_0 : decode cL_pass 0 = .ok (.aload_n 2, 1) := by decide +kernel
theorem dL_pass_1 : decode cL_pass 1 = .ok (.iconst 0, 1) := by decide +kernel
theorem dL_pass_2 : decode cL_pass 2 = .ok (.aload_n 0, 1) := by decide +kernel
theorem dL_pass_3 : decode cL_pass 3 = .ok (.iload_n 1, 1) := by decide +kernel
theorem dL_pass_4 : decode cL_pass 4 = .ok (.invokevirtual 7, 3) := by decide +kernel
theorem dL_pass_7 : decode cL_pass 7 = .ok (.i2l, 1) := by decide +kernel
theorem dL_pass_8 : decode cL_pass 8 = .ok (.lastore, 1) := by decide +kernel
theorem dL_pass_9 : decode cL_pass 9 = .ok (.goto 9, 3) := by decide +kernel
theorem dL_pass_12 : decode cL_pass 12 = .ok (.astore_n 3, 1) := by decide +kernel
theorem dL_pass_13 : decode cL_pass 13 = .ok (.iconst 1, 1) := by decide +kernel
theorem dL_pass_14 : decode cL_pass 14 = .ok (.ireturn, 1) := by decide +kernel
theorem dL_pass_15 : decode cL_pass 15 = .ok (.astore_n 3, 1) := by decide +kernel
theorem dL_pass_16 : decode cL_pass 16 = .ok (.iconst 2, 1) := by decide +kernel
theorem dL_pass_17 : decode cL_pass 17 = .ok (.ireturn, 1) := by decide +kernel
theorem dL_pass_18 : decode cL_pass 18 = .ok (.iconst 0, 1) := by decide +kernel
theorem dL_pass_19 : decode cL_pass 19 = .ok (.ireturn, 1) := by decide +kernel
set_option maxRecDepth 20000 in
theorem ggL_birth_X5_birth : GoodIn wsL_birth wsX5_birth := goodIn_ca (goodIn_ca (goodIn_ca (goodIn_r _ [8, 9, 10, 11, 12, 13, 14, 15, 16, 17, 18, 19, 7, 20, 21, 22, 23, 24, 25, 26, 27, 28, 29, 30, 31, 32, 33, 34, 35, 36, 37, 38, 39, 40, 41, 42, 43, 44, 45, 46, 47, 48, 49, 50, 51, 52, 53, 54, 55, 56, 57, 58, 59, 60, 61, 62, 63, 64, 65, 66, 67, 68, 69, 70, 71, 72, 73, 74, 75, 76, 77, 78, 79, 80, 81, 82, 83, 84, 85, 86, 87, 88, 89, 90, 91, 92, 93, 94, 95, 96, 97, 98, 99, 100, 101, 102, 103, 104, 105, 106, 107, 108, 109, 110, 111, 112, 113, 114, 115, 116, 117, 118, 119, 120, 121, 122, 123, 124, 125, 126, 127, 128, 129, 130, 131, 132, 133, 134, 135, 136, 137, 138, 139, 140, 141, 142, 143, 144, 145, 146, 147, 148, 149, 150, 151, 152, 153, 154, 155, 156, 157, 158, 159, 160, 161, 162, 163, 164, 165, 166, 167, 168, 169, 170, 171, 172, 173, 174, 175, 176, 177, 178, 179, 180, 181, 182, 183, 184, 185, 186, 187, 188, 189, 190, 191, 192, 193, 194, 195, 196, 197, 198, 199, 200, 201, 202, 203, 204, 205, 206, 207, 208] (by decide +kernel) (by decide +kernel)) (goodIn_sub (fun _ h => List.mem_cons_of_mem _ (List.mem_append_left _ (List.mem_append_left _ (List.mem_append_right _ h)))) (by decide +kernel))) (goodIn_sub (fun _ h => List.mem_cons_of_mem _ (List.mem_append_left _ (List.mem_append_right _ h))) (by decide +kernel))) (goodIn_sub (fun _ h => List.mem_cons_of_mem _ (List.mem_append_right _ h)) (by decide +kernel))
set_option maxRecDepth 20000 in
theorem gL_birth_X5_birth : GoodIn wsL_birth (wsV RL 17 RX5 yX5_birth wsX5_birth) := goodIn_app (goodIn_of _ (by decide +kernel)) ggL_birth_X5_birth
theorem dL_birth_0 : decode cL_birth 0 = .ok (.aload 5, 2) := by decide +kernel
theorem dL_birth_2 : decode cL_birth 2 = .ok (.iconst 0, 1) := by decide +kernel
theorem dL_birth_3 : decode cL_birth 3 = .ok (.aload_n 0, 1) := by decide +kernel
theorem dL_birth_4 : decode cL_birth 4 = .ok (.iload_n 1, 1) := by decide +kernel
theorem dL_birth_5 : decode cL_birth 5 = .ok (.iload_n 2, 1) := by decide +kernel
theorem dL_birth_6 : decode cL_birth 6 = .ok (.iload_n 3, 1) := by decide +kernel
theorem dL_birth_7 : decode cL_birth 7 = .ok (.iload 4, 2) := by decide +kernel
theorem dL_birth_9 : decode cL_birth 9 = .ok (.invokevirtual 17, 3) := by decide +kernel
theorem dL_birth_12 : decode cL_birth 12 = .ok (.i2l, 1) := by decide +kernel
theorem dL_birth_13 : decode cL_birth 13 = .ok (.lastore, 1) := by decide +kernel
theorem dL_birth_14 : decode cL_birth 14 = .ok (.goto 15, 3) := by decide +kernel
theorem dL_birth_17 : decode cL_birth 17 = .ok (.astore 6, 2) := by decide +kernel
theorem dL_birth_19 : decode cL_birth 19 = .ok (.iconst 1, 1) := by decide +kernel
theorem dL_birth_20 : decode cL_birth 20 = .ok (.ireturn, 1) := by decide +kernel
theorem dL_birth_21 : decode cL_birth 21 = .ok (.astore 6, 2) := by decide +kernel
theorem dL_birth_23 : decode cL_birth 23 = .ok (.iconst 2, 1) := by decide +kernel
theorem dL_birth_24 : decode cL_birth 24 = .ok (.ireturn, 1) := by decide +kernel
theorem dL_birth_25 : decode cL_birth 25 = .ok (.astore 6, 2) := by decide +kernel
theorem dL_birth_27 : decode cL_birth 27 = .ok (.iconst 3, 1) := by decide +kernel
theorem dL_birth_28 : decode cL_birth 28 = .ok (.ireturn, 1) := by decide +kernel
theorem dL_birth_29 : decode cL_birth 29 = .ok (.iconst 0, 1) := by decide +kernel
theorem dL_birth_30 : decode cL_birth 30 = .ok (.ireturn, 1) := by decide +kernel
set_option maxRecDepth 20000 in
theorem ggL_move_X5_move : GoodIn wsL_move wsX5_move := goodIn_ca (goodIn_ca (goodIn_ca (goodIn_r _ [8, 9, 10, 11, 12, 13, 14, 15, 7, 16, 17, 18, 19, 20, 21, 22, 23, 24, 25, 26, 27, 28, 29, 30, 31, 32, 33, 34, 35, 36, 37, 38, 39, 40, 41, 42, 43, 44, 45, 46, 47, 48, 49, 50, 51, 52, 53, 54, 55, 56, 57, 58, 59, 60, 61, 62, 63, 64, 65, 66, 67, 68, 69, 70, 71, 72, 73, 74, 75, 76, 77, 78, 79, 80, 81, 82, 83, 84, 85, 86, 87, 88, 89, 90, 91, 92, 93, 94, 95, 96, 97, 98, 99, 100, 101, 102, 103, 104, 105, 106, 107, 108, 109, 110, 111, 112, 113, 114, 115, 116, 117, 118, 119, 120, 121, 122, 123, 124, 125, 126, 127, 128, 129, 130, 131, 132, 133, 134, 135, 136, 137, 138, 139, 140, 141, 142, 143, 144, 145, 146, 147, 148, 149, 150, 151, 152, 153, 154, 155, 156, 157, 158, 159, 160, 161, 162, 163, 164, 165, 166, 167, 168, 169, 170, 171, 172, 173, 174, 175, 176, 177, 178, 179, 180] (by decide +kernel) (by decide +kernel)) (goodIn_sub (fun _ h => List.mem_cons_of_mem _ (List.mem_append_left _ (List.mem_append_left _ (List.mem_append_right _ h)))) (by decide +kernel))) (goodIn_sub (fun _ h => List.mem_cons_of_mem _ (List.mem_append_left _ (List.mem_append_right _ h))) (by decide +kernel))) (goodIn_sub (fun _ h => List.mem_cons_of_mem _ (List.mem_append_right _ h)) (by decide +kernel))
set_option maxRecDepth 20000 in
theorem gL_move_X5_move : GoodIn wsL_move (wsV RL 23 RX5 yX5_move wsX5_move) := goodIn_app (goodIn_of _ (by decide +kernel)) ggL_move_X5_move
theorem dL_move_0 : decode cL_move 0 = .ok (.aload 4, 2) := by decide +kernel
theorem dL_move_2 : decode cL_move 2 = .ok (.iconst 0, 1) := by decide +kernel
theorem dL_move_3 : decode cL_move 3 = .ok (.aload_n 0, 1) := by decide +kernel
theorem dL_move_4 : decode cL_move 4 = .ok (.iload_n 1, 1) := by decide +kernel
theorem dL_move_5 : decode cL_move 5 = .ok (.iload_n 2, 1) := by decide +kernel
theorem dL_move_6 : decode cL_move 6 = .ok (.iload_n 3, 1) := by decide +kernel
theorem dL_move_7 : decode cL_move 7 = .ok (.invokevirtual 23, 3) := by decide +kernel
theorem dL_move_10 : decode cL_move 10 = .ok (.i2l, 1) := by decide +kernel
theorem dL_move_11 : decode cL_move 11 = .ok (.lastore, 1) := by decide +kernel
theorem dL_move_12 : decode cL_move 12 = .ok (.goto 15, 3) := by decide +kernel
theorem dL_move_15 : decode cL_move 15 = .ok (.astore 5, 2) := by decide +kernel
theorem dL_move_17 : decode cL_move 17 = .ok (.iconst 1, 1) := by decide +kernel
theorem dL_move_18 : decode cL_move 18 = .ok (.ireturn, 1) := by decide +kernel
theorem dL_move_19 : decode cL_move 19 = .ok (.astore 5, 2) := by decide +kernel
theorem dL_move_21 : decode cL_move 21 = .ok (.iconst 2, 1) := by decide +kernel
theorem dL_move_22 : decode cL_move 22 = .ok (.ireturn, 1) := by decide +kernel
theorem dL_move_23 : decode cL_move 23 = .ok (.astore 5, 2) := by decide +kernel
theorem dL_move_25 : decode cL_move 25 = .ok (.iconst 3, 1) := by decide +kernel
theorem dL_move_26 : decode cL_move 26 = .ok (.ireturn, 1) := by decide +kernel
theorem dL_move_27 : decode cL_move 27 = .ok (.iconst 0, 1) := by decide +kernel
theorem dL_move_28 : decode cL_move 28 = .ok (.ireturn, 1) := by decide +kernel
set_option maxRecDepth 20000 in
theorem ggL_naming_X5_naming : GoodIn wsL_naming wsX5_naming := goodIn_ca (goodIn_ca (goodIn_ca (goodIn_r _ [8, 9, 10, 11, 12, 13, 14, 15, 7, 16, 17, 18, 19, 20, 21, 22, 23, 24, 25, 26, 27, 28, 29, 30, 31, 32, 33, 34, 35, 36, 37, 38, 39, 40, 41, 42, 43, 44, 45, 46, 47, 48, 49, 50, 51, 52, 53, 54, 55, 56, 57, 58, 59, 60, 61, 62, 63, 64, 65, 66, 67, 68, 69, 70, 71, 72, 73, 74, 75, 76, 77, 78, 79, 80, 81, 82, 83, 84, 85, 86, 87, 88, 89, 90, 91, 92, 93, 94, 95, 96, 97, 98, 99, 100, 101, 102, 103, 104, 105, 106, 107, 108, 109, 110, 111, 112, 113, 114, 115, 116, 117, 118, 119, 120, 121, 122, 123, 124, 125, 126, 127, 128, 129, 130, 131, 132, 133, 134, 135, 136, 137, 138, 139, 140, 141, 142, 143, 144, 145, 146, 147, 148, 149, 150, 151, 152, 153, 154, 155, 156, 157, 158, 159, 160, 161, 162, 163, 164, 165, 166, 167, 168, 169, 170, 171, 172, 173, 174, 175, 176, 177] (by decide +kernel) (by decide +kernel)) (goodIn_sub (fun _ h => List.mem_cons_of_mem _ (List.mem_append_left _ (List.mem_append_left _ (List.mem_append_right _ h)))) (by decide +kernel))) (goodIn_sub (fun _ h => List.mem_cons_of_mem _ (List.mem_append_left _ (List.mem_append_right _ h))) (by decide +kernel))) (goodIn_sub (fun _ h => List.mem_cons_of_mem _ (List.mem_append_right _ h)) (by decide +kernel))
set_option maxRecDepth 20000 in
theorem gL_naming_X5_naming : GoodIn wsL_naming (wsV RL 27 RX5 yX5_naming wsX5_naming) := goodIn_app (goodIn_of _ (by decide +kernel)) ggL_naming_X5_naming
theorem dL_naming_0 : decode cL_naming 0 = .ok (.aload 4, 2) := by decide +kernel
theorem dL_naming_2 : decode cL_naming 2 = .ok (.iconst 0, 1) := by decide +kernel
theorem dL_naming_3 : decode cL_naming 3 = .ok (.aload_n 0, 1) := by decide +kernel
theorem dL_naming_4 : decode cL_naming 4 = .ok (.iload_n 1, 1) := by decide +kernel
theorem dL_naming_5 : decode cL_naming 5 = .ok (.iload_n 2, 1) := by decide +kernel
theorem dL_naming_6 : decode cL_naming 6 = .ok (.iload_n 3, 1) := by decide +kernel
theorem dL_naming_7 : decode cL_naming 7 = .ok (.invokevirtual 27, 3) := by decide +kernel
theorem dL_naming_10 : decode cL_naming 10 = .ok (.i2l, 1) := by decide +kernel
theorem dL_naming_11 : decode cL_naming 11 = .ok (.lastore, 1) := by decide +kernel
theorem dL_naming_12 : decode cL_naming 12 = .ok (.goto 15, 3) := by decide +kernel
theorem dL_naming_15 : decode cL_naming 15 = .ok (.astore 5, 2) := by decide +kernel
theorem dL_naming_17 : decode cL_naming 17 = .ok (.iconst 1, 1) := by decide +kernel
theorem dL_naming_18 : decode cL_naming 18 = .ok (.ireturn, 1) := by decide +kernel
theorem dL_naming_19 : decode cL_naming 19 = .ok (.astore 5, 2) := by decide +kernel
theorem dL_naming_21 : decode cL_naming 21 = .ok (.iconst 2, 1) := by decide +kernel
theorem dL_naming_22 : decode cL_naming 22 = .ok (.ireturn, 1) := by decide +kernel
theorem dL_naming_23 : decode cL_naming 23 = .ok (.astore 5, 2) := by decide +kernel
theorem dL_naming_25 : decode cL_naming 25 = .ok (.iconst 3, 1) := by decide +kernel
theorem dL_naming_26 : decode cL_naming 26 = .ok (.ireturn, 1) := by decide +kernel
theorem dL_naming_27 : decode cL_naming 27 = .ok (.iconst 0, 1) := by decide +kernel
theorem dL_naming_28 : decode cL_naming 28 = .ok (.ireturn, 1) := by decide +kernel
set_option maxRecDepth 20000 in
theorem ggL_tie_X5_tie : GoodIn wsL_tie wsX5_tie := goodIn_ca (goodIn_ca (goodIn_ca (goodIn_r _ [8, 9, 10, 11, 12, 13, 14, 15, 16, 17, 7, 18, 19, 20, 21, 22, 23, 24, 25, 26, 27, 28, 29, 30, 31, 32, 33, 34, 35, 36, 37, 38, 39, 40, 41, 42, 43, 44, 45, 46, 47, 48, 49, 50, 51, 52, 53, 54, 55, 56, 57, 58, 59, 60, 61, 62, 63, 64, 65, 66, 67, 68, 69, 70, 71, 72, 73, 74, 75, 76, 77, 78, 79, 80, 81, 82, 83, 84, 85, 86, 87, 88, 89, 90, 91, 92, 93, 94, 95, 96, 97, 98, 99, 100, 101, 102, 103, 104, 105, 106, 107, 108, 109, 110, 111, 112, 113, 114, 115, 116, 117, 118, 119, 120, 121, 122, 123, 124, 125, 126, 127, 128, 129, 130, 131, 132, 133, 134, 135, 136, 137, 138, 139, 140, 141, 142, 143, 144, 145, 146, 147, 148, 149, 150, 151, 152, 153, 154, 155, 156, 157, 158, 159, 160, 161, 162, 163, 164, 165, 166, 167, 168, 169, 170, 171, 172, 173, 174, 175, 176, 177, 178, 179, 180] (by decide +kernel) (by decide +kernel)) (goodIn_sub (fun _ h => List.mem_cons_of_mem _ (List.mem_append_left _ (List.mem_append_left _ (List.mem_append_right _ h)))) (by decide +kernel))) (goodIn_sub (fun _ h => List.mem_cons_of_mem _ (List.mem_append_left _ (List.mem_append_right _ h))) (by decide +kernel))) (goodIn_sub (fun _ h => List.mem_cons_of_mem _ (List.mem_append_right _ h)) (by decide +kernel))
set_option maxRecDepth 20000 in
theorem gL_tie_X5_tie : GoodIn wsL_tie (wsV RL 30 RX5 yX5_tie wsX5_tie) := goodIn_app (goodIn_of _ (by decide +kernel)) ggL_tie_X5_tie
theorem dL_tie_0 : decode cL_tie 0 = .ok (.aload 5, 2) := by decide +kernel
theorem dL_tie_2 : decode cL_tie 2 = .ok (.iconst 0, 1) := by decide +kernel
theorem dL_tie_3 : decode cL_tie 3 = .ok (.aload_n 0, 1) := by decide +kernel
theorem dL_tie_4 : decode cL_tie 4 = .ok (.iload_n 1, 1) := by decide +kernel
theorem dL_tie_5 : decode cL_tie 5 = .ok (.iload_n 2, 1) := by decide +kernel
theorem dL_tie_6 : decode cL_tie 6 = .ok (.iload_n 3, 1) := by decide +kernel
theorem dL_tie_7 : decode cL_tie 7 = .ok (.iload 4, 2) := by decide +kernel
theorem dL_tie_9 : decode cL_tie 9 = .ok (.invokevirtual 30, 3) := by decide +kernel
theorem dL_tie_12 : decode cL_tie 12 = .ok (.i2l, 1) := by decide +kernel
theorem dL_tie_13 : decode cL_tie 13 = .ok (.lastore, 1) := by decide +kernel
theorem dL_tie_14 : decode cL_tie 14 = .ok (.goto 15, 3) := by decide +kernel
theorem dL_tie_17 : decode cL_tie 17 = .ok (.astore 6, 2) := by decide +kernel
theorem dL_tie_19 : decode cL_tie 19 = .ok (.iconst 1, 1) := by decide +kernel
theorem dL_tie_20 : decode cL_tie 20 = .ok (.ireturn, 1) := by decide +kernel
theorem dL_tie_21 : decode cL_tie 21 = .ok (.astore 6, 2) := by decide +kernel
theorem dL_tie_23 : decode cL_tie 23 = .ok (.iconst 2, 1) := by decide +kernel
theorem dL_tie_24 : decode cL_tie 24 = .ok (.ireturn, 1) := by decide +kernel
theorem dL_tie_25 : decode cL_tie 25 = .ok (.astore 6, 2) := by decide +kernel
theorem dL_tie_27 : decode cL_tie 27 = .ok (.iconst 3, 1) := by decide +kernel
theorem dL_tie_28 : decode cL_tie 28 = .ok (.ireturn, 1) := by decide +kernel
theorem dL_tie_29 : decode cL_tie 29 = .ok (.iconst 0, 1) := by decide +kernel
theorem dL_tie_30 : decode cL_tie 30 = .ok (.ireturn, 1) := by decide +kernel
