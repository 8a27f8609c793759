set_option maxRecDepth 20000 in
theorem ggL_now_X5_now : GoodIn wsL_now wsX5_now := goodIn_ca (goodIn_ca (goodIn_r _ [7, 8, 9, 10, 11, 6, 12, 13, 14, 15, 16, 17, 18, 19, 20, 21, 22, 23, 24, 25, 26, 27, 28, 29, 30, 31, 32, 33, 34, 35, 36, 37, 38, 39, 40, 41, 42, 43, 44, 45, 46, 47, 48, 49, 50, 51, 52, 53, 54, 55, 56, 57, 58, 59, 60, 61, 62, 63, 64, 65, 66, 67, 68, 69, 70, 71, 72, 73, 74, 75, 76, 77, 78, 79, 80, 81, 82, 83, 84, 85, 86, 87, 88, 89, 90, 91, 92, 93, 94, 95, 96, 97] (by decide +kernel) (by decide +kernel)) (goodIn_sub (fun _ h => List.mem_cons_of_mem _ (List.mem_append_left _ (List.mem_append_right _ h))) (by decide +kernel))) (goodIn_sub (fun _ h => List.mem_cons_of_mem _ (List.mem_append_right _ h)) (by decide +kernel))
set_option maxRecDepth 20000 in
theorem gL_now_X5_now : GoodIn wsL_now (wsV RL 49 RX5 yX5_now wsX5_now) := goodIn_app (goodIn_of _ (by decide +kernel)) ggL_now_X5_now
theorem dL_now_0 : decode cL_now 0 = .ok (.aload_n 3, 1) := by decide +kernel
theorem dL_now_1 : decode cL_now 1 = .ok (.iconst 0, 1) := by decide +kernel
theorem dL_now_2 : decode cL_now 2 = .ok (.aload_n 0, 1) := by decide +kernel
theorem dL_now_3 : decode cL_now 3 = .ok (.iload_n 1, 1) := by decide +kernel
theorem dL_now_4 : decode cL_now 4 = .ok (.iload_n 2, 1) := by decide +kernel
theorem dL_now_5 : decode cL_now 5 = .ok (.invokevirtual 49, 3) := by decide +kernel
theorem dL_now_8 : decode cL_now 8 = .ok (.i2l, 1) := by decide +kernel
theorem dL_now_9 : decode cL_now 9 = .ok (.lastore, 1) := by decide +kernel
theorem dL_now_10 : decode cL_now 10 = .ok (.goto 11, 3) := by decide +kernel
theorem dL_now_13 : decode cL_now 13 = .ok (.astore 4, 2) := by decide +kernel
theorem dL_now_15 : decode cL_now 15 = .ok (.iconst 1, 1) := by decide +kernel
theorem dL_now_16 : decode cL_now 16 = .ok (.ireturn, 1) := by decide +kernel
theorem dL_now_17 : decode cL_now 17 = .ok (.astore 4, 2) := by decide +kernel
theorem dL_now_19 : decode cL_now 19 = .ok (.iconst 2, 1) := by decide +kernel
theorem dL_now_20 : decode cL_now 20 = .ok (.ireturn, 1) := by decide +kernel
theorem dL_now_21 : decode cL_now 21 = .ok (.iconst 0, 1) := by decide +kernel
theorem dL_now_22 : decode cL_now 22 = .ok (.ireturn, 1) := by decide +kernel
set_option maxRecDepth 20000 in
theorem ggL_households_X5_households : GoodIn wsL_households wsX5_households := goodIn_ca (goodIn_ca (goodIn_r _ [7, 8, 9, 10, 11, 6, 12, 13, 14, 15, 16, 17, 18, 19, 20, 21, 22, 23, 24, 25, 26, 27, 28, 29, 30, 31, 32, 33, 34, 35, 36, 37, 38, 39, 40, 41, 42, 43, 44, 45, 46, 47, 48, 49, 50, 51, 52, 53, 54, 55, 56, 57, 58, 59, 60, 61, 62, 63, 64, 65, 66, 67, 68, 69, 70, 71, 72, 73, 74, 75, 76, 77, 78, 79, 80, 81, 82, 83, 84, 85, 86, 87, 88, 89, 90, 91, 92, 93, 94, 95, 96, 97, 98, 99, 100, 101, 102, 103, 104, 105, 106, 107, 108, 109, 110, 111, 112, 113, 114, 115, 116, 117, 118, 119, 120, 121, 122, 123, 124, 125, 126, 127, 128, 129, 130, 131, 132, 133, 134, 135, 136, 137, 138, 139, 140, 141, 142, 143, 144, 145, 146, 147, 148, 149, 150, 151, 152, 153, 154, 155, 156, 157, 158, 159, 160, 161, 162, 163, 164, 165, 166, 167, 168, 169, 170, 171, 172, 173, 174, 175, 176, 177, 178, 179, 180, 181] (by decide +kernel) (by decide +kernel)) (goodIn_sub (fun _ h => List.mem_cons_of_mem _ (List.mem_append_left _ (List.mem_append_right _ h))) (by decide +kernel))) (goodIn_sub (fun _ h => List.mem_cons_of_mem _ (List.mem_append_right _ h)) (by decide +kernel))
set_option maxRecDepth 20000 in
theorem gL_households_X5_households : GoodIn wsL_households (wsV RL 52 RX5 yX5_households wsX5_households) := goodIn_app (goodIn_of _ (by decide +kernel)) ggL_households_X5_households
theorem dL_households_0 : decode cL_households 0 = .ok (.aload 4, 2) := by decide +kernel
theorem dL_households_2 : decode cL_households 2 = .ok (.iconst 0, 1) := by decide +kernel
theorem dL_households_3 : decode cL_households 3 = .ok (.aload_n 0, 1) := by decide +kernel
theorem dL_households_4 : decode cL_households 4 = .ok (.iload_n 1, 1) := by decide +kernel
theorem dL_households_5 : decode cL_households 5 = .ok (.iload_n 2, 1) := by decide +kernel
theorem dL_households_6 : decode cL_households 6 = .ok (.iload_n 3, 1) := by decide +kernel
theorem dL_households_7 : decode cL_households 7 = .ok (.invokevirtual 52, 3) := by decide +kernel
theorem dL_households_10 : decode cL_households 10 = .ok (.i2l, 1) := by decide +kernel
theorem dL_households_11 : decode cL_households 11 = .ok (.lastore, 1) := by decide +kernel
theorem dL_households_12 : decode cL_households 12 = .ok (.goto 11, 3) := by decide +kernel
theorem dL_households_15 : decode cL_households 15 = .ok (.astore 5, 2) := by decide +kernel
theorem dL_households_17 : decode cL_households 17 = .ok (.iconst 1, 1) := by decide +kernel
theorem dL_households_18 : decode cL_households 18 = .ok (.ireturn, 1) := by decide +kernel
theorem dL_households_19 : decode cL_households 19 = .ok (.astore 5, 2) := by decide +kernel
theorem dL_households_21 : decode cL_households 21 = .ok (.iconst 2, 1) := by decide +kernel
theorem dL_households_22 : decode cL_households 22 = .ok (.ireturn, 1) := by decide +kernel
theorem dL_households_23 : decode cL_households 23 = .ok (.iconst 0, 1) := by decide +kernel
theorem dL_households_24 : decode cL_households 24 = .ok (.ireturn, 1) := by decide +kernel
set_option maxRecDepth 20000 in
theorem ggL_money_X5_money : GoodIn wsL_money wsX5_money := goodIn_ca (goodIn_ca (goodIn_r _ [7, 8, 9, 10, 11, 6, 12, 13, 14, 15, 16, 17, 18, 19, 20, 21, 22, 23, 24, 25, 26, 27, 28, 29, 30, 31, 32, 33, 34, 35, 36, 37, 38, 39, 40, 41, 42, 43, 44, 45, 46, 47, 48, 49, 50, 51, 52, 53, 54, 55, 56, 57, 58, 59, 60, 61, 62, 63, 64, 65, 66, 67, 68, 69, 70, 71, 72, 73, 74, 75, 76, 77, 78, 79, 80, 81, 82, 83, 84, 85, 86, 87, 88, 89, 90, 91, 92, 93, 94, 95, 96, 97, 98, 99, 100, 101, 102, 103, 104, 105, 106, 107, 108, 109, 110, 111, 112, 113, 114, 115, 116, 117, 118, 119, 120, 121, 122, 123, 124, 125, 126, 127, 128, 129, 130, 131, 132, 133, 134, 135, 136, 137, 138, 139, 140, 141, 142, 143, 144, 145, 146, 147, 148, 149, 150] (by decide +kernel) (by decide +kernel)) (goodIn_sub (fun _ h => List.mem_cons_of_mem _ (List.mem_append_left _ (List.mem_append_right _ h))) (by decide +kernel))) (goodIn_sub (fun _ h => List.mem_cons_of_mem _ (List.mem_append_right _ h)) (by decide +kernel))
set_option maxRecDepth 20000 in
theorem gL_money_X5_money : GoodIn wsL_money (wsV RL 55 RX5 yX5_money wsX5_money) := goodIn_app (goodIn_of _ (by decide +kernel)) ggL_money_X5_money
theorem dL_money_0 : decode cL_money 0 = .ok (.aload 5, 2) := by decide +kernel
theorem dL_money_2 : decode cL_money 2 = .ok (.iconst 0, 1) := by decide +kernel
theorem dL_money_3 : decode cL_money 3 = .ok (.aload_n 0, 1) := by decide +kernel
theorem dL_money_4 : decode cL_money 4 = .ok (.iload_n 1, 1) := by decide +kernel
theorem dL_money_5 : decode cL_money 5 = .ok (.iload_n 2, 1) := by decide +kernel
theorem dL_money_6 : decode cL_money 6 = .ok (.iload_n 3, 1) := by decide +kernel
theorem dL_money_7 : decode cL_money 7 = .ok (.iload 4, 2) := by decide +kernel
theorem dL_money_9 : decode cL_money 9 = .ok (.invokevirtual 55, 3) := by decide +kernel
theorem dL_money_12 : decode cL_money 12 = .ok (.i2l, 1) := by decide +kernel
theorem dL_money_13 : decode cL_money 13 = .ok (.lastore, 1) := by decide +kernel
theorem dL_money_14 : decode cL_money 14 = .ok (.goto 11, 3) := by decide +kernel
theorem dL_money_17 : decode cL_money 17 = .ok (.astore 6, 2) := by decide +kernel
theorem dL_money_19 : decode cL_money 19 = .ok (.iconst 1, 1) := by decide +kernel
theorem dL_money_20 : decode cL_money 20 = .ok (.ireturn, 1) := by decide +kernel
theorem dL_money_21 : decode cL_money 21 = .ok (.astore 6, 2) := by decide +kernel
theorem dL_money_23 : decode cL_money 23 = .ok (.iconst 2, 1) := by decide +kernel
theorem dL_money_24 : decode cL_money 24 = .ok (.ireturn, 1) := by decide +kernel
theorem dL_money_25 : decode cL_money 25 = .ok (.iconst 0, 1) := by decide +kernel
theorem dL_money_26 : decode cL_money 26 = .ok (.ireturn, 1) := by decide +kernel
set_option maxRecDepth 20000 in
theorem ggL_changed_X5_changed : GoodIn wsL_changed wsX5_changed := goodIn_ca (goodIn_r _ [6, 7, 8, 9, 10, 11, 12, 13, 5, 14, 15, 16, 17, 18, 19, 20, 21, 22, 23, 24, 25, 26, 27, 28, 29, 30, 31, 32, 33, 34, 35, 36, 37, 38, 39, 40, 41, 42, 43, 44, 45, 46, 47, 48, 49, 50, 51, 52, 53, 54, 55, 56, 57, 58, 59, 60, 61, 62, 63, 64, 65, 66, 67, 68, 69, 70, 71, 72, 73, 74, 75, 76, 77, 78, 79, 80, 81, 82, 83, 84, 85, 86, 87, 88, 89, 90, 91, 92, 93, 94, 95, 96, 97, 98, 99, 100, 101, 102, 103, 104, 105, 106, 107, 108, 109, 110, 111, 112, 113, 114, 115, 116, 117, 118, 119, 120, 121, 122, 123, 124, 125, 126, 127, 128, 129, 130, 131, 132, 133, 134, 135, 136, 137, 138, 139, 140, 141, 142, 143, 144, 145] (by decide +kernel) (by decide +kernel)) (goodIn_sub (fun _ h => List.mem_cons_of_mem _ (List.mem_append_right _ h)) (by decide +kernel))
set_option maxRecDepth 20000 in
theorem gL_changed_X5_changed : GoodIn wsL_changed (wsV RL 58 RX5 yX5_changed wsX5_changed) := goodIn_app (goodIn_of _ (by decide +kernel)) ggL_changed_X5_changed
theorem dL_changed_0 : decode cL_changed 0 = .ok (.aload 4, 2) := by decide +kernel
theorem dL_changed_2 : decode cL_changed 2 = .ok (.iconst 0, 1) := by decide +kernel
theorem dL_changed_3 : decode cL_changed 3 = .ok (.aload_n 0, 1) := by decide +kernel
theorem dL_changed_4 : decode cL_changed 4 = .ok (.iload_n 1, 1) := by decide +kernel
theorem dL_changed_5 : decode cL_changed 5 = .ok (.iload_n 2, 1) := by decide +kernel
theorem dL_changed_6 : decode cL_changed 6 = .ok (.iload_n 3, 1) := by decide +kernel
theorem dL_changed_7 : decode cL_changed 7 = .ok (.invokevirtual 58, 3) := by decide +kernel
theorem dL_changed_10 : decode cL_changed 10 = .ok (.i2l, 1) := by decide +kernel
theorem dL_changed_11 : decode cL_changed 11 = .ok (.lastore, 1) := by decide +kernel
theorem dL_changed_12 : decode cL_changed 12 = .ok (.goto 7, 3) := by decide +kernel
theorem dL_changed_15 : decode cL_changed 15 = .ok (.astore 5, 2) := by decide +kernel
theorem dL_changed_17 : decode cL_changed 17 = .ok (.iconst 1, 1) := by decide +kernel
theorem dL_changed_18 : decode cL_changed 18 = .ok (.ireturn, 1) := by decide +kernel
theorem dL_changed_19 : decode cL_changed 19 = .ok (.iconst 0, 1) := by decide +kernel
theorem dL_changed_20 : decode cL_changed 20 = .ok (.ireturn, 1) := by decide +kernel
set_option maxRecDepth 20000 in
theorem ggL_origin_X5_origin : GoodIn wsL_origin wsX5_origin := goodIn_ca (goodIn_r _ [6, 7, 8, 9, 10, 5, 11, 12, 13, 14, 15, 16, 17, 18, 19, 20, 21, 22, 23, 24, 25, 26, 27, 28, 29, 30, 31, 32, 33, 34, 35, 36, 37, 38, 39, 40, 41, 42, 43, 44, 45, 46, 47, 48, 49, 50, 51, 52, 53, 54] (by decide +kernel) (by decide +kernel)) (goodIn_sub (fun _ h => List.mem_cons_of_mem _ (List.mem_append_right _ h)) (by decide +kernel))
set_option maxRecDepth 20000 in
theorem gL_origin_X5_origin : GoodIn wsL_origin (wsV RL 61 RX5 yX5_origin wsX5_origin) := goodIn_app (goodIn_of _ (by decide +kernel)) ggL_origin_X5_origin
theorem dL_origin_0 : decode cL_origin 0 = .ok (.aload_n 3, 1) := by decide +kernel
theorem dL_origin_1 : decode cL_origin 1 = .ok (.iconst 0, 1) := by decide +kernel
theorem dL_origin_2 : decode cL_origin 2 = .ok (.aload_n 0, 1) := by decide +kernel
theorem dL_origin_3 : decode cL_origin 3 = .ok (.iload_n 1, 1) := by decide +kernel
theorem dL_origin_4 : decode cL_origin 4 = .ok (.iload_n 2, 1) := by decide +kernel
theorem dL_origin_5 : decode cL_origin 5 = .ok (.invokevirtual 61, 3) := by decide +kernel
theorem dL_origin_8 : decode cL_origin 8 = .ok (.i2l, 1) := by decide +kernel
theorem dL_origin_9 : decode cL_origin 9 = .ok (.lastore, 1) := by decide +kernel
theorem dL_origin_10 : decode cL_origin 10 = .ok (.goto 7, 3) := by decide +kernel
theorem dL_origin_13 : decode cL_origin 13 = .ok (.astore 4, 2) := by decide +kernel
theorem dL_origin_15 : decode cL_origin 15 = .ok (.iconst 1, 1) := by decide +kernel
theorem dL_origin_16 : decode cL_origin 16 = .ok (.ireturn, 1) := by decide +kernel
theorem dL_origin_17 : decode cL_origin 17 = .ok (.iconst 0, 1) := by decide +kernel
theorem dL_origin_18 : decode cL_origin 18 = .ok (.ireturn, 1) := by decide +kernel
