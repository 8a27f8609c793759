set_option maxRecDepth 20000 in
theorem ggL_death_X5_death : GoodIn wsL_death wsX5_death := goodIn_ca (goodIn_ca (goodIn_ca (goodIn_r _ [8, 9, 10, 11, 12, 13, 14, 15, 7, 16, 17, 18, 19, 20, 21, 22, 23, 24, 25, 26, 27, 28, 29, 30, 31, 32, 33, 34, 35, 36, 37, 38, 39, 40, 41, 42, 43, 44, 45, 46, 47, 48, 49, 50, 51, 52, 53, 54, 55, 56, 57, 58, 59, 60, 61, 62, 63, 64, 65, 66, 67, 68, 69, 70, 71, 72, 73, 74, 75, 76, 77, 78, 79, 80, 81, 82, 83, 84, 85, 86, 87, 88, 89, 90, 91, 92, 93, 94, 95, 96, 97, 98, 99, 100, 101, 102, 103, 104, 105, 106, 107, 108, 109, 110, 111, 112, 113, 114, 115, 116, 117, 118, 119, 120, 121, 122, 123, 124, 125, 126, 127, 128, 129, 130, 131, 132, 133, 134, 135, 136, 137, 138, 139, 140, 141, 142, 143, 144, 145, 146, 147, 148, 149, 150, 151, 152, 153, 154, 155, 156, 157, 158, 159, 160, 161, 162, 163, 164, 165, 166, 167, 168, 169, 170, 171, 172, 173, 174, 175, 176, 177] (by decide +kernel) (by decide +kernel)) (goodIn_sub (fun _ h => List.mem_cons_of_mem _ (List.mem_append_left _ (List.mem_append_left _ (List.mem_append_right _ h)))) (by decide +kernel))) (goodIn_sub (fun _ h => List.mem_cons_of_mem _ (List.mem_append_left _ (List.mem_append_right _ h))) (by decide +kernel))) (goodIn_sub (fun _ h => List.mem_cons_of_mem _ (List.mem_append_right _ h)) (by decide +kernel))
set_option maxRecDepth 20000 in
theorem gL_death_X5_death : GoodIn wsL_death (wsV RL 33 RX5 yX5_death wsX5_death) := goodIn_app (goodIn_of _ (by decide +kernel)) ggL_death_X5_death
theorem dL_death_0 : decode cL_death 0 = .ok (.aload_n 3, 1) := by decide +kernel
theorem dL_death_1 : decode cL_death 1 = .ok (.iconst 0, 1) := by decide +kernel
theorem dL_death_2 : decode cL_death 2 = .ok (.aload_n 0, 1) := by decide +kernel
theorem dL_death_3 : decode cL_death 3 = .ok (.iload_n 1, 1) := by decide +kernel
theorem dL_death_4 : decode cL_death 4 = .ok (.iload_n 2, 1) := by decide +kernel
theorem dL_death_5 : decode cL_death 5 = .ok (.invokevirtual 33, 3) := by decide +kernel
theorem dL_death_8 : decode cL_death 8 = .ok (.i2l, 1) := by decide +kernel
theorem dL_death_9 : decode cL_death 9 = .ok (.lastore, 1) := by decide +kernel
theorem dL_death_10 : decode cL_death 10 = .ok (.goto 15, 3) := by decide +kernel
theorem dL_death_13 : decode cL_death 13 = .ok (.astore 4, 2) := by decide +kernel
theorem dL_death_15 : decode cL_death 15 = .ok (.iconst 1, 1) := by decide +kernel
theorem dL_death_16 : decode cL_death 16 = .ok (.ireturn, 1) := by decide +kernel
theorem dL_death_17 : decode cL_death 17 = .ok (.astore 4, 2) := by decide +kernel
theorem dL_death_19 : decode cL_death 19 = .ok (.iconst 2, 1) := by decide +kernel
theorem dL_death_20 : decode cL_death 20 = .ok (.ireturn, 1) := by decide +kernel
theorem dL_death_21 : decode cL_death 21 = .ok (.astore 4, 2) := by decide +kernel
theorem dL_death_23 : decode cL_death 23 = .ok (.iconst 3, 1) := by decide +kernel
theorem dL_death_24 : decode cL_death 24 = .ok (.ireturn, 1) := by decide +kernel
theorem dL_death_25 : decode cL_death 25 = .ok (.iconst 0, 1) := by decide +kernel
theorem dL_death_26 : decode cL_death 26 = .ok (.ireturn, 1) := by decide +kernel
set_option maxRecDepth 20000 in
theorem ggL_join_X5_join : GoodIn wsL_join wsX5_join := goodIn_ca (goodIn_ca (goodIn_ca (goodIn_r _ [8, 9, 10, 11, 12, 13, 14, 15, 16, 17, 7, 18, 19, 20, 21, 22, 23, 24, 25, 26, 27, 28, 29, 30, 31, 32, 33, 34, 35, 36, 37, 38, 39, 40, 41, 42, 43, 44, 45, 46, 47, 48, 49, 50, 51, 52, 53, 54, 55, 56, 57, 58, 59, 60, 61, 62, 63, 64, 65, 66, 67, 68, 69, 70, 71, 72, 73, 74, 75, 76, 77, 78, 79, 80, 81, 82, 83, 84, 85, 86, 87, 88, 89, 90, 91, 92, 93, 94, 95, 96, 97, 98, 99, 100, 101, 102, 103, 104, 105, 106, 107, 108, 109, 110, 111, 112, 113, 114, 115, 116, 117, 118, 119, 120, 121, 122, 123, 124, 125, 126, 127, 128, 129, 130, 131, 132, 133, 134, 135, 136, 137, 138, 139, 140, 141, 142, 143, 144, 145, 146, 147, 148, 149, 150, 151, 152, 153, 154, 155, 156, 157, 158, 159, 160, 161, 162, 163, 164, 165, 166, 167, 168, 169, 170] (by decide +kernel) (by decide +kernel)) (goodIn_sub (fun _ h => List.mem_cons_of_mem _ (List.mem_append_left _ (List.mem_append_left _ (List.mem_append_right _ h)))) (by decide +kernel))) (goodIn_sub (fun _ h => List.mem_cons_of_mem _ (List.mem_append_left _ (List.mem_append_right _ h))) (by decide +kernel))) (goodIn_sub (fun _ h => List.mem_cons_of_mem _ (List.mem_append_right _ h)) (by decide +kernel))
set_option maxRecDepth 20000 in
theorem gL_join_X5_join : GoodIn wsL_join (wsV RL 37 RX5 yX5_join wsX5_join) := goodIn_app (goodIn_of _ (by decide +kernel)) ggL_join_X5_join
theorem dL_join_0 : decode cL_join 0 = .ok (.aload_n 3, 1) := by decide +kernel
theorem dL_join_1 : decode cL_join 1 = .ok (.iconst 0, 1) := by decide +kernel
theorem dL_join_2 : decode cL_join 2 = .ok (.aload_n 0, 1) := by decide +kernel
theorem dL_join_3 : decode cL_join 3 = .ok (.iload_n 1, 1) := by decide +kernel
theorem dL_join_4 : decode cL_join 4 = .ok (.iload_n 2, 1) := by decide +kernel
theorem dL_join_5 : decode cL_join 5 = .ok (.invokevirtual 37, 3) := by decide +kernel
theorem dL_join_8 : decode cL_join 8 = .ok (.i2l, 1) := by decide +kernel
theorem dL_join_9 : decode cL_join 9 = .ok (.lastore, 1) := by decide +kernel
theorem dL_join_10 : decode cL_join 10 = .ok (.goto 15, 3) := by decide +kernel
theorem dL_join_13 : decode cL_join 13 = .ok (.astore 4, 2) := by decide +kernel
theorem dL_join_15 : decode cL_join 15 = .ok (.iconst 1, 1) := by decide +kernel
theorem dL_join_16 : decode cL_join 16 = .ok (.ireturn, 1) := by decide +kernel
theorem dL_join_17 : decode cL_join 17 = .ok (.astore 4, 2) := by decide +kernel
theorem dL_join_19 : decode cL_join 19 = .ok (.iconst 2, 1) := by decide +kernel
theorem dL_join_20 : decode cL_join 20 = .ok (.ireturn, 1) := by decide +kernel
theorem dL_join_21 : decode cL_join 21 = .ok (.astore 4, 2) := by decide +kernel
theorem dL_join_23 : decode cL_join 23 = .ok (.iconst 3, 1) := by decide +kernel
theorem dL_join_24 : decode cL_join 24 = .ok (.ireturn, 1) := by decide +kernel
theorem dL_join_25 : decode cL_join 25 = .ok (.iconst 0, 1) := by decide +kernel
theorem dL_join_26 : decode cL_join 26 = .ok (.ireturn, 1) := by decide +kernel
set_option maxRecDepth 20000 in
theorem ggL_strike_X5_strike : GoodIn wsL_strike wsX5_strike := goodIn_ca (goodIn_ca (goodIn_r _ [7, 8, 9, 10, 11, 12, 13, 14, 15, 16, 6, 17, 18, 19, 20, 21, 22, 23, 24, 25, 26, 27, 28, 29, 30, 31, 32, 33, 34, 35, 36, 37, 38, 39, 40, 41, 42, 43, 44, 45, 46, 47, 48, 49, 50, 51, 52, 53, 54, 55, 56, 57, 58, 59, 60, 61, 62, 63, 64, 65, 66, 67, 68, 69, 70, 71, 72, 73, 74, 75, 76, 77, 78, 79, 80, 81, 82, 83, 84, 85, 86, 87, 88, 89, 90, 91, 92, 93, 94, 95, 96, 97, 98, 99, 100, 101, 102, 103, 104, 105, 106, 107, 108, 109, 110, 111, 112, 113, 114, 115, 116, 117, 118, 119, 120, 121, 122, 123, 124, 125, 126, 127, 128, 129, 130, 131, 132, 133, 134, 135, 136, 137, 138, 139, 140, 141, 142, 143, 144, 145, 146, 147, 148, 149, 150, 151, 152, 153, 154, 155, 156, 157, 158, 159, 160, 161, 162, 163, 164, 165, 166] (by decide +kernel) (by decide +kernel)) (goodIn_sub (fun _ h => List.mem_cons_of_mem _ (List.mem_append_left _ (List.mem_append_right _ h))) (by decide +kernel))) (goodIn_sub (fun _ h => List.mem_cons_of_mem _ (List.mem_append_right _ h)) (by decide +kernel))
set_option maxRecDepth 20000 in
theorem gL_strike_X5_strike : GoodIn wsL_strike (wsV RL 40 RX5 yX5_strike wsX5_strike) := goodIn_app (goodIn_of _ (by decide +kernel)) ggL_strike_X5_strike
theorem dL_strike_0 : decode cL_strike 0 = .ok (.aload_n 2, 1) := by decide +kernel
theorem dL_strike_1 : decode cL_strike 1 = .ok (.iconst 0, 1) := by decide +kernel
theorem dL_strike_2 : decode cL_strike 2 = .ok (.aload_n 0, 1) := by decide +kernel
theorem dL_strike_3 : decode cL_strike 3 = .ok (.iload_n 1, 1) := by decide +kernel
theorem dL_strike_4 : decode cL_strike 4 = .ok (.invokevirtual 40, 3) := by decide +kernel
theorem dL_strike_7 : decode cL_strike 7 = .ok (.i2l, 1) := by decide +kernel
theorem dL_strike_8 : decode cL_strike 8 = .ok (.lastore, 1) := by decide +kernel
theorem dL_strike_9 : decode cL_strike 9 = .ok (.goto 9, 3) := by decide +kernel
theorem dL_strike_12 : decode cL_strike 12 = .ok (.astore_n 3, 1) := by decide +kernel
theorem dL_strike_13 : decode cL_strike 13 = .ok (.iconst 1, 1) := by decide +kernel
theorem dL_strike_14 : decode cL_strike 14 = .ok (.ireturn, 1) := by decide +kernel
theorem dL_strike_15 : decode cL_strike 15 = .ok (.astore_n 3, 1) := by decide +kernel
theorem dL_strike_16 : decode cL_strike 16 = .ok (.iconst 2, 1) := by decide +kernel
theorem dL_strike_17 : decode cL_strike 17 = .ok (.ireturn, 1) := by decide +kernel
theorem dL_strike_18 : decode cL_strike 18 = .ok (.iconst 0, 1) := by decide +kernel
theorem dL_strike_19 : decode cL_strike 19 = .ok (.ireturn, 1) := by decide +kernel
set_option maxRecDepth 20000 in
theorem ggL_actOf_X5_actOf : GoodIn wsL_actOf wsX5_actOf := goodIn_ca (goodIn_ca (goodIn_r _ [7, 8, 9, 10, 6, 11, 12, 13, 14, 15, 16, 17, 18, 19, 20, 21, 22, 23, 24, 25, 26, 27, 28, 29, 30, 31, 32, 33, 34, 35, 36, 37, 38, 39, 40, 41, 42, 43, 44, 45, 46, 47, 48] (by decide +kernel) (by decide +kernel)) (goodIn_sub (fun _ h => List.mem_cons_of_mem _ (List.mem_append_left _ (List.mem_append_right _ h))) (by decide +kernel))) (goodIn_sub (fun _ h => List.mem_cons_of_mem _ (List.mem_append_right _ h)) (by decide +kernel))
set_option maxRecDepth 20000 in
theorem gL_actOf_X5_actOf : GoodIn wsL_actOf (wsV RL 43 RX5 yX5_actOf wsX5_actOf) := goodIn_app (goodIn_of _ (by decide +kernel)) ggL_actOf_X5_actOf
theorem dL_actOf_0 : decode cL_actOf 0 = .ok (.aload_n 3, 1) := by decide +kernel
theorem dL_actOf_1 : decode cL_actOf 1 = .ok (.iconst 0, 1) := by decide +kernel
theorem dL_actOf_2 : decode cL_actOf 2 = .ok (.aload_n 0, 1) := by decide +kernel
theorem dL_actOf_3 : decode cL_actOf 3 = .ok (.iload_n 1, 1) := by decide +kernel
theorem dL_actOf_4 : decode cL_actOf 4 = .ok (.iload_n 2, 1) := by decide +kernel
theorem dL_actOf_5 : decode cL_actOf 5 = .ok (.invokevirtual 43, 3) := by decide +kernel
theorem dL_actOf_8 : decode cL_actOf 8 = .ok (.i2l, 1) := by decide +kernel
theorem dL_actOf_9 : decode cL_actOf 9 = .ok (.lastore, 1) := by decide +kernel
theorem dL_actOf_10 : decode cL_actOf 10 = .ok (.goto 11, 3) := by decide +kernel
theorem dL_actOf_13 : decode cL_actOf 13 = .ok (.astore 4, 2) := by decide +kernel
theorem dL_actOf_15 : decode cL_actOf 15 = .ok (.iconst 1, 1) := by decide +kernel
theorem dL_actOf_16 : decode cL_actOf 16 = .ok (.ireturn, 1) := by decide +kernel
theorem dL_actOf_17 : decode cL_actOf 17 = .ok (.astore 4, 2) := by decide +kernel
theorem dL_actOf_19 : decode cL_actOf 19 = .ok (.iconst 2, 1) := by decide +kernel
theorem dL_actOf_20 : decode cL_actOf 20 = .ok (.ireturn, 1) := by decide +kernel
theorem dL_actOf_21 : decode cL_actOf 21 = .ok (.iconst 0, 1) := by decide +kernel
theorem dL_actOf_22 : decode cL_actOf 22 = .ok (.ireturn, 1) := by decide +kernel
set_option maxRecDepth 20000 in
theorem ggL_asOf_X5_asOf : GoodIn wsL_asOf wsX5_asOf := goodIn_ca (goodIn_ca (goodIn_r _ [7, 8, 9, 10, 11, 12, 6, 13, 14, 15, 16, 17, 18, 19, 20, 21, 22, 23, 24, 25, 26, 27, 28, 29, 30, 31, 32, 33, 34, 35, 36, 37, 38, 39, 40, 41, 42, 43, 44, 45, 46, 47, 48, 49, 50, 51, 52, 53, 54, 55, 56, 57, 58, 59, 60, 61, 62, 63, 64, 65, 66, 67, 68, 69, 70, 71, 72, 73, 74, 75, 76, 77, 78, 79, 80, 81, 82, 83, 84, 85, 86, 87, 88, 89, 90, 91, 92, 93, 94, 95, 96, 97, 98, 99, 100, 101, 102, 103, 104, 105, 106, 107, 108, 109, 110, 111, 112, 113, 114, 115, 116, 117, 118, 119, 120, 121, 122, 123, 124, 125, 126, 127, 128, 129, 130, 131, 132, 133, 134, 135, 136, 137, 138, 139, 140, 141, 142, 143, 144, 145, 146, 147, 148, 149, 150, 151, 152, 153, 154, 155, 156, 157, 158, 159, 160, 161, 162, 163, 164, 165, 166, 167, 168, 169, 170, 171, 172, 173, 174, 175, 176, 177, 178, 179, 180, 181, 182, 183, 184, 185, 186, 187] (by decide +kernel) (by decide +kernel)) (goodIn_sub (fun _ h => List.mem_cons_of_mem _ (List.mem_append_left _ (List.mem_append_right _ h))) (by decide +kernel))) (goodIn_sub (fun _ h => List.mem_cons_of_mem _ (List.mem_append_right _ h)) (by decide +kernel))
set_option maxRecDepth 20000 in
theorem gL_asOf_X5_asOf : GoodIn wsL_asOf (wsV RL 46 RX5 yX5_asOf wsX5_asOf) := goodIn_app (goodIn_of _ (by decide +kernel)) ggL_asOf_X5_asOf
theorem dL_asOf_0 : decode cL_asOf 0 = .ok (.aload 5, 2) := by decide +kernel
theorem dL_asOf_2 : decode cL_asOf 2 = .ok (.iconst 0, 1) := by decide +kernel
theorem dL_asOf_3 : decode cL_asOf 3 = .ok (.aload_n 0, 1) := by decide +kernel
theorem dL_asOf_4 : decode cL_asOf 4 = .ok (.iload_n 1, 1) := by decide +kernel
theorem dL_asOf_5 : decode cL_asOf 5 = .ok (.iload_n 2, 1) := by decide +kernel
theorem dL_asOf_6 : decode cL_asOf 6 = .ok (.iload_n 3, 1) := by decide +kernel
theorem dL_asOf_7 : decode cL_asOf 7 = .ok (.iload 4, 2) := by decide +kernel
theorem dL_asOf_9 : decode cL_asOf 9 = .ok (.invokevirtual 46, 3) := by decide +kernel
theorem dL_asOf_12 : decode cL_asOf 12 = .ok (.i2l, 1) := by decide +kernel
theorem dL_asOf_13 : decode cL_asOf 13 = .ok (.lastore, 1) := by decide +kernel
theorem dL_asOf_14 : decode cL_asOf 14 = .ok (.goto 11, 3) := by decide +kernel
theorem dL_asOf_17 : decode cL_asOf 17 = .ok (.astore 6, 2) := by decide +kernel
theorem dL_asOf_19 : decode cL_asOf 19 = .ok (.iconst 1, 1) := by decide +kernel
theorem dL_asOf_20 : decode cL_asOf 20 = .ok (.ireturn, 1) := by decide +kernel
theorem dL_asOf_21 : decode cL_asOf 21 = .ok (.astore 6, 2) := by decide +kernel
theorem dL_asOf_23 : decode cL_asOf 23 = .ok (.iconst 2, 1) := by decide +kernel
theorem dL_asOf_24 : decode cL_asOf 24 = .ok (.ireturn, 1) := by decide +kernel
theorem dL_asOf_25 : decode cL_asOf 25 = .ok (.iconst 0, 1) := by decide +kernel
theorem dL_asOf_26 : decode cL_asOf 26 = .ok (.ireturn, 1) := by decide +kernel
