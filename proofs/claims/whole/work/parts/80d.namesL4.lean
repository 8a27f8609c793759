set_option maxRecDepth 20000 in
theorem ggL_likeness_X5_likeness : GoodIn wsL_likeness wsX5_likeness := goodIn_ca (goodIn_ca (goodIn_r _ [7, 8, 9, 10, 11, 6, 12, 13, 14, 15, 16, 17, 18, 19, 20, 21, 22, 23, 24, 25, 26, 27, 28, 29, 30, 31, 32, 33, 34, 35, 36, 37, 38, 39, 40, 41, 42, 43, 44, 45, 46, 47, 48, 49, 50, 51, 52, 53, 54, 55, 56, 57, 58, 59, 60, 61, 62, 63, 64, 65, 66, 67, 68, 69, 70] (by decide +kernel) (by decide +kernel)) (goodIn_sub (fun _ h => List.mem_cons_of_mem _ (List.mem_append_left _ (List.mem_append_right _ h))) (by decide +kernel))) (goodIn_sub (fun _ h => List.mem_cons_of_mem _ (List.mem_append_right _ h)) (by decide +kernel))
set_option maxRecDepth 20000 in
theorem gL_likeness_X5_likeness : GoodIn wsL_likeness (wsV RL 64 RX5 yX5_likeness wsX5_likeness) := goodIn_app (goodIn_of _ (by decide +kernel)) ggL_likeness_X5_likeness
theorem dL_likeness_0 : decode cL_likeness 0 = .ok (.aload_n 3, 1) := by decide +kernel
theorem dL_likeness_1 : decode cL_likeness 1 = .ok (.iconst 0, 1) := by decide +kernel
theorem dL_likeness_2 : decode cL_likeness 2 = .ok (.aload_n 0, 1) := by decide +kernel
theorem dL_likeness_3 : decode cL_likeness 3 = .ok (.iload_n 1, 1) := by decide +kernel
theorem dL_likeness_4 : decode cL_likeness 4 = .ok (.iload_n 2, 1) := by decide +kernel
theorem dL_likeness_5 : decode cL_likeness 5 = .ok (.invokevirtual 64, 3) := by decide +kernel
theorem dL_likeness_8 : decode cL_likeness 8 = .ok (.i2l, 1) := by decide +kernel
theorem dL_likeness_9 : decode cL_likeness 9 = .ok (.lastore, 1) := by decide +kernel
theorem dL_likeness_10 : decode cL_likeness 10 = .ok (.goto 11, 3) := by decide +kernel
theorem dL_likeness_13 : decode cL_likeness 13 = .ok (.astore 4, 2) := by decide +kernel
theorem dL_likeness_15 : decode cL_likeness 15 = .ok (.iconst 1, 1) := by decide +kernel
theorem dL_likeness_16 : decode cL_likeness 16 = .ok (.ireturn, 1) := by decide +kernel
theorem dL_likeness_17 : decode cL_likeness 17 = .ok (.astore 4, 2) := by decide +kernel
theorem dL_likeness_19 : decode cL_likeness 19 = .ok (.iconst 2, 1) := by decide +kernel
theorem dL_likeness_20 : decode cL_likeness 20 = .ok (.ireturn, 1) := by decide +kernel
theorem dL_likeness_21 : decode cL_likeness 21 = .ok (.iconst 0, 1) := by decide +kernel
theorem dL_likeness_22 : decode cL_likeness 22 = .ok (.ireturn, 1) := by decide +kernel
set_option maxRecDepth 20000 in
theorem ggL_doubleOf_X5_doubleOf : GoodIn wsL_doubleOf wsX5_doubleOf := goodIn_ca (goodIn_r _ [6, 7, 8, 9, 10, 11, 5, 12, 13, 14, 15, 16, 17, 18, 19, 20, 21, 22, 23, 24, 25, 26, 27, 28, 29, 30, 31, 32, 33, 34, 35, 36, 37, 38, 39, 40, 41, 42, 43, 44, 45, 46, 47, 48, 49, 50, 51, 52, 53, 54, 55, 56, 57, 58, 59, 60, 61, 62, 63, 64] (by decide +kernel) (by decide +kernel)) (goodIn_sub (fun _ h => List.mem_cons_of_mem _ (List.mem_append_right _ h)) (by decide +kernel))
set_option maxRecDepth 20000 in
theorem gL_doubleOf_X5_doubleOf : GoodIn wsL_doubleOf (wsV RL 67 RX5 yX5_doubleOf wsX5_doubleOf) := goodIn_app (goodIn_of _ (by decide +kernel)) ggL_doubleOf_X5_doubleOf
theorem dL_doubleOf_0 : decode cL_doubleOf 0 = .ok (.aload_n 2, 1) := by decide +kernel
theorem dL_doubleOf_1 : decode cL_doubleOf 1 = .ok (.iconst 0, 1) := by decide +kernel
theorem dL_doubleOf_2 : decode cL_doubleOf 2 = .ok (.aload_n 0, 1) := by decide +kernel
theorem dL_doubleOf_3 : decode cL_doubleOf 3 = .ok (.iload_n 1, 1) := by decide +kernel
theorem dL_doubleOf_4 : decode cL_doubleOf 4 = .ok (.invokevirtual 67, 3) := by decide +kernel
theorem dL_doubleOf_7 : decode cL_doubleOf 7 = .ok (.i2l, 1) := by decide +kernel
theorem dL_doubleOf_8 : decode cL_doubleOf 8 = .ok (.lastore, 1) := by decide +kernel
theorem dL_doubleOf_9 : decode cL_doubleOf 9 = .ok (.goto 6, 3) := by decide +kernel
theorem dL_doubleOf_12 : decode cL_doubleOf 12 = .ok (.astore_n 3, 1) := by decide +kernel
theorem dL_doubleOf_13 : decode cL_doubleOf 13 = .ok (.iconst 1, 1) := by decide +kernel
theorem dL_doubleOf_14 : decode cL_doubleOf 14 = .ok (.ireturn, 1) := by decide +kernel
theorem dL_doubleOf_15 : decode cL_doubleOf 15 = .ok (.iconst 0, 1) := by decide +kernel
theorem dL_doubleOf_16 : decode cL_doubleOf 16 = .ok (.ireturn, 1) := by decide +kernel
set_option maxRecDepth 20000 in
theorem ggL_renumber_X5_renumber : GoodIn wsL_renumber wsX5_renumber := goodIn_ca (goodIn_ca (goodIn_r _ [7, 8, 9, 10, 11, 6, 12, 13, 14, 15, 16, 17, 18, 19, 20, 21, 22, 23, 24, 25, 26, 27, 28, 29, 30, 31, 32, 33, 34, 35, 36, 37, 38, 39, 40, 41, 42, 43, 44, 45, 46, 47, 48, 49, 50, 51, 52, 53] (by decide +kernel) (by decide +kernel)) (goodIn_sub (fun _ h => List.mem_cons_of_mem _ (List.mem_append_left _ (List.mem_append_right _ h))) (by decide +kernel))) (goodIn_sub (fun _ h => List.mem_cons_of_mem _ (List.mem_append_right _ h)) (by decide +kernel))
set_option maxRecDepth 20000 in
theorem gL_renumber_X5_renumber : GoodIn wsL_renumber (wsV RL 70 RX5 yX5_renumber wsX5_renumber) := goodIn_app (goodIn_of _ (by decide +kernel)) ggL_renumber_X5_renumber
theorem dL_renumber_0 : decode cL_renumber 0 = .ok (.aload_n 2, 1) := by decide +kernel
theorem dL_renumber_1 : decode cL_renumber 1 = .ok (.iconst 0, 1) := by decide +kernel
theorem dL_renumber_2 : decode cL_renumber 2 = .ok (.aload_n 0, 1) := by decide +kernel
theorem dL_renumber_3 : decode cL_renumber 3 = .ok (.iload_n 1, 1) := by decide +kernel
theorem dL_renumber_4 : decode cL_renumber 4 = .ok (.invokevirtual 70, 3) := by decide +kernel
theorem dL_renumber_7 : decode cL_renumber 7 = .ok (.i2l, 1) := by decide +kernel
theorem dL_renumber_8 : decode cL_renumber 8 = .ok (.lastore, 1) := by decide +kernel
theorem dL_renumber_9 : decode cL_renumber 9 = .ok (.goto 9, 3) := by decide +kernel
theorem dL_renumber_12 : decode cL_renumber 12 = .ok (.astore_n 3, 1) := by decide +kernel
theorem dL_renumber_13 : decode cL_renumber 13 = .ok (.iconst 1, 1) := by decide +kernel
theorem dL_renumber_14 : decode cL_renumber 14 = .ok (.ireturn, 1) := by decide +kernel
theorem dL_renumber_15 : decode cL_renumber 15 = .ok (.astore_n 3, 1) := by decide +kernel
theorem dL_renumber_16 : decode cL_renumber 16 = .ok (.iconst 2, 1) := by decide +kernel
theorem dL_renumber_17 : decode cL_renumber 17 = .ok (.ireturn, 1) := by decide +kernel
theorem dL_renumber_18 : decode cL_renumber 18 = .ok (.iconst 0, 1) := by decide +kernel
theorem dL_renumber_19 : decode cL_renumber 19 = .ok (.ireturn, 1) := by decide +kernel
set_option maxRecDepth 20000 in
theorem ggL_number_X5_number : GoodIn wsL_number wsX5_number := goodIn_ca (goodIn_r _ [6, 7, 8, 9, 10, 5, 11, 12, 13, 14, 15, 16, 17, 18, 19, 20, 21, 22, 23, 24, 25, 26, 27, 28, 29, 30, 31, 32, 33, 34, 35, 36, 37, 38] (by decide +kernel) (by decide +kernel)) (goodIn_sub (fun _ h => List.mem_cons_of_mem _ (List.mem_append_right _ h)) (by decide +kernel))
set_option maxRecDepth 20000 in
theorem gL_number_X5_number : GoodIn wsL_number (wsV RL 73 RX5 yX5_number wsX5_number) := goodIn_app (goodIn_of _ (by decide +kernel)) ggL_number_X5_number
theorem dL_number_0 : decode cL_number 0 = .ok (.aload_n 2, 1) := by decide +kernel
theorem dL_number_1 : decode cL_number 1 = .ok (.iconst 0, 1) := by decide +kernel
theorem dL_number_2 : decode cL_number 2 = .ok (.aload_n 0, 1) := by decide +kernel
theorem dL_number_3 : decode cL_number 3 = .ok (.iload_n 1, 1) := by decide +kernel
theorem dL_number_4 : decode cL_number 4 = .ok (.invokevirtual 73, 3) := by decide +kernel
theorem dL_number_7 : decode cL_number 7 = .ok (.i2l, 1) := by decide +kernel
theorem dL_number_8 : decode cL_number 8 = .ok (.lastore, 1) := by decide +kernel
theorem dL_number_9 : decode cL_number 9 = .ok (.goto 6, 3) := by decide +kernel
theorem dL_number_12 : decode cL_number 12 = .ok (.astore_n 3, 1) := by decide +kernel
theorem dL_number_13 : decode cL_number 13 = .ok (.iconst 1, 1) := by decide +kernel
theorem dL_number_14 : decode cL_number 14 = .ok (.ireturn, 1) := by decide +kernel
theorem dL_number_15 : decode cL_number 15 = .ok (.iconst 0, 1) := by decide +kernel
theorem dL_number_16 : decode cL_number 16 = .ok (.ireturn, 1) := by decide +kernel
set_option maxRecDepth 20000 in
theorem ggL_bearer_X5_bearer : GoodIn wsL_bearer wsX5_bearer := goodIn_ca (goodIn_r _ [6, 7, 8, 9, 10, 11, 12, 5, 13, 14, 15, 16, 17, 18, 19, 20, 21, 22, 23, 24, 25, 26, 27, 28, 29, 30, 31, 32, 33, 34, 35, 36, 37, 38, 39, 40, 41, 42] (by decide +kernel) (by decide +kernel)) (goodIn_sub (fun _ h => List.mem_cons_of_mem _ (List.mem_append_right _ h)) (by decide +kernel))
set_option maxRecDepth 20000 in
theorem gL_bearer_X5_bearer : GoodIn wsL_bearer (wsV RL 76 RX5 yX5_bearer wsX5_bearer) := goodIn_app (goodIn_of _ (by decide +kernel)) ggL_bearer_X5_bearer
theorem dL_bearer_0 : decode cL_bearer 0 = .ok (.aload_n 2, 1) := by decide +kernel
theorem dL_bearer_1 : decode cL_bearer 1 = .ok (.iconst 0, 1) := by decide +kernel
theorem dL_bearer_2 : decode cL_bearer 2 = .ok (.aload_n 0, 1) := by decide +kernel
theorem dL_bearer_3 : decode cL_bearer 3 = .ok (.iload_n 1, 1) := by decide +kernel
theorem dL_bearer_4 : decode cL_bearer 4 = .ok (.invokevirtual 76, 3) := by decide +kernel
theorem dL_bearer_7 : decode cL_bearer 7 = .ok (.i2l, 1) := by decide +kernel
theorem dL_bearer_8 : decode cL_bearer 8 = .ok (.lastore, 1) := by decide +kernel
theorem dL_bearer_9 : decode cL_bearer 9 = .ok (.goto 6, 3) := by decide +kernel
theorem dL_bearer_12 : decode cL_bearer 12 = .ok (.astore_n 3, 1) := by decide +kernel
theorem dL_bearer_13 : decode cL_bearer 13 = .ok (.iconst 1, 1) := by decide +kernel
theorem dL_bearer_14 : decode cL_bearer 14 = .ok (.ireturn, 1) := by decide +kernel
theorem dL_bearer_15 : decode cL_bearer 15 = .ok (.iconst 0, 1) := by decide +kernel
theorem dL_bearer_16 : decode cL_bearer 16 = .ok (.ireturn, 1) := by decide +kernel
