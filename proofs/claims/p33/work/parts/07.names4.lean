theorem dX5_doubleOf_26 : decode cX5_doubleOf 26 = .ok (.invokevirtual 175, 3) := by decide +kernel
theorem dX5_doubleOf_29 : decode cX5_doubleOf 29 = .ok (.bipush 8, 2) := by decide +kernel
theorem dX5_doubleOf_31 : decode cX5_doubleOf 31 = .ok (.if_icmp .lt 5, 3) := by decide +kernel
theorem dX5_doubleOf_34 : decode cX5_doubleOf 34 = .ok (.iload_n 2, 1) := by decide +kernel
theorem dX5_doubleOf_35 : decode cX5_doubleOf 35 = .ok (.ireturn, 1) := by decide +kernel
theorem dX5_doubleOf_36 : decode cX5_doubleOf 36 = .ok (.iinc 2 1, 3) := by decide +kernel
theorem dX5_doubleOf_39 : decode cX5_doubleOf 39 = .ok (.goto (-32), 3) := by decide +kernel
theorem dX5_doubleOf_42 : decode cX5_doubleOf 42 = .ok (.iconst (-1), 1) := by decide +kernel
theorem dX5_doubleOf_43 : decode cX5_doubleOf 43 = .ok (.ireturn, 1) := by decide +kernel
set_option maxRecDepth 20000 in
theorem ggX5_renumber_X5_requirePerson : GoodIn wsX5_renumber wsX5_requirePerson := goodIn_ca (goodIn_r _ [6, 7, 8, 9, 33, 34, 35, 36, 37, 38, 39, 40, 41, 42, 43] (by decide +kernel) (by decide +kernel)) (goodIn_sub (fun _ h => List.mem_cons_of_mem _ (List.mem_append_left _ (List.mem_append_right _ h))) (by decide +kernel))
set_option maxRecDepth 20000 in
theorem gX5_renumber_X5_requirePerson : GoodIn wsX5_renumber (wsV RX5 112 RX5 yX5_requirePerson wsX5_requirePerson) := goodIn_app (goodIn_of _ (by decide +kernel)) ggX5_renumber_X5_requirePerson
set_option maxRecDepth 20000 in
theorem ggX5_renumber_X5_requireNumberLeft : GoodIn wsX5_renumber wsX5_requireNumberLeft := goodIn_ca (goodIn_r _ [13, 14, 15, 1, 33, 34, 35, 36, 37, 38, 39, 40, 41, 42, 43, 44, 45, 46, 47] (by decide +kernel) (by decide +kernel)) (goodIn_sub (fun _ h => List.mem_cons_of_mem _ (List.mem_append_right _ h)) (by decide +kernel))
set_option maxRecDepth 20000 in
theorem gX5_renumber_X5_requireNumberLeft : GoodIn wsX5_renumber (wsV RX5 90 RX5 yX5_requireNumberLeft wsX5_requireNumberLeft) := goodIn_app (goodIn_of _ (by decide +kernel)) ggX5_renumber_X5_requireNumberLeft
set_option maxRecDepth 20000 in
theorem ggX5_renumber_X3_give : GoodIn wsX5_renumber wsX3_give := goodIn_r _ [19, 20, 21, 22, 23, 24, 25, 17, 26, 27, 28, 29, 30, 31, 5, 32, 44, 45, 46, 47] (by decide +kernel) (by decide +kernel)
set_option maxRecDepth 20000 in
theorem gX5_renumber_X3_give_n93 : GoodIn wsX5_renumber (wsX3_give) := ggX5_renumber_X3_give
theorem dX5_renumber_0 : decode cX5_renumber 0 = .ok (.aload_n 0, 1) := by decide +kernel
theorem dX5_renumber_1 : decode cX5_renumber 1 = .ok (.iload_n 1, 1) := by decide +kernel
theorem dX5_renumber_2 : decode cX5_renumber 2 = .ok (.invokevirtual 112, 3) := by decide +kernel
theorem dX5_renumber_5 : decode cX5_renumber 5 = .ok (.aload_n 0, 1) := by decide +kernel
theorem dX5_renumber_6 : decode cX5_renumber 6 = .ok (.invokevirtual 90, 3) := by decide +kernel
theorem dX5_renumber_9 : decode cX5_renumber 9 = .ok (.aload_n 0, 1) := by decide +kernel
theorem dX5_renumber_10 : decode cX5_renumber 10 = .ok (.getfield 32, 3) := by decide +kernel
theorem dX5_renumber_13 : decode cX5_renumber 13 = .ok (.iload_n 1, 1) := by decide +kernel
theorem dX5_renumber_14 : decode cX5_renumber 14 = .ok (.invokevirtual 93, 3) := by decide +kernel
theorem dX5_renumber_17 : decode cX5_renumber 17 = .ok (.ireturn, 1) := by decide +kernel
set_option maxRecDepth 20000 in
theorem ggX5_number_X5_requirePerson : GoodIn wsX5_number wsX5_requirePerson := goodIn_ca (goodIn_r _ [6, 7, 8, 9, 19, 20, 21, 22, 23, 24, 25, 26, 27, 28, 29] (by decide +kernel) (by decide +kernel)) (goodIn_sub (fun _ h => List.mem_cons_of_mem _ (List.mem_append_right _ h)) (by decide +kernel))
set_option maxRecDepth 20000 in
theorem gX5_number_X5_requirePerson : GoodIn wsX5_number (wsV RX5 112 RX5 yX5_requirePerson wsX5_requirePerson) := goodIn_app (goodIn_of _ (by decide +kernel)) ggX5_number_X5_requirePerson
set_option maxRecDepth 20000 in
theorem ggX5_number_X3_lastOf : GoodIn wsX5_number wsX3_lastOf := goodIn_r _ [13, 14, 15, 16, 17, 5, 18, 30, 31, 32, 33] (by decide +kernel) (by decide +kernel)
set_option maxRecDepth 20000 in
theorem gX5_number_X3_lastOf_n178 : GoodIn wsX5_number (wsX3_lastOf) := ggX5_number_X3_lastOf
theorem dX5_number_0 : decode cX5_number 0 = .ok (.aload_n 0, 1) := by decide +kernel
theorem dX5_number_1 : decode cX5_number 1 = .ok (.iload_n 1, 1) := by decide +kernel
theorem dX5_number_2 : decode cX5_number 2 = .ok (.invokevirtual 112, 3) := by decide +kernel
theorem dX5_number_5 : decode cX5_number 5 = .ok (.aload_n 0, 1) := by decide +kernel
theorem dX5_number_6 : decode cX5_number 6 = .ok (.getfield 32, 3) := by decide +kernel
theorem dX5_number_9 : decode cX5_number 9 = .ok (.iload_n 1, 1) := by decide +kernel
theorem dX5_number_10 : decode cX5_number 10 = .ok (.invokevirtual 178, 3) := by decide +kernel
theorem dX5_number_13 : decode cX5_number 13 = .ok (.ireturn, 1) := by decide +kernel
set_option maxRecDepth 20000 in
theorem ggX5_bearer_X5_requireWithin : GoodIn wsX5_bearer wsX5_requireWithin := goodIn_ca (goodIn_r _ [8, 1, 2] (by decide +kernel) (by decide +kernel)) (goodIn_sub (fun _ h => List.mem_cons_of_mem _ (List.mem_append_right _ h)) (by decide +kernel))
set_option maxRecDepth 20000 in
theorem gX5_bearer_X5_requireWithin : GoodIn wsX5_bearer (va_wsS RX5 58 yX5_requireWithin wsX5_requireWithin) := goodIn_app (goodIn_of _ (by decide +kernel)) ggX5_bearer_X5_requireWithin
set_option maxRecDepth 20000 in
theorem ggX5_bearer_X3_isOfSerial : GoodIn wsX5_bearer wsX3_isOfSerial := goodIn_r _ [11, 12, 13, 10, 14] (by decide +kernel) (by decide +kernel)
set_option maxRecDepth 20000 in
theorem gX5_bearer_X3_isOfSerial_n182 : GoodIn wsX5_bearer (wsX3_isOfSerial) := ggX5_bearer_X3_isOfSerial
set_option maxRecDepth 20000 in
theorem ggX5_bearer_X3_personOf : GoodIn wsX5_bearer wsX3_personOf := goodIn_r _ [17, 18, 19, 20, 21, 7, 22, 34, 35, 36, 37] (by decide +kernel) (by decide +kernel)
set_option maxRecDepth 20000 in
theorem gX5_bearer_X3_personOf_n188 : GoodIn wsX5_bearer (wsX3_personOf) := ggX5_bearer_X3_personOf
theorem dX5_bearer_0 : decode cX5_bearer 0 = .ok (.iload_n 1, 1) := by decide +kernel
theorem dX5_bearer_1 : decode cX5_bearer 1 = .ok (.sipush 10000, 3) := by decide +kernel
theorem dX5_bearer_4 : decode cX5_bearer 4 = .ok (.ldc 181, 2) := by decide +kernel
theorem dX5_bearer_6 : decode cX5_bearer 6 = .ok (.invokestatic 58, 3) := by decide +kernel
theorem dX5_bearer_9 : decode cX5_bearer 9 = .ok (.iload_n 1, 1) := by decide +kernel
theorem dX5_bearer_10 : decode cX5_bearer 10 = .ok (.invokestatic 182, 3) := by decide +kernel
theorem dX5_bearer_13 : decode cX5_bearer 13 = .ok (.ifCond .ne 13, 3) := by decide +kernel
theorem dX5_bearer_16 : decode cX5_bearer 16 = .ok (.new 115, 3) := by decide +kernel
theorem dX5_bearer_19 : decode cX5_bearer 19 = .ok (.dup, 1) := by decide +kernel
theorem dX5_bearer_20 : decode cX5_bearer 20 = .ok (.ldc 186, 2) := by decide +kernel
theorem dX5_bearer_22 : decode cX5_bearer 22 = .ok (.invokespecial 119, 3) := by decide +kernel
theorem dX5_bearer_25 : decode cX5_bearer 25 = .ok (.athrow, 1) := by decide +kernel
theorem dX5_bearer_26 : decode cX5_bearer 26 = .ok (.aload_n 0, 1) := by decide +kernel
theorem dX5_bearer_27 : decode cX5_bearer 27 = .ok (.getfield 32, 3) := by decide +kernel
theorem dX5_bearer_30 : decode cX5_bearer 30 = .ok (.iload_n 1, 1) := by decide +kernel
theorem dX5_bearer_31 : decode cX5_bearer 31 = .ok (.invokevirtual 188, 3) := by decide +kernel
theorem dX5_bearer_34 : decode cX5_bearer 34 = .ok (.ireturn, 1) := by decide +kernel
set_option maxRecDepth 20000 in
theorem ggX5_roll_X5_requireOffice : GoodIn wsX5_roll wsX5_requireOffice := goodIn_ca (goodIn_r _ [11, 12, 13] (by decide +kernel) (by decide +kernel)) (goodIn_sub (fun _ h => List.mem_cons_of_mem _ (List.mem_append_left _ (List.mem_append_right _ h))) (by decide +kernel))
set_option maxRecDepth 20000 in
theorem gX5_roll_X5_requireOffice : GoodIn wsX5_roll (va_wsS RX5 158 yX5_requireOffice wsX5_requireOffice) := goodIn_app (goodIn_of _ (by decide +kernel)) ggX5_roll_X5_requireOffice
set_option maxRecDepth 20000 in
theorem ggX5_roll_X5_requireWithin : GoodIn wsX5_roll wsX5_requireWithin := goodIn_ca (goodIn_r _ [16, 17, 18] (by decide +kernel) (by decide +kernel)) (goodIn_sub (fun _ h => List.mem_cons_of_mem _ (List.mem_append_right _ h)) (by decide +kernel))
set_option maxRecDepth 20000 in
theorem gX5_roll_X5_requireWithin : GoodIn wsX5_roll (va_wsS RX5 58 yX5_requireWithin wsX5_requireWithin) := goodIn_app (goodIn_of _ (by decide +kernel)) ggX5_roll_X5_requireWithin
set_option maxRecDepth 20000 in
theorem ggX5_roll_X4_init : GoodIn wsX5_roll wsX4_init := goodIn_r _ [20, 21, 22, 23, 24, 25, 26, 27, 28, 29, 30, 31, 32, 44, 45, 46, 47, 48] (by decide +kernel) (by decide +kernel)
set_option maxRecDepth 20000 in
theorem gX5_roll_X4_init_n196 : GoodIn wsX5_roll (wsX4_init) := ggX5_roll_X4_init
theorem dX5_roll_0 : decode cX5_roll 0 = .ok (.iload_n 2, 1) := by decide +kernel
theorem dX5_roll_1 : decode cX5_roll 1 = .ok (.invokestatic 158, 3) := by decide +kernel
theorem dX5_roll_4 : decode cX5_roll 4 = .ok (.iload_n 1, 1) := by decide +kernel
theorem dX5_roll_5 : decode cX5_roll 5 = .ok (.iconst 0, 1) := by decide +kernel
theorem dX5_roll_6 : decode cX5_roll 6 = .ok (.iconst 3, 1) := by decide +kernel
theorem dX5_roll_7 : decode cX5_roll 7 = .ok (.invokestatic 58, 3) := by decide +kernel
theorem dX5_roll_10 : decode cX5_roll 10 = .ok (.aload_n 0, 1) := by decide +kernel
theorem dX5_roll_11 : decode cX5_roll 11 = .ok (.getfield 191, 3) := by decide +kernel
theorem dX5_roll_14 : decode cX5_roll 14 = .ok (.istore_n 3, 1) := by decide +kernel
theorem dX5_roll_15 : decode cX5_roll 15 = .ok (.iload_n 3, 1) := by decide +kernel
theorem dX5_roll_16 : decode cX5_roll 16 = .ok (.ifCond .lt 12, 3) := by decide +kernel
theorem dX5_roll_19 : decode cX5_roll 19 = .ok (.iload_n 3, 1) := by decide +kernel
theorem dX5_roll_20 : decode cX5_roll 20 = .ok (.aload_n 0, 1) := by decide +kernel
theorem dX5_roll_21 : decode cX5_roll 21 = .ok (.getfield 38, 3) := by decide +kernel
theorem dX5_roll_24 : decode cX5_roll 24 = .ok (.arraylength, 1) := by decide +kernel
theorem dX5_roll_25 : decode cX5_roll 25 = .ok (.if_icmp .lt 13, 3) := by decide +kernel
theorem dX5_roll_28 : decode cX5_roll 28 = .ok (.new 62, 3) := by decide +kernel
theorem dX5_roll_31 : decode cX5_roll 31 = .ok (.dup, 1) := by decide +kernel
theorem dX5_roll_32 : decode cX5_roll 32 = .ok (.ldc 194, 2) := by decide +kernel
theorem dX5_roll_34 : decode cX5_roll 34 = .ok (.invokespecial 66, 3) := by decide +kernel
theorem dX5_roll_37 : decode cX5_roll 37 = .ok (.athrow, 1) := by decide +kernel
theorem dX5_roll_38 : decode cX5_roll 38 = .ok (.aload_n 0, 1) := by decide +kernel
theorem dX5_roll_39 : decode cX5_roll 39 = .ok (.getfield 38, 3) := by decide +kernel
theorem dX5_roll_42 : decode cX5_roll 42 = .ok (.iload_n 3, 1) := by decide +kernel
theorem dX5_roll_43 : decode cX5_roll 43 = .ok (.new 36, 3) := by decide +kernel
theorem dX5_roll_46 : decode cX5_roll 46 = .ok (.dup, 1) := by decide +kernel
theorem dX5_roll_47 : decode cX5_roll 47 = .ok (.iload_n 1, 1) := by decide +kernel
theorem dX5_roll_48 : decode cX5_roll 48 = .ok (.iload_n 2, 1) := by decide +kernel
theorem dX5_roll_49 : decode cX5_roll 49 = .ok (.invokespecial 196, 3) := by decide +kernel
theorem dX5_roll_52 : decode cX5_roll 52 = .ok (.aastore, 1) := by decide +kernel
theorem dX5_roll_53 : decode cX5_roll 53 = .ok (.aload_n 0, 1) := by decide +kernel
theorem dX5_roll_54 : decode cX5_roll 54 = .ok (.dup, 1) := by decide +kernel
theorem dX5_roll_55 : decode cX5_roll 55 = .ok (.getfield 191, 3) := by decide +kernel
theorem dX5_roll_58 : decode cX5_roll 58 = .ok (.iconst 1, 1) := by decide +kernel
theorem dX5_roll_59 : decode cX5_roll 59 = .ok (.iadd, 1) := by decide +kernel
theorem dX5_roll_60 : decode cX5_roll 60 = .ok (.putfield 191, 3) := by decide +kernel
theorem dX5_roll_63 : decode cX5_roll 63 = .ok (.iload_n 3, 1) := by decide +kernel
theorem dX5_roll_64 : decode cX5_roll 64 = .ok (.ireturn, 1) := by decide +kernel
set_option maxRecDepth 20000 in
theorem ggX5_deliver_X5_requireRoll : GoodIn wsX5_deliver wsX5_requireRoll := goodIn_ca (goodIn_r _ [6, 7, 8, 9, 86, 87, 88, 89, 90, 91, 92, 93, 94, 95, 96] (by decide +kernel) (by decide +kernel)) (goodIn_sub (fun _ h => List.mem_cons_of_mem _ (List.mem_append_right _ h)) (by decide +kernel))
set_option maxRecDepth 20000 in
theorem gX5_deliver_X5_requireRoll : GoodIn wsX5_deliver (wsV RX5 198 RX5 yX5_requireRoll wsX5_requireRoll) := goodIn_app (goodIn_of _ (by decide +kernel)) ggX5_deliver_X5_requireRoll
set_option maxRecDepth 20000 in
theorem ggX5_deliver_X5_dueTo : GoodIn wsX5_deliver wsX5_dueTo := goodIn_r _ [13, 14, 15, 16, 5, 17, 18, 19, 20, 21, 22, 23, 24, 25, 26, 27, 28, 29, 30, 31, 32, 33, 34, 35, 36, 37, 38, 39, 40, 41, 42, 43, 44, 45, 46, 47, 97, 98, 99, 100, 101, 86, 87, 88, 89, 90, 91, 92, 93, 94, 95, 96, 102, 103, 104, 105, 106, 107, 108, 109, 110, 111, 112, 113, 114] (by decide +kernel) (by decide +kernel)
set_option maxRecDepth 20000 in
theorem gX5_deliver_X5_dueTo : GoodIn wsX5_deliver (wsV RX5 202 RX5 yX5_dueTo wsX5_dueTo) := goodIn_app (goodIn_of _ (by decide +kernel)) ggX5_deliver_X5_dueTo
set_option maxRecDepth 20000 in
theorem ggX5_deliver_X4_take : GoodIn wsX5_deliver wsX4_take := goodIn_r _ [50, 51, 52, 53, 54, 55, 56, 46, 57, 58, 59, 60, 61, 62, 63, 64, 65, 66, 67, 68, 69, 70, 71, 72, 73, 74, 75, 76, 77, 78, 5, 79, 80, 81, 82, 83, 84, 85, 97, 98, 99, 100, 101] (by decide +kernel) (by decide +kernel)
set_option maxRecDepth 20000 in
theorem gX5_deliver_X4_take_n206 : GoodIn wsX5_deliver (wsX4_take) := ggX5_deliver_X4_take
theorem dX5_deliver_0 : decode cX5_deliver 0 = .ok (.aload_n 0, 1) := by decide +kernel
theorem dX5_deliver_1 : decode cX5_deliver 1 = .ok (.iload_n 1, 1) := by decide +kernel
theorem dX5_deliver_2 : decode cX5_deliver 2 = .ok (.invokevirtual 198, 3) := by decide +kernel
theorem dX5_deliver_5 : decode cX5_deliver 5 = .ok (.astore_n 2, 1) := by decide +kernel
theorem dX5_deliver_6 : decode cX5_deliver 6 = .ok (.iconst 0, 1) := by decide +kernel
theorem dX5_deliver_7 : decode cX5_deliver 7 = .ok (.istore_n 3, 1) := by decide +kernel
theorem dX5_deliver_8 : decode cX5_deliver 8 = .ok (.iconst 0, 1) := by decide +kernel
theorem dX5_deliver_9 : decode cX5_deliver 9 = .ok (.istore 4, 2) := by decide +kernel
theorem dX5_deliver_11 : decode cX5_deliver 11 = .ok (.iload 4, 2) := by decide +kernel
theorem dX5_deliver_13 : decode cX5_deliver 13 = .ok (.aload_n 0, 1) := by decide +kernel
theorem dX5_deliver_14 : decode cX5_deliver 14 = .ok (.getfield 82, 3) := by decide +kernel
theorem dX5_deliver_17 : decode cX5_deliver 17 = .ok (.if_icmp .ge 33, 3) := by decide +kernel
theorem dX5_deliver_20 : decode cX5_deliver 20 = .ok (.aload_n 0, 1) := by decide +kernel
theorem dX5_deliver_21 : decode cX5_deliver 21 = .ok (.aload_n 2, 1) := by decide +kernel
theorem dX5_deliver_22 : decode cX5_deliver 22 = .ok (.iload 4, 2) := by decide +kernel
theorem dX5_deliver_24 : decode cX5_deliver 24 = .ok (.invokevirtual 202, 3) := by decide +kernel
theorem dX5_deliver_27 : decode cX5_deliver 27 = .ok (.istore 5, 2) := by decide +kernel
theorem dX5_deliver_29 : decode cX5_deliver 29 = .ok (.iload 5, 2) := by decide +kernel
theorem dX5_deliver_31 : decode cX5_deliver 31 = .ok (.iconst (-1), 1) := by decide +kernel
theorem dX5_deliver_32 : decode cX5_deliver 32 = .ok (.if_icmp .eq 12, 3) := by decide +kernel
theorem dX5_deliver_35 : decode cX5_deliver 35 = .ok (.aload_n 2, 1) := by decide +kernel
theorem dX5_deliver_36 : decode cX5_deliver 36 = .ok (.iload 5, 2) := by decide +kernel
theorem dX5_deliver_38 : decode cX5_deliver 38 = .ok (.invokevirtual 206, 3) := by decide +kernel
theorem dX5_deliver_41 : decode cX5_deliver 41 = .ok (.iinc 3 1, 3) := by decide +kernel
theorem dX5_deliver_44 : decode cX5_deliver 44 = .ok (.iinc 4 1, 3) := by decide +kernel
theorem dX5_deliver_47 : decode cX5_deliver 47 = .ok (.goto (-36), 3) := by decide +kernel
theorem dX5_deliver_50 : decode cX5_deliver 50 = .ok (.iload_n 3, 1) := by decide +kernel
theorem dX5_deliver_51 : decode cX5_deliver 51 = .ok (.ireturn, 1) := by decide +kernel
set_option maxRecDepth 20000 in
theorem ggX5_owes_X5_requireRoll : GoodIn wsX5_owes wsX5_requireRoll := goodIn_ca (goodIn_r _ [6, 7, 8, 9, 48, 49, 50, 51, 52, 53, 54, 55, 56, 57, 58] (by decide +kernel) (by decide +kernel)) (goodIn_sub (fun _ h => List.mem_cons_of_mem _ (List.mem_append_right _ h)) (by decide +kernel))
set_option maxRecDepth 20000 in
theorem gX5_owes_X5_requireRoll : GoodIn wsX5_owes (wsV RX5 198 RX5 yX5_requireRoll wsX5_requireRoll) := goodIn_app (goodIn_of _ (by decide +kernel)) ggX5_owes_X5_requireRoll
set_option maxRecDepth 20000 in
theorem ggX5_owes_X5_dueTo : GoodIn wsX5_owes wsX5_dueTo := goodIn_r _ [13, 14, 15, 16, 5, 17, 18, 19, 20, 21, 22, 23, 24, 25, 26, 27, 28, 29, 30, 31, 32, 33, 34, 35, 36, 37, 38, 39, 40, 41, 42, 43, 44, 45, 46, 47, 59, 60, 61, 62, 63, 48, 49, 50, 51, 52, 53, 54, 55, 56, 57, 58, 64, 65, 66, 67, 68, 69, 70, 71, 72, 73, 74, 75, 76] (by decide +kernel) (by decide +kernel)
set_option maxRecDepth 20000 in
theorem gX5_owes_X5_dueTo : GoodIn wsX5_owes (wsV RX5 202 RX5 yX5_dueTo wsX5_dueTo) := goodIn_app (goodIn_of _ (by decide +kernel)) ggX5_owes_X5_dueTo
theorem dX5_owes_0 : decode cX5_owes 0 = .ok (.aload_n 0, 1) := by decide +kernel
theorem dX5_owes_1 : decode cX5_owes 1 = .ok (.iload_n 1, 1) := by decide +kernel
theorem dX5_owes_2 : decode cX5_owes 2 = .ok (.invokevirtual 198, 3) := by decide +kernel
theorem dX5_owes_5 : decode cX5_owes 5 = .ok (.astore_n 2, 1) := by decide +kernel
theorem dX5_owes_6 : decode cX5_owes 6 = .ok (.iconst 0, 1) := by decide +kernel
theorem dX5_owes_7 : decode cX5_owes 7 = .ok (.istore_n 3, 1) := by decide +kernel
theorem dX5_owes_8 : decode cX5_owes 8 = .ok (.iconst 0, 1) := by decide +kernel
theorem dX5_owes_9 : decode cX5_owes 9 = .ok (.istore 4, 2) := by decide +kernel
theorem dX5_owes_11 : decode cX5_owes 11 = .ok (.iload 4, 2) := by decide +kernel
theorem dX5_owes_13 : decode cX5_owes 13 = .ok (.aload_n 0, 1) := by decide +kernel
theorem dX5_owes_14 : decode cX5_owes 14 = .ok (.getfield 82, 3) := by decide +kernel
theorem dX5_owes_17 : decode cX5_owes 17 = .ok (.if_icmp .ge 23, 3) := by decide +kernel
theorem dX5_owes_20 : decode cX5_owes 20 = .ok (.aload_n 0, 1) := by decide +kernel
theorem dX5_owes_21 : decode cX5_owes 21 = .ok (.aload_n 2, 1) := by decide +kernel
theorem dX5_owes_22 : decode cX5_owes 22 = .ok (.iload 4, 2) := by decide +kernel
theorem dX5_owes_24 : decode cX5_owes 24 = .ok (.invokevirtual 202, 3) := by decide +kernel
theorem dX5_owes_27 : decode cX5_owes 27 = .ok (.iconst (-1), 1) := by decide +kernel
theorem dX5_owes_28 : decode cX5_owes 28 = .ok (.if_icmp .eq 6, 3) := by decide +kernel
theorem dX5_owes_31 : decode cX5_owes 31 = .ok (.iinc 3 1, 3) := by decide +kernel
theorem dX5_owes_34 : decode cX5_owes 34 = .ok (.iinc 4 1, 3) := by decide +kernel
theorem dX5_owes_37 : decode cX5_owes 37 = .ok (.goto (-26), 3) := by decide +kernel
theorem dX5_owes_40 : decode cX5_owes 40 = .ok (.iload_n 3, 1) := by decide +kernel
theorem dX5_owes_41 : decode cX5_owes 41 = .ok (.ireturn, 1) := by decide +kernel
set_option maxRecDepth 20000 in
theorem ggX5_message_X5_requireRoll : GoodIn wsX5_message wsX5_requireRoll := goodIn_ca (goodIn_r _ [7, 1, 2, 8, 17, 18, 19, 20, 21, 22, 23, 24, 25, 26, 27] (by decide +kernel) (by decide +kernel)) (goodIn_sub (fun _ h => List.mem_cons_of_mem _ (List.mem_append_right _ h)) (by decide +kernel))
set_option maxRecDepth 20000 in
theorem gX5_message_X5_requireRoll : GoodIn wsX5_message (wsV RX5 198 RX5 yX5_requireRoll wsX5_requireRoll) := goodIn_app (goodIn_of _ (by decide +kernel)) ggX5_message_X5_requireRoll
set_option maxRecDepth 20000 in
theorem ggX5_message_X5_at : GoodIn wsX5_message wsX5_at := goodIn_r _ [11] (by decide +kernel) (by decide +kernel)
set_option maxRecDepth 20000 in
theorem gX5_message_X5_at : GoodIn wsX5_message (va_wsS RX5 220 yX5_at wsX5_at) := goodIn_app (goodIn_of _ (by decide +kernel)) ggX5_message_X5_at
theorem dX5_message_0 : decode cX5_message 0 = .ok (.aload_n 0, 1) := by decide +kernel
theorem dX5_message_1 : decode cX5_message 1 = .ok (.iload_n 1, 1) := by decide +kernel
theorem dX5_message_2 : decode cX5_message 2 = .ok (.invokevirtual 198, 3) := by decide +kernel
theorem dX5_message_5 : decode cX5_message 5 = .ok (.astore_n 3, 1) := by decide +kernel
theorem dX5_message_6 : decode cX5_message 6 = .ok (.iload_n 2, 1) := by decide +kernel
theorem dX5_message_7 : decode cX5_message 7 = .ok (.ifCond .lt 11, 3) := by decide +kernel
theorem dX5_message_10 : decode cX5_message 10 = .ok (.iload_n 2, 1) := by decide +kernel
theorem dX5_message_11 : decode cX5_message 11 = .ok (.aload_n 3, 1) := by decide +kernel
theorem dX5_message_12 : decode cX5_message 12 = .ok (.getfield 209, 3) := by decide +kernel
theorem dX5_message_15 : decode cX5_message 15 = .ok (.if_icmp .lt 13, 3) := by decide +kernel
theorem dX5_message_18 : decode cX5_message 18 = .ok (.new 212, 3) := by decide +kernel
theorem dX5_message_21 : decode cX5_message 21 = .ok (.dup, 1) := by decide +kernel
theorem dX5_message_22 : decode cX5_message 22 = .ok (.ldc 214, 2) := by decide +kernel
theorem dX5_message_24 : decode cX5_message 24 = .ok (.invokespecial 216, 3) := by decide +kernel
theorem dX5_message_27 : decode cX5_message 27 = .ok (.athrow, 1) := by decide +kernel
theorem dX5_message_28 : decode cX5_message 28 = .ok (.aload_n 3, 1) := by decide +kernel
theorem dX5_message_29 : decode cX5_message 29 = .ok (.getfield 217, 3) := by decide +kernel
theorem dX5_message_32 : decode cX5_message 32 = .ok (.iload_n 2, 1) := by decide +kernel
theorem dX5_message_33 : decode cX5_message 33 = .ok (.invokestatic 220, 3) := by decide +kernel
theorem dX5_message_36 : decode cX5_message 36 = .ok (.ireturn, 1) := by decide +kernel
set_option maxRecDepth 20000 in
theorem ggX5_holds_X5_requireRoll : GoodIn wsX5_holds wsX5_requireRoll := goodIn_ca (goodIn_r _ [5, 6, 7, 8, 22, 23, 24, 25, 26, 27, 28, 29, 30, 31, 32] (by decide +kernel) (by decide +kernel)) (goodIn_sub (fun _ h => List.mem_cons_of_mem _ (List.mem_append_right _ h)) (by decide +kernel))
set_option maxRecDepth 20000 in
theorem gX5_holds_X5_requireRoll : GoodIn wsX5_holds (wsV RX5 198 RX5 yX5_requireRoll wsX5_requireRoll) := goodIn_app (goodIn_of _ (by decide +kernel)) ggX5_holds_X5_requireRoll
set_option maxRecDepth 20000 in
theorem ggX5_holds_X5_requirePerson : GoodIn wsX5_holds wsX5_requirePerson := goodIn_ca (goodIn_r _ [12, 6, 7, 13, 22, 23, 24, 25, 26, 27, 28, 29, 30, 31, 32] (by decide +kernel) (by decide +kernel)) (goodIn_sub (fun _ h => List.mem_cons_of_mem _ (List.mem_append_right _ h)) (by decide +kernel))
set_option maxRecDepth 20000 in
theorem gX5_holds_X5_requirePerson : GoodIn wsX5_holds (wsV RX5 112 RX5 yX5_requirePerson wsX5_requirePerson) := goodIn_app (goodIn_of _ (by decide +kernel)) ggX5_holds_X5_requirePerson
set_option maxRecDepth 20000 in
theorem ggX5_holds_X5_at : GoodIn wsX5_holds wsX5_at := goodIn_r _ [16] (by decide +kernel) (by decide +kernel)
set_option maxRecDepth 20000 in
theorem gX5_holds_X5_at : GoodIn wsX5_holds (va_wsS RX5 220 yX5_at wsX5_at) := goodIn_app (goodIn_of _ (by decide +kernel)) ggX5_holds_X5_at
theorem dX5_holds_0 : decode cX5_holds 0 = .ok (.aload_n 0, 1) := by decide +kernel
theorem dX5_holds_1 : decode cX5_holds 1 = .ok (.iload_n 1, 1) := by decide +kernel
theorem dX5_holds_2 : decode cX5_holds 2 = .ok (.invokevirtual 198, 3) := by decide +kernel
theorem dX5_holds_5 : decode cX5_holds 5 = .ok (.astore_n 3, 1) := by decide +kernel
theorem dX5_holds_6 : decode cX5_holds 6 = .ok (.aload_n 0, 1) := by decide +kernel
theorem dX5_holds_7 : decode cX5_holds 7 = .ok (.iload_n 2, 1) := by decide +kernel
theorem dX5_holds_8 : decode cX5_holds 8 = .ok (.invokevirtual 112, 3) := by decide +kernel
theorem dX5_holds_11 : decode cX5_holds 11 = .ok (.aload_n 3, 1) := by decide +kernel
theorem dX5_holds_12 : decode cX5_holds 12 = .ok (.getfield 224, 3) := by decide +kernel
theorem dX5_holds_15 : decode cX5_holds 15 = .ok (.iload_n 2, 1) := by decide +kernel
theorem dX5_holds_16 : decode cX5_holds 16 = .ok (.invokestatic 220, 3) := by decide +kernel
theorem dX5_holds_19 : decode cX5_holds 19 = .ok (.ireturn, 1) := by decide +kernel
set_option maxRecDepth 20000 in
theorem ggX5_holdsAnew_X5_requireRoll : GoodIn wsX5_holdsAnew wsX5_requireRoll := goodIn_ca (goodIn_r _ [5, 6, 7, 8, 28, 29, 30, 31, 32, 33, 34, 35, 36, 37, 38] (by decide +kernel) (by decide +kernel)) (goodIn_sub (fun _ h => List.mem_cons_of_mem _ (List.mem_append_right _ h)) (by decide +kernel))
set_option maxRecDepth 20000 in
theorem gX5_holdsAnew_X5_requireRoll : GoodIn wsX5_holdsAnew (wsV RX5 198 RX5 yX5_requireRoll wsX5_requireRoll) := goodIn_app (goodIn_of _ (by decide +kernel)) ggX5_holdsAnew_X5_requireRoll
set_option maxRecDepth 20000 in
theorem ggX5_holdsAnew_X5_requirePerson : GoodIn wsX5_holdsAnew wsX5_requirePerson := goodIn_ca (goodIn_r _ [12, 6, 7, 13, 28, 29, 30, 31, 32, 33, 34, 35, 36, 37, 38] (by decide +kernel) (by decide +kernel)) (goodIn_sub (fun _ h => List.mem_cons_of_mem _ (List.mem_append_right _ h)) (by decide +kernel))
set_option maxRecDepth 20000 in
theorem gX5_holdsAnew_X5_requirePerson : GoodIn wsX5_holdsAnew (wsV RX5 112 RX5 yX5_requirePerson wsX5_requirePerson) := goodIn_app (goodIn_of _ (by decide +kernel)) ggX5_holdsAnew_X5_requirePerson
set_option maxRecDepth 20000 in
theorem ggX5_holdsAnew_X4_findAnew : GoodIn wsX5_holdsAnew wsX4_findAnew := goodIn_r _ [17, 18, 19, 20, 4, 21, 22, 23, 15, 24, 25, 26, 27, 39, 40, 41, 42, 43] (by decide +kernel) (by decide +kernel)
set_option maxRecDepth 20000 in
theorem gX5_holdsAnew_X4_findAnew_n227 : GoodIn wsX5_holdsAnew (wsX4_findAnew) := ggX5_holdsAnew_X4_findAnew
theorem dX5_holdsAnew_0 : decode cX5_holdsAnew 0 = .ok (.aload_n 0, 1) := by decide +kernel
theorem dX5_holdsAnew_1 : decode cX5_holdsAnew 1 = .ok (.iload_n 1, 1) := by decide +kernel
theorem dX5_holdsAnew_2 : decode cX5_holdsAnew 2 = .ok (.invokevirtual 198, 3) := by decide +kernel
theorem dX5_holdsAnew_5 : decode cX5_holdsAnew 5 = .ok (.astore_n 3, 1) := by decide +kernel
theorem dX5_holdsAnew_6 : decode cX5_holdsAnew 6 = .ok (.aload_n 0, 1) := by decide +kernel
theorem dX5_holdsAnew_7 : decode cX5_holdsAnew 7 = .ok (.iload_n 2, 1) := by decide +kernel
theorem dX5_holdsAnew_8 : decode cX5_holdsAnew 8 = .ok (.invokevirtual 112, 3) := by decide +kernel
theorem dX5_holdsAnew_11 : decode cX5_holdsAnew 11 = .ok (.aload_n 3, 1) := by decide +kernel
theorem dX5_holdsAnew_12 : decode cX5_holdsAnew 12 = .ok (.iload_n 2, 1) := by decide +kernel
theorem dX5_holdsAnew_13 : decode cX5_holdsAnew 13 = .ok (.invokevirtual 227, 3) := by decide +kernel
theorem dX5_holdsAnew_16 : decode cX5_holdsAnew 16 = .ok (.ireturn, 1) := by decide +kernel
set_option maxRecDepth 20000 in
theorem ggX5_bar_X5_requirePerson : GoodIn wsX5_bar wsX5_requirePerson := goodIn_ca (goodIn_r _ [6, 7, 8, 9, 16, 17, 18, 19, 20, 21, 22, 23, 24, 25, 26] (by decide +kernel) (by decide +kernel)) (goodIn_sub (fun _ h => List.mem_cons_of_mem _ (List.mem_append_right _ h)) (by decide +kernel))
set_option maxRecDepth 20000 in
theorem gX5_bar_X5_requirePerson : GoodIn wsX5_bar (wsV RX5 112 RX5 yX5_requirePerson wsX5_requirePerson) := goodIn_app (goodIn_of _ (by decide +kernel)) ggX5_bar_X5_requirePerson
set_option maxRecDepth 20000 in
theorem ggX5_bar_X5_isSet : GoodIn wsX5_bar wsX5_isSet := goodIn_r _ [12] (by decide +kernel) (by decide +kernel)
set_option maxRecDepth 20000 in
theorem gX5_bar_X5_isSet : GoodIn wsX5_bar (va_wsS RX5 230 yX5_isSet wsX5_isSet) := goodIn_app (goodIn_of _ (by decide +kernel)) ggX5_bar_X5_isSet
set_option maxRecDepth 20000 in
theorem ggX5_bar_X5_set : GoodIn wsX5_bar wsX5_set := goodIn_r _ [15] (by decide +kernel) (by decide +kernel)
set_option maxRecDepth 20000 in
theorem gX5_bar_X5_set : GoodIn wsX5_bar (va_wsS RX5 234 yX5_set wsX5_set) := goodIn_app (goodIn_of _ (by decide +kernel)) ggX5_bar_X5_set
theorem dX5_bar_0 : decode cX5_bar 0 = .ok (.aload_n 0, 1) := by decide +kernel
theorem dX5_bar_1 : decode cX5_bar 1 = .ok (.iload_n 1, 1) := by decide +kernel
theorem dX5_bar_2 : decode cX5_bar 2 = .ok (.invokevirtual 112, 3) := by decide +kernel
theorem dX5_bar_5 : decode cX5_bar 5 = .ok (.aload_n 0, 1) := by decide +kernel
theorem dX5_bar_6 : decode cX5_bar 6 = .ok (.getfield 42, 3) := by decide +kernel
theorem dX5_bar_9 : decode cX5_bar 9 = .ok (.iload_n 1, 1) := by decide +kernel
theorem dX5_bar_10 : decode cX5_bar 10 = .ok (.invokestatic 230, 3) := by decide +kernel
theorem dX5_bar_13 : decode cX5_bar 13 = .ok (.istore_n 3, 1) := by decide +kernel
theorem dX5_bar_14 : decode cX5_bar 14 = .ok (.aload_n 0, 1) := by decide +kernel
theorem dX5_bar_15 : decode cX5_bar 15 = .ok (.getfield 42, 3) := by decide +kernel
theorem dX5_bar_18 : decode cX5_bar 18 = .ok (.iload_n 1, 1) := by decide +kernel
theorem dX5_bar_19 : decode cX5_bar 19 = .ok (.iload_n 2, 1) := by decide +kernel
theorem dX5_bar_20 : decode cX5_bar 20 = .ok (.invokestatic 234, 3) := by decide +kernel
theorem dX5_bar_23 : decode cX5_bar 23 = .ok (.iload_n 3, 1) := by decide +kernel
theorem dX5_bar_24 : decode cX5_bar 24 = .ok (.ireturn, 1) := by decide +kernel
set_option maxRecDepth 20000 in
theorem ggX5_look_X5_requirePerson : GoodIn wsX5_look wsX5_requirePerson := goodIn_ca (goodIn_r _ [8, 9, 10, 11, 31, 32, 33, 34, 35, 36, 37, 38, 39, 40, 41] (by decide +kernel) (by decide +kernel)) (goodIn_sub (fun _ h => List.mem_cons_of_mem _ (List.mem_append_left _ (List.mem_append_right _ h))) (by decide +kernel))
set_option maxRecDepth 20000 in
theorem gX5_look_X5_requirePerson : GoodIn wsX5_look (wsV RX5 112 RX5 yX5_requirePerson wsX5_requirePerson) := goodIn_app (goodIn_of _ (by decide +kernel)) ggX5_look_X5_requirePerson
set_option maxRecDepth 20000 in
theorem ggX5_look_X5_requireWithin : GoodIn wsX5_look wsX5_requireWithin := goodIn_ca (goodIn_r _ [14, 15, 16] (by decide +kernel) (by decide +kernel)) (goodIn_sub (fun _ h => List.mem_cons_of_mem _ (List.mem_append_right _ h)) (by decide +kernel))
set_option maxRecDepth 20000 in
theorem gX5_look_X5_requireWithin : GoodIn wsX5_look (va_wsS RX5 58 yX5_requireWithin wsX5_requireWithin) := goodIn_app (goodIn_of _ (by decide +kernel)) ggX5_look_X5_requireWithin
set_option maxRecDepth 20000 in
theorem ggX5_look_X5_at : GoodIn wsX5_look wsX5_at := goodIn_r _ [19] (by decide +kernel) (by decide +kernel)
set_option maxRecDepth 20000 in
theorem gX5_look_X5_at : GoodIn wsX5_look (va_wsS RX5 220 yX5_at wsX5_at) := goodIn_app (goodIn_of _ (by decide +kernel)) ggX5_look_X5_at
set_option maxRecDepth 20000 in
theorem ggX5_look_X5_put : GoodIn wsX5_look wsX5_put := goodIn_r _ [22] (by decide +kernel) (by decide +kernel)
set_option maxRecDepth 20000 in
theorem gX5_look_X5_put : GoodIn wsX5_look (va_wsS RX5 238 yX5_put wsX5_put) := goodIn_app (goodIn_of _ (by decide +kernel)) ggX5_look_X5_put
set_option maxRecDepth 20000 in
theorem ggX5_look_X5_isSet : GoodIn wsX5_look wsX5_isSet := goodIn_r _ [25] (by decide +kernel) (by decide +kernel)
set_option maxRecDepth 20000 in
theorem gX5_look_X5_isSet : GoodIn wsX5_look (va_wsS RX5 230 yX5_isSet wsX5_isSet) := goodIn_app (goodIn_of _ (by decide +kernel)) ggX5_look_X5_isSet
set_option maxRecDepth 20000 in
theorem ggX5_look_X2_dwellingOf : GoodIn wsX5_look wsX2_dwellingOf := goodIn_r _ [29, 30, 18, 7, 19, 42, 43, 44, 45, 46, 47, 48, 49, 50, 51, 52, 53, 54] (by decide +kernel) (by decide +kernel)
set_option maxRecDepth 20000 in
theorem gX5_look_X2_dwellingOf_n242 : GoodIn wsX5_look (wsX2_dwellingOf) := ggX5_look_X2_dwellingOf
theorem dX5_look_0 : decode cX5_look 0 = .ok (.aload_n 0, 1) := by decide +kernel
theorem dX5_look_1 : decode cX5_look 1 = .ok (.iload_n 2, 1) := by decide +kernel
theorem dX5_look_2 : decode cX5_look 2 = .ok (.invokevirtual 112, 3) := by decide +kernel
theorem dX5_look_5 : decode cX5_look 5 = .ok (.iload_n 1, 1) := by decide +kernel
theorem dX5_look_6 : decode cX5_look 6 = .ok (.iconst 0, 1) := by decide +kernel
theorem dX5_look_7 : decode cX5_look 7 = .ok (.iconst 3, 1) := by decide +kernel
theorem dX5_look_8 : decode cX5_look 8 = .ok (.invokestatic 58, 3) := by decide +kernel
theorem dX5_look_11 : decode cX5_look 11 = .ok (.aload_n 0, 1) := by decide +kernel
theorem dX5_look_12 : decode cX5_look 12 = .ok (.getfield 46, 3) := by decide +kernel
theorem dX5_look_15 : decode cX5_look 15 = .ok (.iload_n 2, 1) := by decide +kernel
theorem dX5_look_16 : decode cX5_look 16 = .ok (.aload_n 0, 1) := by decide +kernel
theorem dX5_look_17 : decode cX5_look 17 = .ok (.getfield 46, 3) := by decide +kernel
theorem dX5_look_20 : decode cX5_look 20 = .ok (.iload_n 2, 1) := by decide +kernel
theorem dX5_look_21 : decode cX5_look 21 = .ok (.invokestatic 220, 3) := by decide +kernel
theorem dX5_look_24 : decode cX5_look 24 = .ok (.iconst 1, 1) := by decide +kernel
theorem dX5_look_25 : decode cX5_look 25 = .ok (.iadd, 1) := by decide +kernel
theorem dX5_look_26 : decode cX5_look 26 = .ok (.invokestatic 238, 3) := by decide +kernel
theorem dX5_look_29 : decode cX5_look 29 = .ok (.iload_n 1, 1) := by decide +kernel
theorem dX5_look_30 : decode cX5_look 30 = .ok (.ifCond .eq 17, 3) := by decide +kernel
theorem dX5_look_33 : decode cX5_look 33 = .ok (.aload_n 0, 1) := by decide +kernel
theorem dX5_look_34 : decode cX5_look 34 = .ok (.getfield 42, 3) := by decide +kernel
theorem dX5_look_37 : decode cX5_look 37 = .ok (.iload_n 2, 1) := by decide +kernel
theorem dX5_look_38 : decode cX5_look 38 = .ok (.invokestatic 230, 3) := by decide +kernel
theorem dX5_look_41 : decode cX5_look 41 = .ok (.ifCond .eq 6, 3) := by decide +kernel
theorem dX5_look_44 : decode cX5_look 44 = .ok (.bipush (-2), 2) := by decide +kernel
theorem dX5_look_46 : decode cX5_look 46 = .ok (.ireturn, 1) := by decide +kernel
theorem dX5_look_47 : decode cX5_look 47 = .ok (.aload_n 0, 1) := by decide +kernel
theorem dX5_look_48 : decode cX5_look 48 = .ok (.getfield 19, 3) := by decide +kernel
theorem dX5_look_51 : decode cX5_look 51 = .ok (.iload_n 2, 1) := by decide +kernel
theorem dX5_look_52 : decode cX5_look 52 = .ok (.invokevirtual 242, 3) := by decide +kernel
theorem dX5_look_55 : decode cX5_look 55 = .ok (.ireturn, 1) := by decide +kernel
set_option maxRecDepth 20000 in
theorem ggX5_looks_X5_requirePerson : GoodIn wsX5_looks wsX5_requirePerson := goodIn_ca (goodIn_r _ [6, 7, 8, 9, 13, 14, 15, 16, 17, 18, 19, 20, 21, 22, 23] (by decide +kernel) (by decide +kernel)) (goodIn_sub (fun _ h => List.mem_cons_of_mem _ (List.mem_append_right _ h)) (by decide +kernel))
set_option maxRecDepth 20000 in
theorem gX5_looks_X5_requirePerson : GoodIn wsX5_looks (wsV RX5 112 RX5 yX5_requirePerson wsX5_requirePerson) := goodIn_app (goodIn_of _ (by decide +kernel)) ggX5_looks_X5_requirePerson
set_option maxRecDepth 20000 in
theorem ggX5_looks_X5_at : GoodIn wsX5_looks wsX5_at := goodIn_r _ [12] (by decide +kernel) (by decide +kernel)
set_option maxRecDepth 20000 in
theorem gX5_looks_X5_at : GoodIn wsX5_looks (va_wsS RX5 220 yX5_at wsX5_at) := goodIn_app (goodIn_of _ (by decide +kernel)) ggX5_looks_X5_at
theorem dX5_looks_0 : decode cX5_looks 0 = .ok (.aload_n 0, 1) := by decide +kernel
theorem dX5_looks_1 : decode cX5_looks 1 = .ok (.iload_n 1, 1) := by decide +kernel
theorem dX5_looks_2 : decode cX5_looks 2 = .ok (.invokevirtual 112, 3) := by decide +kernel
theorem dX5_looks_5 : decode cX5_looks 5 = .ok (.aload_n 0, 1) := by decide +kernel
theorem dX5_looks_6 : decode cX5_looks 6 = .ok (.getfield 46, 3) := by decide +kernel
theorem dX5_looks_9 : decode cX5_looks 9 = .ok (.iload_n 1, 1) := by decide +kernel
theorem dX5_looks_10 : decode cX5_looks 10 = .ok (.invokestatic 220, 3) := by decide +kernel
theorem dX5_looks_13 : decode cX5_looks 13 = .ok (.ireturn, 1) := by decide +kernel
theorem dX5_requirePerson_0 : decode cX5_requirePerson 0 = .ok (.iload_n 1, 1) := by decide +kernel
theorem dX5_requirePerson_1 : decode cX5_requirePerson 1 = .ok (.ifCond .lt 11, 3) := by decide +kernel
theorem dX5_requirePerson_4 : decode cX5_requirePerson 4 = .ok (.iload_n 1, 1) := by decide +kernel
theorem dX5_requirePerson_5 : decode cX5_requirePerson 5 = .ok (.aload_n 0, 1) := by decide +kernel
theorem dX5_requirePerson_6 : decode cX5_requirePerson 6 = .ok (.getfield 82, 3) := by decide +kernel
theorem dX5_requirePerson_9 : decode cX5_requirePerson 9 = .ok (.if_icmp .lt 13, 3) := by decide +kernel
theorem dX5_requirePerson_12 : decode cX5_requirePerson 12 = .ok (.new 212, 3) := by decide +kernel
theorem dX5_requirePerson_15 : decode cX5_requirePerson 15 = .ok (.dup, 1) := by decide +kernel
theorem dX5_requirePerson_16 : decode cX5_requirePerson 16 = .ok (.ldc 245, 2) := by decide +kernel
theorem dX5_requirePerson_18 : decode cX5_requirePerson 18 = .ok (.invokespecial 216, 3) := by decide +kernel
theorem dX5_requirePerson_21 : decode cX5_requirePerson 21 = .ok (.athrow, 1) := by decide +kernel
theorem dX5_requirePerson_22 : decode cX5_requirePerson 22 = .ok (.return_, 1) := by decide +kernel
set_option maxRecDepth 20000 in
theorem ggX5_requirePersonOrNone_X5_requirePerson : GoodIn wsX5_requirePersonOrNone wsX5_requirePerson := goodIn_ca (goodIn_r _ [5, 6, 7, 8, 9, 10, 11, 12, 13, 14, 15, 16, 17, 18, 19] (by decide +kernel) (by decide +kernel)) (goodIn_sub (fun _ h => List.mem_cons_of_mem _ (List.mem_append_right _ h)) (by decide +kernel))
set_option maxRecDepth 20000 in
theorem gX5_requirePersonOrNone_X5_requirePerson : GoodIn wsX5_requirePersonOrNone (wsV RX5 112 RX5 yX5_requirePerson wsX5_requirePerson) := goodIn_app (goodIn_of _ (by decide +kernel)) ggX5_requirePersonOrNone_X5_requirePerson
theorem dX5_requirePersonOrNone_0 : decode cX5_requirePersonOrNone 0 = .ok (.iload_n 1, 1) := by decide +kernel
theorem dX5_requirePersonOrNone_1 : decode cX5_requirePersonOrNone 1 = .ok (.iconst (-1), 1) := by decide +kernel
theorem dX5_requirePersonOrNone_2 : decode cX5_requirePersonOrNone 2 = .ok (.if_icmp .eq 8, 3) := by decide +kernel
theorem dX5_requirePersonOrNone_5 : decode cX5_requirePersonOrNone 5 = .ok (.aload_n 0, 1) := by decide +kernel
theorem dX5_requirePersonOrNone_6 : decode cX5_requirePersonOrNone 6 = .ok (.iload_n 1, 1) := by decide +kernel
theorem dX5_requirePersonOrNone_7 : decode cX5_requirePersonOrNone 7 = .ok (.invokevirtual 112, 3) := by decide +kernel
theorem dX5_requirePersonOrNone_10 : decode cX5_requirePersonOrNone 10 = .ok (.return_, 1) := by decide +kernel
theorem dX5_requireDwelling_0 : decode cX5_requireDwelling 0 = .ok (.iload_n 0, 1) := by decide +kernel
theorem dX5_requireDwelling_1 : decode cX5_requireDwelling 1 = .ok (.ifCond .lt 9, 3) := by decide +kernel
theorem dX5_requireDwelling_4 : decode cX5_requireDwelling 4 = .ok (.iload_n 0, 1) := by decide +kernel
theorem dX5_requireDwelling_5 : decode cX5_requireDwelling 5 = .ok (.bipush 16, 2) := by decide +kernel
theorem dX5_requireDwelling_7 : decode cX5_requireDwelling 7 = .ok (.if_icmp .lt 13, 3) := by decide +kernel
theorem dX5_requireDwelling_10 : decode cX5_requireDwelling 10 = .ok (.new 212, 3) := by decide +kernel
theorem dX5_requireDwelling_13 : decode cX5_requireDwelling 13 = .ok (.dup, 1) := by decide +kernel
theorem dX5_requireDwelling_14 : decode cX5_requireDwelling 14 = .ok (.ldc 247, 2) := by decide +kernel
theorem dX5_requireDwelling_16 : decode cX5_requireDwelling 16 = .ok (.invokespecial 216, 3) := by decide +kernel
theorem dX5_requireDwelling_19 : decode cX5_requireDwelling 19 = .ok (.athrow, 1) := by decide +kernel
theorem dX5_requireDwelling_20 : decode cX5_requireDwelling 20 = .ok (.return_, 1) := by decide +kernel
theorem dX5_requireOffice_0 : decode cX5_requireOffice 0 = .ok (.iload_n 0, 1) := by decide +kernel
theorem dX5_requireOffice_1 : decode cX5_requireOffice 1 = .ok (.ifCond .lt 8, 3) := by decide +kernel
theorem dX5_requireOffice_4 : decode cX5_requireOffice 4 = .ok (.iload_n 0, 1) := by decide +kernel
theorem dX5_requireOffice_5 : decode cX5_requireOffice 5 = .ok (.iconst 4, 1) := by decide +kernel
theorem dX5_requireOffice_6 : decode cX5_requireOffice 6 = .ok (.if_icmp .lt 13, 3) := by decide +kernel
theorem dX5_requireOffice_9 : decode cX5_requireOffice 9 = .ok (.new 212, 3) := by decide +kernel
theorem dX5_requireOffice_12 : decode cX5_requireOffice 12 = .ok (.dup, 1) := by decide +kernel
theorem dX5_requireOffice_13 : decode cX5_requireOffice 13 = .ok (.ldc 249, 2) := by decide +kernel
theorem dX5_requireOffice_15 : decode cX5_requireOffice 15 = .ok (.invokespecial 216, 3) := by decide +kernel
theorem dX5_requireOffice_18 : decode cX5_requireOffice 18 = .ok (.athrow, 1) := by decide +kernel
theorem dX5_requireOffice_19 : decode cX5_requireOffice 19 = .ok (.return_, 1) := by decide +kernel
set_option maxRecDepth 20000 in
theorem ggX5_requireAct_X1_find : GoodIn wsX5_requireAct wsX1_find := goodIn_r _ [7, 8, 20, 21, 22] (by decide +kernel) (by decide +kernel)
set_option maxRecDepth 20000 in
theorem gX5_requireAct_X1_find_n251 : GoodIn wsX5_requireAct (wsX1_find) := ggX5_requireAct_X1_find
theorem dX5_requireAct_0 : decode cX5_requireAct 0 = .ok (.aload_n 0, 1) := by decide +kernel
theorem dX5_requireAct_1 : decode cX5_requireAct 1 = .ok (.getfield 10, 3) := by decide +kernel
theorem dX5_requireAct_4 : decode cX5_requireAct 4 = .ok (.iload_n 1, 1) := by decide +kernel
theorem dX5_requireAct_5 : decode cX5_requireAct 5 = .ok (.invokevirtual 251, 3) := by decide +kernel
theorem dX5_requireAct_8 : decode cX5_requireAct 8 = .ok (.astore_n 2, 1) := by decide +kernel
theorem dX5_requireAct_9 : decode cX5_requireAct 9 = .ok (.aload_n 2, 1) := by decide +kernel
theorem dX5_requireAct_10 : decode cX5_requireAct 10 = .ok (.ifnonnull 13, 3) := by decide +kernel
theorem dX5_requireAct_13 : decode cX5_requireAct 13 = .ok (.new 212, 3) := by decide +kernel
theorem dX5_requireAct_16 : decode cX5_requireAct 16 = .ok (.dup, 1) := by decide +kernel
theorem dX5_requireAct_17 : decode cX5_requireAct 17 = .ok (.ldc 253, 2) := by decide +kernel
theorem dX5_requireAct_19 : decode cX5_requireAct 19 = .ok (.invokespecial 216, 3) := by decide +kernel
theorem dX5_requireAct_22 : decode cX5_requireAct 22 = .ok (.athrow, 1) := by decide +kernel
theorem dX5_requireAct_23 : decode cX5_requireAct 23 = .ok (.aload_n 2, 1) := by decide +kernel
theorem dX5_requireAct_24 : decode cX5_requireAct 24 = .ok (.areturn, 1) := by decide +kernel
theorem dX5_requireRoll_0 : decode cX5_requireRoll 0 = .ok (.iload_n 1, 1) := by decide +kernel
theorem dX5_requireRoll_1 : decode cX5_requireRoll 1 = .ok (.ifCond .lt 21, 3) := by decide +kernel
theorem dX5_requireRoll_4 : decode cX5_requireRoll 4 = .ok (.iload_n 1, 1) := by decide +kernel
theorem dX5_requireRoll_5 : decode cX5_requireRoll 5 = .ok (.aload_n 0, 1) := by decide +kernel
theorem dX5_requireRoll_6 : decode cX5_requireRoll 6 = .ok (.getfield 38, 3) := by decide +kernel
theorem dX5_requireRoll_9 : decode cX5_requireRoll 9 = .ok (.arraylength, 1) := by decide +kernel
theorem dX5_requireRoll_10 : decode cX5_requireRoll 10 = .ok (.if_icmp .ge 12, 3) := by decide +kernel
theorem dX5_requireRoll_13 : decode cX5_requireRoll 13 = .ok (.aload_n 0, 1) := by decide +kernel
theorem dX5_requireRoll_14 : decode cX5_requireRoll 14 = .ok (.getfield 38, 3) := by decide +kernel
theorem dX5_requireRoll_17 : decode cX5_requireRoll 17 = .ok (.iload_n 1, 1) := by decide +kernel
theorem dX5_requireRoll_18 : decode cX5_requireRoll 18 = .ok (.aaload, 1) := by decide +kernel
theorem dX5_requireRoll_19 : decode cX5_requireRoll 19 = .ok (.goto 4, 3) := by decide +kernel
theorem dX5_requireRoll_22 : decode cX5_requireRoll 22 = .ok (.aconst_null, 1) := by decide +kernel
theorem dX5_requireRoll_23 : decode cX5_requireRoll 23 = .ok (.astore_n 2, 1) := by decide +kernel
theorem dX5_requireRoll_24 : decode cX5_requireRoll 24 = .ok (.aload_n 2, 1) := by decide +kernel
theorem dX5_requireRoll_25 : decode cX5_requireRoll 25 = .ok (.ifnonnull 13, 3) := by decide +kernel
theorem dX5_requireRoll_28 : decode cX5_requireRoll 28 = .ok (.new 212, 3) := by decide +kernel
theorem dX5_requireRoll_31 : decode cX5_requireRoll 31 = .ok (.dup, 1) := by decide +kernel
theorem dX5_requireRoll_32 : decode cX5_requireRoll 32 = .ok (.ldc 255, 2) := by decide +kernel
theorem dX5_requireRoll_34 : decode cX5_requireRoll 34 = .ok (.invokespecial 216, 3) := by decide +kernel
theorem dX5_requireRoll_37 : decode cX5_requireRoll 37 = .ok (.athrow, 1) := by decide +kernel
theorem dX5_requireRoll_38 : decode cX5_requireRoll 38 = .ok (.aload_n 2, 1) := by decide +kernel
theorem dX5_requireRoll_39 : decode cX5_requireRoll 39 = .ok (.areturn, 1) := by decide +kernel
theorem dX5_requireWithin_0 : decode cX5_requireWithin 0 = .ok (.iload_n 0, 1) := by decide +kernel
theorem dX5_requireWithin_1 : decode cX5_requireWithin 1 = .ok (.iload_n 1, 1) := by decide +kernel
theorem dX5_requireWithin_2 : decode cX5_requireWithin 2 = .ok (.if_icmp .lt 8, 3) := by decide +kernel
theorem dX5_requireWithin_5 : decode cX5_requireWithin 5 = .ok (.iload_n 0, 1) := by decide +kernel
theorem dX5_requireWithin_6 : decode cX5_requireWithin 6 = .ok (.iload_n 2, 1) := by decide +kernel
theorem dX5_requireWithin_7 : decode cX5_requireWithin 7 = .ok (.if_icmp .le 14, 3) := by decide +kernel
theorem dX5_requireWithin_10 : decode cX5_requireWithin 10 = .ok (.new 115, 3) := by decide +kernel
theorem dX5_requireWithin_13 : decode cX5_requireWithin 13 = .ok (.dup, 1) := by decide +kernel
theorem dX5_requireWithin_14 : decode cX5_requireWithin 14 = .ok (.ldc_w 257, 3) := by decide +kernel
theorem dX5_requireWithin_17 : decode cX5_requireWithin 17 = .ok (.invokespecial 119, 3) := by decide +kernel
theorem dX5_requireWithin_20 : decode cX5_requireWithin 20 = .ok (.athrow, 1) := by decide +kernel
theorem dX5_requireWithin_21 : decode cX5_requireWithin 21 = .ok (.return_, 1) := by decide +kernel
set_option maxRecDepth 20000 in
theorem ggX5_requireDay_X5_requireWithin : GoodIn wsX5_requireDay wsX5_requireWithin := goodIn_ca (goodIn_r _ [5, 6, 7] (by decide +kernel) (by decide +kernel)) (goodIn_sub (fun _ h => List.mem_cons_of_mem _ (List.mem_append_right _ h)) (by decide +kernel))
set_option maxRecDepth 20000 in
theorem gX5_requireDay_X5_requireWithin : GoodIn wsX5_requireDay (va_wsS RX5 58 yX5_requireWithin wsX5_requireWithin) := goodIn_app (goodIn_of _ (by decide +kernel)) ggX5_requireDay_X5_requireWithin
theorem dX5_requireDay_0 : decode cX5_requireDay 0 = .ok (.iload_n 1, 1) := by decide +kernel
theorem dX5_requireDay_1 : decode cX5_requireDay 1 = .ok (.iconst 0, 1) := by decide +kernel
theorem dX5_requireDay_2 : decode cX5_requireDay 2 = .ok (.aload_n 0, 1) := by decide +kernel
theorem dX5_requireDay_3 : decode cX5_requireDay 3 = .ok (.getfield 50, 3) := by decide +kernel
theorem dX5_requireDay_6 : decode cX5_requireDay 6 = .ok (.invokestatic 58, 3) := by decide +kernel
theorem dX5_requireDay_9 : decode cX5_requireDay 9 = .ok (.return_, 1) := by decide +kernel
theorem dX5_requireUnlike_0 : decode cX5_requireUnlike 0 = .ok (.iload_n 0, 1) := by decide +kernel
theorem dX5_requireUnlike_1 : decode cX5_requireUnlike 1 = .ok (.iload_n 1, 1) := by decide +kernel
theorem dX5_requireUnlike_2 : decode cX5_requireUnlike 2 = .ok (.if_icmp .ne 14, 3) := by decide +kernel
theorem dX5_requireUnlike_5 : decode cX5_requireUnlike 5 = .ok (.new 115, 3) := by decide +kernel
theorem dX5_requireUnlike_8 : decode cX5_requireUnlike 8 = .ok (.dup, 1) := by decide +kernel
theorem dX5_requireUnlike_9 : decode cX5_requireUnlike 9 = .ok (.ldc_w 259, 3) := by decide +kernel
theorem dX5_requireUnlike_12 : decode cX5_requireUnlike 12 = .ok (.invokespecial 119, 3) := by decide +kernel
theorem dX5_requireUnlike_15 : decode cX5_requireUnlike 15 = .ok (.athrow, 1) := by decide +kernel
theorem dX5_requireUnlike_16 : decode cX5_requireUnlike 16 = .ok (.return_, 1) := by decide +kernel
theorem dX5_requireActLeft_0 : decode cX5_requireActLeft 0 = .ok (.aload_n 0, 1) := by decide +kernel
theorem dX5_requireActLeft_1 : decode cX5_requireActLeft 1 = .ok (.getfield 10, 3) := by decide +kernel
theorem dX5_requireActLeft_4 : decode cX5_requireActLeft 4 = .ok (.getfield 261, 3) := by decide +kernel
theorem dX5_requireActLeft_7 : decode cX5_requireActLeft 7 = .ok (.sipush 150, 3) := by decide +kernel
theorem dX5_requireActLeft_10 : decode cX5_requireActLeft 10 = .ok (.if_icmp .lt 14, 3) := by decide +kernel
theorem dX5_requireActLeft_13 : decode cX5_requireActLeft 13 = .ok (.new 62, 3) := by decide +kernel
theorem dX5_requireActLeft_16 : decode cX5_requireActLeft 16 = .ok (.dup, 1) := by decide +kernel
theorem dX5_requireActLeft_17 : decode cX5_requireActLeft 17 = .ok (.ldc_w 262, 3) := by decide +kernel
theorem dX5_requireActLeft_20 : decode cX5_requireActLeft 20 = .ok (.invokespecial 66, 3) := by decide +kernel
theorem dX5_requireActLeft_23 : decode cX5_requireActLeft 23 = .ok (.athrow, 1) := by decide +kernel
theorem dX5_requireActLeft_24 : decode cX5_requireActLeft 24 = .ok (.return_, 1) := by decide +kernel
theorem dX5_requireNumberLeft_0 : decode cX5_requireNumberLeft 0 = .ok (.aload_n 0, 1) := by decide +kernel
theorem dX5_requireNumberLeft_1 : decode cX5_requireNumberLeft 1 = .ok (.getfield 32, 3) := by decide +kernel
theorem dX5_requireNumberLeft_4 : decode cX5_requireNumberLeft 4 = .ok (.getfield 264, 3) := by decide +kernel
theorem dX5_requireNumberLeft_7 : decode cX5_requireNumberLeft 7 = .ok (.bipush 60, 2) := by decide +kernel
theorem dX5_requireNumberLeft_9 : decode cX5_requireNumberLeft 9 = .ok (.if_icmp .lt 14, 3) := by decide +kernel
theorem dX5_requireNumberLeft_12 : decode cX5_requireNumberLeft 12 = .ok (.new 62, 3) := by decide +kernel
theorem dX5_requireNumberLeft_15 : decode cX5_requireNumberLeft 15 = .ok (.dup, 1) := by decide +kernel
theorem dX5_requireNumberLeft_16 : decode cX5_requireNumberLeft 16 = .ok (.ldc_w 267, 3) := by decide +kernel
theorem dX5_requireNumberLeft_19 : decode cX5_requireNumberLeft 19 = .ok (.invokespecial 66, 3) := by decide +kernel
theorem dX5_requireNumberLeft_22 : decode cX5_requireNumberLeft 22 = .ok (.athrow, 1) := by decide +kernel
theorem dX5_requireNumberLeft_23 : decode cX5_requireNumberLeft 23 = .ok (.return_, 1) := by decide +kernel
theorem dX5_at_0 : decode cX5_at 0 = .ok (.iload_n 1, 1) := by decide +kernel
theorem dX5_at_1 : decode cX5_at 1 = .ok (.ifCond .lt 15, 3) := by decide +kernel
theorem dX5_at_4 : decode cX5_at 4 = .ok (.iload_n 1, 1) := by decide +kernel
theorem dX5_at_5 : decode cX5_at 5 = .ok (.aload_n 0, 1) := by decide +kernel
theorem dX5_at_6 : decode cX5_at 6 = .ok (.arraylength, 1) := by decide +kernel
theorem dX5_at_7 : decode cX5_at 7 = .ok (.if_icmp .ge 9, 3) := by decide +kernel
theorem dX5_at_10 : decode cX5_at 10 = .ok (.aload_n 0, 1) := by decide +kernel
theorem dX5_at_11 : decode cX5_at 11 = .ok (.iload_n 1, 1) := by decide +kernel
theorem dX5_at_12 : decode cX5_at 12 = .ok (.iaload, 1) := by decide +kernel
theorem dX5_at_13 : decode cX5_at 13 = .ok (.goto 4, 3) := by decide +kernel
theorem dX5_at_16 : decode cX5_at 16 = .ok (.iconst (-1), 1) := by decide +kernel
theorem dX5_at_17 : decode cX5_at 17 = .ok (.ireturn, 1) := by decide +kernel
theorem dX5_put_0 : decode cX5_put 0 = .ok (.iload_n 1, 1) := by decide +kernel
theorem dX5_put_1 : decode cX5_put 1 = .ok (.ifCond .lt 13, 3) := by decide +kernel
theorem dX5_put_4 : decode cX5_put 4 = .ok (.iload_n 1, 1) := by decide +kernel
theorem dX5_put_5 : decode cX5_put 5 = .ok (.aload_n 0, 1) := by decide +kernel
theorem dX5_put_6 : decode cX5_put 6 = .ok (.arraylength, 1) := by decide +kernel
theorem dX5_put_7 : decode cX5_put 7 = .ok (.if_icmp .ge 7, 3) := by decide +kernel
theorem dX5_put_10 : decode cX5_put 10 = .ok (.aload_n 0, 1) := by decide +kernel
theorem dX5_put_11 : decode cX5_put 11 = .ok (.iload_n 1, 1) := by decide +kernel
theorem dX5_put_12 : decode cX5_put 12 = .ok (.iload_n 2, 1) := by decide +kernel
theorem dX5_put_13 : decode cX5_put 13 = .ok (.iastore, 1) := by decide +kernel
theorem dX5_put_14 : decode cX5_put 14 = .ok (.return_, 1) := by decide +kernel
theorem dX5_isSet_0 : decode cX5_isSet 0 = .ok (.iload_n 1, 1) := by decide +kernel
theorem dX5_isSet_1 : decode cX5_isSet 1 = .ok (.ifCond .lt 19, 3) := by decide +kernel
theorem dX5_isSet_4 : decode cX5_isSet 4 = .ok (.iload_n 1, 1) := by decide +kernel
theorem dX5_isSet_5 : decode cX5_isSet 5 = .ok (.aload_n 0, 1) := by decide +kernel
theorem dX5_isSet_6 : decode cX5_isSet 6 = .ok (.arraylength, 1) := by decide +kernel
theorem dX5_isSet_7 : decode cX5_isSet 7 = .ok (.if_icmp .ge 13, 3) := by decide +kernel
theorem dX5_isSet_10 : decode cX5_isSet 10 = .ok (.aload_n 0, 1) := by decide +kernel
theorem dX5_isSet_11 : decode cX5_isSet 11 = .ok (.iload_n 1, 1) := by decide +kernel
theorem dX5_isSet_12 : decode cX5_isSet 12 = .ok (.baload, 1) := by decide +kernel
theorem dX5_isSet_13 : decode cX5_isSet 13 = .ok (.ifCond .eq 7, 3) := by decide +kernel
theorem dX5_isSet_16 : decode cX5_isSet 16 = .ok (.iconst 1, 1) := by decide +kernel
theorem dX5_isSet_17 : decode cX5_isSet 17 = .ok (.goto 4, 3) := by decide +kernel
theorem dX5_isSet_20 : decode cX5_isSet 20 = .ok (.iconst 0, 1) := by decide +kernel
theorem dX5_isSet_21 : decode cX5_isSet 21 = .ok (.ireturn, 1) := by decide +kernel
theorem dX5_set_0 : decode cX5_set 0 = .ok (.iload_n 1, 1) := by decide +kernel
theorem dX5_set_1 : decode cX5_set 1 = .ok (.ifCond .lt 13, 3) := by decide +kernel
theorem dX5_set_4 : decode cX5_set 4 = .ok (.iload_n 1, 1) := by decide +kernel
theorem dX5_set_5 : decode cX5_set 5 = .ok (.aload_n 0, 1) := by decide +kernel
theorem dX5_set_6 : decode cX5_set 6 = .ok (.arraylength, 1) := by decide +kernel
theorem dX5_set_7 : decode cX5_set 7 = .ok (.if_icmp .ge 7, 3) := by decide +kernel
theorem dX5_set_10 : decode cX5_set 10 = .ok (.aload_n 0, 1) := by decide +kernel
theorem dX5_set_11 : decode cX5_set 11 = .ok (.iload_n 1, 1) := by decide +kernel
theorem dX5_set_12 : decode cX5_set 12 = .ok (.iload_n 2, 1) := by decide +kernel
theorem dX5_set_13 : decode cX5_set 13 = .ok (.bastore, 1) := by decide +kernel
theorem dX5_set_14 : decode cX5_set 14 = .ok (.return_, 1) := by decide +kernel
set_option maxRecDepth 20000 in
theorem ggX5_tell_X1_add : GoodIn wsX5_tell wsX1_add := goodIn_r _ [7, 8, 9, 10, 11, 12, 5, 13, 14, 115, 116, 117, 105, 106, 107, 108, 109, 110, 111, 112, 113, 114] (by decide +kernel) (by decide +kernel)
set_option maxRecDepth 20000 in
theorem gX5_tell_X1_add_n269 : GoodIn wsX5_tell (wsX1_add) := ggX5_tell_X1_add
set_option maxRecDepth 20000 in
theorem ggX5_tell_X2_happen : GoodIn wsX5_tell wsX2_happen := goodIn_r _ [18, 19, 20, 21, 22, 23, 24, 25, 26, 27, 16, 28, 29, 30, 31, 32, 33, 34, 35, 36, 37, 38, 39, 40, 41, 42, 43, 44, 45, 46, 47, 48, 49, 50, 51, 52, 53, 54, 55, 56, 57, 58, 59, 60, 61, 62, 118, 119, 120, 121, 122, 123, 124, 125, 126, 127, 128, 129, 130, 105, 106, 107, 108, 109, 110, 111, 112, 113, 114] (by decide +kernel) (by decide +kernel)
set_option maxRecDepth 20000 in
theorem gX5_tell_X2_happen_n276 : GoodIn wsX5_tell (wsX2_happen) := ggX5_tell_X2_happen
set_option maxRecDepth 20000 in
theorem ggX5_tell_X2_begin : GoodIn wsX5_tell wsX2_begin := goodIn_r _ [65, 66, 67, 68, 69, 70, 71, 16, 72, 19, 60, 29, 20, 21, 43, 30, 31, 32, 73, 74, 75, 76, 77, 78, 79, 80, 81, 5, 82, 83, 9, 84, 85, 86, 87, 88, 89, 37, 23, 38, 22, 24, 118, 119, 120, 121, 122, 123, 124, 125, 126, 127, 128, 129, 130, 115, 116, 117, 105, 106, 107, 108, 109, 110, 111, 112, 113, 114] (by decide +kernel) (by decide +kernel)
set_option maxRecDepth 20000 in
theorem gX5_tell_X2_begin_n161 : GoodIn wsX5_tell (wsX2_begin) := ggX5_tell_X2_begin
set_option maxRecDepth 20000 in
theorem ggX5_tell_X2_goOn : GoodIn wsX5_tell wsX2_goOn := goodIn_r _ [92, 67, 68, 66, 84, 85, 86, 87, 88, 89, 93, 15, 17, 16, 18, 19, 20, 21, 22, 23, 24, 25, 26, 27, 28, 29, 30, 31, 32, 33, 34, 35, 36, 37, 38, 39, 40, 41, 42, 43, 44, 45, 46, 47, 48, 49, 50, 51, 52, 53, 54, 55, 56, 57, 58, 59, 60, 61, 62, 118, 119, 120, 121, 122, 123, 124, 125, 126, 127, 128, 129, 130, 105, 106, 107, 108, 109, 110, 111, 112, 113, 114] (by decide +kernel) (by decide +kernel)
set_option maxRecDepth 20000 in
theorem gX5_tell_X2_goOn_n69 : GoodIn wsX5_tell (wsX2_goOn) := ggX5_tell_X2_goOn
theorem dX5_tell_0 : decode cX5_tell 0 = .ok (.aload_n 0, 1) := by decide +kernel
theorem dX5_tell_1 : decode cX5_tell 1 = .ok (.getfield 10, 3) := by decide +kernel
theorem dX5_tell_4 : decode cX5_tell 4 = .ok (.aload_n 1, 1) := by decide +kernel
theorem dX5_tell_5 : decode cX5_tell 5 = .ok (.invokevirtual 269, 3) := by decide +kernel
theorem dX5_tell_8 : decode cX5_tell 8 = .ok (.aload_n 1, 1) := by decide +kernel
theorem dX5_tell_9 : decode cX5_tell 9 = .ok (.getfield 142, 3) := by decide +kernel
theorem dX5_tell_12 : decode cX5_tell 12 = .ok (.iconst (-1), 1) := by decide +kernel
theorem dX5_tell_13 : decode cX5_tell 13 = .ok (.if_icmp .eq 21, 3) := by decide +kernel
theorem dX5_tell_16 : decode cX5_tell 16 = .ok (.aload_n 1, 1) := by decide +kernel
theorem dX5_tell_17 : decode cX5_tell 17 = .ok (.getfield 273, 3) := by decide +kernel
theorem dX5_tell_20 : decode cX5_tell 20 = .ok (.ifnonnull 14, 3) := by decide +kernel
theorem dX5_tell_23 : decode cX5_tell 23 = .ok (.aload_n 0, 1) := by decide +kernel
theorem dX5_tell_24 : decode cX5_tell 24 = .ok (.getfield 19, 3) := by decide +kernel
theorem dX5_tell_27 : decode cX5_tell 27 = .ok (.aload_n 1, 1) := by decide +kernel
theorem dX5_tell_28 : decode cX5_tell 28 = .ok (.invokevirtual 276, 3) := by decide +kernel
theorem dX5_tell_31 : decode cX5_tell 31 = .ok (.goto 29, 3) := by decide +kernel
theorem dX5_tell_34 : decode cX5_tell 34 = .ok (.aload_n 0, 1) := by decide +kernel
theorem dX5_tell_35 : decode cX5_tell 35 = .ok (.getfield 19, 3) := by decide +kernel
theorem dX5_tell_38 : decode cX5_tell 38 = .ok (.aload_n 0, 1) := by decide +kernel
theorem dX5_tell_39 : decode cX5_tell 39 = .ok (.getfield 10, 3) := by decide +kernel
theorem dX5_tell_42 : decode cX5_tell 42 = .ok (.aload_n 0, 1) := by decide +kernel
theorem dX5_tell_43 : decode cX5_tell 43 = .ok (.getfield 50, 3) := by decide +kernel
theorem dX5_tell_46 : decode cX5_tell 46 = .ok (.invokevirtual 161, 3) := by decide +kernel
theorem dX5_tell_49 : decode cX5_tell 49 = .ok (.aload_n 0, 1) := by decide +kernel
theorem dX5_tell_50 : decode cX5_tell 50 = .ok (.getfield 19, 3) := by decide +kernel
theorem dX5_tell_53 : decode cX5_tell 53 = .ok (.aload_n 0, 1) := by decide +kernel
theorem dX5_tell_54 : decode cX5_tell 54 = .ok (.getfield 50, 3) := by decide +kernel
theorem dX5_tell_57 : decode cX5_tell 57 = .ok (.invokevirtual 69, 3) := by decide +kernel
theorem dX5_tell_60 : decode cX5_tell 60 = .ok (.aload_n 1, 1) := by decide +kernel
theorem dX5_tell_61 : decode cX5_tell 61 = .ok (.getfield 148, 3) := by decide +kernel
theorem dX5_tell_64 : decode cX5_tell 64 = .ok (.ireturn, 1) := by decide +kernel
set_option maxRecDepth 20000 in
theorem ggX5_dueTo_X5_at : GoodIn wsX5_dueTo wsX5_at := goodIn_r _ [5] (by decide +kernel) (by decide +kernel)
set_option maxRecDepth 20000 in
theorem gX5_dueTo_X5_at : GoodIn wsX5_dueTo (va_wsS RX5 220 yX5_at wsX5_at) := goodIn_app (goodIn_of _ (by decide +kernel)) ggX5_dueTo_X5_at
set_option maxRecDepth 20000 in
theorem ggX5_dueTo_X5_isOfKind : GoodIn wsX5_dueTo wsX5_isOfKind := goodIn_r _ [9, 1, 10, 11, 12, 13, 14, 15, 16, 17, 18, 19, 20, 3, 4, 5, 21, 22, 23, 24, 25, 26, 27, 28, 29, 30, 31, 32, 41, 42, 43, 44, 45, 46, 47, 48, 49, 50, 51, 36, 37, 38, 39, 40, 52, 53, 54, 55, 56, 57, 58, 59, 60, 61, 62, 63, 64] (by decide +kernel) (by decide +kernel)
set_option maxRecDepth 20000 in
theorem gX5_dueTo_X5_isOfKind : GoodIn wsX5_dueTo (wsV RX5 279 RX5 yX5_isOfKind wsX5_isOfKind) := goodIn_app (goodIn_of _ (by decide +kernel)) ggX5_dueTo_X5_isOfKind
set_option maxRecDepth 20000 in
theorem ggX5_dueTo_X2_dwellingOf : GoodIn wsX5_dueTo wsX2_dwellingOf := goodIn_r _ [27, 28, 3, 4, 5, 52, 53, 54, 55, 56, 57, 58, 59, 60, 61, 62, 63, 64] (by decide +kernel) (by decide +kernel)
set_option maxRecDepth 20000 in
theorem gX5_dueTo_X2_dwellingOf_n242 : GoodIn wsX5_dueTo (wsX2_dwellingOf) := ggX5_dueTo_X2_dwellingOf
set_option maxRecDepth 20000 in
theorem ggX5_dueTo_X4_write : GoodIn wsX5_dueTo wsX4_write := goodIn_r _ [35] (by decide +kernel) (by decide +kernel)
set_option maxRecDepth 20000 in
theorem gX5_dueTo_X4_write_n283 : GoodIn wsX5_dueTo (wsX4_write) := ggX5_dueTo_X4_write
theorem dX5_dueTo_0 : decode cX5_dueTo 0 = .ok (.aload_n 1, 1) := by decide +kernel
theorem dX5_dueTo_1 : decode cX5_dueTo 1 = .ok (.getfield 224, 3) := by decide +kernel
theorem dX5_dueTo_4 : decode cX5_dueTo 4 = .ok (.iload_n 2, 1) := by decide +kernel
theorem dX5_dueTo_5 : decode cX5_dueTo 5 = .ok (.invokestatic 220, 3) := by decide +kernel
theorem dX5_dueTo_8 : decode cX5_dueTo 8 = .ok (.istore_n 3, 1) := by decide +kernel
theorem dX5_dueTo_9 : decode cX5_dueTo 9 = .ok (.aload_n 0, 1) := by decide +kernel
theorem dX5_dueTo_10 : decode cX5_dueTo 10 = .ok (.aload_n 1, 1) := by decide +kernel
theorem dX5_dueTo_11 : decode cX5_dueTo 11 = .ok (.iload_n 2, 1) := by decide +kernel
theorem dX5_dueTo_12 : decode cX5_dueTo 12 = .ok (.invokevirtual 279, 3) := by decide +kernel
theorem dX5_dueTo_15 : decode cX5_dueTo 15 = .ok (.ifCond .eq 14, 3) := by decide +kernel
theorem dX5_dueTo_18 : decode cX5_dueTo 18 = .ok (.aload_n 0, 1) := by decide +kernel
theorem dX5_dueTo_19 : decode cX5_dueTo 19 = .ok (.getfield 19, 3) := by decide +kernel
theorem dX5_dueTo_22 : decode cX5_dueTo 22 = .ok (.iload_n 2, 1) := by decide +kernel
theorem dX5_dueTo_23 : decode cX5_dueTo 23 = .ok (.invokevirtual 242, 3) := by decide +kernel
theorem dX5_dueTo_26 : decode cX5_dueTo 26 = .ok (.goto 4, 3) := by decide +kernel
theorem dX5_dueTo_29 : decode cX5_dueTo 29 = .ok (.iconst (-1), 1) := by decide +kernel
theorem dX5_dueTo_30 : decode cX5_dueTo 30 = .ok (.istore 4, 2) := by decide +kernel
theorem dX5_dueTo_32 : decode cX5_dueTo 32 = .ok (.iload 4, 2) := by decide +kernel
theorem dX5_dueTo_34 : decode cX5_dueTo 34 = .ok (.iload_n 3, 1) := by decide +kernel
theorem dX5_dueTo_35 : decode cX5_dueTo 35 = .ok (.if_icmp .ne 5, 3) := by decide +kernel
theorem dX5_dueTo_38 : decode cX5_dueTo 38 = .ok (.iconst (-1), 1) := by decide +kernel
theorem dX5_dueTo_39 : decode cX5_dueTo 39 = .ok (.ireturn, 1) := by decide +kernel
theorem dX5_dueTo_40 : decode cX5_dueTo 40 = .ok (.iload_n 3, 1) := by decide +kernel
theorem dX5_dueTo_41 : decode cX5_dueTo 41 = .ok (.iconst (-1), 1) := by decide +kernel
theorem dX5_dueTo_42 : decode cX5_dueTo 42 = .ok (.if_icmp .ne 11, 3) := by decide +kernel
theorem dX5_dueTo_45 : decode cX5_dueTo 45 = .ok (.iload_n 2, 1) := by decide +kernel
theorem dX5_dueTo_46 : decode cX5_dueTo 46 = .ok (.iload 4, 2) := by decide +kernel
theorem dX5_dueTo_48 : decode cX5_dueTo 48 = .ok (.iconst 1, 1) := by decide +kernel
theorem dX5_dueTo_49 : decode cX5_dueTo 49 = .ok (.invokestatic 283, 3) := by decide +kernel
theorem dX5_dueTo_52 : decode cX5_dueTo 52 = .ok (.ireturn, 1) := by decide +kernel
theorem dX5_dueTo_53 : decode cX5_dueTo 53 = .ok (.iload 4, 2) := by decide +kernel
theorem dX5_dueTo_55 : decode cX5_dueTo 55 = .ok (.iconst (-1), 1) := by decide +kernel
theorem dX5_dueTo_56 : decode cX5_dueTo 56 = .ok (.if_icmp .ne 12, 3) := by decide +kernel
theorem dX5_dueTo_59 : decode cX5_dueTo 59 = .ok (.iload_n 2, 1) := by decide +kernel
theorem dX5_dueTo_60 : decode cX5_dueTo 60 = .ok (.iconst 0, 1) := by decide +kernel
theorem dX5_dueTo_61 : decode cX5_dueTo 61 = .ok (.iconst 2, 1) := by decide +kernel
theorem dX5_dueTo_62 : decode cX5_dueTo 62 = .ok (.invokestatic 283, 3) := by decide +kernel
theorem dX5_dueTo_65 : decode cX5_dueTo 65 = .ok (.goto 10, 3) := by decide +kernel
theorem dX5_dueTo_68 : decode cX5_dueTo 68 = .ok (.iload_n 2, 1) := by decide +kernel
theorem dX5_dueTo_69 : decode cX5_dueTo 69 = .ok (.iload 4, 2) := by decide +kernel
theorem dX5_dueTo_71 : decode cX5_dueTo 71 = .ok (.iconst 3, 1) := by decide +kernel
theorem dX5_dueTo_72 : decode cX5_dueTo 72 = .ok (.invokestatic 283, 3) := by decide +kernel
theorem dX5_dueTo_75 : decode cX5_dueTo 75 = .ok (.ireturn, 1) := by decide +kernel
set_option maxRecDepth 20000 in
theorem ggX5_isOfKind_X2_isLiving : GoodIn wsX5_isOfKind wsX2_isLiving := goodIn_r _ [5, 6, 44, 45, 46, 47, 48, 49, 50, 51, 52, 53, 54, 55, 56] (by decide +kernel) (by decide +kernel)
set_option maxRecDepth 20000 in
theorem gX5_isOfKind_X2_isLiving_n287 : GoodIn wsX5_isOfKind (wsX2_isLiving) := ggX5_isOfKind_X2_isLiving
set_option maxRecDepth 20000 in
theorem ggX5_isOfKind_X2_ageOf : GoodIn wsX5_isOfKind wsX2_ageOf := goodIn_r _ [9, 10, 11, 12, 2, 4, 3, 5, 6, 13, 14, 15, 16, 17, 18, 19, 44, 45, 46, 47, 48, 49, 50, 51, 52, 53, 54, 55, 56] (by decide +kernel) (by decide +kernel)
set_option maxRecDepth 20000 in
theorem gX5_isOfKind_X2_ageOf_n290 : GoodIn wsX5_isOfKind (wsX2_ageOf) := ggX5_isOfKind_X2_ageOf
set_option maxRecDepth 20000 in
theorem ggX5_isOfKind_X2_dwellingOf : GoodIn wsX5_isOfKind wsX2_dwellingOf := goodIn_r _ [22, 23, 13, 14, 15, 44, 45, 46, 47, 48, 49, 50, 51, 52, 53, 54, 55, 56] (by decide +kernel) (by decide +kernel)
set_option maxRecDepth 20000 in
theorem gX5_isOfKind_X2_dwellingOf_n242 : GoodIn wsX5_isOfKind (wsX2_dwellingOf) := ggX5_isOfKind_X2_dwellingOf
set_option maxRecDepth 20000 in
theorem ggX5_isOfKind_X5_officeOf : GoodIn wsX5_isOfKind wsX5_officeOf := goodIn_r _ [26, 27, 17, 18, 19] (by decide +kernel) (by decide +kernel)
set_option maxRecDepth 20000 in
theorem gX5_isOfKind_X5_officeOf : GoodIn wsX5_isOfKind (va_wsS RX5 294 yX5_officeOf wsX5_officeOf) := goodIn_app (goodIn_of _ (by decide +kernel)) ggX5_isOfKind_X5_officeOf
theorem dX5_isOfKind_0 : decode cX5_isOfKind 0 = .ok (.aload_n 0, 1) := by decide +kernel
theorem dX5_isOfKind_1 : decode cX5_isOfKind 1 = .ok (.getfield 19, 3) := by decide +kernel
theorem dX5_isOfKind_4 : decode cX5_isOfKind 4 = .ok (.iload_n 2, 1) := by decide +kernel
theorem dX5_isOfKind_5 : decode cX5_isOfKind 5 = .ok (.invokevirtual 287, 3) := by decide +kernel
theorem dX5_isOfKind_8 : decode cX5_isOfKind 8 = .ok (.ifCond .ne 5, 3) := by decide +kernel
theorem dX5_isOfKind_11 : decode cX5_isOfKind 11 = .ok (.iconst 0, 1) := by decide +kernel
theorem dX5_isOfKind_12 : decode cX5_isOfKind 12 = .ok (.ireturn, 1) := by decide +kernel
theorem dX5_isOfKind_13 : decode cX5_isOfKind 13 = .ok (.aload_n 0, 1) := by decide +kernel
theorem dX5_isOfKind_14 : decode cX5_isOfKind 14 = .ok (.getfield 19, 3) := by decide +kernel
theorem dX5_isOfKind_17 : decode cX5_isOfKind 17 = .ok (.iload_n 2, 1) := by decide +kernel
theorem dX5_isOfKind_18 : decode cX5_isOfKind 18 = .ok (.invokevirtual 290, 3) := by decide +kernel
theorem dX5_isOfKind_21 : decode cX5_isOfKind 21 = .ok (.istore_n 3, 1) := by decide +kernel
theorem dX5_isOfKind_22 : decode cX5_isOfKind 22 = .ok (.aload_n 1, 1) := by decide +kernel
theorem dX5_isOfKind_23 : decode cX5_isOfKind 23 = .ok (.getfield 293, 3) := by decide +kernel
theorem dX5_isOfKind_26 : decode cX5_isOfKind 26 = .ok (.tableswitch 80 1 3 #[26, 38, 56], 26) := by decide +kernel
theorem dX5_isOfKind_52 : decode cX5_isOfKind 52 = .ok (.iload_n 3, 1) := by decide +kernel
theorem dX5_isOfKind_53 : decode cX5_isOfKind 53 = .ok (.bipush 18, 2) := by decide +kernel
theorem dX5_isOfKind_55 : decode cX5_isOfKind 55 = .ok (.if_icmp .lt 7, 3) := by decide +kernel
theorem dX5_isOfKind_58 : decode cX5_isOfKind 58 = .ok (.iconst 1, 1) := by decide +kernel
theorem dX5_isOfKind_59 : decode cX5_isOfKind 59 = .ok (.goto 4, 3) := by decide +kernel
theorem dX5_isOfKind_62 : decode cX5_isOfKind 62 = .ok (.iconst 0, 1) := by decide +kernel
theorem dX5_isOfKind_63 : decode cX5_isOfKind 63 = .ok (.ireturn, 1) := by decide +kernel
theorem dX5_isOfKind_64 : decode cX5_isOfKind 64 = .ok (.iload_n 3, 1) := by decide +kernel
theorem dX5_isOfKind_65 : decode cX5_isOfKind 65 = .ok (.bipush 6, 2) := by decide +kernel
theorem dX5_isOfKind_67 : decode cX5_isOfKind 67 = .ok (.if_icmp .lt 13, 3) := by decide +kernel
theorem dX5_isOfKind_70 : decode cX5_isOfKind 70 = .ok (.iload_n 3, 1) := by decide +kernel
theorem dX5_isOfKind_71 : decode cX5_isOfKind 71 = .ok (.bipush 15, 2) := by decide +kernel
theorem dX5_isOfKind_73 : decode cX5_isOfKind 73 = .ok (.if_icmp .gt 7, 3) := by decide +kernel
theorem dX5_isOfKind_76 : decode cX5_isOfKind 76 = .ok (.iconst 1, 1) := by decide +kernel
theorem dX5_isOfKind_77 : decode cX5_isOfKind 77 = .ok (.goto 4, 3) := by decide +kernel
theorem dX5_isOfKind_80 : decode cX5_isOfKind 80 = .ok (.iconst 0, 1) := by decide +kernel
theorem dX5_isOfKind_81 : decode cX5_isOfKind 81 = .ok (.ireturn, 1) := by decide +kernel
theorem dX5_isOfKind_82 : decode cX5_isOfKind 82 = .ok (.aload_n 0, 1) := by decide +kernel
theorem dX5_isOfKind_83 : decode cX5_isOfKind 83 = .ok (.getfield 19, 3) := by decide +kernel
theorem dX5_isOfKind_86 : decode cX5_isOfKind 86 = .ok (.iload_n 2, 1) := by decide +kernel
theorem dX5_isOfKind_87 : decode cX5_isOfKind 87 = .ok (.invokevirtual 242, 3) := by decide +kernel
theorem dX5_isOfKind_90 : decode cX5_isOfKind 90 = .ok (.invokestatic 294, 3) := by decide +kernel
theorem dX5_isOfKind_93 : decode cX5_isOfKind 93 = .ok (.aload_n 1, 1) := by decide +kernel
theorem dX5_isOfKind_94 : decode cX5_isOfKind 94 = .ok (.getfield 297, 3) := by decide +kernel
theorem dX5_isOfKind_97 : decode cX5_isOfKind 97 = .ok (.if_icmp .ne 7, 3) := by decide +kernel
theorem dX5_isOfKind_100 : decode cX5_isOfKind 100 = .ok (.iconst 1, 1) := by decide +kernel
theorem dX5_isOfKind_101 : decode cX5_isOfKind 101 = .ok (.goto 4, 3) := by decide +kernel
theorem dX5_isOfKind_104 : decode cX5_isOfKind 104 = .ok (.iconst 0, 1) := by decide +kernel
theorem dX5_isOfKind_105 : decode cX5_isOfKind 105 = .ok (.ireturn, 1) := by decide +kernel
theorem dX5_isOfKind_106 : decode cX5_isOfKind 106 = .ok (.iconst 1, 1) := by decide +kernel
theorem dX5_isOfKind_107 : decode cX5_isOfKind 107 = .ok (.ireturn, 1) := by decide +kernel
set_option maxRecDepth 20000 in
theorem ggX5_officeOf_J9_floorDiv_7cf53 : GoodIn wsX5_officeOf wsJ9_floorDiv_7cf53 := goodIn_r _ [4] (by decide +kernel) (by decide +kernel)
set_option maxRecDepth 20000 in
theorem gX5_officeOf_J9_floorDiv_7cf53 : GoodIn wsX5_officeOf (va_wsS RX5 300 yJ9_floorDiv_7cf53 wsJ9_floorDiv_7cf53) := goodIn_app (goodIn_of _ (by decide +kernel)) ggX5_officeOf_J9_floorDiv_7cf53
theorem dX5_officeOf_0 : decode cX5_officeOf 0 = .ok (.iload_n 0, 1) := by decide +kernel
theorem dX5_officeOf_1 : decode cX5_officeOf 1 = .ok (.iconst 4, 1) := by decide +kernel
theorem dX5_officeOf_2 : decode cX5_officeOf 2 = .ok (.invokestatic 300, 3) := by decide +kernel
theorem dX5_officeOf_5 : decode cX5_officeOf 5 = .ok (.ireturn, 1) := by decide +kernel
theorem dJ9_floorDiv_7cf53_0 : decode cJ9_floorDiv_7cf53 0 = .ok (.iload_n 0, 1) := by decide +kernel
theorem dJ9_floorDiv_7cf53_1 : decode cJ9_floorDiv_7cf53 1 = .ok (.iload_n 1, 1) := by decide +kernel
theorem dJ9_floorDiv_7cf53_2 : decode cJ9_floorDiv_7cf53 2 = .ok (.idiv, 1) := by decide +kernel
theorem dJ9_floorDiv_7cf53_3 : decode cJ9_floorDiv_7cf53 3 = .ok (.istore_n 2, 1) := by decide +kernel
theorem dJ9_floorDiv_7cf53_4 : decode cJ9_floorDiv_7cf53 4 = .ok (.iload_n 0, 1) := by decide +kernel
theorem dJ9_floorDiv_7cf53_5 : decode cJ9_floorDiv_7cf53 5 = .ok (.iload_n 1, 1) := by decide +kernel
theorem dJ9_floorDiv_7cf53_6 : decode cJ9_floorDiv_7cf53 6 = .ok (.ixor, 1) := by decide +kernel
theorem dJ9_floorDiv_7cf53_7 : decode cJ9_floorDiv_7cf53 7 = .ok (.ifCond .ge 14, 3) := by decide +kernel
theorem dJ9_floorDiv_7cf53_10 : decode cJ9_floorDiv_7cf53 10 = .ok (.iload_n 2, 1) := by decide +kernel
theorem dJ9_floorDiv_7cf53_11 : decode cJ9_floorDiv_7cf53 11 = .ok (.iload_n 1, 1) := by decide +kernel
theorem dJ9_floorDiv_7cf53_12 : decode cJ9_floorDiv_7cf53 12 = .ok (.imul, 1) := by decide +kernel
theorem dJ9_floorDiv_7cf53_13 : decode cJ9_floorDiv_7cf53 13 = .ok (.iload_n 0, 1) := by decide +kernel
theorem dJ9_floorDiv_7cf53_14 : decode cJ9_floorDiv_7cf53 14 = .ok (.if_icmp .eq 7, 3) := by decide +kernel
theorem dJ9_floorDiv_7cf53_17 : decode cJ9_floorDiv_7cf53 17 = .ok (.iload_n 2, 1) := by decide +kernel
theorem dJ9_floorDiv_7cf53_18 : decode cJ9_floorDiv_7cf53 18 = .ok (.iconst 1, 1) := by decide +kernel
theorem dJ9_floorDiv_7cf53_19 : decode cJ9_floorDiv_7cf53 19 = .ok (.isub, 1) := by decide +kernel
theorem dJ9_floorDiv_7cf53_20 : decode cJ9_floorDiv_7cf53 20 = .ok (.ireturn, 1) := by decide +kernel
theorem dJ9_floorDiv_7cf53_21 : decode cJ9_floorDiv_7cf53 21 = .ok (.iload_n 2, 1) := by decide +kernel
theorem dJ9_floorDiv_7cf53_22 : decode cJ9_floorDiv_7cf53 22 = .ok (.ireturn, 1) := by decide +kernel
theorem dJ9_abs_0f7a4_0 : decode cJ9_abs_0f7a4 0 = .ok (.iload_n 0, 1) := by decide +kernel
theorem dJ9_abs_0f7a4_1 : decode cJ9_abs_0f7a4 1 = .ok (.ifCond .ge 8, 3) := by decide +kernel
theorem dJ9_abs_0f7a4_4 : decode cJ9_abs_0f7a4 4 = .ok (.iload_n 0, 1) := by decide +kernel
theorem dJ9_abs_0f7a4_5 : decode cJ9_abs_0f7a4 5 = .ok (.ineg, 1) := by decide +kernel
theorem dJ9_abs_0f7a4_6 : decode cJ9_abs_0f7a4 6 = .ok (.goto 4, 3) := by decide +kernel
theorem dJ9_abs_0f7a4_9 : decode cJ9_abs_0f7a4 9 = .ok (.iload_n 0, 1) := by decide +kernel
theorem dJ9_abs_0f7a4_10 : decode cJ9_abs_0f7a4 10 = .ok (.ireturn, 1) := by decide +kernel
theorem dJ9_max_7cf53_0 : decode cJ9_max_7cf53 0 = .ok (.iload_n 0, 1) := by decide +kernel
theorem dJ9_max_7cf53_1 : decode cJ9_max_7cf53 1 = .ok (.iload_n 1, 1) := by decide +kernel
theorem dJ9_max_7cf53_2 : decode cJ9_max_7cf53 2 = .ok (.if_icmp .lt 7, 3) := by decide +kernel
theorem dJ9_max_7cf53_5 : decode cJ9_max_7cf53 5 = .ok (.iload_n 0, 1) := by decide +kernel
theorem dJ9_max_7cf53_6 : decode cJ9_max_7cf53 6 = .ok (.goto 4, 3) := by decide +kernel
theorem dJ9_max_7cf53_9 : decode cJ9_max_7cf53 9 = .ok (.iload_n 1, 1) := by decide +kernel
theorem dJ9_max_7cf53_10 : decode cJ9_max_7cf53 10 = .ok (.ireturn, 1) := by decide +kernel
theorem dJ9_min_7cf53_0 : decode cJ9_min_7cf53 0 = .ok (.iload_n 0, 1) := by decide +kernel
theorem dJ9_min_7cf53_1 : decode cJ9_min_7cf53 1 = .ok (.iload_n 1, 1) := by decide +kernel
theorem dJ9_min_7cf53_2 : decode cJ9_min_7cf53 2 = .ok (.if_icmp .gt 7, 3) := by decide +kernel
theorem dJ9_min_7cf53_5 : decode cJ9_min_7cf53 5 = .ok (.iload_n 0, 1) := by decide +kernel
theorem dJ9_min_7cf53_6 : decode cJ9_min_7cf53 6 = .ok (.goto 4, 3) := by decide +kernel
theorem dJ9_min_7cf53_9 : decode cJ9_min_7cf53 9 = .ok (.iload_n 1, 1) := by decide +kernel
theorem dJ9_min_7cf53_10 : decode cJ9_min_7cf53 10 = .ok (.ireturn, 1) := by decide +kernel
theorem dJ7_fill_53178_0 : decode cJ7_fill_53178 0 = .ok (.iconst 0, 1) := by decide +kernel
theorem dJ7_fill_53178_1 : decode cJ7_fill_53178 1 = .ok (.istore_n 2, 1) := by decide +kernel
theorem dJ7_fill_53178_2 : decode cJ7_fill_53178 2 = .ok (.aload_n 0, 1) := by decide +kernel
theorem dJ7_fill_53178_3 : decode cJ7_fill_53178 3 = .ok (.arraylength, 1) := by decide +kernel
theorem dJ7_fill_53178_4 : decode cJ7_fill_53178 4 = .ok (.istore_n 3, 1) := by decide +kernel
theorem dJ7_fill_53178_5 : decode cJ7_fill_53178 5 = .ok (.iload_n 2, 1) := by decide +kernel
theorem dJ7_fill_53178_6 : decode cJ7_fill_53178 6 = .ok (.iload_n 3, 1) := by decide +kernel
theorem dJ7_fill_53178_7 : decode cJ7_fill_53178 7 = .ok (.if_icmp .ge 13, 3) := by decide +kernel
theorem dJ7_fill_53178_10 : decode cJ7_fill_53178 10 = .ok (.aload_n 0, 1) := by decide +kernel
theorem dJ7_fill_53178_11 : decode cJ7_fill_53178 11 = .ok (.iload_n 2, 1) := by decide +kernel
theorem dJ7_fill_53178_12 : decode cJ7_fill_53178 12 = .ok (.iload_n 1, 1) := by decide +kernel
theorem dJ7_fill_53178_13 : decode cJ7_fill_53178 13 = .ok (.iastore, 1) := by decide +kernel
theorem dJ7_fill_53178_14 : decode cJ7_fill_53178 14 = .ok (.iinc 2 1, 3) := by decide +kernel
theorem dJ7_fill_53178_17 : decode cJ7_fill_53178 17 = .ok (.goto (-12), 3) := by decide +kernel
theorem dJ7_fill_53178_20 : decode cJ7_fill_53178 20 = .ok (.return_, 1) := by decide +kernel
theorem dJ7_copyOf_59c91_0 : decode cJ7_copyOf_59c91 0 = .ok (.iload_n 1, 1) := by decide +kernel
theorem dJ7_copyOf_59c91_1 : decode cJ7_copyOf_59c91 1 = .ok (.aload_n 0, 1) := by decide +kernel
theorem dJ7_copyOf_59c91_2 : decode cJ7_copyOf_59c91 2 = .ok (.arraylength, 1) := by decide +kernel
theorem dJ7_copyOf_59c91_3 : decode cJ7_copyOf_59c91 3 = .ok (.if_icmp .ne 11, 3) := by decide +kernel
theorem dJ7_copyOf_59c91_6 : decode cJ7_copyOf_59c91 6 = .ok (.aload_n 0, 1) := by decide +kernel
theorem dJ7_copyOf_59c91_7 : decode cJ7_copyOf_59c91 7 = .ok (.invokevirtual 316, 3) := by decide +kernel
theorem dJ7_copyOf_59c91_10 : decode cJ7_copyOf_59c91 10 = .ok (.checkcast 317, 3) := by decide +kernel
theorem dJ7_copyOf_59c91_13 : decode cJ7_copyOf_59c91 13 = .ok (.areturn, 1) := by decide +kernel
theorem dJ7_copyOf_59c91_14 : decode cJ7_copyOf_59c91 14 = .ok (.iload_n 1, 1) := by decide +kernel
theorem dJ7_copyOf_59c91_15 : decode cJ7_copyOf_59c91 15 = .ok (.newarray .int, 2) := by decide +kernel
theorem dJ7_copyOf_59c91_17 : decode cJ7_copyOf_59c91 17 = .ok (.astore_n 2, 1) := by decide +kernel
theorem dJ7_copyOf_59c91_18 : decode cJ7_copyOf_59c91 18 = .ok (.aload_n 0, 1) := by decide +kernel
theorem dJ7_copyOf_59c91_19 : decode cJ7_copyOf_59c91 19 = .ok (.iconst 0, 1) := by decide +kernel
theorem dJ7_copyOf_59c91_20 : decode cJ7_copyOf_59c91 20 = .ok (.aload_n 2, 1) := by decide +kernel
theorem dJ7_copyOf_59c91_21 : decode cJ7_copyOf_59c91 21 = .ok (.iconst 0, 1) := by decide +kernel
theorem dJ7_copyOf_59c91_22 : decode cJ7_copyOf_59c91 22 = .ok (.aload_n 0, 1) := by decide +kernel
theorem dJ7_copyOf_59c91_23 : decode cJ7_copyOf_59c91 23 = .ok (.arraylength, 1) := by decide +kernel
theorem dJ7_copyOf_59c91_24 : decode cJ7_copyOf_59c91 24 = .ok (.iload_n 1, 1) := by decide +kernel
theorem dJ7_copyOf_59c91_25 : decode cJ7_copyOf_59c91 25 = .ok (.invokestatic 304, 3) := by decide +kernel
theorem dJ7_copyOf_59c91_28 : decode cJ7_copyOf_59c91 28 = .ok (.invokestatic 150, 3) := by decide +kernel
theorem dJ7_copyOf_59c91_31 : decode cJ7_copyOf_59c91 31 = .ok (.aload_n 2, 1) := by decide +kernel
theorem dJ7_copyOf_59c91_32 : decode cJ7_copyOf_59c91 32 = .ok (.areturn, 1) := by decide +kernel
