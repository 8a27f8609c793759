theorem dX4_findAnew_37 : decode cX4_findAnew 37 = .ok (.iinc 3 1, 3) := by decide +kernel
theorem dX4_findAnew_40 : decode cX4_findAnew 40 = .ok (.goto (-36), 3) := by decide +kernel
theorem dX4_findAnew_43 : decode cX4_findAnew 43 = .ok (.iload_n 2, 1) := by decide +kernel
theorem dX4_findAnew_44 : decode cX4_findAnew 44 = .ok (.ireturn, 1) := by decide +kernel
set_option maxRecDepth 20000 in
theorem ggX5_init_X1_init : GoodIn wsX5_init wsX1_init := goodIn_r _ [26, 27, 2, 3, 28, 29, 123, 124, 125] (by decide +kernel) (by decide +kernel)
set_option maxRecDepth 20000 in
theorem gX5_init_X1_init_n9 : GoodIn wsX5_init (wsX1_init) := ggX5_init_X1_init
set_option maxRecDepth 20000 in
theorem ggX5_init_X2_init : GoodIn wsX5_init wsX2_init := goodIn_r _ [31, 32, 2, 3, 22, 33, 34, 35, 36, 37, 38, 39, 40, 20, 41, 42, 137, 138, 139, 140, 141, 142, 143, 144, 145, 146, 147, 148, 149] (by decide +kernel) (by decide +kernel)
set_option maxRecDepth 20000 in
theorem gX5_init_X2_init_n18 : GoodIn wsX5_init (wsX2_init) := ggX5_init_X2_init
set_option maxRecDepth 20000 in
theorem ggX5_init_X3_init : GoodIn wsX5_init wsX3_init := goodIn_r _ [44, 45, 2, 3, 22, 46, 47, 48, 150, 151, 152, 153] (by decide +kernel) (by decide +kernel)
set_option maxRecDepth 20000 in
theorem gX5_init_X3_init_n31 : GoodIn wsX5_init (wsX3_init) := ggX5_init_X3_init
set_option maxRecDepth 20000 in
theorem ggX5_init_X2_find : GoodIn wsX5_init wsX2_find := goodIn_r _ [51, 52, 53, 54, 10, 55, 56, 57, 58, 59, 60, 61, 62, 33, 41, 34, 35, 36, 37, 38, 39, 40, 63, 64, 65, 66, 67, 68, 69, 70, 71, 6, 72, 73, 29, 74, 75, 76, 77, 78, 79, 80, 81, 82, 83, 84, 85, 86, 87, 88, 89, 90, 91, 92, 93, 94, 95, 96, 97, 98, 99, 100, 101, 102, 103, 104, 105, 106, 107, 108, 109, 110, 111, 112, 113, 114, 115, 116, 117, 118, 119, 120, 121, 122, 137, 138, 139, 140, 141, 142, 143, 144, 145, 146, 147, 148, 149, 123, 124, 125, 154, 155, 156, 157, 158, 159, 160, 161, 162, 163] (by decide +kernel) (by decide +kernel)
set_option maxRecDepth 20000 in
theorem gX5_init_X2_find_n54 : GoodIn wsX5_init (wsX2_find) := ggX5_init_X2_find
theorem dX5_init_0 : decode cX5_init 0 = .ok (.aload_n 0, 1) := by decide +kernel
theorem dX5_init_1 : decode cX5_init 1 = .ok (.invokespecial 1, 3) := by decide +kernel
theorem dX5_init_4 : decode cX5_init 4 = .ok (.aload_n 0, 1) := by decide +kernel
theorem dX5_init_5 : decode cX5_init 5 = .ok (.new 7, 3) := by decide +kernel
theorem dX5_init_8 : decode cX5_init 8 = .ok (.dup, 1) := by decide +kernel
theorem dX5_init_9 : decode cX5_init 9 = .ok (.invokespecial 9, 3) := by decide +kernel
theorem dX5_init_12 : decode cX5_init 12 = .ok (.putfield 10, 3) := by decide +kernel
theorem dX5_init_15 : decode cX5_init 15 = .ok (.aload_n 0, 1) := by decide +kernel
theorem dX5_init_16 : decode cX5_init 16 = .ok (.new 16, 3) := by decide +kernel
theorem dX5_init_19 : decode cX5_init 19 = .ok (.dup, 1) := by decide +kernel
theorem dX5_init_20 : decode cX5_init 20 = .ok (.invokespecial 18, 3) := by decide +kernel
theorem dX5_init_23 : decode cX5_init 23 = .ok (.putfield 19, 3) := by decide +kernel
theorem dX5_init_26 : decode cX5_init 26 = .ok (.aload_n 0, 1) := by decide +kernel
theorem dX5_init_27 : decode cX5_init 27 = .ok (.new 16, 3) := by decide +kernel
theorem dX5_init_30 : decode cX5_init 30 = .ok (.dup, 1) := by decide +kernel
theorem dX5_init_31 : decode cX5_init 31 = .ok (.invokespecial 18, 3) := by decide +kernel
theorem dX5_init_34 : decode cX5_init 34 = .ok (.putfield 23, 3) := by decide +kernel
theorem dX5_init_37 : decode cX5_init 37 = .ok (.aload_n 0, 1) := by decide +kernel
theorem dX5_init_38 : decode cX5_init 38 = .ok (.new 16, 3) := by decide +kernel
theorem dX5_init_41 : decode cX5_init 41 = .ok (.dup, 1) := by decide +kernel
theorem dX5_init_42 : decode cX5_init 42 = .ok (.invokespecial 18, 3) := by decide +kernel
theorem dX5_init_45 : decode cX5_init 45 = .ok (.putfield 26, 3) := by decide +kernel
theorem dX5_init_48 : decode cX5_init 48 = .ok (.aload_n 0, 1) := by decide +kernel
theorem dX5_init_49 : decode cX5_init 49 = .ok (.new 29, 3) := by decide +kernel
theorem dX5_init_52 : decode cX5_init 52 = .ok (.dup, 1) := by decide +kernel
theorem dX5_init_53 : decode cX5_init 53 = .ok (.invokespecial 31, 3) := by decide +kernel
theorem dX5_init_56 : decode cX5_init 56 = .ok (.putfield 32, 3) := by decide +kernel
theorem dX5_init_59 : decode cX5_init 59 = .ok (.aload_n 0, 1) := by decide +kernel
theorem dX5_init_60 : decode cX5_init 60 = .ok (.iconst 5, 1) := by decide +kernel
theorem dX5_init_61 : decode cX5_init 61 = .ok (.anewarray 36, 3) := by decide +kernel
theorem dX5_init_64 : decode cX5_init 64 = .ok (.putfield 38, 3) := by decide +kernel
theorem dX5_init_67 : decode cX5_init 67 = .ok (.aload_n 0, 1) := by decide +kernel
theorem dX5_init_68 : decode cX5_init 68 = .ok (.bipush 24, 2) := by decide +kernel
theorem dX5_init_70 : decode cX5_init 70 = .ok (.newarray .boolean, 2) := by decide +kernel
theorem dX5_init_72 : decode cX5_init 72 = .ok (.putfield 42, 3) := by decide +kernel
theorem dX5_init_75 : decode cX5_init 75 = .ok (.aload_n 0, 1) := by decide +kernel
theorem dX5_init_76 : decode cX5_init 76 = .ok (.bipush 24, 2) := by decide +kernel
theorem dX5_init_78 : decode cX5_init 78 = .ok (.newarray .int, 2) := by decide +kernel
theorem dX5_init_80 : decode cX5_init 80 = .ok (.putfield 46, 3) := by decide +kernel
theorem dX5_init_83 : decode cX5_init 83 = .ok (.aload_n 0, 1) := by decide +kernel
theorem dX5_init_84 : decode cX5_init 84 = .ok (.sipush 10000, 3) := by decide +kernel
theorem dX5_init_87 : decode cX5_init 87 = .ok (.putfield 50, 3) := by decide +kernel
theorem dX5_init_90 : decode cX5_init 90 = .ok (.aload_n 0, 1) := by decide +kernel
theorem dX5_init_91 : decode cX5_init 91 = .ok (.getfield 19, 3) := by decide +kernel
theorem dX5_init_94 : decode cX5_init 94 = .ok (.aload_n 0, 1) := by decide +kernel
theorem dX5_init_95 : decode cX5_init 95 = .ok (.getfield 10, 3) := by decide +kernel
theorem dX5_init_98 : decode cX5_init 98 = .ok (.aload_n 0, 1) := by decide +kernel
theorem dX5_init_99 : decode cX5_init 99 = .ok (.getfield 50, 3) := by decide +kernel
theorem dX5_init_102 : decode cX5_init 102 = .ok (.aload_n 0, 1) := by decide +kernel
theorem dX5_init_103 : decode cX5_init 103 = .ok (.getfield 50, 3) := by decide +kernel
theorem dX5_init_106 : decode cX5_init 106 = .ok (.invokevirtual 54, 3) := by decide +kernel
theorem dX5_init_109 : decode cX5_init 109 = .ok (.return_, 1) := by decide +kernel
set_option maxRecDepth 20000 in
theorem ggX5_pass_X5_requireWithin : GoodIn wsX5_pass wsX5_requireWithin := goodIn_ca (goodIn_r _ [8, 9, 10] (by decide +kernel) (by decide +kernel)) (goodIn_sub (fun _ h => List.mem_cons_of_mem _ (List.mem_append_right _ h)) (by decide +kernel))
set_option maxRecDepth 20000 in
theorem gX5_pass_X5_requireWithin : GoodIn wsX5_pass (va_wsS RX5 58 yX5_requireWithin wsX5_requireWithin) := goodIn_app (goodIn_of _ (by decide +kernel)) ggX5_pass_X5_requireWithin
set_option maxRecDepth 20000 in
theorem ggX5_pass_X2_goOn : GoodIn wsX5_pass wsX2_goOn := goodIn_r _ [14, 15, 16, 17, 18, 19, 20, 21, 22, 23, 24, 25, 26, 12, 27, 28, 29, 30, 31, 7, 32, 33, 34, 35, 36, 37, 38, 39, 40, 41, 42, 43, 44, 45, 46, 47, 48, 49, 50, 51, 52, 53, 54, 55, 56, 57, 58, 59, 60, 61, 62, 63, 64, 65, 66, 67, 68, 69, 70, 82, 83, 84, 85, 86, 87, 88, 89, 90, 91, 92, 93, 94, 95, 96, 97, 98, 99, 100, 101, 102, 103, 104] (by decide +kernel) (by decide +kernel)
set_option maxRecDepth 20000 in
theorem gX5_pass_X2_goOn_n69 : GoodIn wsX5_pass (wsX2_goOn) := ggX5_pass_X2_goOn
theorem dX5_pass_0 : decode cX5_pass 0 = .ok (.iload_n 1, 1) := by decide +kernel
theorem dX5_pass_1 : decode cX5_pass 1 = .ok (.iconst 1, 1) := by decide +kernel
theorem dX5_pass_2 : decode cX5_pass 2 = .ok (.sipush 5000, 3) := by decide +kernel
theorem dX5_pass_5 : decode cX5_pass 5 = .ok (.invokestatic 58, 3) := by decide +kernel
theorem dX5_pass_8 : decode cX5_pass 8 = .ok (.aload_n 0, 1) := by decide +kernel
theorem dX5_pass_9 : decode cX5_pass 9 = .ok (.getfield 50, 3) := by decide +kernel
theorem dX5_pass_12 : decode cX5_pass 12 = .ok (.iload_n 1, 1) := by decide +kernel
theorem dX5_pass_13 : decode cX5_pass 13 = .ok (.iadd, 1) := by decide +kernel
theorem dX5_pass_14 : decode cX5_pass 14 = .ok (.sipush 30000, 3) := by decide +kernel
theorem dX5_pass_17 : decode cX5_pass 17 = .ok (.if_icmp .le 13, 3) := by decide +kernel
theorem dX5_pass_20 : decode cX5_pass 20 = .ok (.new 62, 3) := by decide +kernel
theorem dX5_pass_23 : decode cX5_pass 23 = .ok (.dup, 1) := by decide +kernel
theorem dX5_pass_24 : decode cX5_pass 24 = .ok (.ldc 64, 2) := by decide +kernel
theorem dX5_pass_26 : decode cX5_pass 26 = .ok (.invokespecial 66, 3) := by decide +kernel
theorem dX5_pass_29 : decode cX5_pass 29 = .ok (.athrow, 1) := by decide +kernel
theorem dX5_pass_30 : decode cX5_pass 30 = .ok (.aload_n 0, 1) := by decide +kernel
theorem dX5_pass_31 : decode cX5_pass 31 = .ok (.dup, 1) := by decide +kernel
theorem dX5_pass_32 : decode cX5_pass 32 = .ok (.getfield 50, 3) := by decide +kernel
theorem dX5_pass_35 : decode cX5_pass 35 = .ok (.iload_n 1, 1) := by decide +kernel
theorem dX5_pass_36 : decode cX5_pass 36 = .ok (.iadd, 1) := by decide +kernel
theorem dX5_pass_37 : decode cX5_pass 37 = .ok (.putfield 50, 3) := by decide +kernel
theorem dX5_pass_40 : decode cX5_pass 40 = .ok (.aload_n 0, 1) := by decide +kernel
theorem dX5_pass_41 : decode cX5_pass 41 = .ok (.getfield 19, 3) := by decide +kernel
theorem dX5_pass_44 : decode cX5_pass 44 = .ok (.aload_n 0, 1) := by decide +kernel
theorem dX5_pass_45 : decode cX5_pass 45 = .ok (.getfield 50, 3) := by decide +kernel
theorem dX5_pass_48 : decode cX5_pass 48 = .ok (.invokevirtual 69, 3) := by decide +kernel
theorem dX5_pass_51 : decode cX5_pass 51 = .ok (.aload_n 0, 1) := by decide +kernel
theorem dX5_pass_52 : decode cX5_pass 52 = .ok (.getfield 50, 3) := by decide +kernel
theorem dX5_pass_55 : decode cX5_pass 55 = .ok (.ireturn, 1) := by decide +kernel
set_option maxRecDepth 20000 in
theorem ggX5_birth_X5_requirePersonOrNone : GoodIn wsX5_birth wsX5_requirePersonOrNone := goodIn_ca (goodIn_r _ [13, 14, 15, 16, 12, 17, 18, 19, 3, 161, 162, 163, 164, 165, 166, 167, 168, 169, 170, 171] (by decide +kernel) (by decide +kernel)) (goodIn_sub (fun _ h => List.mem_cons_of_mem _ (List.mem_append_left _ (List.mem_append_right _ h))) (by decide +kernel))
set_option maxRecDepth 20000 in
theorem gX5_birth_X5_requirePersonOrNone : GoodIn wsX5_birth (wsV RX5 73 RX5 yX5_requirePersonOrNone wsX5_requirePersonOrNone) := goodIn_app (goodIn_of _ (by decide +kernel)) ggX5_birth_X5_requirePersonOrNone
set_option maxRecDepth 20000 in
theorem ggX5_birth_X5_requireDwelling : GoodIn wsX5_birth wsX5_requireDwelling := goodIn_ca (goodIn_r _ [22, 18, 19] (by decide +kernel) (by decide +kernel)) (goodIn_sub (fun _ h => List.mem_cons_of_mem _ (List.mem_append_left _ (List.mem_append_right _ h))) (by decide +kernel))
set_option maxRecDepth 20000 in
theorem gX5_birth_X5_requireDwelling : GoodIn wsX5_birth (va_wsS RX5 76 yX5_requireDwelling wsX5_requireDwelling) := goodIn_app (goodIn_of _ (by decide +kernel)) ggX5_birth_X5_requireDwelling
set_option maxRecDepth 20000 in
theorem ggX5_birth_X5_requireDay : GoodIn wsX5_birth wsX5_requireDay := goodIn_ca (goodIn_r _ [26, 8, 27, 28, 12, 29, 30, 31, 161, 162, 163, 164, 165, 166, 167, 168, 169, 170, 171] (by decide +kernel) (by decide +kernel)) (goodIn_sub (fun _ h => List.mem_cons_of_mem _ (List.mem_append_right _ h)) (by decide +kernel))
set_option maxRecDepth 20000 in
theorem gX5_birth_X5_requireDay : GoodIn wsX5_birth (wsV RX5 79 RX5 yX5_requireDay wsX5_requireDay) := goodIn_app (goodIn_of _ (by decide +kernel)) ggX5_birth_X5_requireDay
set_option maxRecDepth 20000 in
theorem ggX5_birth_X5_requireWithin : GoodIn wsX5_birth wsX5_requireWithin := goodIn_ca (goodIn_r _ [29, 30, 31] (by decide +kernel) (by decide +kernel)) (goodIn_sub (fun _ h => List.mem_cons_of_mem _ (List.mem_append_right _ h)) (by decide +kernel))
set_option maxRecDepth 20000 in
theorem gX5_birth_X5_requireWithin : GoodIn wsX5_birth (va_wsS RX5 58 yX5_requireWithin wsX5_requireWithin) := goodIn_app (goodIn_of _ (by decide +kernel)) ggX5_birth_X5_requireWithin
set_option maxRecDepth 20000 in
theorem ggX5_birth_X5_requireActLeft : GoodIn wsX5_birth wsX5_requireActLeft := goodIn_ca (goodIn_r _ [35, 1, 2, 36, 161, 162, 163, 164, 165, 166, 167, 168, 169, 170, 171, 182, 183, 184] (by decide +kernel) (by decide +kernel)) (goodIn_sub (fun _ h => List.mem_cons_of_mem _ (List.mem_append_left _ (List.mem_append_left _ (List.mem_append_right _ h)))) (by decide +kernel))
set_option maxRecDepth 20000 in
theorem gX5_birth_X5_requireActLeft : GoodIn wsX5_birth (wsV RX5 87 RX5 yX5_requireActLeft wsX5_requireActLeft) := goodIn_app (goodIn_of _ (by decide +kernel)) ggX5_birth_X5_requireActLeft
set_option maxRecDepth 20000 in
theorem ggX5_birth_X5_requireNumberLeft : GoodIn wsX5_birth wsX5_requireNumberLeft := goodIn_ca (goodIn_r _ [40, 1, 2, 4, 161, 162, 163, 164, 165, 166, 167, 168, 169, 170, 171, 185, 186, 187, 188] (by decide +kernel) (by decide +kernel)) (goodIn_sub (fun _ h => List.mem_cons_of_mem _ (List.mem_append_left _ (List.mem_append_left _ (List.mem_append_right _ h)))) (by decide +kernel))
set_option maxRecDepth 20000 in
theorem gX5_birth_X5_requireNumberLeft : GoodIn wsX5_birth (wsV RX5 90 RX5 yX5_requireNumberLeft wsX5_requireNumberLeft) := goodIn_app (goodIn_of _ (by decide +kernel)) ggX5_birth_X5_requireNumberLeft
set_option maxRecDepth 20000 in
theorem ggX5_birth_X3_give : GoodIn wsX5_birth wsX3_give := goodIn_r _ [44, 45, 46, 47, 48, 49, 50, 42, 51, 52, 53, 54, 55, 56, 12, 57, 185, 186, 187, 188] (by decide +kernel) (by decide +kernel)
set_option maxRecDepth 20000 in
theorem gX5_birth_X3_give_n93 : GoodIn wsX5_birth (wsX3_give) := ggX5_birth_X3_give
set_option maxRecDepth 20000 in
theorem ggX5_birth_X0_init : GoodIn wsX5_birth wsX0_init := goodIn_r _ [59, 60, 61, 62, 63, 64, 65, 66, 67, 68, 69, 70, 172, 173, 174, 175, 176, 177, 178, 179, 180, 181] (by decide +kernel) (by decide +kernel)
set_option maxRecDepth 20000 in
theorem gX5_birth_X0_init_n99 : GoodIn wsX5_birth (wsX0_init) := ggX5_birth_X0_init
set_option maxRecDepth 20000 in
theorem ggX5_birth_X5_tell : GoodIn wsX5_birth wsX5_tell := goodIn_r _ [74, 36, 75, 8, 76, 77, 78, 79, 80, 81, 82, 83, 84, 85, 86, 87, 88, 89, 90, 91, 92, 93, 94, 12, 95, 96, 97, 98, 99, 100, 101, 102, 103, 104, 105, 106, 107, 56, 57, 108, 109, 110, 111, 112, 113, 114, 115, 116, 117, 118, 119, 120, 121, 122, 123, 124, 125, 126, 127, 128, 129, 130, 131, 132, 133, 134, 135, 136, 137, 138, 139, 140, 141, 142, 143, 144, 145, 146, 147, 148, 149, 150, 151, 152, 153, 7, 154, 155, 67, 156, 157, 158, 159, 160, 161, 162, 163, 164, 165, 166, 167, 168, 169, 170, 171, 172, 173, 174, 175, 176, 177, 178, 179, 180, 181, 182, 183, 184, 189, 190, 191, 192, 193, 194, 195, 196, 197, 198, 199, 200, 201] (by decide +kernel) (by decide +kernel)
set_option maxRecDepth 20000 in
theorem gX5_birth_X5_tell : GoodIn wsX5_birth (wsV RX5 108 RX5 yX5_tell wsX5_tell) := goodIn_app (goodIn_of _ (by decide +kernel)) ggX5_birth_X5_tell
theorem dX5_birth_0 : decode cX5_birth 0 = .ok (.aload_n 0, 1) := by decide +kernel
theorem dX5_birth_1 : decode cX5_birth 1 = .ok (.iload_n 2, 1) := by decide +kernel
theorem dX5_birth_2 : decode cX5_birth 2 = .ok (.invokevirtual 73, 3) := by decide +kernel
theorem dX5_birth_5 : decode cX5_birth 5 = .ok (.iload_n 3, 1) := by decide +kernel
theorem dX5_birth_6 : decode cX5_birth 6 = .ok (.invokestatic 76, 3) := by decide +kernel
theorem dX5_birth_9 : decode cX5_birth 9 = .ok (.aload_n 0, 1) := by decide +kernel
theorem dX5_birth_10 : decode cX5_birth 10 = .ok (.iload_n 1, 1) := by decide +kernel
theorem dX5_birth_11 : decode cX5_birth 11 = .ok (.invokevirtual 79, 3) := by decide +kernel
theorem dX5_birth_14 : decode cX5_birth 14 = .ok (.iload 4, 2) := by decide +kernel
theorem dX5_birth_16 : decode cX5_birth 16 = .ok (.iconst 0, 1) := by decide +kernel
theorem dX5_birth_17 : decode cX5_birth 17 = .ok (.sipush 999, 3) := by decide +kernel
theorem dX5_birth_20 : decode cX5_birth 20 = .ok (.invokestatic 58, 3) := by decide +kernel
theorem dX5_birth_23 : decode cX5_birth 23 = .ok (.aload_n 0, 1) := by decide +kernel
theorem dX5_birth_24 : decode cX5_birth 24 = .ok (.getfield 82, 3) := by decide +kernel
theorem dX5_birth_27 : decode cX5_birth 27 = .ok (.bipush 24, 2) := by decide +kernel
theorem dX5_birth_29 : decode cX5_birth 29 = .ok (.if_icmp .lt 13, 3) := by decide +kernel
theorem dX5_birth_32 : decode cX5_birth 32 = .ok (.new 62, 3) := by decide +kernel
theorem dX5_birth_35 : decode cX5_birth 35 = .ok (.dup, 1) := by decide +kernel
theorem dX5_birth_36 : decode cX5_birth 36 = .ok (.ldc 85, 2) := by decide +kernel
theorem dX5_birth_38 : decode cX5_birth 38 = .ok (.invokespecial 66, 3) := by decide +kernel
theorem dX5_birth_41 : decode cX5_birth 41 = .ok (.athrow, 1) := by decide +kernel
theorem dX5_birth_42 : decode cX5_birth 42 = .ok (.aload_n 0, 1) := by decide +kernel
theorem dX5_birth_43 : decode cX5_birth 43 = .ok (.invokevirtual 87, 3) := by decide +kernel
theorem dX5_birth_46 : decode cX5_birth 46 = .ok (.aload_n 0, 1) := by decide +kernel
theorem dX5_birth_47 : decode cX5_birth 47 = .ok (.invokevirtual 90, 3) := by decide +kernel
theorem dX5_birth_50 : decode cX5_birth 50 = .ok (.aload_n 0, 1) := by decide +kernel
theorem dX5_birth_51 : decode cX5_birth 51 = .ok (.getfield 82, 3) := by decide +kernel
theorem dX5_birth_54 : decode cX5_birth 54 = .ok (.istore 5, 2) := by decide +kernel
theorem dX5_birth_56 : decode cX5_birth 56 = .ok (.aload_n 0, 1) := by decide +kernel
theorem dX5_birth_57 : decode cX5_birth 57 = .ok (.dup, 1) := by decide +kernel
theorem dX5_birth_58 : decode cX5_birth 58 = .ok (.getfield 82, 3) := by decide +kernel
theorem dX5_birth_61 : decode cX5_birth 61 = .ok (.iconst 1, 1) := by decide +kernel
theorem dX5_birth_62 : decode cX5_birth 62 = .ok (.iadd, 1) := by decide +kernel
theorem dX5_birth_63 : decode cX5_birth 63 = .ok (.putfield 82, 3) := by decide +kernel
theorem dX5_birth_66 : decode cX5_birth 66 = .ok (.aload_n 0, 1) := by decide +kernel
theorem dX5_birth_67 : decode cX5_birth 67 = .ok (.getfield 32, 3) := by decide +kernel
theorem dX5_birth_70 : decode cX5_birth 70 = .ok (.iload 5, 2) := by decide +kernel
theorem dX5_birth_72 : decode cX5_birth 72 = .ok (.invokevirtual 93, 3) := by decide +kernel
theorem dX5_birth_75 : decode cX5_birth 75 = .ok (.pop, 1) := by decide +kernel
theorem dX5_birth_76 : decode cX5_birth 76 = .ok (.new 97, 3) := by decide +kernel
theorem dX5_birth_79 : decode cX5_birth 79 = .ok (.dup, 1) := by decide +kernel
theorem dX5_birth_80 : decode cX5_birth 80 = .ok (.iconst 0, 1) := by decide +kernel
theorem dX5_birth_81 : decode cX5_birth 81 = .ok (.aload_n 0, 1) := by decide +kernel
theorem dX5_birth_82 : decode cX5_birth 82 = .ok (.getfield 50, 3) := by decide +kernel
theorem dX5_birth_85 : decode cX5_birth 85 = .ok (.iload_n 1, 1) := by decide +kernel
theorem dX5_birth_86 : decode cX5_birth 86 = .ok (.iload 5, 2) := by decide +kernel
theorem dX5_birth_88 : decode cX5_birth 88 = .ok (.iload_n 2, 1) := by decide +kernel
theorem dX5_birth_89 : decode cX5_birth 89 = .ok (.invokespecial 99, 3) := by decide +kernel
theorem dX5_birth_92 : decode cX5_birth 92 = .ok (.astore 6, 2) := by decide +kernel
theorem dX5_birth_94 : decode cX5_birth 94 = .ok (.aload 6, 2) := by decide +kernel
theorem dX5_birth_96 : decode cX5_birth 96 = .ok (.iload_n 3, 1) := by decide +kernel
theorem dX5_birth_97 : decode cX5_birth 97 = .ok (.putfield 102, 3) := by decide +kernel
theorem dX5_birth_100 : decode cX5_birth 100 = .ok (.aload 6, 2) := by decide +kernel
theorem dX5_birth_102 : decode cX5_birth 102 = .ok (.iload 4, 2) := by decide +kernel
theorem dX5_birth_104 : decode cX5_birth 104 = .ok (.putfield 105, 3) := by decide +kernel
theorem dX5_birth_107 : decode cX5_birth 107 = .ok (.aload_n 0, 1) := by decide +kernel
theorem dX5_birth_108 : decode cX5_birth 108 = .ok (.aload 6, 2) := by decide +kernel
theorem dX5_birth_110 : decode cX5_birth 110 = .ok (.invokevirtual 108, 3) := by decide +kernel
theorem dX5_birth_113 : decode cX5_birth 113 = .ok (.pop, 1) := by decide +kernel
theorem dX5_birth_114 : decode cX5_birth 114 = .ok (.iload 5, 2) := by decide +kernel
theorem dX5_birth_116 : decode cX5_birth 116 = .ok (.ireturn, 1) := by decide +kernel
set_option maxRecDepth 20000 in
theorem ggX5_move_X5_requirePerson : GoodIn wsX5_move wsX5_requirePerson := goodIn_ca (goodIn_r _ [9, 10, 11, 12, 147, 148, 149, 150, 151, 152, 153, 154, 155, 156, 157] (by decide +kernel) (by decide +kernel)) (goodIn_sub (fun _ h => List.mem_cons_of_mem _ (List.mem_append_left _ (List.mem_append_left _ (List.mem_append_right _ h)))) (by decide +kernel))
set_option maxRecDepth 20000 in
theorem gX5_move_X5_requirePerson : GoodIn wsX5_move (wsV RX5 112 RX5 yX5_requirePerson wsX5_requirePerson) := goodIn_app (goodIn_of _ (by decide +kernel)) ggX5_move_X5_requirePerson
set_option maxRecDepth 20000 in
theorem ggX5_move_X5_requireDwelling : GoodIn wsX5_move wsX5_requireDwelling := goodIn_ca (goodIn_r _ [15, 10, 11] (by decide +kernel) (by decide +kernel)) (goodIn_sub (fun _ h => List.mem_cons_of_mem _ (List.mem_append_left _ (List.mem_append_left _ (List.mem_append_right _ h)))) (by decide +kernel))
set_option maxRecDepth 20000 in
theorem gX5_move_X5_requireDwelling : GoodIn wsX5_move (va_wsS RX5 76 yX5_requireDwelling wsX5_requireDwelling) := goodIn_app (goodIn_of _ (by decide +kernel)) ggX5_move_X5_requireDwelling
set_option maxRecDepth 20000 in
theorem ggX5_move_X5_requireDay : GoodIn wsX5_move wsX5_requireDay := goodIn_ca (goodIn_r _ [19, 4, 20, 21, 8, 22, 23, 24, 147, 148, 149, 150, 151, 152, 153, 154, 155, 156, 157] (by decide +kernel) (by decide +kernel)) (goodIn_sub (fun _ h => List.mem_cons_of_mem _ (List.mem_append_left _ (List.mem_append_right _ h))) (by decide +kernel))
set_option maxRecDepth 20000 in
theorem gX5_move_X5_requireDay : GoodIn wsX5_move (wsV RX5 79 RX5 yX5_requireDay wsX5_requireDay) := goodIn_app (goodIn_of _ (by decide +kernel)) ggX5_move_X5_requireDay
set_option maxRecDepth 20000 in
theorem ggX5_move_X5_requireActLeft : GoodIn wsX5_move wsX5_requireActLeft := goodIn_ca (goodIn_r _ [28, 29, 30, 31, 147, 148, 149, 150, 151, 152, 153, 154, 155, 156, 157, 158, 159, 160] (by decide +kernel) (by decide +kernel)) (goodIn_sub (fun _ h => List.mem_cons_of_mem _ (List.mem_append_right _ h)) (by decide +kernel))
set_option maxRecDepth 20000 in
theorem gX5_move_X5_requireActLeft : GoodIn wsX5_move (wsV RX5 87 RX5 yX5_requireActLeft wsX5_requireActLeft) := goodIn_app (goodIn_of _ (by decide +kernel)) ggX5_move_X5_requireActLeft
set_option maxRecDepth 20000 in
theorem ggX5_move_X0_init : GoodIn wsX5_move wsX0_init := goodIn_r _ [33, 34, 35, 36, 37, 38, 39, 40, 41, 42, 43, 44, 137, 138, 139, 140, 141, 142, 143, 144, 145, 146] (by decide +kernel) (by decide +kernel)
set_option maxRecDepth 20000 in
theorem gX5_move_X0_init_n99 : GoodIn wsX5_move (wsX0_init) := ggX5_move_X0_init
set_option maxRecDepth 20000 in
theorem ggX5_move_X5_tell : GoodIn wsX5_move wsX5_tell := goodIn_r _ [48, 31, 49, 4, 50, 51, 52, 53, 54, 55, 56, 57, 58, 59, 60, 61, 62, 63, 64, 65, 66, 67, 68, 8, 69, 70, 71, 72, 73, 74, 75, 76, 77, 78, 79, 80, 81, 82, 83, 84, 85, 86, 87, 88, 89, 90, 91, 92, 93, 94, 95, 96, 97, 98, 99, 100, 101, 102, 103, 104, 105, 106, 107, 108, 109, 110, 111, 112, 113, 114, 115, 116, 117, 118, 119, 120, 121, 122, 123, 124, 125, 126, 127, 128, 129, 3, 130, 131, 41, 132, 133, 134, 135, 136, 147, 148, 149, 150, 151, 152, 153, 154, 155, 156, 157, 137, 138, 139, 140, 141, 142, 143, 144, 145, 146, 158, 159, 160, 161, 162, 163, 164, 165, 166, 167, 168, 169, 170, 171, 172, 173] (by decide +kernel) (by decide +kernel)
set_option maxRecDepth 20000 in
theorem gX5_move_X5_tell : GoodIn wsX5_move (wsV RX5 108 RX5 yX5_tell wsX5_tell) := goodIn_app (goodIn_of _ (by decide +kernel)) ggX5_move_X5_tell
theorem dX5_move_0 : decode cX5_move 0 = .ok (.aload_n 0, 1) := by decide +kernel
theorem dX5_move_1 : decode cX5_move 1 = .ok (.iload_n 1, 1) := by decide +kernel
theorem dX5_move_2 : decode cX5_move 2 = .ok (.invokevirtual 112, 3) := by decide +kernel
theorem dX5_move_5 : decode cX5_move 5 = .ok (.iload_n 3, 1) := by decide +kernel
theorem dX5_move_6 : decode cX5_move 6 = .ok (.invokestatic 76, 3) := by decide +kernel
theorem dX5_move_9 : decode cX5_move 9 = .ok (.aload_n 0, 1) := by decide +kernel
theorem dX5_move_10 : decode cX5_move 10 = .ok (.iload_n 2, 1) := by decide +kernel
theorem dX5_move_11 : decode cX5_move 11 = .ok (.invokevirtual 79, 3) := by decide +kernel
theorem dX5_move_14 : decode cX5_move 14 = .ok (.aload_n 0, 1) := by decide +kernel
theorem dX5_move_15 : decode cX5_move 15 = .ok (.invokevirtual 87, 3) := by decide +kernel
theorem dX5_move_18 : decode cX5_move 18 = .ok (.new 97, 3) := by decide +kernel
theorem dX5_move_21 : decode cX5_move 21 = .ok (.dup, 1) := by decide +kernel
theorem dX5_move_22 : decode cX5_move 22 = .ok (.iconst 1, 1) := by decide +kernel
theorem dX5_move_23 : decode cX5_move 23 = .ok (.aload_n 0, 1) := by decide +kernel
theorem dX5_move_24 : decode cX5_move 24 = .ok (.getfield 50, 3) := by decide +kernel
theorem dX5_move_27 : decode cX5_move 27 = .ok (.iload_n 2, 1) := by decide +kernel
theorem dX5_move_28 : decode cX5_move 28 = .ok (.iload_n 1, 1) := by decide +kernel
theorem dX5_move_29 : decode cX5_move 29 = .ok (.iconst (-1), 1) := by decide +kernel
theorem dX5_move_30 : decode cX5_move 30 = .ok (.invokespecial 99, 3) := by decide +kernel
theorem dX5_move_33 : decode cX5_move 33 = .ok (.astore 4, 2) := by decide +kernel
theorem dX5_move_35 : decode cX5_move 35 = .ok (.aload 4, 2) := by decide +kernel
theorem dX5_move_37 : decode cX5_move 37 = .ok (.iload_n 3, 1) := by decide +kernel
theorem dX5_move_38 : decode cX5_move 38 = .ok (.putfield 102, 3) := by decide +kernel
theorem dX5_move_41 : decode cX5_move 41 = .ok (.aload_n 0, 1) := by decide +kernel
theorem dX5_move_42 : decode cX5_move 42 = .ok (.aload 4, 2) := by decide +kernel
theorem dX5_move_44 : decode cX5_move 44 = .ok (.invokevirtual 108, 3) := by decide +kernel
theorem dX5_move_47 : decode cX5_move 47 = .ok (.ireturn, 1) := by decide +kernel
set_option maxRecDepth 20000 in
theorem ggX5_naming_X5_requirePerson : GoodIn wsX5_naming wsX5_requirePerson := goodIn_ca (goodIn_r _ [9, 10, 11, 12, 144, 145, 146, 147, 148, 149, 150, 151, 152, 153, 154] (by decide +kernel) (by decide +kernel)) (goodIn_sub (fun _ h => List.mem_cons_of_mem _ (List.mem_append_left _ (List.mem_append_left _ (List.mem_append_right _ h)))) (by decide +kernel))
set_option maxRecDepth 20000 in
theorem gX5_naming_X5_requirePerson : GoodIn wsX5_naming (wsV RX5 112 RX5 yX5_requirePerson wsX5_requirePerson) := goodIn_app (goodIn_of _ (by decide +kernel)) ggX5_naming_X5_requirePerson
set_option maxRecDepth 20000 in
theorem ggX5_naming_X5_requireDay : GoodIn wsX5_naming wsX5_requireDay := goodIn_ca (goodIn_r _ [16, 4, 17, 18, 8, 19, 20, 21, 144, 145, 146, 147, 148, 149, 150, 151, 152, 153, 154] (by decide +kernel) (by decide +kernel)) (goodIn_sub (fun _ h => List.mem_cons_of_mem _ (List.mem_append_left _ (List.mem_append_right _ h))) (by decide +kernel))
set_option maxRecDepth 20000 in
theorem gX5_naming_X5_requireDay : GoodIn wsX5_naming (wsV RX5 79 RX5 yX5_requireDay wsX5_requireDay) := goodIn_app (goodIn_of _ (by decide +kernel)) ggX5_naming_X5_requireDay
set_option maxRecDepth 20000 in
theorem ggX5_naming_X5_requireWithin : GoodIn wsX5_naming wsX5_requireWithin := goodIn_ca (goodIn_r _ [19, 20, 21] (by decide +kernel) (by decide +kernel)) (goodIn_sub (fun _ h => List.mem_cons_of_mem _ (List.mem_append_left _ (List.mem_append_right _ h))) (by decide +kernel))
set_option maxRecDepth 20000 in
theorem gX5_naming_X5_requireWithin : GoodIn wsX5_naming (va_wsS RX5 58 yX5_requireWithin wsX5_requireWithin) := goodIn_app (goodIn_of _ (by decide +kernel)) ggX5_naming_X5_requireWithin
set_option maxRecDepth 20000 in
theorem ggX5_naming_X5_requireActLeft : GoodIn wsX5_naming wsX5_requireActLeft := goodIn_ca (goodIn_r _ [25, 26, 27, 28, 144, 145, 146, 147, 148, 149, 150, 151, 152, 153, 154, 155, 156, 157] (by decide +kernel) (by decide +kernel)) (goodIn_sub (fun _ h => List.mem_cons_of_mem _ (List.mem_append_right _ h)) (by decide +kernel))
set_option maxRecDepth 20000 in
theorem gX5_naming_X5_requireActLeft : GoodIn wsX5_naming (wsV RX5 87 RX5 yX5_requireActLeft wsX5_requireActLeft) := goodIn_app (goodIn_of _ (by decide +kernel)) ggX5_naming_X5_requireActLeft
set_option maxRecDepth 20000 in
theorem ggX5_naming_X0_init : GoodIn wsX5_naming wsX0_init := goodIn_r _ [30, 31, 32, 33, 34, 35, 36, 37, 38, 39, 40, 41, 134, 135, 136, 137, 138, 139, 140, 141, 142, 143] (by decide +kernel) (by decide +kernel)
set_option maxRecDepth 20000 in
theorem gX5_naming_X0_init_n99 : GoodIn wsX5_naming (wsX0_init) := ggX5_naming_X0_init
set_option maxRecDepth 20000 in
theorem ggX5_naming_X5_tell : GoodIn wsX5_naming wsX5_tell := goodIn_r _ [45, 28, 46, 4, 47, 48, 49, 50, 51, 52, 53, 54, 55, 56, 57, 58, 59, 60, 61, 62, 63, 64, 65, 8, 66, 67, 68, 69, 70, 71, 72, 73, 74, 75, 76, 77, 78, 79, 80, 81, 82, 83, 84, 85, 86, 87, 88, 89, 90, 91, 92, 93, 94, 95, 96, 97, 98, 99, 100, 101, 102, 103, 104, 105, 106, 107, 108, 109, 110, 111, 112, 113, 114, 115, 116, 117, 118, 119, 120, 121, 122, 123, 124, 125, 126, 3, 127, 128, 38, 129, 130, 131, 132, 133, 144, 145, 146, 147, 148, 149, 150, 151, 152, 153, 154, 134, 135, 136, 137, 138, 139, 140, 141, 142, 143, 155, 156, 157, 158, 159, 160, 161, 162, 163, 164, 165, 166, 167, 168, 169, 170] (by decide +kernel) (by decide +kernel)
set_option maxRecDepth 20000 in
theorem gX5_naming_X5_tell : GoodIn wsX5_naming (wsV RX5 108 RX5 yX5_tell wsX5_tell) := goodIn_app (goodIn_of _ (by decide +kernel)) ggX5_naming_X5_tell
theorem dX5_naming_0 : decode cX5_naming 0 = .ok (.aload_n 0, 1) := by decide +kernel
theorem dX5_naming_1 : decode cX5_naming 1 = .ok (.iload_n 1, 1) := by decide +kernel
theorem dX5_naming_2 : decode cX5_naming 2 = .ok (.invokevirtual 112, 3) := by decide +kernel
theorem dX5_naming_5 : decode cX5_naming 5 = .ok (.aload_n 0, 1) := by decide +kernel
theorem dX5_naming_6 : decode cX5_naming 6 = .ok (.iload_n 2, 1) := by decide +kernel
theorem dX5_naming_7 : decode cX5_naming 7 = .ok (.invokevirtual 79, 3) := by decide +kernel
theorem dX5_naming_10 : decode cX5_naming 10 = .ok (.iload_n 3, 1) := by decide +kernel
theorem dX5_naming_11 : decode cX5_naming 11 = .ok (.iconst 0, 1) := by decide +kernel
theorem dX5_naming_12 : decode cX5_naming 12 = .ok (.sipush 999, 3) := by decide +kernel
theorem dX5_naming_15 : decode cX5_naming 15 = .ok (.invokestatic 58, 3) := by decide +kernel
theorem dX5_naming_18 : decode cX5_naming 18 = .ok (.aload_n 0, 1) := by decide +kernel
theorem dX5_naming_19 : decode cX5_naming 19 = .ok (.invokevirtual 87, 3) := by decide +kernel
theorem dX5_naming_22 : decode cX5_naming 22 = .ok (.new 97, 3) := by decide +kernel
theorem dX5_naming_25 : decode cX5_naming 25 = .ok (.dup, 1) := by decide +kernel
theorem dX5_naming_26 : decode cX5_naming 26 = .ok (.iconst 2, 1) := by decide +kernel
theorem dX5_naming_27 : decode cX5_naming 27 = .ok (.aload_n 0, 1) := by decide +kernel
theorem dX5_naming_28 : decode cX5_naming 28 = .ok (.getfield 50, 3) := by decide +kernel
theorem dX5_naming_31 : decode cX5_naming 31 = .ok (.iload_n 2, 1) := by decide +kernel
theorem dX5_naming_32 : decode cX5_naming 32 = .ok (.iload_n 1, 1) := by decide +kernel
theorem dX5_naming_33 : decode cX5_naming 33 = .ok (.iconst (-1), 1) := by decide +kernel
theorem dX5_naming_34 : decode cX5_naming 34 = .ok (.invokespecial 99, 3) := by decide +kernel
theorem dX5_naming_37 : decode cX5_naming 37 = .ok (.astore 4, 2) := by decide +kernel
theorem dX5_naming_39 : decode cX5_naming 39 = .ok (.aload 4, 2) := by decide +kernel
theorem dX5_naming_41 : decode cX5_naming 41 = .ok (.iload_n 3, 1) := by decide +kernel
theorem dX5_naming_42 : decode cX5_naming 42 = .ok (.putfield 105, 3) := by decide +kernel
theorem dX5_naming_45 : decode cX5_naming 45 = .ok (.aload_n 0, 1) := by decide +kernel
theorem dX5_naming_46 : decode cX5_naming 46 = .ok (.aload 4, 2) := by decide +kernel
theorem dX5_naming_48 : decode cX5_naming 48 = .ok (.invokevirtual 108, 3) := by decide +kernel
theorem dX5_naming_51 : decode cX5_naming 51 = .ok (.ireturn, 1) := by decide +kernel
set_option maxRecDepth 20000 in
theorem ggX5_tie_X5_requirePerson : GoodIn wsX5_tie wsX5_requirePerson := goodIn_ca (goodIn_r _ [11, 12, 13, 14, 147, 148, 149, 150, 151, 152, 153, 154, 155, 156, 157] (by decide +kernel) (by decide +kernel)) (goodIn_sub (fun _ h => List.mem_cons_of_mem _ (List.mem_append_left _ (List.mem_append_right _ h))) (by decide +kernel))
set_option maxRecDepth 20000 in
theorem gX5_tie_X5_requirePerson : GoodIn wsX5_tie (wsV RX5 112 RX5 yX5_requirePerson wsX5_requirePerson) := goodIn_app (goodIn_of _ (by decide +kernel)) ggX5_tie_X5_requirePerson
set_option maxRecDepth 20000 in
theorem ggX5_tie_X5_requireDay : GoodIn wsX5_tie wsX5_requireDay := goodIn_ca (goodIn_r _ [18, 6, 19, 20, 10, 21, 1, 2, 147, 148, 149, 150, 151, 152, 153, 154, 155, 156, 157] (by decide +kernel) (by decide +kernel)) (goodIn_sub (fun _ h => List.mem_cons_of_mem _ (List.mem_append_left _ (List.mem_append_left _ (List.mem_append_right _ h)))) (by decide +kernel))
set_option maxRecDepth 20000 in
theorem gX5_tie_X5_requireDay : GoodIn wsX5_tie (wsV RX5 79 RX5 yX5_requireDay wsX5_requireDay) := goodIn_app (goodIn_of _ (by decide +kernel)) ggX5_tie_X5_requireDay
set_option maxRecDepth 20000 in
theorem ggX5_tie_X5_requireUnlike : GoodIn wsX5_tie wsX5_requireUnlike := goodIn_ca (goodIn_r _ [24, 1, 2] (by decide +kernel) (by decide +kernel)) (goodIn_sub (fun _ h => List.mem_cons_of_mem _ (List.mem_append_left _ (List.mem_append_left _ (List.mem_append_right _ h)))) (by decide +kernel))
set_option maxRecDepth 20000 in
theorem gX5_tie_X5_requireUnlike : GoodIn wsX5_tie (va_wsS RX5 120 yX5_requireUnlike wsX5_requireUnlike) := goodIn_app (goodIn_of _ (by decide +kernel)) ggX5_tie_X5_requireUnlike
set_option maxRecDepth 20000 in
theorem ggX5_tie_X5_requireActLeft : GoodIn wsX5_tie wsX5_requireActLeft := goodIn_ca (goodIn_r _ [28, 29, 30, 31, 147, 148, 149, 150, 151, 152, 153, 154, 155, 156, 157, 158, 159, 160] (by decide +kernel) (by decide +kernel)) (goodIn_sub (fun _ h => List.mem_cons_of_mem _ (List.mem_append_right _ h)) (by decide +kernel))
set_option maxRecDepth 20000 in
theorem gX5_tie_X5_requireActLeft : GoodIn wsX5_tie (wsV RX5 87 RX5 yX5_requireActLeft wsX5_requireActLeft) := goodIn_app (goodIn_of _ (by decide +kernel)) ggX5_tie_X5_requireActLeft
set_option maxRecDepth 20000 in
theorem ggX5_tie_X0_init : GoodIn wsX5_tie wsX0_init := goodIn_r _ [33, 34, 35, 36, 37, 38, 39, 40, 41, 42, 43, 44, 137, 138, 139, 140, 141, 142, 143, 144, 145, 146] (by decide +kernel) (by decide +kernel)
set_option maxRecDepth 20000 in
theorem gX5_tie_X0_init_n99 : GoodIn wsX5_tie (wsX0_init) := ggX5_tie_X0_init
set_option maxRecDepth 20000 in
theorem ggX5_tie_X5_tell : GoodIn wsX5_tie wsX5_tell := goodIn_r _ [48, 31, 49, 6, 50, 51, 52, 53, 54, 55, 56, 57, 58, 59, 60, 61, 62, 63, 64, 65, 66, 67, 68, 10, 69, 70, 71, 72, 73, 74, 75, 76, 77, 78, 79, 80, 81, 82, 83, 84, 85, 86, 87, 88, 89, 90, 91, 92, 93, 94, 95, 96, 97, 98, 99, 100, 101, 102, 103, 104, 105, 106, 107, 108, 109, 110, 111, 112, 113, 114, 115, 116, 117, 118, 119, 120, 121, 122, 123, 124, 125, 126, 127, 128, 129, 5, 130, 131, 41, 132, 133, 134, 135, 136, 147, 148, 149, 150, 151, 152, 153, 154, 155, 156, 157, 137, 138, 139, 140, 141, 142, 143, 144, 145, 146, 158, 159, 160, 161, 162, 163, 164, 165, 166, 167, 168, 169, 170, 171, 172, 173] (by decide +kernel) (by decide +kernel)
set_option maxRecDepth 20000 in
theorem gX5_tie_X5_tell : GoodIn wsX5_tie (wsV RX5 108 RX5 yX5_tell wsX5_tell) := goodIn_app (goodIn_of _ (by decide +kernel)) ggX5_tie_X5_tell
theorem dX5_tie_0 : decode cX5_tie 0 = .ok (.aload_n 0, 1) := by decide +kernel
theorem dX5_tie_1 : decode cX5_tie 1 = .ok (.iload_n 2, 1) := by decide +kernel
theorem dX5_tie_2 : decode cX5_tie 2 = .ok (.invokevirtual 112, 3) := by decide +kernel
theorem dX5_tie_5 : decode cX5_tie 5 = .ok (.aload_n 0, 1) := by decide +kernel
theorem dX5_tie_6 : decode cX5_tie 6 = .ok (.iload_n 3, 1) := by decide +kernel
theorem dX5_tie_7 : decode cX5_tie 7 = .ok (.invokevirtual 112, 3) := by decide +kernel
theorem dX5_tie_10 : decode cX5_tie 10 = .ok (.iload_n 1, 1) := by decide +kernel
theorem dX5_tie_11 : decode cX5_tie 11 = .ok (.iconst 3, 1) := by decide +kernel
theorem dX5_tie_12 : decode cX5_tie 12 = .ok (.if_icmp .eq 24, 3) := by decide +kernel
theorem dX5_tie_15 : decode cX5_tie 15 = .ok (.iload_n 1, 1) := by decide +kernel
theorem dX5_tie_16 : decode cX5_tie 16 = .ok (.iconst 4, 1) := by decide +kernel
theorem dX5_tie_17 : decode cX5_tie 17 = .ok (.if_icmp .eq 19, 3) := by decide +kernel
theorem dX5_tie_20 : decode cX5_tie 20 = .ok (.iload_n 1, 1) := by decide +kernel
theorem dX5_tie_21 : decode cX5_tie 21 = .ok (.bipush 6, 2) := by decide +kernel
theorem dX5_tie_23 : decode cX5_tie 23 = .ok (.if_icmp .eq 13, 3) := by decide +kernel
theorem dX5_tie_26 : decode cX5_tie 26 = .ok (.new 115, 3) := by decide +kernel
theorem dX5_tie_29 : decode cX5_tie 29 = .ok (.dup, 1) := by decide +kernel
theorem dX5_tie_30 : decode cX5_tie 30 = .ok (.ldc 117, 2) := by decide +kernel
theorem dX5_tie_32 : decode cX5_tie 32 = .ok (.invokespecial 119, 3) := by decide +kernel
theorem dX5_tie_35 : decode cX5_tie 35 = .ok (.athrow, 1) := by decide +kernel
theorem dX5_tie_36 : decode cX5_tie 36 = .ok (.aload_n 0, 1) := by decide +kernel
theorem dX5_tie_37 : decode cX5_tie 37 = .ok (.iload 4, 2) := by decide +kernel
theorem dX5_tie_39 : decode cX5_tie 39 = .ok (.invokevirtual 79, 3) := by decide +kernel
theorem dX5_tie_42 : decode cX5_tie 42 = .ok (.iload_n 2, 1) := by decide +kernel
theorem dX5_tie_43 : decode cX5_tie 43 = .ok (.iload_n 3, 1) := by decide +kernel
theorem dX5_tie_44 : decode cX5_tie 44 = .ok (.invokestatic 120, 3) := by decide +kernel
theorem dX5_tie_47 : decode cX5_tie 47 = .ok (.aload_n 0, 1) := by decide +kernel
theorem dX5_tie_48 : decode cX5_tie 48 = .ok (.invokevirtual 87, 3) := by decide +kernel
theorem dX5_tie_51 : decode cX5_tie 51 = .ok (.aload_n 0, 1) := by decide +kernel
theorem dX5_tie_52 : decode cX5_tie 52 = .ok (.new 97, 3) := by decide +kernel
theorem dX5_tie_55 : decode cX5_tie 55 = .ok (.dup, 1) := by decide +kernel
theorem dX5_tie_56 : decode cX5_tie 56 = .ok (.iload_n 1, 1) := by decide +kernel
theorem dX5_tie_57 : decode cX5_tie 57 = .ok (.aload_n 0, 1) := by decide +kernel
theorem dX5_tie_58 : decode cX5_tie 58 = .ok (.getfield 50, 3) := by decide +kernel
theorem dX5_tie_61 : decode cX5_tie 61 = .ok (.iload 4, 2) := by decide +kernel
theorem dX5_tie_63 : decode cX5_tie 63 = .ok (.iload_n 2, 1) := by decide +kernel
theorem dX5_tie_64 : decode cX5_tie 64 = .ok (.iload_n 3, 1) := by decide +kernel
theorem dX5_tie_65 : decode cX5_tie 65 = .ok (.invokespecial 99, 3) := by decide +kernel
theorem dX5_tie_68 : decode cX5_tie 68 = .ok (.invokevirtual 108, 3) := by decide +kernel
theorem dX5_tie_71 : decode cX5_tie 71 = .ok (.ireturn, 1) := by decide +kernel
set_option maxRecDepth 20000 in
theorem ggX5_death_X5_requirePerson : GoodIn wsX5_death wsX5_requirePerson := goodIn_ca (goodIn_r _ [9, 10, 11, 12, 144, 145, 146, 147, 148, 149, 150, 151, 152, 153, 154] (by decide +kernel) (by decide +kernel)) (goodIn_sub (fun _ h => List.mem_cons_of_mem _ (List.mem_append_left _ (List.mem_append_left _ (List.mem_append_right _ h)))) (by decide +kernel))
set_option maxRecDepth 20000 in
theorem gX5_death_X5_requirePerson : GoodIn wsX5_death (wsV RX5 112 RX5 yX5_requirePerson wsX5_requirePerson) := goodIn_app (goodIn_of _ (by decide +kernel)) ggX5_death_X5_requirePerson
set_option maxRecDepth 20000 in
theorem ggX5_death_X5_requireDay : GoodIn wsX5_death wsX5_requireDay := goodIn_ca (goodIn_r _ [16, 4, 17, 18, 8, 19, 20, 21, 144, 145, 146, 147, 148, 149, 150, 151, 152, 153, 154] (by decide +kernel) (by decide +kernel)) (goodIn_sub (fun _ h => List.mem_cons_of_mem _ (List.mem_append_left _ (List.mem_append_right _ h))) (by decide +kernel))
set_option maxRecDepth 20000 in
theorem gX5_death_X5_requireDay : GoodIn wsX5_death (wsV RX5 79 RX5 yX5_requireDay wsX5_requireDay) := goodIn_app (goodIn_of _ (by decide +kernel)) ggX5_death_X5_requireDay
set_option maxRecDepth 20000 in
theorem ggX5_death_X5_requireActLeft : GoodIn wsX5_death wsX5_requireActLeft := goodIn_ca (goodIn_r _ [25, 26, 27, 28, 144, 145, 146, 147, 148, 149, 150, 151, 152, 153, 154, 155, 156, 157] (by decide +kernel) (by decide +kernel)) (goodIn_sub (fun _ h => List.mem_cons_of_mem _ (List.mem_append_right _ h)) (by decide +kernel))
set_option maxRecDepth 20000 in
theorem gX5_death_X5_requireActLeft : GoodIn wsX5_death (wsV RX5 87 RX5 yX5_requireActLeft wsX5_requireActLeft) := goodIn_app (goodIn_of _ (by decide +kernel)) ggX5_death_X5_requireActLeft
set_option maxRecDepth 20000 in
theorem ggX5_death_X0_init : GoodIn wsX5_death wsX0_init := goodIn_r _ [30, 31, 32, 33, 34, 35, 36, 37, 38, 39, 40, 41, 134, 135, 136, 137, 138, 139, 140, 141, 142, 143] (by decide +kernel) (by decide +kernel)
set_option maxRecDepth 20000 in
theorem gX5_death_X0_init_n99 : GoodIn wsX5_death (wsX0_init) := ggX5_death_X0_init
set_option maxRecDepth 20000 in
theorem ggX5_death_X5_tell : GoodIn wsX5_death wsX5_tell := goodIn_r _ [45, 28, 46, 4, 47, 48, 49, 50, 51, 52, 53, 54, 55, 56, 57, 58, 59, 60, 61, 62, 63, 64, 65, 8, 66, 67, 68, 69, 70, 71, 72, 73, 74, 75, 76, 77, 78, 79, 80, 81, 82, 83, 84, 85, 86, 87, 88, 89, 90, 91, 92, 93, 94, 95, 96, 97, 98, 99, 100, 101, 102, 103, 104, 105, 106, 107, 108, 109, 110, 111, 112, 113, 114, 115, 116, 117, 118, 119, 120, 121, 122, 123, 124, 125, 126, 3, 127, 128, 38, 129, 130, 131, 132, 133, 144, 145, 146, 147, 148, 149, 150, 151, 152, 153, 154, 134, 135, 136, 137, 138, 139, 140, 141, 142, 143, 155, 156, 157, 158, 159, 160, 161, 162, 163, 164, 165, 166, 167, 168, 169, 170] (by decide +kernel) (by decide +kernel)
set_option maxRecDepth 20000 in
theorem gX5_death_X5_tell : GoodIn wsX5_death (wsV RX5 108 RX5 yX5_tell wsX5_tell) := goodIn_app (goodIn_of _ (by decide +kernel)) ggX5_death_X5_tell
theorem dX5_death_0 : decode cX5_death 0 = .ok (.aload_n 0, 1) := by decide +kernel
theorem dX5_death_1 : decode cX5_death 1 = .ok (.iload_n 1, 1) := by decide +kernel
theorem dX5_death_2 : decode cX5_death 2 = .ok (.invokevirtual 112, 3) := by decide +kernel
theorem dX5_death_5 : decode cX5_death 5 = .ok (.aload_n 0, 1) := by decide +kernel
theorem dX5_death_6 : decode cX5_death 6 = .ok (.iload_n 2, 1) := by decide +kernel
theorem dX5_death_7 : decode cX5_death 7 = .ok (.invokevirtual 79, 3) := by decide +kernel
theorem dX5_death_10 : decode cX5_death 10 = .ok (.aload_n 0, 1) := by decide +kernel
theorem dX5_death_11 : decode cX5_death 11 = .ok (.invokevirtual 87, 3) := by decide +kernel
theorem dX5_death_14 : decode cX5_death 14 = .ok (.aload_n 0, 1) := by decide +kernel
theorem dX5_death_15 : decode cX5_death 15 = .ok (.new 97, 3) := by decide +kernel
theorem dX5_death_18 : decode cX5_death 18 = .ok (.dup, 1) := by decide +kernel
theorem dX5_death_19 : decode cX5_death 19 = .ok (.iconst 5, 1) := by decide +kernel
theorem dX5_death_20 : decode cX5_death 20 = .ok (.aload_n 0, 1) := by decide +kernel
theorem dX5_death_21 : decode cX5_death 21 = .ok (.getfield 50, 3) := by decide +kernel
theorem dX5_death_24 : decode cX5_death 24 = .ok (.iload_n 2, 1) := by decide +kernel
theorem dX5_death_25 : decode cX5_death 25 = .ok (.iload_n 1, 1) := by decide +kernel
theorem dX5_death_26 : decode cX5_death 26 = .ok (.iconst (-1), 1) := by decide +kernel
theorem dX5_death_27 : decode cX5_death 27 = .ok (.invokespecial 99, 3) := by decide +kernel
theorem dX5_death_30 : decode cX5_death 30 = .ok (.invokevirtual 108, 3) := by decide +kernel
theorem dX5_death_33 : decode cX5_death 33 = .ok (.ireturn, 1) := by decide +kernel
set_option maxRecDepth 20000 in
theorem ggX5_join_X5_requirePerson : GoodIn wsX5_join wsX5_requirePerson := goodIn_ca (goodIn_r _ [11, 12, 13, 14, 137, 138, 139, 140, 141, 142, 143, 144, 145, 146, 147] (by decide +kernel) (by decide +kernel)) (goodIn_sub (fun _ h => List.mem_cons_of_mem _ (List.mem_append_left _ (List.mem_append_right _ h))) (by decide +kernel))
set_option maxRecDepth 20000 in
theorem gX5_join_X5_requirePerson : GoodIn wsX5_join (wsV RX5 112 RX5 yX5_requirePerson wsX5_requirePerson) := goodIn_app (goodIn_of _ (by decide +kernel)) ggX5_join_X5_requirePerson
set_option maxRecDepth 20000 in
theorem ggX5_join_X5_requireActLeft : GoodIn wsX5_join wsX5_requireActLeft := goodIn_ca (goodIn_r _ [18, 19, 20, 21, 137, 138, 139, 140, 141, 142, 143, 144, 145, 146, 147, 148, 149, 150] (by decide +kernel) (by decide +kernel)) (goodIn_sub (fun _ h => List.mem_cons_of_mem _ (List.mem_append_right _ h)) (by decide +kernel))
set_option maxRecDepth 20000 in
theorem gX5_join_X5_requireActLeft : GoodIn wsX5_join (wsV RX5 87 RX5 yX5_requireActLeft wsX5_requireActLeft) := goodIn_app (goodIn_of _ (by decide +kernel)) ggX5_join_X5_requireActLeft
set_option maxRecDepth 20000 in
theorem ggX5_join_X0_init : GoodIn wsX5_join wsX0_init := goodIn_r _ [23, 24, 25, 26, 27, 28, 29, 30, 31, 32, 33, 34, 127, 128, 129, 130, 131, 132, 133, 134, 135, 136] (by decide +kernel) (by decide +kernel)
set_option maxRecDepth 20000 in
theorem gX5_join_X0_init_n99 : GoodIn wsX5_join (wsX0_init) := ggX5_join_X0_init
set_option maxRecDepth 20000 in
theorem ggX5_join_X5_tell : GoodIn wsX5_join wsX5_tell := goodIn_r _ [38, 21, 39, 6, 40, 41, 42, 43, 44, 45, 46, 47, 48, 49, 50, 51, 52, 53, 54, 55, 56, 57, 58, 10, 59, 60, 61, 62, 63, 64, 65, 66, 67, 68, 69, 70, 71, 72, 73, 74, 75, 76, 77, 78, 79, 80, 81, 82, 83, 84, 85, 86, 87, 88, 89, 90, 91, 92, 93, 94, 95, 96, 97, 98, 99, 100, 101, 102, 103, 104, 105, 106, 107, 108, 109, 110, 111, 112, 113, 114, 115, 116, 117, 118, 119, 5, 120, 121, 31, 122, 123, 124, 125, 126, 137, 138, 139, 140, 141, 142, 143, 144, 145, 146, 147, 127, 128, 129, 130, 131, 132, 133, 134, 135, 136, 148, 149, 150, 151, 152, 153, 154, 155, 156, 157, 158, 159, 160, 161, 162, 163] (by decide +kernel) (by decide +kernel)
set_option maxRecDepth 20000 in
theorem gX5_join_X5_tell : GoodIn wsX5_join (wsV RX5 108 RX5 yX5_tell wsX5_tell) := goodIn_app (goodIn_of _ (by decide +kernel)) ggX5_join_X5_tell
theorem dX5_join_0 : decode cX5_join 0 = .ok (.aload_n 0, 1) := by decide +kernel
theorem dX5_join_1 : decode cX5_join 1 = .ok (.iload_n 1, 1) := by decide +kernel
theorem dX5_join_2 : decode cX5_join 2 = .ok (.invokevirtual 112, 3) := by decide +kernel
theorem dX5_join_5 : decode cX5_join 5 = .ok (.aload_n 0, 1) := by decide +kernel
theorem dX5_join_6 : decode cX5_join 6 = .ok (.iload_n 2, 1) := by decide +kernel
theorem dX5_join_7 : decode cX5_join 7 = .ok (.invokevirtual 112, 3) := by decide +kernel
theorem dX5_join_10 : decode cX5_join 10 = .ok (.iload_n 2, 1) := by decide +kernel
theorem dX5_join_11 : decode cX5_join 11 = .ok (.iload_n 1, 1) := by decide +kernel
theorem dX5_join_12 : decode cX5_join 12 = .ok (.if_icmp .gt 13, 3) := by decide +kernel
theorem dX5_join_15 : decode cX5_join 15 = .ok (.new 115, 3) := by decide +kernel
theorem dX5_join_18 : decode cX5_join 18 = .ok (.dup, 1) := by decide +kernel
theorem dX5_join_19 : decode cX5_join 19 = .ok (.ldc 124, 2) := by decide +kernel
theorem dX5_join_21 : decode cX5_join 21 = .ok (.invokespecial 119, 3) := by decide +kernel
theorem dX5_join_24 : decode cX5_join 24 = .ok (.athrow, 1) := by decide +kernel
theorem dX5_join_25 : decode cX5_join 25 = .ok (.aload_n 0, 1) := by decide +kernel
theorem dX5_join_26 : decode cX5_join 26 = .ok (.invokevirtual 87, 3) := by decide +kernel
theorem dX5_join_29 : decode cX5_join 29 = .ok (.aload_n 0, 1) := by decide +kernel
theorem dX5_join_30 : decode cX5_join 30 = .ok (.new 97, 3) := by decide +kernel
theorem dX5_join_33 : decode cX5_join 33 = .ok (.dup, 1) := by decide +kernel
theorem dX5_join_34 : decode cX5_join 34 = .ok (.bipush 7, 2) := by decide +kernel
theorem dX5_join_36 : decode cX5_join 36 = .ok (.aload_n 0, 1) := by decide +kernel
theorem dX5_join_37 : decode cX5_join 37 = .ok (.getfield 50, 3) := by decide +kernel
theorem dX5_join_40 : decode cX5_join 40 = .ok (.iconst (-1), 1) := by decide +kernel
theorem dX5_join_41 : decode cX5_join 41 = .ok (.iload_n 1, 1) := by decide +kernel
theorem dX5_join_42 : decode cX5_join 42 = .ok (.iload_n 2, 1) := by decide +kernel
theorem dX5_join_43 : decode cX5_join 43 = .ok (.invokespecial 99, 3) := by decide +kernel
theorem dX5_join_46 : decode cX5_join 46 = .ok (.invokevirtual 108, 3) := by decide +kernel
theorem dX5_join_49 : decode cX5_join 49 = .ok (.ireturn, 1) := by decide +kernel
set_option maxRecDepth 20000 in
theorem ggX5_strike_X5_requireAct : GoodIn wsX5_strike wsX5_requireAct := goodIn_ca (goodIn_r _ [11, 12, 13, 14, 15, 16, 17, 18, 19, 134, 135, 136, 137, 138, 139, 140, 141, 142, 143, 144, 145, 146, 147] (by decide +kernel) (by decide +kernel)) (goodIn_sub (fun _ h => List.mem_cons_of_mem _ (List.mem_append_right _ h)) (by decide +kernel))
set_option maxRecDepth 20000 in
theorem gX5_strike_X5_requireAct : GoodIn wsX5_strike (wsV RX5 126 RX5 yX5_requireAct wsX5_requireAct) := goodIn_app (goodIn_of _ (by decide +kernel)) ggX5_strike_X5_requireAct
set_option maxRecDepth 20000 in
theorem ggX5_strike_X5_requireActLeft : GoodIn wsX5_strike wsX5_requireActLeft := goodIn_ca (goodIn_r _ [23, 1, 2, 14, 134, 135, 136, 137, 138, 139, 140, 141, 142, 143, 144, 145, 146, 147] (by decide +kernel) (by decide +kernel)) (goodIn_sub (fun _ h => List.mem_cons_of_mem _ (List.mem_append_left _ (List.mem_append_right _ h))) (by decide +kernel))
set_option maxRecDepth 20000 in
theorem gX5_strike_X5_requireActLeft : GoodIn wsX5_strike (wsV RX5 87 RX5 yX5_requireActLeft wsX5_requireActLeft) := goodIn_app (goodIn_of _ (by decide +kernel)) ggX5_strike_X5_requireActLeft
set_option maxRecDepth 20000 in
theorem ggX5_strike_X0_init : GoodIn wsX5_strike wsX0_init := goodIn_r _ [25, 26, 27, 28, 29, 30, 31, 32, 33, 34, 35, 36, 124, 125, 126, 127, 128, 129, 130, 131, 132, 133] (by decide +kernel) (by decide +kernel)
set_option maxRecDepth 20000 in
theorem gX5_strike_X0_init_n99 : GoodIn wsX5_strike (wsX0_init) := ggX5_strike_X0_init
set_option maxRecDepth 20000 in
theorem ggX5_strike_X5_tell : GoodIn wsX5_strike wsX5_tell := goodIn_r _ [40, 14, 41, 6, 42, 16, 43, 44, 45, 19, 46, 47, 48, 49, 50, 51, 52, 53, 54, 55, 56, 57, 58, 10, 59, 60, 61, 62, 63, 64, 65, 66, 67, 68, 69, 70, 71, 72, 73, 74, 75, 76, 77, 78, 79, 80, 81, 82, 83, 84, 85, 86, 87, 88, 89, 90, 91, 92, 93, 94, 95, 96, 97, 98, 99, 100, 101, 102, 103, 104, 105, 106, 107, 108, 109, 110, 111, 112, 113, 114, 115, 15, 17, 18, 116, 5, 117, 118, 33, 119, 120, 121, 122, 123, 134, 135, 136, 137, 138, 139, 140, 141, 142, 143, 144, 124, 125, 126, 127, 128, 129, 130, 131, 132, 133, 145, 146, 147, 148, 149, 150, 151, 152, 153, 154, 155, 156, 157, 158, 159, 160] (by decide +kernel) (by decide +kernel)
set_option maxRecDepth 20000 in
theorem gX5_strike_X5_tell : GoodIn wsX5_strike (wsV RX5 108 RX5 yX5_tell wsX5_tell) := goodIn_app (goodIn_of _ (by decide +kernel)) ggX5_strike_X5_tell
theorem dX5_strike_0 : decode cX5_strike 0 = .ok (.aload_n 0, 1) := by decide +kernel
theorem dX5_strike_1 : decode cX5_strike 1 = .ok (.iload_n 1, 1) := by decide +kernel
theorem dX5_strike_2 : decode cX5_strike 2 = .ok (.invokevirtual 126, 3) := by decide +kernel
theorem dX5_strike_5 : decode cX5_strike 5 = .ok (.astore_n 2, 1) := by decide +kernel
theorem dX5_strike_6 : decode cX5_strike 6 = .ok (.aload_n 2, 1) := by decide +kernel
theorem dX5_strike_7 : decode cX5_strike 7 = .ok (.getfield 130, 3) := by decide +kernel
theorem dX5_strike_10 : decode cX5_strike 10 = .ok (.bipush 8, 2) := by decide +kernel
theorem dX5_strike_12 : decode cX5_strike 12 = .ok (.if_icmp .eq 10, 3) := by decide +kernel
theorem dX5_strike_15 : decode cX5_strike 15 = .ok (.aload_n 2, 1) := by decide +kernel
theorem dX5_strike_16 : decode cX5_strike 16 = .ok (.getfield 133, 3) := by decide +kernel
theorem dX5_strike_19 : decode cX5_strike 19 = .ok (.ifnull 13, 3) := by decide +kernel
theorem dX5_strike_22 : decode cX5_strike 22 = .ok (.new 62, 3) := by decide +kernel
theorem dX5_strike_25 : decode cX5_strike 25 = .ok (.dup, 1) := by decide +kernel
theorem dX5_strike_26 : decode cX5_strike 26 = .ok (.ldc 137, 2) := by decide +kernel
theorem dX5_strike_28 : decode cX5_strike 28 = .ok (.invokespecial 66, 3) := by decide +kernel
theorem dX5_strike_31 : decode cX5_strike 31 = .ok (.athrow, 1) := by decide +kernel
theorem dX5_strike_32 : decode cX5_strike 32 = .ok (.aload_n 0, 1) := by decide +kernel
theorem dX5_strike_33 : decode cX5_strike 33 = .ok (.invokevirtual 87, 3) := by decide +kernel
theorem dX5_strike_36 : decode cX5_strike 36 = .ok (.new 97, 3) := by decide +kernel
theorem dX5_strike_39 : decode cX5_strike 39 = .ok (.dup, 1) := by decide +kernel
theorem dX5_strike_40 : decode cX5_strike 40 = .ok (.bipush 8, 2) := by decide +kernel
theorem dX5_strike_42 : decode cX5_strike 42 = .ok (.aload_n 0, 1) := by decide +kernel
theorem dX5_strike_43 : decode cX5_strike 43 = .ok (.getfield 50, 3) := by decide +kernel
theorem dX5_strike_46 : decode cX5_strike 46 = .ok (.iconst (-1), 1) := by decide +kernel
theorem dX5_strike_47 : decode cX5_strike 47 = .ok (.iconst (-1), 1) := by decide +kernel
theorem dX5_strike_48 : decode cX5_strike 48 = .ok (.iconst (-1), 1) := by decide +kernel
theorem dX5_strike_49 : decode cX5_strike 49 = .ok (.invokespecial 99, 3) := by decide +kernel
theorem dX5_strike_52 : decode cX5_strike 52 = .ok (.astore_n 3, 1) := by decide +kernel
theorem dX5_strike_53 : decode cX5_strike 53 = .ok (.aload_n 2, 1) := by decide +kernel
theorem dX5_strike_54 : decode cX5_strike 54 = .ok (.aload_n 3, 1) := by decide +kernel
theorem dX5_strike_55 : decode cX5_strike 55 = .ok (.putfield 133, 3) := by decide +kernel
theorem dX5_strike_58 : decode cX5_strike 58 = .ok (.aload_n 0, 1) := by decide +kernel
theorem dX5_strike_59 : decode cX5_strike 59 = .ok (.aload_n 3, 1) := by decide +kernel
theorem dX5_strike_60 : decode cX5_strike 60 = .ok (.invokevirtual 108, 3) := by decide +kernel
theorem dX5_strike_63 : decode cX5_strike 63 = .ok (.ireturn, 1) := by decide +kernel
theorem dX5_day_0 : decode cX5_day 0 = .ok (.aload_n 0, 1) := by decide +kernel
theorem dX5_day_1 : decode cX5_day 1 = .ok (.getfield 50, 3) := by decide +kernel
theorem dX5_day_4 : decode cX5_day 4 = .ok (.ireturn, 1) := by decide +kernel
set_option maxRecDepth 20000 in
theorem ggX5_actOf_X5_requireAct : GoodIn wsX5_actOf wsX5_requireAct := goodIn_ca (goodIn_r _ [5, 6, 7, 8, 9, 10, 11, 12, 13, 29, 30, 31, 32, 33, 34, 35, 36, 37, 38, 39, 40, 41, 42] (by decide +kernel) (by decide +kernel)) (goodIn_sub (fun _ h => List.mem_cons_of_mem _ (List.mem_append_left _ (List.mem_append_right _ h))) (by decide +kernel))
set_option maxRecDepth 20000 in
theorem gX5_actOf_X5_requireAct : GoodIn wsX5_actOf (wsV RX5 126 RX5 yX5_requireAct wsX5_requireAct) := goodIn_app (goodIn_of _ (by decide +kernel)) ggX5_actOf_X5_requireAct
set_option maxRecDepth 20000 in
theorem ggX5_actOf_X5_requireWithin : GoodIn wsX5_actOf wsX5_requireWithin := goodIn_ca (goodIn_r _ [16, 17, 18] (by decide +kernel) (by decide +kernel)) (goodIn_sub (fun _ h => List.mem_cons_of_mem _ (List.mem_append_right _ h)) (by decide +kernel))
set_option maxRecDepth 20000 in
theorem gX5_actOf_X5_requireWithin : GoodIn wsX5_actOf (va_wsS RX5 58 yX5_requireWithin wsX5_requireWithin) := goodIn_app (goodIn_of _ (by decide +kernel)) ggX5_actOf_X5_requireWithin
theorem dX5_actOf_0 : decode cX5_actOf 0 = .ok (.aload_n 0, 1) := by decide +kernel
theorem dX5_actOf_1 : decode cX5_actOf 1 = .ok (.iload_n 1, 1) := by decide +kernel
theorem dX5_actOf_2 : decode cX5_actOf 2 = .ok (.invokevirtual 126, 3) := by decide +kernel
theorem dX5_actOf_5 : decode cX5_actOf 5 = .ok (.astore_n 3, 1) := by decide +kernel
theorem dX5_actOf_6 : decode cX5_actOf 6 = .ok (.iload_n 2, 1) := by decide +kernel
theorem dX5_actOf_7 : decode cX5_actOf 7 = .ok (.iconst 0, 1) := by decide +kernel
theorem dX5_actOf_8 : decode cX5_actOf 8 = .ok (.iconst 4, 1) := by decide +kernel
theorem dX5_actOf_9 : decode cX5_actOf 9 = .ok (.invokestatic 58, 3) := by decide +kernel
theorem dX5_actOf_12 : decode cX5_actOf 12 = .ok (.iload_n 2, 1) := by decide +kernel
theorem dX5_actOf_13 : decode cX5_actOf 13 = .ok (.tableswitch 51 0 3 #[31, 36, 41, 46], 31) := by decide +kernel
theorem dX5_actOf_44 : decode cX5_actOf 44 = .ok (.aload_n 3, 1) := by decide +kernel
theorem dX5_actOf_45 : decode cX5_actOf 45 = .ok (.getfield 130, 3) := by decide +kernel
theorem dX5_actOf_48 : decode cX5_actOf 48 = .ok (.ireturn, 1) := by decide +kernel
theorem dX5_actOf_49 : decode cX5_actOf 49 = .ok (.aload_n 3, 1) := by decide +kernel
theorem dX5_actOf_50 : decode cX5_actOf 50 = .ok (.getfield 139, 3) := by decide +kernel
theorem dX5_actOf_53 : decode cX5_actOf 53 = .ok (.ireturn, 1) := by decide +kernel
theorem dX5_actOf_54 : decode cX5_actOf 54 = .ok (.aload_n 3, 1) := by decide +kernel
theorem dX5_actOf_55 : decode cX5_actOf 55 = .ok (.getfield 142, 3) := by decide +kernel
theorem dX5_actOf_58 : decode cX5_actOf 58 = .ok (.ireturn, 1) := by decide +kernel
theorem dX5_actOf_59 : decode cX5_actOf 59 = .ok (.aload_n 3, 1) := by decide +kernel
theorem dX5_actOf_60 : decode cX5_actOf 60 = .ok (.getfield 145, 3) := by decide +kernel
theorem dX5_actOf_63 : decode cX5_actOf 63 = .ok (.ireturn, 1) := by decide +kernel
theorem dX5_actOf_64 : decode cX5_actOf 64 = .ok (.aload_n 3, 1) := by decide +kernel
theorem dX5_actOf_65 : decode cX5_actOf 65 = .ok (.getfield 133, 3) := by decide +kernel
theorem dX5_actOf_68 : decode cX5_actOf 68 = .ok (.ifnonnull 7, 3) := by decide +kernel
theorem dX5_actOf_71 : decode cX5_actOf 71 = .ok (.iconst (-1), 1) := by decide +kernel
theorem dX5_actOf_72 : decode cX5_actOf 72 = .ok (.goto 10, 3) := by decide +kernel
theorem dX5_actOf_75 : decode cX5_actOf 75 = .ok (.aload_n 3, 1) := by decide +kernel
theorem dX5_actOf_76 : decode cX5_actOf 76 = .ok (.getfield 133, 3) := by decide +kernel
theorem dX5_actOf_79 : decode cX5_actOf 79 = .ok (.getfield 148, 3) := by decide +kernel
theorem dX5_actOf_82 : decode cX5_actOf 82 = .ok (.ireturn, 1) := by decide +kernel
set_option maxRecDepth 20000 in
theorem ggX5_asOf_X5_requirePerson : GoodIn wsX5_asOf wsX5_requirePerson := goodIn_ca (goodIn_r _ [7, 8, 9, 10, 145, 146, 147, 148, 149, 150, 151, 152, 153, 154, 155] (by decide +kernel) (by decide +kernel)) (goodIn_sub (fun _ h => List.mem_cons_of_mem _ (List.mem_append_left _ (List.mem_append_right _ h))) (by decide +kernel))
set_option maxRecDepth 20000 in
theorem gX5_asOf_X5_requirePerson : GoodIn wsX5_asOf (wsV RX5 112 RX5 yX5_requirePerson wsX5_requirePerson) := goodIn_app (goodIn_of _ (by decide +kernel)) ggX5_asOf_X5_requirePerson
set_option maxRecDepth 20000 in
theorem ggX5_asOf_X5_requireWithin : GoodIn wsX5_asOf wsX5_requireWithin := goodIn_ca (goodIn_r _ [13, 14, 15] (by decide +kernel) (by decide +kernel)) (goodIn_sub (fun _ h => List.mem_cons_of_mem _ (List.mem_append_right _ h)) (by decide +kernel))
set_option maxRecDepth 20000 in
theorem gX5_asOf_X5_requireWithin : GoodIn wsX5_asOf (va_wsS RX5 58 yX5_requireWithin wsX5_requireWithin) := goodIn_app (goodIn_of _ (by decide +kernel)) ggX5_asOf_X5_requireWithin
set_option maxRecDepth 20000 in
theorem ggX5_asOf_X5_requireDay : GoodIn wsX5_asOf wsX5_requireDay := goodIn_ca (goodIn_r _ [19, 20, 11, 12, 6, 13, 14, 15, 145, 146, 147, 148, 149, 150, 151, 152, 153, 154, 155] (by decide +kernel) (by decide +kernel)) (goodIn_sub (fun _ h => List.mem_cons_of_mem _ (List.mem_append_right _ h)) (by decide +kernel))
set_option maxRecDepth 20000 in
theorem gX5_asOf_X5_requireDay : GoodIn wsX5_asOf (wsV RX5 79 RX5 yX5_requireDay wsX5_requireDay) := goodIn_app (goodIn_of _ (by decide +kernel)) ggX5_asOf_X5_requireDay
set_option maxRecDepth 20000 in
theorem ggX5_asOf_X2_find : GoodIn wsX5_asOf wsX2_find := goodIn_r _ [24, 25, 26, 27, 22, 28, 29, 30, 31, 32, 33, 34, 35, 36, 37, 38, 39, 40, 41, 42, 43, 44, 45, 46, 47, 48, 49, 50, 51, 52, 53, 54, 55, 56, 57, 58, 59, 60, 61, 62, 63, 64, 6, 65, 66, 67, 68, 69, 70, 71, 72, 73, 74, 75, 76, 77, 78, 79, 80, 81, 82, 83, 84, 85, 86, 87, 88, 89, 90, 91, 92, 93, 94, 95, 96, 97, 98, 99, 100, 101, 102, 103, 104, 105, 156, 157, 158, 159, 160, 161, 162, 163, 164, 165, 166, 167, 168, 169, 170, 171, 172, 173, 174, 175, 176, 177, 178, 179, 180, 181] (by decide +kernel) (by decide +kernel)
set_option maxRecDepth 20000 in
theorem gX5_asOf_X2_find_n54 : GoodIn wsX5_asOf (wsX2_find) := ggX5_asOf_X2_find
set_option maxRecDepth 20000 in
theorem ggX5_asOf_X2_tellOf : GoodIn wsX5_asOf wsX2_tellOf := goodIn_r _ [108, 38, 39, 40, 41, 42, 66, 6, 67, 109, 110, 111, 22, 112, 30, 44, 80, 81, 82, 83, 113, 114, 115, 116, 117, 118, 119, 120, 121, 122, 123, 124, 125, 126, 127, 128, 129, 130, 131, 132, 133, 134, 135, 136, 137, 138, 139, 140, 141, 142, 143, 144, 156, 157, 158, 159, 160, 161, 162, 163, 164, 165, 166, 167, 168] (by decide +kernel) (by decide +kernel)
set_option maxRecDepth 20000 in
theorem gX5_asOf_X2_tellOf_n151 : GoodIn wsX5_asOf (wsX2_tellOf) := ggX5_asOf_X2_tellOf
theorem dX5_asOf_0 : decode cX5_asOf 0 = .ok (.aload_n 0, 1) := by decide +kernel
theorem dX5_asOf_1 : decode cX5_asOf 1 = .ok (.iload_n 1, 1) := by decide +kernel
theorem dX5_asOf_2 : decode cX5_asOf 2 = .ok (.invokevirtual 112, 3) := by decide +kernel
theorem dX5_asOf_5 : decode cX5_asOf 5 = .ok (.iload_n 2, 1) := by decide +kernel
theorem dX5_asOf_6 : decode cX5_asOf 6 = .ok (.iconst 0, 1) := by decide +kernel
theorem dX5_asOf_7 : decode cX5_asOf 7 = .ok (.bipush 6, 2) := by decide +kernel
theorem dX5_asOf_9 : decode cX5_asOf 9 = .ok (.invokestatic 58, 3) := by decide +kernel
theorem dX5_asOf_12 : decode cX5_asOf 12 = .ok (.aload_n 0, 1) := by decide +kernel
theorem dX5_asOf_13 : decode cX5_asOf 13 = .ok (.iload_n 3, 1) := by decide +kernel
theorem dX5_asOf_14 : decode cX5_asOf 14 = .ok (.invokevirtual 79, 3) := by decide +kernel
theorem dX5_asOf_17 : decode cX5_asOf 17 = .ok (.aload_n 0, 1) := by decide +kernel
theorem dX5_asOf_18 : decode cX5_asOf 18 = .ok (.iload 4, 2) := by decide +kernel
theorem dX5_asOf_20 : decode cX5_asOf 20 = .ok (.invokevirtual 79, 3) := by decide +kernel
theorem dX5_asOf_23 : decode cX5_asOf 23 = .ok (.aload_n 0, 1) := by decide +kernel
theorem dX5_asOf_24 : decode cX5_asOf 24 = .ok (.getfield 23, 3) := by decide +kernel
theorem dX5_asOf_27 : decode cX5_asOf 27 = .ok (.aload_n 0, 1) := by decide +kernel
theorem dX5_asOf_28 : decode cX5_asOf 28 = .ok (.getfield 10, 3) := by decide +kernel
theorem dX5_asOf_31 : decode cX5_asOf 31 = .ok (.iload_n 3, 1) := by decide +kernel
theorem dX5_asOf_32 : decode cX5_asOf 32 = .ok (.iload 4, 2) := by decide +kernel
theorem dX5_asOf_34 : decode cX5_asOf 34 = .ok (.invokevirtual 54, 3) := by decide +kernel
theorem dX5_asOf_37 : decode cX5_asOf 37 = .ok (.aload_n 0, 1) := by decide +kernel
theorem dX5_asOf_38 : decode cX5_asOf 38 = .ok (.getfield 23, 3) := by decide +kernel
theorem dX5_asOf_41 : decode cX5_asOf 41 = .ok (.iload_n 1, 1) := by decide +kernel
theorem dX5_asOf_42 : decode cX5_asOf 42 = .ok (.iload_n 2, 1) := by decide +kernel
theorem dX5_asOf_43 : decode cX5_asOf 43 = .ok (.invokevirtual 151, 3) := by decide +kernel
theorem dX5_asOf_46 : decode cX5_asOf 46 = .ok (.ireturn, 1) := by decide +kernel
set_option maxRecDepth 20000 in
theorem ggX5_now_X5_requirePerson : GoodIn wsX5_now wsX5_requirePerson := goodIn_ca (goodIn_r _ [6, 7, 8, 9, 68, 69, 70, 71, 72, 73, 74, 75, 76, 77, 78] (by decide +kernel) (by decide +kernel)) (goodIn_sub (fun _ h => List.mem_cons_of_mem _ (List.mem_append_left _ (List.mem_append_right _ h))) (by decide +kernel))
set_option maxRecDepth 20000 in
theorem gX5_now_X5_requirePerson : GoodIn wsX5_now (wsV RX5 112 RX5 yX5_requirePerson wsX5_requirePerson) := goodIn_app (goodIn_of _ (by decide +kernel)) ggX5_now_X5_requirePerson
set_option maxRecDepth 20000 in
theorem ggX5_now_X5_requireWithin : GoodIn wsX5_now wsX5_requireWithin := goodIn_ca (goodIn_r _ [12, 13, 14] (by decide +kernel) (by decide +kernel)) (goodIn_sub (fun _ h => List.mem_cons_of_mem _ (List.mem_append_right _ h)) (by decide +kernel))
set_option maxRecDepth 20000 in
theorem gX5_now_X5_requireWithin : GoodIn wsX5_now (va_wsS RX5 58 yX5_requireWithin wsX5_requireWithin) := goodIn_app (goodIn_of _ (by decide +kernel)) ggX5_now_X5_requireWithin
set_option maxRecDepth 20000 in
theorem ggX5_now_X2_tellOf : GoodIn wsX5_now wsX2_tellOf := goodIn_r _ [18, 19, 20, 21, 22, 23, 24, 5, 25, 26, 27, 28, 16, 29, 30, 31, 32, 33, 34, 35, 36, 37, 38, 39, 40, 41, 42, 43, 44, 45, 46, 47, 48, 49, 50, 51, 52, 53, 54, 55, 56, 57, 58, 59, 60, 61, 62, 63, 64, 65, 66, 67, 79, 80, 81, 82, 83, 84, 85, 86, 87, 88, 89, 90, 91] (by decide +kernel) (by decide +kernel)
set_option maxRecDepth 20000 in
theorem gX5_now_X2_tellOf_n151 : GoodIn wsX5_now (wsX2_tellOf) := ggX5_now_X2_tellOf
theorem dX5_now_0 : decode cX5_now 0 = .ok (.aload_n 0, 1) := by decide +kernel
theorem dX5_now_1 : decode cX5_now 1 = .ok (.iload_n 1, 1) := by decide +kernel
theorem dX5_now_2 : decode cX5_now 2 = .ok (.invokevirtual 112, 3) := by decide +kernel
theorem dX5_now_5 : decode cX5_now 5 = .ok (.iload_n 2, 1) := by decide +kernel
theorem dX5_now_6 : decode cX5_now 6 = .ok (.iconst 0, 1) := by decide +kernel
theorem dX5_now_7 : decode cX5_now 7 = .ok (.bipush 6, 2) := by decide +kernel
theorem dX5_now_9 : decode cX5_now 9 = .ok (.invokestatic 58, 3) := by decide +kernel
theorem dX5_now_12 : decode cX5_now 12 = .ok (.aload_n 0, 1) := by decide +kernel
theorem dX5_now_13 : decode cX5_now 13 = .ok (.getfield 19, 3) := by decide +kernel
theorem dX5_now_16 : decode cX5_now 16 = .ok (.iload_n 1, 1) := by decide +kernel
theorem dX5_now_17 : decode cX5_now 17 = .ok (.iload_n 2, 1) := by decide +kernel
theorem dX5_now_18 : decode cX5_now 18 = .ok (.invokevirtual 151, 3) := by decide +kernel
theorem dX5_now_21 : decode cX5_now 21 = .ok (.ireturn, 1) := by decide +kernel
set_option maxRecDepth 20000 in
theorem ggX5_households_X5_requireDwelling : GoodIn wsX5_households wsX5_requireDwelling := goodIn_ca (goodIn_r _ [6, 7, 8] (by decide +kernel) (by decide +kernel)) (goodIn_sub (fun _ h => List.mem_cons_of_mem _ (List.mem_append_left _ (List.mem_append_right _ h))) (by decide +kernel))
set_option maxRecDepth 20000 in
theorem gX5_households_X5_requireDwelling : GoodIn wsX5_households (va_wsS RX5 76 yX5_requireDwelling wsX5_requireDwelling) := goodIn_app (goodIn_of _ (by decide +kernel)) ggX5_households_X5_requireDwelling
set_option maxRecDepth 20000 in
theorem ggX5_households_X5_requireDay : GoodIn wsX5_households wsX5_requireDay := goodIn_ca (goodIn_r _ [12, 13, 14, 15, 5, 16, 17, 18, 139, 140, 141, 142, 143, 144, 145, 146, 147, 148, 149] (by decide +kernel) (by decide +kernel)) (goodIn_sub (fun _ h => List.mem_cons_of_mem _ (List.mem_append_right _ h)) (by decide +kernel))
set_option maxRecDepth 20000 in
theorem gX5_households_X5_requireDay : GoodIn wsX5_households (wsV RX5 79 RX5 yX5_requireDay wsX5_requireDay) := goodIn_app (goodIn_of _ (by decide +kernel)) ggX5_households_X5_requireDay
set_option maxRecDepth 20000 in
theorem ggX5_households_X2_find : GoodIn wsX5_households wsX2_find := goodIn_r _ [22, 23, 24, 25, 20, 26, 27, 28, 29, 30, 31, 32, 33, 34, 35, 36, 37, 38, 39, 40, 41, 42, 43, 44, 45, 46, 47, 48, 49, 50, 51, 52, 53, 54, 55, 56, 57, 58, 59, 60, 61, 62, 5, 63, 64, 65, 66, 67, 68, 69, 70, 71, 72, 73, 74, 75, 76, 77, 78, 79, 80, 81, 82, 83, 84, 85, 86, 87, 88, 89, 90, 91, 92, 93, 94, 95, 96, 97, 98, 99, 100, 101, 102, 103, 150, 151, 152, 153, 154, 155, 156, 157, 158, 159, 160, 161, 162, 163, 164, 165, 166, 167, 168, 169, 170, 171, 172, 173, 174, 175] (by decide +kernel) (by decide +kernel)
set_option maxRecDepth 20000 in
theorem gX5_households_X2_find_n54 : GoodIn wsX5_households (wsX2_find) := ggX5_households_X2_find
set_option maxRecDepth 20000 in
theorem ggX5_households_X2_countHouseholds : GoodIn wsX5_households wsX2_countHouseholds := goodIn_r _ [106, 37, 107, 108, 109, 110, 20, 111, 39, 40, 112, 113, 114, 115, 78, 79, 80, 81, 36, 64, 5, 65, 116, 117, 118, 119, 120, 121, 122, 123, 124, 125, 126, 127, 128, 129, 130, 131, 132, 133, 134, 28, 42, 135, 136, 137, 138, 150, 151, 152, 153, 154, 155, 156, 157, 158, 159, 160, 161, 162] (by decide +kernel) (by decide +kernel)
set_option maxRecDepth 20000 in
theorem gX5_households_X2_countHouseholds_n155 : GoodIn wsX5_households (wsX2_countHouseholds) := ggX5_households_X2_countHouseholds
theorem dX5_households_0 : decode cX5_households 0 = .ok (.iload_n 1, 1) := by decide +kernel
theorem dX5_households_1 : decode cX5_households 1 = .ok (.invokestatic 76, 3) := by decide +kernel
theorem dX5_households_4 : decode cX5_households 4 = .ok (.aload_n 0, 1) := by decide +kernel
theorem dX5_households_5 : decode cX5_households 5 = .ok (.iload_n 2, 1) := by decide +kernel
theorem dX5_households_6 : decode cX5_households 6 = .ok (.invokevirtual 79, 3) := by decide +kernel
theorem dX5_households_9 : decode cX5_households 9 = .ok (.aload_n 0, 1) := by decide +kernel
theorem dX5_households_10 : decode cX5_households 10 = .ok (.iload_n 3, 1) := by decide +kernel
theorem dX5_households_11 : decode cX5_households 11 = .ok (.invokevirtual 79, 3) := by decide +kernel
theorem dX5_households_14 : decode cX5_households 14 = .ok (.aload_n 0, 1) := by decide +kernel
theorem dX5_households_15 : decode cX5_households 15 = .ok (.getfield 23, 3) := by decide +kernel
theorem dX5_households_18 : decode cX5_households 18 = .ok (.aload_n 0, 1) := by decide +kernel
theorem dX5_households_19 : decode cX5_households 19 = .ok (.getfield 10, 3) := by decide +kernel
theorem dX5_households_22 : decode cX5_households 22 = .ok (.iload_n 2, 1) := by decide +kernel
theorem dX5_households_23 : decode cX5_households 23 = .ok (.iload_n 3, 1) := by decide +kernel
theorem dX5_households_24 : decode cX5_households 24 = .ok (.invokevirtual 54, 3) := by decide +kernel
theorem dX5_households_27 : decode cX5_households 27 = .ok (.aload_n 0, 1) := by decide +kernel
theorem dX5_households_28 : decode cX5_households 28 = .ok (.getfield 23, 3) := by decide +kernel
theorem dX5_households_31 : decode cX5_households 31 = .ok (.iload_n 1, 1) := by decide +kernel
theorem dX5_households_32 : decode cX5_households 32 = .ok (.invokevirtual 155, 3) := by decide +kernel
theorem dX5_households_35 : decode cX5_households 35 = .ok (.ireturn, 1) := by decide +kernel
set_option maxRecDepth 20000 in
theorem ggX5_money_X5_requireOffice : GoodIn wsX5_money wsX5_requireOffice := goodIn_ca (goodIn_r _ [6, 7, 8] (by decide +kernel) (by decide +kernel)) (goodIn_sub (fun _ h => List.mem_cons_of_mem _ (List.mem_append_left _ (List.mem_append_right _ h))) (by decide +kernel))
set_option maxRecDepth 20000 in
theorem gX5_money_X5_requireOffice : GoodIn wsX5_money (va_wsS RX5 158 yX5_requireOffice wsX5_requireOffice) := goodIn_app (goodIn_of _ (by decide +kernel)) ggX5_money_X5_requireOffice
set_option maxRecDepth 20000 in
theorem ggX5_money_X5_requireDay : GoodIn wsX5_money wsX5_requireDay := goodIn_ca (goodIn_r _ [12, 13, 14, 15, 5, 16, 17, 18, 108, 109, 110, 111, 112, 113, 114, 115, 116, 117, 118] (by decide +kernel) (by decide +kernel)) (goodIn_sub (fun _ h => List.mem_cons_of_mem _ (List.mem_append_right _ h)) (by decide +kernel))
set_option maxRecDepth 20000 in
theorem gX5_money_X5_requireDay : GoodIn wsX5_money (wsV RX5 79 RX5 yX5_requireDay wsX5_requireDay) := goodIn_app (goodIn_of _ (by decide +kernel)) ggX5_money_X5_requireDay
set_option maxRecDepth 20000 in
theorem ggX5_money_X5_requireWithin : GoodIn wsX5_money wsX5_requireWithin := goodIn_ca (goodIn_r _ [16, 17, 18] (by decide +kernel) (by decide +kernel)) (goodIn_sub (fun _ h => List.mem_cons_of_mem _ (List.mem_append_right _ h)) (by decide +kernel))
set_option maxRecDepth 20000 in
theorem gX5_money_X5_requireWithin : GoodIn wsX5_money (va_wsS RX5 58 yX5_requireWithin wsX5_requireWithin) := goodIn_app (goodIn_of _ (by decide +kernel)) ggX5_money_X5_requireWithin
set_option maxRecDepth 20000 in
theorem ggX5_money_X2_begin : GoodIn wsX5_money wsX2_begin := goodIn_r _ [22, 23, 24, 25, 26, 27, 28, 20, 29, 30, 31, 32, 33, 34, 35, 36, 37, 38, 39, 40, 41, 42, 43, 44, 45, 46, 47, 48, 49, 50, 51, 52, 53, 54, 55, 56, 57, 58, 5, 59, 60, 61, 119, 120, 121, 122, 123, 124, 125, 126, 127, 128, 129, 130, 131, 132, 133, 134, 135, 136, 137, 138, 139, 140, 141, 142, 143, 144] (by decide +kernel) (by decide +kernel)
set_option maxRecDepth 20000 in
theorem gX5_money_X2_begin_n161 : GoodIn wsX5_money (wsX2_begin) := ggX5_money_X2_begin
set_option maxRecDepth 20000 in
theorem ggX5_money_X2_goOn : GoodIn wsX5_money wsX2_goOn := goodIn_r _ [64, 24, 25, 23, 52, 53, 54, 55, 56, 57, 65, 66, 67, 20, 68, 30, 33, 34, 60, 5, 61, 69, 70, 71, 72, 32, 36, 37, 38, 73, 74, 75, 76, 58, 59, 77, 78, 79, 80, 35, 81, 82, 83, 84, 85, 86, 87, 88, 89, 90, 91, 92, 93, 94, 95, 96, 31, 97, 98, 119, 120, 121, 122, 123, 124, 125, 126, 127, 128, 129, 130, 131, 135, 136, 137, 138, 139, 140, 141, 142, 143, 144] (by decide +kernel) (by decide +kernel)
set_option maxRecDepth 20000 in
theorem gX5_money_X2_goOn_n69 : GoodIn wsX5_money (wsX2_goOn) := ggX5_money_X2_goOn
set_option maxRecDepth 20000 in
theorem ggX5_money_X2_countLivingUnder : GoodIn wsX5_money wsX2_countLivingUnder := goodIn_r _ [101, 33, 73, 74, 75, 20, 76, 32, 102, 5, 103, 104, 105, 106, 107, 119, 120, 121, 122, 123, 124, 125, 126, 127, 128, 129, 130, 131] (by decide +kernel) (by decide +kernel)
set_option maxRecDepth 20000 in
theorem gX5_money_X2_countLivingUnder_n165 : GoodIn wsX5_money (wsX2_countLivingUnder) := ggX5_money_X2_countLivingUnder
theorem dX5_money_0 : decode cX5_money 0 = .ok (.iload_n 1, 1) := by decide +kernel
theorem dX5_money_1 : decode cX5_money 1 = .ok (.invokestatic 158, 3) := by decide +kernel
theorem dX5_money_4 : decode cX5_money 4 = .ok (.aload_n 0, 1) := by decide +kernel
theorem dX5_money_5 : decode cX5_money 5 = .ok (.iload_n 2, 1) := by decide +kernel
theorem dX5_money_6 : decode cX5_money 6 = .ok (.invokevirtual 79, 3) := by decide +kernel
theorem dX5_money_9 : decode cX5_money 9 = .ok (.iload_n 3, 1) := by decide +kernel
theorem dX5_money_10 : decode cX5_money 10 = .ok (.iconst 1, 1) := by decide +kernel
theorem dX5_money_11 : decode cX5_money 11 = .ok (.bipush 60, 2) := by decide +kernel
theorem dX5_money_13 : decode cX5_money 13 = .ok (.invokestatic 58, 3) := by decide +kernel
theorem dX5_money_16 : decode cX5_money 16 = .ok (.aload_n 0, 1) := by decide +kernel
theorem dX5_money_17 : decode cX5_money 17 = .ok (.iload_n 2, 1) := by decide +kernel
theorem dX5_money_18 : decode cX5_money 18 = .ok (.iload_n 3, 1) := by decide +kernel
theorem dX5_money_19 : decode cX5_money 19 = .ok (.iadd, 1) := by decide +kernel
theorem dX5_money_20 : decode cX5_money 20 = .ok (.iconst 1, 1) := by decide +kernel
theorem dX5_money_21 : decode cX5_money 21 = .ok (.isub, 1) := by decide +kernel
theorem dX5_money_22 : decode cX5_money 22 = .ok (.invokevirtual 79, 3) := by decide +kernel
theorem dX5_money_25 : decode cX5_money 25 = .ok (.aload_n 0, 1) := by decide +kernel
theorem dX5_money_26 : decode cX5_money 26 = .ok (.iload 4, 2) := by decide +kernel
theorem dX5_money_28 : decode cX5_money 28 = .ok (.invokevirtual 79, 3) := by decide +kernel
theorem dX5_money_31 : decode cX5_money 31 = .ok (.aload_n 0, 1) := by decide +kernel
theorem dX5_money_32 : decode cX5_money 32 = .ok (.getfield 23, 3) := by decide +kernel
theorem dX5_money_35 : decode cX5_money 35 = .ok (.aload_n 0, 1) := by decide +kernel
theorem dX5_money_36 : decode cX5_money 36 = .ok (.getfield 10, 3) := by decide +kernel
theorem dX5_money_39 : decode cX5_money 39 = .ok (.iload 4, 2) := by decide +kernel
theorem dX5_money_41 : decode cX5_money 41 = .ok (.invokevirtual 161, 3) := by decide +kernel
theorem dX5_money_44 : decode cX5_money 44 = .ok (.iconst 0, 1) := by decide +kernel
theorem dX5_money_45 : decode cX5_money 45 = .ok (.istore 5, 2) := by decide +kernel
theorem dX5_money_47 : decode cX5_money 47 = .ok (.iconst 0, 1) := by decide +kernel
theorem dX5_money_48 : decode cX5_money 48 = .ok (.istore 6, 2) := by decide +kernel
theorem dX5_money_50 : decode cX5_money 50 = .ok (.iload 6, 2) := by decide +kernel
theorem dX5_money_52 : decode cX5_money 52 = .ok (.iload_n 3, 1) := by decide +kernel
theorem dX5_money_53 : decode cX5_money 53 = .ok (.if_icmp .ge 33, 3) := by decide +kernel
theorem dX5_money_56 : decode cX5_money 56 = .ok (.aload_n 0, 1) := by decide +kernel
theorem dX5_money_57 : decode cX5_money 57 = .ok (.getfield 23, 3) := by decide +kernel
theorem dX5_money_60 : decode cX5_money 60 = .ok (.iload_n 2, 1) := by decide +kernel
theorem dX5_money_61 : decode cX5_money 61 = .ok (.iload 6, 2) := by decide +kernel
theorem dX5_money_63 : decode cX5_money 63 = .ok (.iadd, 1) := by decide +kernel
theorem dX5_money_64 : decode cX5_money 64 = .ok (.invokevirtual 69, 3) := by decide +kernel
theorem dX5_money_67 : decode cX5_money 67 = .ok (.iload 5, 2) := by decide +kernel
theorem dX5_money_69 : decode cX5_money 69 = .ok (.aload_n 0, 1) := by decide +kernel
theorem dX5_money_70 : decode cX5_money 70 = .ok (.getfield 23, 3) := by decide +kernel
theorem dX5_money_73 : decode cX5_money 73 = .ok (.iload_n 1, 1) := by decide +kernel
theorem dX5_money_74 : decode cX5_money 74 = .ok (.invokevirtual 165, 3) := by decide +kernel
theorem dX5_money_77 : decode cX5_money 77 = .ok (.iadd, 1) := by decide +kernel
theorem dX5_money_78 : decode cX5_money 78 = .ok (.istore 5, 2) := by decide +kernel
theorem dX5_money_80 : decode cX5_money 80 = .ok (.iinc 6 1, 3) := by decide +kernel
theorem dX5_money_83 : decode cX5_money 83 = .ok (.goto (-33), 3) := by decide +kernel
theorem dX5_money_86 : decode cX5_money 86 = .ok (.iload 5, 2) := by decide +kernel
theorem dX5_money_88 : decode cX5_money 88 = .ok (.ireturn, 1) := by decide +kernel
set_option maxRecDepth 20000 in
theorem ggX5_changed_X5_requireDay : GoodIn wsX5_changed wsX5_requireDay := goodIn_ca (goodIn_r _ [9, 10, 11, 12, 8, 13, 14, 15, 104, 105, 106, 107, 108, 109, 110, 111, 112, 113, 114] (by decide +kernel) (by decide +kernel)) (goodIn_sub (fun _ h => List.mem_cons_of_mem _ (List.mem_append_right _ h)) (by decide +kernel))
set_option maxRecDepth 20000 in
theorem gX5_changed_X5_requireDay : GoodIn wsX5_changed (wsV RX5 79 RX5 yX5_requireDay wsX5_requireDay) := goodIn_app (goodIn_of _ (by decide +kernel)) ggX5_changed_X5_requireDay
set_option maxRecDepth 20000 in
theorem ggX5_changed_X2_find : GoodIn wsX5_changed wsX2_find := goodIn_r _ [19, 20, 21, 22, 17, 23, 24, 25, 26, 27, 28, 29, 30, 31, 32, 33, 34, 35, 36, 37, 38, 39, 40, 41, 42, 43, 44, 45, 46, 47, 48, 49, 50, 51, 52, 53, 54, 55, 56, 57, 58, 59, 8, 60, 61, 62, 63, 64, 65, 66, 67, 68, 69, 70, 71, 72, 73, 74, 75, 76, 77, 78, 79, 80, 81, 82, 83, 84, 85, 86, 87, 88, 89, 90, 91, 92, 93, 94, 95, 96, 97, 98, 99, 100, 115, 116, 117, 118, 119, 120, 121, 122, 123, 124, 125, 126, 127, 128, 129, 130, 131, 132, 133, 134, 135, 136, 137, 138, 139, 140] (by decide +kernel) (by decide +kernel)
set_option maxRecDepth 20000 in
theorem gX5_changed_X2_find_n54 : GoodIn wsX5_changed (wsX2_find) := ggX5_changed_X2_find
set_option maxRecDepth 20000 in
theorem ggX5_changed_X2_isSameIn : GoodIn wsX5_changed wsX2_isSameIn := goodIn_r _ [103, 33, 34, 35, 36, 37, 61, 8, 62, 115, 116, 117, 118, 119, 120, 121, 122, 123, 124, 125, 126, 127] (by decide +kernel) (by decide +kernel)
set_option maxRecDepth 20000 in
theorem gX5_changed_X2_isSameIn_n168 : GoodIn wsX5_changed (wsX2_isSameIn) := ggX5_changed_X2_isSameIn
theorem dX5_changed_0 : decode cX5_changed 0 = .ok (.aload_n 0, 1) := by decide +kernel
theorem dX5_changed_1 : decode cX5_changed 1 = .ok (.iload_n 1, 1) := by decide +kernel
theorem dX5_changed_2 : decode cX5_changed 2 = .ok (.invokevirtual 79, 3) := by decide +kernel
theorem dX5_changed_5 : decode cX5_changed 5 = .ok (.aload_n 0, 1) := by decide +kernel
theorem dX5_changed_6 : decode cX5_changed 6 = .ok (.iload_n 2, 1) := by decide +kernel
theorem dX5_changed_7 : decode cX5_changed 7 = .ok (.invokevirtual 79, 3) := by decide +kernel
theorem dX5_changed_10 : decode cX5_changed 10 = .ok (.aload_n 0, 1) := by decide +kernel
theorem dX5_changed_11 : decode cX5_changed 11 = .ok (.iload_n 3, 1) := by decide +kernel
theorem dX5_changed_12 : decode cX5_changed 12 = .ok (.invokevirtual 79, 3) := by decide +kernel
theorem dX5_changed_15 : decode cX5_changed 15 = .ok (.aload_n 0, 1) := by decide +kernel
theorem dX5_changed_16 : decode cX5_changed 16 = .ok (.getfield 23, 3) := by decide +kernel
theorem dX5_changed_19 : decode cX5_changed 19 = .ok (.aload_n 0, 1) := by decide +kernel
theorem dX5_changed_20 : decode cX5_changed 20 = .ok (.getfield 10, 3) := by decide +kernel
theorem dX5_changed_23 : decode cX5_changed 23 = .ok (.iload_n 1, 1) := by decide +kernel
theorem dX5_changed_24 : decode cX5_changed 24 = .ok (.iload_n 2, 1) := by decide +kernel
theorem dX5_changed_25 : decode cX5_changed 25 = .ok (.invokevirtual 54, 3) := by decide +kernel
theorem dX5_changed_28 : decode cX5_changed 28 = .ok (.aload_n 0, 1) := by decide +kernel
theorem dX5_changed_29 : decode cX5_changed 29 = .ok (.getfield 26, 3) := by decide +kernel
theorem dX5_changed_32 : decode cX5_changed 32 = .ok (.aload_n 0, 1) := by decide +kernel
theorem dX5_changed_33 : decode cX5_changed 33 = .ok (.getfield 10, 3) := by decide +kernel
theorem dX5_changed_36 : decode cX5_changed 36 = .ok (.iload_n 1, 1) := by decide +kernel
theorem dX5_changed_37 : decode cX5_changed 37 = .ok (.iload_n 3, 1) := by decide +kernel
theorem dX5_changed_38 : decode cX5_changed 38 = .ok (.invokevirtual 54, 3) := by decide +kernel
theorem dX5_changed_41 : decode cX5_changed 41 = .ok (.iconst 0, 1) := by decide +kernel
theorem dX5_changed_42 : decode cX5_changed 42 = .ok (.istore 4, 2) := by decide +kernel
theorem dX5_changed_44 : decode cX5_changed 44 = .ok (.iconst 0, 1) := by decide +kernel
theorem dX5_changed_45 : decode cX5_changed 45 = .ok (.istore 5, 2) := by decide +kernel
theorem dX5_changed_47 : decode cX5_changed 47 = .ok (.iload 5, 2) := by decide +kernel
theorem dX5_changed_49 : decode cX5_changed 49 = .ok (.aload_n 0, 1) := by decide +kernel
theorem dX5_changed_50 : decode cX5_changed 50 = .ok (.getfield 82, 3) := by decide +kernel
theorem dX5_changed_53 : decode cX5_changed 53 = .ok (.if_icmp .ge 28, 3) := by decide +kernel
theorem dX5_changed_56 : decode cX5_changed 56 = .ok (.aload_n 0, 1) := by decide +kernel
theorem dX5_changed_57 : decode cX5_changed 57 = .ok (.getfield 23, 3) := by decide +kernel
theorem dX5_changed_60 : decode cX5_changed 60 = .ok (.aload_n 0, 1) := by decide +kernel
theorem dX5_changed_61 : decode cX5_changed 61 = .ok (.getfield 26, 3) := by decide +kernel
theorem dX5_changed_64 : decode cX5_changed 64 = .ok (.iload 5, 2) := by decide +kernel
theorem dX5_changed_66 : decode cX5_changed 66 = .ok (.invokevirtual 168, 3) := by decide +kernel
theorem dX5_changed_69 : decode cX5_changed 69 = .ok (.ifCond .ne 6, 3) := by decide +kernel
theorem dX5_changed_72 : decode cX5_changed 72 = .ok (.iinc 4 1, 3) := by decide +kernel
theorem dX5_changed_75 : decode cX5_changed 75 = .ok (.iinc 5 1, 3) := by decide +kernel
theorem dX5_changed_78 : decode cX5_changed 78 = .ok (.goto (-31), 3) := by decide +kernel
theorem dX5_changed_81 : decode cX5_changed 81 = .ok (.iload 4, 2) := by decide +kernel
theorem dX5_changed_83 : decode cX5_changed 83 = .ok (.ireturn, 1) := by decide +kernel
set_option maxRecDepth 20000 in
theorem ggX5_origin_X5_requirePerson : GoodIn wsX5_origin wsX5_requirePerson := goodIn_ca (goodIn_r _ [6, 7, 8, 9, 26, 27, 28, 29, 30, 31, 32, 33, 34, 35, 36] (by decide +kernel) (by decide +kernel)) (goodIn_sub (fun _ h => List.mem_cons_of_mem _ (List.mem_append_right _ h)) (by decide +kernel))
set_option maxRecDepth 20000 in
theorem gX5_origin_X5_requirePerson : GoodIn wsX5_origin (wsV RX5 112 RX5 yX5_requirePerson wsX5_requirePerson) := goodIn_app (goodIn_of _ (by decide +kernel)) ggX5_origin_X5_requirePerson
set_option maxRecDepth 20000 in
theorem ggX5_origin_X5_requirePersonOrNone : GoodIn wsX5_origin wsX5_requirePersonOrNone := goodIn_ca (goodIn_r _ [13, 2, 3, 4, 5, 6, 7, 8, 9, 26, 27, 28, 29, 30, 31, 32, 33, 34, 35, 36] (by decide +kernel) (by decide +kernel)) (goodIn_sub (fun _ h => List.mem_cons_of_mem _ (List.mem_append_right _ h)) (by decide +kernel))
set_option maxRecDepth 20000 in
theorem gX5_origin_X5_requirePersonOrNone : GoodIn wsX5_origin (wsV RX5 73 RX5 yX5_requirePersonOrNone wsX5_requirePersonOrNone) := goodIn_app (goodIn_of _ (by decide +kernel)) ggX5_origin_X5_requirePersonOrNone
set_option maxRecDepth 20000 in
theorem ggX5_origin_X2_originFor : GoodIn wsX5_origin wsX2_originFor := goodIn_r _ [17, 18, 19, 20, 21, 22, 5, 23, 24, 25, 37, 38, 39, 40, 41, 42, 43, 44, 45, 46, 47, 48, 49] (by decide +kernel) (by decide +kernel)
set_option maxRecDepth 20000 in
theorem gX5_origin_X2_originFor_n172 : GoodIn wsX5_origin (wsX2_originFor) := ggX5_origin_X2_originFor
theorem dX5_origin_0 : decode cX5_origin 0 = .ok (.aload_n 0, 1) := by decide +kernel
theorem dX5_origin_1 : decode cX5_origin 1 = .ok (.iload_n 1, 1) := by decide +kernel
theorem dX5_origin_2 : decode cX5_origin 2 = .ok (.invokevirtual 112, 3) := by decide +kernel
theorem dX5_origin_5 : decode cX5_origin 5 = .ok (.aload_n 0, 1) := by decide +kernel
theorem dX5_origin_6 : decode cX5_origin 6 = .ok (.iload_n 2, 1) := by decide +kernel
theorem dX5_origin_7 : decode cX5_origin 7 = .ok (.invokevirtual 73, 3) := by decide +kernel
theorem dX5_origin_10 : decode cX5_origin 10 = .ok (.aload_n 0, 1) := by decide +kernel
theorem dX5_origin_11 : decode cX5_origin 11 = .ok (.getfield 19, 3) := by decide +kernel
theorem dX5_origin_14 : decode cX5_origin 14 = .ok (.iload_n 1, 1) := by decide +kernel
theorem dX5_origin_15 : decode cX5_origin 15 = .ok (.iload_n 2, 1) := by decide +kernel
theorem dX5_origin_16 : decode cX5_origin 16 = .ok (.invokevirtual 172, 3) := by decide +kernel
theorem dX5_origin_19 : decode cX5_origin 19 = .ok (.ireturn, 1) := by decide +kernel
set_option maxRecDepth 20000 in
theorem ggX5_likeness_X5_requirePerson : GoodIn wsX5_likeness wsX5_requirePerson := goodIn_ca (goodIn_r _ [6, 7, 8, 9, 41, 42, 43, 44, 45, 46, 47, 48, 49, 50, 51] (by decide +kernel) (by decide +kernel)) (goodIn_sub (fun _ h => List.mem_cons_of_mem _ (List.mem_append_left _ (List.mem_append_right _ h))) (by decide +kernel))
set_option maxRecDepth 20000 in
theorem gX5_likeness_X5_requirePerson : GoodIn wsX5_likeness (wsV RX5 112 RX5 yX5_requirePerson wsX5_requirePerson) := goodIn_app (goodIn_of _ (by decide +kernel)) ggX5_likeness_X5_requirePerson
set_option maxRecDepth 20000 in
theorem ggX5_likeness_X5_requireUnlike : GoodIn wsX5_likeness wsX5_requireUnlike := goodIn_ca (goodIn_r _ [12, 13, 14] (by decide +kernel) (by decide +kernel)) (goodIn_sub (fun _ h => List.mem_cons_of_mem _ (List.mem_append_right _ h)) (by decide +kernel))
set_option maxRecDepth 20000 in
theorem gX5_likeness_X5_requireUnlike : GoodIn wsX5_likeness (va_wsS RX5 120 yX5_requireUnlike wsX5_requireUnlike) := goodIn_app (goodIn_of _ (by decide +kernel)) ggX5_likeness_X5_requireUnlike
set_option maxRecDepth 20000 in
theorem ggX5_likeness_X2_countLikeness : GoodIn wsX5_likeness wsX2_countLikeness := goodIn_r _ [18, 19, 20, 21, 22, 23, 24, 25, 26, 27, 16, 28, 29, 30, 5, 31, 32, 33, 34, 35, 36, 37, 38, 39, 40, 52, 53, 54, 55, 56, 57, 58, 59, 60, 61, 62, 63, 64] (by decide +kernel) (by decide +kernel)
set_option maxRecDepth 20000 in
theorem gX5_likeness_X2_countLikeness_n175 : GoodIn wsX5_likeness (wsX2_countLikeness) := ggX5_likeness_X2_countLikeness
theorem dX5_likeness_0 : decode cX5_likeness 0 = .ok (.aload_n 0, 1) := by decide +kernel
theorem dX5_likeness_1 : decode cX5_likeness 1 = .ok (.iload_n 1, 1) := by decide +kernel
theorem dX5_likeness_2 : decode cX5_likeness 2 = .ok (.invokevirtual 112, 3) := by decide +kernel
theorem dX5_likeness_5 : decode cX5_likeness 5 = .ok (.aload_n 0, 1) := by decide +kernel
theorem dX5_likeness_6 : decode cX5_likeness 6 = .ok (.iload_n 2, 1) := by decide +kernel
theorem dX5_likeness_7 : decode cX5_likeness 7 = .ok (.invokevirtual 112, 3) := by decide +kernel
theorem dX5_likeness_10 : decode cX5_likeness 10 = .ok (.iload_n 1, 1) := by decide +kernel
theorem dX5_likeness_11 : decode cX5_likeness 11 = .ok (.iload_n 2, 1) := by decide +kernel
theorem dX5_likeness_12 : decode cX5_likeness 12 = .ok (.invokestatic 120, 3) := by decide +kernel
theorem dX5_likeness_15 : decode cX5_likeness 15 = .ok (.aload_n 0, 1) := by decide +kernel
theorem dX5_likeness_16 : decode cX5_likeness 16 = .ok (.getfield 19, 3) := by decide +kernel
theorem dX5_likeness_19 : decode cX5_likeness 19 = .ok (.iload_n 1, 1) := by decide +kernel
theorem dX5_likeness_20 : decode cX5_likeness 20 = .ok (.iload_n 2, 1) := by decide +kernel
theorem dX5_likeness_21 : decode cX5_likeness 21 = .ok (.invokevirtual 175, 3) := by decide +kernel
theorem dX5_likeness_24 : decode cX5_likeness 24 = .ok (.ireturn, 1) := by decide +kernel
set_option maxRecDepth 20000 in
theorem ggX5_doubleOf_X5_requirePerson : GoodIn wsX5_doubleOf wsX5_requirePerson := goodIn_ca (goodIn_r _ [7, 8, 9, 1, 36, 37, 38, 39, 40, 41, 42, 43, 44, 45, 46] (by decide +kernel) (by decide +kernel)) (goodIn_sub (fun _ h => List.mem_cons_of_mem _ (List.mem_append_right _ h)) (by decide +kernel))
set_option maxRecDepth 20000 in
theorem gX5_doubleOf_X5_requirePerson : GoodIn wsX5_doubleOf (wsV RX5 112 RX5 yX5_requirePerson wsX5_requirePerson) := goodIn_app (goodIn_of _ (by decide +kernel)) ggX5_doubleOf_X5_requirePerson
set_option maxRecDepth 20000 in
theorem ggX5_doubleOf_X2_countLikeness : GoodIn wsX5_doubleOf wsX2_countLikeness := goodIn_r _ [13, 14, 15, 16, 17, 18, 19, 20, 21, 22, 11, 23, 24, 25, 6, 26, 27, 28, 29, 30, 31, 32, 33, 34, 35, 47, 48, 49, 50, 51, 52, 53, 54, 55, 56, 57, 58, 59] (by decide +kernel) (by decide +kernel)
set_option maxRecDepth 20000 in
theorem gX5_doubleOf_X2_countLikeness_n175 : GoodIn wsX5_doubleOf (wsX2_countLikeness) := ggX5_doubleOf_X2_countLikeness
theorem dX5_doubleOf_0 : decode cX5_doubleOf 0 = .ok (.aload_n 0, 1) := by decide +kernel
theorem dX5_doubleOf_1 : decode cX5_doubleOf 1 = .ok (.iload_n 1, 1) := by decide +kernel
theorem dX5_doubleOf_2 : decode cX5_doubleOf 2 = .ok (.invokevirtual 112, 3) := by decide +kernel
theorem dX5_doubleOf_5 : decode cX5_doubleOf 5 = .ok (.iconst 0, 1) := by decide +kernel
theorem dX5_doubleOf_6 : decode cX5_doubleOf 6 = .ok (.istore_n 2, 1) := by decide +kernel
theorem dX5_doubleOf_7 : decode cX5_doubleOf 7 = .ok (.iload_n 2, 1) := by decide +kernel
theorem dX5_doubleOf_8 : decode cX5_doubleOf 8 = .ok (.aload_n 0, 1) := by decide +kernel
theorem dX5_doubleOf_9 : decode cX5_doubleOf 9 = .ok (.getfield 82, 3) := by decide +kernel
theorem dX5_doubleOf_12 : decode cX5_doubleOf 12 = .ok (.if_icmp .ge 30, 3) := by decide +kernel
theorem dX5_doubleOf_15 : decode cX5_doubleOf 15 = .ok (.iload_n 2, 1) := by decide +kernel
theorem dX5_doubleOf_16 : decode cX5_doubleOf 16 = .ok (.iload_n 1, 1) := by decide +kernel
theorem dX5_doubleOf_17 : decode cX5_doubleOf 17 = .ok (.if_icmp .eq 19, 3) := by decide +kernel
theorem dX5_doubleOf_20 : decode cX5_doubleOf 20 = .ok (.aload_n 0, 1) := by decide +kernel
theorem dX5_doubleOf_21 : decode cX5_doubleOf 21 = .ok (.getfield 19, 3) := by decide +kernel
theorem dX5_doubleOf_24 : decode cX5_doubleOf 24 = .ok (.iload_n 1, 1) := by decide +kernel
theorem dX5_doubleOf_25 : decode cX5_doubleOf 25 = .ok (.iload_n 2, 1) := by decide +kernel
