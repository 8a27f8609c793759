theorem dX5_init_0 : decode cX5_init 0 = .ok (.aload_n 0, 1) := by decide +kernel
theorem dX5_init_1 : decode cX5_init 1 = .ok (.invokespecial 1, 3) := by decide +kernel
theorem dX5_init_4 : decode cX5_init 4 = .ok (.aload_n 0, 1) := by decide +kernel
theorem dX5_init_5 : decode cX5_init 5 = .ok (.new 7, 3) := by decide +kernel
theorem dX5_init_8 : decode cX5_init 8 = .ok (.dup, 1) := by decide +kernel
theorem dX5_init_9 : decode cX5_init 9 = .ok (.invokespecial 9, 3) := by decide +kernel
theorem dX5_init_12 : decode cX5_init 12 = .ok (.putfield 10, 3) := by decide +kernel
theorem dX5_init_15 : decode cX5_init 15 = .ok (.aload_n 0, 1) := by decide +kernel
theorem dX5_init_16 : decode cX5_init 16 = .ok (.new 16, 3) := by decide +kernel
theorem dX5_init_19 : decode cX5_init 19 = .ok (.dup, 1) := by decide +kernel
theorem dX5_init_20 : decode cX5_init 20 = .ok (.invokespecial 18, 3) := by decide +kernel
theorem dX5_init_23 : decode cX5_init 23 = .ok (.putfield 19, 3) := by decide +kernel
theorem dX5_init_26 : decode cX5_init 26 = .ok (.aload_n 0, 1) := by decide +kernel
theorem dX5_init_27 : decode cX5_init 27 = .ok (.new 16, 3) := by decide +kernel
theorem dX5_init_30 : decode cX5_init 30 = .ok (.dup, 1) := by decide +kernel
theorem dX5_init_31 : decode cX5_init 31 = .ok (.invokespecial 18, 3) := by decide +kernel
theorem dX5_init_34 : decode cX5_init 34 = .ok (.putfield 23, 3) := by decide +kernel
theorem dX5_init_37 : decode cX5_init 37 = .ok (.aload_n 0, 1) := by decide +kernel
theorem dX5_init_38 : decode cX5_init 38 = .ok (.new 16, 3) := by decide +kernel
theorem dX5_init_41 : decode cX5_init 41 = .ok (.dup, 1) := by decide +kernel
theorem dX5_init_42 : decode cX5_init 42 = .ok (.invokespecial 18, 3) := by decide +kernel
theorem dX5_init_45 : decode cX5_init 45 = .ok (.putfield 26, 3) := by decide +kernel
theorem dX5_init_48 : decode cX5_init 48 = .ok (.aload_n 0, 1) := by decide +kernel
theorem dX5_init_49 : decode cX5_init 49 = .ok (.new 29, 3) := by decide +kernel
theorem dX5_init_52 : decode cX5_init 52 = .ok (.dup, 1) := by decide +kernel
theorem dX5_init_53 : decode cX5_init 53 = .ok (.invokespecial 31, 3) := by decide +kernel
theorem dX5_init_56 : decode cX5_init 56 = .ok (.putfield 32, 3) := by decide +kernel
theorem dX5_init_59 : decode cX5_init 59 = .ok (.aload_n 0, 1) := by decide +kernel
theorem dX5_init_60 : decode cX5_init 60 = .ok (.iconst 5, 1) := by decide +kernel
theorem dX5_init_61 : decode cX5_init 61 = .ok (.anewarray 36, 3) := by decide +kernel
theorem dX5_init_64 : decode cX5_init 64 = .ok (.putfield 38, 3) := by decide +kernel
theorem dX5_init_67 : decode cX5_init 67 = .ok (.aload_n 0, 1) := by decide +kernel
theorem dX5_init_68 : decode cX5_init 68 = .ok (.bipush 24, 2) := by decide +kernel
theorem dX5_init_70 : decode cX5_init 70 = .ok (.newarray .boolean, 2) := by decide +kernel
theorem dX5_init_72 : decode cX5_init 72 = .ok (.putfield 42, 3) := by decide +kernel
theorem dX5_init_75 : decode cX5_init 75 = .ok (.aload_n 0, 1) := by decide +kernel
theorem dX5_init_76 : decode cX5_init 76 = .ok (.bipush 24, 2) := by decide +kernel
theorem dX5_init_78 : decode cX5_init 78 = .ok (.newarray .int, 2) := by decide +kernel
theorem dX5_init_80 : decode cX5_init 80 = .ok (.putfield 46, 3) := by decide +kernel
theorem dX5_init_83 : decode cX5_init 83 = .ok (.aload_n 0, 1) := by decide +kernel
theorem dX5_init_84 : decode cX5_init 84 = .ok (.sipush 10000, 3) := by decide +kernel
theorem dX5_init_87 : decode cX5_init 87 = .ok (.putfield 50, 3) := by decide +kernel
theorem dX5_init_90 : decode cX5_init 90 = .ok (.aload_n 0, 1) := by decide +kernel
theorem dX5_init_91 : decode cX5_init 91 = .ok (.getfield 19, 3) := by decide +kernel
theorem dX5_init_94 : decode cX5_init 94 = .ok (.aload_n 0, 1) := by decide +kernel
theorem dX5_init_95 : decode cX5_init 95 = .ok (.getfield 10, 3) := by decide +kernel
theorem dX5_init_98 : decode cX5_init 98 = .ok (.aload_n 0, 1) := by decide +kernel
theorem dX5_init_99 : decode cX5_init 99 = .ok (.getfield 50, 3) := by decide +kernel
theorem dX5_init_102 : decode cX5_init 102 = .ok (.aload_n 0, 1) := by decide +kernel
theorem dX5_init_103 : decode cX5_init 103 = .ok (.getfield 50, 3) := by decide +kernel
theorem dX5_init_106 : decode cX5_init 106 = .ok (.invokevirtual 54, 3) := by decide +kernel
theorem dX5_init_109 : decode cX5_init 109 = .ok (.return_, 1) := by decide +kernel
set_option maxRecDepth 20000 in
theorem ggX5_pass_X5_requireWithin : GoodIn wsX5_pass wsX5_requireWithin := goodIn_ca (goodIn_r _ [8, 9, 10] (by decide +kernel) (by decide +kernel)) (goodIn_sub (fun _ h => List.mem_cons_of_mem _ (List.mem_append_right _ h)) (by decide +kernel))
set_option maxRecDepth 20000 in
theorem gX5_pass_X5_requireWithin : GoodIn wsX5_pass (va_wsS RX5 58 yX5_requireWithin wsX5_requireWithin) := goodIn_app (goodIn_of _ (by decide +kernel)) ggX5_pass_X5_requireWithin
set_option maxRecDepth 20000 in
theorem ggX5_pass_X2_goOn : GoodIn wsX5_pass wsX2_goOn := goodIn_r _ [14, 15, 16, 17, 18, 19, 20, 21, 22, 23, 24, 25, 26, 12, 27, 28, 29, 30, 31, 7, 32, 33, 34, 35, 36, 37, 38, 39, 40, 41, 42, 43, 44, 45, 46, 47, 48, 49, 50, 51, 52, 53, 54, 55, 56, 57, 58, 59, 60, 61, 62, 63, 64, 65, 66, 67, 68, 69, 70, 82, 83, 84, 85, 86, 87, 88, 89, 90, 91, 92, 93, 94, 95, 96, 97, 98, 99, 100, 101, 102, 103, 104] (by decide +kernel) (by decide +kernel)
set_option maxRecDepth 20000 in
theorem gX5_pass_X2_goOn_n69 : GoodIn wsX5_pass (wsX2_goOn) := ggX5_pass_X2_goOn
theorem dX5_pass_0 : decode cX5_pass 0 = .ok (.iload_n 1, 1) := by decide +kernel
theorem dX5_pass_1 : decode cX5_pass 1 = .ok (.iconst 1, 1) := by decide +kernel
theorem dX5_pass_2 : decode cX5_pass 2 = .ok (.sipush 5000, 3) := by decide +kernel
theorem dX5_pass_5 : decode cX5_pass 5 = .ok (.invokestatic 58, 3) := by decide +kernel
theorem dX5_pass_8 : decode cX5_pass 8 = .ok (.aload_n 0, 1) := by decide +kernel
theorem dX5_pass_9 : decode cX5_pass 9 = .ok (.getfield 50, 3) := by decide +kernel
theorem dX5_pass_12 : decode cX5_pass 12 = .ok (.iload_n 1, 1) := by decide +kernel
theorem dX5_pass_13 : decode cX5_pass 13 = .ok (.iadd, 1) := by decide +kernel
theorem dX5_pass_14 : decode cX5_pass 14 = .ok (.sipush 30000, 3) := by decide +kernel
theorem dX5_pass_17 : decode cX5_pass 17 = .ok (.if_icmp .le 13, 3) := by decide +kernel
theorem dX5_pass_20 : decode cX5_pass 20 = .ok (.new 62, 3) := by decide +kernel
theorem dX5_pass_23 : decode cX5_pass 23 = .ok (.dup, 1) := by decide +kernel
theorem dX5_pass_24 : decode cX5_pass 24 = .ok (.ldc 64, 2) := by decide +kernel
theorem dX5_pass_26 : decode cX5_pass 26 = .ok (.invokespecial 66, 3) := by decide +kernel
theorem dX5_pass_29 : decode cX5_pass 29 = .ok (.athrow, 1) := by decide +kernel
theorem dX5_pass_30 : decode cX5_pass 30 = .ok (.aload_n 0, 1) := by decide +kernel
theorem dX5_pass_31 : decode cX5_pass 31 = .ok (.dup, 1) := by decide +kernel
theorem dX5_pass_32 : decode cX5_pass 32 = .ok (.getfield 50, 3) := by decide +kernel
theorem dX5_pass_35 : decode cX5_pass 35 = .ok (.iload_n 1, 1) := by decide +kernel
theorem dX5_pass_36 : decode cX5_pass 36 = .ok (.iadd, 1) := by decide +kernel
theorem dX5_pass_37 : decode cX5_pass 37 = .ok (.putfield 50, 3) := by decide +kernel
theorem dX5_pass_40 : decode cX5_pass 40 = .ok (.aload_n 0, 1) := by decide +kernel
theorem dX5_pass_41 : decode cX5_pass 41 = .ok (.getfield 19, 3) := by decide +kernel
theorem dX5_pass_44 : decode cX5_pass 44 = .ok (.aload_n 0, 1) := by decide +kernel
theorem dX5_pass_45 : decode cX5_pass 45 = .ok (.getfield 50, 3) := by decide +kernel
theorem dX5_pass_48 : decode cX5_pass 48 = .ok (.invokevirtual 69, 3) := by decide +kernel
theorem dX5_pass_51 : decode cX5_pass 51 = .ok (.aload_n 0, 1) := by decide +kernel
theorem dX5_pass_52 : decode cX5_pass 52 = .ok (.getfield 50, 3) := by decide +kernel
theorem dX5_pass_55 : decode cX5_pass 55 = .ok (.ireturn, 1) := by decide +kernel
set_option maxRecDepth 20000 in
theorem ggX5_birth_X5_requirePersonOrNone : GoodIn wsX5_birth wsX5_requirePersonOrNone := goodIn_ca (goodIn_r _ [13, 14, 15, 16, 12, 17, 18, 19, 3, 161, 162, 163, 164, 165, 166, 167, 168, 169, 170, 171] (by decide +kernel) (by decide +kernel)) (goodIn_sub (fun _ h => List.mem_cons_of_mem _ (List.mem_append_left _ (List.mem_append_right _ h))) (by decide +kernel))
set_option maxRecDepth 20000 in
theorem gX5_birth_X5_requirePersonOrNone : GoodIn wsX5_birth (wsV RX5 73 RX5 yX5_requirePersonOrNone wsX5_requirePersonOrNone) := goodIn_app (goodIn_of _ (by decide +kernel)) ggX5_birth_X5_requirePersonOrNone
set_option maxRecDepth 20000 in
theorem ggX5_birth_X5_requireDwelling : GoodIn wsX5_birth wsX5_requireDwelling := goodIn_ca (goodIn_r _ [22, 18, 19] (by decide +kernel) (by decide +kernel)) (goodIn_sub (fun _ h => List.mem_cons_of_mem _ (List.mem_append_left _ (List.mem_append_right _ h))) (by decide +kernel))
set_option maxRecDepth 20000 in
theorem gX5_birth_X5_requireDwelling : GoodIn wsX5_birth (va_wsS RX5 76 yX5_requireDwelling wsX5_requireDwelling) := goodIn_app (goodIn_of _ (by decide +kernel)) ggX5_birth_X5_requireDwelling
set_option maxRecDepth 20000 in
theorem ggX5_birth_X5_requireDay : GoodIn wsX5_birth wsX5_requireDay := goodIn_ca (goodIn_r _ [26, 8, 27, 28, 12, 29, 30, 31, 161, 162, 163, 164, 165, 166, 167, 168, 169, 170, 171] (by decide +kernel) (by decide +kernel)) (goodIn_sub (fun _ h => List.mem_cons_of_mem _ (List.mem_append_right _ h)) (by decide +kernel))
set_option maxRecDepth 20000 in
theorem gX5_birth_X5_requireDay : GoodIn wsX5_birth (wsV RX5 79 RX5 yX5_requireDay wsX5_requireDay) := goodIn_app (goodIn_of _ (by decide +kernel)) ggX5_birth_X5_requireDay
set_option maxRecDepth 20000 in
theorem ggX5_birth_X5_requireWithin : GoodIn wsX5_birth wsX5_requireWithin := goodIn_ca (goodIn_r _ [29, 30, 31] (by decide +kernel) (by decide +kernel)) (goodIn_sub (fun _ h => List.mem_cons_of_mem _ (List.mem_append_right _ h)) (by decide +kernel))
set_option maxRecDepth 20000 in
theorem gX5_birth_X5_requireWithin : GoodIn wsX5_birth (va_wsS RX5 58 yX5_requireWithin wsX5_requireWithin) := goodIn_app (goodIn_of _ (by decide +kernel)) ggX5_birth_X5_requireWithin
set_option maxRecDepth 20000 in
theorem ggX5_birth_X5_requireActLeft : GoodIn wsX5_birth wsX5_requireActLeft := goodIn_ca (goodIn_r _ [35, 1, 2, 36, 161, 162, 163, 164, 165, 166, 167, 168, 169, 170, 171, 182, 183, 184] (by decide +kernel) (by decide +kernel)) (goodIn_sub (fun _ h => List.mem_cons_of_mem _ (List.mem_append_left _ (List.mem_append_left _ (List.mem_append_right _ h)))) (by decide +kernel))
set_option maxRecDepth 20000 in
theorem gX5_birth_X5_requireActLeft : GoodIn wsX5_birth (wsV RX5 87 RX5 yX5_requireActLeft wsX5_requireActLeft) := goodIn_app (goodIn_of _ (by decide +kernel)) ggX5_birth_X5_requireActLeft
set_option maxRecDepth 20000 in
theorem ggX5_birth_X5_requireNumberLeft : GoodIn wsX5_birth wsX5_requireNumberLeft := goodIn_ca (goodIn_r _ [40, 1, 2, 4, 161, 162, 163, 164, 165, 166, 167, 168, 169, 170, 171, 185, 186, 187, 188] (by decide +kernel) (by decide +kernel)) (goodIn_sub (fun _ h => List.mem_cons_of_mem _ (List.mem_append_left _ (List.mem_append_left _ (List.mem_append_right _ h)))) (by decide +kernel))
set_option maxRecDepth 20000 in
theorem gX5_birth_X5_requireNumberLeft : GoodIn wsX5_birth (wsV RX5 90 RX5 yX5_requireNumberLeft wsX5_requireNumberLeft) := goodIn_app (goodIn_of _ (by decide +kernel)) ggX5_birth_X5_requireNumberLeft
set_option maxRecDepth 20000 in
theorem ggX5_birth_X3_give : GoodIn wsX5_birth wsX3_give := goodIn_r _ [44, 45, 46, 47, 48, 49, 50, 42, 51, 52, 53, 54, 55, 56, 12, 57, 185, 186, 187, 188] (by decide +kernel) (by decide +kernel)
set_option maxRecDepth 20000 in
theorem gX5_birth_X3_give_n93 : GoodIn wsX5_birth (wsX3_give) := ggX5_birth_X3_give
set_option maxRecDepth 20000 in
theorem ggX5_birth_X0_init : GoodIn wsX5_birth wsX0_init := goodIn_r _ [59, 60, 61, 62, 63, 64, 65, 66, 67, 68, 69, 70, 172, 173, 174, 175, 176, 177, 178, 179, 180, 181] (by decide +kernel) (by decide +kernel)
set_option maxRecDepth 20000 in
theorem gX5_birth_X0_init_n99 : GoodIn wsX5_birth (wsX0_init) := ggX5_birth_X0_init
set_option maxRecDepth 20000 in
theorem ggX5_birth_X5_tell : GoodIn wsX5_birth wsX5_tell := goodIn_r _ [74, 36, 75, 8, 76, 77, 78, 79, 80, 81, 82, 83, 84, 85, 86, 87, 88, 89, 90, 91, 92, 93, 94, 12, 95, 96, 97, 98, 99, 100, 101, 102, 103, 104, 105, 106, 107, 56, 57, 108, 109, 110, 111, 112, 113, 114, 115, 116, 117, 118, 119, 120, 121, 122, 123, 124, 125, 126, 127, 128, 129, 130, 131, 132, 133, 134, 135, 136, 137, 138, 139, 140, 141, 142, 143, 144, 145, 146, 147, 148, 149, 150, 151, 152, 153, 7, 154, 155, 67, 156, 157, 158, 159, 160, 161, 162, 163, 164, 165, 166, 167, 168, 169, 170, 171, 172, 173, 174, 175, 176, 177, 178, 179, 180, 181, 182, 183, 184, 189, 190, 191, 192, 193, 194, 195, 196, 197, 198, 199, 200, 201] (by decide +kernel) (by decide +kernel)
set_option maxRecDepth 20000 in
theorem gX5_birth_X5_tell : GoodIn wsX5_birth (wsV RX5 108 RX5 yX5_tell wsX5_tell) := goodIn_app (goodIn_of _ (by decide +kernel)) ggX5_birth_X5_tell
theorem dX5_birth_0 : decode cX5_birth 0 = .ok (.aload_n 0, 1) := by decide +kernel
theorem dX5_birth_1 : decode cX5_birth 1 = .ok (.iload_n 2, 1) := by decide +kernel
theorem dX5_birth_2 : decode cX5_birth 2 = .ok (.invokevirtual 73, 3) := by decide +kernel
theorem dX5_birth_5 : decode cX5_birth 5 = .ok (.iload_n 3, 1) := by decide +kernel
theorem dX5_birth_6 : decode cX5_birth 6 = .ok (.invokestatic 76, 3) := by decide +kernel
theorem dX5_birth_9 : decode cX5_birth 9 = .ok (.aload_n 0, 1) := by decide +kernel
theorem dX5_birth_10 : decode cX5_birth 10 = .ok (.iload_n 1, 1) := by decide +kernel
theorem dX5_birth_11 : decode cX5_birth 11 = .ok (.invokevirtual 79, 3) := by decide +kernel
theorem dX5_birth_14 : decode cX5_birth 14 = .ok (.iload 4, 2) := by decide +kernel
theorem dX5_birth_16 : decode cX5_birth 16 = .ok (.iconst 0, 1) := by decide +kernel
theorem dX5_birth_17 : decode cX5_birth 17 = .ok (.sipush 999, 3) := by decide +kernel
theorem dX5_birth_20 : decode cX5_birth 20 = .ok (.invokestatic 58, 3) := by decide +kernel
theorem dX5_birth_23 : decode cX5_birth 23 = .ok (.aload_n 0, 1) := by decide +kernel
theorem dX5_birth_24 : decode cX5_birth 24 = .ok (.getfield 82, 3) := by decide +kernel
theorem dX5_birth_27 : decode cX5_birth 27 = .ok (.bipush 24, 2) := by decide +kernel
theorem dX5_birth_29 : decode cX5_birth 29 = .ok (.if_icmp .lt 13, 3) := by decide +kernel
theorem dX5_birth_32 : decode cX5_birth 32 = .ok (.new 62, 3) := by decide +kernel
theorem dX5_birth_35 : decode cX5_birth 35 = .ok (.dup, 1) := by decide +kernel
theorem dX5_birth_36 : decode cX5_birth 36 = .ok (.ldc 85, 2) := by decide +kernel
theorem dX5_birth_38 : decode cX5_birth 38 = .ok (.invokespecial 66, 3) := by decide +kernel
theorem dX5_birth_41 : decode cX5_birth 41 = .ok (.athrow, 1) := by decide +kernel
theorem dX5_birth_42 : decode cX5_birth 42 = .ok (.aload_n 0, 1) := by decide +kernel
theorem dX5_birth_43 : decode cX5_birth 43 = .ok (.invokevirtual 87, 3) := by decide +kernel
theorem dX5_birth_46 : decode cX5_birth 46 = .ok (.aload_n 0, 1) := by decide +kernel
theorem dX5_birth_47 : decode cX5_birth 47 = .ok (.invokevirtual 90, 3) := by decide +kernel
theorem dX5_birth_50 : decode cX5_birth 50 = .ok (.aload_n 0, 1) := by decide +kernel
theorem dX5_birth_51 : decode cX5_birth 51 = .ok (.getfield 82, 3) := by decide +kernel
theorem dX5_birth_54 : decode cX5_birth 54 = .ok (.istore 5, 2) := by decide +kernel
theorem dX5_birth_56 : decode cX5_birth 56 = .ok (.aload_n 0, 1) := by decide +kernel
theorem dX5_birth_57 : decode cX5_birth 57 = .ok (.dup, 1) := by decide +kernel
theorem dX5_birth_58 : decode cX5_birth 58 = .ok (.getfield 82, 3) := by decide +kernel
theorem dX5_birth_61 : decode cX5_birth 61 = .ok (.iconst 1, 1) := by decide +kernel
theorem dX5_birth_62 : decode cX5_birth 62 = .ok (.iadd, 1) := by decide +kernel
theorem dX5_birth_63 : decode cX5_birth 63 = .ok (.putfield 82, 3) := by decide +kernel
theorem dX5_birth_66 : decode cX5_birth 66 = .ok (.aload_n 0, 1) := by decide +kernel
theorem dX5_birth_67 : decode cX5_birth 67 = .ok (.getfield 32, 3) := by decide +kernel
theorem dX5_birth_70 : decode cX5_birth 70 = .ok (.iload 5, 2) := by decide +kernel
theorem dX5_birth_72 : decode cX5_birth 72 = .ok (.invokevirtual 93, 3) := by decide +kernel
theorem dX5_birth_75 : decode cX5_birth 75 = .ok (.pop, 1) := by decide +kernel
theorem dX5_birth_76 : decode cX5_birth 76 = .ok (.new 97, 3) := by decide +kernel
theorem dX5_birth_79 : decode cX5_birth 79 = .ok (.dup, 1) := by decide +kernel
theorem dX5_birth_80 : decode cX5_birth 80 = .ok (.iconst 0, 1) := by decide +kernel
theorem dX5_birth_81 : decode cX5_birth 81 = .ok (.aload_n 0, 1) := by decide +kernel
theorem dX5_birth_82 : decode cX5_birth 82 = .ok (.getfield 50, 3) := by decide +kernel
theorem dX5_birth_85 : decode cX5_birth 85 = .ok (.iload_n 1, 1) := by decide +kernel
theorem dX5_birth_86 : decode cX5_birth 86 = .ok (.iload 5, 2) := by decide +kernel
theorem dX5_birth_88 : decode cX5_birth 88 = .ok (.iload_n 2, 1) := by decide +kernel
theorem dX5_birth_89 : decode cX5_birth 89 = .ok (.invokespecial 99, 3) := by decide +kernel
theorem dX5_birth_92 : decode cX5_birth 92 = .ok (.astore 6, 2) := by decide +kernel
theorem dX5_birth_94 : decode cX5_birth 94 = .ok (.aload 6, 2) := by decide +kernel
theorem dX5_birth_96 : decode cX5_birth 96 = .ok (.iload_n 3, 1) := by decide +kernel
theorem dX5_birth_97 : decode cX5_birth 97 = .ok (.putfield 102, 3) := by decide +kernel
theorem dX5_birth_100 : decode cX5_birth 100 = .ok (.aload 6, 2) := by decide +kernel
theorem dX5_birth_102 : decode cX5_birth 102 = .ok (.iload 4, 2) := by decide +kernel
theorem dX5_birth_104 : decode cX5_birth 104 = .ok (.putfield 105, 3) := by decide +kernel
theorem dX5_birth_107 : decode cX5_birth 107 = .ok (.aload_n 0, 1) := by decide +kernel
theorem dX5_birth_108 : decode cX5_birth 108 = .ok (.aload 6, 2) := by decide +kernel
theorem dX5_birth_110 : decode cX5_birth 110 = .ok (.invokevirtual 108, 3) := by decide +kernel
theorem dX5_birth_113 : decode cX5_birth 113 = .ok (.pop, 1) := by decide +kernel
theorem dX5_birth_114 : decode cX5_birth 114 = .ok (.iload 5, 2) := by decide +kernel
theorem dX5_birth_116 : decode cX5_birth 116 = .ok (.ireturn, 1) := by decide +kernel
set_option maxRecDepth 20000 in
theorem ggX5_move_X5_requirePerson : GoodIn wsX5_move wsX5_requirePerson := goodIn_ca (goodIn_r _ [9, 10, 11, 12, 147, 148, 149, 150, 151, 152, 153, 154, 155, 156, 157] (by decide +kernel) (by decide +kernel)) (goodIn_sub (fun _ h => List.mem_cons_of_mem _ (List.mem_append_left _ (List.mem_append_left _ (List.mem_append_right _ h)))) (by decide +kernel))
set_option maxRecDepth 20000 in
theorem gX5_move_X5_requirePerson : GoodIn wsX5_move (wsV RX5 112 RX5 yX5_requirePerson wsX5_requirePerson) := goodIn_app (goodIn_of _ (by decide +kernel)) ggX5_move_X5_requirePerson
set_option maxRecDepth 20000 in
theorem ggX5_move_X5_requireDwelling : GoodIn wsX5_move wsX5_requireDwelling := goodIn_ca (goodIn_r _ [15, 10, 11] (by decide +kernel) (by decide +kernel)) (goodIn_sub (fun _ h => List.mem_cons_of_mem _ (List.mem_append_left _ (List.mem_append_left _ (List.mem_append_right _ h)))) (by decide +kernel))
set_option maxRecDepth 20000 in
theorem gX5_move_X5_requireDwelling : GoodIn wsX5_move (va_wsS RX5 76 yX5_requireDwelling wsX5_requireDwelling) := goodIn_app (goodIn_of _ (by decide +kernel)) ggX5_move_X5_requireDwelling
set_option maxRecDepth 20000 in
theorem ggX5_move_X5_requireDay : GoodIn wsX5_move wsX5_requireDay := goodIn_ca (goodIn_r _ [19, 4, 20, 21, 8, 22, 23, 24, 147, 148, 149, 150, 151, 152, 153, 154, 155, 156, 157] (by decide +kernel) (by decide +kernel)) (goodIn_sub (fun _ h => List.mem_cons_of_mem _ (List.mem_append_left _ (List.mem_append_right _ h))) (by decide +kernel))
set_option maxRecDepth 20000 in
theorem gX5_move_X5_requireDay : GoodIn wsX5_move (wsV RX5 79 RX5 yX5_requireDay wsX5_requireDay) := goodIn_app (goodIn_of _ (by decide +kernel)) ggX5_move_X5_requireDay
set_option maxRecDepth 20000 in
theorem ggX5_move_X5_requireActLeft : GoodIn wsX5_move wsX5_requireActLeft := goodIn_ca (goodIn_r _ [28, 29, 30, 31, 147, 148, 149, 150, 151, 152, 153, 154, 155, 156, 157, 158, 159, 160] (by decide +kernel) (by decide +kernel)) (goodIn_sub (fun _ h => List.mem_cons_of_mem _ (List.mem_append_right _ h)) (by decide +kernel))
set_option maxRecDepth 20000 in
theorem gX5_move_X5_requireActLeft : GoodIn wsX5_move (wsV RX5 87 RX5 yX5_requireActLeft wsX5_requireActLeft) := goodIn_app (goodIn_of _ (by decide +kernel)) ggX5_move_X5_requireActLeft
set_option maxRecDepth 20000 in
theorem ggX5_move_X0_init : GoodIn wsX5_move wsX0_init := goodIn_r _ [33, 34, 35, 36, 37, 38, 39, 40, 41, 42, 43, 44, 137, 138, 139, 140, 141, 142, 143, 144, 145, 146] (by decide +kernel) (by decide +kernel)
set_option maxRecDepth 20000 in
theorem gX5_move_X0_init_n99 : GoodIn wsX5_move (wsX0_init) := ggX5_move_X0_init
set_option maxRecDepth 20000 in
theorem ggX5_move_X5_tell : GoodIn wsX5_move wsX5_tell := goodIn_r _ [48, 31, 49, 4, 50, 51, 52, 53, 54, 55, 56, 57, 58, 59, 60, 61, 62, 63, 64, 65, 66, 67, 68, 8, 69, 70, 71, 72, 73, 74, 75, 76, 77, 78, 79, 80, 81, 82, 83, 84, 85, 86, 87, 88, 89, 90, 91, 92, 93, 94, 95, 96, 97, 98, 99, 100, 101, 102, 103, 104, 105, 106, 107, 108, 109, 110, 111, 112, 113, 114, 115, 116, 117, 118, 119, 120, 121, 122, 123, 124, 125, 126, 127, 128, 129, 3, 130, 131, 41, 132, 133, 134, 135, 136, 147, 148, 149, 150, 151, 152, 153, 154, 155, 156, 157, 137, 138, 139, 140, 141, 142, 143, 144, 145, 146, 158, 159, 160, 161, 162, 163, 164, 165, 166, 167, 168, 169, 170, 171, 172, 173] (by decide +kernel) (by decide +kernel)
set_option maxRecDepth 20000 in
theorem gX5_move_X5_tell : GoodIn wsX5_move (wsV RX5 108 RX5 yX5_tell wsX5_tell) := goodIn_app (goodIn_of _ (by decide +kernel)) ggX5_move_X5_tell
theorem dX5_move_0 : decode cX5_move 0 = .ok (.aload_n 0, 1) := by decide +kernel
theorem dX5_move_1 : decode cX5_move 1 = .ok (.iload_n 1, 1) := by decide +kernel
theorem dX5_move_2 : decode cX5_move 2 = .ok (.invokevirtual 112, 3) := by decide +kernel
theorem dX5_move_5 : decode cX5_move 5 = .ok (.iload_n 3, 1) := by decide +kernel
theorem dX5_move_6 : decode cX5_move 6 = .ok (.invokestatic 76, 3) := by decide +kernel
theorem dX5_move_9 : decode cX5_move 9 = .ok (.aload_n 0, 1) := by decide +kernel
theorem dX5_move_10 : decode cX5_move 10 = .ok (.iload_n 2, 1) := by decide +kernel
theorem dX5_move_11 : decode cX5_move 11 = .ok (.invokevirtual 79, 3) := by decide +kernel
theorem dX5_move_14 : decode cX5_move 14 = .ok (.aload_n 0, 1) := by decide +kernel
theorem dX5_move_15 : decode cX5_move 15 = .ok (.invokevirtual 87, 3) := by decide +kernel
theorem dX5_move_18 : decode cX5_move 18 = .ok (.new 97, 3) := by decide +kernel
theorem dX5_move_21 : decode cX5_move 21 = .ok (.dup, 1) := by decide +kernel
theorem dX5_move_22 : decode cX5_move 22 = .ok (.iconst 1, 1) := by decide +kernel
theorem dX5_move_23 : decode cX5_move 23 = .ok (.aload_n 0, 1) := by decide +kernel
theorem dX5_move_24 : decode cX5_move 24 = .ok (.getfield 50, 3) := by decide +kernel
theorem dX5_move_27 : decode cX5_move 27 = .ok (.iload_n 2, 1) := by decide +kernel
theorem dX5_move_28 : decode cX5_move 28 = .ok (.iload_n 1, 1) := by decide +kernel
theorem dX5_move_29 : decode cX5_move 29 = .ok (.iconst (-1), 1) := by decide +kernel
theorem dX5_move_30 : decode cX5_move 30 = .ok (.invokespecial 99, 3) := by decide +kernel
theorem dX5_move_33 : decode cX5_move 33 = .ok (.astore 4, 2) := by decide +kernel
theorem dX5_move_35 : decode cX5_move 35 = .ok (.aload 4, 2) := by decide +kernel
theorem dX5_move_37 : decode cX5_move 37 = .ok (.iload_n 3, 1) := by decide +kernel
theorem dX5_move_38 : decode cX5_move 38 = .ok (.putfield 102, 3) := by decide +kernel
theorem dX5_move_41 : decode cX5_move 41 = .ok (.aload_n 0, 1) := by decide +kernel
theorem dX5_move_42 : decode cX5_move 42 = .ok (.aload 4, 2) := by decide +kernel
theorem dX5_move_44 : decode cX5_move 44 = .ok (.invokevirtual 108, 3) := by decide +kernel
theorem dX5_move_47 : decode cX5_move 47 = .ok (.ireturn, 1) := by decide +kernel
set_option maxRecDepth 20000 in
theorem ggX5_naming_X5_requirePerson : GoodIn wsX5_naming wsX5_requirePerson := goodIn_ca (goodIn_r _ [9, 10, 11, 12, 144, 145, 146, 147, 148, 149, 150, 151, 152, 153, 154] (by decide +kernel) (by decide +kernel)) (goodIn_sub (fun _ h => List.mem_cons_of_mem _ (List.mem_append_left _ (List.mem_append_left _ (List.mem_append_right _ h)))) (by decide +kernel))
set_option maxRecDepth 20000 in
theorem gX5_naming_X5_requirePerson : GoodIn wsX5_naming (wsV RX5 112 RX5 yX5_requirePerson wsX5_requirePerson) := goodIn_app (goodIn_of _ (by decide +kernel)) ggX5_naming_X5_requirePerson
set_option maxRecDepth 20000 in
theorem ggX5_naming_X5_requireDay : GoodIn wsX5_naming wsX5_requireDay := goodIn_ca (goodIn_r _ [16, 4, 17, 18, 8, 19, 20, 21, 144, 145, 146, 147, 148, 149, 150, 151, 152, 153, 154] (by decide +kernel) (by decide +kernel)) (goodIn_sub (fun _ h => List.mem_cons_of_mem _ (List.mem_append_left _ (List.mem_append_right _ h))) (by decide +kernel))
set_option maxRecDepth 20000 in
theorem gX5_naming_X5_requireDay : GoodIn wsX5_naming (wsV RX5 79 RX5 yX5_requireDay wsX5_requireDay) := goodIn_app (goodIn_of _ (by decide +kernel)) ggX5_naming_X5_requireDay
set_option maxRecDepth 20000 in
theorem ggX5_naming_X5_requireWithin : GoodIn wsX5_naming wsX5_requireWithin := goodIn_ca (goodIn_r _ [19, 20, 21] (by decide +kernel) (by decide +kernel)) (goodIn_sub (fun _ h => List.mem_cons_of_mem _ (List.mem_append_left _ (List.mem_append_right _ h))) (by decide +kernel))
set_option maxRecDepth 20000 in
theorem gX5_naming_X5_requireWithin : GoodIn wsX5_naming (va_wsS RX5 58 yX5_requireWithin wsX5_requireWithin) := goodIn_app (goodIn_of _ (by decide +kernel)) ggX5_naming_X5_requireWithin
set_option maxRecDepth 20000 in
theorem ggX5_naming_X5_requireActLeft : GoodIn wsX5_naming wsX5_requireActLeft := goodIn_ca (goodIn_r _ [25, 26, 27, 28, 144, 145, 146, 147, 148, 149, 150, 151, 152, 153, 154, 155, 156, 157] (by decide +kernel) (by decide +kernel)) (goodIn_sub (fun _ h => List.mem_cons_of_mem _ (List.mem_append_right _ h)) (by decide +kernel))
set_option maxRecDepth 20000 in
theorem gX5_naming_X5_requireActLeft : GoodIn wsX5_naming (wsV RX5 87 RX5 yX5_requireActLeft wsX5_requireActLeft) := goodIn_app (goodIn_of _ (by decide +kernel)) ggX5_naming_X5_requireActLeft
set_option maxRecDepth 20000 in
theorem ggX5_naming_X0_init : GoodIn wsX5_naming wsX0_init := goodIn_r _ [30, 31, 32, 33, 34, 35, 36, 37, 38, 39, 40, 41, 134, 135, 136, 137, 138, 139, 140, 141, 142, 143] (by decide +kernel) (by decide +kernel)
set_option maxRecDepth 20000 in
theorem gX5_naming_X0_init_n99 : GoodIn wsX5_naming (wsX0_init) := ggX5_naming_X0_init
set_option maxRecDepth 20000 in
theorem ggX5_naming_X5_tell : GoodIn wsX5_naming wsX5_tell := goodIn_r _ [45, 28, 46, 4, 47, 48, 49, 50, 51, 52, 53, 54, 55, 56, 57, 58, 59, 60, 61, 62, 63, 64, 65, 8, 66, 67, 68, 69, 70, 71, 72, 73, 74, 75, 76, 77, 78, 79, 80, 81, 82, 83, 84, 85, 86, 87, 88, 89, 90, 91, 92, 93, 94, 95, 96, 97, 98, 99, 100, 101, 102, 103, 104, 105, 106, 107, 108, 109, 110, 111, 112, 113, 114, 115, 116, 117, 118, 119, 120, 121, 122, 123, 124, 125, 126, 3, 127, 128, 38, 129, 130, 131, 132, 133, 144, 145, 146, 147, 148, 149, 150, 151, 152, 153, 154, 134, 135, 136, 137, 138, 139, 140, 141, 142, 143, 155, 156, 157, 158, 159, 160, 161, 162, 163, 164, 165, 166, 167, 168, 169, 170] (by decide +kernel) (by decide +kernel)
set_option maxRecDepth 20000 in
theorem gX5_naming_X5_tell : GoodIn wsX5_naming (wsV RX5 108 RX5 yX5_tell wsX5_tell) := goodIn_app (goodIn_of _ (by decide +kernel)) ggX5_naming_X5_tell
theorem dX5_naming_0 : decode cX5_naming 0 = .ok (.aload_n 0, 1) := by decide +kernel
theorem dX5_naming_1 : decode cX5_naming 1 = .ok (.iload_n 1, 1) := by decide +kernel
theorem dX5_naming_2 : decode cX5_naming 2 = .ok (.invokevirtual 112, 3) := by decide +kernel
theorem dX5_naming_5 : decode cX5_naming 5 = .ok (.aload_n 0, 1) := by decide +kernel
theorem dX5_naming_6 : decode cX5_naming 6 = .ok (.iload_n 2, 1) := by decide +kernel
theorem dX5_naming_7 : decode cX5_naming 7 = .ok (.invokevirtual 79, 3) := by decide +kernel
theorem dX5_naming_10 : decode cX5_naming 10 = .ok (.iload_n 3, 1) := by decide +kernel
theorem dX5_naming_11 : decode cX5_naming 11 = .ok (.iconst 0, 1) := by decide +kernel
theorem dX5_naming_12 : decode cX5_naming 12 = .ok (.sipush 999, 3) := by decide +kernel
theorem dX5_naming_15 : decode cX5_naming 15 = .ok (.invokestatic 58, 3) := by decide +kernel
theorem dX5_naming_18 : decode cX5_naming 18 = .ok (.aload_n 0, 1) := by decide +kernel
theorem dX5_naming_19 : decode cX5_naming 19 = .ok (.invokevirtual 87, 3) := by decide +kernel
theorem dX5_naming_22 : decode cX5_naming 22 = .ok (.new 97, 3) := by decide +kernel
theorem dX5_naming_25 : decode cX5_naming 25 = .ok (.dup, 1) := by decide +kernel
theorem dX5_naming_26 : decode cX5_naming 26 = .ok (.iconst 2, 1) := by decide +kernel
theorem dX5_naming_27 : decode cX5_naming 27 = .ok (.aload_n 0, 1) := by decide +kernel
theorem dX5_naming_28 : decode cX5_naming 28 = .ok (.getfield 50, 3) := by decide +kernel
theorem dX5_naming_31 : decode cX5_naming 31 = .ok (.iload_n 2, 1) := by decide +kernel
theorem dX5_naming_32 : decode cX5_naming 32 = .ok (.iload_n 1, 1) := by decide +kernel
theorem dX5_naming_33 : decode cX5_naming 33 = .ok (.iconst (-1), 1) := by decide +kernel
theorem dX5_naming_34 : decode cX5_naming 34 = .ok (.invokespecial 99, 3) := by decide +kernel
theorem dX5_naming_37 : decode cX5_naming 37 = .ok (.astore 4, 2) := by decide +kernel
theorem dX5_naming_39 : decode cX5_naming 39 = .ok (.aload 4, 2) := by decide +kernel
theorem dX5_naming_41 : decode cX5_naming 41 = .ok (.iload_n 3, 1) := by decide +kernel
theorem dX5_naming_42 : decode cX5_naming 42 = .ok (.putfield 105, 3) := by decide +kernel
theorem dX5_naming_45 : decode cX5_naming 45 = .ok (.aload_n 0, 1) := by decide +kernel
theorem dX5_naming_46 : decode cX5_naming 46 = .ok (.aload 4, 2) := by decide +kernel
theorem dX5_naming_48 : decode cX5_naming 48 = .ok (.invokevirtual 108, 3) := by decide +kernel
theorem dX5_naming_51 : decode cX5_naming 51 = .ok (.ireturn, 1) := by decide +kernel
set_option maxRecDepth 20000 in
theorem ggX5_tie_X5_requirePerson : GoodIn wsX5_tie wsX5_requirePerson := goodIn_ca (goodIn_r _ [11, 12, 13, 14, 147, 148, 149, 150, 151, 152, 153, 154, 155, 156, 157] (by decide +kernel) (by decide +kernel)) (goodIn_sub (fun _ h => List.mem_cons_of_mem _ (List.mem_append_left _ (List.mem_append_right _ h))) (by decide +kernel))
set_option maxRecDepth 20000 in
theorem gX5_tie_X5_requirePerson : GoodIn wsX5_tie (wsV RX5 112 RX5 yX5_requirePerson wsX5_requirePerson) := goodIn_app (goodIn_of _ (by decide +kernel)) ggX5_tie_X5_requirePerson
set_option maxRecDepth 20000 in
theorem ggX5_tie_X5_requireDay : GoodIn wsX5_tie wsX5_requireDay := goodIn_ca (goodIn_r _ [18, 6, 19, 20, 10, 21, 1, 2, 147, 148, 149, 150, 151, 152, 153, 154, 155, 156, 157] (by decide +kernel) (by decide +kernel)) (goodIn_sub (fun _ h => List.mem_cons_of_mem _ (List.mem_append_left _ (List.mem_append_left _ (List.mem_append_right _ h)))) (by decide +kernel))
set_option maxRecDepth 20000 in
theorem gX5_tie_X5_requireDay : GoodIn wsX5_tie (wsV RX5 79 RX5 yX5_requireDay wsX5_requireDay) := goodIn_app (goodIn_of _ (by decide +kernel)) ggX5_tie_X5_requireDay
set_option maxRecDepth 20000 in
theorem ggX5_tie_X5_requireUnlike : GoodIn wsX5_tie wsX5_requireUnlike := goodIn_ca (goodIn_r _ [24, 1, 2] (by decide +kernel) (by decide +kernel)) (goodIn_sub (fun _ h => List.mem_cons_of_mem _ (List.mem_append_left _ (List.mem_append_left _ (List.mem_append_right _ h)))) (by decide +kernel))
set_option maxRecDepth 20000 in
theorem gX5_tie_X5_requireUnlike : GoodIn wsX5_tie (va_wsS RX5 120 yX5_requireUnlike wsX5_requireUnlike) := goodIn_app (goodIn_of _ (by decide +kernel)) ggX5_tie_X5_requireUnlike
set_option maxRecDepth 20000 in
theorem ggX5_tie_X5_requireActLeft : GoodIn wsX5_tie wsX5_requireActLeft := goodIn_ca (goodIn_r _ [28, 29, 30, 31, 147, 148, 149, 150, 151, 152, 153, 154, 155, 156, 157, 158, 159, 160] (by decide +kernel) (by decide +kernel)) (goodIn_sub (fun _ h => List.mem_cons_of_mem _ (List.mem_append_right _ h)) (by decide +kernel))
set_option maxRecDepth 20000 in
theorem gX5_tie_X5_requireActLeft : GoodIn wsX5_tie (wsV RX5 87 RX5 yX5_requireActLeft wsX5_requireActLeft) := goodIn_app (goodIn_of _ (by decide +kernel)) ggX5_tie_X5_requireActLeft
set_option maxRecDepth 20000 in
theorem ggX5_tie_X0_init : GoodIn wsX5_tie wsX0_init := goodIn_r _ [33, 34, 35, 36, 37, 38, 39, 40, 41, 42, 43, 44, 137, 138, 139, 140, 141, 142, 143, 144, 145, 146] (by decide +kernel) (by decide +kernel)
set_option maxRecDepth 20000 in
theorem gX5_tie_X0_init_n99 : GoodIn wsX5_tie (wsX0_init) := ggX5_tie_X0_init
set_option maxRecDepth 20000 in
theorem ggX5_tie_X5_tell : GoodIn wsX5_tie wsX5_tell := goodIn_r _ [48, 31, 49, 6, 50, 51, 52, 53, 54, 55, 56, 57, 58, 59, 60, 61, 62, 63, 64, 65, 66, 67, 68, 10, 69, 70, 71, 72, 73, 74, 75, 76, 77, 78, 79, 80, 81, 82, 83, 84, 85, 86, 87, 88, 89, 90, 91, 92, 93, 94, 95, 96, 97, 98, 99, 100, 101, 102, 103, 104, 105, 106, 107, 108, 109, 110, 111, 112, 113, 114, 115, 116, 117, 118, 119, 120, 121, 122, 123, 124, 125, 126, 127, 128, 129, 5, 130, 131, 41, 132, 133, 134, 135, 136, 147, 148, 149, 150, 151, 152, 153, 154, 155, 156, 157, 137, 138, 139, 140, 141, 142, 143, 144, 145, 146, 158, 159, 160, 161, 162, 163, 164, 165, 166, 167, 168, 169, 170, 171, 172, 173] (by decide +kernel) (by decide +kernel)
set_option maxRecDepth 20000 in
theorem gX5_tie_X5_tell : GoodIn wsX5_tie (wsV RX5 108 RX5 yX5_tell wsX5_tell) := goodIn_app (goodIn_of _ (by decide +kernel)) ggX5_tie_X5_tell
theorem dX5_tie_0 : decode cX5_tie 0 = .ok (.aload_n 0, 1) := by decide +kernel
theorem dX5_tie_1 : decode cX5_tie 1 = .ok (.iload_n 2, 1) := by decide +kernel
theorem dX5_tie_2 : decode cX5_tie 2 = .ok (.invokevirtual 112, 3) := by decide +kernel
theorem dX5_tie_5 : decode cX5_tie 5 = .ok (.aload_n 0, 1) := by decide +kernel
theorem dX5_tie_6 : decode cX5_tie 6 = .ok (.iload_n 3, 1) := by decide +kernel
theorem dX5_tie_7 : decode cX5_tie 7 = .ok (.invokevirtual 112, 3) := by decide +kernel
theorem dX5_tie_10 : decode cX5_tie 10 = .ok (.iload_n 1, 1) := by decide +kernel
theorem dX5_tie_11 : decode cX5_tie 11 = .ok (.iconst 3, 1) := by decide +kernel
theorem dX5_tie_12 : decode cX5_tie 12 = .ok (.if_icmp .eq 24, 3) := by decide +kernel
theorem dX5_tie_15 : decode cX5_tie 15 = .ok (.iload_n 1, 1) := by decide +kernel
theorem dX5_tie_16 : decode cX5_tie 16 = .ok (.iconst 4, 1) := by decide +kernel
theorem dX5_tie_17 : decode cX5_tie 17 = .ok (.if_icmp .eq 19, 3) := by decide +kernel
theorem dX5_tie_20 : decode cX5_tie 20 = .ok (.iload_n 1, 1) := by decide +kernel
theorem dX5_tie_21 : decode cX5_tie 21 = .ok (.bipush 6, 2) := by decide +kernel
theorem dX5_tie_23 : decode cX5_tie 23 = .ok (.if_icmp .eq 13, 3) := by decide +kernel
theorem dX5_tie_26 : decode cX5_tie 26 = .ok (.new 115, 3) := by decide +kernel
theorem dX5_tie_29 : decode cX5_tie 29 = .ok (.dup, 1) := by decide +kernel
theorem dX5_tie_30 : decode cX5_tie 30 = .ok (.ldc 117, 2) := by decide +kernel
theorem dX5_tie_32 : decode cX5_tie 32 = .ok (.invokespecial 119, 3) := by decide +kernel
theorem dX5_tie_35 : decode cX5_tie 35 = .ok (.athrow, 1) := by decide +kernel
theorem dX5_tie_36 : decode cX5_tie 36 = .ok (.aload_n 0, 1) := by decide +kernel
theorem dX5_tie_37 : decode cX5_tie 37 = .ok (.iload 4, 2) := by decide +kernel
theorem dX5_tie_39 : decode cX5_tie 39 = .ok (.invokevirtual 79, 3) := by decide +kernel
theorem dX5_tie_42 : decode cX5_tie 42 = .ok (.iload_n 2, 1) := by decide +kernel
theorem dX5_tie_43 : decode cX5_tie 43 = .ok (.iload_n 3, 1) := by decide +kernel
theorem dX5_tie_44 : decode cX5_tie 44 = .ok (.invokestatic 120, 3) := by decide +kernel
theorem dX5_tie_47 : decode cX5_tie 47 = .ok (.aload_n 0, 1) := by decide +kernel
theorem dX5_tie_48 : decode cX5_tie 48 = .ok (.invokevirtual 87, 3) := by decide +kernel
theorem dX5_tie_51 : decode cX5_tie 51 = .ok (.aload_n 0, 1) := by decide +kernel
theorem dX5_tie_52 : decode cX5_tie 52 = .ok (.new 97, 3) := by decide +kernel
theorem dX5_tie_55 : decode cX5_tie 55 = .ok (.dup, 1) := by decide +kernel
theorem dX5_tie_56 : decode cX5_tie 56 = .ok (.iload_n 1, 1) := by decide +kernel
theorem dX5_tie_57 : decode cX5_tie 57 = .ok (.aload_n 0, 1) := by decide +kernel
theorem dX5_tie_58 : decode cX5_tie 58 = .ok (.getfield 50, 3) := by decide +kernel
theorem dX5_tie_61 : decode cX5_tie 61 = .ok (.iload 4, 2) := by decide +kernel
theorem dX5_tie_63 : decode cX5_tie 63 = .ok (.iload_n 2, 1) := by decide +kernel
theorem dX5_tie_64 : decode cX5_tie 64 = .ok (.iload_n 3, 1) := by decide +kernel
theorem dX5_tie_65 : decode cX5_tie 65 = .ok (.invokespecial 99, 3) := by decide +kernel
theorem dX5_tie_68 : decode cX5_tie 68 = .ok (.invokevirtual 108, 3) := by decide +kernel
theorem dX5_tie_71 : decode cX5_tie 71 = .ok (.ireturn, 1) := by decide +kernel
set_option maxRecDepth 20000 in
theorem ggX5_death_X5_requirePerson : GoodIn wsX5_death wsX5_requirePerson := goodIn_ca (goodIn_r _ [9, 10, 11, 12, 144, 145, 146, 147, 148, 149, 150, 151, 152, 153, 154] (by decide +kernel) (by decide +kernel)) (goodIn_sub (fun _ h => List.mem_cons_of_mem _ (List.mem_append_left _ (List.mem_append_left _ (List.mem_append_right _ h)))) (by decide +kernel))
set_option maxRecDepth 20000 in
theorem gX5_death_X5_requirePerson : GoodIn wsX5_death (wsV RX5 112 RX5 yX5_requirePerson wsX5_requirePerson) := goodIn_app (goodIn_of _ (by decide +kernel)) ggX5_death_X5_requirePerson
set_option maxRecDepth 20000 in
theorem ggX5_death_X5_requireDay : GoodIn wsX5_death wsX5_requireDay := goodIn_ca (goodIn_r _ [16, 4, 17, 18, 8, 19, 20, 21, 144, 145, 146, 147, 148, 149, 150, 151, 152, 153, 154] (by decide +kernel) (by decide +kernel)) (goodIn_sub (fun _ h => List.mem_cons_of_mem _ (List.mem_append_left _ (List.mem_append_right _ h))) (by decide +kernel))
set_option maxRecDepth 20000 in
theorem gX5_death_X5_requireDay : GoodIn wsX5_death (wsV RX5 79 RX5 yX5_requireDay wsX5_requireDay) := goodIn_app (goodIn_of _ (by decide +kernel)) ggX5_death_X5_requireDay
set_option maxRecDepth 20000 in
theorem ggX5_death_X5_requireActLeft : GoodIn wsX5_death wsX5_requireActLeft := goodIn_ca (goodIn_r _ [25, 26, 27, 28, 144, 145, 146, 147, 148, 149, 150, 151, 152, 153, 154, 155, 156, 157] (by decide +kernel) (by decide +kernel)) (goodIn_sub (fun _ h => List.mem_cons_of_mem _ (List.mem_append_right _ h)) (by decide +kernel))
set_option maxRecDepth 20000 in
theorem gX5_death_X5_requireActLeft : GoodIn wsX5_death (wsV RX5 87 RX5 yX5_requireActLeft wsX5_requireActLeft) := goodIn_app (goodIn_of _ (by decide +kernel)) ggX5_death_X5_requireActLeft
set_option maxRecDepth 20000 in
theorem ggX5_death_X0_init : GoodIn wsX5_death wsX0_init := goodIn_r _ [30, 31, 32, 33, 34, 35, 36, 37, 38, 39, 40, 41, 134, 135, 136, 137, 138, 139, 140, 141, 142, 143] (by decide +kernel) (by decide +kernel)
set_option maxRecDepth 20000 in
theorem gX5_death_X0_init_n99 : GoodIn wsX5_death (wsX0_init) := ggX5_death_X0_init
set_option maxRecDepth 20000 in
theorem ggX5_death_X5_tell : GoodIn wsX5_death wsX5_tell := goodIn_r _ [45, 28, 46, 4, 47, 48, 49, 50, 51, 52, 53, 54, 55, 56, 57, 58, 59, 60, 61, 62, 63, 64, 65, 8, 66, 67, 68, 69, 70, 71, 72, 73, 74, 75, 76, 77, 78, 79, 80, 81, 82, 83, 84, 85, 86, 87, 88, 89, 90, 91, 92, 93, 94, 95, 96, 97, 98, 99, 100, 101, 102, 103, 104, 105, 106, 107, 108, 109, 110, 111, 112, 113, 114, 115, 116, 117, 118, 119, 120, 121, 122, 123, 124, 125, 126, 3, 127, 128, 38, 129, 130, 131, 132, 133, 144, 145, 146, 147, 148, 149, 150, 151, 152, 153, 154, 134, 135, 136, 137, 138, 139, 140, 141, 142, 143, 155, 156, 157, 158, 159, 160, 161, 162, 163, 164, 165, 166, 167, 168, 169, 170] (by decide +kernel) (by decide +kernel)
set_option maxRecDepth 20000 in
theorem gX5_death_X5_tell : GoodIn wsX5_death (wsV RX5 108 RX5 yX5_tell wsX5_tell) := goodIn_app (goodIn_of _ (by decide +kernel)) ggX5_death_X5_tell
theorem dX5_death_0 : decode cX5_death 0 = .ok (.aload_n 0, 1) := by decide +kernel
theorem dX5_death_1 : decode cX5_death 1 = .ok (.iload_n 1, 1) := by decide +kernel
theorem dX5_death_2 : decode cX5_death 2 = .ok (.invokevirtual 112, 3) := by decide +kernel
theorem dX5_death_5 : decode cX5_death 5 = .ok (.aload_n 0, 1) := by decide +kernel
theorem dX5_death_6 : decode cX5_death 6 = .ok (.iload_n 2, 1) := by decide +kernel
theorem dX5_death_7 : decode cX5_death 7 = .ok (.invokevirtual 79, 3) := by decide +kernel
theorem dX5_death_10 : decode cX5_death 10 = .ok (.aload_n 0, 1) := by decide +kernel
theorem dX5_death_11 : decode cX5_death 11 = .ok (.invokevirtual 87, 3) := by decide +kernel
theorem dX5_death_14 : decode cX5_death 14 = .ok (.aload_n 0, 1) := by decide +kernel
theorem dX5_death_15 : decode cX5_death 15 = .ok (.new 97, 3) := by decide +kernel
theorem dX5_death_18 : decode cX5_death 18 = .ok (.dup, 1) := by decide +kernel
theorem dX5_death_19 : decode cX5_death 19 = .ok (.iconst 5, 1) := by decide +kernel
theorem dX5_death_20 : decode cX5_death 20 = .ok (.aload_n 0, 1) := by decide +kernel
theorem dX5_death_21 : decode cX5_death 21 = .ok (.getfield 50, 3) := by decide +kernel
theorem dX5_death_24 : decode cX5_death 24 = .ok (.iload_n 2, 1) := by decide +kernel
theorem dX5_death_25 : decode cX5_death 25 = .ok (.iload_n 1, 1) := by decide +kernel
theorem dX5_death_26 : decode cX5_death 26 = .ok (.iconst (-1), 1) := by decide +kernel
theorem dX5_death_27 : decode cX5_death 27 = .ok (.invokespecial 99, 3) := by decide +kernel
theorem dX5_death_30 : decode cX5_death 30 = .ok (.invokevirtual 108, 3) := by decide +kernel
theorem dX5_death_33 : decode cX5_death 33 = .ok (.ireturn, 1) := by decide +kernel
set_option maxRecDepth 20000 in
theorem ggX5_join_X5_requirePerson : GoodIn wsX5_join wsX5_requirePerson := goodIn_ca (goodIn_r _ [11, 12, 13, 14, 137, 138, 139, 140, 141, 142, 143, 144, 145, 146, 147] (by decide +kernel) (by decide +kernel)) (goodIn_sub (fun _ h => List.mem_cons_of_mem _ (List.mem_append_left _ (List.mem_append_right _ h))) (by decide +kernel))
set_option maxRecDepth 20000 in
theorem gX5_join_X5_requirePerson : GoodIn wsX5_join (wsV RX5 112 RX5 yX5_requirePerson wsX5_requirePerson) := goodIn_app (goodIn_of _ (by decide +kernel)) ggX5_join_X5_requirePerson
set_option maxRecDepth 20000 in
theorem ggX5_join_X5_requireActLeft : GoodIn wsX5_join wsX5_requireActLeft := goodIn_ca (goodIn_r _ [18, 19, 20, 21, 137, 138, 139, 140, 141, 142, 143, 144, 145, 146, 147, 148, 149, 150] (by decide +kernel) (by decide +kernel)) (goodIn_sub (fun _ h => List.mem_cons_of_mem _ (List.mem_append_right _ h)) (by decide +kernel))
set_option maxRecDepth 20000 in
theorem gX5_join_X5_requireActLeft : GoodIn wsX5_join (wsV RX5 87 RX5 yX5_requireActLeft wsX5_requireActLeft) := goodIn_app (goodIn_of _ (by decide +kernel)) ggX5_join_X5_requireActLeft
set_option maxRecDepth 20000 in
theorem ggX5_join_X0_init : GoodIn wsX5_join wsX0_init := goodIn_r _ [23, 24, 25, 26, 27, 28, 29, 30, 31, 32, 33, 34, 127, 128, 129, 130, 131, 132, 133, 134, 135, 136] (by decide +kernel) (by decide +kernel)
set_option maxRecDepth 20000 in
theorem gX5_join_X0_init_n99 : GoodIn wsX5_join (wsX0_init) := ggX5_join_X0_init
set_option maxRecDepth 20000 in
theorem ggX5_join_X5_tell : GoodIn wsX5_join wsX5_tell := goodIn_r _ [38, 21, 39, 6, 40, 41, 42, 43, 44, 45, 46, 47, 48, 49, 50, 51, 52, 53, 54, 55, 56, 57, 58, 10, 59, 60, 61, 62, 63, 64, 65, 66, 67, 68, 69, 70, 71, 72, 73, 74, 75, 76, 77, 78, 79, 80, 81, 82, 83, 84, 85, 86, 87, 88, 89, 90, 91, 92, 93, 94, 95, 96, 97, 98, 99, 100, 101, 102, 103, 104, 105, 106, 107, 108, 109, 110, 111, 112, 113, 114, 115, 116, 117, 118, 119, 5, 120, 121, 31, 122, 123, 124, 125, 126, 137, 138, 139, 140, 141, 142, 143, 144, 145, 146, 147, 127, 128, 129, 130, 131, 132, 133, 134, 135, 136, 148, 149, 150, 151, 152, 153, 154, 155, 156, 157, 158, 159, 160, 161, 162, 163] (by decide +kernel) (by decide +kernel)
set_option maxRecDepth 20000 in
theorem gX5_join_X5_tell : GoodIn wsX5_join (wsV RX5 108 RX5 yX5_tell wsX5_tell) := goodIn_app (goodIn_of _ (by decide +kernel)) ggX5_join_X5_tell
theorem dX5_join_0 : decode cX5_join 0 = .ok (.aload_n 0, 1) := by decide +kernel
theorem dX5_join_1 : decode cX5_join 1 = .ok (.iload_n 1, 1) := by decide +kernel
theorem dX5_join_2 : decode cX5_join 2 = .ok (.invokevirtual 112, 3) := by decide +kernel
theorem dX5_join_5 : decode cX5_join 5 = .ok (.aload_n 0, 1) := by decide +kernel
theorem dX5_join_6 : decode cX5_join 6 = .ok (.iload_n 2, 1) := by decide +kernel
theorem dX5_join_7 : decode cX5_join 7 = .ok (.invokevirtual 112, 3) := by decide +kernel
theorem dX5_join_10 : decode cX5_join 10 = .ok (.iload_n 2, 1) := by decide +kernel
theorem dX5_join_11 : decode cX5_join 11 = .ok (.iload_n 1, 1) := by decide +kernel
theorem dX5_join_12 : decode cX5_join 12 = .ok (.if_icmp .gt 13, 3) := by decide +kernel
theorem dX5_join_15 : decode cX5_join 15 = .ok (.new 115, 3) := by decide +kernel
theorem dX5_join_18 : decode cX5_join 18 = .ok (.dup, 1) := by decide +kernel
theorem dX5_join_19 : decode cX5_join 19 = .ok (.ldc 124, 2) := by decide +kernel
theorem dX5_join_21 : decode cX5_join 21 = .ok (.invokespecial 119, 3) := by decide +kernel
theorem dX5_join_24 : decode cX5_join 24 = .ok (.athrow, 1) := by decide +kernel
theorem dX5_join_25 : decode cX5_join 25 = .ok (.aload_n 0, 1) := by decide +kernel
theorem dX5_join_26 : decode cX5_join 26 = .ok (.invokevirtual 87, 3) := by decide +kernel
theorem dX5_join_29 : decode cX5_join 29 = .ok (.aload_n 0, 1) := by decide +kernel
theorem dX5_join_30 : decode cX5_join 30 = .ok (.new 97, 3) := by decide +kernel
theorem dX5_join_33 : decode cX5_join 33 = .ok (.dup, 1) := by decide +kernel
theorem dX5_join_34 : decode cX5_join 34 = .ok (.bipush 7, 2) := by decide +kernel
theorem dX5_join_36 : decode cX5_join 36 = .ok (.aload_n 0, 1) := by decide +kernel
theorem dX5_join_37 : decode cX5_join 37 = .ok (.getfield 50, 3) := by decide +kernel
theorem dX5_join_40 : decode cX5_join 40 = .ok (.iconst (-1), 1) := by decide +kernel
theorem dX5_join_41 : decode cX5_join 41 = .ok (.iload_n 1, 1) := by decide +kernel
theorem dX5_join_42 : decode cX5_join 42 = .ok (.iload_n 2, 1) := by decide +kernel
theorem dX5_join_43 : decode cX5_join 43 = .ok (.invokespecial 99, 3) := by decide +kernel
theorem dX5_join_46 : decode cX5_join 46 = .ok (.invokevirtual 108, 3) := by decide +kernel
theorem dX5_join_49 : decode cX5_join 49 = .ok (.ireturn, 1) := by decide +kernel
set_option maxRecDepth 20000 in
theorem ggX5_strike_X5_requireAct : GoodIn wsX5_strike wsX5_requireAct := goodIn_ca (goodIn_r _ [11, 12, 13, 14, 15, 16, 17, 18, 19, 134, 135, 136, 137, 138, 139, 140, 141, 142, 143, 144, 145, 146, 147] (by decide +kernel) (by decide +kernel)) (goodIn_sub (fun _ h => List.mem_cons_of_mem _ (List.mem_append_right _ h)) (by decide +kernel))
set_option maxRecDepth 20000 in
theorem gX5_strike_X5_requireAct : GoodIn wsX5_strike (wsV RX5 126 RX5 yX5_requireAct wsX5_requireAct) := goodIn_app (goodIn_of _ (by decide +kernel)) ggX5_strike_X5_requireAct
set_option maxRecDepth 20000 in
theorem ggX5_strike_X5_requireActLeft : GoodIn wsX5_strike wsX5_requireActLeft := goodIn_ca (goodIn_r _ [23, 1, 2, 14, 134, 135, 136, 137, 138, 139, 140, 141, 142, 143, 144, 145, 146, 147] (by decide +kernel) (by decide +kernel)) (goodIn_sub (fun _ h => List.mem_cons_of_mem _ (List.mem_append_left _ (List.mem_append_right _ h))) (by decide +kernel))
set_option maxRecDepth 20000 in
theorem gX5_strike_X5_requireActLeft : GoodIn wsX5_strike (wsV RX5 87 RX5 yX5_requireActLeft wsX5_requireActLeft) := goodIn_app (goodIn_of _ (by decide +kernel)) ggX5_strike_X5_requireActLeft
set_option maxRecDepth 20000 in
theorem ggX5_strike_X0_init : GoodIn wsX5_strike wsX0_init := goodIn_r _ [25, 26, 27, 28, 29, 30, 31, 32, 33, 34, 35, 36, 124, 125, 126, 127, 128, 129, 130, 131, 132, 133] (by decide +kernel) (by decide +kernel)
set_option maxRecDepth 20000 in
theorem gX5_strike_X0_init_n99 : GoodIn wsX5_strike (wsX0_init) := ggX5_strike_X0_init
set_option maxRecDepth 20000 in
theorem ggX5_strike_X5_tell : GoodIn wsX5_strike wsX5_tell := goodIn_r _ [40, 14, 41, 6, 42, 16, 43, 44, 45, 19, 46, 47, 48, 49, 50, 51, 52, 53, 54, 55, 56, 57, 58, 10, 59, 60, 61, 62, 63, 64, 65, 66, 67, 68, 69, 70, 71, 72, 73, 74, 75, 76, 77, 78, 79, 80, 81, 82, 83, 84, 85, 86, 87, 88, 89, 90, 91, 92, 93, 94, 95, 96, 97, 98, 99, 100, 101, 102, 103, 104, 105, 106, 107, 108, 109, 110, 111, 112, 113, 114, 115, 15, 17, 18, 116, 5, 117, 118, 33, 119, 120, 121, 122, 123, 134, 135, 136, 137, 138, 139, 140, 141, 142, 143, 144, 124, 125, 126, 127, 128, 129, 130, 131, 132, 133, 145, 146, 147, 148, 149, 150, 151, 152, 153, 154, 155, 156, 157, 158, 159, 160] (by decide +kernel) (by decide +kernel)
set_option maxRecDepth 20000 in
theorem gX5_strike_X5_tell : GoodIn wsX5_strike (wsV RX5 108 RX5 yX5_tell wsX5_tell) := goodIn_app (goodIn_of _ (by decide +kernel)) ggX5_strike_X5_tell
theorem dX5_strike_0 : decode cX5_strike 0 = .ok (.aload_n 0, 1) := by decide +kernel
theorem dX5_strike_1 : decode cX5_strike 1 = .ok (.iload_n 1, 1) := by decide +kernel
theorem dX5_strike_2 : decode cX5_strike 2 = .ok (.invokevirtual 126, 3) := by decide +kernel
theorem dX5_strike_5 : decode cX5_strike 5 = .ok (.astore_n 2, 1) := by decide +kernel
theorem dX5_strike_6 : decode cX5_strike 6 = .ok (.aload_n 2, 1) := by decide +kernel
theorem dX5_strike_7 : decode cX5_strike 7 = .ok (.getfield 130, 3) := by decide +kernel
theorem dX5_strike_10 : decode cX5_strike 10 = .ok (.bipush 8, 2) := by decide +kernel
theorem dX5_strike_12 : decode cX5_strike 12 = .ok (.if_icmp .eq 10, 3) := by decide +kernel
theorem dX5_strike_15 : decode cX5_strike 15 = .ok (.aload_n 2, 1) := by decide +kernel
theorem dX5_strike_16 : decode cX5_strike 16 = .ok (.getfield 133, 3) := by decide +kernel
theorem dX5_strike_19 : decode cX5_strike 19 = .ok (.ifnull 13, 3) := by decide +kernel
theorem dX5_strike_22 : decode cX5_strike 22 = .ok (.new 62, 3) := by decide +kernel
theorem dX5_strike_25 : decode cX5_strike 25 = .ok (.dup, 1) := by decide +kernel
theorem dX5_strike_26 : decode cX5_strike 26 = .ok (.ldc 137, 2) := by decide +kernel
theorem dX5_strike_28 : decode cX5_strike 28 = .ok (.invokespecial 66, 3) := by decide +kernel
theorem dX5_strike_31 : decode cX5_strike 31 = .ok (.athrow, 1) := by decide +kernel
theorem dX5_strike_32 : decode cX5_strike 32 = .ok (.aload_n 0, 1) := by decide +kernel
theorem dX5_strike_33 : decode cX5_strike 33 = .ok (.invokevirtual 87, 3) := by decide +kernel
theorem dX5_strike_36 : decode cX5_strike 36 = .ok (.new 97, 3) := by decide +kernel
theorem dX5_strike_39 : decode cX5_strike 39 = .ok (.dup, 1) := by decide +kernel
theorem dX5_strike_40 : decode cX5_strike 40 = .ok (.bipush 8, 2) := by decide +kernel
theorem dX5_strike_42 : decode cX5_strike 42 = .ok (.aload_n 0, 1) := by decide +kernel
theorem dX5_strike_43 : decode cX5_strike 43 = .ok (.getfield 50, 3) := by decide +kernel
theorem dX5_strike_46 : decode cX5_strike 46 = .ok (.iconst (-1), 1) := by decide +kernel
theorem dX5_strike_47 : decode cX5_strike 47 = .ok (.iconst (-1), 1) := by decide +kernel
theorem dX5_strike_48 : decode cX5_strike 48 = .ok (.iconst (-1), 1) := by decide +kernel
theorem dX5_strike_49 : decode cX5_strike 49 = .ok (.invokespecial 99, 3) := by decide +kernel
theorem dX5_strike_52 : decode cX5_strike 52 = .ok (.astore_n 3, 1) := by decide +kernel
theorem dX5_strike_53 : decode cX5_strike 53 = .ok (.aload_n 2, 1) := by decide +kernel
theorem dX5_strike_54 : decode cX5_strike 54 = .ok (.aload_n 3, 1) := by decide +kernel
theorem dX5_strike_55 : decode cX5_strike 55 = .ok (.putfield 133, 3) := by decide +kernel
theorem dX5_strike_58 : decode cX5_strike 58 = .ok (.aload_n 0, 1) := by decide +kernel
theorem dX5_strike_59 : decode cX5_strike 59 = .ok (.aload_n 3, 1) := by decide +kernel
theorem dX5_strike_60 : decode cX5_strike 60 = .ok (.invokevirtual 108, 3) := by decide +kernel
theorem dX5_strike_63 : decode cX5_strike 63 = .ok (.ireturn, 1) := by decide +kernel
theorem dX5_day_0 : decode cX5_day 0 = .ok (.aload_n 0, 1) := by decide +kernel
theorem dX5_day_1 : decode cX5_day 1 = .ok (.getfield 50, 3) := by decide +kernel
theorem dX5_day_4 : decode cX5_day 4 = .ok (.ireturn, 1) := by decide +kernel
set_option maxRecDepth 20000 in
theorem ggX5_actOf_X5_requireAct : GoodIn wsX5_actOf wsX5_requireAct := goodIn_ca (goodIn_r _ [5, 6, 7, 8, 9, 10, 11, 12, 13, 29, 30, 31, 32, 33, 34, 35, 36, 37, 38, 39, 40, 41, 42] (by decide +kernel) (by decide +kernel)) (goodIn_sub (fun _ h => List.mem_cons_of_mem _ (List.mem_append_left _ (List.mem_append_right _ h))) (by decide +kernel))
set_option maxRecDepth 20000 in
theorem gX5_actOf_X5_requireAct : GoodIn wsX5_actOf (wsV RX5 126 RX5 yX5_requireAct wsX5_requireAct) := goodIn_app (goodIn_of _ (by decide +kernel)) ggX5_actOf_X5_requireAct
set_option maxRecDepth 20000 in
theorem ggX5_actOf_X5_requireWithin : GoodIn wsX5_actOf wsX5_requireWithin := goodIn_ca (goodIn_r _ [16, 17, 18] (by decide +kernel) (by decide +kernel)) (goodIn_sub (fun _ h => List.mem_cons_of_mem _ (List.mem_append_right _ h)) (by decide +kernel))
set_option maxRecDepth 20000 in
theorem gX5_actOf_X5_requireWithin : GoodIn wsX5_actOf (va_wsS RX5 58 yX5_requireWithin wsX5_requireWithin) := goodIn_app (goodIn_of _ (by decide +kernel)) ggX5_actOf_X5_requireWithin
theorem dX5_actOf_0 : decode cX5_actOf 0 = .ok (.aload_n 0, 1) := by decide +kernel
theorem dX5_actOf_1 : decode cX5_actOf 1 = .ok (.iload_n 1, 1) := by decide +kernel
theorem dX5_actOf_2 : decode cX5_actOf 2 = .ok (.invokevirtual 126, 3) := by decide +kernel
theorem dX5_actOf_5 : decode cX5_actOf 5 = .ok (.astore_n 3, 1) := by decide +kernel
theorem dX5_actOf_6 : decode cX5_actOf 6 = .ok (.iload_n 2, 1) := by decide +kernel
theorem dX5_actOf_7 : decode cX5_actOf 7 = .ok (.iconst 0, 1) := by decide +kernel
theorem dX5_actOf_8 : decode cX5_actOf 8 = .ok (.iconst 4, 1) := by decide +kernel
theorem dX5_actOf_9 : decode cX5_actOf 9 = .ok (.invokestatic 58, 3) := by decide +kernel
theorem dX5_actOf_12 : decode cX5_actOf 12 = .ok (.iload_n 2, 1) := by decide +kernel
theorem dX5_actOf_13 : decode cX5_actOf 13 = .ok (.tableswitch 51 0 3 #[31, 36, 41, 46], 31) := by decide +kernel
theorem dX5_actOf_44 : decode cX5_actOf 44 = .ok (.aload_n 3, 1) := by decide +kernel
theorem dX5_actOf_45 : decode cX5_actOf 45 = .ok (.getfield 130, 3) := by decide +kernel
theorem dX5_actOf_48 : decode cX5_actOf 48 = .ok (.ireturn, 1) := by decide +kernel
theorem dX5_actOf_49 : decode cX5_actOf 49 = .ok (.aload_n 3, 1) := by decide +kernel
theorem dX5_actOf_50 : decode cX5_actOf 50 = .ok (.getfield 139, 3) := by decide +kernel
theorem dX5_actOf_53 : decode cX5_actOf 53 = .ok (.ireturn, 1) := by decide +kernel
theorem dX5_actOf_54 : decode cX5_actOf 54 = .ok (.aload_n 3, 1) := by decide +kernel
theorem dX5_actOf_55 : decode cX5_actOf 55 = .ok (.getfield 142, 3) := by decide +kernel
theorem dX5_actOf_58 : decode cX5_actOf 58 = .ok (.ireturn, 1) := by decide +kernel
theorem dX5_actOf_59 : decode cX5_actOf 59 = .ok (.aload_n 3, 1) := by decide +kernel
theorem dX5_actOf_60 : decode cX5_actOf 60 = .ok (.getfield 145, 3) := by decide +kernel
theorem dX5_actOf_63 : decode cX5_actOf 63 = .ok (.ireturn, 1) := by decide +kernel
theorem dX5_actOf_64 : decode cX5_actOf 64 = .ok (.aload_n 3, 1) := by decide +kernel
theorem dX5_actOf_65 : decode cX5_actOf 65 = .ok (.getfield 133, 3) := by decide +kernel
theorem dX5_actOf_68 : decode cX5_actOf 68 = .ok (.ifnonnull 7, 3) := by decide +kernel
theorem dX5_actOf_71 : decode cX5_actOf 71 = .ok (.iconst (-1), 1) := by decide +kernel
theorem dX5_actOf_72 : decode cX5_actOf 72 = .ok (.goto 10, 3) := by decide +kernel
theorem dX5_actOf_75 : decode cX5_actOf 75 = .ok (.aload_n 3, 1) := by decide +kernel
theorem dX5_actOf_76 : decode cX5_actOf 76 = .ok (.getfield 133, 3) := by decide +kernel
theorem dX5_actOf_79 : decode cX5_actOf 79 = .ok (.getfield 148, 3) := by decide +kernel
theorem dX5_actOf_82 : decode cX5_actOf 82 = .ok (.ireturn, 1) := by decide +kernel
set_option maxRecDepth 20000 in
theorem ggX5_asOf_X5_requirePerson : GoodIn wsX5_asOf wsX5_requirePerson := goodIn_ca (goodIn_r _ [7, 8, 9, 10, 145, 146, 147, 148, 149, 150, 151, 152, 153, 154, 155] (by decide +kernel) (by decide +kernel)) (goodIn_sub (fun _ h => List.mem_cons_of_mem _ (List.mem_append_left _ (List.mem_append_right _ h))) (by decide +kernel))
set_option maxRecDepth 20000 in
theorem gX5_asOf_X5_requirePerson : GoodIn wsX5_asOf (wsV RX5 112 RX5 yX5_requirePerson wsX5_requirePerson) := goodIn_app (goodIn_of _ (by decide +kernel)) ggX5_asOf_X5_requirePerson
set_option maxRecDepth 20000 in
theorem ggX5_asOf_X5_requireWithin : GoodIn wsX5_asOf wsX5_requireWithin := goodIn_ca (goodIn_r _ [13, 14, 15] (by decide +kernel) (by decide +kernel)) (goodIn_sub (fun _ h => List.mem_cons_of_mem _ (List.mem_append_right _ h)) (by decide +kernel))
set_option maxRecDepth 20000 in
theorem gX5_asOf_X5_requireWithin : GoodIn wsX5_asOf (va_wsS RX5 58 yX5_requireWithin wsX5_requireWithin) := goodIn_app (goodIn_of _ (by decide +kernel)) ggX5_asOf_X5_requireWithin
set_option maxRecDepth 20000 in
theorem ggX5_asOf_X5_requireDay : GoodIn wsX5_asOf wsX5_requireDay := goodIn_ca (goodIn_r _ [19, 20, 11, 12, 6, 13, 14, 15, 145, 146, 147, 148, 149, 150, 151, 152, 153, 154, 155] (by decide +kernel) (by decide +kernel)) (goodIn_sub (fun _ h => List.mem_cons_of_mem _ (List.mem_append_right _ h)) (by decide +kernel))
set_option maxRecDepth 20000 in
theorem gX5_asOf_X5_requireDay : GoodIn wsX5_asOf (wsV RX5 79 RX5 yX5_requireDay wsX5_requireDay) := goodIn_app (goodIn_of _ (by decide +kernel)) ggX5_asOf_X5_requireDay
set_option maxRecDepth 20000 in
theorem ggX5_asOf_X2_find : GoodIn wsX5_asOf wsX2_find := goodIn_r _ [24, 25, 26, 27, 22, 28, 29, 30, 31, 32, 33, 34, 35, 36, 37, 38, 39, 40, 41, 42, 43, 44, 45, 46, 47, 48, 49, 50, 51, 52, 53, 54, 55, 56, 57, 58, 59, 60, 61, 62, 63, 64, 6, 65, 66, 67, 68, 69, 70, 71, 72, 73, 74, 75, 76, 77, 78, 79, 80, 81, 82, 83, 84, 85, 86, 87, 88, 89, 90, 91, 92, 93, 94, 95, 96, 97, 98, 99, 100, 101, 102, 103, 104, 105, 156, 157, 158, 159, 160, 161, 162, 163, 164, 165, 166, 167, 168, 169, 170, 171, 172, 173, 174, 175, 176, 177, 178, 179, 180, 181] (by decide +kernel) (by decide +kernel)
set_option maxRecDepth 20000 in
theorem gX5_asOf_X2_find_n54 : GoodIn wsX5_asOf (wsX2_find) := ggX5_asOf_X2_find
set_option maxRecDepth 20000 in
theorem ggX5_asOf_X2_tellOf : GoodIn wsX5_asOf wsX2_tellOf := goodIn_r _ [108, 38, 39, 40, 41, 42, 66, 6, 67, 109, 110, 111, 22, 112, 30, 44, 80, 81, 82, 83, 113, 114, 115, 116, 117, 118, 119, 120, 121, 122, 123, 124, 125, 126, 127, 128, 129, 130, 131, 132, 133, 134, 135, 136, 137, 138, 139, 140, 141, 142, 143, 144, 156, 157, 158, 159, 160, 161, 162, 163, 164, 165, 166, 167, 168] (by decide +kernel) (by decide +kernel)
set_option maxRecDepth 20000 in
theorem gX5_asOf_X2_tellOf_n151 : GoodIn wsX5_asOf (wsX2_tellOf) := ggX5_asOf_X2_tellOf
theorem dX5_asOf_0 : decode cX5_asOf 0 = .ok (.aload_n 0, 1) := by decide +kernel
theorem dX5_asOf_1 : decode cX5_asOf 1 = .ok (.iload_n 1, 1) := by decide +kernel
theorem dX5_asOf_2 : decode cX5_asOf 2 = .ok (.invokevirtual 112, 3) := by decide +kernel
theorem dX5_asOf_5 : decode cX5_asOf 5 = .ok (.iload_n 2, 1) := by decide +kernel
theorem dX5_asOf_6 : decode cX5_asOf 6 = .ok (.iconst 0, 1) := by decide +kernel
theorem dX5_asOf_7 : decode cX5_asOf 7 = .ok (.bipush 6, 2) := by decide +kernel
theorem dX5_asOf_9 : decode cX5_asOf 9 = .ok (.invokestatic 58, 3) := by decide +kernel
theorem dX5_asOf_12 : decode cX5_asOf 12 = .ok (.aload_n 0, 1) := by decide +kernel
theorem dX5_asOf_13 : decode cX5_asOf 13 = .ok (.iload_n 3, 1) := by decide +kernel
theorem dX5_asOf_14 : decode cX5_asOf 14 = .ok (.invokevirtual 79, 3) := by decide +kernel
theorem dX5_asOf_17 : decode cX5_asOf 17 = .ok (.aload_n 0, 1) := by decide +kernel
theorem dX5_asOf_18 : decode cX5_asOf 18 = .ok (.iload 4, 2) := by decide +kernel
theorem dX5_asOf_20 : decode cX5_asOf 20 = .ok (.invokevirtual 79, 3) := by decide +kernel
theorem dX5_asOf_23 : decode cX5_asOf 23 = .ok (.aload_n 0, 1) := by decide +kernel
theorem dX5_asOf_24 : decode cX5_asOf 24 = .ok (.getfield 23, 3) := by decide +kernel
theorem dX5_asOf_27 : decode cX5_asOf 27 = .ok (.aload_n 0, 1) := by decide +kernel
theorem dX5_asOf_28 : decode cX5_asOf 28 = .ok (.getfield 10, 3) := by decide +kernel
theorem dX5_asOf_31 : decode cX5_asOf 31 = .ok (.iload_n 3, 1) := by decide +kernel
theorem dX5_asOf_32 : decode cX5_asOf 32 = .ok (.iload 4, 2) := by decide +kernel
theorem dX5_asOf_34 : decode cX5_asOf 34 = .ok (.invokevirtual 54, 3) := by decide +kernel
theorem dX5_asOf_37 : decode cX5_asOf 37 = .ok (.aload_n 0, 1) := by decide +kernel
theorem dX5_asOf_38 : decode cX5_asOf 38 = .ok (.getfield 23, 3) := by decide +kernel
theorem dX5_asOf_41 : decode cX5_asOf 41 = .ok (.iload_n 1, 1) := by decide +kernel
theorem dX5_asOf_42 : decode cX5_asOf 42 = .ok (.iload_n 2, 1) := by decide +kernel
theorem dX5_asOf_43 : decode cX5_asOf 43 = .ok (.invokevirtual 151, 3) := by decide +kernel
theorem dX5_asOf_46 : decode cX5_asOf 46 = .ok (.ireturn, 1) := by decide +kernel
set_option maxRecDepth 20000 in
theorem ggX5_now_X5_requirePerson : GoodIn wsX5_now wsX5_requirePerson := goodIn_ca (goodIn_r _ [6, 7, 8, 9, 68, 69, 70, 71, 72, 73, 74, 75, 76, 77, 78] (by decide +kernel) (by decide +kernel)) (goodIn_sub (fun _ h => List.mem_cons_of_mem _ (List.mem_append_left _ (List.mem_append_right _ h))) (by decide +kernel))
set_option maxRecDepth 20000 in
theorem gX5_now_X5_requirePerson : GoodIn wsX5_now (wsV RX5 112 RX5 yX5_requirePerson wsX5_requirePerson) := goodIn_app (goodIn_of _ (by decide +kernel)) ggX5_now_X5_requirePerson
set_option maxRecDepth 20000 in
theorem ggX5_now_X5_requireWithin : GoodIn wsX5_now wsX5_requireWithin := goodIn_ca (goodIn_r _ [12, 13, 14] (by decide +kernel) (by decide +kernel)) (goodIn_sub (fun _ h => List.mem_cons_of_mem _ (List.mem_append_right _ h)) (by decide +kernel))
set_option maxRecDepth 20000 in
theorem gX5_now_X5_requireWithin : GoodIn wsX5_now (va_wsS RX5 58 yX5_requireWithin wsX5_requireWithin) := goodIn_app (goodIn_of _ (by decide +kernel)) ggX5_now_X5_requireWithin
set_option maxRecDepth 20000 in
theorem ggX5_now_X2_tellOf : GoodIn wsX5_now wsX2_tellOf := goodIn_r _ [18, 19, 20, 21, 22, 23, 24, 5, 25, 26, 27, 28, 16, 29, 30, 31, 32, 33, 34, 35, 36, 37, 38, 39, 40, 41, 42, 43, 44, 45, 46, 47, 48, 49, 50, 51, 52, 53, 54, 55, 56, 57, 58, 59, 60, 61, 62, 63, 64, 65, 66, 67, 79, 80, 81, 82, 83, 84, 85, 86, 87, 88, 89, 90, 91] (by decide +kernel) (by decide +kernel)
set_option maxRecDepth 20000 in
theorem gX5_now_X2_tellOf_n151 : GoodIn wsX5_now (wsX2_tellOf) := ggX5_now_X2_tellOf
theorem dX5_now_0 : decode cX5_now 0 = .ok (.aload_n 0, 1) := by decide +kernel
theorem dX5_now_1 : decode cX5_now 1 = .ok (.iload_n 1, 1) := by decide +kernel
theorem dX5_now_2 : decode cX5_now 2 = .ok (.invokevirtual 112, 3) := by decide +kernel
theorem dX5_now_5 : decode cX5_now 5 = .ok (.iload_n 2, 1) := by decide +kernel
theorem dX5_now_6 : decode cX5_now 6 = .ok (.iconst 0, 1) := by decide +kernel
theorem dX5_now_7 : decode cX5_now 7 = .ok (.bipush 6, 2) := by decide +kernel
theorem dX5_now_9 : decode cX5_now 9 = .ok (.invokestatic 58, 3) := by decide +kernel
theorem dX5_now_12 : decode cX5_now 12 = .ok (.aload_n 0, 1) := by decide +kernel
theorem dX5_now_13 : decode cX5_now 13 = .ok (.getfield 19, 3) := by decide +kernel
theorem dX5_now_16 : decode cX5_now 16 = .ok (.iload_n 1, 1) := by decide +kernel
theorem dX5_now_17 : decode cX5_now 17 = .ok (.iload_n 2, 1) := by decide +kernel
theorem dX5_now_18 : decode cX5_now 18 = .ok (.invokevirtual 151, 3) := by decide +kernel
theorem dX5_now_21 : decode cX5_now 21 = .ok (.ireturn, 1) := by decide +kernel
set_option maxRecDepth 20000 in
theorem ggX5_households_X5_requireDwelling : GoodIn wsX5_households wsX5_requireDwelling := goodIn_ca (goodIn_r _ [6, 7, 8] (by decide +kernel) (by decide +kernel)) (goodIn_sub (fun _ h => List.mem_cons_of_mem _ (List.mem_append_left _ (List.mem_append_right _ h))) (by decide +kernel))
set_option maxRecDepth 20000 in
theorem gX5_households_X5_requireDwelling : GoodIn wsX5_households (va_wsS RX5 76 yX5_requireDwelling wsX5_requireDwelling) := goodIn_app (goodIn_of _ (by decide +kernel)) ggX5_households_X5_requireDwelling
set_option maxRecDepth 20000 in
theorem ggX5_households_X5_requireDay : GoodIn wsX5_households wsX5_requireDay := goodIn_ca (goodIn_r _ [12, 13, 14, 15, 5, 16, 17, 18, 139, 140, 141, 142, 143, 144, 145, 146, 147, 148, 149] (by decide +kernel) (by decide +kernel)) (goodIn_sub (fun _ h => List.mem_cons_of_mem _ (List.mem_append_right _ h)) (by decide +kernel))
set_option maxRecDepth 20000 in
theorem gX5_households_X5_requireDay : GoodIn wsX5_households (wsV RX5 79 RX5 yX5_requireDay wsX5_requireDay) := goodIn_app (goodIn_of _ (by decide +kernel)) ggX5_households_X5_requireDay
set_option maxRecDepth 20000 in
theorem ggX5_households_X2_find : GoodIn wsX5_households wsX2_find := goodIn_r _ [22, 23, 24, 25, 20, 26, 27, 28, 29, 30, 31, 32, 33, 34, 35, 36, 37, 38, 39, 40, 41, 42, 43, 44, 45, 46, 47, 48, 49, 50, 51, 52, 53, 54, 55, 56, 57, 58, 59, 60, 61, 62, 5, 63, 64, 65, 66, 67, 68, 69, 70, 71, 72, 73, 74, 75, 76, 77, 78, 79, 80, 81, 82, 83, 84, 85, 86, 87, 88, 89, 90, 91, 92, 93, 94, 95, 96, 97, 98, 99, 100, 101, 102, 103, 150, 151, 152, 153, 154, 155, 156, 157, 158, 159, 160, 161, 162, 163, 164, 165, 166, 167, 168, 169, 170, 171, 172, 173, 174, 175] (by decide +kernel) (by decide +kernel)
set_option maxRecDepth 20000 in
theorem gX5_households_X2_find_n54 : GoodIn wsX5_households (wsX2_find) := ggX5_households_X2_find
set_option maxRecDepth 20000 in
theorem ggX5_households_X2_countHouseholds : GoodIn wsX5_households wsX2_countHouseholds := goodIn_r _ [106, 37, 107, 108, 109, 110, 20, 111, 39, 40, 112, 113, 114, 115, 78, 79, 80, 81, 36, 64, 5, 65, 116, 117, 118, 119, 120, 121, 122, 123, 124, 125, 126, 127, 128, 129, 130, 131, 132, 133, 134, 28, 42, 135, 136, 137, 138, 150, 151, 152, 153, 154, 155, 156, 157, 158, 159, 160, 161, 162] (by decide +kernel) (by decide +kernel)
set_option maxRecDepth 20000 in
theorem gX5_households_X2_countHouseholds_n155 : GoodIn wsX5_households (wsX2_countHouseholds) := ggX5_households_X2_countHouseholds
theorem dX5_households_0 : decode cX5_households 0 = .ok (.iload_n 1, 1) := by decide +kernel
theorem dX5_households_1 : decode cX5_households 1 = .ok (.invokestatic 76, 3) := by decide +kernel
theorem dX5_households_4 : decode cX5_households 4 = .ok (.aload_n 0, 1) := by decide +kernel
theorem dX5_households_5 : decode cX5_households 5 = .ok (.iload_n 2, 1) := by decide +kernel
theorem dX5_households_6 : decode cX5_households 6 = .ok (.invokevirtual 79, 3) := by decide +kernel
theorem dX5_households_9 : decode cX5_households 9 = .ok (.aload_n 0, 1) := by decide +kernel
theorem dX5_households_10 : decode cX5_households 10 = .ok (.iload_n 3, 1) := by decide +kernel
theorem dX5_households_11 : decode cX5_households 11 = .ok (.invokevirtual 79, 3) := by decide +kernel
theorem dX5_households_14 : decode cX5_households 14 = .ok (.aload_n 0, 1) := by decide +kernel
theorem dX5_households_15 : decode cX5_households 15 = .ok (.getfield 23, 3) := by decide +kernel
theorem dX5_households_18 : decode cX5_households 18 = .ok (.aload_n 0, 1) := by decide +kernel
theorem dX5_households_19 : decode cX5_households 19 = .ok (.getfield 10, 3) := by decide +kernel
theorem dX5_households_22 : decode cX5_households 22 = .ok (.iload_n 2, 1) := by decide +kernel
theorem dX5_households_23 : decode cX5_households 23 = .ok (.iload_n 3, 1) := by decide +kernel
theorem dX5_households_24 : decode cX5_households 24 = .ok (.invokevirtual 54, 3) := by decide +kernel
theorem dX5_households_27 : decode cX5_households 27 = .ok (.aload_n 0, 1) := by decide +kernel
theorem dX5_households_28 : decode cX5_households 28 = .ok (.getfield 23, 3) := by decide +kernel
theorem dX5_households_31 : decode cX5_households 31 = .ok (.iload_n 1, 1) := by decide +kernel
theorem dX5_households_32 : decode cX5_households 32 = .ok (.invokevirtual 155, 3) := by decide +kernel
theorem dX5_households_35 : decode cX5_households 35 = .ok (.ireturn, 1) := by decide +kernel
set_option maxRecDepth 20000 in
theorem ggX5_money_X5_requireOffice : GoodIn wsX5_money wsX5_requireOffice := goodIn_ca (goodIn_r _ [6, 7, 8] (by decide +kernel) (by decide +kernel)) (goodIn_sub (fun _ h => List.mem_cons_of_mem _ (List.mem_append_left _ (List.mem_append_right _ h))) (by decide +kernel))
set_option maxRecDepth 20000 in
theorem gX5_money_X5_requireOffice : GoodIn wsX5_money (va_wsS RX5 158 yX5_requireOffice wsX5_requireOffice) := goodIn_app (goodIn_of _ (by decide +kernel)) ggX5_money_X5_requireOffice
set_option maxRecDepth 20000 in
theorem ggX5_money_X5_requireDay : GoodIn wsX5_money wsX5_requireDay := goodIn_ca (goodIn_r _ [12, 13, 14, 15, 5, 16, 17, 18, 108, 109, 110, 111, 112, 113, 114, 115, 116, 117, 118] (by decide +kernel) (by decide +kernel)) (goodIn_sub (fun _ h => List.mem_cons_of_mem _ (List.mem_append_right _ h)) (by decide +kernel))
set_option maxRecDepth 20000 in
theorem gX5_money_X5_requireDay : GoodIn wsX5_money (wsV RX5 79 RX5 yX5_requireDay wsX5_requireDay) := goodIn_app (goodIn_of _ (by decide +kernel)) ggX5_money_X5_requireDay
set_option maxRecDepth 20000 in
theorem ggX5_money_X5_requireWithin : GoodIn wsX5_money wsX5_requireWithin := goodIn_ca (goodIn_r _ [16, 17, 18] (by decide +kernel) (by decide +kernel)) (goodIn_sub (fun _ h => List.mem_cons_of_mem _ (List.mem_append_right _ h)) (by decide +kernel))
set_option maxRecDepth 20000 in
theorem gX5_money_X5_requireWithin : GoodIn wsX5_money (va_wsS RX5 58 yX5_requireWithin wsX5_requireWithin) := goodIn_app (goodIn_of _ (by decide +kernel)) ggX5_money_X5_requireWithin
set_option maxRecDepth 20000 in
theorem ggX5_money_X2_begin : GoodIn wsX5_money wsX2_begin := goodIn_r _ [22, 23, 24, 25, 26, 27, 28, 20, 29, 30, 31, 32, 33, 34, 35, 36, 37, 38, 39, 40, 41, 42, 43, 44, 45, 46, 47, 48, 49, 50, 51, 52, 53, 54, 55, 56, 57, 58, 5, 59, 60, 61, 119, 120, 121, 122, 123, 124, 125, 126, 127, 128, 129, 130, 131, 132, 133, 134, 135, 136, 137, 138, 139, 140, 141, 142, 143, 144] (by decide +kernel) (by decide +kernel)
set_option maxRecDepth 20000 in
theorem gX5_money_X2_begin_n161 : GoodIn wsX5_money (wsX2_begin) := ggX5_money_X2_begin
set_option maxRecDepth 20000 in
theorem ggX5_money_X2_goOn : GoodIn wsX5_money wsX2_goOn := goodIn_r _ [64, 24, 25, 23, 52, 53, 54, 55, 56, 57, 65, 66, 67, 20, 68, 30, 33, 34, 60, 5, 61, 69, 70, 71, 72, 32, 36, 37, 38, 73, 74, 75, 76, 58, 59, 77, 78, 79, 80, 35, 81, 82, 83, 84, 85, 86, 87, 88, 89, 90, 91, 92, 93, 94, 95, 96, 31, 97, 98, 119, 120, 121, 122, 123, 124, 125, 126, 127, 128, 129, 130, 131, 135, 136, 137, 138, 139, 140, 141, 142, 143, 144] (by decide +kernel) (by decide +kernel)
set_option maxRecDepth 20000 in
theorem gX5_money_X2_goOn_n69 : GoodIn wsX5_money (wsX2_goOn) := ggX5_money_X2_goOn
set_option maxRecDepth 20000 in
theorem ggX5_money_X2_countLivingUnder : GoodIn wsX5_money wsX2_countLivingUnder := goodIn_r _ [101, 33, 73, 74, 75, 20, 76, 32, 102, 5, 103, 104, 105, 106, 107, 119, 120, 121, 122, 123, 124, 125, 126, 127, 128, 129, 130, 131] (by decide +kernel) (by decide +kernel)
set_option maxRecDepth 20000 in
theorem gX5_money_X2_countLivingUnder_n165 : GoodIn wsX5_money (wsX2_countLivingUnder) := ggX5_money_X2_countLivingUnder
theorem dX5_money_0 : decode cX5_money 0 = .ok (.iload_n 1, 1) := by decide +kernel
theorem dX5_money_1 : decode cX5_money 1 = .ok (.invokestatic 158, 3) := by decide +kernel
theorem dX5_money_4 : decode cX5_money 4 = .ok (.aload_n 0, 1) := by decide +kernel
theorem dX5_money_5 : decode cX5_money 5 = .ok (.iload_n 2, 1) := by decide +kernel
theorem dX5_money_6 : decode cX5_money 6 = .ok (.invokevirtual 79, 3) := by decide +kernel
theorem dX5_money_9 : decode cX5_money 9 = .ok (.iload_n 3, 1) := by decide +kernel
theorem dX5_money_10 : decode cX5_money 10 = .ok (.iconst 1, 1) := by decide +kernel
theorem dX5_money_11 : decode cX5_money 11 = .ok (.bipush 60, 2) := by decide +kernel
theorem dX5_money_13 : decode cX5_money 13 = .ok (.invokestatic 58, 3) := by decide +kernel
theorem dX5_money_16 : decode cX5_money 16 = .ok (.aload_n 0, 1) := by decide +kernel
theorem dX5_money_17 : decode cX5_money 17 = .ok (.iload_n 2, 1) := by decide +kernel
theorem dX5_money_18 : decode cX5_money 18 = .ok (.iload_n 3, 1) := by decide +kernel
theorem dX5_money_19 : decode cX5_money 19 = .ok (.iadd, 1) := by decide +kernel
theorem dX5_money_20 : decode cX5_money 20 = .ok (.iconst 1, 1) := by decide +kernel
theorem dX5_money_21 : decode cX5_money 21 = .ok (.isub, 1) := by decide +kernel
theorem dX5_money_22 : decode cX5_money 22 = .ok (.invokevirtual 79, 3) := by decide +kernel
theorem dX5_money_25 : decode cX5_money 25 = .ok (.aload_n 0, 1) := by decide +kernel
theorem dX5_money_26 : decode cX5_money 26 = .ok (.iload 4, 2) := by decide +kernel
theorem dX5_money_28 : decode cX5_money 28 = .ok (.invokevirtual 79, 3) := by decide +kernel
theorem dX5_money_31 : decode cX5_money 31 = .ok (.aload_n 0, 1) := by decide +kernel
theorem dX5_money_32 : decode cX5_money 32 = .ok (.getfield 23, 3) := by decide +kernel
theorem dX5_money_35 : decode cX5_money 35 = .ok (.aload_n 0, 1) := by decide +kernel
theorem dX5_money_36 : decode cX5_money 36 = .ok (.getfield 10, 3) := by decide +kernel
theorem dX5_money_39 : decode cX5_money 39 = .ok (.iload 4, 2) := by decide +kernel
theorem dX5_money_41 : decode cX5_money 41 = .ok (.invokevirtual 161, 3) := by decide +kernel
theorem dX5_money_44 : decode cX5_money 44 = .ok (.iconst 0, 1) := by decide +kernel
theorem dX5_money_45 : decode cX5_money 45 = .ok (.istore 5, 2) := by decide +kernel
theorem dX5_money_47 : decode cX5_money 47 = .ok (.iconst 0, 1) := by decide +kernel
theorem dX5_money_48 : decode cX5_money 48 = .ok (.istore 6, 2) := by decide +kernel
theorem dX5_money_50 : decode cX5_money 50 = .ok (.iload 6, 2) := by decide +kernel
theorem dX5_money_52 : decode cX5_money 52 = .ok (.iload_n 3, 1) := by decide +kernel
theorem dX5_money_53 : decode cX5_money 53 = .ok (.if_icmp .ge 33, 3) := by decide +kernel
theorem dX5_money_56 : decode cX5_money 56 = .ok (.aload_n 0, 1) := by decide +kernel
theorem dX5_money_57 : decode cX5_money 57 = .ok (.getfield 23, 3) := by decide +kernel
theorem dX5_money_60 : decode cX5_money 60 = .ok (.iload_n 2, 1) := by decide +kernel
theorem dX5_money_61 : decode cX5_money 61 = .ok (.iload 6, 2) := by decide +kernel
theorem dX5_money_63 : decode cX5_money 63 = .ok (.iadd, 1) := by decide +kernel
theorem dX5_money_64 : decode cX5_money 64 = .ok (.invokevirtual 69, 3) := by decide +kernel
theorem dX5_money_67 : decode cX5_money 67 = .ok (.iload 5, 2) := by decide +kernel
theorem dX5_money_69 : decode cX5_money 69 = .ok (.aload_n 0, 1) := by decide +kernel
theorem dX5_money_70 : decode cX5_money 70 = .ok (.getfield 23, 3) := by decide +kernel
theorem dX5_money_73 : decode cX5_money 73 = .ok (.iload_n 1, 1) := by decide +kernel
theorem dX5_money_74 : decode cX5_money 74 = .ok (.invokevirtual 165, 3) := by decide +kernel
theorem dX5_money_77 : decode cX5_money 77 = .ok (.iadd, 1) := by decide +kernel
theorem dX5_money_78 : decode cX5_money 78 = .ok (.istore 5, 2) := by decide +kernel
theorem dX5_money_80 : decode cX5_money 80 = .ok (.iinc 6 1, 3) := by decide +kernel
theorem dX5_money_83 : decode cX5_money 83 = .ok (.goto (-33), 3) := by decide +kernel
theorem dX5_money_86 : decode cX5_money 86 = .ok (.iload 5, 2) := by decide +kernel
theorem dX5_money_88 : decode cX5_money 88 = .ok (.ireturn, 1) := by decide +kernel
set_option maxRecDepth 20000 in
theorem ggX5_changed_X5_requireDay : GoodIn wsX5_changed wsX5_requireDay := goodIn_ca (goodIn_r _ [9, 10, 11, 12, 8, 13, 14, 15, 104, 105, 106, 107, 108, 109, 110, 111, 112, 113, 114] (by decide +kernel) (by decide +kernel)) (goodIn_sub (fun _ h => List.mem_cons_of_mem _ (List.mem_append_right _ h)) (by decide +kernel))
set_option maxRecDepth 20000 in
theorem gX5_changed_X5_requireDay : GoodIn wsX5_changed (wsV RX5 79 RX5 yX5_requireDay wsX5_requireDay) := goodIn_app (goodIn_of _ (by decide +kernel)) ggX5_changed_X5_requireDay
set_option maxRecDepth 20000 in
theorem ggX5_changed_X2_find : GoodIn wsX5_changed wsX2_find := goodIn_r _ [19, 20, 21, 22, 17, 23, 24, 25, 26, 27, 28, 29, 30, 31, 32, 33, 34, 35, 36, 37, 38, 39, 40, 41, 42, 43, 44, 45, 46, 47, 48, 49, 50, 51, 52, 53, 54, 55, 56, 57, 58, 59, 8, 60, 61, 62, 63, 64, 65, 66, 67, 68, 69, 70, 71, 72, 73, 74, 75, 76, 77, 78, 79, 80, 81, 82, 83, 84, 85, 86, 87, 88, 89, 90, 91, 92, 93, 94, 95, 96, 97, 98, 99, 100, 115, 116, 117, 118, 119, 120, 121, 122, 123, 124, 125, 126, 127, 128, 129, 130, 131, 132, 133, 134, 135, 136, 137, 138, 139, 140] (by decide +kernel) (by decide +kernel)
set_option maxRecDepth 20000 in
theorem gX5_changed_X2_find_n54 : GoodIn wsX5_changed (wsX2_find) := ggX5_changed_X2_find
set_option maxRecDepth 20000 in
theorem ggX5_changed_X2_isSameIn : GoodIn wsX5_changed wsX2_isSameIn := goodIn_r _ [103, 33, 34, 35, 36, 37, 61, 8, 62, 115, 116, 117, 118, 119, 120, 121, 122, 123, 124, 125, 126, 127] (by decide +kernel) (by decide +kernel)
set_option maxRecDepth 20000 in
theorem gX5_changed_X2_isSameIn_n168 : GoodIn wsX5_changed (wsX2_isSameIn) := ggX5_changed_X2_isSameIn
theorem dX5_changed_0 : decode cX5_changed 0 = .ok (.aload_n 0, 1) := by decide +kernel
theorem dX5_changed_1 : decode cX5_changed 1 = .ok (.iload_n 1, 1) := by decide +kernel
theorem dX5_changed_2 : decode cX5_changed 2 = .ok (.invokevirtual 79, 3) := by decide +kernel
theorem dX5_changed_5 : decode cX5_changed 5 = .ok (.aload_n 0, 1) := by decide +kernel
theorem dX5_changed_6 : decode cX5_changed 6 = .ok (.iload_n 2, 1) := by decide +kernel
theorem dX5_changed_7 : decode cX5_changed 7 = .ok (.invokevirtual 79, 3) := by decide +kernel
theorem dX5_changed_10 : decode cX5_changed 10 = .ok (.aload_n 0, 1) := by decide +kernel
theorem dX5_changed_11 : decode cX5_changed 11 = .ok (.iload_n 3, 1) := by decide +kernel
theorem dX5_changed_12 : decode cX5_changed 12 = .ok (.invokevirtual 79, 3) := by decide +kernel
theorem dX5_changed_15 : decode cX5_changed 15 = .ok (.aload_n 0, 1) := by decide +kernel
theorem dX5_changed_16 : decode cX5_changed 16 = .ok (.getfield 23, 3) := by decide +kernel
theorem dX5_changed_19 : decode cX5_changed 19 = .ok (.aload_n 0, 1) := by decide +kernel
theorem dX5_changed_20 : decode cX5_changed 20 = .ok (.getfield 10, 3) := by decide +kernel
theorem dX5_changed_23 : decode cX5_changed 23 = .ok (.iload_n 1, 1) := by decide +kernel
theorem dX5_changed_24 : decode cX5_changed 24 = .ok (.iload_n 2, 1) := by decide +kernel
theorem dX5_changed_25 : decode cX5_changed 25 = .ok (.invokevirtual 54, 3) := by decide +kernel
theorem dX5_changed_28 : decode cX5_changed 28 = .ok (.aload_n 0, 1) := by decide +kernel
theorem dX5_changed_29 : decode cX5_changed 29 = .ok (.getfield 26, 3) := by decide +kernel
theorem dX5_changed_32 : decode cX5_changed 32 = .ok (.aload_n 0, 1) := by decide +kernel
theorem dX5_changed_33 : decode cX5_changed 33 = .ok (.getfield 10, 3) := by decide +kernel
theorem dX5_changed_36 : decode cX5_changed 36 = .ok (.iload_n 1, 1) := by decide +kernel
theorem dX5_changed_37 : decode cX5_changed 37 = .ok (.iload_n 3, 1) := by decide +kernel
theorem dX5_changed_38 : decode cX5_changed 38 = .ok (.invokevirtual 54, 3) := by decide +kernel
theorem dX5_changed_41 : decode cX5_changed 41 = .ok (.iconst 0, 1) := by decide +kernel
theorem dX5_changed_42 : decode cX5_changed 42 = .ok (.istore 4, 2) := by decide +kernel
theorem dX5_changed_44 : decode cX5_changed 44 = .ok (.iconst 0, 1) := by decide +kernel
theorem dX5_changed_45 : decode cX5_changed 45 = .ok (.istore 5, 2) := by decide +kernel
theorem dX5_changed_47 : decode cX5_changed 47 = .ok (.iload 5, 2) := by decide +kernel
theorem dX5_changed_49 : decode cX5_changed 49 = .ok (.aload_n 0, 1) := by decide +kernel
theorem dX5_changed_50 : decode cX5_changed 50 = .ok (.getfield 82, 3) := by decide +kernel
theorem dX5_changed_53 : decode cX5_changed 53 = .ok (.if_icmp .ge 28, 3) := by decide +kernel
theorem dX5_changed_56 : decode cX5_changed 56 = .ok (.aload_n 0, 1) := by decide +kernel
theorem dX5_changed_57 : decode cX5_changed 57 = .ok (.getfield 23, 3) := by decide +kernel
theorem dX5_changed_60 : decode cX5_changed 60 = .ok (.aload_n 0, 1) := by decide +kernel
theorem dX5_changed_61 : decode cX5_changed 61 = .ok (.getfield 26, 3) := by decide +kernel
theorem dX5_changed_64 : decode cX5_changed 64 = .ok (.iload 5, 2) := by decide +kernel
theorem dX5_changed_66 : decode cX5_changed 66 = .ok (.invokevirtual 168, 3) := by decide +kernel
theorem dX5_changed_69 : decode cX5_changed 69 = .ok (.ifCond .ne 6, 3) := by decide +kernel
theorem dX5_changed_72 : decode cX5_changed 72 = .ok (.iinc 4 1, 3) := by decide +kernel
theorem dX5_changed_75 : decode cX5_changed 75 = .ok (.iinc 5 1, 3) := by decide +kernel
theorem dX5_changed_78 : decode cX5_changed 78 = .ok (.goto (-31), 3) := by decide +kernel
theorem dX5_changed_81 : decode cX5_changed 81 = .ok (.iload 4, 2) := by decide +kernel
theorem dX5_changed_83 : decode cX5_changed 83 = .ok (.ireturn, 1) := by decide +kernel
set_option maxRecDepth 20000 in
theorem ggX5_origin_X5_requirePerson : GoodIn wsX5_origin wsX5_requirePerson := goodIn_ca (goodIn_r _ [6, 7, 8, 9, 26, 27, 28, 29, 30, 31, 32, 33, 34, 35, 36] (by decide +kernel) (by decide +kernel)) (goodIn_sub (fun _ h => List.mem_cons_of_mem _ (List.mem_append_right _ h)) (by decide +kernel))
set_option maxRecDepth 20000 in
theorem gX5_origin_X5_requirePerson : GoodIn wsX5_origin (wsV RX5 112 RX5 yX5_requirePerson wsX5_requirePerson) := goodIn_app (goodIn_of _ (by decide +kernel)) ggX5_origin_X5_requirePerson
set_option maxRecDepth 20000 in
theorem ggX5_origin_X5_requirePersonOrNone : GoodIn wsX5_origin wsX5_requirePersonOrNone := goodIn_ca (goodIn_r _ [13, 2, 3, 4, 5, 6, 7, 8, 9, 26, 27, 28, 29, 30, 31, 32, 33, 34, 35, 36] (by decide +kernel) (by decide +kernel)) (goodIn_sub (fun _ h => List.mem_cons_of_mem _ (List.mem_append_right _ h)) (by decide +kernel))
set_option maxRecDepth 20000 in
theorem gX5_origin_X5_requirePersonOrNone : GoodIn wsX5_origin (wsV RX5 73 RX5 yX5_requirePersonOrNone wsX5_requirePersonOrNone) := goodIn_app (goodIn_of _ (by decide +kernel)) ggX5_origin_X5_requirePersonOrNone
set_option maxRecDepth 20000 in
theorem ggX5_origin_X2_originFor : GoodIn wsX5_origin wsX2_originFor := goodIn_r _ [17, 18, 19, 20, 21, 22, 5, 23, 24, 25, 37, 38, 39, 40, 41, 42, 43, 44, 45, 46, 47, 48, 49] (by decide +kernel) (by decide +kernel)
set_option maxRecDepth 20000 in
theorem gX5_origin_X2_originFor_n172 : GoodIn wsX5_origin (wsX2_originFor) := ggX5_origin_X2_originFor
theorem dX5_origin_0 : decode cX5_origin 0 = .ok (.aload_n 0, 1) := by decide +kernel
theorem dX5_origin_1 : decode cX5_origin 1 = .ok (.iload_n 1, 1) := by decide +kernel
theorem dX5_origin_2 : decode cX5_origin 2 = .ok (.invokevirtual 112, 3) := by decide +kernel
theorem dX5_origin_5 : decode cX5_origin 5 = .ok (.aload_n 0, 1) := by decide +kernel
theorem dX5_origin_6 : decode cX5_origin 6 = .ok (.iload_n 2, 1) := by decide +kernel
theorem dX5_origin_7 : decode cX5_origin 7 = .ok (.invokevirtual 73, 3) := by decide +kernel
theorem dX5_origin_10 : decode cX5_origin 10 = .ok (.aload_n 0, 1) := by decide +kernel
theorem dX5_origin_11 : decode cX5_origin 11 = .ok (.getfield 19, 3) := by decide +kernel
theorem dX5_origin_14 : decode cX5_origin 14 = .ok (.iload_n 1, 1) := by decide +kernel
theorem dX5_origin_15 : decode cX5_origin 15 = .ok (.iload_n 2, 1) := by decide +kernel
theorem dX5_origin_16 : decode cX5_origin 16 = .ok (.invokevirtual 172, 3) := by decide +kernel
theorem dX5_origin_19 : decode cX5_origin 19 = .ok (.ireturn, 1) := by decide +kernel
set_option maxRecDepth 20000 in
theorem ggX5_likeness_X5_requirePerson : GoodIn wsX5_likeness wsX5_requirePerson := goodIn_ca (goodIn_r _ [6, 7, 8, 9, 41, 42, 43, 44, 45, 46, 47, 48, 49, 50, 51] (by decide +kernel) (by decide +kernel)) (goodIn_sub (fun _ h => List.mem_cons_of_mem _ (List.mem_append_left _ (List.mem_append_right _ h))) (by decide +kernel))
set_option maxRecDepth 20000 in
theorem gX5_likeness_X5_requirePerson : GoodIn wsX5_likeness (wsV RX5 112 RX5 yX5_requirePerson wsX5_requirePerson) := goodIn_app (goodIn_of _ (by decide +kernel)) ggX5_likeness_X5_requirePerson
set_option maxRecDepth 20000 in
theorem ggX5_likeness_X5_requireUnlike : GoodIn wsX5_likeness wsX5_requireUnlike := goodIn_ca (goodIn_r _ [12, 13, 14] (by decide +kernel) (by decide +kernel)) (goodIn_sub (fun _ h => List.mem_cons_of_mem _ (List.mem_append_right _ h)) (by decide +kernel))
set_option maxRecDepth 20000 in
theorem gX5_likeness_X5_requireUnlike : GoodIn wsX5_likeness (va_wsS RX5 120 yX5_requireUnlike wsX5_requireUnlike) := goodIn_app (goodIn_of _ (by decide +kernel)) ggX5_likeness_X5_requireUnlike
set_option maxRecDepth 20000 in
theorem ggX5_likeness_X2_countLikeness : GoodIn wsX5_likeness wsX2_countLikeness := goodIn_r _ [18, 19, 20, 21, 22, 23, 24, 25, 26, 27, 16, 28, 29, 30, 5, 31, 32, 33, 34, 35, 36, 37, 38, 39, 40, 52, 53, 54, 55, 56, 57, 58, 59, 60, 61, 62, 63, 64] (by decide +kernel) (by decide +kernel)
set_option maxRecDepth 20000 in
theorem gX5_likeness_X2_countLikeness_n175 : GoodIn wsX5_likeness (wsX2_countLikeness) := ggX5_likeness_X2_countLikeness
theorem dX5_likeness_0 : decode cX5_likeness 0 = .ok (.aload_n 0, 1) := by decide +kernel
theorem dX5_likeness_1 : decode cX5_likeness 1 = .ok (.iload_n 1, 1) := by decide +kernel
theorem dX5_likeness_2 : decode cX5_likeness 2 = .ok (.invokevirtual 112, 3) := by decide +kernel
theorem dX5_likeness_5 : decode cX5_likeness 5 = .ok (.aload_n 0, 1) := by decide +kernel
theorem dX5_likeness_6 : decode cX5_likeness 6 = .ok (.iload_n 2, 1) := by decide +kernel
theorem dX5_likeness_7 : decode cX5_likeness 7 = .ok (.invokevirtual 112, 3) := by decide +kernel
theorem dX5_likeness_10 : decode cX5_likeness 10 = .ok (.iload_n 1, 1) := by decide +kernel
theorem dX5_likeness_11 : decode cX5_likeness 11 = .ok (.iload_n 2, 1) := by decide +kernel
theorem dX5_likeness_12 : decode cX5_likeness 12 = .ok (.invokestatic 120, 3) := by decide +kernel
theorem dX5_likeness_15 : decode cX5_likeness 15 = .ok (.aload_n 0, 1) := by decide +kernel
theorem dX5_likeness_16 : decode cX5_likeness 16 = .ok (.getfield 19, 3) := by decide +kernel
theorem dX5_likeness_19 : decode cX5_likeness 19 = .ok (.iload_n 1, 1) := by decide +kernel
theorem dX5_likeness_20 : decode cX5_likeness 20 = .ok (.iload_n 2, 1) := by decide +kernel
theorem dX5_likeness_21 : decode cX5_likeness 21 = .ok (.invokevirtual 175, 3) := by decide +kernel
theorem dX5_likeness_24 : decode cX5_likeness 24 = .ok (.ireturn, 1) := by decide +kernel
set_option maxRecDepth 20000 in
theorem ggX5_doubleOf_X5_requirePerson : GoodIn wsX5_doubleOf wsX5_requirePerson := goodIn_ca (goodIn_r _ [7, 8, 9, 1, 36, 37, 38, 39, 40, 41, 42, 43, 44, 45, 46] (by decide +kernel) (by decide +kernel)) (goodIn_sub (fun _ h => List.mem_cons_of_mem _ (List.mem_append_right _ h)) (by decide +kernel))
set_option maxRecDepth 20000 in
theorem gX5_doubleOf_X5_requirePerson : GoodIn wsX5_doubleOf (wsV RX5 112 RX5 yX5_requirePerson wsX5_requirePerson) := goodIn_app (goodIn_of _ (by decide +kernel)) ggX5_doubleOf_X5_requirePerson
set_option maxRecDepth 20000 in
theorem ggX5_doubleOf_X2_countLikeness : GoodIn wsX5_doubleOf wsX2_countLikeness := goodIn_r _ [13, 14, 15, 16, 17, 18, 19, 20, 21, 22, 11, 23, 24, 25, 6, 26, 27, 28, 29, 30, 31, 32, 33, 34, 35, 47, 48, 49, 50, 51, 52, 53, 54, 55, 56, 57, 58, 59] (by decide +kernel) (by decide +kernel)
set_option maxRecDepth 20000 in
theorem gX5_doubleOf_X2_countLikeness_n175 : GoodIn wsX5_doubleOf (wsX2_countLikeness) := ggX5_doubleOf_X2_countLikeness
theorem dX5_doubleOf_0 : decode cX5_doubleOf 0 = .ok (.aload_n 0, 1) := by decide +kernel
theorem dX5_doubleOf_1 : decode cX5_doubleOf 1 = .ok (.iload_n 1, 1) := by decide +kernel
theorem dX5_doubleOf_2 : decode cX5_doubleOf 2 = .ok (.invokevirtual 112, 3) := by decide +kernel
theorem dX5_doubleOf_5 : decode cX5_doubleOf 5 = .ok (.iconst 0, 1) := by decide +kernel
theorem dX5_doubleOf_6 : decode cX5_doubleOf 6 = .ok (.istore_n 2, 1) := by decide +kernel
theorem dX5_doubleOf_7 : decode cX5_doubleOf 7 = .ok (.iload_n 2, 1) := by decide +kernel
theorem dX5_doubleOf_8 : decode cX5_doubleOf 8 = .ok (.aload_n 0, 1) := by decide +kernel
theorem dX5_doubleOf_9 : decode cX5_doubleOf 9 = .ok (.getfield 82, 3) := by decide +kernel
theorem dX5_doubleOf_12 : decode cX5_doubleOf 12 = .ok (.if_icmp .ge 30, 3) := by decide +kernel
theorem dX5_doubleOf_15 : decode cX5_doubleOf 15 = .ok (.iload_n 2, 1) := by decide +kernel
theorem dX5_doubleOf_16 : decode cX5_doubleOf 16 = .ok (.iload_n 1, 1) := by decide +kernel
theorem dX5_doubleOf_17 : decode cX5_doubleOf 17 = .ok (.if_icmp .eq 19, 3) := by decide +kernel
theorem dX5_doubleOf_20 : decode cX5_doubleOf 20 = .ok (.aload_n 0, 1) := by decide +kernel
theorem dX5_doubleOf_21 : decode cX5_doubleOf 21 = .ok (.getfield 19, 3) := by decide +kernel
theorem dX5_doubleOf_24 : decode cX5_doubleOf 24 = .ok (.iload_n 1, 1) := by decide +kernel
theorem dX5_doubleOf_25 : decode cX5_doubleOf 25 = .ok (.iload_n 2, 1) := by decide +kernel
theorem dX5_doubleOf_26 : decode cX5_doubleOf 26 = .ok (.invokevirtual 175, 3) := by decide +kernel
theorem dX5_doubleOf_29 : decode cX5_doubleOf 29 = .ok (.bipush 8, 2) := by decide +kernel
theorem dX5_doubleOf_31 : decode cX5_doubleOf 31 = .ok (.if_icmp .lt 5, 3) := by decide +kernel
theorem dX5_doubleOf_34 : decode cX5_doubleOf 34 = .ok (.iload_n 2, 1) := by decide +kernel
theorem dX5_doubleOf_35 : decode cX5_doubleOf 35 = .ok (.ireturn, 1) := by decide +kernel
theorem dX5_doubleOf_36 : decode cX5_doubleOf 36 = .ok (.iinc 2 1, 3) := by decide +kernel
theorem dX5_doubleOf_39 : decode cX5_doubleOf 39 = .ok (.goto (-32), 3) := by decide +kernel
theorem dX5_doubleOf_42 : decode cX5_doubleOf 42 = .ok (.iconst (-1), 1) := by decide +kernel
theorem dX5_doubleOf_43 : decode cX5_doubleOf 43 = .ok (.ireturn, 1) := by decide +kernel
set_option maxRecDepth 20000 in
theorem ggX5_renumber_X5_requirePerson : GoodIn wsX5_renumber wsX5_requirePerson := goodIn_ca (goodIn_r _ [6, 7, 8, 9, 33, 34, 35, 36, 37, 38, 39, 40, 41, 42, 43] (by decide +kernel) (by decide +kernel)) (goodIn_sub (fun _ h => List.mem_cons_of_mem _ (List.mem_append_left _ (List.mem_append_right _ h))) (by decide +kernel))
set_option maxRecDepth 20000 in
theorem gX5_renumber_X5_requirePerson : GoodIn wsX5_renumber (wsV RX5 112 RX5 yX5_requirePerson wsX5_requirePerson) := goodIn_app (goodIn_of _ (by decide +kernel)) ggX5_renumber_X5_requirePerson
set_option maxRecDepth 20000 in
theorem ggX5_renumber_X5_requireNumberLeft : GoodIn wsX5_renumber wsX5_requireNumberLeft := goodIn_ca (goodIn_r _ [13, 14, 15, 1, 33, 34, 35, 36, 37, 38, 39, 40, 41, 42, 43, 44, 45, 46, 47] (by decide +kernel) (by decide +kernel)) (goodIn_sub (fun _ h => List.mem_cons_of_mem _ (List.mem_append_right _ h)) (by decide +kernel))
set_option maxRecDepth 20000 in
theorem gX5_renumber_X5_requireNumberLeft : GoodIn wsX5_renumber (wsV RX5 90 RX5 yX5_requireNumberLeft wsX5_requireNumberLeft) := goodIn_app (goodIn_of _ (by decide +kernel)) ggX5_renumber_X5_requireNumberLeft
set_option maxRecDepth 20000 in
theorem ggX5_renumber_X3_give : GoodIn wsX5_renumber wsX3_give := goodIn_r _ [19, 20, 21, 22, 23, 24, 25, 17, 26, 27, 28, 29, 30, 31, 5, 32, 44, 45, 46, 47] (by decide +kernel) (by decide +kernel)
set_option maxRecDepth 20000 in
theorem gX5_renumber_X3_give_n93 : GoodIn wsX5_renumber (wsX3_give) := ggX5_renumber_X3_give
theorem dX5_renumber_0 : decode cX5_renumber 0 = .ok (.aload_n 0, 1) := by decide +kernel
theorem dX5_renumber_1 : decode cX5_renumber 1 = .ok (.iload_n 1, 1) := by decide +kernel
theorem dX5_renumber_2 : decode cX5_renumber 2 = .ok (.invokevirtual 112, 3) := by decide +kernel
theorem dX5_renumber_5 : decode cX5_renumber 5 = .ok (.aload_n 0, 1) := by decide +kernel
theorem dX5_renumber_6 : decode cX5_renumber 6 = .ok (.invokevirtual 90, 3) := by decide +kernel
theorem dX5_renumber_9 : decode cX5_renumber 9 = .ok (.aload_n 0, 1) := by decide +kernel
theorem dX5_renumber_10 : decode cX5_renumber 10 = .ok (.getfield 32, 3) := by decide +kernel
theorem dX5_renumber_13 : decode cX5_renumber 13 = .ok (.iload_n 1, 1) := by decide +kernel
theorem dX5_renumber_14 : decode cX5_renumber 14 = .ok (.invokevirtual 93, 3) := by decide +kernel
theorem dX5_renumber_17 : decode cX5_renumber 17 = .ok (.ireturn, 1) := by decide +kernel
set_option maxRecDepth 20000 in
theorem ggX5_number_X5_requirePerson : GoodIn wsX5_number wsX5_requirePerson := goodIn_ca (goodIn_r _ [6, 7, 8, 9, 19, 20, 21, 22, 23, 24, 25, 26, 27, 28, 29] (by decide +kernel) (by decide +kernel)) (goodIn_sub (fun _ h => List.mem_cons_of_mem _ (List.mem_append_right _ h)) (by decide +kernel))
set_option maxRecDepth 20000 in
theorem gX5_number_X5_requirePerson : GoodIn wsX5_number (wsV RX5 112 RX5 yX5_requirePerson wsX5_requirePerson) := goodIn_app (goodIn_of _ (by decide +kernel)) ggX5_number_X5_requirePerson
set_option maxRecDepth 20000 in
theorem ggX5_number_X3_lastOf : GoodIn wsX5_number wsX3_lastOf := goodIn_r _ [13, 14, 15, 16, 17, 5, 18, 30, 31, 32, 33] (by decide +kernel) (by decide +kernel)
set_option maxRecDepth 20000 in
theorem gX5_number_X3_lastOf_n178 : GoodIn wsX5_number (wsX3_lastOf) := ggX5_number_X3_lastOf
theorem dX5_number_0 : decode cX5_number 0 = .ok (.aload_n 0, 1) := by decide +kernel
theorem dX5_number_1 : decode cX5_number 1 = .ok (.iload_n 1, 1) := by decide +kernel
theorem dX5_number_2 : decode cX5_number 2 = .ok (.invokevirtual 112, 3) := by decide +kernel
theorem dX5_number_5 : decode cX5_number 5 = .ok (.aload_n 0, 1) := by decide +kernel
theorem dX5_number_6 : decode cX5_number 6 = .ok (.getfield 32, 3) := by decide +kernel
theorem dX5_number_9 : decode cX5_number 9 = .ok (.iload_n 1, 1) := by decide +kernel
theorem dX5_number_10 : decode cX5_number 10 = .ok (.invokevirtual 178, 3) := by decide +kernel
theorem dX5_number_13 : decode cX5_number 13 = .ok (.ireturn, 1) := by decide +kernel
set_option maxRecDepth 20000 in
theorem ggX5_bearer_X5_requireWithin : GoodIn wsX5_bearer wsX5_requireWithin := goodIn_ca (goodIn_r _ [8, 1, 2] (by decide +kernel) (by decide +kernel)) (goodIn_sub (fun _ h => List.mem_cons_of_mem _ (List.mem_append_right _ h)) (by decide +kernel))
set_option maxRecDepth 20000 in
theorem gX5_bearer_X5_requireWithin : GoodIn wsX5_bearer (va_wsS RX5 58 yX5_requireWithin wsX5_requireWithin) := goodIn_app (goodIn_of _ (by decide +kernel)) ggX5_bearer_X5_requireWithin
set_option maxRecDepth 20000 in
theorem ggX5_bearer_X3_isOfSerial : GoodIn wsX5_bearer wsX3_isOfSerial := goodIn_r _ [11, 12, 13, 10, 14] (by decide +kernel) (by decide +kernel)
set_option maxRecDepth 20000 in
theorem gX5_bearer_X3_isOfSerial_n182 : GoodIn wsX5_bearer (wsX3_isOfSerial) := ggX5_bearer_X3_isOfSerial
set_option maxRecDepth 20000 in
theorem ggX5_bearer_X3_personOf : GoodIn wsX5_bearer wsX3_personOf := goodIn_r _ [17, 18, 19, 20, 21, 7, 22, 34, 35, 36, 37] (by decide +kernel) (by decide +kernel)
set_option maxRecDepth 20000 in
theorem gX5_bearer_X3_personOf_n188 : GoodIn wsX5_bearer (wsX3_personOf) := ggX5_bearer_X3_personOf
theorem dX5_bearer_0 : decode cX5_bearer 0 = .ok (.iload_n 1, 1) := by decide +kernel
theorem dX5_bearer_1 : decode cX5_bearer 1 = .ok (.sipush 10000, 3) := by decide +kernel
theorem dX5_bearer_4 : decode cX5_bearer 4 = .ok (.ldc 181, 2) := by decide +kernel
theorem dX5_bearer_6 : decode cX5_bearer 6 = .ok (.invokestatic 58, 3) := by decide +kernel
theorem dX5_bearer_9 : decode cX5_bearer 9 = .ok (.iload_n 1, 1) := by decide +kernel
theorem dX5_bearer_10 : decode cX5_bearer 10 = .ok (.invokestatic 182, 3) := by decide +kernel
theorem dX5_bearer_13 : decode cX5_bearer 13 = .ok (.ifCond .ne 13, 3) := by decide +kernel
theorem dX5_bearer_16 : decode cX5_bearer 16 = .ok (.new 115, 3) := by decide +kernel
theorem dX5_bearer_19 : decode cX5_bearer 19 = .ok (.dup, 1) := by decide +kernel
theorem dX5_bearer_20 : decode cX5_bearer 20 = .ok (.ldc 186, 2) := by decide +kernel
theorem dX5_bearer_22 : decode cX5_bearer 22 = .ok (.invokespecial 119, 3) := by decide +kernel
theorem dX5_bearer_25 : decode cX5_bearer 25 = .ok (.athrow, 1) := by decide +kernel
theorem dX5_bearer_26 : decode cX5_bearer 26 = .ok (.aload_n 0, 1) := by decide +kernel
theorem dX5_bearer_27 : decode cX5_bearer 27 = .ok (.getfield 32, 3) := by decide +kernel
theorem dX5_bearer_30 : decode cX5_bearer 30 = .ok (.iload_n 1, 1) := by decide +kernel
theorem dX5_bearer_31 : decode cX5_bearer 31 = .ok (.invokevirtual 188, 3) := by decide +kernel
theorem dX5_bearer_34 : decode cX5_bearer 34 = .ok (.ireturn, 1) := by decide +kernel
set_option maxRecDepth 20000 in
theorem ggX5_roll_X5_requireOffice : GoodIn wsX5_roll wsX5_requireOffice := goodIn_ca (goodIn_r _ [11, 12, 13] (by decide +kernel) (by decide +kernel)) (goodIn_sub (fun _ h => List.mem_cons_of_mem _ (List.mem_append_left _ (List.mem_append_right _ h))) (by decide +kernel))
set_option maxRecDepth 20000 in
theorem gX5_roll_X5_requireOffice : GoodIn wsX5_roll (va_wsS RX5 158 yX5_requireOffice wsX5_requireOffice) := goodIn_app (goodIn_of _ (by decide +kernel)) ggX5_roll_X5_requireOffice
set_option maxRecDepth 20000 in
theorem ggX5_roll_X5_requireWithin : GoodIn wsX5_roll wsX5_requireWithin := goodIn_ca (goodIn_r _ [16, 17, 18] (by decide +kernel) (by decide +kernel)) (goodIn_sub (fun _ h => List.mem_cons_of_mem _ (List.mem_append_right _ h)) (by decide +kernel))
set_option maxRecDepth 20000 in
theorem gX5_roll_X5_requireWithin : GoodIn wsX5_roll (va_wsS RX5 58 yX5_requireWithin wsX5_requireWithin) := goodIn_app (goodIn_of _ (by decide +kernel)) ggX5_roll_X5_requireWithin
set_option maxRecDepth 20000 in
theorem ggX5_roll_X4_init : GoodIn wsX5_roll wsX4_init := goodIn_r _ [20, 21, 22, 23, 24, 25, 26, 27, 28, 29, 30, 31, 32, 44, 45, 46, 47, 48] (by decide +kernel) (by decide +kernel)
set_option maxRecDepth 20000 in
theorem gX5_roll_X4_init_n196 : GoodIn wsX5_roll (wsX4_init) := ggX5_roll_X4_init
theorem dX5_roll_0 : decode cX5_roll 0 = .ok (.iload_n 2, 1) := by decide +kernel
theorem dX5_roll_1 : decode cX5_roll 1 = .ok (.invokestatic 158, 3) := by decide +kernel
theorem dX5_roll_4 : decode cX5_roll 4 = .ok (.iload_n 1, 1) := by decide +kernel
theorem dX5_roll_5 : decode cX5_roll 5 = .ok (.iconst 0, 1) := by decide +kernel
theorem dX5_roll_6 : decode cX5_roll 6 = .ok (.iconst 3, 1) := by decide +kernel
theorem dX5_roll_7 : decode cX5_roll 7 = .ok (.invokestatic 58, 3) := by decide +kernel
theorem dX5_roll_10 : decode cX5_roll 10 = .ok (.aload_n 0, 1) := by decide +kernel
theorem dX5_roll_11 : decode cX5_roll 11 = .ok (.getfield 191, 3) := by decide +kernel
theorem dX5_roll_14 : decode cX5_roll 14 = .ok (.istore_n 3, 1) := by decide +kernel
theorem dX5_roll_15 : decode cX5_roll 15 = .ok (.iload_n 3, 1) := by decide +kernel
theorem dX5_roll_16 : decode cX5_roll 16 = .ok (.ifCond .lt 12, 3) := by decide +kernel
theorem dX5_roll_19 : decode cX5_roll 19 = .ok (.iload_n 3, 1) := by decide +kernel
theorem dX5_roll_20 : decode cX5_roll 20 = .ok (.aload_n 0, 1) := by decide +kernel
theorem dX5_roll_21 : decode cX5_roll 21 = .ok (.getfield 38, 3) := by decide +kernel
theorem dX5_roll_24 : decode cX5_roll 24 = .ok (.arraylength, 1) := by decide +kernel
theorem dX5_roll_25 : decode cX5_roll 25 = .ok (.if_icmp .lt 13, 3) := by decide +kernel
theorem dX5_roll_28 : decode cX5_roll 28 = .ok (.new 62, 3) := by decide +kernel
theorem dX5_roll_31 : decode cX5_roll 31 = .ok (.dup, 1) := by decide +kernel
theorem dX5_roll_32 : decode cX5_roll 32 = .ok (.ldc 194, 2) := by decide +kernel
theorem dX5_roll_34 : decode cX5_roll 34 = .ok (.invokespecial 66, 3) := by decide +kernel
theorem dX5_roll_37 : decode cX5_roll 37 = .ok (.athrow, 1) := by decide +kernel
theorem dX5_roll_38 : decode cX5_roll 38 = .ok (.aload_n 0, 1) := by decide +kernel
theorem dX5_roll_39 : decode cX5_roll 39 = .ok (.getfield 38, 3) := by decide +kernel
theorem dX5_roll_42 : decode cX5_roll 42 = .ok (.iload_n 3, 1) := by decide +kernel
theorem dX5_roll_43 : decode cX5_roll 43 = .ok (.new 36, 3) := by decide +kernel
theorem dX5_roll_46 : decode cX5_roll 46 = .ok (.dup, 1) := by decide +kernel
theorem dX5_roll_47 : decode cX5_roll 47 = .ok (.iload_n 1, 1) := by decide +kernel
theorem dX5_roll_48 : decode cX5_roll 48 = .ok (.iload_n 2, 1) := by decide +kernel
theorem dX5_roll_49 : decode cX5_roll 49 = .ok (.invokespecial 196, 3) := by decide +kernel
theorem dX5_roll_52 : decode cX5_roll 52 = .ok (.aastore, 1) := by decide +kernel
theorem dX5_roll_53 : decode cX5_roll 53 = .ok (.aload_n 0, 1) := by decide +kernel
theorem dX5_roll_54 : decode cX5_roll 54 = .ok (.dup, 1) := by decide +kernel
theorem dX5_roll_55 : decode cX5_roll 55 = .ok (.getfield 191, 3) := by decide +kernel
theorem dX5_roll_58 : decode cX5_roll 58 = .ok (.iconst 1, 1) := by decide +kernel
theorem dX5_roll_59 : decode cX5_roll 59 = .ok (.iadd, 1) := by decide +kernel
theorem dX5_roll_60 : decode cX5_roll 60 = .ok (.putfield 191, 3) := by decide +kernel
theorem dX5_roll_63 : decode cX5_roll 63 = .ok (.iload_n 3, 1) := by decide +kernel
theorem dX5_roll_64 : decode cX5_roll 64 = .ok (.ireturn, 1) := by decide +kernel
set_option maxRecDepth 20000 in
theorem ggX5_deliver_X5_requireRoll : GoodIn wsX5_deliver wsX5_requireRoll := goodIn_ca (goodIn_r _ [6, 7, 8, 9, 86, 87, 88, 89, 90, 91, 92, 93, 94, 95, 96] (by decide +kernel) (by decide +kernel)) (goodIn_sub (fun _ h => List.mem_cons_of_mem _ (List.mem_append_right _ h)) (by decide +kernel))
set_option maxRecDepth 20000 in
theorem gX5_deliver_X5_requireRoll : GoodIn wsX5_deliver (wsV RX5 198 RX5 yX5_requireRoll wsX5_requireRoll) := goodIn_app (goodIn_of _ (by decide +kernel)) ggX5_deliver_X5_requireRoll
set_option maxRecDepth 20000 in
theorem ggX5_deliver_X5_dueTo : GoodIn wsX5_deliver wsX5_dueTo := goodIn_r _ [13, 14, 15, 16, 5, 17, 18, 19, 20, 21, 22, 23, 24, 25, 26, 27, 28, 29, 30, 31, 32, 33, 34, 35, 36, 37, 38, 39, 40, 41, 42, 43, 44, 45, 46, 47, 97, 98, 99, 100, 101, 86, 87, 88, 89, 90, 91, 92, 93, 94, 95, 96, 102, 103, 104, 105, 106, 107, 108, 109, 110, 111, 112, 113, 114] (by decide +kernel) (by decide +kernel)
set_option maxRecDepth 20000 in
theorem gX5_deliver_X5_dueTo : GoodIn wsX5_deliver (wsV RX5 202 RX5 yX5_dueTo wsX5_dueTo) := goodIn_app (goodIn_of _ (by decide +kernel)) ggX5_deliver_X5_dueTo
set_option maxRecDepth 20000 in
theorem ggX5_deliver_X4_take : GoodIn wsX5_deliver wsX4_take := goodIn_r _ [50, 51, 52, 53, 54, 55, 56, 46, 57, 58, 59, 60, 61, 62, 63, 64, 65, 66, 67, 68, 69, 70, 71, 72, 73, 74, 75, 76, 77, 78, 5, 79, 80, 81, 82, 83, 84, 85, 97, 98, 99, 100, 101] (by decide +kernel) (by decide +kernel)
set_option maxRecDepth 20000 in
theorem gX5_deliver_X4_take_n206 : GoodIn wsX5_deliver (wsX4_take) := ggX5_deliver_X4_take
theorem dX5_deliver_0 : decode cX5_deliver 0 = .ok (.aload_n 0, 1) := by decide +kernel
theorem dX5_deliver_1 : decode cX5_deliver 1 = .ok (.iload_n 1, 1) := by decide +kernel
theorem dX5_deliver_2 : decode cX5_deliver 2 = .ok (.invokevirtual 198, 3) := by decide +kernel
theorem dX5_deliver_5 : decode cX5_deliver 5 = .ok (.astore_n 2, 1) := by decide +kernel
theorem dX5_deliver_6 : decode cX5_deliver 6 = .ok (.iconst 0, 1) := by decide +kernel
theorem dX5_deliver_7 : decode cX5_deliver 7 = .ok (.istore_n 3, 1) := by decide +kernel
theorem dX5_deliver_8 : decode cX5_deliver 8 = .ok (.iconst 0, 1) := by decide +kernel
theorem dX5_deliver_9 : decode cX5_deliver 9 = .ok (.istore 4, 2) := by decide +kernel
theorem dX5_deliver_11 : decode cX5_deliver 11 = .ok (.iload 4, 2) := by decide +kernel
theorem dX5_deliver_13 : decode cX5_deliver 13 = .ok (.aload_n 0, 1) := by decide +kernel
theorem dX5_deliver_14 : decode cX5_deliver 14 = .ok (.getfield 82, 3) := by decide +kernel
theorem dX5_deliver_17 : decode cX5_deliver 17 = .ok (.if_icmp .ge 33, 3) := by decide +kernel
theorem dX5_deliver_20 : decode cX5_deliver 20 = .ok (.aload_n 0, 1) := by decide +kernel
theorem dX5_deliver_21 : decode cX5_deliver 21 = .ok (.aload_n 2, 1) := by decide +kernel
theorem dX5_deliver_22 : decode cX5_deliver 22 = .ok (.iload 4, 2) := by decide +kernel
theorem dX5_deliver_24 : decode cX5_deliver 24 = .ok (.invokevirtual 202, 3) := by decide +kernel
theorem dX5_deliver_27 : decode cX5_deliver 27 = .ok (.istore 5, 2) := by decide +kernel
theorem dX5_deliver_29 : decode cX5_deliver 29 = .ok (.iload 5, 2) := by decide +kernel
theorem dX5_deliver_31 : decode cX5_deliver 31 = .ok (.iconst (-1), 1) := by decide +kernel
theorem dX5_deliver_32 : decode cX5_deliver 32 = .ok (.if_icmp .eq 12, 3) := by decide +kernel
theorem dX5_deliver_35 : decode cX5_deliver 35 = .ok (.aload_n 2, 1) := by decide +kernel
theorem dX5_deliver_36 : decode cX5_deliver 36 = .ok (.iload 5, 2) := by decide +kernel
theorem dX5_deliver_38 : decode cX5_deliver 38 = .ok (.invokevirtual 206, 3) := by decide +kernel
theorem dX5_deliver_41 : decode cX5_deliver 41 = .ok (.iinc 3 1, 3) := by decide +kernel
theorem dX5_deliver_44 : decode cX5_deliver 44 = .ok (.iinc 4 1, 3) := by decide +kernel
theorem dX5_deliver_47 : decode cX5_deliver 47 = .ok (.goto (-36), 3) := by decide +kernel
theorem dX5_deliver_50 : decode cX5_deliver 50 = .ok (.iload_n 3, 1) := by decide +kernel
theorem dX5_deliver_51 : decode cX5_deliver 51 = .ok (.ireturn, 1) := by decide +kernel
set_option maxRecDepth 20000 in
theorem ggX5_owes_X5_requireRoll : GoodIn wsX5_owes wsX5_requireRoll := goodIn_ca (goodIn_r _ [6, 7, 8, 9, 48, 49, 50, 51, 52, 53, 54, 55, 56, 57, 58] (by decide +kernel) (by decide +kernel)) (goodIn_sub (fun _ h => List.mem_cons_of_mem _ (List.mem_append_right _ h)) (by decide +kernel))
set_option maxRecDepth 20000 in
theorem gX5_owes_X5_requireRoll : GoodIn wsX5_owes (wsV RX5 198 RX5 yX5_requireRoll wsX5_requireRoll) := goodIn_app (goodIn_of _ (by decide +kernel)) ggX5_owes_X5_requireRoll
set_option maxRecDepth 20000 in
theorem ggX5_owes_X5_dueTo : GoodIn wsX5_owes wsX5_dueTo := goodIn_r _ [13, 14, 15, 16, 5, 17, 18, 19, 20, 21, 22, 23, 24, 25, 26, 27, 28, 29, 30, 31, 32, 33, 34, 35, 36, 37, 38, 39, 40, 41, 42, 43, 44, 45, 46, 47, 59, 60, 61, 62, 63, 48, 49, 50, 51, 52, 53, 54, 55, 56, 57, 58, 64, 65, 66, 67, 68, 69, 70, 71, 72, 73, 74, 75, 76] (by decide +kernel) (by decide +kernel)
set_option maxRecDepth 20000 in
theorem gX5_owes_X5_dueTo : GoodIn wsX5_owes (wsV RX5 202 RX5 yX5_dueTo wsX5_dueTo) := goodIn_app (goodIn_of _ (by decide +kernel)) ggX5_owes_X5_dueTo
theorem dX5_owes_0 : decode cX5_owes 0 = .ok (.aload_n 0, 1) := by decide +kernel
theorem dX5_owes_1 : decode cX5_owes 1 = .ok (.iload_n 1, 1) := by decide +kernel
theorem dX5_owes_2 : decode cX5_owes 2 = .ok (.invokevirtual 198, 3) := by decide +kernel
theorem dX5_owes_5 : decode cX5_owes 5 = .ok (.astore_n 2, 1) := by decide +kernel
theorem dX5_owes_6 : decode cX5_owes 6 = .ok (.iconst 0, 1) := by decide +kernel
theorem dX5_owes_7 : decode cX5_owes 7 = .ok (.istore_n 3, 1) := by decide +kernel
theorem dX5_owes_8 : decode cX5_owes 8 = .ok (.iconst 0, 1) := by decide +kernel
theorem dX5_owes_9 : decode cX5_owes 9 = .ok (.istore 4, 2) := by decide +kernel
theorem dX5_owes_11 : decode cX5_owes 11 = .ok (.iload 4, 2) := by decide +kernel
theorem dX5_owes_13 : decode cX5_owes 13 = .ok (.aload_n 0, 1) := by decide +kernel
theorem dX5_owes_14 : decode cX5_owes 14 = .ok (.getfield 82, 3) := by decide +kernel
theorem dX5_owes_17 : decode cX5_owes 17 = .ok (.if_icmp .ge 23, 3) := by decide +kernel
theorem dX5_owes_20 : decode cX5_owes 20 = .ok (.aload_n 0, 1) := by decide +kernel
theorem dX5_owes_21 : decode cX5_owes 21 = .ok (.aload_n 2, 1) := by decide +kernel
theorem dX5_owes_22 : decode cX5_owes 22 = .ok (.iload 4, 2) := by decide +kernel
theorem dX5_owes_24 : decode cX5_owes 24 = .ok (.invokevirtual 202, 3) := by decide +kernel
theorem dX5_owes_27 : decode cX5_owes 27 = .ok (.iconst (-1), 1) := by decide +kernel
theorem dX5_owes_28 : decode cX5_owes 28 = .ok (.if_icmp .eq 6, 3) := by decide +kernel
theorem dX5_owes_31 : decode cX5_owes 31 = .ok (.iinc 3 1, 3) := by decide +kernel
theorem dX5_owes_34 : decode cX5_owes 34 = .ok (.iinc 4 1, 3) := by decide +kernel
theorem dX5_owes_37 : decode cX5_owes 37 = .ok (.goto (-26), 3) := by decide +kernel
theorem dX5_owes_40 : decode cX5_owes 40 = .ok (.iload_n 3, 1) := by decide +kernel
theorem dX5_owes_41 : decode cX5_owes 41 = .ok (.ireturn, 1) := by decide +kernel
set_option maxRecDepth 20000 in
theorem ggX5_message_X5_requireRoll : GoodIn wsX5_message wsX5_requireRoll := goodIn_ca (goodIn_r _ [7, 1, 2, 8, 17, 18, 19, 20, 21, 22, 23, 24, 25, 26, 27] (by decide +kernel) (by decide +kernel)) (goodIn_sub (fun _ h => List.mem_cons_of_mem _ (List.mem_append_right _ h)) (by decide +kernel))
set_option maxRecDepth 20000 in
theorem gX5_message_X5_requireRoll : GoodIn wsX5_message (wsV RX5 198 RX5 yX5_requireRoll wsX5_requireRoll) := goodIn_app (goodIn_of _ (by decide +kernel)) ggX5_message_X5_requireRoll
set_option maxRecDepth 20000 in
theorem ggX5_message_X5_at : GoodIn wsX5_message wsX5_at := goodIn_r _ [11] (by decide +kernel) (by decide +kernel)
set_option maxRecDepth 20000 in
theorem gX5_message_X5_at : GoodIn wsX5_message (va_wsS RX5 220 yX5_at wsX5_at) := goodIn_app (goodIn_of _ (by decide +kernel)) ggX5_message_X5_at
theorem dX5_message_0 : decode cX5_message 0 = .ok (.aload_n 0, 1) := by decide +kernel
theorem dX5_message_1 : decode cX5_message 1 = .ok (.iload_n 1, 1) := by decide +kernel
theorem dX5_message_2 : decode cX5_message 2 = .ok (.invokevirtual 198, 3) := by decide +kernel
theorem dX5_message_5 : decode cX5_message 5 = .ok (.astore_n 3, 1) := by decide +kernel
theorem dX5_message_6 : decode cX5_message 6 = .ok (.iload_n 2, 1) := by decide +kernel
theorem dX5_message_7 : decode cX5_message 7 = .ok (.ifCond .lt 11, 3) := by decide +kernel
theorem dX5_message_10 : decode cX5_message 10 = .ok (.iload_n 2, 1) := by decide +kernel
theorem dX5_message_11 : decode cX5_message 11 = .ok (.aload_n 3, 1) := by decide +kernel
theorem dX5_message_12 : decode cX5_message 12 = .ok (.getfield 209, 3) := by decide +kernel
theorem dX5_message_15 : decode cX5_message 15 = .ok (.if_icmp .lt 13, 3) := by decide +kernel
theorem dX5_message_18 : decode cX5_message 18 = .ok (.new 212, 3) := by decide +kernel
theorem dX5_message_21 : decode cX5_message 21 = .ok (.dup, 1) := by decide +kernel
theorem dX5_message_22 : decode cX5_message 22 = .ok (.ldc 214, 2) := by decide +kernel
theorem dX5_message_24 : decode cX5_message 24 = .ok (.invokespecial 216, 3) := by decide +kernel
theorem dX5_message_27 : decode cX5_message 27 = .ok (.athrow, 1) := by decide +kernel
theorem dX5_message_28 : decode cX5_message 28 = .ok (.aload_n 3, 1) := by decide +kernel
theorem dX5_message_29 : decode cX5_message 29 = .ok (.getfield 217, 3) := by decide +kernel
theorem dX5_message_32 : decode cX5_message 32 = .ok (.iload_n 2, 1) := by decide +kernel
theorem dX5_message_33 : decode cX5_message 33 = .ok (.invokestatic 220, 3) := by decide +kernel
theorem dX5_message_36 : decode cX5_message 36 = .ok (.ireturn, 1) := by decide +kernel
set_option maxRecDepth 20000 in
theorem ggX5_holds_X5_requireRoll : GoodIn wsX5_holds wsX5_requireRoll := goodIn_ca (goodIn_r _ [5, 6, 7, 8, 22, 23, 24, 25, 26, 27, 28, 29, 30, 31, 32] (by decide +kernel) (by decide +kernel)) (goodIn_sub (fun _ h => List.mem_cons_of_mem _ (List.mem_append_right _ h)) (by decide +kernel))
set_option maxRecDepth 20000 in
theorem gX5_holds_X5_requireRoll : GoodIn wsX5_holds (wsV RX5 198 RX5 yX5_requireRoll wsX5_requireRoll) := goodIn_app (goodIn_of _ (by decide +kernel)) ggX5_holds_X5_requireRoll
set_option maxRecDepth 20000 in
theorem ggX5_holds_X5_requirePerson : GoodIn wsX5_holds wsX5_requirePerson := goodIn_ca (goodIn_r _ [12, 6, 7, 13, 22, 23, 24, 25, 26, 27, 28, 29, 30, 31, 32] (by decide +kernel) (by decide +kernel)) (goodIn_sub (fun _ h => List.mem_cons_of_mem _ (List.mem_append_right _ h)) (by decide +kernel))
set_option maxRecDepth 20000 in
theorem gX5_holds_X5_requirePerson : GoodIn wsX5_holds (wsV RX5 112 RX5 yX5_requirePerson wsX5_requirePerson) := goodIn_app (goodIn_of _ (by decide +kernel)) ggX5_holds_X5_requirePerson
set_option maxRecDepth 20000 in
theorem ggX5_holds_X5_at : GoodIn wsX5_holds wsX5_at := goodIn_r _ [16] (by decide +kernel) (by decide +kernel)
set_option maxRecDepth 20000 in
theorem gX5_holds_X5_at : GoodIn wsX5_holds (va_wsS RX5 220 yX5_at wsX5_at) := goodIn_app (goodIn_of _ (by decide +kernel)) ggX5_holds_X5_at
theorem dX5_holds_0 : decode cX5_holds 0 = .ok (.aload_n 0, 1) := by decide +kernel
theorem dX5_holds_1 : decode cX5_holds 1 = .ok (.iload_n 1, 1) := by decide +kernel
theorem dX5_holds_2 : decode cX5_holds 2 = .ok (.invokevirtual 198, 3) := by decide +kernel
theorem dX5_holds_5 : decode cX5_holds 5 = .ok (.astore_n 3, 1) := by decide +kernel
theorem dX5_holds_6 : decode cX5_holds 6 = .ok (.aload_n 0, 1) := by decide +kernel
theorem dX5_holds_7 : decode cX5_holds 7 = .ok (.iload_n 2, 1) := by decide +kernel
theorem dX5_holds_8 : decode cX5_holds 8 = .ok (.invokevirtual 112, 3) := by decide +kernel
theorem dX5_holds_11 : decode cX5_holds 11 = .ok (.aload_n 3, 1) := by decide +kernel
theorem dX5_holds_12 : decode cX5_holds 12 = .ok (.getfield 224, 3) := by decide +kernel
theorem dX5_holds_15 : decode cX5_holds 15 = .ok (.iload_n 2, 1) := by decide +kernel
theorem dX5_holds_16 : decode cX5_holds 16 = .ok (.invokestatic 220, 3) := by decide +kernel
theorem dX5_holds_19 : decode cX5_holds 19 = .ok (.ireturn, 1) := by decide +kernel
set_option maxRecDepth 20000 in
theorem ggX5_holdsAnew_X5_requireRoll : GoodIn wsX5_holdsAnew wsX5_requireRoll := goodIn_ca (goodIn_r _ [5, 6, 7, 8, 28, 29, 30, 31, 32, 33, 34, 35, 36, 37, 38] (by decide +kernel) (by decide +kernel)) (goodIn_sub (fun _ h => List.mem_cons_of_mem _ (List.mem_append_right _ h)) (by decide +kernel))
set_option maxRecDepth 20000 in
theorem gX5_holdsAnew_X5_requireRoll : GoodIn wsX5_holdsAnew (wsV RX5 198 RX5 yX5_requireRoll wsX5_requireRoll) := goodIn_app (goodIn_of _ (by decide +kernel)) ggX5_holdsAnew_X5_requireRoll
set_option maxRecDepth 20000 in
theorem ggX5_holdsAnew_X5_requirePerson : GoodIn wsX5_holdsAnew wsX5_requirePerson := goodIn_ca (goodIn_r _ [12, 6, 7, 13, 28, 29, 30, 31, 32, 33, 34, 35, 36, 37, 38] (by decide +kernel) (by decide +kernel)) (goodIn_sub (fun _ h => List.mem_cons_of_mem _ (List.mem_append_right _ h)) (by decide +kernel))
set_option maxRecDepth 20000 in
theorem gX5_holdsAnew_X5_requirePerson : GoodIn wsX5_holdsAnew (wsV RX5 112 RX5 yX5_requirePerson wsX5_requirePerson) := goodIn_app (goodIn_of _ (by decide +kernel)) ggX5_holdsAnew_X5_requirePerson
set_option maxRecDepth 20000 in
theorem ggX5_holdsAnew_X4_findAnew : GoodIn wsX5_holdsAnew wsX4_findAnew := goodIn_r _ [17, 18, 19, 20, 4, 21, 22, 23, 15, 24, 25, 26, 27, 39, 40, 41, 42, 43] (by decide +kernel) (by decide +kernel)
set_option maxRecDepth 20000 in
theorem gX5_holdsAnew_X4_findAnew_n227 : GoodIn wsX5_holdsAnew (wsX4_findAnew) := ggX5_holdsAnew_X4_findAnew
theorem dX5_holdsAnew_0 : decode cX5_holdsAnew 0 = .ok (.aload_n 0, 1) := by decide +kernel
theorem dX5_holdsAnew_1 : decode cX5_holdsAnew 1 = .ok (.iload_n 1, 1) := by decide +kernel
theorem dX5_holdsAnew_2 : decode cX5_holdsAnew 2 = .ok (.invokevirtual 198, 3) := by decide +kernel
theorem dX5_holdsAnew_5 : decode cX5_holdsAnew 5 = .ok (.astore_n 3, 1) := by decide +kernel
theorem dX5_holdsAnew_6 : decode cX5_holdsAnew 6 = .ok (.aload_n 0, 1) := by decide +kernel
theorem dX5_holdsAnew_7 : decode cX5_holdsAnew 7 = .ok (.iload_n 2, 1) := by decide +kernel
theorem dX5_holdsAnew_8 : decode cX5_holdsAnew 8 = .ok (.invokevirtual 112, 3) := by decide +kernel
theorem dX5_holdsAnew_11 : decode cX5_holdsAnew 11 = .ok (.aload_n 3, 1) := by decide +kernel
theorem dX5_holdsAnew_12 : decode cX5_holdsAnew 12 = .ok (.iload_n 2, 1) := by decide +kernel
theorem dX5_holdsAnew_13 : decode cX5_holdsAnew 13 = .ok (.invokevirtual 227, 3) := by decide +kernel
theorem dX5_holdsAnew_16 : decode cX5_holdsAnew 16 = .ok (.ireturn, 1) := by decide +kernel
set_option maxRecDepth 20000 in
theorem ggX5_bar_X5_requirePerson : GoodIn wsX5_bar wsX5_requirePerson := goodIn_ca (goodIn_r _ [6, 7, 8, 9, 16, 17, 18, 19, 20, 21, 22, 23, 24, 25, 26] (by decide +kernel) (by decide +kernel)) (goodIn_sub (fun _ h => List.mem_cons_of_mem _ (List.mem_append_right _ h)) (by decide +kernel))
set_option maxRecDepth 20000 in
theorem gX5_bar_X5_requirePerson : GoodIn wsX5_bar (wsV RX5 112 RX5 yX5_requirePerson wsX5_requirePerson) := goodIn_app (goodIn_of _ (by decide +kernel)) ggX5_bar_X5_requirePerson
set_option maxRecDepth 20000 in
theorem ggX5_bar_X5_isSet : GoodIn wsX5_bar wsX5_isSet := goodIn_r _ [12] (by decide +kernel) (by decide +kernel)
set_option maxRecDepth 20000 in
theorem gX5_bar_X5_isSet : GoodIn wsX5_bar (va_wsS RX5 230 yX5_isSet wsX5_isSet) := goodIn_app (goodIn_of _ (by decide +kernel)) ggX5_bar_X5_isSet
set_option maxRecDepth 20000 in
theorem ggX5_bar_X5_set : GoodIn wsX5_bar wsX5_set := goodIn_r _ [15] (by decide +kernel) (by decide +kernel)
set_option maxRecDepth 20000 in
theorem gX5_bar_X5_set : GoodIn wsX5_bar (va_wsS RX5 234 yX5_set wsX5_set) := goodIn_app (goodIn_of _ (by decide +kernel)) ggX5_bar_X5_set
theorem dX5_bar_0 : decode cX5_bar 0 = .ok (.aload_n 0, 1) := by decide +kernel
theorem dX5_bar_1 : decode cX5_bar 1 = .ok (.iload_n 1, 1) := by decide +kernel
theorem dX5_bar_2 : decode cX5_bar 2 = .ok (.invokevirtual 112, 3) := by decide +kernel
theorem dX5_bar_5 : decode cX5_bar 5 = .ok (.aload_n 0, 1) := by decide +kernel
theorem dX5_bar_6 : decode cX5_bar 6 = .ok (.getfield 42, 3) := by decide +kernel
theorem dX5_bar_9 : decode cX5_bar 9 = .ok (.iload_n 1, 1) := by decide +kernel
theorem dX5_bar_10 : decode cX5_bar 10 = .ok (.invokestatic 230, 3) := by decide +kernel
theorem dX5_bar_13 : decode cX5_bar 13 = .ok (.istore_n 3, 1) := by decide +kernel
theorem dX5_bar_14 : decode cX5_bar 14 = .ok (.aload_n 0, 1) := by decide +kernel
theorem dX5_bar_15 : decode cX5_bar 15 = .ok (.getfield 42, 3) := by decide +kernel
theorem dX5_bar_18 : decode cX5_bar 18 = .ok (.iload_n 1, 1) := by decide +kernel
theorem dX5_bar_19 : decode cX5_bar 19 = .ok (.iload_n 2, 1) := by decide +kernel
theorem dX5_bar_20 : decode cX5_bar 20 = .ok (.invokestatic 234, 3) := by decide +kernel
theorem dX5_bar_23 : decode cX5_bar 23 = .ok (.iload_n 3, 1) := by decide +kernel
theorem dX5_bar_24 : decode cX5_bar 24 = .ok (.ireturn, 1) := by decide +kernel
set_option maxRecDepth 20000 in
theorem ggX5_look_X5_requirePerson : GoodIn wsX5_look wsX5_requirePerson := goodIn_ca (goodIn_r _ [8, 9, 10, 11, 31, 32, 33, 34, 35, 36, 37, 38, 39, 40, 41] (by decide +kernel) (by decide +kernel)) (goodIn_sub (fun _ h => List.mem_cons_of_mem _ (List.mem_append_left _ (List.mem_append_right _ h))) (by decide +kernel))
set_option maxRecDepth 20000 in
theorem gX5_look_X5_requirePerson : GoodIn wsX5_look (wsV RX5 112 RX5 yX5_requirePerson wsX5_requirePerson) := goodIn_app (goodIn_of _ (by decide +kernel)) ggX5_look_X5_requirePerson
set_option maxRecDepth 20000 in
theorem ggX5_look_X5_requireWithin : GoodIn wsX5_look wsX5_requireWithin := goodIn_ca (goodIn_r _ [14, 15, 16] (by decide +kernel) (by decide +kernel)) (goodIn_sub (fun _ h => List.mem_cons_of_mem _ (List.mem_append_right _ h)) (by decide +kernel))
set_option maxRecDepth 20000 in
theorem gX5_look_X5_requireWithin : GoodIn wsX5_look (va_wsS RX5 58 yX5_requireWithin wsX5_requireWithin) := goodIn_app (goodIn_of _ (by decide +kernel)) ggX5_look_X5_requireWithin
set_option maxRecDepth 20000 in
theorem ggX5_look_X5_at : GoodIn wsX5_look wsX5_at := goodIn_r _ [19] (by decide +kernel) (by decide +kernel)
set_option maxRecDepth 20000 in
theorem gX5_look_X5_at : GoodIn wsX5_look (va_wsS RX5 220 yX5_at wsX5_at) := goodIn_app (goodIn_of _ (by decide +kernel)) ggX5_look_X5_at
set_option maxRecDepth 20000 in
theorem ggX5_look_X5_put : GoodIn wsX5_look wsX5_put := goodIn_r _ [22] (by decide +kernel) (by decide +kernel)
set_option maxRecDepth 20000 in
theorem gX5_look_X5_put : GoodIn wsX5_look (va_wsS RX5 238 yX5_put wsX5_put) := goodIn_app (goodIn_of _ (by decide +kernel)) ggX5_look_X5_put
set_option maxRecDepth 20000 in
theorem ggX5_look_X5_isSet : GoodIn wsX5_look wsX5_isSet := goodIn_r _ [25] (by decide +kernel) (by decide +kernel)
set_option maxRecDepth 20000 in
theorem gX5_look_X5_isSet : GoodIn wsX5_look (va_wsS RX5 230 yX5_isSet wsX5_isSet) := goodIn_app (goodIn_of _ (by decide +kernel)) ggX5_look_X5_isSet
set_option maxRecDepth 20000 in
theorem ggX5_look_X2_dwellingOf : GoodIn wsX5_look wsX2_dwellingOf := goodIn_r _ [29, 30, 18, 7, 19, 42, 43, 44, 45, 46, 47, 48, 49, 50, 51, 52, 53, 54] (by decide +kernel) (by decide +kernel)
set_option maxRecDepth 20000 in
theorem gX5_look_X2_dwellingOf_n242 : GoodIn wsX5_look (wsX2_dwellingOf) := ggX5_look_X2_dwellingOf
theorem dX5_look_0 : decode cX5_look 0 = .ok (.aload_n 0, 1) := by decide +kernel
theorem dX5_look_1 : decode cX5_look 1 = .ok (.iload_n 2, 1) := by decide +kernel
theorem dX5_look_2 : decode cX5_look 2 = .ok (.invokevirtual 112, 3) := by decide +kernel
theorem dX5_look_5 : decode cX5_look 5 = .ok (.iload_n 1, 1) := by decide +kernel
theorem dX5_look_6 : decode cX5_look 6 = .ok (.iconst 0, 1) := by decide +kernel
theorem dX5_look_7 : decode cX5_look 7 = .ok (.iconst 3, 1) := by decide +kernel
theorem dX5_look_8 : decode cX5_look 8 = .ok (.invokestatic 58, 3) := by decide +kernel
theorem dX5_look_11 : decode cX5_look 11 = .ok (.aload_n 0, 1) := by decide +kernel
theorem dX5_look_12 : decode cX5_look 12 = .ok (.getfield 46, 3) := by decide +kernel
theorem dX5_look_15 : decode cX5_look 15 = .ok (.iload_n 2, 1) := by decide +kernel
theorem dX5_look_16 : decode cX5_look 16 = .ok (.aload_n 0, 1) := by decide +kernel
theorem dX5_look_17 : decode cX5_look 17 = .ok (.getfield 46, 3) := by decide +kernel
theorem dX5_look_20 : decode cX5_look 20 = .ok (.iload_n 2, 1) := by decide +kernel
theorem dX5_look_21 : decode cX5_look 21 = .ok (.invokestatic 220, 3) := by decide +kernel
theorem dX5_look_24 : decode cX5_look 24 = .ok (.iconst 1, 1) := by decide +kernel
theorem dX5_look_25 : decode cX5_look 25 = .ok (.iadd, 1) := by decide +kernel
theorem dX5_look_26 : decode cX5_look 26 = .ok (.invokestatic 238, 3) := by decide +kernel
theorem dX5_look_29 : decode cX5_look 29 = .ok (.iload_n 1, 1) := by decide +kernel
theorem dX5_look_30 : decode cX5_look 30 = .ok (.ifCond .eq 17, 3) := by decide +kernel
theorem dX5_look_33 : decode cX5_look 33 = .ok (.aload_n 0, 1) := by decide +kernel
theorem dX5_look_34 : decode cX5_look 34 = .ok (.getfield 42, 3) := by decide +kernel
theorem dX5_look_37 : decode cX5_look 37 = .ok (.iload_n 2, 1) := by decide +kernel
theorem dX5_look_38 : decode cX5_look 38 = .ok (.invokestatic 230, 3) := by decide +kernel
theorem dX5_look_41 : decode cX5_look 41 = .ok (.ifCond .eq 6, 3) := by decide +kernel
theorem dX5_look_44 : decode cX5_look 44 = .ok (.bipush (-2), 2) := by decide +kernel
theorem dX5_look_46 : decode cX5_look 46 = .ok (.ireturn, 1) := by decide +kernel
theorem dX5_look_47 : decode cX5_look 47 = .ok (.aload_n 0, 1) := by decide +kernel
theorem dX5_look_48 : decode cX5_look 48 = .ok (.getfield 19, 3) := by decide +kernel
theorem dX5_look_51 : decode cX5_look 51 = .ok (.iload_n 2, 1) := by decide +kernel
theorem dX5_look_52 : decode cX5_look 52 = .ok (.invokevirtual 242, 3) := by decide +kernel
theorem dX5_look_55 : decode cX5_look 55 = .ok (.ireturn, 1) := by decide +kernel
set_option maxRecDepth 20000 in
theorem ggX5_looks_X5_requirePerson : GoodIn wsX5_looks wsX5_requirePerson := goodIn_ca (goodIn_r _ [6, 7, 8, 9, 13, 14, 15, 16, 17, 18, 19, 20, 21, 22, 23] (by decide +kernel) (by decide +kernel)) (goodIn_sub (fun _ h => List.mem_cons_of_mem _ (List.mem_append_right _ h)) (by decide +kernel))
set_option maxRecDepth 20000 in
theorem gX5_looks_X5_requirePerson : GoodIn wsX5_looks (wsV RX5 112 RX5 yX5_requirePerson wsX5_requirePerson) := goodIn_app (goodIn_of _ (by decide +kernel)) ggX5_looks_X5_requirePerson
set_option maxRecDepth 20000 in
theorem ggX5_looks_X5_at : GoodIn wsX5_looks wsX5_at := goodIn_r _ [12] (by decide +kernel) (by decide +kernel)
set_option maxRecDepth 20000 in
theorem gX5_looks_X5_at : GoodIn wsX5_looks (va_wsS RX5 220 yX5_at wsX5_at) := goodIn_app (goodIn_of _ (by decide +kernel)) ggX5_looks_X5_at
theorem dX5_looks_0 : decode cX5_looks 0 = .ok (.aload_n 0, 1) := by decide +kernel
theorem dX5_looks_1 : decode cX5_looks 1 = .ok (.iload_n 1, 1) := by decide +kernel
theorem dX5_looks_2 : decode cX5_looks 2 = .ok (.invokevirtual 112, 3) := by decide +kernel
theorem dX5_looks_5 : decode cX5_looks 5 = .ok (.aload_n 0, 1) := by decide +kernel
theorem dX5_looks_6 : decode cX5_looks 6 = .ok (.getfield 46, 3) := by decide +kernel
theorem dX5_looks_9 : decode cX5_looks 9 = .ok (.iload_n 1, 1) := by decide +kernel
theorem dX5_looks_10 : decode cX5_looks 10 = .ok (.invokestatic 220, 3) := by decide +kernel
theorem dX5_looks_13 : decode cX5_looks 13 = .ok (.ireturn, 1) := by decide +kernel
theorem dX5_requirePerson_0 : decode cX5_requirePerson 0 = .ok (.iload_n 1, 1) := by decide +kernel
theorem dX5_requirePerson_1 : decode cX5_requirePerson 1 = .ok (.ifCond .lt 11, 3) := by decide +kernel
theorem dX5_requirePerson_4 : decode cX5_requirePerson 4 = .ok (.iload_n 1, 1) := by decide +kernel
theorem dX5_requirePerson_5 : decode cX5_requirePerson 5 = .ok (.aload_n 0, 1) := by decide +kernel
theorem dX5_requirePerson_6 : decode cX5_requirePerson 6 = .ok (.getfield 82, 3) := by decide +kernel
theorem dX5_requirePerson_9 : decode cX5_requirePerson 9 = .ok (.if_icmp .lt 13, 3) := by decide +kernel
theorem dX5_requirePerson_12 : decode cX5_requirePerson 12 = .ok (.new 212, 3) := by decide +kernel
theorem dX5_requirePerson_15 : decode cX5_requirePerson 15 = .ok (.dup, 1) := by decide +kernel
theorem dX5_requirePerson_16 : decode cX5_requirePerson 16 = .ok (.ldc 245, 2) := by decide +kernel
theorem dX5_requirePerson_18 : decode cX5_requirePerson 18 = .ok (.invokespecial 216, 3) := by decide +kernel
theorem dX5_requirePerson_21 : decode cX5_requirePerson 21 = .ok (.athrow, 1) := by decide +kernel
theorem dX5_requirePerson_22 : decode cX5_requirePerson 22 = .ok (.return_, 1) := by decide +kernel
set_option maxRecDepth 20000 in
theorem ggX5_requirePersonOrNone_X5_requirePerson : GoodIn wsX5_requirePersonOrNone wsX5_requirePerson := goodIn_ca (goodIn_r _ [5, 6, 7, 8, 9, 10, 11, 12, 13, 14, 15, 16, 17, 18, 19] (by decide +kernel) (by decide +kernel)) (goodIn_sub (fun _ h => List.mem_cons_of_mem _ (List.mem_append_right _ h)) (by decide +kernel))
set_option maxRecDepth 20000 in
theorem gX5_requirePersonOrNone_X5_requirePerson : GoodIn wsX5_requirePersonOrNone (wsV RX5 112 RX5 yX5_requirePerson wsX5_requirePerson) := goodIn_app (goodIn_of _ (by decide +kernel)) ggX5_requirePersonOrNone_X5_requirePerson
theorem dX5_requirePersonOrNone_0 : decode cX5_requirePersonOrNone 0 = .ok (.iload_n 1, 1) := by decide +kernel
theorem dX5_requirePersonOrNone_1 : decode cX5_requirePersonOrNone 1 = .ok (.iconst (-1), 1) := by decide +kernel
theorem dX5_requirePersonOrNone_2 : decode cX5_requirePersonOrNone 2 = .ok (.if_icmp .eq 8, 3) := by decide +kernel
theorem dX5_requirePersonOrNone_5 : decode cX5_requirePersonOrNone 5 = .ok (.aload_n 0, 1) := by decide +kernel
theorem dX5_requirePersonOrNone_6 : decode cX5_requirePersonOrNone 6 = .ok (.iload_n 1, 1) := by decide +kernel
theorem dX5_requirePersonOrNone_7 : decode cX5_requirePersonOrNone 7 = .ok (.invokevirtual 112, 3) := by decide +kernel
theorem dX5_requirePersonOrNone_10 : decode cX5_requirePersonOrNone 10 = .ok (.return_, 1) := by decide +kernel
theorem dX5_requireDwelling_0 : decode cX5_requireDwelling 0 = .ok (.iload_n 0, 1) := by decide +kernel
theorem dX5_requireDwelling_1 : decode cX5_requireDwelling 1 = .ok (.ifCond .lt 9, 3) := by decide +kernel
theorem dX5_requireDwelling_4 : decode cX5_requireDwelling 4 = .ok (.iload_n 0, 1) := by decide +kernel
theorem dX5_requireDwelling_5 : decode cX5_requireDwelling 5 = .ok (.bipush 16, 2) := by decide +kernel
theorem dX5_requireDwelling_7 : decode cX5_requireDwelling 7 = .ok (.if_icmp .lt 13, 3) := by decide +kernel
theorem dX5_requireDwelling_10 : decode cX5_requireDwelling 10 = .ok (.new 212, 3) := by decide +kernel
theorem dX5_requireDwelling_13 : decode cX5_requireDwelling 13 = .ok (.dup, 1) := by decide +kernel
theorem dX5_requireDwelling_14 : decode cX5_requireDwelling 14 = .ok (.ldc 247, 2) := by decide +kernel
theorem dX5_requireDwelling_16 : decode cX5_requireDwelling 16 = .ok (.invokespecial 216, 3) := by decide +kernel
theorem dX5_requireDwelling_19 : decode cX5_requireDwelling 19 = .ok (.athrow, 1) := by decide +kernel
theorem dX5_requireDwelling_20 : decode cX5_requireDwelling 20 = .ok (.return_, 1) := by decide +kernel
theorem dX5_requireOffice_0 : decode cX5_requireOffice 0 = .ok (.iload_n 0, 1) := by decide +kernel
theorem dX5_requireOffice_1 : decode cX5_requireOffice 1 = .ok (.ifCond .lt 8, 3) := by decide +kernel
theorem dX5_requireOffice_4 : decode cX5_requireOffice 4 = .ok (.iload_n 0, 1) := by decide +kernel
theorem dX5_requireOffice_5 : decode cX5_requireOffice 5 = .ok (.iconst 4, 1) := by decide +kernel
theorem dX5_requireOffice_6 : decode cX5_requireOffice 6 = .ok (.if_icmp .lt 13, 3) := by decide +kernel
theorem dX5_requireOffice_9 : decode cX5_requireOffice 9 = .ok (.new 212, 3) := by decide +kernel
theorem dX5_requireOffice_12 : decode cX5_requireOffice 12 = .ok (.dup, 1) := by decide +kernel
theorem dX5_requireOffice_13 : decode cX5_requireOffice 13 = .ok (.ldc 249, 2) := by decide +kernel
theorem dX5_requireOffice_15 : decode cX5_requireOffice 15 = .ok (.invokespecial 216, 3) := by decide +kernel
theorem dX5_requireOffice_18 : decode cX5_requireOffice 18 = .ok (.athrow, 1) := by decide +kernel
theorem dX5_requireOffice_19 : decode cX5_requireOffice 19 = .ok (.return_, 1) := by decide +kernel
set_option maxRecDepth 20000 in
theorem ggX5_requireAct_X1_find : GoodIn wsX5_requireAct wsX1_find := goodIn_r _ [7, 8, 20, 21, 22] (by decide +kernel) (by decide +kernel)
set_option maxRecDepth 20000 in
theorem gX5_requireAct_X1_find_n251 : GoodIn wsX5_requireAct (wsX1_find) := ggX5_requireAct_X1_find
theorem dX5_requireAct_0 : decode cX5_requireAct 0 = .ok (.aload_n 0, 1) := by decide +kernel
theorem dX5_requireAct_1 : decode cX5_requireAct 1 = .ok (.getfield 10, 3) := by decide +kernel
theorem dX5_requireAct_4 : decode cX5_requireAct 4 = .ok (.iload_n 1, 1) := by decide +kernel
theorem dX5_requireAct_5 : decode cX5_requireAct 5 = .ok (.invokevirtual 251, 3) := by decide +kernel
theorem dX5_requireAct_8 : decode cX5_requireAct 8 = .ok (.astore_n 2, 1) := by decide +kernel
theorem dX5_requireAct_9 : decode cX5_requireAct 9 = .ok (.aload_n 2, 1) := by decide +kernel
theorem dX5_requireAct_10 : decode cX5_requireAct 10 = .ok (.ifnonnull 13, 3) := by decide +kernel
theorem dX5_requireAct_13 : decode cX5_requireAct 13 = .ok (.new 212, 3) := by decide +kernel
theorem dX5_requireAct_16 : decode cX5_requireAct 16 = .ok (.dup, 1) := by decide +kernel
theorem dX5_requireAct_17 : decode cX5_requireAct 17 = .ok (.ldc 253, 2) := by decide +kernel
theorem dX5_requireAct_19 : decode cX5_requireAct 19 = .ok (.invokespecial 216, 3) := by decide +kernel
theorem dX5_requireAct_22 : decode cX5_requireAct 22 = .ok (.athrow, 1) := by decide +kernel
theorem dX5_requireAct_23 : decode cX5_requireAct 23 = .ok (.aload_n 2, 1) := by decide +kernel
theorem dX5_requireAct_24 : decode cX5_requireAct 24 = .ok (.areturn, 1) := by decide +kernel
theorem dX5_requireRoll_0 : decode cX5_requireRoll 0 = .ok (.iload_n 1, 1) := by decide +kernel
theorem dX5_requireRoll_1 : decode cX5_requireRoll 1 = .ok (.ifCond .lt 21, 3) := by decide +kernel
theorem dX5_requireRoll_4 : decode cX5_requireRoll 4 = .ok (.iload_n 1, 1) := by decide +kernel
theorem dX5_requireRoll_5 : decode cX5_requireRoll 5 = .ok (.aload_n 0, 1) := by decide +kernel
theorem dX5_requireRoll_6 : decode cX5_requireRoll 6 = .ok (.getfield 38, 3) := by decide +kernel
theorem dX5_requireRoll_9 : decode cX5_requireRoll 9 = .ok (.arraylength, 1) := by decide +kernel
theorem dX5_requireRoll_10 : decode cX5_requireRoll 10 = .ok (.if_icmp .ge 12, 3) := by decide +kernel
theorem dX5_requireRoll_13 : decode cX5_requireRoll 13 = .ok (.aload_n 0, 1) := by decide +kernel
theorem dX5_requireRoll_14 : decode cX5_requireRoll 14 = .ok (.getfield 38, 3) := by decide +kernel
theorem dX5_requireRoll_17 : decode cX5_requireRoll 17 = .ok (.iload_n 1, 1) := by decide +kernel
theorem dX5_requireRoll_18 : decode cX5_requireRoll 18 = .ok (.aaload, 1) := by decide +kernel
theorem dX5_requireRoll_19 : decode cX5_requireRoll 19 = .ok (.goto 4, 3) := by decide +kernel
theorem dX5_requireRoll_22 : decode cX5_requireRoll 22 = .ok (.aconst_null, 1) := by decide +kernel
theorem dX5_requireRoll_23 : decode cX5_requireRoll 23 = .ok (.astore_n 2, 1) := by decide +kernel
theorem dX5_requireRoll_24 : decode cX5_requireRoll 24 = .ok (.aload_n 2, 1) := by decide +kernel
theorem dX5_requireRoll_25 : decode cX5_requireRoll 25 = .ok (.ifnonnull 13, 3) := by decide +kernel
theorem dX5_requireRoll_28 : decode cX5_requireRoll 28 = .ok (.new 212, 3) := by decide +kernel
theorem dX5_requireRoll_31 : decode cX5_requireRoll 31 = .ok (.dup, 1) := by decide +kernel
theorem dX5_requireRoll_32 : decode cX5_requireRoll 32 = .ok (.ldc 255, 2) := by decide +kernel
theorem dX5_requireRoll_34 : decode cX5_requireRoll 34 = .ok (.invokespecial 216, 3) := by decide +kernel
theorem dX5_requireRoll_37 : decode cX5_requireRoll 37 = .ok (.athrow, 1) := by decide +kernel
theorem dX5_requireRoll_38 : decode cX5_requireRoll 38 = .ok (.aload_n 2, 1) := by decide +kernel
theorem dX5_requireRoll_39 : decode cX5_requireRoll 39 = .ok (.areturn, 1) := by decide +kernel
theorem dX5_requireWithin_0 : decode cX5_requireWithin 0 = .ok (.iload_n 0, 1) := by decide +kernel
theorem dX5_requireWithin_1 : decode cX5_requireWithin 1 = .ok (.iload_n 1, 1) := by decide +kernel
theorem dX5_requireWithin_2 : decode cX5_requireWithin 2 = .ok (.if_icmp .lt 8, 3) := by decide +kernel
theorem dX5_requireWithin_5 : decode cX5_requireWithin 5 = .ok (.iload_n 0, 1) := by decide +kernel
theorem dX5_requireWithin_6 : decode cX5_requireWithin 6 = .ok (.iload_n 2, 1) := by decide +kernel
theorem dX5_requireWithin_7 : decode cX5_requireWithin 7 = .ok (.if_icmp .le 14, 3) := by decide +kernel
theorem dX5_requireWithin_10 : decode cX5_requireWithin 10 = .ok (.new 115, 3) := by decide +kernel
theorem dX5_requireWithin_13 : decode cX5_requireWithin 13 = .ok (.dup, 1) := by decide +kernel
theorem dX5_requireWithin_14 : decode cX5_requireWithin 14 = .ok (.ldc_w 257, 3) := by decide +kernel
theorem dX5_requireWithin_17 : decode cX5_requireWithin 17 = .ok (.invokespecial 119, 3) := by decide +kernel
theorem dX5_requireWithin_20 : decode cX5_requireWithin 20 = .ok (.athrow, 1) := by decide +kernel
theorem dX5_requireWithin_21 : decode cX5_requireWithin 21 = .ok (.return_, 1) := by decide +kernel
set_option maxRecDepth 20000 in
theorem ggX5_requireDay_X5_requireWithin : GoodIn wsX5_requireDay wsX5_requireWithin := goodIn_ca (goodIn_r _ [5, 6, 7] (by decide +kernel) (by decide +kernel)) (goodIn_sub (fun _ h => List.mem_cons_of_mem _ (List.mem_append_right _ h)) (by decide +kernel))
set_option maxRecDepth 20000 in
theorem gX5_requireDay_X5_requireWithin : GoodIn wsX5_requireDay (va_wsS RX5 58 yX5_requireWithin wsX5_requireWithin) := goodIn_app (goodIn_of _ (by decide +kernel)) ggX5_requireDay_X5_requireWithin
theorem dX5_requireDay_0 : decode cX5_requireDay 0 = .ok (.iload_n 1, 1) := by decide +kernel
theorem dX5_requireDay_1 : decode cX5_requireDay 1 = .ok (.iconst 0, 1) := by decide +kernel
theorem dX5_requireDay_2 : decode cX5_requireDay 2 = .ok (.aload_n 0, 1) := by decide +kernel
theorem dX5_requireDay_3 : decode cX5_requireDay 3 = .ok (.getfield 50, 3) := by decide +kernel
theorem dX5_requireDay_6 : decode cX5_requireDay 6 = .ok (.invokestatic 58, 3) := by decide +kernel
theorem dX5_requireDay_9 : decode cX5_requireDay 9 = .ok (.return_, 1) := by decide +kernel
theorem dX5_requireUnlike_0 : decode cX5_requireUnlike 0 = .ok (.iload_n 0, 1) := by decide +kernel
theorem dX5_requireUnlike_1 : decode cX5_requireUnlike 1 = .ok (.iload_n 1, 1) := by decide +kernel
theorem dX5_requireUnlike_2 : decode cX5_requireUnlike 2 = .ok (.if_icmp .ne 14, 3) := by decide +kernel
theorem dX5_requireUnlike_5 : decode cX5_requireUnlike 5 = .ok (.new 115, 3) := by decide +kernel
theorem dX5_requireUnlike_8 : decode cX5_requireUnlike 8 = .ok (.dup, 1) := by decide +kernel
theorem dX5_requireUnlike_9 : decode cX5_requireUnlike 9 = .ok (.ldc_w 259, 3) := by decide +kernel
theorem dX5_requireUnlike_12 : decode cX5_requireUnlike 12 = .ok (.invokespecial 119, 3) := by decide +kernel
theorem dX5_requireUnlike_15 : decode cX5_requireUnlike 15 = .ok (.athrow, 1) := by decide +kernel
theorem dX5_requireUnlike_16 : decode cX5_requireUnlike 16 = .ok (.return_, 1) := by decide +kernel
theorem dX5_requireActLeft_0 : decode cX5_requireActLeft 0 = .ok (.aload_n 0, 1) := by decide +kernel
theorem dX5_requireActLeft_1 : decode cX5_requireActLeft 1 = .ok (.getfield 10, 3) := by decide +kernel
theorem dX5_requireActLeft_4 : decode cX5_requireActLeft 4 = .ok (.getfield 261, 3) := by decide +kernel
theorem dX5_requireActLeft_7 : decode cX5_requireActLeft 7 = .ok (.sipush 150, 3) := by decide +kernel
theorem dX5_requireActLeft_10 : decode cX5_requireActLeft 10 = .ok (.if_icmp .lt 14, 3) := by decide +kernel
theorem dX5_requireActLeft_13 : decode cX5_requireActLeft 13 = .ok (.new 62, 3) := by decide +kernel
theorem dX5_requireActLeft_16 : decode cX5_requireActLeft 16 = .ok (.dup, 1) := by decide +kernel
theorem dX5_requireActLeft_17 : decode cX5_requireActLeft 17 = .ok (.ldc_w 262, 3) := by decide +kernel
theorem dX5_requireActLeft_20 : decode cX5_requireActLeft 20 = .ok (.invokespecial 66, 3) := by decide +kernel
theorem dX5_requireActLeft_23 : decode cX5_requireActLeft 23 = .ok (.athrow, 1) := by decide +kernel
theorem dX5_requireActLeft_24 : decode cX5_requireActLeft 24 = .ok (.return_, 1) := by decide +kernel
theorem dX5_requireNumberLeft_0 : decode cX5_requireNumberLeft 0 = .ok (.aload_n 0, 1) := by decide +kernel
theorem dX5_requireNumberLeft_1 : decode cX5_requireNumberLeft 1 = .ok (.getfield 32, 3) := by decide +kernel
theorem dX5_requireNumberLeft_4 : decode cX5_requireNumberLeft 4 = .ok (.getfield 264, 3) := by decide +kernel
theorem dX5_requireNumberLeft_7 : decode cX5_requireNumberLeft 7 = .ok (.bipush 60, 2) := by decide +kernel
theorem dX5_requireNumberLeft_9 : decode cX5_requireNumberLeft 9 = .ok (.if_icmp .lt 14, 3) := by decide +kernel
theorem dX5_requireNumberLeft_12 : decode cX5_requireNumberLeft 12 = .ok (.new 62, 3) := by decide +kernel
theorem dX5_requireNumberLeft_15 : decode cX5_requireNumberLeft 15 = .ok (.dup, 1) := by decide +kernel
theorem dX5_requireNumberLeft_16 : decode cX5_requireNumberLeft 16 = .ok (.ldc_w 267, 3) := by decide +kernel
theorem dX5_requireNumberLeft_19 : decode cX5_requireNumberLeft 19 = .ok (.invokespecial 66, 3) := by decide +kernel
theorem dX5_requireNumberLeft_22 : decode cX5_requireNumberLeft 22 = .ok (.athrow, 1) := by decide +kernel
theorem dX5_requireNumberLeft_23 : decode cX5_requireNumberLeft 23 = .ok (.return_, 1) := by decide +kernel
theorem dX5_at_0 : decode cX5_at 0 = .ok (.iload_n 1, 1) := by decide +kernel
theorem dX5_at_1 : decode cX5_at 1 = .ok (.ifCond .lt 15, 3) := by decide +kernel
theorem dX5_at_4 : decode cX5_at 4 = .ok (.iload_n 1, 1) := by decide +kernel
theorem dX5_at_5 : decode cX5_at 5 = .ok (.aload_n 0, 1) := by decide +kernel
theorem dX5_at_6 : decode cX5_at 6 = .ok (.arraylength, 1) := by decide +kernel
theorem dX5_at_7 : decode cX5_at 7 = .ok (.if_icmp .ge 9, 3) := by decide +kernel
theorem dX5_at_10 : decode cX5_at 10 = .ok (.aload_n 0, 1) := by decide +kernel
theorem dX5_at_11 : decode cX5_at 11 = .ok (.iload_n 1, 1) := by decide +kernel
theorem dX5_at_12 : decode cX5_at 12 = .ok (.iaload, 1) := by decide +kernel
theorem dX5_at_13 : decode cX5_at 13 = .ok (.goto 4, 3) := by decide +kernel
theorem dX5_at_16 : decode cX5_at 16 = .ok (.iconst (-1), 1) := by decide +kernel
theorem dX5_at_17 : decode cX5_at 17 = .ok (.ireturn, 1) := by decide +kernel
theorem dX5_put_0 : decode cX5_put 0 = .ok (.iload_n 1, 1) := by decide +kernel
theorem dX5_put_1 : decode cX5_put 1 = .ok (.ifCond .lt 13, 3) := by decide +kernel
theorem dX5_put_4 : decode cX5_put 4 = .ok (.iload_n 1, 1) := by decide +kernel
theorem dX5_put_5 : decode cX5_put 5 = .ok (.aload_n 0, 1) := by decide +kernel
theorem dX5_put_6 : decode cX5_put 6 = .ok (.arraylength, 1) := by decide +kernel
theorem dX5_put_7 : decode cX5_put 7 = .ok (.if_icmp .ge 7, 3) := by decide +kernel
theorem dX5_put_10 : decode cX5_put 10 = .ok (.aload_n 0, 1) := by decide +kernel
theorem dX5_put_11 : decode cX5_put 11 = .ok (.iload_n 1, 1) := by decide +kernel
theorem dX5_put_12 : decode cX5_put 12 = .ok (.iload_n 2, 1) := by decide +kernel
theorem dX5_put_13 : decode cX5_put 13 = .ok (.iastore, 1) := by decide +kernel
theorem dX5_put_14 : decode cX5_put 14 = .ok (.return_, 1) := by decide +kernel
theorem dX5_isSet_0 : decode cX5_isSet 0 = .ok (.iload_n 1, 1) := by decide +kernel
theorem dX5_isSet_1 : decode cX5_isSet 1 = .ok (.ifCond .lt 19, 3) := by decide +kernel
theorem dX5_isSet_4 : decode cX5_isSet 4 = .ok (.iload_n 1, 1) := by decide +kernel
theorem dX5_isSet_5 : decode cX5_isSet 5 = .ok (.aload_n 0, 1) := by decide +kernel
theorem dX5_isSet_6 : decode cX5_isSet 6 = .ok (.arraylength, 1) := by decide +kernel
theorem dX5_isSet_7 : decode cX5_isSet 7 = .ok (.if_icmp .ge 13, 3) := by decide +kernel
theorem dX5_isSet_10 : decode cX5_isSet 10 = .ok (.aload_n 0, 1) := by decide +kernel
theorem dX5_isSet_11 : decode cX5_isSet 11 = .ok (.iload_n 1, 1) := by decide +kernel
theorem dX5_isSet_12 : decode cX5_isSet 12 = .ok (.baload, 1) := by decide +kernel
theorem dX5_isSet_13 : decode cX5_isSet 13 = .ok (.ifCond .eq 7, 3) := by decide +kernel
theorem dX5_isSet_16 : decode cX5_isSet 16 = .ok (.iconst 1, 1) := by decide +kernel
theorem dX5_isSet_17 : decode cX5_isSet 17 = .ok (.goto 4, 3) := by decide +kernel
theorem dX5_isSet_20 : decode cX5_isSet 20 = .ok (.iconst 0, 1) := by decide +kernel
theorem dX5_isSet_21 : decode cX5_isSet 21 = .ok (.ireturn, 1) := by decide +kernel
theorem dX5_set_0 : decode cX5_set 0 = .ok (.iload_n 1, 1) := by decide +kernel
theorem dX5_set_1 : decode cX5_set 1 = .ok (.ifCond .lt 13, 3) := by decide +kernel
theorem dX5_set_4 : decode cX5_set 4 = .ok (.iload_n 1, 1) := by decide +kernel
theorem dX5_set_5 : decode cX5_set 5 = .ok (.aload_n 0, 1) := by decide +kernel
theorem dX5_set_6 : decode cX5_set 6 = .ok (.arraylength, 1) := by decide +kernel
theorem dX5_set_7 : decode cX5_set 7 = .ok (.if_icmp .ge 7, 3) := by decide +kernel
theorem dX5_set_10 : decode cX5_set 10 = .ok (.aload_n 0, 1) := by decide +kernel
theorem dX5_set_11 : decode cX5_set 11 = .ok (.iload_n 1, 1) := by decide +kernel
theorem dX5_set_12 : decode cX5_set 12 = .ok (.iload_n 2, 1) := by decide +kernel
theorem dX5_set_13 : decode cX5_set 13 = .ok (.bastore, 1) := by decide +kernel
theorem dX5_set_14 : decode cX5_set 14 = .ok (.return_, 1) := by decide +kernel
set_option maxRecDepth 20000 in
theorem ggX5_tell_X1_add : GoodIn wsX5_tell wsX1_add := goodIn_r _ [7, 8, 9, 10, 11, 12, 5, 13, 14, 115, 116, 117, 105, 106, 107, 108, 109, 110, 111, 112, 113, 114] (by decide +kernel) (by decide +kernel)
set_option maxRecDepth 20000 in
theorem gX5_tell_X1_add_n269 : GoodIn wsX5_tell (wsX1_add) := ggX5_tell_X1_add
set_option maxRecDepth 20000 in
theorem ggX5_tell_X2_happen : GoodIn wsX5_tell wsX2_happen := goodIn_r _ [18, 19, 20, 21, 22, 23, 24, 25, 26, 27, 16, 28, 29, 30, 31, 32, 33, 34, 35, 36, 37, 38, 39, 40, 41, 42, 43, 44, 45, 46, 47, 48, 49, 50, 51, 52, 53, 54, 55, 56, 57, 58, 59, 60, 61, 62, 118, 119, 120, 121, 122, 123, 124, 125, 126, 127, 128, 129, 130, 105, 106, 107, 108, 109, 110, 111, 112, 113, 114] (by decide +kernel) (by decide +kernel)
set_option maxRecDepth 20000 in
theorem gX5_tell_X2_happen_n276 : GoodIn wsX5_tell (wsX2_happen) := ggX5_tell_X2_happen
set_option maxRecDepth 20000 in
theorem ggX5_tell_X2_begin : GoodIn wsX5_tell wsX2_begin := goodIn_r _ [65, 66, 67, 68, 69, 70, 71, 16, 72, 19, 60, 29, 20, 21, 43, 30, 31, 32, 73, 74, 75, 76, 77, 78, 79, 80, 81, 5, 82, 83, 9, 84, 85, 86, 87, 88, 89, 37, 23, 38, 22, 24, 118, 119, 120, 121, 122, 123, 124, 125, 126, 127, 128, 129, 130, 115, 116, 117, 105, 106, 107, 108, 109, 110, 111, 112, 113, 114] (by decide +kernel) (by decide +kernel)
set_option maxRecDepth 20000 in
theorem gX5_tell_X2_begin_n161 : GoodIn wsX5_tell (wsX2_begin) := ggX5_tell_X2_begin
set_option maxRecDepth 20000 in
theorem ggX5_tell_X2_goOn : GoodIn wsX5_tell wsX2_goOn := goodIn_r _ [92, 67, 68, 66, 84, 85, 86, 87, 88, 89, 93, 15, 17, 16, 18, 19, 20, 21, 22, 23, 24, 25, 26, 27, 28, 29, 30, 31, 32, 33, 34, 35, 36, 37, 38, 39, 40, 41, 42, 43, 44, 45, 46, 47, 48, 49, 50, 51, 52, 53, 54, 55, 56, 57, 58, 59, 60, 61, 62, 118, 119, 120, 121, 122, 123, 124, 125, 126, 127, 128, 129, 130, 105, 106, 107, 108, 109, 110, 111, 112, 113, 114] (by decide +kernel) (by decide +kernel)
set_option maxRecDepth 20000 in
theorem gX5_tell_X2_goOn_n69 : GoodIn wsX5_tell (wsX2_goOn) := ggX5_tell_X2_goOn
theorem dX5_tell_0 : decode cX5_tell 0 = .ok (.aload_n 0, 1) := by decide +kernel
theorem dX5_tell_1 : decode cX5_tell 1 = .ok (.getfield 10, 3) := by decide +kernel
theorem dX5_tell_4 : decode cX5_tell 4 = .ok (.aload_n 1, 1) := by decide +kernel
theorem dX5_tell_5 : decode cX5_tell 5 = .ok (.invokevirtual 269, 3) := by decide +kernel
theorem dX5_tell_8 : decode cX5_tell 8 = .ok (.aload_n 1, 1) := by decide +kernel
theorem dX5_tell_9 : decode cX5_tell 9 = .ok (.getfield 142, 3) := by decide +kernel
theorem dX5_tell_12 : decode cX5_tell 12 = .ok (.iconst (-1), 1) := by decide +kernel
theorem dX5_tell_13 : decode cX5_tell 13 = .ok (.if_icmp .eq 21, 3) := by decide +kernel
theorem dX5_tell_16 : decode cX5_tell 16 = .ok (.aload_n 1, 1) := by decide +kernel
theorem dX5_tell_17 : decode cX5_tell 17 = .ok (.getfield 273, 3) := by decide +kernel
theorem dX5_tell_20 : decode cX5_tell 20 = .ok (.ifnonnull 14, 3) := by decide +kernel
theorem dX5_tell_23 : decode cX5_tell 23 = .ok (.aload_n 0, 1) := by decide +kernel
theorem dX5_tell_24 : decode cX5_tell 24 = .ok (.getfield 19, 3) := by decide +kernel
theorem dX5_tell_27 : decode cX5_tell 27 = .ok (.aload_n 1, 1) := by decide +kernel
theorem dX5_tell_28 : decode cX5_tell 28 = .ok (.invokevirtual 276, 3) := by decide +kernel
theorem dX5_tell_31 : decode cX5_tell 31 = .ok (.goto 29, 3) := by decide +kernel
theorem dX5_tell_34 : decode cX5_tell 34 = .ok (.aload_n 0, 1) := by decide +kernel
theorem dX5_tell_35 : decode cX5_tell 35 = .ok (.getfield 19, 3) := by decide +kernel
theorem dX5_tell_38 : decode cX5_tell 38 = .ok (.aload_n 0, 1) := by decide +kernel
theorem dX5_tell_39 : decode cX5_tell 39 = .ok (.getfield 10, 3) := by decide +kernel
theorem dX5_tell_42 : decode cX5_tell 42 = .ok (.aload_n 0, 1) := by decide +kernel
theorem dX5_tell_43 : decode cX5_tell 43 = .ok (.getfield 50, 3) := by decide +kernel
theorem dX5_tell_46 : decode cX5_tell 46 = .ok (.invokevirtual 161, 3) := by decide +kernel
theorem dX5_tell_49 : decode cX5_tell 49 = .ok (.aload_n 0, 1) := by decide +kernel
theorem dX5_tell_50 : decode cX5_tell 50 = .ok (.getfield 19, 3) := by decide +kernel
theorem dX5_tell_53 : decode cX5_tell 53 = .ok (.aload_n 0, 1) := by decide +kernel
theorem dX5_tell_54 : decode cX5_tell 54 = .ok (.getfield 50, 3) := by decide +kernel
theorem dX5_tell_57 : decode cX5_tell 57 = .ok (.invokevirtual 69, 3) := by decide +kernel
theorem dX5_tell_60 : decode cX5_tell 60 = .ok (.aload_n 1, 1) := by decide +kernel
theorem dX5_tell_61 : decode cX5_tell 61 = .ok (.getfield 148, 3) := by decide +kernel
theorem dX5_tell_64 : decode cX5_tell 64 = .ok (.ireturn, 1) := by decide +kernel
set_option maxRecDepth 20000 in
theorem ggX5_dueTo_X5_at : GoodIn wsX5_dueTo wsX5_at := goodIn_r _ [5] (by decide +kernel) (by decide +kernel)
set_option maxRecDepth 20000 in
theorem gX5_dueTo_X5_at : GoodIn wsX5_dueTo (va_wsS RX5 220 yX5_at wsX5_at) := goodIn_app (goodIn_of _ (by decide +kernel)) ggX5_dueTo_X5_at
set_option maxRecDepth 20000 in
theorem ggX5_dueTo_X5_isOfKind : GoodIn wsX5_dueTo wsX5_isOfKind := goodIn_r _ [9, 1, 10, 11, 12, 13, 14, 15, 16, 17, 18, 19, 20, 3, 4, 5, 21, 22, 23, 24, 25, 26, 27, 28, 29, 30, 31, 32, 41, 42, 43, 44, 45, 46, 47, 48, 49, 50, 51, 36, 37, 38, 39, 40, 52, 53, 54, 55, 56, 57, 58, 59, 60, 61, 62, 63, 64] (by decide +kernel) (by decide +kernel)
set_option maxRecDepth 20000 in
theorem gX5_dueTo_X5_isOfKind : GoodIn wsX5_dueTo (wsV RX5 279 RX5 yX5_isOfKind wsX5_isOfKind) := goodIn_app (goodIn_of _ (by decide +kernel)) ggX5_dueTo_X5_isOfKind
set_option maxRecDepth 20000 in
theorem ggX5_dueTo_X2_dwellingOf : GoodIn wsX5_dueTo wsX2_dwellingOf := goodIn_r _ [27, 28, 3, 4, 5, 52, 53, 54, 55, 56, 57, 58, 59, 60, 61, 62, 63, 64] (by decide +kernel) (by decide +kernel)
set_option maxRecDepth 20000 in
theorem gX5_dueTo_X2_dwellingOf_n242 : GoodIn wsX5_dueTo (wsX2_dwellingOf) := ggX5_dueTo_X2_dwellingOf
set_option maxRecDepth 20000 in
theorem ggX5_dueTo_X4_write : GoodIn wsX5_dueTo wsX4_write := goodIn_r _ [35] (by decide +kernel) (by decide +kernel)
set_option maxRecDepth 20000 in
theorem gX5_dueTo_X4_write_n283 : GoodIn wsX5_dueTo (wsX4_write) := ggX5_dueTo_X4_write
theorem dX5_dueTo_0 : decode cX5_dueTo 0 = .ok (.aload_n 1, 1) := by decide +kernel
theorem dX5_dueTo_1 : decode cX5_dueTo 1 = .ok (.getfield 224, 3) := by decide +kernel
theorem dX5_dueTo_4 : decode cX5_dueTo 4 = .ok (.iload_n 2, 1) := by decide +kernel
theorem dX5_dueTo_5 : decode cX5_dueTo 5 = .ok (.invokestatic 220, 3) := by decide +kernel
theorem dX5_dueTo_8 : decode cX5_dueTo 8 = .ok (.istore_n 3, 1) := by decide +kernel
theorem dX5_dueTo_9 : decode cX5_dueTo 9 = .ok (.aload_n 0, 1) := by decide +kernel
theorem dX5_dueTo_10 : decode cX5_dueTo 10 = .ok (.aload_n 1, 1) := by decide +kernel
theorem dX5_dueTo_11 : decode cX5_dueTo 11 = .ok (.iload_n 2, 1) := by decide +kernel
theorem dX5_dueTo_12 : decode cX5_dueTo 12 = .ok (.invokevirtual 279, 3) := by decide +kernel
theorem dX5_dueTo_15 : decode cX5_dueTo 15 = .ok (.ifCond .eq 14, 3) := by decide +kernel
theorem dX5_dueTo_18 : decode cX5_dueTo 18 = .ok (.aload_n 0, 1) := by decide +kernel
theorem dX5_dueTo_19 : decode cX5_dueTo 19 = .ok (.getfield 19, 3) := by decide +kernel
theorem dX5_dueTo_22 : decode cX5_dueTo 22 = .ok (.iload_n 2, 1) := by decide +kernel
theorem dX5_dueTo_23 : decode cX5_dueTo 23 = .ok (.invokevirtual 242, 3) := by decide +kernel
theorem dX5_dueTo_26 : decode cX5_dueTo 26 = .ok (.goto 4, 3) := by decide +kernel
theorem dX5_dueTo_29 : decode cX5_dueTo 29 = .ok (.iconst (-1), 1) := by decide +kernel
theorem dX5_dueTo_30 : decode cX5_dueTo 30 = .ok (.istore 4, 2) := by decide +kernel
theorem dX5_dueTo_32 : decode cX5_dueTo 32 = .ok (.iload 4, 2) := by decide +kernel
theorem dX5_dueTo_34 : decode cX5_dueTo 34 = .ok (.iload_n 3, 1) := by decide +kernel
theorem dX5_dueTo_35 : decode cX5_dueTo 35 = .ok (.if_icmp .ne 5, 3) := by decide +kernel
theorem dX5_dueTo_38 : decode cX5_dueTo 38 = .ok (.iconst (-1), 1) := by decide +kernel
theorem dX5_dueTo_39 : decode cX5_dueTo 39 = .ok (.ireturn, 1) := by decide +kernel
theorem dX5_dueTo_40 : decode cX5_dueTo 40 = .ok (.iload_n 3, 1) := by decide +kernel
theorem dX5_dueTo_41 : decode cX5_dueTo 41 = .ok (.iconst (-1), 1) := by decide +kernel
theorem dX5_dueTo_42 : decode cX5_dueTo 42 = .ok (.if_icmp .ne 11, 3) := by decide +kernel
theorem dX5_dueTo_45 : decode cX5_dueTo 45 = .ok (.iload_n 2, 1) := by decide +kernel
theorem dX5_dueTo_46 : decode cX5_dueTo 46 = .ok (.iload 4, 2) := by decide +kernel
theorem dX5_dueTo_48 : decode cX5_dueTo 48 = .ok (.iconst 1, 1) := by decide +kernel
theorem dX5_dueTo_49 : decode cX5_dueTo 49 = .ok (.invokestatic 283, 3) := by decide +kernel
theorem dX5_dueTo_52 : decode cX5_dueTo 52 = .ok (.ireturn, 1) := by decide +kernel
theorem dX5_dueTo_53 : decode cX5_dueTo 53 = .ok (.iload 4, 2) := by decide +kernel
theorem dX5_dueTo_55 : decode cX5_dueTo 55 = .ok (.iconst (-1), 1) := by decide +kernel
theorem dX5_dueTo_56 : decode cX5_dueTo 56 = .ok (.if_icmp .ne 12, 3) := by decide +kernel
theorem dX5_dueTo_59 : decode cX5_dueTo 59 = .ok (.iload_n 2, 1) := by decide +kernel
theorem dX5_dueTo_60 : decode cX5_dueTo 60 = .ok (.iconst 0, 1) := by decide +kernel
theorem dX5_dueTo_61 : decode cX5_dueTo 61 = .ok (.iconst 2, 1) := by decide +kernel
theorem dX5_dueTo_62 : decode cX5_dueTo 62 = .ok (.invokestatic 283, 3) := by decide +kernel
theorem dX5_dueTo_65 : decode cX5_dueTo 65 = .ok (.goto 10, 3) := by decide +kernel
theorem dX5_dueTo_68 : decode cX5_dueTo 68 = .ok (.iload_n 2, 1) := by decide +kernel
theorem dX5_dueTo_69 : decode cX5_dueTo 69 = .ok (.iload 4, 2) := by decide +kernel
theorem dX5_dueTo_71 : decode cX5_dueTo 71 = .ok (.iconst 3, 1) := by decide +kernel
theorem dX5_dueTo_72 : decode cX5_dueTo 72 = .ok (.invokestatic 283, 3) := by decide +kernel
theorem dX5_dueTo_75 : decode cX5_dueTo 75 = .ok (.ireturn, 1) := by decide +kernel
set_option maxRecDepth 20000 in
theorem ggX5_isOfKind_X2_isLiving : GoodIn wsX5_isOfKind wsX2_isLiving := goodIn_r _ [5, 6, 44, 45, 46, 47, 48, 49, 50, 51, 52, 53, 54, 55, 56] (by decide +kernel) (by decide +kernel)
set_option maxRecDepth 20000 in
theorem gX5_isOfKind_X2_isLiving_n287 : GoodIn wsX5_isOfKind (wsX2_isLiving) := ggX5_isOfKind_X2_isLiving
set_option maxRecDepth 20000 in
theorem ggX5_isOfKind_X2_ageOf : GoodIn wsX5_isOfKind wsX2_ageOf := goodIn_r _ [9, 10, 11, 12, 2, 4, 3, 5, 6, 13, 14, 15, 16, 17, 18, 19, 44, 45, 46, 47, 48, 49, 50, 51, 52, 53, 54, 55, 56] (by decide +kernel) (by decide +kernel)
set_option maxRecDepth 20000 in
theorem gX5_isOfKind_X2_ageOf_n290 : GoodIn wsX5_isOfKind (wsX2_ageOf) := ggX5_isOfKind_X2_ageOf
set_option maxRecDepth 20000 in
theorem ggX5_isOfKind_X2_dwellingOf : GoodIn wsX5_isOfKind wsX2_dwellingOf := goodIn_r _ [22, 23, 13, 14, 15, 44, 45, 46, 47, 48, 49, 50, 51, 52, 53, 54, 55, 56] (by decide +kernel) (by decide +kernel)
set_option maxRecDepth 20000 in
theorem gX5_isOfKind_X2_dwellingOf_n242 : GoodIn wsX5_isOfKind (wsX2_dwellingOf) := ggX5_isOfKind_X2_dwellingOf
set_option maxRecDepth 20000 in
theorem ggX5_isOfKind_X5_officeOf : GoodIn wsX5_isOfKind wsX5_officeOf := goodIn_r _ [26, 27, 17, 18, 19] (by decide +kernel) (by decide +kernel)
set_option maxRecDepth 20000 in
theorem gX5_isOfKind_X5_officeOf : GoodIn wsX5_isOfKind (va_wsS RX5 294 yX5_officeOf wsX5_officeOf) := goodIn_app (goodIn_of _ (by decide +kernel)) ggX5_isOfKind_X5_officeOf
theorem dX5_isOfKind_0 : decode cX5_isOfKind 0 = .ok (.aload_n 0, 1) := by decide +kernel
theorem dX5_isOfKind_1 : decode cX5_isOfKind 1 = .ok (.getfield 19, 3) := by decide +kernel
theorem dX5_isOfKind_4 : decode cX5_isOfKind 4 = .ok (.iload_n 2, 1) := by decide +kernel
theorem dX5_isOfKind_5 : decode cX5_isOfKind 5 = .ok (.invokevirtual 287, 3) := by decide +kernel
theorem dX5_isOfKind_8 : decode cX5_isOfKind 8 = .ok (.ifCond .ne 5, 3) := by decide +kernel
theorem dX5_isOfKind_11 : decode cX5_isOfKind 11 = .ok (.iconst 0, 1) := by decide +kernel
theorem dX5_isOfKind_12 : decode cX5_isOfKind 12 = .ok (.ireturn, 1) := by decide +kernel
theorem dX5_isOfKind_13 : decode cX5_isOfKind 13 = .ok (.aload_n 0, 1) := by decide +kernel
theorem dX5_isOfKind_14 : decode cX5_isOfKind 14 = .ok (.getfield 19, 3) := by decide +kernel
theorem dX5_isOfKind_17 : decode cX5_isOfKind 17 = .ok (.iload_n 2, 1) := by decide +kernel
theorem dX5_isOfKind_18 : decode cX5_isOfKind 18 = .ok (.invokevirtual 290, 3) := by decide +kernel
theorem dX5_isOfKind_21 : decode cX5_isOfKind 21 = .ok (.istore_n 3, 1) := by decide +kernel
theorem dX5_isOfKind_22 : decode cX5_isOfKind 22 = .ok (.aload_n 1, 1) := by decide +kernel
theorem dX5_isOfKind_23 : decode cX5_isOfKind 23 = .ok (.getfield 293, 3) := by decide +kernel
theorem dX5_isOfKind_26 : decode cX5_isOfKind 26 = .ok (.tableswitch 80 1 3 #[26, 38, 56], 26) := by decide +kernel
theorem dX5_isOfKind_52 : decode cX5_isOfKind 52 = .ok (.iload_n 3, 1) := by decide +kernel
theorem dX5_isOfKind_53 : decode cX5_isOfKind 53 = .ok (.bipush 18, 2) := by decide +kernel
theorem dX5_isOfKind_55 : decode cX5_isOfKind 55 = .ok (.if_icmp .lt 7, 3) := by decide +kernel
theorem dX5_isOfKind_58 : decode cX5_isOfKind 58 = .ok (.iconst 1, 1) := by decide +kernel
theorem dX5_isOfKind_59 : decode cX5_isOfKind 59 = .ok (.goto 4, 3) := by decide +kernel
theorem dX5_isOfKind_62 : decode cX5_isOfKind 62 = .ok (.iconst 0, 1) := by decide +kernel
theorem dX5_isOfKind_63 : decode cX5_isOfKind 63 = .ok (.ireturn, 1) := by decide +kernel
theorem dX5_isOfKind_64 : decode cX5_isOfKind 64 = .ok (.iload_n 3, 1) := by decide +kernel
theorem dX5_isOfKind_65 : decode cX5_isOfKind 65 = .ok (.bipush 6, 2) := by decide +kernel
theorem dX5_isOfKind_67 : decode cX5_isOfKind 67 = .ok (.if_icmp .lt 13, 3) := by decide +kernel
theorem dX5_isOfKind_70 : decode cX5_isOfKind 70 = .ok (.iload_n 3, 1) := by decide +kernel
theorem dX5_isOfKind_71 : decode cX5_isOfKind 71 = .ok (.bipush 15, 2) := by decide +kernel
theorem dX5_isOfKind_73 : decode cX5_isOfKind 73 = .ok (.if_icmp .gt 7, 3) := by decide +kernel
theorem dX5_isOfKind_76 : decode cX5_isOfKind 76 = .ok (.iconst 1, 1) := by decide +kernel
theorem dX5_isOfKind_77 : decode cX5_isOfKind 77 = .ok (.goto 4, 3) := by decide +kernel
theorem dX5_isOfKind_80 : decode cX5_isOfKind 80 = .ok (.iconst 0, 1) := by decide +kernel
theorem dX5_isOfKind_81 : decode cX5_isOfKind 81 = .ok (.ireturn, 1) := by decide +kernel
theorem dX5_isOfKind_82 : decode cX5_isOfKind 82 = .ok (.aload_n 0, 1) := by decide +kernel
theorem dX5_isOfKind_83 : decode cX5_isOfKind 83 = .ok (.getfield 19, 3) := by decide +kernel
theorem dX5_isOfKind_86 : decode cX5_isOfKind 86 = .ok (.iload_n 2, 1) := by decide +kernel
theorem dX5_isOfKind_87 : decode cX5_isOfKind 87 = .ok (.invokevirtual 242, 3) := by decide +kernel
theorem dX5_isOfKind_90 : decode cX5_isOfKind 90 = .ok (.invokestatic 294, 3) := by decide +kernel
theorem dX5_isOfKind_93 : decode cX5_isOfKind 93 = .ok (.aload_n 1, 1) := by decide +kernel
theorem dX5_isOfKind_94 : decode cX5_isOfKind 94 = .ok (.getfield 297, 3) := by decide +kernel
theorem dX5_isOfKind_97 : decode cX5_isOfKind 97 = .ok (.if_icmp .ne 7, 3) := by decide +kernel
theorem dX5_isOfKind_100 : decode cX5_isOfKind 100 = .ok (.iconst 1, 1) := by decide +kernel
theorem dX5_isOfKind_101 : decode cX5_isOfKind 101 = .ok (.goto 4, 3) := by decide +kernel
theorem dX5_isOfKind_104 : decode cX5_isOfKind 104 = .ok (.iconst 0, 1) := by decide +kernel
theorem dX5_isOfKind_105 : decode cX5_isOfKind 105 = .ok (.ireturn, 1) := by decide +kernel
theorem dX5_isOfKind_106 : decode cX5_isOfKind 106 = .ok (.iconst 1, 1) := by decide +kernel
theorem dX5_isOfKind_107 : decode cX5_isOfKind 107 = .ok (.ireturn, 1) := by decide +kernel
set_option maxRecDepth 20000 in
theorem ggX5_officeOf_J9_floorDiv_7cf53 : GoodIn wsX5_officeOf wsJ9_floorDiv_7cf53 := goodIn_r _ [4] (by decide +kernel) (by decide +kernel)
set_option maxRecDepth 20000 in
theorem gX5_officeOf_J9_floorDiv_7cf53 : GoodIn wsX5_officeOf (va_wsS RX5 300 yJ9_floorDiv_7cf53 wsJ9_floorDiv_7cf53) := goodIn_app (goodIn_of _ (by decide +kernel)) ggX5_officeOf_J9_floorDiv_7cf53
theorem dX5_officeOf_0 : decode cX5_officeOf 0 = .ok (.iload_n 0, 1) := by decide +kernel
theorem dX5_officeOf_1 : decode cX5_officeOf 1 = .ok (.iconst 4, 1) := by decide +kernel
theorem dX5_officeOf_2 : decode cX5_officeOf 2 = .ok (.invokestatic 300, 3) := by decide +kernel
theorem dX5_officeOf_5 : decode cX5_officeOf 5 = .ok (.ireturn, 1) := by decide +kernel
