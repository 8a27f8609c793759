theorem dX0_init_0 : decode cX0_init 0 = .ok (.aload_n 0, 1) := by decide +kernel
theorem dX0_init_1 : decode cX0_init 1 = .ok (.invokespecial 3, 3) := by decide +kernel
theorem dX0_init_4 : decode cX0_init 4 = .ok (.aload_n 0, 1) := by decide +kernel
theorem dX0_init_5 : decode cX0_init 5 = .ok (.iconst (-1), 1) := by decide +kernel
theorem dX0_init_6 : decode cX0_init 6 = .ok (.putfield 9, 3) := by decide +kernel
theorem dX0_init_9 : decode cX0_init 9 = .ok (.aload_n 0, 1) := by decide +kernel
theorem dX0_init_10 : decode cX0_init 10 = .ok (.iconst (-1), 1) := by decide +kernel
theorem dX0_init_11 : decode cX0_init 11 = .ok (.putfield 15, 3) := by decide +kernel
theorem dX0_init_14 : decode cX0_init 14 = .ok (.aload_n 0, 1) := by decide +kernel
theorem dX0_init_15 : decode cX0_init 15 = .ok (.iconst (-1), 1) := by decide +kernel
theorem dX0_init_16 : decode cX0_init 16 = .ok (.putfield 18, 3) := by decide +kernel
theorem dX0_init_19 : decode cX0_init 19 = .ok (.aload_n 0, 1) := by decide +kernel
theorem dX0_init_20 : decode cX0_init 20 = .ok (.iload_n 1, 1) := by decide +kernel
theorem dX0_init_21 : decode cX0_init 21 = .ok (.putfield 21, 3) := by decide +kernel
theorem dX0_init_24 : decode cX0_init 24 = .ok (.aload_n 0, 1) := by decide +kernel
theorem dX0_init_25 : decode cX0_init 25 = .ok (.iload_n 2, 1) := by decide +kernel
theorem dX0_init_26 : decode cX0_init 26 = .ok (.putfield 24, 3) := by decide +kernel
theorem dX0_init_29 : decode cX0_init 29 = .ok (.aload_n 0, 1) := by decide +kernel
theorem dX0_init_30 : decode cX0_init 30 = .ok (.iload_n 3, 1) := by decide +kernel
theorem dX0_init_31 : decode cX0_init 31 = .ok (.putfield 27, 3) := by decide +kernel
theorem dX0_init_34 : decode cX0_init 34 = .ok (.aload_n 0, 1) := by decide +kernel
theorem dX0_init_35 : decode cX0_init 35 = .ok (.iload 4, 2) := by decide +kernel
theorem dX0_init_37 : decode cX0_init 37 = .ok (.putfield 30, 3) := by decide +kernel
theorem dX0_init_40 : decode cX0_init 40 = .ok (.aload_n 0, 1) := by decide +kernel
theorem dX0_init_41 : decode cX0_init 41 = .ok (.iload 5, 2) := by decide +kernel
theorem dX0_init_43 : decode cX0_init 43 = .ok (.putfield 33, 3) := by decide +kernel
theorem dX0_init_46 : decode cX0_init 46 = .ok (.return_, 1) := by decide +kernel
theorem dX0_isKnownOn_0 : decode cX0_isKnownOn 0 = .ok (.aload_n 0, 1) := by decide +kernel
theorem dX0_isKnownOn_1 : decode cX0_isKnownOn 1 = .ok (.getfield 24, 3) := by decide +kernel
theorem dX0_isKnownOn_4 : decode cX0_isKnownOn 4 = .ok (.iload_n 1, 1) := by decide +kernel
theorem dX0_isKnownOn_5 : decode cX0_isKnownOn 5 = .ok (.if_icmp .gt 25, 3) := by decide +kernel
theorem dX0_isKnownOn_8 : decode cX0_isKnownOn 8 = .ok (.aload_n 0, 1) := by decide +kernel
theorem dX0_isKnownOn_9 : decode cX0_isKnownOn 9 = .ok (.getfield 36, 3) := by decide +kernel
theorem dX0_isKnownOn_12 : decode cX0_isKnownOn 12 = .ok (.ifnull 14, 3) := by decide +kernel
theorem dX0_isKnownOn_15 : decode cX0_isKnownOn 15 = .ok (.aload_n 0, 1) := by decide +kernel
theorem dX0_isKnownOn_16 : decode cX0_isKnownOn 16 = .ok (.getfield 36, 3) := by decide +kernel
theorem dX0_isKnownOn_19 : decode cX0_isKnownOn 19 = .ok (.getfield 24, 3) := by decide +kernel
theorem dX0_isKnownOn_22 : decode cX0_isKnownOn 22 = .ok (.iload_n 1, 1) := by decide +kernel
theorem dX0_isKnownOn_23 : decode cX0_isKnownOn 23 = .ok (.if_icmp .le 7, 3) := by decide +kernel
theorem dX0_isKnownOn_26 : decode cX0_isKnownOn 26 = .ok (.iconst 1, 1) := by decide +kernel
theorem dX0_isKnownOn_27 : decode cX0_isKnownOn 27 = .ok (.goto 4, 3) := by decide +kernel
theorem dX0_isKnownOn_30 : decode cX0_isKnownOn 30 = .ok (.iconst 0, 1) := by decide +kernel
theorem dX0_isKnownOn_31 : decode cX0_isKnownOn 31 = .ok (.ireturn, 1) := by decide +kernel
theorem dX1_init_0 : decode cX1_init 0 = .ok (.aload_n 0, 1) := by decide +kernel
theorem dX1_init_1 : decode cX1_init 1 = .ok (.invokespecial 3, 3) := by decide +kernel
theorem dX1_init_4 : decode cX1_init 4 = .ok (.aload_n 0, 1) := by decide +kernel
theorem dX1_init_5 : decode cX1_init 5 = .ok (.sipush 150, 3) := by decide +kernel
theorem dX1_init_8 : decode cX1_init 8 = .ok (.anewarray 9, 3) := by decide +kernel
theorem dX1_init_11 : decode cX1_init 11 = .ok (.putfield 11, 3) := by decide +kernel
theorem dX1_init_14 : decode cX1_init 14 = .ok (.return_, 1) := by decide +kernel
theorem dX1_find_0 : decode cX1_find 0 = .ok (.iload_n 1, 1) := by decide +kernel
theorem dX1_find_1 : decode cX1_find 1 = .ok (.ifCond .lt 21, 3) := by decide +kernel
theorem dX1_find_4 : decode cX1_find 4 = .ok (.iload_n 1, 1) := by decide +kernel
theorem dX1_find_5 : decode cX1_find 5 = .ok (.aload_n 0, 1) := by decide +kernel
theorem dX1_find_6 : decode cX1_find 6 = .ok (.getfield 11, 3) := by decide +kernel
theorem dX1_find_9 : decode cX1_find 9 = .ok (.arraylength, 1) := by decide +kernel
theorem dX1_find_10 : decode cX1_find 10 = .ok (.if_icmp .ge 12, 3) := by decide +kernel
theorem dX1_find_13 : decode cX1_find 13 = .ok (.aload_n 0, 1) := by decide +kernel
theorem dX1_find_14 : decode cX1_find 14 = .ok (.getfield 11, 3) := by decide +kernel
theorem dX1_find_17 : decode cX1_find 17 = .ok (.iload_n 1, 1) := by decide +kernel
theorem dX1_find_18 : decode cX1_find 18 = .ok (.aaload, 1) := by decide +kernel
theorem dX1_find_19 : decode cX1_find 19 = .ok (.goto 4, 3) := by decide +kernel
theorem dX1_find_22 : decode cX1_find 22 = .ok (.aconst_null, 1) := by decide +kernel
theorem dX1_find_23 : decode cX1_find 23 = .ok (.areturn, 1) := by decide +kernel
set_option maxRecDepth 20000 in
theorem ggX1_add_X1_chain : GoodIn wsX1_add wsX1_chain := goodIn_r _ [7, 8, 9, 10, 11, 12, 13, 14, 15, 16, 17, 18, 19, 20, 21] (by decide +kernel) (by decide +kernel)
set_option maxRecDepth 20000 in
theorem gX1_add_X1_chain : GoodIn wsX1_add (wsV RX1 27 RX1 yX1_chain wsX1_chain) := goodIn_app (goodIn_of _ (by decide +kernel)) ggX1_add_X1_chain
theorem dX1_add_0 : decode cX1_add 0 = .ok (.aload_n 0, 1) := by decide +kernel
theorem dX1_add_1 : decode cX1_add 1 = .ok (.getfield 17, 3) := by decide +kernel
theorem dX1_add_4 : decode cX1_add 4 = .ok (.ifCond .lt 15, 3) := by decide +kernel
theorem dX1_add_7 : decode cX1_add 7 = .ok (.aload_n 0, 1) := by decide +kernel
theorem dX1_add_8 : decode cX1_add 8 = .ok (.getfield 17, 3) := by decide +kernel
theorem dX1_add_11 : decode cX1_add 11 = .ok (.aload_n 0, 1) := by decide +kernel
theorem dX1_add_12 : decode cX1_add 12 = .ok (.getfield 11, 3) := by decide +kernel
theorem dX1_add_15 : decode cX1_add 15 = .ok (.arraylength, 1) := by decide +kernel
theorem dX1_add_16 : decode cX1_add 16 = .ok (.if_icmp .lt 4, 3) := by decide +kernel
theorem dX1_add_19 : decode cX1_add 19 = .ok (.return_, 1) := by decide +kernel
theorem dX1_add_20 : decode cX1_add 20 = .ok (.aload_n 0, 1) := by decide +kernel
theorem dX1_add_21 : decode cX1_add 21 = .ok (.getfield 11, 3) := by decide +kernel
theorem dX1_add_24 : decode cX1_add 24 = .ok (.aload_n 0, 1) := by decide +kernel
theorem dX1_add_25 : decode cX1_add 25 = .ok (.getfield 17, 3) := by decide +kernel
theorem dX1_add_28 : decode cX1_add 28 = .ok (.aload_n 1, 1) := by decide +kernel
theorem dX1_add_29 : decode cX1_add 29 = .ok (.aastore, 1) := by decide +kernel
theorem dX1_add_30 : decode cX1_add 30 = .ok (.aload_n 1, 1) := by decide +kernel
theorem dX1_add_31 : decode cX1_add 31 = .ok (.aload_n 0, 1) := by decide +kernel
theorem dX1_add_32 : decode cX1_add 32 = .ok (.getfield 17, 3) := by decide +kernel
theorem dX1_add_35 : decode cX1_add 35 = .ok (.putfield 21, 3) := by decide +kernel
theorem dX1_add_38 : decode cX1_add 38 = .ok (.aload_n 0, 1) := by decide +kernel
theorem dX1_add_39 : decode cX1_add 39 = .ok (.dup, 1) := by decide +kernel
theorem dX1_add_40 : decode cX1_add 40 = .ok (.getfield 17, 3) := by decide +kernel
theorem dX1_add_43 : decode cX1_add 43 = .ok (.iconst 1, 1) := by decide +kernel
theorem dX1_add_44 : decode cX1_add 44 = .ok (.iadd, 1) := by decide +kernel
theorem dX1_add_45 : decode cX1_add 45 = .ok (.putfield 17, 3) := by decide +kernel
theorem dX1_add_48 : decode cX1_add 48 = .ok (.aload_n 1, 1) := by decide +kernel
theorem dX1_add_49 : decode cX1_add 49 = .ok (.getfield 24, 3) := by decide +kernel
theorem dX1_add_52 : decode cX1_add 52 = .ok (.iconst (-1), 1) := by decide +kernel
theorem dX1_add_53 : decode cX1_add 53 = .ok (.if_icmp .eq 8, 3) := by decide +kernel
theorem dX1_add_56 : decode cX1_add 56 = .ok (.aload_n 0, 1) := by decide +kernel
theorem dX1_add_57 : decode cX1_add 57 = .ok (.aload_n 1, 1) := by decide +kernel
theorem dX1_add_58 : decode cX1_add 58 = .ok (.invokevirtual 27, 3) := by decide +kernel
theorem dX1_add_61 : decode cX1_add 61 = .ok (.return_, 1) := by decide +kernel
theorem dX1_chain_0 : decode cX1_chain 0 = .ok (.aconst_null, 1) := by decide +kernel
theorem dX1_chain_1 : decode cX1_chain 1 = .ok (.astore_n 2, 1) := by decide +kernel
theorem dX1_chain_2 : decode cX1_chain 2 = .ok (.aload_n 0, 1) := by decide +kernel
theorem dX1_chain_3 : decode cX1_chain 3 = .ok (.getfield 31, 3) := by decide +kernel
theorem dX1_chain_6 : decode cX1_chain 6 = .ok (.astore_n 3, 1) := by decide +kernel
theorem dX1_chain_7 : decode cX1_chain 7 = .ok (.aload_n 3, 1) := by decide +kernel
theorem dX1_chain_8 : decode cX1_chain 8 = .ok (.ifnull 24, 3) := by decide +kernel
theorem dX1_chain_11 : decode cX1_chain 11 = .ok (.aload_n 3, 1) := by decide +kernel
theorem dX1_chain_12 : decode cX1_chain 12 = .ok (.getfield 24, 3) := by decide +kernel
theorem dX1_chain_15 : decode cX1_chain 15 = .ok (.aload_n 1, 1) := by decide +kernel
theorem dX1_chain_16 : decode cX1_chain 16 = .ok (.getfield 24, 3) := by decide +kernel
theorem dX1_chain_19 : decode cX1_chain 19 = .ok (.if_icmp .gt 13, 3) := by decide +kernel
theorem dX1_chain_22 : decode cX1_chain 22 = .ok (.aload_n 3, 1) := by decide +kernel
theorem dX1_chain_23 : decode cX1_chain 23 = .ok (.astore_n 2, 1) := by decide +kernel
theorem dX1_chain_24 : decode cX1_chain 24 = .ok (.aload_n 3, 1) := by decide +kernel
theorem dX1_chain_25 : decode cX1_chain 25 = .ok (.getfield 35, 3) := by decide +kernel
theorem dX1_chain_28 : decode cX1_chain 28 = .ok (.astore_n 3, 1) := by decide +kernel
theorem dX1_chain_29 : decode cX1_chain 29 = .ok (.goto (-22), 3) := by decide +kernel
theorem dX1_chain_32 : decode cX1_chain 32 = .ok (.aload_n 2, 1) := by decide +kernel
theorem dX1_chain_33 : decode cX1_chain 33 = .ok (.ifnonnull 19, 3) := by decide +kernel
theorem dX1_chain_36 : decode cX1_chain 36 = .ok (.aload_n 1, 1) := by decide +kernel
theorem dX1_chain_37 : decode cX1_chain 37 = .ok (.aload_n 0, 1) := by decide +kernel
theorem dX1_chain_38 : decode cX1_chain 38 = .ok (.getfield 31, 3) := by decide +kernel
theorem dX1_chain_41 : decode cX1_chain 41 = .ok (.putfield 35, 3) := by decide +kernel
theorem dX1_chain_44 : decode cX1_chain 44 = .ok (.aload_n 0, 1) := by decide +kernel
theorem dX1_chain_45 : decode cX1_chain 45 = .ok (.aload_n 1, 1) := by decide +kernel
theorem dX1_chain_46 : decode cX1_chain 46 = .ok (.putfield 31, 3) := by decide +kernel
theorem dX1_chain_49 : decode cX1_chain 49 = .ok (.goto 16, 3) := by decide +kernel
theorem dX1_chain_52 : decode cX1_chain 52 = .ok (.aload_n 1, 1) := by decide +kernel
theorem dX1_chain_53 : decode cX1_chain 53 = .ok (.aload_n 2, 1) := by decide +kernel
theorem dX1_chain_54 : decode cX1_chain 54 = .ok (.getfield 35, 3) := by decide +kernel
theorem dX1_chain_57 : decode cX1_chain 57 = .ok (.putfield 35, 3) := by decide +kernel
theorem dX1_chain_60 : decode cX1_chain 60 = .ok (.aload_n 2, 1) := by decide +kernel
theorem dX1_chain_61 : decode cX1_chain 61 = .ok (.aload_n 1, 1) := by decide +kernel
theorem dX1_chain_62 : decode cX1_chain 62 = .ok (.putfield 35, 3) := by decide +kernel
theorem dX1_chain_65 : decode cX1_chain 65 = .ok (.return_, 1) := by decide +kernel
theorem dX2_init_0 : decode cX2_init 0 = .ok (.aload_n 0, 1) := by decide +kernel
theorem dX2_init_1 : decode cX2_init 1 = .ok (.invokespecial 3, 3) := by decide +kernel
theorem dX2_init_4 : decode cX2_init 4 = .ok (.aload_n 0, 1) := by decide +kernel
theorem dX2_init_5 : decode cX2_init 5 = .ok (.bipush 24, 2) := by decide +kernel
theorem dX2_init_7 : decode cX2_init 7 = .ok (.newarray .int, 2) := by decide +kernel
theorem dX2_init_9 : decode cX2_init 9 = .ok (.putfield 9, 3) := by decide +kernel
theorem dX2_init_12 : decode cX2_init 12 = .ok (.aload_n 0, 1) := by decide +kernel
theorem dX2_init_13 : decode cX2_init 13 = .ok (.bipush 24, 2) := by decide +kernel
theorem dX2_init_15 : decode cX2_init 15 = .ok (.newarray .int, 2) := by decide +kernel
theorem dX2_init_17 : decode cX2_init 17 = .ok (.putfield 15, 3) := by decide +kernel
theorem dX2_init_20 : decode cX2_init 20 = .ok (.aload_n 0, 1) := by decide +kernel
theorem dX2_init_21 : decode cX2_init 21 = .ok (.bipush 24, 2) := by decide +kernel
theorem dX2_init_23 : decode cX2_init 23 = .ok (.newarray .int, 2) := by decide +kernel
theorem dX2_init_25 : decode cX2_init 25 = .ok (.putfield 18, 3) := by decide +kernel
theorem dX2_init_28 : decode cX2_init 28 = .ok (.aload_n 0, 1) := by decide +kernel
theorem dX2_init_29 : decode cX2_init 29 = .ok (.bipush 24, 2) := by decide +kernel
theorem dX2_init_31 : decode cX2_init 31 = .ok (.newarray .int, 2) := by decide +kernel
theorem dX2_init_33 : decode cX2_init 33 = .ok (.putfield 21, 3) := by decide +kernel
theorem dX2_init_36 : decode cX2_init 36 = .ok (.aload_n 0, 1) := by decide +kernel
theorem dX2_init_37 : decode cX2_init 37 = .ok (.bipush 24, 2) := by decide +kernel
theorem dX2_init_39 : decode cX2_init 39 = .ok (.newarray .int, 2) := by decide +kernel
theorem dX2_init_41 : decode cX2_init 41 = .ok (.putfield 24, 3) := by decide +kernel
theorem dX2_init_44 : decode cX2_init 44 = .ok (.aload_n 0, 1) := by decide +kernel
theorem dX2_init_45 : decode cX2_init 45 = .ok (.bipush 24, 2) := by decide +kernel
theorem dX2_init_47 : decode cX2_init 47 = .ok (.newarray .int, 2) := by decide +kernel
theorem dX2_init_49 : decode cX2_init 49 = .ok (.putfield 27, 3) := by decide +kernel
theorem dX2_init_52 : decode cX2_init 52 = .ok (.aload_n 0, 1) := by decide +kernel
theorem dX2_init_53 : decode cX2_init 53 = .ok (.bipush 24, 2) := by decide +kernel
theorem dX2_init_55 : decode cX2_init 55 = .ok (.newarray .int, 2) := by decide +kernel
theorem dX2_init_57 : decode cX2_init 57 = .ok (.putfield 30, 3) := by decide +kernel
theorem dX2_init_60 : decode cX2_init 60 = .ok (.aload_n 0, 1) := by decide +kernel
theorem dX2_init_61 : decode cX2_init 61 = .ok (.bipush 24, 2) := by decide +kernel
theorem dX2_init_63 : decode cX2_init 63 = .ok (.newarray .int, 2) := by decide +kernel
theorem dX2_init_65 : decode cX2_init 65 = .ok (.putfield 33, 3) := by decide +kernel
theorem dX2_init_68 : decode cX2_init 68 = .ok (.aload_n 0, 1) := by decide +kernel
theorem dX2_init_69 : decode cX2_init 69 = .ok (.bipush 24, 2) := by decide +kernel
theorem dX2_init_71 : decode cX2_init 71 = .ok (.newarray .boolean, 2) := by decide +kernel
theorem dX2_init_73 : decode cX2_init 73 = .ok (.putfield 36, 3) := by decide +kernel
theorem dX2_init_76 : decode cX2_init 76 = .ok (.aload_n 0, 1) := by decide +kernel
theorem dX2_init_77 : decode cX2_init 77 = .ok (.bipush 24, 2) := by decide +kernel
theorem dX2_init_79 : decode cX2_init 79 = .ok (.newarray .int, 2) := by decide +kernel
theorem dX2_init_81 : decode cX2_init 81 = .ok (.putfield 40, 3) := by decide +kernel
theorem dX2_init_84 : decode cX2_init 84 = .ok (.return_, 1) := by decide +kernel
set_option maxRecDepth 20000 in
theorem ggX2_find_X2_begin : GoodIn wsX2_find wsX2_begin := goodIn_r _ [5, 6, 7, 8, 9, 10, 11, 4, 12, 13, 14, 15, 16, 17, 18, 19, 20, 21, 22, 23, 24, 25, 26, 27, 28, 29, 30, 31, 32, 33, 34, 35, 36, 37, 38, 39, 40, 41, 42, 43, 44, 45, 84, 85, 86, 87, 88, 89, 90, 91, 92, 93, 94, 95, 96, 97, 98, 99, 100, 101, 102, 103, 104, 105, 106, 107, 108, 109] (by decide +kernel) (by decide +kernel)
set_option maxRecDepth 20000 in
theorem gX2_find_X2_begin : GoodIn wsX2_find (wsV RX2 43 RX2 yX2_begin wsX2_begin) := goodIn_app (goodIn_of _ (by decide +kernel)) ggX2_find_X2_begin
set_option maxRecDepth 20000 in
theorem ggX2_find_X2_goOn : GoodIn wsX2_find wsX2_goOn := goodIn_r _ [49, 7, 8, 6, 35, 36, 37, 38, 39, 40, 50, 51, 52, 4, 53, 13, 16, 17, 44, 42, 45, 54, 55, 56, 57, 15, 19, 20, 21, 58, 59, 60, 61, 41, 43, 62, 63, 64, 65, 18, 66, 67, 68, 69, 70, 71, 72, 73, 74, 75, 76, 77, 78, 79, 80, 81, 14, 82, 83, 84, 85, 86, 87, 88, 89, 90, 91, 92, 93, 94, 95, 96, 100, 101, 102, 103, 104, 105, 106, 107, 108, 109] (by decide +kernel) (by decide +kernel)
set_option maxRecDepth 20000 in
theorem gX2_find_X2_goOn : GoodIn wsX2_find (wsV RX2 47 RX2 yX2_goOn wsX2_goOn) := goodIn_app (goodIn_of _ (by decide +kernel)) ggX2_find_X2_goOn
theorem dX2_find_0 : decode cX2_find 0 = .ok (.aload_n 0, 1) := by decide +kernel
theorem dX2_find_1 : decode cX2_find 1 = .ok (.aload_n 1, 1) := by decide +kernel
theorem dX2_find_2 : decode cX2_find 2 = .ok (.iload_n 3, 1) := by decide +kernel
theorem dX2_find_3 : decode cX2_find 3 = .ok (.invokevirtual 43, 3) := by decide +kernel
theorem dX2_find_6 : decode cX2_find 6 = .ok (.aload_n 0, 1) := by decide +kernel
theorem dX2_find_7 : decode cX2_find 7 = .ok (.iload_n 2, 1) := by decide +kernel
theorem dX2_find_8 : decode cX2_find 8 = .ok (.invokevirtual 47, 3) := by decide +kernel
theorem dX2_find_11 : decode cX2_find 11 = .ok (.return_, 1) := by decide +kernel
set_option maxRecDepth 20000 in
theorem ggX2_begin_X2_forget : GoodIn wsX2_begin wsX2_forget := goodIn_r _ [8, 9, 10, 11, 12, 13, 14, 15, 16, 17, 18, 19, 20, 21, 42, 43, 44, 45, 46, 47, 48, 49, 50, 51, 52, 53, 54] (by decide +kernel) (by decide +kernel)
set_option maxRecDepth 20000 in
theorem gX2_begin_X2_forget : GoodIn wsX2_begin (wsV RX2 67 RX2 yX2_forget wsX2_forget) := goodIn_app (goodIn_of _ (by decide +kernel)) ggX2_begin_X2_forget
set_option maxRecDepth 20000 in
theorem ggX2_begin_X2_joinDoubles : GoodIn wsX2_begin wsX2_joinDoubles := goodIn_r _ [25, 1, 9, 11, 26, 27, 28, 29, 30, 31, 32, 33, 34, 35, 36, 37, 38, 39, 40, 41, 55, 56, 57, 58, 59, 60, 61, 62, 63, 64, 65, 66, 67, 42, 43, 44, 45, 46, 47, 48, 49, 50, 51, 52, 53, 54] (by decide +kernel) (by decide +kernel)
set_option maxRecDepth 20000 in
theorem gX2_begin_X2_joinDoubles : GoodIn wsX2_begin (wsV RX2 70 RX2 yX2_joinDoubles wsX2_joinDoubles) := goodIn_app (goodIn_of _ (by decide +kernel)) ggX2_begin_X2_joinDoubles
theorem dX2_begin_0 : decode cX2_begin 0 = .ok (.aload_n 0, 1) := by decide +kernel
theorem dX2_begin_1 : decode cX2_begin 1 = .ok (.iload_n 2, 1) := by decide +kernel
theorem dX2_begin_2 : decode cX2_begin 2 = .ok (.putfield 51, 3) := by decide +kernel
theorem dX2_begin_5 : decode cX2_begin 5 = .ok (.aload_n 0, 1) := by decide +kernel
theorem dX2_begin_6 : decode cX2_begin 6 = .ok (.iconst 0, 1) := by decide +kernel
theorem dX2_begin_7 : decode cX2_begin 7 = .ok (.putfield 55, 3) := by decide +kernel
theorem dX2_begin_10 : decode cX2_begin 10 = .ok (.aload_n 0, 1) := by decide +kernel
theorem dX2_begin_11 : decode cX2_begin 11 = .ok (.aload_n 1, 1) := by decide +kernel
theorem dX2_begin_12 : decode cX2_begin 12 = .ok (.getfield 58, 3) := by decide +kernel
theorem dX2_begin_15 : decode cX2_begin 15 = .ok (.putfield 64, 3) := by decide +kernel
theorem dX2_begin_18 : decode cX2_begin 18 = .ok (.aload_n 0, 1) := by decide +kernel
theorem dX2_begin_19 : decode cX2_begin 19 = .ok (.invokevirtual 67, 3) := by decide +kernel
theorem dX2_begin_22 : decode cX2_begin 22 = .ok (.aload_n 0, 1) := by decide +kernel
theorem dX2_begin_23 : decode cX2_begin 23 = .ok (.aload_n 1, 1) := by decide +kernel
theorem dX2_begin_24 : decode cX2_begin 24 = .ok (.invokevirtual 70, 3) := by decide +kernel
theorem dX2_begin_27 : decode cX2_begin 27 = .ok (.return_, 1) := by decide +kernel
set_option maxRecDepth 20000 in
theorem ggX2_goOn_X0_isKnownOn : GoodIn wsX2_goOn wsX0_isKnownOn := goodIn_r _ [7, 8, 9, 72, 73, 74, 75, 76, 77, 78, 79, 80, 81] (by decide +kernel) (by decide +kernel)
set_option maxRecDepth 20000 in
theorem gX2_goOn_X0_isKnownOn_n79 : GoodIn wsX2_goOn (wsX0_isKnownOn) := ggX2_goOn_X0_isKnownOn
set_option maxRecDepth 20000 in
theorem ggX2_goOn_X2_happen : GoodIn wsX2_goOn wsX2_happen := goodIn_r _ [14, 15, 16, 17, 18, 19, 20, 21, 22, 23, 13, 24, 25, 26, 27, 28, 29, 30, 31, 32, 33, 34, 35, 36, 37, 38, 39, 40, 41, 42, 43, 44, 45, 46, 47, 48, 49, 50, 51, 52, 53, 54, 55, 56, 57, 58, 59, 60, 61, 62, 63, 64, 65, 66, 67, 68, 69, 70, 71, 72, 73, 74, 75, 76, 77, 78, 79, 80, 81] (by decide +kernel) (by decide +kernel)
set_option maxRecDepth 20000 in
theorem gX2_goOn_X2_happen : GoodIn wsX2_goOn (wsV RX2 83 RX2 yX2_happen wsX2_happen) := goodIn_app (goodIn_of _ (by decide +kernel)) ggX2_goOn_X2_happen
theorem dX2_goOn_0 : decode cX2_goOn 0 = .ok (.aload_n 0, 1) := by decide +kernel
theorem dX2_goOn_1 : decode cX2_goOn 1 = .ok (.iload_n 1, 1) := by decide +kernel
theorem dX2_goOn_2 : decode cX2_goOn 2 = .ok (.putfield 55, 3) := by decide +kernel
theorem dX2_goOn_5 : decode cX2_goOn 5 = .ok (.aload_n 0, 1) := by decide +kernel
theorem dX2_goOn_6 : decode cX2_goOn 6 = .ok (.getfield 64, 3) := by decide +kernel
theorem dX2_goOn_9 : decode cX2_goOn 9 = .ok (.astore_n 2, 1) := by decide +kernel
theorem dX2_goOn_10 : decode cX2_goOn 10 = .ok (.aload_n 2, 1) := by decide +kernel
theorem dX2_goOn_11 : decode cX2_goOn 11 = .ok (.ifnull 35, 3) := by decide +kernel
theorem dX2_goOn_14 : decode cX2_goOn 14 = .ok (.aload_n 2, 1) := by decide +kernel
theorem dX2_goOn_15 : decode cX2_goOn 15 = .ok (.getfield 74, 3) := by decide +kernel
theorem dX2_goOn_18 : decode cX2_goOn 18 = .ok (.iload_n 1, 1) := by decide +kernel
theorem dX2_goOn_19 : decode cX2_goOn 19 = .ok (.if_icmp .gt 27, 3) := by decide +kernel
theorem dX2_goOn_22 : decode cX2_goOn 22 = .ok (.aload_n 2, 1) := by decide +kernel
theorem dX2_goOn_23 : decode cX2_goOn 23 = .ok (.aload_n 0, 1) := by decide +kernel
theorem dX2_goOn_24 : decode cX2_goOn 24 = .ok (.getfield 51, 3) := by decide +kernel
theorem dX2_goOn_27 : decode cX2_goOn 27 = .ok (.invokevirtual 79, 3) := by decide +kernel
theorem dX2_goOn_30 : decode cX2_goOn 30 = .ok (.ifCond .eq 8, 3) := by decide +kernel
theorem dX2_goOn_33 : decode cX2_goOn 33 = .ok (.aload_n 0, 1) := by decide +kernel
theorem dX2_goOn_34 : decode cX2_goOn 34 = .ok (.aload_n 2, 1) := by decide +kernel
theorem dX2_goOn_35 : decode cX2_goOn 35 = .ok (.invokevirtual 83, 3) := by decide +kernel
theorem dX2_goOn_38 : decode cX2_goOn 38 = .ok (.aload_n 2, 1) := by decide +kernel
theorem dX2_goOn_39 : decode cX2_goOn 39 = .ok (.getfield 87, 3) := by decide +kernel
theorem dX2_goOn_42 : decode cX2_goOn 42 = .ok (.astore_n 2, 1) := by decide +kernel
theorem dX2_goOn_43 : decode cX2_goOn 43 = .ok (.goto (-33), 3) := by decide +kernel
theorem dX2_goOn_46 : decode cX2_goOn 46 = .ok (.aload_n 0, 1) := by decide +kernel
theorem dX2_goOn_47 : decode cX2_goOn 47 = .ok (.aload_n 2, 1) := by decide +kernel
theorem dX2_goOn_48 : decode cX2_goOn 48 = .ok (.putfield 64, 3) := by decide +kernel
theorem dX2_goOn_51 : decode cX2_goOn 51 = .ok (.return_, 1) := by decide +kernel
set_option maxRecDepth 20000 in
theorem ggX2_forget_J7_fill_53178 : GoodIn wsX2_forget wsJ7_fill_53178 := goodIn_r _ [13] (by decide +kernel) (by decide +kernel)
set_option maxRecDepth 20000 in
theorem gX2_forget_J7_fill_53178 : GoodIn wsX2_forget (va_wsS RX2 90 yJ7_fill_53178 wsJ7_fill_53178) := goodIn_app (goodIn_of _ (by decide +kernel)) ggX2_forget_J7_fill_53178
theorem dX2_forget_0 : decode cX2_forget 0 = .ok (.iconst 0, 1) := by decide +kernel
theorem dX2_forget_1 : decode cX2_forget 1 = .ok (.istore_n 1, 1) := by decide +kernel
theorem dX2_forget_2 : decode cX2_forget 2 = .ok (.iload_n 1, 1) := by decide +kernel
theorem dX2_forget_3 : decode cX2_forget 3 = .ok (.bipush 24, 2) := by decide +kernel
theorem dX2_forget_5 : decode cX2_forget 5 = .ok (.if_icmp .ge 23, 3) := by decide +kernel
theorem dX2_forget_8 : decode cX2_forget 8 = .ok (.aload_n 0, 1) := by decide +kernel
theorem dX2_forget_9 : decode cX2_forget 9 = .ok (.getfield 9, 3) := by decide +kernel
theorem dX2_forget_12 : decode cX2_forget 12 = .ok (.iload_n 1, 1) := by decide +kernel
theorem dX2_forget_13 : decode cX2_forget 13 = .ok (.iload_n 1, 1) := by decide +kernel
theorem dX2_forget_14 : decode cX2_forget 14 = .ok (.iastore, 1) := by decide +kernel
theorem dX2_forget_15 : decode cX2_forget 15 = .ok (.aload_n 0, 1) := by decide +kernel
theorem dX2_forget_16 : decode cX2_forget 16 = .ok (.getfield 36, 3) := by decide +kernel
theorem dX2_forget_19 : decode cX2_forget 19 = .ok (.iload_n 1, 1) := by decide +kernel
theorem dX2_forget_20 : decode cX2_forget 20 = .ok (.iconst 0, 1) := by decide +kernel
theorem dX2_forget_21 : decode cX2_forget 21 = .ok (.bastore, 1) := by decide +kernel
theorem dX2_forget_22 : decode cX2_forget 22 = .ok (.iinc 1 1, 3) := by decide +kernel
theorem dX2_forget_25 : decode cX2_forget 25 = .ok (.goto (-23), 3) := by decide +kernel
theorem dX2_forget_28 : decode cX2_forget 28 = .ok (.aload_n 0, 1) := by decide +kernel
theorem dX2_forget_29 : decode cX2_forget 29 = .ok (.getfield 15, 3) := by decide +kernel
theorem dX2_forget_32 : decode cX2_forget 32 = .ok (.iconst 0, 1) := by decide +kernel
theorem dX2_forget_33 : decode cX2_forget 33 = .ok (.invokestatic 90, 3) := by decide +kernel
theorem dX2_forget_36 : decode cX2_forget 36 = .ok (.aload_n 0, 1) := by decide +kernel
theorem dX2_forget_37 : decode cX2_forget 37 = .ok (.getfield 18, 3) := by decide +kernel
theorem dX2_forget_40 : decode cX2_forget 40 = .ok (.iconst (-1), 1) := by decide +kernel
theorem dX2_forget_41 : decode cX2_forget 41 = .ok (.invokestatic 90, 3) := by decide +kernel
theorem dX2_forget_44 : decode cX2_forget 44 = .ok (.aload_n 0, 1) := by decide +kernel
theorem dX2_forget_45 : decode cX2_forget 45 = .ok (.getfield 21, 3) := by decide +kernel
theorem dX2_forget_48 : decode cX2_forget 48 = .ok (.iconst (-1), 1) := by decide +kernel
theorem dX2_forget_49 : decode cX2_forget 49 = .ok (.invokestatic 90, 3) := by decide +kernel
theorem dX2_forget_52 : decode cX2_forget 52 = .ok (.aload_n 0, 1) := by decide +kernel
theorem dX2_forget_53 : decode cX2_forget 53 = .ok (.getfield 24, 3) := by decide +kernel
theorem dX2_forget_56 : decode cX2_forget 56 = .ok (.iconst (-1), 1) := by decide +kernel
theorem dX2_forget_57 : decode cX2_forget 57 = .ok (.invokestatic 90, 3) := by decide +kernel
theorem dX2_forget_60 : decode cX2_forget 60 = .ok (.aload_n 0, 1) := by decide +kernel
theorem dX2_forget_61 : decode cX2_forget 61 = .ok (.getfield 27, 3) := by decide +kernel
theorem dX2_forget_64 : decode cX2_forget 64 = .ok (.iconst (-1), 1) := by decide +kernel
theorem dX2_forget_65 : decode cX2_forget 65 = .ok (.invokestatic 90, 3) := by decide +kernel
theorem dX2_forget_68 : decode cX2_forget 68 = .ok (.aload_n 0, 1) := by decide +kernel
theorem dX2_forget_69 : decode cX2_forget 69 = .ok (.getfield 30, 3) := by decide +kernel
theorem dX2_forget_72 : decode cX2_forget 72 = .ok (.iconst (-1), 1) := by decide +kernel
theorem dX2_forget_73 : decode cX2_forget 73 = .ok (.invokestatic 90, 3) := by decide +kernel
theorem dX2_forget_76 : decode cX2_forget 76 = .ok (.aload_n 0, 1) := by decide +kernel
theorem dX2_forget_77 : decode cX2_forget 77 = .ok (.getfield 33, 3) := by decide +kernel
theorem dX2_forget_80 : decode cX2_forget 80 = .ok (.iconst (-1), 1) := by decide +kernel
theorem dX2_forget_81 : decode cX2_forget 81 = .ok (.invokestatic 90, 3) := by decide +kernel
theorem dX2_forget_84 : decode cX2_forget 84 = .ok (.return_, 1) := by decide +kernel
set_option maxRecDepth 20000 in
theorem ggX2_joinDoubles_X1_find : GoodIn wsX2_joinDoubles wsX1_find := goodIn_r _ [7, 8, 20, 21, 22] (by decide +kernel) (by decide +kernel)
set_option maxRecDepth 20000 in
theorem gX2_joinDoubles_X1_find_n99 : GoodIn wsX2_joinDoubles (wsX1_find) := ggX2_joinDoubles_X1_find
set_option maxRecDepth 20000 in
theorem ggX2_joinDoubles_X0_isKnownOn : GoodIn wsX2_joinDoubles wsX0_isKnownOn := goodIn_r _ [12, 13, 14, 23, 24, 25, 26, 27, 28, 29, 30, 31, 32] (by decide +kernel) (by decide +kernel)
set_option maxRecDepth 20000 in
theorem gX2_joinDoubles_X0_isKnownOn_n79 : GoodIn wsX2_joinDoubles (wsX0_isKnownOn) := ggX2_joinDoubles_X0_isKnownOn
set_option maxRecDepth 20000 in
theorem ggX2_joinDoubles_X5_put : GoodIn wsX2_joinDoubles wsX5_put := goodIn_r _ [17] (by decide +kernel) (by decide +kernel)
set_option maxRecDepth 20000 in
theorem gX2_joinDoubles_X5_put_n112 : GoodIn wsX2_joinDoubles (wsX5_put) := ggX2_joinDoubles_X5_put
set_option maxRecDepth 20000 in
theorem ggX2_joinDoubles_X5_at : GoodIn wsX2_joinDoubles wsX5_at := goodIn_r _ [19] (by decide +kernel) (by decide +kernel)
set_option maxRecDepth 20000 in
theorem gX2_joinDoubles_X5_at_n116 : GoodIn wsX2_joinDoubles (wsX5_at) := ggX2_joinDoubles_X5_at
theorem dX2_joinDoubles_0 : decode cX2_joinDoubles 0 = .ok (.iconst 0, 1) := by decide +kernel
theorem dX2_joinDoubles_1 : decode cX2_joinDoubles 1 = .ok (.istore_n 2, 1) := by decide +kernel
theorem dX2_joinDoubles_2 : decode cX2_joinDoubles 2 = .ok (.iload_n 2, 1) := by decide +kernel
theorem dX2_joinDoubles_3 : decode cX2_joinDoubles 3 = .ok (.aload_n 1, 1) := by decide +kernel
theorem dX2_joinDoubles_4 : decode cX2_joinDoubles 4 = .ok (.getfield 96, 3) := by decide +kernel
theorem dX2_joinDoubles_7 : decode cX2_joinDoubles 7 = .ok (.if_icmp .ge 54, 3) := by decide +kernel
theorem dX2_joinDoubles_10 : decode cX2_joinDoubles 10 = .ok (.aload_n 1, 1) := by decide +kernel
theorem dX2_joinDoubles_11 : decode cX2_joinDoubles 11 = .ok (.iload_n 2, 1) := by decide +kernel
theorem dX2_joinDoubles_12 : decode cX2_joinDoubles 12 = .ok (.invokevirtual 99, 3) := by decide +kernel
theorem dX2_joinDoubles_15 : decode cX2_joinDoubles 15 = .ok (.astore_n 3, 1) := by decide +kernel
theorem dX2_joinDoubles_16 : decode cX2_joinDoubles 16 = .ok (.aload_n 3, 1) := by decide +kernel
theorem dX2_joinDoubles_17 : decode cX2_joinDoubles 17 = .ok (.ifnull 38, 3) := by decide +kernel
theorem dX2_joinDoubles_20 : decode cX2_joinDoubles 20 = .ok (.aload_n 3, 1) := by decide +kernel
theorem dX2_joinDoubles_21 : decode cX2_joinDoubles 21 = .ok (.getfield 103, 3) := by decide +kernel
theorem dX2_joinDoubles_24 : decode cX2_joinDoubles 24 = .ok (.bipush 7, 2) := by decide +kernel
theorem dX2_joinDoubles_26 : decode cX2_joinDoubles 26 = .ok (.if_icmp .ne 29, 3) := by decide +kernel
theorem dX2_joinDoubles_29 : decode cX2_joinDoubles 29 = .ok (.aload_n 3, 1) := by decide +kernel
theorem dX2_joinDoubles_30 : decode cX2_joinDoubles 30 = .ok (.aload_n 0, 1) := by decide +kernel
theorem dX2_joinDoubles_31 : decode cX2_joinDoubles 31 = .ok (.getfield 51, 3) := by decide +kernel
theorem dX2_joinDoubles_34 : decode cX2_joinDoubles 34 = .ok (.invokevirtual 79, 3) := by decide +kernel
theorem dX2_joinDoubles_37 : decode cX2_joinDoubles 37 = .ok (.ifCond .eq 18, 3) := by decide +kernel
theorem dX2_joinDoubles_40 : decode cX2_joinDoubles 40 = .ok (.aload_n 0, 1) := by decide +kernel
theorem dX2_joinDoubles_41 : decode cX2_joinDoubles 41 = .ok (.getfield 9, 3) := by decide +kernel
theorem dX2_joinDoubles_44 : decode cX2_joinDoubles 44 = .ok (.aload_n 3, 1) := by decide +kernel
theorem dX2_joinDoubles_45 : decode cX2_joinDoubles 45 = .ok (.getfield 106, 3) := by decide +kernel
theorem dX2_joinDoubles_48 : decode cX2_joinDoubles 48 = .ok (.aload_n 3, 1) := by decide +kernel
theorem dX2_joinDoubles_49 : decode cX2_joinDoubles 49 = .ok (.getfield 109, 3) := by decide +kernel
theorem dX2_joinDoubles_52 : decode cX2_joinDoubles 52 = .ok (.invokestatic 112, 3) := by decide +kernel
theorem dX2_joinDoubles_55 : decode cX2_joinDoubles 55 = .ok (.iinc 2 1, 3) := by decide +kernel
theorem dX2_joinDoubles_58 : decode cX2_joinDoubles 58 = .ok (.goto (-56), 3) := by decide +kernel
theorem dX2_joinDoubles_61 : decode cX2_joinDoubles 61 = .ok (.iconst 0, 1) := by decide +kernel
theorem dX2_joinDoubles_62 : decode cX2_joinDoubles 62 = .ok (.istore_n 2, 1) := by decide +kernel
theorem dX2_joinDoubles_63 : decode cX2_joinDoubles 63 = .ok (.iload_n 2, 1) := by decide +kernel
theorem dX2_joinDoubles_64 : decode cX2_joinDoubles 64 = .ok (.bipush 24, 2) := by decide +kernel
theorem dX2_joinDoubles_66 : decode cX2_joinDoubles 66 = .ok (.if_icmp .ge 45, 3) := by decide +kernel
theorem dX2_joinDoubles_69 : decode cX2_joinDoubles 69 = .ok (.aload_n 0, 1) := by decide +kernel
theorem dX2_joinDoubles_70 : decode cX2_joinDoubles 70 = .ok (.getfield 9, 3) := by decide +kernel
theorem dX2_joinDoubles_73 : decode cX2_joinDoubles 73 = .ok (.iload_n 2, 1) := by decide +kernel
theorem dX2_joinDoubles_74 : decode cX2_joinDoubles 74 = .ok (.iaload, 1) := by decide +kernel
theorem dX2_joinDoubles_75 : decode cX2_joinDoubles 75 = .ok (.iload_n 2, 1) := by decide +kernel
theorem dX2_joinDoubles_76 : decode cX2_joinDoubles 76 = .ok (.if_icmp .eq 29, 3) := by decide +kernel
theorem dX2_joinDoubles_79 : decode cX2_joinDoubles 79 = .ok (.aload_n 0, 1) := by decide +kernel
theorem dX2_joinDoubles_80 : decode cX2_joinDoubles 80 = .ok (.getfield 9, 3) := by decide +kernel
theorem dX2_joinDoubles_83 : decode cX2_joinDoubles 83 = .ok (.iload_n 2, 1) := by decide +kernel
theorem dX2_joinDoubles_84 : decode cX2_joinDoubles 84 = .ok (.aload_n 0, 1) := by decide +kernel
theorem dX2_joinDoubles_85 : decode cX2_joinDoubles 85 = .ok (.getfield 9, 3) := by decide +kernel
theorem dX2_joinDoubles_88 : decode cX2_joinDoubles 88 = .ok (.aload_n 0, 1) := by decide +kernel
theorem dX2_joinDoubles_89 : decode cX2_joinDoubles 89 = .ok (.getfield 9, 3) := by decide +kernel
theorem dX2_joinDoubles_92 : decode cX2_joinDoubles 92 = .ok (.iload_n 2, 1) := by decide +kernel
theorem dX2_joinDoubles_93 : decode cX2_joinDoubles 93 = .ok (.iaload, 1) := by decide +kernel
theorem dX2_joinDoubles_94 : decode cX2_joinDoubles 94 = .ok (.invokestatic 116, 3) := by decide +kernel
theorem dX2_joinDoubles_97 : decode cX2_joinDoubles 97 = .ok (.iastore, 1) := by decide +kernel
theorem dX2_joinDoubles_98 : decode cX2_joinDoubles 98 = .ok (.aload_n 0, 1) := by decide +kernel
theorem dX2_joinDoubles_99 : decode cX2_joinDoubles 99 = .ok (.getfield 15, 3) := by decide +kernel
theorem dX2_joinDoubles_102 : decode cX2_joinDoubles 102 = .ok (.iload_n 2, 1) := by decide +kernel
theorem dX2_joinDoubles_103 : decode cX2_joinDoubles 103 = .ok (.iconst 3, 1) := by decide +kernel
theorem dX2_joinDoubles_104 : decode cX2_joinDoubles 104 = .ok (.iastore, 1) := by decide +kernel
theorem dX2_joinDoubles_105 : decode cX2_joinDoubles 105 = .ok (.iinc 2 1, 3) := by decide +kernel
theorem dX2_joinDoubles_108 : decode cX2_joinDoubles 108 = .ok (.goto (-45), 3) := by decide +kernel
theorem dX2_joinDoubles_111 : decode cX2_joinDoubles 111 = .ok (.return_, 1) := by decide +kernel
set_option maxRecDepth 20000 in
theorem ggX2_happen_X5_at : GoodIn wsX2_happen wsX5_at := goodIn_r _ [6] (by decide +kernel) (by decide +kernel)
set_option maxRecDepth 20000 in
theorem gX2_happen_X5_at_n116 : GoodIn wsX2_happen (wsX5_at) := ggX2_happen_X5_at
set_option maxRecDepth 20000 in
theorem ggX2_happen_X2_beBorn : GoodIn wsX2_happen wsX2_beBorn := goodIn_r _ [11, 12, 2, 3, 13, 14, 15, 4, 5, 6, 16, 17, 18, 10, 19, 20, 21, 46, 47, 48, 49, 50, 51, 52, 53, 54, 55, 56, 57, 58, 59, 60, 61, 62, 63, 64, 65, 66, 67, 68] (by decide +kernel) (by decide +kernel)
set_option maxRecDepth 20000 in
theorem gX2_happen_X2_beBorn : GoodIn wsX2_happen (wsV RX2 120 RX2 yX2_beBorn wsX2_beBorn) := goodIn_app (goodIn_of _ (by decide +kernel)) ggX2_happen_X2_beBorn
set_option maxRecDepth 20000 in
theorem ggX2_happen_X2_isLiving : GoodIn wsX2_happen wsX2_isLiving := goodIn_r _ [19, 12, 46, 47, 48, 49, 50, 51, 52, 53, 54, 55, 56, 57, 58] (by decide +kernel) (by decide +kernel)
set_option maxRecDepth 20000 in
theorem gX2_happen_X2_isLiving : GoodIn wsX2_happen (wsV RX2 124 RX2 yX2_isLiving wsX2_isLiving) := goodIn_app (goodIn_of _ (by decide +kernel)) ggX2_happen_X2_isLiving
set_option maxRecDepth 20000 in
theorem ggX2_happen_X5_put : GoodIn wsX2_happen wsX5_put := goodIn_r _ [21] (by decide +kernel) (by decide +kernel)
set_option maxRecDepth 20000 in
theorem gX2_happen_X5_put_n112 : GoodIn wsX2_happen (wsX5_put) := ggX2_happen_X5_put
set_option maxRecDepth 20000 in
theorem ggX2_happen_X2_bond : GoodIn wsX2_happen wsX2_bond := goodIn_r _ [25, 26, 27, 28, 29, 10, 30, 16, 17, 18, 19, 12, 4, 5, 6, 20, 21, 46, 47, 48, 49, 50, 51, 52, 53, 54, 55, 56, 57, 58] (by decide +kernel) (by decide +kernel)
set_option maxRecDepth 20000 in
theorem gX2_happen_X2_bond : GoodIn wsX2_happen (wsV RX2 133 RX2 yX2_bond wsX2_bond) := goodIn_app (goodIn_of _ (by decide +kernel)) ggX2_happen_X2_bond
set_option maxRecDepth 20000 in
theorem ggX2_happen_X2_part : GoodIn wsX2_happen wsX2_part := goodIn_r _ [34, 26, 27, 28, 29, 10, 30, 16, 17, 18, 19, 12, 4, 5, 6, 20, 21, 46, 47, 48, 49, 50, 51, 52, 53, 54, 55, 56, 57, 58] (by decide +kernel) (by decide +kernel)
set_option maxRecDepth 20000 in
theorem gX2_happen_X2_part : GoodIn wsX2_happen (wsV RX2 137 RX2 yX2_part wsX2_part) := goodIn_app (goodIn_of _ (by decide +kernel)) ggX2_happen_X2_part
set_option maxRecDepth 20000 in
theorem ggX2_happen_X2_die : GoodIn wsX2_happen wsX2_die := goodIn_r _ [38, 26, 2, 12, 16, 17, 18, 10, 19, 4, 5, 6, 20, 21, 46, 47, 48, 49, 50, 51, 52, 53, 54, 55, 56, 57, 58] (by decide +kernel) (by decide +kernel)
set_option maxRecDepth 20000 in
theorem gX2_happen_X2_die : GoodIn wsX2_happen (wsV RX2 140 RX2 yX2_die wsX2_die) := goodIn_app (goodIn_of _ (by decide +kernel)) ggX2_happen_X2_die
set_option maxRecDepth 20000 in
theorem ggX2_happen_X2_adopt : GoodIn wsX2_happen wsX2_adopt := goodIn_r _ [42, 13, 43, 27, 28, 29, 10, 30, 16, 17, 18, 19, 12, 20, 5, 21, 44, 45, 46, 47, 48, 49, 50, 51, 52, 53, 54, 55, 56, 57, 58] (by decide +kernel) (by decide +kernel)
set_option maxRecDepth 20000 in
theorem gX2_happen_X2_adopt : GoodIn wsX2_happen (wsV RX2 143 RX2 yX2_adopt wsX2_adopt) := goodIn_app (goodIn_of _ (by decide +kernel)) ggX2_happen_X2_adopt
theorem dX2_happen_0 : decode cX2_happen 0 = .ok (.aload_n 0, 1) := by decide +kernel
theorem dX2_happen_1 : decode cX2_happen 1 = .ok (.getfield 9, 3) := by decide +kernel
theorem dX2_happen_4 : decode cX2_happen 4 = .ok (.aload_n 1, 1) := by decide +kernel
theorem dX2_happen_5 : decode cX2_happen 5 = .ok (.getfield 109, 3) := by decide +kernel
theorem dX2_happen_8 : decode cX2_happen 8 = .ok (.invokestatic 116, 3) := by decide +kernel
theorem dX2_happen_11 : decode cX2_happen 11 = .ok (.istore_n 2, 1) := by decide +kernel
theorem dX2_happen_12 : decode cX2_happen 12 = .ok (.aload_n 0, 1) := by decide +kernel
theorem dX2_happen_13 : decode cX2_happen 13 = .ok (.getfield 9, 3) := by decide +kernel
theorem dX2_happen_16 : decode cX2_happen 16 = .ok (.aload_n 1, 1) := by decide +kernel
theorem dX2_happen_17 : decode cX2_happen 17 = .ok (.getfield 106, 3) := by decide +kernel
theorem dX2_happen_20 : decode cX2_happen 20 = .ok (.invokestatic 116, 3) := by decide +kernel
theorem dX2_happen_23 : decode cX2_happen 23 = .ok (.istore_n 3, 1) := by decide +kernel
theorem dX2_happen_24 : decode cX2_happen 24 = .ok (.aload_n 1, 1) := by decide +kernel
theorem dX2_happen_25 : decode cX2_happen 25 = .ok (.getfield 103, 3) := by decide +kernel
theorem dX2_happen_28 : decode cX2_happen 28 = .ok (.tableswitch 135 0 6 #[44, 54, 77, 100, 109, 118, 126], 44) := by decide +kernel
theorem dX2_happen_72 : decode cX2_happen 72 = .ok (.aload_n 0, 1) := by decide +kernel
theorem dX2_happen_73 : decode cX2_happen 73 = .ok (.iload_n 2, 1) := by decide +kernel
theorem dX2_happen_74 : decode cX2_happen 74 = .ok (.iload_n 3, 1) := by decide +kernel
theorem dX2_happen_75 : decode cX2_happen 75 = .ok (.aload_n 1, 1) := by decide +kernel
theorem dX2_happen_76 : decode cX2_happen 76 = .ok (.invokevirtual 120, 3) := by decide +kernel
theorem dX2_happen_79 : decode cX2_happen 79 = .ok (.goto 84, 3) := by decide +kernel
theorem dX2_happen_82 : decode cX2_happen 82 = .ok (.aload_n 0, 1) := by decide +kernel
theorem dX2_happen_83 : decode cX2_happen 83 = .ok (.iload_n 2, 1) := by decide +kernel
theorem dX2_happen_84 : decode cX2_happen 84 = .ok (.invokevirtual 124, 3) := by decide +kernel
theorem dX2_happen_87 : decode cX2_happen 87 = .ok (.ifCond .eq 76, 3) := by decide +kernel
theorem dX2_happen_90 : decode cX2_happen 90 = .ok (.aload_n 0, 1) := by decide +kernel
theorem dX2_happen_91 : decode cX2_happen 91 = .ok (.getfield 18, 3) := by decide +kernel
theorem dX2_happen_94 : decode cX2_happen 94 = .ok (.iload_n 2, 1) := by decide +kernel
theorem dX2_happen_95 : decode cX2_happen 95 = .ok (.aload_n 1, 1) := by decide +kernel
theorem dX2_happen_96 : decode cX2_happen 96 = .ok (.getfield 127, 3) := by decide +kernel
theorem dX2_happen_99 : decode cX2_happen 99 = .ok (.invokestatic 112, 3) := by decide +kernel
theorem dX2_happen_102 : decode cX2_happen 102 = .ok (.goto 61, 3) := by decide +kernel
theorem dX2_happen_105 : decode cX2_happen 105 = .ok (.aload_n 0, 1) := by decide +kernel
theorem dX2_happen_106 : decode cX2_happen 106 = .ok (.iload_n 2, 1) := by decide +kernel
theorem dX2_happen_107 : decode cX2_happen 107 = .ok (.invokevirtual 124, 3) := by decide +kernel
theorem dX2_happen_110 : decode cX2_happen 110 = .ok (.ifCond .eq 53, 3) := by decide +kernel
theorem dX2_happen_113 : decode cX2_happen 113 = .ok (.aload_n 0, 1) := by decide +kernel
theorem dX2_happen_114 : decode cX2_happen 114 = .ok (.getfield 21, 3) := by decide +kernel
theorem dX2_happen_117 : decode cX2_happen 117 = .ok (.iload_n 2, 1) := by decide +kernel
theorem dX2_happen_118 : decode cX2_happen 118 = .ok (.aload_n 1, 1) := by decide +kernel
theorem dX2_happen_119 : decode cX2_happen 119 = .ok (.getfield 130, 3) := by decide +kernel
theorem dX2_happen_122 : decode cX2_happen 122 = .ok (.invokestatic 112, 3) := by decide +kernel
theorem dX2_happen_125 : decode cX2_happen 125 = .ok (.goto 38, 3) := by decide +kernel
theorem dX2_happen_128 : decode cX2_happen 128 = .ok (.aload_n 0, 1) := by decide +kernel
theorem dX2_happen_129 : decode cX2_happen 129 = .ok (.iload_n 2, 1) := by decide +kernel
theorem dX2_happen_130 : decode cX2_happen 130 = .ok (.iload_n 3, 1) := by decide +kernel
theorem dX2_happen_131 : decode cX2_happen 131 = .ok (.invokevirtual 133, 3) := by decide +kernel
theorem dX2_happen_134 : decode cX2_happen 134 = .ok (.goto 29, 3) := by decide +kernel
theorem dX2_happen_137 : decode cX2_happen 137 = .ok (.aload_n 0, 1) := by decide +kernel
theorem dX2_happen_138 : decode cX2_happen 138 = .ok (.iload_n 2, 1) := by decide +kernel
theorem dX2_happen_139 : decode cX2_happen 139 = .ok (.iload_n 3, 1) := by decide +kernel
theorem dX2_happen_140 : decode cX2_happen 140 = .ok (.invokevirtual 137, 3) := by decide +kernel
theorem dX2_happen_143 : decode cX2_happen 143 = .ok (.goto 20, 3) := by decide +kernel
theorem dX2_happen_146 : decode cX2_happen 146 = .ok (.aload_n 0, 1) := by decide +kernel
theorem dX2_happen_147 : decode cX2_happen 147 = .ok (.iload_n 2, 1) := by decide +kernel
theorem dX2_happen_148 : decode cX2_happen 148 = .ok (.invokevirtual 140, 3) := by decide +kernel
theorem dX2_happen_151 : decode cX2_happen 151 = .ok (.goto 12, 3) := by decide +kernel
theorem dX2_happen_154 : decode cX2_happen 154 = .ok (.aload_n 0, 1) := by decide +kernel
theorem dX2_happen_155 : decode cX2_happen 155 = .ok (.iload_n 2, 1) := by decide +kernel
theorem dX2_happen_156 : decode cX2_happen 156 = .ok (.iload_n 3, 1) := by decide +kernel
theorem dX2_happen_157 : decode cX2_happen 157 = .ok (.invokevirtual 143, 3) := by decide +kernel
theorem dX2_happen_160 : decode cX2_happen 160 = .ok (.goto 3, 3) := by decide +kernel
theorem dX2_happen_163 : decode cX2_happen 163 = .ok (.return_, 1) := by decide +kernel
set_option maxRecDepth 20000 in
theorem ggX2_beBorn_X5_at : GoodIn wsX2_beBorn wsX5_at := goodIn_r _ [9] (by decide +kernel) (by decide +kernel)
set_option maxRecDepth 20000 in
theorem gX2_beBorn_X5_at_n116 : GoodIn wsX2_beBorn (wsX5_at) := ggX2_beBorn_X5_at
set_option maxRecDepth 20000 in
theorem ggX2_beBorn_X2_isLiving : GoodIn wsX2_beBorn wsX2_isLiving := goodIn_r _ [14, 1, 17, 18, 19, 20, 21, 22, 23, 24, 25, 26, 27, 28, 29] (by decide +kernel) (by decide +kernel)
set_option maxRecDepth 20000 in
theorem gX2_beBorn_X2_isLiving : GoodIn wsX2_beBorn (wsV RX2 124 RX2 yX2_isLiving wsX2_isLiving) := goodIn_app (goodIn_of _ (by decide +kernel)) ggX2_beBorn_X2_isLiving
set_option maxRecDepth 20000 in
theorem ggX2_beBorn_X5_put : GoodIn wsX2_beBorn wsX5_put := goodIn_r _ [16] (by decide +kernel) (by decide +kernel)
set_option maxRecDepth 20000 in
theorem gX2_beBorn_X5_put_n112 : GoodIn wsX2_beBorn (wsX5_put) := ggX2_beBorn_X5_put
theorem dX2_beBorn_0 : decode cX2_beBorn 0 = .ok (.aload_n 0, 1) := by decide +kernel
theorem dX2_beBorn_1 : decode cX2_beBorn 1 = .ok (.getfield 15, 3) := by decide +kernel
theorem dX2_beBorn_4 : decode cX2_beBorn 4 = .ok (.iload_n 1, 1) := by decide +kernel
theorem dX2_beBorn_5 : decode cX2_beBorn 5 = .ok (.invokestatic 116, 3) := by decide +kernel
theorem dX2_beBorn_8 : decode cX2_beBorn 8 = .ok (.ifCond .eq 4, 3) := by decide +kernel
theorem dX2_beBorn_11 : decode cX2_beBorn 11 = .ok (.return_, 1) := by decide +kernel
theorem dX2_beBorn_12 : decode cX2_beBorn 12 = .ok (.iload_n 2, 1) := by decide +kernel
theorem dX2_beBorn_13 : decode cX2_beBorn 13 = .ok (.iload_n 1, 1) := by decide +kernel
theorem dX2_beBorn_14 : decode cX2_beBorn 14 = .ok (.if_icmp .eq 15, 3) := by decide +kernel
theorem dX2_beBorn_17 : decode cX2_beBorn 17 = .ok (.aload_n 0, 1) := by decide +kernel
theorem dX2_beBorn_18 : decode cX2_beBorn 18 = .ok (.iload_n 2, 1) := by decide +kernel
theorem dX2_beBorn_19 : decode cX2_beBorn 19 = .ok (.invokevirtual 124, 3) := by decide +kernel
theorem dX2_beBorn_22 : decode cX2_beBorn 22 = .ok (.ifCond .eq 7, 3) := by decide +kernel
theorem dX2_beBorn_25 : decode cX2_beBorn 25 = .ok (.iload_n 2, 1) := by decide +kernel
theorem dX2_beBorn_26 : decode cX2_beBorn 26 = .ok (.goto 4, 3) := by decide +kernel
theorem dX2_beBorn_29 : decode cX2_beBorn 29 = .ok (.iconst (-1), 1) := by decide +kernel
theorem dX2_beBorn_30 : decode cX2_beBorn 30 = .ok (.istore 4, 2) := by decide +kernel
theorem dX2_beBorn_32 : decode cX2_beBorn 32 = .ok (.aload_n 0, 1) := by decide +kernel
theorem dX2_beBorn_33 : decode cX2_beBorn 33 = .ok (.getfield 15, 3) := by decide +kernel
theorem dX2_beBorn_36 : decode cX2_beBorn 36 = .ok (.iload_n 1, 1) := by decide +kernel
theorem dX2_beBorn_37 : decode cX2_beBorn 37 = .ok (.iconst 1, 1) := by decide +kernel
theorem dX2_beBorn_38 : decode cX2_beBorn 38 = .ok (.invokestatic 112, 3) := by decide +kernel
theorem dX2_beBorn_41 : decode cX2_beBorn 41 = .ok (.aload_n 0, 1) := by decide +kernel
theorem dX2_beBorn_42 : decode cX2_beBorn 42 = .ok (.getfield 18, 3) := by decide +kernel
theorem dX2_beBorn_45 : decode cX2_beBorn 45 = .ok (.iload_n 1, 1) := by decide +kernel
theorem dX2_beBorn_46 : decode cX2_beBorn 46 = .ok (.aload_n 3, 1) := by decide +kernel
theorem dX2_beBorn_47 : decode cX2_beBorn 47 = .ok (.getfield 127, 3) := by decide +kernel
theorem dX2_beBorn_50 : decode cX2_beBorn 50 = .ok (.invokestatic 112, 3) := by decide +kernel
theorem dX2_beBorn_53 : decode cX2_beBorn 53 = .ok (.aload_n 0, 1) := by decide +kernel
theorem dX2_beBorn_54 : decode cX2_beBorn 54 = .ok (.getfield 21, 3) := by decide +kernel
theorem dX2_beBorn_57 : decode cX2_beBorn 57 = .ok (.iload_n 1, 1) := by decide +kernel
theorem dX2_beBorn_58 : decode cX2_beBorn 58 = .ok (.aload_n 3, 1) := by decide +kernel
theorem dX2_beBorn_59 : decode cX2_beBorn 59 = .ok (.getfield 130, 3) := by decide +kernel
theorem dX2_beBorn_62 : decode cX2_beBorn 62 = .ok (.invokestatic 112, 3) := by decide +kernel
theorem dX2_beBorn_65 : decode cX2_beBorn 65 = .ok (.aload_n 0, 1) := by decide +kernel
theorem dX2_beBorn_66 : decode cX2_beBorn 66 = .ok (.getfield 27, 3) := by decide +kernel
theorem dX2_beBorn_69 : decode cX2_beBorn 69 = .ok (.iload_n 1, 1) := by decide +kernel
theorem dX2_beBorn_70 : decode cX2_beBorn 70 = .ok (.iload 4, 2) := by decide +kernel
theorem dX2_beBorn_72 : decode cX2_beBorn 72 = .ok (.invokestatic 112, 3) := by decide +kernel
theorem dX2_beBorn_75 : decode cX2_beBorn 75 = .ok (.aload_n 0, 1) := by decide +kernel
theorem dX2_beBorn_76 : decode cX2_beBorn 76 = .ok (.getfield 30, 3) := by decide +kernel
theorem dX2_beBorn_79 : decode cX2_beBorn 79 = .ok (.iload_n 1, 1) := by decide +kernel
theorem dX2_beBorn_80 : decode cX2_beBorn 80 = .ok (.iload 4, 2) := by decide +kernel
theorem dX2_beBorn_82 : decode cX2_beBorn 82 = .ok (.invokestatic 112, 3) := by decide +kernel
theorem dX2_beBorn_85 : decode cX2_beBorn 85 = .ok (.aload_n 0, 1) := by decide +kernel
theorem dX2_beBorn_86 : decode cX2_beBorn 86 = .ok (.getfield 33, 3) := by decide +kernel
theorem dX2_beBorn_89 : decode cX2_beBorn 89 = .ok (.iload_n 1, 1) := by decide +kernel
theorem dX2_beBorn_90 : decode cX2_beBorn 90 = .ok (.aload_n 3, 1) := by decide +kernel
theorem dX2_beBorn_91 : decode cX2_beBorn 91 = .ok (.getfield 74, 3) := by decide +kernel
theorem dX2_beBorn_94 : decode cX2_beBorn 94 = .ok (.invokestatic 112, 3) := by decide +kernel
theorem dX2_beBorn_97 : decode cX2_beBorn 97 = .ok (.return_, 1) := by decide +kernel
set_option maxRecDepth 20000 in
theorem ggX2_bond_X2_areTwoLiving : GoodIn wsX2_bond wsX2_areTwoLiving := goodIn_r _ [6, 7, 8, 9, 5, 10, 11, 17, 18, 19, 20, 21, 22, 23, 24, 25, 26, 27, 28, 29] (by decide +kernel) (by decide +kernel)
set_option maxRecDepth 20000 in
theorem gX2_bond_X2_areTwoLiving : GoodIn wsX2_bond (wsV RX2 146 RX2 yX2_areTwoLiving wsX2_areTwoLiving) := goodIn_app (goodIn_of _ (by decide +kernel)) ggX2_bond_X2_areTwoLiving
set_option maxRecDepth 20000 in
theorem ggX2_bond_X5_at : GoodIn wsX2_bond wsX5_at := goodIn_r _ [14] (by decide +kernel) (by decide +kernel)
set_option maxRecDepth 20000 in
theorem gX2_bond_X5_at_n116 : GoodIn wsX2_bond (wsX5_at) := ggX2_bond_X5_at
set_option maxRecDepth 20000 in
theorem ggX2_bond_X5_put : GoodIn wsX2_bond wsX5_put := goodIn_r _ [16] (by decide +kernel) (by decide +kernel)
set_option maxRecDepth 20000 in
theorem gX2_bond_X5_put_n112 : GoodIn wsX2_bond (wsX5_put) := ggX2_bond_X5_put
theorem dX2_bond_0 : decode cX2_bond 0 = .ok (.aload_n 0, 1) := by decide +kernel
theorem dX2_bond_1 : decode cX2_bond 1 = .ok (.iload_n 1, 1) := by decide +kernel
theorem dX2_bond_2 : decode cX2_bond 2 = .ok (.iload_n 2, 1) := by decide +kernel
theorem dX2_bond_3 : decode cX2_bond 3 = .ok (.invokevirtual 146, 3) := by decide +kernel
theorem dX2_bond_6 : decode cX2_bond 6 = .ok (.ifCond .eq 45, 3) := by decide +kernel
theorem dX2_bond_9 : decode cX2_bond 9 = .ok (.aload_n 0, 1) := by decide +kernel
theorem dX2_bond_10 : decode cX2_bond 10 = .ok (.getfield 24, 3) := by decide +kernel
theorem dX2_bond_13 : decode cX2_bond 13 = .ok (.iload_n 1, 1) := by decide +kernel
theorem dX2_bond_14 : decode cX2_bond 14 = .ok (.invokestatic 116, 3) := by decide +kernel
theorem dX2_bond_17 : decode cX2_bond 17 = .ok (.iconst (-1), 1) := by decide +kernel
theorem dX2_bond_18 : decode cX2_bond 18 = .ok (.if_icmp .ne 33, 3) := by decide +kernel
theorem dX2_bond_21 : decode cX2_bond 21 = .ok (.aload_n 0, 1) := by decide +kernel
theorem dX2_bond_22 : decode cX2_bond 22 = .ok (.getfield 24, 3) := by decide +kernel
theorem dX2_bond_25 : decode cX2_bond 25 = .ok (.iload_n 2, 1) := by decide +kernel
theorem dX2_bond_26 : decode cX2_bond 26 = .ok (.invokestatic 116, 3) := by decide +kernel
theorem dX2_bond_29 : decode cX2_bond 29 = .ok (.iconst (-1), 1) := by decide +kernel
theorem dX2_bond_30 : decode cX2_bond 30 = .ok (.if_icmp .ne 21, 3) := by decide +kernel
theorem dX2_bond_33 : decode cX2_bond 33 = .ok (.aload_n 0, 1) := by decide +kernel
theorem dX2_bond_34 : decode cX2_bond 34 = .ok (.getfield 24, 3) := by decide +kernel
theorem dX2_bond_37 : decode cX2_bond 37 = .ok (.iload_n 1, 1) := by decide +kernel
theorem dX2_bond_38 : decode cX2_bond 38 = .ok (.iload_n 2, 1) := by decide +kernel
theorem dX2_bond_39 : decode cX2_bond 39 = .ok (.invokestatic 112, 3) := by decide +kernel
theorem dX2_bond_42 : decode cX2_bond 42 = .ok (.aload_n 0, 1) := by decide +kernel
theorem dX2_bond_43 : decode cX2_bond 43 = .ok (.getfield 24, 3) := by decide +kernel
theorem dX2_bond_46 : decode cX2_bond 46 = .ok (.iload_n 2, 1) := by decide +kernel
theorem dX2_bond_47 : decode cX2_bond 47 = .ok (.iload_n 1, 1) := by decide +kernel
theorem dX2_bond_48 : decode cX2_bond 48 = .ok (.invokestatic 112, 3) := by decide +kernel
theorem dX2_bond_51 : decode cX2_bond 51 = .ok (.return_, 1) := by decide +kernel
set_option maxRecDepth 20000 in
theorem ggX2_part_X2_areTwoLiving : GoodIn wsX2_part wsX2_areTwoLiving := goodIn_r _ [6, 7, 8, 9, 5, 10, 11, 17, 18, 19, 20, 21, 22, 23, 24, 25, 26, 27, 28, 29] (by decide +kernel) (by decide +kernel)
set_option maxRecDepth 20000 in
theorem gX2_part_X2_areTwoLiving : GoodIn wsX2_part (wsV RX2 146 RX2 yX2_areTwoLiving wsX2_areTwoLiving) := goodIn_app (goodIn_of _ (by decide +kernel)) ggX2_part_X2_areTwoLiving
set_option maxRecDepth 20000 in
theorem ggX2_part_X5_at : GoodIn wsX2_part wsX5_at := goodIn_r _ [14] (by decide +kernel) (by decide +kernel)
set_option maxRecDepth 20000 in
theorem gX2_part_X5_at_n116 : GoodIn wsX2_part (wsX5_at) := ggX2_part_X5_at
set_option maxRecDepth 20000 in
theorem ggX2_part_X5_put : GoodIn wsX2_part wsX5_put := goodIn_r _ [16] (by decide +kernel) (by decide +kernel)
set_option maxRecDepth 20000 in
theorem gX2_part_X5_put_n112 : GoodIn wsX2_part (wsX5_put) := ggX2_part_X5_put
theorem dX2_part_0 : decode cX2_part 0 = .ok (.aload_n 0, 1) := by decide +kernel
theorem dX2_part_1 : decode cX2_part 1 = .ok (.iload_n 1, 1) := by decide +kernel
theorem dX2_part_2 : decode cX2_part 2 = .ok (.iload_n 2, 1) := by decide +kernel
theorem dX2_part_3 : decode cX2_part 3 = .ok (.invokevirtual 146, 3) := by decide +kernel
theorem dX2_part_6 : decode cX2_part 6 = .ok (.ifCond .eq 33, 3) := by decide +kernel
theorem dX2_part_9 : decode cX2_part 9 = .ok (.aload_n 0, 1) := by decide +kernel
theorem dX2_part_10 : decode cX2_part 10 = .ok (.getfield 24, 3) := by decide +kernel
theorem dX2_part_13 : decode cX2_part 13 = .ok (.iload_n 1, 1) := by decide +kernel
theorem dX2_part_14 : decode cX2_part 14 = .ok (.invokestatic 116, 3) := by decide +kernel
theorem dX2_part_17 : decode cX2_part 17 = .ok (.iload_n 2, 1) := by decide +kernel
theorem dX2_part_18 : decode cX2_part 18 = .ok (.if_icmp .ne 21, 3) := by decide +kernel
theorem dX2_part_21 : decode cX2_part 21 = .ok (.aload_n 0, 1) := by decide +kernel
theorem dX2_part_22 : decode cX2_part 22 = .ok (.getfield 24, 3) := by decide +kernel
theorem dX2_part_25 : decode cX2_part 25 = .ok (.iload_n 1, 1) := by decide +kernel
theorem dX2_part_26 : decode cX2_part 26 = .ok (.iconst (-1), 1) := by decide +kernel
theorem dX2_part_27 : decode cX2_part 27 = .ok (.invokestatic 112, 3) := by decide +kernel
theorem dX2_part_30 : decode cX2_part 30 = .ok (.aload_n 0, 1) := by decide +kernel
theorem dX2_part_31 : decode cX2_part 31 = .ok (.getfield 24, 3) := by decide +kernel
theorem dX2_part_34 : decode cX2_part 34 = .ok (.iload_n 2, 1) := by decide +kernel
theorem dX2_part_35 : decode cX2_part 35 = .ok (.iconst (-1), 1) := by decide +kernel
theorem dX2_part_36 : decode cX2_part 36 = .ok (.invokestatic 112, 3) := by decide +kernel
theorem dX2_part_39 : decode cX2_part 39 = .ok (.return_, 1) := by decide +kernel
set_option maxRecDepth 20000 in
theorem ggX2_die_X2_isLiving : GoodIn wsX2_die wsX2_isLiving := goodIn_r _ [8, 3, 14, 15, 16, 17, 18, 19, 20, 21, 22, 23, 24, 25, 26] (by decide +kernel) (by decide +kernel)
set_option maxRecDepth 20000 in
theorem gX2_die_X2_isLiving : GoodIn wsX2_die (wsV RX2 124 RX2 yX2_isLiving wsX2_isLiving) := goodIn_app (goodIn_of _ (by decide +kernel)) ggX2_die_X2_isLiving
set_option maxRecDepth 20000 in
theorem ggX2_die_X5_at : GoodIn wsX2_die wsX5_at := goodIn_r _ [11] (by decide +kernel) (by decide +kernel)
set_option maxRecDepth 20000 in
theorem gX2_die_X5_at_n116 : GoodIn wsX2_die (wsX5_at) := ggX2_die_X5_at
set_option maxRecDepth 20000 in
theorem ggX2_die_X5_put : GoodIn wsX2_die wsX5_put := goodIn_r _ [13] (by decide +kernel) (by decide +kernel)
set_option maxRecDepth 20000 in
theorem gX2_die_X5_put_n112 : GoodIn wsX2_die (wsX5_put) := ggX2_die_X5_put
theorem dX2_die_0 : decode cX2_die 0 = .ok (.aload_n 0, 1) := by decide +kernel
theorem dX2_die_1 : decode cX2_die 1 = .ok (.iload_n 1, 1) := by decide +kernel
theorem dX2_die_2 : decode cX2_die 2 = .ok (.invokevirtual 124, 3) := by decide +kernel
theorem dX2_die_5 : decode cX2_die 5 = .ok (.ifCond .eq 46, 3) := by decide +kernel
theorem dX2_die_8 : decode cX2_die 8 = .ok (.aload_n 0, 1) := by decide +kernel
theorem dX2_die_9 : decode cX2_die 9 = .ok (.getfield 24, 3) := by decide +kernel
theorem dX2_die_12 : decode cX2_die 12 = .ok (.aload_n 0, 1) := by decide +kernel
theorem dX2_die_13 : decode cX2_die 13 = .ok (.getfield 24, 3) := by decide +kernel
theorem dX2_die_16 : decode cX2_die 16 = .ok (.iload_n 1, 1) := by decide +kernel
theorem dX2_die_17 : decode cX2_die 17 = .ok (.invokestatic 116, 3) := by decide +kernel
theorem dX2_die_20 : decode cX2_die 20 = .ok (.iconst (-1), 1) := by decide +kernel
theorem dX2_die_21 : decode cX2_die 21 = .ok (.invokestatic 112, 3) := by decide +kernel
theorem dX2_die_24 : decode cX2_die 24 = .ok (.aload_n 0, 1) := by decide +kernel
theorem dX2_die_25 : decode cX2_die 25 = .ok (.getfield 24, 3) := by decide +kernel
theorem dX2_die_28 : decode cX2_die 28 = .ok (.iload_n 1, 1) := by decide +kernel
theorem dX2_die_29 : decode cX2_die 29 = .ok (.iconst (-1), 1) := by decide +kernel
theorem dX2_die_30 : decode cX2_die 30 = .ok (.invokestatic 112, 3) := by decide +kernel
theorem dX2_die_33 : decode cX2_die 33 = .ok (.aload_n 0, 1) := by decide +kernel
theorem dX2_die_34 : decode cX2_die 34 = .ok (.getfield 18, 3) := by decide +kernel
theorem dX2_die_37 : decode cX2_die 37 = .ok (.iload_n 1, 1) := by decide +kernel
theorem dX2_die_38 : decode cX2_die 38 = .ok (.iconst (-1), 1) := by decide +kernel
theorem dX2_die_39 : decode cX2_die 39 = .ok (.invokestatic 112, 3) := by decide +kernel
theorem dX2_die_42 : decode cX2_die 42 = .ok (.aload_n 0, 1) := by decide +kernel
theorem dX2_die_43 : decode cX2_die 43 = .ok (.getfield 15, 3) := by decide +kernel
theorem dX2_die_46 : decode cX2_die 46 = .ok (.iload_n 1, 1) := by decide +kernel
theorem dX2_die_47 : decode cX2_die 47 = .ok (.iconst 2, 1) := by decide +kernel
theorem dX2_die_48 : decode cX2_die 48 = .ok (.invokestatic 112, 3) := by decide +kernel
theorem dX2_die_51 : decode cX2_die 51 = .ok (.return_, 1) := by decide +kernel
set_option maxRecDepth 20000 in
theorem ggX2_adopt_X2_areTwoLiving : GoodIn wsX2_adopt wsX2_areTwoLiving := goodIn_r _ [7, 8, 9, 10, 6, 11, 12, 18, 19, 20, 21, 22, 23, 24, 25, 26, 27, 28, 29, 30] (by decide +kernel) (by decide +kernel)
set_option maxRecDepth 20000 in
theorem gX2_adopt_X2_areTwoLiving : GoodIn wsX2_adopt (wsV RX2 146 RX2 yX2_areTwoLiving wsX2_areTwoLiving) := goodIn_app (goodIn_of _ (by decide +kernel)) ggX2_adopt_X2_areTwoLiving
set_option maxRecDepth 20000 in
theorem ggX2_adopt_X5_put : GoodIn wsX2_adopt wsX5_put := goodIn_r _ [15] (by decide +kernel) (by decide +kernel)
set_option maxRecDepth 20000 in
theorem gX2_adopt_X5_put_n112 : GoodIn wsX2_adopt (wsX5_put) := ggX2_adopt_X5_put
set_option maxRecDepth 20000 in
theorem ggX2_adopt_X5_set : GoodIn wsX2_adopt wsX5_set := goodIn_r _ [17] (by decide +kernel) (by decide +kernel)
set_option maxRecDepth 20000 in
theorem gX2_adopt_X5_set_n150 : GoodIn wsX2_adopt (wsX5_set) := ggX2_adopt_X5_set
theorem dX2_adopt_0 : decode cX2_adopt 0 = .ok (.aload_n 0, 1) := by decide +kernel
theorem dX2_adopt_1 : decode cX2_adopt 1 = .ok (.iload_n 1, 1) := by decide +kernel
theorem dX2_adopt_2 : decode cX2_adopt 2 = .ok (.iload_n 2, 1) := by decide +kernel
theorem dX2_adopt_3 : decode cX2_adopt 3 = .ok (.invokevirtual 146, 3) := by decide +kernel
theorem dX2_adopt_6 : decode cX2_adopt 6 = .ok (.ifCond .eq 21, 3) := by decide +kernel
theorem dX2_adopt_9 : decode cX2_adopt 9 = .ok (.aload_n 0, 1) := by decide +kernel
theorem dX2_adopt_10 : decode cX2_adopt 10 = .ok (.getfield 27, 3) := by decide +kernel
theorem dX2_adopt_13 : decode cX2_adopt 13 = .ok (.iload_n 1, 1) := by decide +kernel
theorem dX2_adopt_14 : decode cX2_adopt 14 = .ok (.iload_n 2, 1) := by decide +kernel
theorem dX2_adopt_15 : decode cX2_adopt 15 = .ok (.invokestatic 112, 3) := by decide +kernel
theorem dX2_adopt_18 : decode cX2_adopt 18 = .ok (.aload_n 0, 1) := by decide +kernel
theorem dX2_adopt_19 : decode cX2_adopt 19 = .ok (.getfield 36, 3) := by decide +kernel
theorem dX2_adopt_22 : decode cX2_adopt 22 = .ok (.iload_n 1, 1) := by decide +kernel
theorem dX2_adopt_23 : decode cX2_adopt 23 = .ok (.iconst 1, 1) := by decide +kernel
theorem dX2_adopt_24 : decode cX2_adopt 24 = .ok (.invokestatic 150, 3) := by decide +kernel
theorem dX2_adopt_27 : decode cX2_adopt 27 = .ok (.return_, 1) := by decide +kernel
theorem dX2_isLiving_0 : decode cX2_isLiving 0 = .ok (.iload_n 1, 1) := by decide +kernel
theorem dX2_isLiving_1 : decode cX2_isLiving 1 = .ok (.ifCond .lt 26, 3) := by decide +kernel
theorem dX2_isLiving_4 : decode cX2_isLiving 4 = .ok (.iload_n 1, 1) := by decide +kernel
theorem dX2_isLiving_5 : decode cX2_isLiving 5 = .ok (.aload_n 0, 1) := by decide +kernel
theorem dX2_isLiving_6 : decode cX2_isLiving 6 = .ok (.getfield 15, 3) := by decide +kernel
theorem dX2_isLiving_9 : decode cX2_isLiving 9 = .ok (.arraylength, 1) := by decide +kernel
theorem dX2_isLiving_10 : decode cX2_isLiving 10 = .ok (.if_icmp .ge 17, 3) := by decide +kernel
theorem dX2_isLiving_13 : decode cX2_isLiving 13 = .ok (.aload_n 0, 1) := by decide +kernel
theorem dX2_isLiving_14 : decode cX2_isLiving 14 = .ok (.getfield 15, 3) := by decide +kernel
theorem dX2_isLiving_17 : decode cX2_isLiving 17 = .ok (.iload_n 1, 1) := by decide +kernel
theorem dX2_isLiving_18 : decode cX2_isLiving 18 = .ok (.iaload, 1) := by decide +kernel
theorem dX2_isLiving_19 : decode cX2_isLiving 19 = .ok (.iconst 1, 1) := by decide +kernel
theorem dX2_isLiving_20 : decode cX2_isLiving 20 = .ok (.if_icmp .ne 7, 3) := by decide +kernel
theorem dX2_isLiving_23 : decode cX2_isLiving 23 = .ok (.iconst 1, 1) := by decide +kernel
theorem dX2_isLiving_24 : decode cX2_isLiving 24 = .ok (.goto 4, 3) := by decide +kernel
theorem dX2_isLiving_27 : decode cX2_isLiving 27 = .ok (.iconst 0, 1) := by decide +kernel
theorem dX2_isLiving_28 : decode cX2_isLiving 28 = .ok (.ireturn, 1) := by decide +kernel
set_option maxRecDepth 20000 in
theorem ggX2_areTwoLiving_X2_isLiving : GoodIn wsX2_areTwoLiving wsX2_isLiving := goodIn_r _ [5, 6, 7, 8, 9, 10, 11, 12, 13, 14, 15, 16, 17, 18, 19] (by decide +kernel) (by decide +kernel)
set_option maxRecDepth 20000 in
theorem gX2_areTwoLiving_X2_isLiving : GoodIn wsX2_areTwoLiving (wsV RX2 124 RX2 yX2_isLiving wsX2_isLiving) := goodIn_app (goodIn_of _ (by decide +kernel)) ggX2_areTwoLiving_X2_isLiving
theorem dX2_areTwoLiving_0 : decode cX2_areTwoLiving 0 = .ok (.iload_n 1, 1) := by decide +kernel
theorem dX2_areTwoLiving_1 : decode cX2_areTwoLiving 1 = .ok (.iload_n 2, 1) := by decide +kernel
theorem dX2_areTwoLiving_2 : decode cX2_areTwoLiving 2 = .ok (.if_icmp .eq 23, 3) := by decide +kernel
theorem dX2_areTwoLiving_5 : decode cX2_areTwoLiving 5 = .ok (.aload_n 0, 1) := by decide +kernel
theorem dX2_areTwoLiving_6 : decode cX2_areTwoLiving 6 = .ok (.iload_n 1, 1) := by decide +kernel
theorem dX2_areTwoLiving_7 : decode cX2_areTwoLiving 7 = .ok (.invokevirtual 124, 3) := by decide +kernel
theorem dX2_areTwoLiving_10 : decode cX2_areTwoLiving 10 = .ok (.ifCond .eq 15, 3) := by decide +kernel
theorem dX2_areTwoLiving_13 : decode cX2_areTwoLiving 13 = .ok (.aload_n 0, 1) := by decide +kernel
theorem dX2_areTwoLiving_14 : decode cX2_areTwoLiving 14 = .ok (.iload_n 2, 1) := by decide +kernel
theorem dX2_areTwoLiving_15 : decode cX2_areTwoLiving 15 = .ok (.invokevirtual 124, 3) := by decide +kernel
theorem dX2_areTwoLiving_18 : decode cX2_areTwoLiving 18 = .ok (.ifCond .eq 7, 3) := by decide +kernel
theorem dX2_areTwoLiving_21 : decode cX2_areTwoLiving 21 = .ok (.iconst 1, 1) := by decide +kernel
theorem dX2_areTwoLiving_22 : decode cX2_areTwoLiving 22 = .ok (.goto 4, 3) := by decide +kernel
theorem dX2_areTwoLiving_25 : decode cX2_areTwoLiving 25 = .ok (.iconst 0, 1) := by decide +kernel
theorem dX2_areTwoLiving_26 : decode cX2_areTwoLiving 26 = .ok (.ireturn, 1) := by decide +kernel
set_option maxRecDepth 20000 in
theorem ggX2_isBorn_X5_at : GoodIn wsX2_isBorn wsX5_at := goodIn_r _ [4] (by decide +kernel) (by decide +kernel)
set_option maxRecDepth 20000 in
theorem gX2_isBorn_X5_at_n116 : GoodIn wsX2_isBorn (wsX5_at) := ggX2_isBorn_X5_at
theorem dX2_isBorn_0 : decode cX2_isBorn 0 = .ok (.aload_n 0, 1) := by decide +kernel
theorem dX2_isBorn_1 : decode cX2_isBorn 1 = .ok (.getfield 15, 3) := by decide +kernel
theorem dX2_isBorn_4 : decode cX2_isBorn 4 = .ok (.iload_n 1, 1) := by decide +kernel
theorem dX2_isBorn_5 : decode cX2_isBorn 5 = .ok (.invokestatic 116, 3) := by decide +kernel
theorem dX2_isBorn_8 : decode cX2_isBorn 8 = .ok (.istore_n 2, 1) := by decide +kernel
theorem dX2_isBorn_9 : decode cX2_isBorn 9 = .ok (.iload_n 2, 1) := by decide +kernel
theorem dX2_isBorn_10 : decode cX2_isBorn 10 = .ok (.iconst 1, 1) := by decide +kernel
theorem dX2_isBorn_11 : decode cX2_isBorn 11 = .ok (.if_icmp .eq 8, 3) := by decide +kernel
theorem dX2_isBorn_14 : decode cX2_isBorn 14 = .ok (.iload_n 2, 1) := by decide +kernel
theorem dX2_isBorn_15 : decode cX2_isBorn 15 = .ok (.iconst 2, 1) := by decide +kernel
theorem dX2_isBorn_16 : decode cX2_isBorn 16 = .ok (.if_icmp .ne 7, 3) := by decide +kernel
theorem dX2_isBorn_19 : decode cX2_isBorn 19 = .ok (.iconst 1, 1) := by decide +kernel
theorem dX2_isBorn_20 : decode cX2_isBorn 20 = .ok (.goto 4, 3) := by decide +kernel
theorem dX2_isBorn_23 : decode cX2_isBorn 23 = .ok (.iconst 0, 1) := by decide +kernel
theorem dX2_isBorn_24 : decode cX2_isBorn 24 = .ok (.ireturn, 1) := by decide +kernel
set_option maxRecDepth 20000 in
theorem ggX2_areInOneDwelling_X2_isLiving : GoodIn wsX2_areInOneDwelling wsX2_isLiving := goodIn_r _ [6, 7, 11, 12, 13, 14, 15, 16, 17, 18, 19, 20, 21, 22, 23] (by decide +kernel) (by decide +kernel)
set_option maxRecDepth 20000 in
theorem gX2_areInOneDwelling_X2_isLiving : GoodIn wsX2_areInOneDwelling (wsV RX2 124 RX2 yX2_isLiving wsX2_isLiving) := goodIn_app (goodIn_of _ (by decide +kernel)) ggX2_areInOneDwelling_X2_isLiving
set_option maxRecDepth 20000 in
theorem ggX2_areInOneDwelling_X5_at : GoodIn wsX2_areInOneDwelling wsX5_at := goodIn_r _ [10] (by decide +kernel) (by decide +kernel)
set_option maxRecDepth 20000 in
theorem gX2_areInOneDwelling_X5_at_n116 : GoodIn wsX2_areInOneDwelling (wsX5_at) := ggX2_areInOneDwelling_X5_at
theorem dX2_areInOneDwelling_0 : decode cX2_areInOneDwelling 0 = .ok (.aload_n 0, 1) := by decide +kernel
theorem dX2_areInOneDwelling_1 : decode cX2_areInOneDwelling 1 = .ok (.iload_n 1, 1) := by decide +kernel
theorem dX2_areInOneDwelling_2 : decode cX2_areInOneDwelling 2 = .ok (.invokevirtual 124, 3) := by decide +kernel
theorem dX2_areInOneDwelling_5 : decode cX2_areInOneDwelling 5 = .ok (.ifCond .eq 34, 3) := by decide +kernel
theorem dX2_areInOneDwelling_8 : decode cX2_areInOneDwelling 8 = .ok (.aload_n 0, 1) := by decide +kernel
theorem dX2_areInOneDwelling_9 : decode cX2_areInOneDwelling 9 = .ok (.iload_n 2, 1) := by decide +kernel
theorem dX2_areInOneDwelling_10 : decode cX2_areInOneDwelling 10 = .ok (.invokevirtual 124, 3) := by decide +kernel
theorem dX2_areInOneDwelling_13 : decode cX2_areInOneDwelling 13 = .ok (.ifCond .eq 26, 3) := by decide +kernel
theorem dX2_areInOneDwelling_16 : decode cX2_areInOneDwelling 16 = .ok (.aload_n 0, 1) := by decide +kernel
theorem dX2_areInOneDwelling_17 : decode cX2_areInOneDwelling 17 = .ok (.getfield 18, 3) := by decide +kernel
theorem dX2_areInOneDwelling_20 : decode cX2_areInOneDwelling 20 = .ok (.iload_n 1, 1) := by decide +kernel
theorem dX2_areInOneDwelling_21 : decode cX2_areInOneDwelling 21 = .ok (.invokestatic 116, 3) := by decide +kernel
theorem dX2_areInOneDwelling_24 : decode cX2_areInOneDwelling 24 = .ok (.aload_n 0, 1) := by decide +kernel
theorem dX2_areInOneDwelling_25 : decode cX2_areInOneDwelling 25 = .ok (.getfield 18, 3) := by decide +kernel
theorem dX2_areInOneDwelling_28 : decode cX2_areInOneDwelling 28 = .ok (.iload_n 2, 1) := by decide +kernel
theorem dX2_areInOneDwelling_29 : decode cX2_areInOneDwelling 29 = .ok (.invokestatic 116, 3) := by decide +kernel
theorem dX2_areInOneDwelling_32 : decode cX2_areInOneDwelling 32 = .ok (.if_icmp .ne 7, 3) := by decide +kernel
theorem dX2_areInOneDwelling_35 : decode cX2_areInOneDwelling 35 = .ok (.iconst 1, 1) := by decide +kernel
theorem dX2_areInOneDwelling_36 : decode cX2_areInOneDwelling 36 = .ok (.goto 4, 3) := by decide +kernel
theorem dX2_areInOneDwelling_39 : decode cX2_areInOneDwelling 39 = .ok (.iconst 0, 1) := by decide +kernel
theorem dX2_areInOneDwelling_40 : decode cX2_areInOneDwelling 40 = .ok (.ireturn, 1) := by decide +kernel
set_option maxRecDepth 20000 in
theorem ggX2_dwellingOf_X5_at : GoodIn wsX2_dwellingOf wsX5_at := goodIn_r _ [4] (by decide +kernel) (by decide +kernel)
set_option maxRecDepth 20000 in
theorem gX2_dwellingOf_X5_at_n116 : GoodIn wsX2_dwellingOf (wsX5_at) := ggX2_dwellingOf_X5_at
theorem dX2_dwellingOf_0 : decode cX2_dwellingOf 0 = .ok (.aload_n 0, 1) := by decide +kernel
theorem dX2_dwellingOf_1 : decode cX2_dwellingOf 1 = .ok (.getfield 18, 3) := by decide +kernel
theorem dX2_dwellingOf_4 : decode cX2_dwellingOf 4 = .ok (.iload_n 1, 1) := by decide +kernel
theorem dX2_dwellingOf_5 : decode cX2_dwellingOf 5 = .ok (.invokestatic 116, 3) := by decide +kernel
theorem dX2_dwellingOf_8 : decode cX2_dwellingOf 8 = .ok (.ireturn, 1) := by decide +kernel
set_option maxRecDepth 20000 in
theorem ggX2_ageOf_X2_isLiving : GoodIn wsX2_ageOf wsX2_isLiving := goodIn_r _ [7, 8, 16, 17, 18, 19, 20, 21, 22, 23, 24, 25, 26, 27, 28] (by decide +kernel) (by decide +kernel)
set_option maxRecDepth 20000 in
theorem gX2_ageOf_X2_isLiving : GoodIn wsX2_ageOf (wsV RX2 124 RX2 yX2_isLiving wsX2_isLiving) := goodIn_app (goodIn_of _ (by decide +kernel)) ggX2_ageOf_X2_isLiving
set_option maxRecDepth 20000 in
theorem ggX2_ageOf_X5_at : GoodIn wsX2_ageOf wsX5_at := goodIn_r _ [11] (by decide +kernel) (by decide +kernel)
set_option maxRecDepth 20000 in
theorem gX2_ageOf_X5_at_n116 : GoodIn wsX2_ageOf (wsX5_at) := ggX2_ageOf_X5_at
set_option maxRecDepth 20000 in
theorem ggX2_ageOf_J9_floorDiv_7cf53 : GoodIn wsX2_ageOf wsJ9_floorDiv_7cf53 := goodIn_r _ [15] (by decide +kernel) (by decide +kernel)
set_option maxRecDepth 20000 in
theorem gX2_ageOf_J9_floorDiv_7cf53 : GoodIn wsX2_ageOf (va_wsS RX2 154 yJ9_floorDiv_7cf53 wsJ9_floorDiv_7cf53) := goodIn_app (goodIn_of _ (by decide +kernel)) ggX2_ageOf_J9_floorDiv_7cf53
theorem dX2_ageOf_0 : decode cX2_ageOf 0 = .ok (.aload_n 0, 1) := by decide +kernel
theorem dX2_ageOf_1 : decode cX2_ageOf 1 = .ok (.iload_n 1, 1) := by decide +kernel
theorem dX2_ageOf_2 : decode cX2_ageOf 2 = .ok (.invokevirtual 124, 3) := by decide +kernel
theorem dX2_ageOf_5 : decode cX2_ageOf 5 = .ok (.ifCond .eq 25, 3) := by decide +kernel
theorem dX2_ageOf_8 : decode cX2_ageOf 8 = .ok (.aload_n 0, 1) := by decide +kernel
