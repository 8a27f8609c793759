theorem dX2_ageOf_9 : decode cX2_ageOf 9 = .ok (.getfield 55, 3) := by decide +kernel
theorem dX2_ageOf_12 : decode cX2_ageOf 12 = .ok (.aload_n 0, 1) := by decide +kernel
theorem dX2_ageOf_13 : decode cX2_ageOf 13 = .ok (.getfield 33, 3) := by decide +kernel
theorem dX2_ageOf_16 : decode cX2_ageOf 16 = .ok (.iload_n 1, 1) := by decide +kernel
theorem dX2_ageOf_17 : decode cX2_ageOf 17 = .ok (.invokestatic 116, 3) := by decide +kernel
theorem dX2_ageOf_20 : decode cX2_ageOf 20 = .ok (.isub, 1) := by decide +kernel
theorem dX2_ageOf_21 : decode cX2_ageOf 21 = .ok (.sipush 365, 3) := by decide +kernel
theorem dX2_ageOf_24 : decode cX2_ageOf 24 = .ok (.invokestatic 154, 3) := by decide +kernel
theorem dX2_ageOf_27 : decode cX2_ageOf 27 = .ok (.goto 4, 3) := by decide +kernel
theorem dX2_ageOf_30 : decode cX2_ageOf 30 = .ok (.iconst (-1), 1) := by decide +kernel
theorem dX2_ageOf_31 : decode cX2_ageOf 31 = .ok (.ireturn, 1) := by decide +kernel
set_option maxRecDepth 20000 in
theorem ggX2_tellOf_X5_at : GoodIn wsX2_tellOf wsX5_at := goodIn_r _ [8] (by decide +kernel) (by decide +kernel)
set_option maxRecDepth 20000 in
theorem gX2_tellOf_X5_at_n116 : GoodIn wsX2_tellOf (wsX5_at) := ggX2_tellOf_X5_at
set_option maxRecDepth 20000 in
theorem ggX2_tellOf_X2_ageOf : GoodIn wsX2_tellOf wsX2_ageOf := goodIn_r _ [13, 14, 15, 16, 17, 18, 12, 19, 1, 6, 7, 8, 20, 21, 22, 23, 52, 53, 54, 55, 56, 57, 58, 59, 60, 61, 62, 63, 64] (by decide +kernel) (by decide +kernel)
set_option maxRecDepth 20000 in
theorem gX2_tellOf_X2_ageOf : GoodIn wsX2_tellOf (wsV RX2 160 RX2 yX2_ageOf wsX2_ageOf) := goodIn_app (goodIn_of _ (by decide +kernel)) ggX2_tellOf_X2_ageOf
set_option maxRecDepth 20000 in
theorem ggX2_tellOf_X2_lowestOfHousehold : GoodIn wsX2_tellOf wsX2_lowestOfHousehold := goodIn_r _ [27, 28, 16, 17, 18, 12, 19, 1, 29, 30, 31, 32, 4, 5, 33, 34, 35, 36, 2, 6, 7, 8, 37, 38, 39, 40, 41, 42, 43, 44, 45, 46, 47, 48, 49, 50, 51, 9, 10, 11, 13, 14, 15, 20, 21, 22, 23, 52, 53, 54, 55, 56, 57, 58, 59, 60, 61, 62, 63, 64] (by decide +kernel) (by decide +kernel)
set_option maxRecDepth 20000 in
theorem gX2_tellOf_X2_lowestOfHousehold : GoodIn wsX2_tellOf (wsV RX2 164 RX2 yX2_lowestOfHousehold wsX2_lowestOfHousehold) := goodIn_app (goodIn_of _ (by decide +kernel)) ggX2_tellOf_X2_lowestOfHousehold
theorem dX2_tellOf_0 : decode cX2_tellOf 0 = .ok (.iload_n 2, 1) := by decide +kernel
theorem dX2_tellOf_1 : decode cX2_tellOf 1 = .ok (.tableswitch 90 0 5 #[39, 48, 57, 66, 75, 84], 39) := by decide +kernel
theorem dX2_tellOf_40 : decode cX2_tellOf 40 = .ok (.aload_n 0, 1) := by decide +kernel
theorem dX2_tellOf_41 : decode cX2_tellOf 41 = .ok (.getfield 15, 3) := by decide +kernel
theorem dX2_tellOf_44 : decode cX2_tellOf 44 = .ok (.iload_n 1, 1) := by decide +kernel
theorem dX2_tellOf_45 : decode cX2_tellOf 45 = .ok (.invokestatic 116, 3) := by decide +kernel
theorem dX2_tellOf_48 : decode cX2_tellOf 48 = .ok (.ireturn, 1) := by decide +kernel
theorem dX2_tellOf_49 : decode cX2_tellOf 49 = .ok (.aload_n 0, 1) := by decide +kernel
theorem dX2_tellOf_50 : decode cX2_tellOf 50 = .ok (.getfield 18, 3) := by decide +kernel
theorem dX2_tellOf_53 : decode cX2_tellOf 53 = .ok (.iload_n 1, 1) := by decide +kernel
theorem dX2_tellOf_54 : decode cX2_tellOf 54 = .ok (.invokestatic 116, 3) := by decide +kernel
theorem dX2_tellOf_57 : decode cX2_tellOf 57 = .ok (.ireturn, 1) := by decide +kernel
theorem dX2_tellOf_58 : decode cX2_tellOf 58 = .ok (.aload_n 0, 1) := by decide +kernel
theorem dX2_tellOf_59 : decode cX2_tellOf 59 = .ok (.getfield 21, 3) := by decide +kernel
theorem dX2_tellOf_62 : decode cX2_tellOf 62 = .ok (.iload_n 1, 1) := by decide +kernel
theorem dX2_tellOf_63 : decode cX2_tellOf 63 = .ok (.invokestatic 116, 3) := by decide +kernel
theorem dX2_tellOf_66 : decode cX2_tellOf 66 = .ok (.ireturn, 1) := by decide +kernel
theorem dX2_tellOf_67 : decode cX2_tellOf 67 = .ok (.aload_n 0, 1) := by decide +kernel
theorem dX2_tellOf_68 : decode cX2_tellOf 68 = .ok (.getfield 24, 3) := by decide +kernel
theorem dX2_tellOf_71 : decode cX2_tellOf 71 = .ok (.iload_n 1, 1) := by decide +kernel
theorem dX2_tellOf_72 : decode cX2_tellOf 72 = .ok (.invokestatic 116, 3) := by decide +kernel
theorem dX2_tellOf_75 : decode cX2_tellOf 75 = .ok (.ireturn, 1) := by decide +kernel
theorem dX2_tellOf_76 : decode cX2_tellOf 76 = .ok (.aload_n 0, 1) := by decide +kernel
theorem dX2_tellOf_77 : decode cX2_tellOf 77 = .ok (.getfield 27, 3) := by decide +kernel
theorem dX2_tellOf_80 : decode cX2_tellOf 80 = .ok (.iload_n 1, 1) := by decide +kernel
theorem dX2_tellOf_81 : decode cX2_tellOf 81 = .ok (.invokestatic 116, 3) := by decide +kernel
theorem dX2_tellOf_84 : decode cX2_tellOf 84 = .ok (.ireturn, 1) := by decide +kernel
theorem dX2_tellOf_85 : decode cX2_tellOf 85 = .ok (.aload_n 0, 1) := by decide +kernel
theorem dX2_tellOf_86 : decode cX2_tellOf 86 = .ok (.iload_n 1, 1) := by decide +kernel
theorem dX2_tellOf_87 : decode cX2_tellOf 87 = .ok (.invokevirtual 160, 3) := by decide +kernel
theorem dX2_tellOf_90 : decode cX2_tellOf 90 = .ok (.ireturn, 1) := by decide +kernel
theorem dX2_tellOf_91 : decode cX2_tellOf 91 = .ok (.aload_n 0, 1) := by decide +kernel
theorem dX2_tellOf_92 : decode cX2_tellOf 92 = .ok (.iload_n 1, 1) := by decide +kernel
theorem dX2_tellOf_93 : decode cX2_tellOf 93 = .ok (.invokevirtual 164, 3) := by decide +kernel
theorem dX2_tellOf_96 : decode cX2_tellOf 96 = .ok (.ireturn, 1) := by decide +kernel
set_option maxRecDepth 20000 in
theorem ggX2_lowestOfHousehold_X2_isLiving : GoodIn wsX2_lowestOfHousehold wsX2_isLiving := goodIn_r _ [6, 7, 47, 48, 49, 50, 51, 52, 53, 54, 55, 56, 57, 58, 59] (by decide +kernel) (by decide +kernel)
set_option maxRecDepth 20000 in
theorem gX2_lowestOfHousehold_X2_isLiving : GoodIn wsX2_lowestOfHousehold (wsV RX2 124 RX2 yX2_isLiving wsX2_isLiving) := goodIn_app (goodIn_of _ (by decide +kernel)) ggX2_lowestOfHousehold_X2_isLiving
set_option maxRecDepth 20000 in
theorem ggX2_lowestOfHousehold_X2_findHouseholds : GoodIn wsX2_lowestOfHousehold wsX2_findHouseholds := goodIn_r _ [11, 1, 12, 13, 14, 15, 16, 5, 17, 18, 2, 3, 4, 6, 7, 19, 20, 21, 22, 23, 24, 25, 26, 27, 28, 29, 30, 31, 32, 33, 34, 35, 36, 37, 38, 39, 40, 41, 42, 43, 44, 45, 46, 47, 48, 49, 50, 51, 52, 53, 54, 55, 56, 57, 58, 59] (by decide +kernel) (by decide +kernel)
set_option maxRecDepth 20000 in
theorem gX2_lowestOfHousehold_X2_findHouseholds : GoodIn wsX2_lowestOfHousehold (wsV RX2 167 RX2 yX2_findHouseholds wsX2_findHouseholds) := goodIn_app (goodIn_of _ (by decide +kernel)) ggX2_lowestOfHousehold_X2_findHouseholds
set_option maxRecDepth 20000 in
theorem ggX2_lowestOfHousehold_X5_at : GoodIn wsX2_lowestOfHousehold wsX5_at := goodIn_r _ [21] (by decide +kernel) (by decide +kernel)
set_option maxRecDepth 20000 in
theorem gX2_lowestOfHousehold_X5_at_n116 : GoodIn wsX2_lowestOfHousehold (wsX5_at) := ggX2_lowestOfHousehold_X5_at
theorem dX2_lowestOfHousehold_0 : decode cX2_lowestOfHousehold 0 = .ok (.aload_n 0, 1) := by decide +kernel
theorem dX2_lowestOfHousehold_1 : decode cX2_lowestOfHousehold 1 = .ok (.iload_n 1, 1) := by decide +kernel
theorem dX2_lowestOfHousehold_2 : decode cX2_lowestOfHousehold 2 = .ok (.invokevirtual 124, 3) := by decide +kernel
theorem dX2_lowestOfHousehold_5 : decode cX2_lowestOfHousehold 5 = .ok (.ifCond .ne 5, 3) := by decide +kernel
theorem dX2_lowestOfHousehold_8 : decode cX2_lowestOfHousehold 8 = .ok (.iconst (-1), 1) := by decide +kernel
theorem dX2_lowestOfHousehold_9 : decode cX2_lowestOfHousehold 9 = .ok (.ireturn, 1) := by decide +kernel
theorem dX2_lowestOfHousehold_10 : decode cX2_lowestOfHousehold 10 = .ok (.aload_n 0, 1) := by decide +kernel
theorem dX2_lowestOfHousehold_11 : decode cX2_lowestOfHousehold 11 = .ok (.invokevirtual 167, 3) := by decide +kernel
theorem dX2_lowestOfHousehold_14 : decode cX2_lowestOfHousehold 14 = .ok (.aload_n 0, 1) := by decide +kernel
theorem dX2_lowestOfHousehold_15 : decode cX2_lowestOfHousehold 15 = .ok (.getfield 40, 3) := by decide +kernel
theorem dX2_lowestOfHousehold_18 : decode cX2_lowestOfHousehold 18 = .ok (.iload_n 1, 1) := by decide +kernel
theorem dX2_lowestOfHousehold_19 : decode cX2_lowestOfHousehold 19 = .ok (.invokestatic 116, 3) := by decide +kernel
theorem dX2_lowestOfHousehold_22 : decode cX2_lowestOfHousehold 22 = .ok (.ireturn, 1) := by decide +kernel
set_option maxRecDepth 20000 in
theorem ggX2_countHouseholds_X2_findHouseholds : GoodIn wsX2_countHouseholds wsX2_findHouseholds := goodIn_r _ [7, 2, 8, 9, 10, 11, 12, 6, 13, 1, 14, 15, 16, 17, 18, 19, 20, 21, 22, 23, 24, 25, 26, 27, 28, 29, 30, 31, 32, 33, 34, 35, 36, 37, 38, 39, 40, 41, 42, 43, 44, 45, 46, 47, 48, 49, 50, 51, 52, 53, 54, 55, 56, 57, 58, 59] (by decide +kernel) (by decide +kernel)
set_option maxRecDepth 20000 in
theorem gX2_countHouseholds_X2_findHouseholds : GoodIn wsX2_countHouseholds (wsV RX2 167 RX2 yX2_findHouseholds wsX2_findHouseholds) := goodIn_app (goodIn_of _ (by decide +kernel)) ggX2_countHouseholds_X2_findHouseholds
set_option maxRecDepth 20000 in
theorem ggX2_countHouseholds_X2_isLiving : GoodIn wsX2_countHouseholds wsX2_isLiving := goodIn_r _ [17, 18, 47, 48, 49, 50, 51, 52, 53, 54, 55, 56, 57, 58, 59] (by decide +kernel) (by decide +kernel)
set_option maxRecDepth 20000 in
theorem gX2_countHouseholds_X2_isLiving : GoodIn wsX2_countHouseholds (wsV RX2 124 RX2 yX2_isLiving wsX2_isLiving) := goodIn_app (goodIn_of _ (by decide +kernel)) ggX2_countHouseholds_X2_isLiving
theorem dX2_countHouseholds_0 : decode cX2_countHouseholds 0 = .ok (.aload_n 0, 1) := by decide +kernel
theorem dX2_countHouseholds_1 : decode cX2_countHouseholds 1 = .ok (.invokevirtual 167, 3) := by decide +kernel
theorem dX2_countHouseholds_4 : decode cX2_countHouseholds 4 = .ok (.iconst 0, 1) := by decide +kernel
theorem dX2_countHouseholds_5 : decode cX2_countHouseholds 5 = .ok (.istore_n 2, 1) := by decide +kernel
theorem dX2_countHouseholds_6 : decode cX2_countHouseholds 6 = .ok (.iconst 0, 1) := by decide +kernel
theorem dX2_countHouseholds_7 : decode cX2_countHouseholds 7 = .ok (.istore_n 3, 1) := by decide +kernel
theorem dX2_countHouseholds_8 : decode cX2_countHouseholds 8 = .ok (.iload_n 3, 1) := by decide +kernel
theorem dX2_countHouseholds_9 : decode cX2_countHouseholds 9 = .ok (.bipush 24, 2) := by decide +kernel
theorem dX2_countHouseholds_11 : decode cX2_countHouseholds 11 = .ok (.if_icmp .ge 40, 3) := by decide +kernel
theorem dX2_countHouseholds_14 : decode cX2_countHouseholds 14 = .ok (.aload_n 0, 1) := by decide +kernel
theorem dX2_countHouseholds_15 : decode cX2_countHouseholds 15 = .ok (.iload_n 3, 1) := by decide +kernel
theorem dX2_countHouseholds_16 : decode cX2_countHouseholds 16 = .ok (.invokevirtual 124, 3) := by decide +kernel
theorem dX2_countHouseholds_19 : decode cX2_countHouseholds 19 = .ok (.ifCond .eq 26, 3) := by decide +kernel
theorem dX2_countHouseholds_22 : decode cX2_countHouseholds 22 = .ok (.aload_n 0, 1) := by decide +kernel
theorem dX2_countHouseholds_23 : decode cX2_countHouseholds 23 = .ok (.getfield 18, 3) := by decide +kernel
theorem dX2_countHouseholds_26 : decode cX2_countHouseholds 26 = .ok (.iload_n 3, 1) := by decide +kernel
theorem dX2_countHouseholds_27 : decode cX2_countHouseholds 27 = .ok (.iaload, 1) := by decide +kernel
theorem dX2_countHouseholds_28 : decode cX2_countHouseholds 28 = .ok (.iload_n 1, 1) := by decide +kernel
theorem dX2_countHouseholds_29 : decode cX2_countHouseholds 29 = .ok (.if_icmp .ne 16, 3) := by decide +kernel
theorem dX2_countHouseholds_32 : decode cX2_countHouseholds 32 = .ok (.aload_n 0, 1) := by decide +kernel
theorem dX2_countHouseholds_33 : decode cX2_countHouseholds 33 = .ok (.getfield 40, 3) := by decide +kernel
theorem dX2_countHouseholds_36 : decode cX2_countHouseholds 36 = .ok (.iload_n 3, 1) := by decide +kernel
theorem dX2_countHouseholds_37 : decode cX2_countHouseholds 37 = .ok (.iaload, 1) := by decide +kernel
theorem dX2_countHouseholds_38 : decode cX2_countHouseholds 38 = .ok (.iload_n 3, 1) := by decide +kernel
theorem dX2_countHouseholds_39 : decode cX2_countHouseholds 39 = .ok (.if_icmp .ne 6, 3) := by decide +kernel
theorem dX2_countHouseholds_42 : decode cX2_countHouseholds 42 = .ok (.iinc 2 1, 3) := by decide +kernel
theorem dX2_countHouseholds_45 : decode cX2_countHouseholds 45 = .ok (.iinc 3 1, 3) := by decide +kernel
theorem dX2_countHouseholds_48 : decode cX2_countHouseholds 48 = .ok (.goto (-40), 3) := by decide +kernel
theorem dX2_countHouseholds_51 : decode cX2_countHouseholds 51 = .ok (.iload_n 2, 1) := by decide +kernel
theorem dX2_countHouseholds_52 : decode cX2_countHouseholds 52 = .ok (.ireturn, 1) := by decide +kernel
set_option maxRecDepth 20000 in
theorem ggX2_findHouseholds_X2_areInOneDwelling : GoodIn wsX2_findHouseholds wsX2_areInOneDwelling := goodIn_r _ [8, 9, 10, 11, 12, 7, 13, 14, 15, 16, 17, 43, 44, 45, 46, 47, 48, 49, 50, 51, 52, 53, 54, 55] (by decide +kernel) (by decide +kernel)
set_option maxRecDepth 20000 in
theorem gX2_findHouseholds_X2_areInOneDwelling : GoodIn wsX2_findHouseholds (wsV RX2 170 RX2 yX2_areInOneDwelling wsX2_areInOneDwelling) := goodIn_app (goodIn_of _ (by decide +kernel)) ggX2_findHouseholds_X2_areInOneDwelling
set_option maxRecDepth 20000 in
theorem ggX2_findHouseholds_X2_uniteHouseholds : GoodIn wsX2_findHouseholds wsX2_uniteHouseholds := goodIn_r _ [21, 1, 22, 23, 24, 25, 26, 27, 28, 15, 16, 17, 43, 44, 45, 46, 47, 48, 49, 50, 51, 52, 53, 54, 55] (by decide +kernel) (by decide +kernel)
set_option maxRecDepth 20000 in
theorem gX2_findHouseholds_X2_uniteHouseholds : GoodIn wsX2_findHouseholds (wsV RX2 173 RX2 yX2_uniteHouseholds wsX2_uniteHouseholds) := goodIn_app (goodIn_of _ (by decide +kernel)) ggX2_findHouseholds_X2_uniteHouseholds
set_option maxRecDepth 20000 in
theorem ggX2_findHouseholds_X2_isChildAtHome : GoodIn wsX2_findHouseholds wsX2_isChildAtHome := goodIn_r _ [32, 3, 2, 15, 16, 17, 4, 5, 6, 7, 8, 9, 10, 11, 12, 13, 14, 33, 34, 35, 36, 37, 38, 39, 40, 41, 42, 43, 44, 45, 46, 47, 48, 49, 50, 51, 52, 53, 54, 55] (by decide +kernel) (by decide +kernel)
set_option maxRecDepth 20000 in
theorem gX2_findHouseholds_X2_isChildAtHome : GoodIn wsX2_findHouseholds (wsV RX2 176 RX2 yX2_isChildAtHome wsX2_isChildAtHome) := goodIn_app (goodIn_of _ (by decide +kernel)) ggX2_findHouseholds_X2_isChildAtHome
theorem dX2_findHouseholds_0 : decode cX2_findHouseholds 0 = .ok (.iconst 0, 1) := by decide +kernel
theorem dX2_findHouseholds_1 : decode cX2_findHouseholds 1 = .ok (.istore_n 1, 1) := by decide +kernel
theorem dX2_findHouseholds_2 : decode cX2_findHouseholds 2 = .ok (.iload_n 1, 1) := by decide +kernel
theorem dX2_findHouseholds_3 : decode cX2_findHouseholds 3 = .ok (.bipush 24, 2) := by decide +kernel
theorem dX2_findHouseholds_5 : decode cX2_findHouseholds 5 = .ok (.if_icmp .ge 16, 3) := by decide +kernel
theorem dX2_findHouseholds_8 : decode cX2_findHouseholds 8 = .ok (.aload_n 0, 1) := by decide +kernel
theorem dX2_findHouseholds_9 : decode cX2_findHouseholds 9 = .ok (.getfield 40, 3) := by decide +kernel
theorem dX2_findHouseholds_12 : decode cX2_findHouseholds 12 = .ok (.iload_n 1, 1) := by decide +kernel
theorem dX2_findHouseholds_13 : decode cX2_findHouseholds 13 = .ok (.iload_n 1, 1) := by decide +kernel
theorem dX2_findHouseholds_14 : decode cX2_findHouseholds 14 = .ok (.iastore, 1) := by decide +kernel
theorem dX2_findHouseholds_15 : decode cX2_findHouseholds 15 = .ok (.iinc 1 1, 3) := by decide +kernel
theorem dX2_findHouseholds_18 : decode cX2_findHouseholds 18 = .ok (.goto (-16), 3) := by decide +kernel
theorem dX2_findHouseholds_21 : decode cX2_findHouseholds 21 = .ok (.iconst 0, 1) := by decide +kernel
theorem dX2_findHouseholds_22 : decode cX2_findHouseholds 22 = .ok (.istore_n 1, 1) := by decide +kernel
theorem dX2_findHouseholds_23 : decode cX2_findHouseholds 23 = .ok (.iload_n 1, 1) := by decide +kernel
theorem dX2_findHouseholds_24 : decode cX2_findHouseholds 24 = .ok (.bipush 24, 2) := by decide +kernel
theorem dX2_findHouseholds_26 : decode cX2_findHouseholds 26 = .ok (.if_icmp .ge 53, 3) := by decide +kernel
theorem dX2_findHouseholds_29 : decode cX2_findHouseholds 29 = .ok (.aload_n 0, 1) := by decide +kernel
theorem dX2_findHouseholds_30 : decode cX2_findHouseholds 30 = .ok (.iload_n 1, 1) := by decide +kernel
theorem dX2_findHouseholds_31 : decode cX2_findHouseholds 31 = .ok (.aload_n 0, 1) := by decide +kernel
theorem dX2_findHouseholds_32 : decode cX2_findHouseholds 32 = .ok (.getfield 24, 3) := by decide +kernel
theorem dX2_findHouseholds_35 : decode cX2_findHouseholds 35 = .ok (.iload_n 1, 1) := by decide +kernel
theorem dX2_findHouseholds_36 : decode cX2_findHouseholds 36 = .ok (.iaload, 1) := by decide +kernel
theorem dX2_findHouseholds_37 : decode cX2_findHouseholds 37 = .ok (.invokevirtual 170, 3) := by decide +kernel
theorem dX2_findHouseholds_40 : decode cX2_findHouseholds 40 = .ok (.ifCond .eq 14, 3) := by decide +kernel
theorem dX2_findHouseholds_43 : decode cX2_findHouseholds 43 = .ok (.aload_n 0, 1) := by decide +kernel
theorem dX2_findHouseholds_44 : decode cX2_findHouseholds 44 = .ok (.iload_n 1, 1) := by decide +kernel
theorem dX2_findHouseholds_45 : decode cX2_findHouseholds 45 = .ok (.aload_n 0, 1) := by decide +kernel
theorem dX2_findHouseholds_46 : decode cX2_findHouseholds 46 = .ok (.getfield 24, 3) := by decide +kernel
theorem dX2_findHouseholds_49 : decode cX2_findHouseholds 49 = .ok (.iload_n 1, 1) := by decide +kernel
theorem dX2_findHouseholds_50 : decode cX2_findHouseholds 50 = .ok (.iaload, 1) := by decide +kernel
theorem dX2_findHouseholds_51 : decode cX2_findHouseholds 51 = .ok (.invokevirtual 173, 3) := by decide +kernel
theorem dX2_findHouseholds_54 : decode cX2_findHouseholds 54 = .ok (.aload_n 0, 1) := by decide +kernel
theorem dX2_findHouseholds_55 : decode cX2_findHouseholds 55 = .ok (.iload_n 1, 1) := by decide +kernel
theorem dX2_findHouseholds_56 : decode cX2_findHouseholds 56 = .ok (.invokevirtual 176, 3) := by decide +kernel
theorem dX2_findHouseholds_59 : decode cX2_findHouseholds 59 = .ok (.ifCond .eq 14, 3) := by decide +kernel
theorem dX2_findHouseholds_62 : decode cX2_findHouseholds 62 = .ok (.aload_n 0, 1) := by decide +kernel
theorem dX2_findHouseholds_63 : decode cX2_findHouseholds 63 = .ok (.iload_n 1, 1) := by decide +kernel
theorem dX2_findHouseholds_64 : decode cX2_findHouseholds 64 = .ok (.aload_n 0, 1) := by decide +kernel
theorem dX2_findHouseholds_65 : decode cX2_findHouseholds 65 = .ok (.getfield 27, 3) := by decide +kernel
theorem dX2_findHouseholds_68 : decode cX2_findHouseholds 68 = .ok (.iload_n 1, 1) := by decide +kernel
theorem dX2_findHouseholds_69 : decode cX2_findHouseholds 69 = .ok (.iaload, 1) := by decide +kernel
theorem dX2_findHouseholds_70 : decode cX2_findHouseholds 70 = .ok (.invokevirtual 173, 3) := by decide +kernel
theorem dX2_findHouseholds_73 : decode cX2_findHouseholds 73 = .ok (.iinc 1 1, 3) := by decide +kernel
theorem dX2_findHouseholds_76 : decode cX2_findHouseholds 76 = .ok (.goto (-53), 3) := by decide +kernel
theorem dX2_findHouseholds_79 : decode cX2_findHouseholds 79 = .ok (.return_, 1) := by decide +kernel
set_option maxRecDepth 20000 in
theorem ggX2_isChildAtHome_X5_at : GoodIn wsX2_isChildAtHome wsX5_at := goodIn_r _ [5] (by decide +kernel) (by decide +kernel)
set_option maxRecDepth 20000 in
theorem gX2_isChildAtHome_X5_at_n116 : GoodIn wsX2_isChildAtHome (wsX5_at) := ggX2_isChildAtHome_X5_at
set_option maxRecDepth 20000 in
theorem ggX2_isChildAtHome_X2_areInOneDwelling : GoodIn wsX2_isChildAtHome wsX2_areInOneDwelling := goodIn_r _ [10, 11, 12, 13, 14, 9, 15, 16, 3, 4, 5, 27, 28, 29, 30, 31, 32, 33, 34, 35, 36, 37, 38, 39] (by decide +kernel) (by decide +kernel)
set_option maxRecDepth 20000 in
theorem gX2_isChildAtHome_X2_areInOneDwelling : GoodIn wsX2_isChildAtHome (wsV RX2 170 RX2 yX2_areInOneDwelling wsX2_areInOneDwelling) := goodIn_app (goodIn_of _ (by decide +kernel)) ggX2_isChildAtHome_X2_areInOneDwelling
set_option maxRecDepth 20000 in
theorem ggX2_isChildAtHome_X2_ageOf : GoodIn wsX2_isChildAtHome wsX2_ageOf := goodIn_r _ [20, 21, 22, 12, 13, 14, 9, 15, 16, 3, 4, 5, 23, 24, 25, 26, 27, 28, 29, 30, 31, 32, 33, 34, 35, 36, 37, 38, 39] (by decide +kernel) (by decide +kernel)
set_option maxRecDepth 20000 in
theorem gX2_isChildAtHome_X2_ageOf : GoodIn wsX2_isChildAtHome (wsV RX2 160 RX2 yX2_ageOf wsX2_ageOf) := goodIn_app (goodIn_of _ (by decide +kernel)) ggX2_isChildAtHome_X2_ageOf
theorem dX2_isChildAtHome_0 : decode cX2_isChildAtHome 0 = .ok (.aload_n 0, 1) := by decide +kernel
theorem dX2_isChildAtHome_1 : decode cX2_isChildAtHome 1 = .ok (.iload_n 1, 1) := by decide +kernel
theorem dX2_isChildAtHome_2 : decode cX2_isChildAtHome 2 = .ok (.aload_n 0, 1) := by decide +kernel
theorem dX2_isChildAtHome_3 : decode cX2_isChildAtHome 3 = .ok (.getfield 27, 3) := by decide +kernel
theorem dX2_isChildAtHome_6 : decode cX2_isChildAtHome 6 = .ok (.iload_n 1, 1) := by decide +kernel
theorem dX2_isChildAtHome_7 : decode cX2_isChildAtHome 7 = .ok (.invokestatic 116, 3) := by decide +kernel
theorem dX2_isChildAtHome_10 : decode cX2_isChildAtHome 10 = .ok (.invokevirtual 170, 3) := by decide +kernel
theorem dX2_isChildAtHome_13 : decode cX2_isChildAtHome 13 = .ok (.ifCond .eq 29, 3) := by decide +kernel
theorem dX2_isChildAtHome_16 : decode cX2_isChildAtHome 16 = .ok (.aload_n 0, 1) := by decide +kernel
theorem dX2_isChildAtHome_17 : decode cX2_isChildAtHome 17 = .ok (.getfield 24, 3) := by decide +kernel
theorem dX2_isChildAtHome_20 : decode cX2_isChildAtHome 20 = .ok (.iload_n 1, 1) := by decide +kernel
theorem dX2_isChildAtHome_21 : decode cX2_isChildAtHome 21 = .ok (.invokestatic 116, 3) := by decide +kernel
theorem dX2_isChildAtHome_24 : decode cX2_isChildAtHome 24 = .ok (.iconst (-1), 1) := by decide +kernel
theorem dX2_isChildAtHome_25 : decode cX2_isChildAtHome 25 = .ok (.if_icmp .ne 17, 3) := by decide +kernel
theorem dX2_isChildAtHome_28 : decode cX2_isChildAtHome 28 = .ok (.aload_n 0, 1) := by decide +kernel
theorem dX2_isChildAtHome_29 : decode cX2_isChildAtHome 29 = .ok (.iload_n 1, 1) := by decide +kernel
theorem dX2_isChildAtHome_30 : decode cX2_isChildAtHome 30 = .ok (.invokevirtual 160, 3) := by decide +kernel
theorem dX2_isChildAtHome_33 : decode cX2_isChildAtHome 33 = .ok (.bipush 18, 2) := by decide +kernel
theorem dX2_isChildAtHome_35 : decode cX2_isChildAtHome 35 = .ok (.if_icmp .ge 7, 3) := by decide +kernel
theorem dX2_isChildAtHome_38 : decode cX2_isChildAtHome 38 = .ok (.iconst 1, 1) := by decide +kernel
theorem dX2_isChildAtHome_39 : decode cX2_isChildAtHome 39 = .ok (.goto 4, 3) := by decide +kernel
theorem dX2_isChildAtHome_42 : decode cX2_isChildAtHome 42 = .ok (.iconst 0, 1) := by decide +kernel
theorem dX2_isChildAtHome_43 : decode cX2_isChildAtHome 43 = .ok (.ireturn, 1) := by decide +kernel
set_option maxRecDepth 20000 in
theorem ggX2_uniteHouseholds_X5_at : GoodIn wsX2_uniteHouseholds wsX5_at := goodIn_r _ [11] (by decide +kernel) (by decide +kernel)
set_option maxRecDepth 20000 in
theorem gX2_uniteHouseholds_X5_at_n116 : GoodIn wsX2_uniteHouseholds (wsX5_at) := ggX2_uniteHouseholds_X5_at
theorem dX2_uniteHouseholds_0 : decode cX2_uniteHouseholds 0 = .ok (.aload_n 0, 1) := by decide +kernel
theorem dX2_uniteHouseholds_1 : decode cX2_uniteHouseholds 1 = .ok (.getfield 40, 3) := by decide +kernel
theorem dX2_uniteHouseholds_4 : decode cX2_uniteHouseholds 4 = .ok (.iload_n 1, 1) := by decide +kernel
theorem dX2_uniteHouseholds_5 : decode cX2_uniteHouseholds 5 = .ok (.invokestatic 116, 3) := by decide +kernel
theorem dX2_uniteHouseholds_8 : decode cX2_uniteHouseholds 8 = .ok (.aload_n 0, 1) := by decide +kernel
theorem dX2_uniteHouseholds_9 : decode cX2_uniteHouseholds 9 = .ok (.getfield 40, 3) := by decide +kernel
theorem dX2_uniteHouseholds_12 : decode cX2_uniteHouseholds 12 = .ok (.iload_n 2, 1) := by decide +kernel
theorem dX2_uniteHouseholds_13 : decode cX2_uniteHouseholds 13 = .ok (.invokestatic 116, 3) := by decide +kernel
theorem dX2_uniteHouseholds_16 : decode cX2_uniteHouseholds 16 = .ok (.invokestatic 179, 3) := by decide +kernel
theorem dX2_uniteHouseholds_19 : decode cX2_uniteHouseholds 19 = .ok (.istore_n 3, 1) := by decide +kernel
theorem dX2_uniteHouseholds_20 : decode cX2_uniteHouseholds 20 = .ok (.aload_n 0, 1) := by decide +kernel
theorem dX2_uniteHouseholds_21 : decode cX2_uniteHouseholds 21 = .ok (.getfield 40, 3) := by decide +kernel
theorem dX2_uniteHouseholds_24 : decode cX2_uniteHouseholds 24 = .ok (.iload_n 1, 1) := by decide +kernel
theorem dX2_uniteHouseholds_25 : decode cX2_uniteHouseholds 25 = .ok (.invokestatic 116, 3) := by decide +kernel
theorem dX2_uniteHouseholds_28 : decode cX2_uniteHouseholds 28 = .ok (.aload_n 0, 1) := by decide +kernel
theorem dX2_uniteHouseholds_29 : decode cX2_uniteHouseholds 29 = .ok (.getfield 40, 3) := by decide +kernel
theorem dX2_uniteHouseholds_32 : decode cX2_uniteHouseholds 32 = .ok (.iload_n 2, 1) := by decide +kernel
theorem dX2_uniteHouseholds_33 : decode cX2_uniteHouseholds 33 = .ok (.invokestatic 116, 3) := by decide +kernel
theorem dX2_uniteHouseholds_36 : decode cX2_uniteHouseholds 36 = .ok (.invokestatic 182, 3) := by decide +kernel
theorem dX2_uniteHouseholds_39 : decode cX2_uniteHouseholds 39 = .ok (.istore 4, 2) := by decide +kernel
theorem dX2_uniteHouseholds_41 : decode cX2_uniteHouseholds 41 = .ok (.iconst 0, 1) := by decide +kernel
theorem dX2_uniteHouseholds_42 : decode cX2_uniteHouseholds 42 = .ok (.istore 5, 2) := by decide +kernel
theorem dX2_uniteHouseholds_44 : decode cX2_uniteHouseholds 44 = .ok (.iload 5, 2) := by decide +kernel
theorem dX2_uniteHouseholds_46 : decode cX2_uniteHouseholds 46 = .ok (.bipush 24, 2) := by decide +kernel
theorem dX2_uniteHouseholds_48 : decode cX2_uniteHouseholds 48 = .ok (.if_icmp .ge 29, 3) := by decide +kernel
theorem dX2_uniteHouseholds_51 : decode cX2_uniteHouseholds 51 = .ok (.aload_n 0, 1) := by decide +kernel
theorem dX2_uniteHouseholds_52 : decode cX2_uniteHouseholds 52 = .ok (.getfield 40, 3) := by decide +kernel
theorem dX2_uniteHouseholds_55 : decode cX2_uniteHouseholds 55 = .ok (.iload 5, 2) := by decide +kernel
theorem dX2_uniteHouseholds_57 : decode cX2_uniteHouseholds 57 = .ok (.iaload, 1) := by decide +kernel
theorem dX2_uniteHouseholds_58 : decode cX2_uniteHouseholds 58 = .ok (.iload 4, 2) := by decide +kernel
theorem dX2_uniteHouseholds_60 : decode cX2_uniteHouseholds 60 = .ok (.if_icmp .ne 11, 3) := by decide +kernel
theorem dX2_uniteHouseholds_63 : decode cX2_uniteHouseholds 63 = .ok (.aload_n 0, 1) := by decide +kernel
theorem dX2_uniteHouseholds_64 : decode cX2_uniteHouseholds 64 = .ok (.getfield 40, 3) := by decide +kernel
theorem dX2_uniteHouseholds_67 : decode cX2_uniteHouseholds 67 = .ok (.iload 5, 2) := by decide +kernel
theorem dX2_uniteHouseholds_69 : decode cX2_uniteHouseholds 69 = .ok (.iload_n 3, 1) := by decide +kernel
theorem dX2_uniteHouseholds_70 : decode cX2_uniteHouseholds 70 = .ok (.iastore, 1) := by decide +kernel
theorem dX2_uniteHouseholds_71 : decode cX2_uniteHouseholds 71 = .ok (.iinc 5 1, 3) := by decide +kernel
theorem dX2_uniteHouseholds_74 : decode cX2_uniteHouseholds 74 = .ok (.goto (-30), 3) := by decide +kernel
theorem dX2_uniteHouseholds_77 : decode cX2_uniteHouseholds 77 = .ok (.return_, 1) := by decide +kernel
set_option maxRecDepth 20000 in
theorem ggX2_countLivingUnder_X2_isLiving : GoodIn wsX2_countLivingUnder wsX2_isLiving := goodIn_r _ [6, 7, 15, 16, 17, 18, 19, 20, 21, 22, 23, 24, 25, 26, 27] (by decide +kernel) (by decide +kernel)
set_option maxRecDepth 20000 in
theorem gX2_countLivingUnder_X2_isLiving : GoodIn wsX2_countLivingUnder (wsV RX2 124 RX2 yX2_isLiving wsX2_isLiving) := goodIn_app (goodIn_of _ (by decide +kernel)) ggX2_countLivingUnder_X2_isLiving
set_option maxRecDepth 20000 in
theorem ggX2_countLivingUnder_X5_officeOf : GoodIn wsX2_countLivingUnder wsX5_officeOf := goodIn_r _ [10, 11, 12, 13, 14] (by decide +kernel) (by decide +kernel)
set_option maxRecDepth 20000 in
theorem gX2_countLivingUnder_X5_officeOf_n185 : GoodIn wsX2_countLivingUnder (wsX5_officeOf) := ggX2_countLivingUnder_X5_officeOf
theorem dX2_countLivingUnder_0 : decode cX2_countLivingUnder 0 = .ok (.iconst 0, 1) := by decide +kernel
theorem dX2_countLivingUnder_1 : decode cX2_countLivingUnder 1 = .ok (.istore_n 2, 1) := by decide +kernel
theorem dX2_countLivingUnder_2 : decode cX2_countLivingUnder 2 = .ok (.iconst 0, 1) := by decide +kernel
theorem dX2_countLivingUnder_3 : decode cX2_countLivingUnder 3 = .ok (.istore_n 3, 1) := by decide +kernel
theorem dX2_countLivingUnder_4 : decode cX2_countLivingUnder 4 = .ok (.iload_n 3, 1) := by decide +kernel
theorem dX2_countLivingUnder_5 : decode cX2_countLivingUnder 5 = .ok (.bipush 24, 2) := by decide +kernel
theorem dX2_countLivingUnder_7 : decode cX2_countLivingUnder 7 = .ok (.if_icmp .ge 33, 3) := by decide +kernel
theorem dX2_countLivingUnder_10 : decode cX2_countLivingUnder 10 = .ok (.aload_n 0, 1) := by decide +kernel
theorem dX2_countLivingUnder_11 : decode cX2_countLivingUnder 11 = .ok (.iload_n 3, 1) := by decide +kernel
theorem dX2_countLivingUnder_12 : decode cX2_countLivingUnder 12 = .ok (.invokevirtual 124, 3) := by decide +kernel
theorem dX2_countLivingUnder_15 : decode cX2_countLivingUnder 15 = .ok (.ifCond .eq 19, 3) := by decide +kernel
theorem dX2_countLivingUnder_18 : decode cX2_countLivingUnder 18 = .ok (.aload_n 0, 1) := by decide +kernel
theorem dX2_countLivingUnder_19 : decode cX2_countLivingUnder 19 = .ok (.getfield 18, 3) := by decide +kernel
theorem dX2_countLivingUnder_22 : decode cX2_countLivingUnder 22 = .ok (.iload_n 3, 1) := by decide +kernel
theorem dX2_countLivingUnder_23 : decode cX2_countLivingUnder 23 = .ok (.iaload, 1) := by decide +kernel
theorem dX2_countLivingUnder_24 : decode cX2_countLivingUnder 24 = .ok (.invokestatic 185, 3) := by decide +kernel
theorem dX2_countLivingUnder_27 : decode cX2_countLivingUnder 27 = .ok (.iload_n 1, 1) := by decide +kernel
theorem dX2_countLivingUnder_28 : decode cX2_countLivingUnder 28 = .ok (.if_icmp .ne 6, 3) := by decide +kernel
theorem dX2_countLivingUnder_31 : decode cX2_countLivingUnder 31 = .ok (.iinc 2 1, 3) := by decide +kernel
theorem dX2_countLivingUnder_34 : decode cX2_countLivingUnder 34 = .ok (.iinc 3 1, 3) := by decide +kernel
theorem dX2_countLivingUnder_37 : decode cX2_countLivingUnder 37 = .ok (.goto (-33), 3) := by decide +kernel
theorem dX2_countLivingUnder_40 : decode cX2_countLivingUnder 40 = .ok (.iload_n 2, 1) := by decide +kernel
theorem dX2_countLivingUnder_41 : decode cX2_countLivingUnder 41 = .ok (.ireturn, 1) := by decide +kernel
set_option maxRecDepth 20000 in
theorem ggX2_isSameIn_X5_at : GoodIn wsX2_isSameIn wsX5_at := goodIn_r _ [8] (by decide +kernel) (by decide +kernel)
set_option maxRecDepth 20000 in
theorem gX2_isSameIn_X5_at_n116 : GoodIn wsX2_isSameIn (wsX5_at) := ggX2_isSameIn_X5_at
theorem dX2_isSameIn_0 : decode cX2_isSameIn 0 = .ok (.aload_n 0, 1) := by decide +kernel
theorem dX2_isSameIn_1 : decode cX2_isSameIn 1 = .ok (.getfield 15, 3) := by decide +kernel
theorem dX2_isSameIn_4 : decode cX2_isSameIn 4 = .ok (.iload_n 2, 1) := by decide +kernel
theorem dX2_isSameIn_5 : decode cX2_isSameIn 5 = .ok (.invokestatic 116, 3) := by decide +kernel
theorem dX2_isSameIn_8 : decode cX2_isSameIn 8 = .ok (.aload_n 1, 1) := by decide +kernel
theorem dX2_isSameIn_9 : decode cX2_isSameIn 9 = .ok (.getfield 15, 3) := by decide +kernel
theorem dX2_isSameIn_12 : decode cX2_isSameIn 12 = .ok (.iload_n 2, 1) := by decide +kernel
theorem dX2_isSameIn_13 : decode cX2_isSameIn 13 = .ok (.invokestatic 116, 3) := by decide +kernel
theorem dX2_isSameIn_16 : decode cX2_isSameIn 16 = .ok (.if_icmp .ne 83, 3) := by decide +kernel
theorem dX2_isSameIn_19 : decode cX2_isSameIn 19 = .ok (.aload_n 0, 1) := by decide +kernel
theorem dX2_isSameIn_20 : decode cX2_isSameIn 20 = .ok (.getfield 18, 3) := by decide +kernel
theorem dX2_isSameIn_23 : decode cX2_isSameIn 23 = .ok (.iload_n 2, 1) := by decide +kernel
theorem dX2_isSameIn_24 : decode cX2_isSameIn 24 = .ok (.invokestatic 116, 3) := by decide +kernel
theorem dX2_isSameIn_27 : decode cX2_isSameIn 27 = .ok (.aload_n 1, 1) := by decide +kernel
theorem dX2_isSameIn_28 : decode cX2_isSameIn 28 = .ok (.getfield 18, 3) := by decide +kernel
theorem dX2_isSameIn_31 : decode cX2_isSameIn 31 = .ok (.iload_n 2, 1) := by decide +kernel
theorem dX2_isSameIn_32 : decode cX2_isSameIn 32 = .ok (.invokestatic 116, 3) := by decide +kernel
theorem dX2_isSameIn_35 : decode cX2_isSameIn 35 = .ok (.if_icmp .ne 64, 3) := by decide +kernel
theorem dX2_isSameIn_38 : decode cX2_isSameIn 38 = .ok (.aload_n 0, 1) := by decide +kernel
theorem dX2_isSameIn_39 : decode cX2_isSameIn 39 = .ok (.getfield 21, 3) := by decide +kernel
theorem dX2_isSameIn_42 : decode cX2_isSameIn 42 = .ok (.iload_n 2, 1) := by decide +kernel
theorem dX2_isSameIn_43 : decode cX2_isSameIn 43 = .ok (.invokestatic 116, 3) := by decide +kernel
theorem dX2_isSameIn_46 : decode cX2_isSameIn 46 = .ok (.aload_n 1, 1) := by decide +kernel
theorem dX2_isSameIn_47 : decode cX2_isSameIn 47 = .ok (.getfield 21, 3) := by decide +kernel
theorem dX2_isSameIn_50 : decode cX2_isSameIn 50 = .ok (.iload_n 2, 1) := by decide +kernel
theorem dX2_isSameIn_51 : decode cX2_isSameIn 51 = .ok (.invokestatic 116, 3) := by decide +kernel
theorem dX2_isSameIn_54 : decode cX2_isSameIn 54 = .ok (.if_icmp .ne 45, 3) := by decide +kernel
theorem dX2_isSameIn_57 : decode cX2_isSameIn 57 = .ok (.aload_n 0, 1) := by decide +kernel
theorem dX2_isSameIn_58 : decode cX2_isSameIn 58 = .ok (.getfield 24, 3) := by decide +kernel
theorem dX2_isSameIn_61 : decode cX2_isSameIn 61 = .ok (.iload_n 2, 1) := by decide +kernel
theorem dX2_isSameIn_62 : decode cX2_isSameIn 62 = .ok (.invokestatic 116, 3) := by decide +kernel
theorem dX2_isSameIn_65 : decode cX2_isSameIn 65 = .ok (.aload_n 1, 1) := by decide +kernel
theorem dX2_isSameIn_66 : decode cX2_isSameIn 66 = .ok (.getfield 24, 3) := by decide +kernel
theorem dX2_isSameIn_69 : decode cX2_isSameIn 69 = .ok (.iload_n 2, 1) := by decide +kernel
theorem dX2_isSameIn_70 : decode cX2_isSameIn 70 = .ok (.invokestatic 116, 3) := by decide +kernel
theorem dX2_isSameIn_73 : decode cX2_isSameIn 73 = .ok (.if_icmp .ne 26, 3) := by decide +kernel
theorem dX2_isSameIn_76 : decode cX2_isSameIn 76 = .ok (.aload_n 0, 1) := by decide +kernel
theorem dX2_isSameIn_77 : decode cX2_isSameIn 77 = .ok (.getfield 27, 3) := by decide +kernel
theorem dX2_isSameIn_80 : decode cX2_isSameIn 80 = .ok (.iload_n 2, 1) := by decide +kernel
theorem dX2_isSameIn_81 : decode cX2_isSameIn 81 = .ok (.invokestatic 116, 3) := by decide +kernel
theorem dX2_isSameIn_84 : decode cX2_isSameIn 84 = .ok (.aload_n 1, 1) := by decide +kernel
theorem dX2_isSameIn_85 : decode cX2_isSameIn 85 = .ok (.getfield 27, 3) := by decide +kernel
theorem dX2_isSameIn_88 : decode cX2_isSameIn 88 = .ok (.iload_n 2, 1) := by decide +kernel
theorem dX2_isSameIn_89 : decode cX2_isSameIn 89 = .ok (.invokestatic 116, 3) := by decide +kernel
theorem dX2_isSameIn_92 : decode cX2_isSameIn 92 = .ok (.if_icmp .ne 7, 3) := by decide +kernel
theorem dX2_isSameIn_95 : decode cX2_isSameIn 95 = .ok (.iconst 1, 1) := by decide +kernel
theorem dX2_isSameIn_96 : decode cX2_isSameIn 96 = .ok (.goto 4, 3) := by decide +kernel
theorem dX2_isSameIn_99 : decode cX2_isSameIn 99 = .ok (.iconst 0, 1) := by decide +kernel
theorem dX2_isSameIn_100 : decode cX2_isSameIn 100 = .ok (.ireturn, 1) := by decide +kernel
set_option maxRecDepth 20000 in
theorem ggX2_originFor_X5_at : GoodIn wsX2_originFor wsX5_at := goodIn_r _ [7] (by decide +kernel) (by decide +kernel)
set_option maxRecDepth 20000 in
theorem gX2_originFor_X5_at_n116 : GoodIn wsX2_originFor (wsX5_at) := ggX2_originFor_X5_at
set_option maxRecDepth 20000 in
theorem ggX2_originFor_X5_isSet : GoodIn wsX2_originFor wsX5_isSet := goodIn_r _ [9] (by decide +kernel) (by decide +kernel)
set_option maxRecDepth 20000 in
theorem gX2_originFor_X5_isSet_n188 : GoodIn wsX2_originFor (wsX5_isSet) := ggX2_originFor_X5_isSet
theorem dX2_originFor_0 : decode cX2_originFor 0 = .ok (.aload_n 0, 1) := by decide +kernel
theorem dX2_originFor_1 : decode cX2_originFor 1 = .ok (.getfield 9, 3) := by decide +kernel
theorem dX2_originFor_4 : decode cX2_originFor 4 = .ok (.iload_n 2, 1) := by decide +kernel
theorem dX2_originFor_5 : decode cX2_originFor 5 = .ok (.invokestatic 116, 3) := by decide +kernel
theorem dX2_originFor_8 : decode cX2_originFor 8 = .ok (.istore_n 3, 1) := by decide +kernel
theorem dX2_originFor_9 : decode cX2_originFor 9 = .ok (.aload_n 0, 1) := by decide +kernel
theorem dX2_originFor_10 : decode cX2_originFor 10 = .ok (.getfield 36, 3) := by decide +kernel
theorem dX2_originFor_13 : decode cX2_originFor 13 = .ok (.iload_n 1, 1) := by decide +kernel
theorem dX2_originFor_14 : decode cX2_originFor 14 = .ok (.invokestatic 188, 3) := by decide +kernel
theorem dX2_originFor_17 : decode cX2_originFor 17 = .ok (.ifCond .eq 23, 3) := by decide +kernel
theorem dX2_originFor_20 : decode cX2_originFor 20 = .ok (.iload_n 3, 1) := by decide +kernel
theorem dX2_originFor_21 : decode cX2_originFor 21 = .ok (.iload_n 1, 1) := by decide +kernel
theorem dX2_originFor_22 : decode cX2_originFor 22 = .ok (.if_icmp .eq 18, 3) := by decide +kernel
theorem dX2_originFor_25 : decode cX2_originFor 25 = .ok (.iload_n 3, 1) := by decide +kernel
theorem dX2_originFor_26 : decode cX2_originFor 26 = .ok (.aload_n 0, 1) := by decide +kernel
theorem dX2_originFor_27 : decode cX2_originFor 27 = .ok (.getfield 27, 3) := by decide +kernel
theorem dX2_originFor_30 : decode cX2_originFor 30 = .ok (.iload_n 1, 1) := by decide +kernel
theorem dX2_originFor_31 : decode cX2_originFor 31 = .ok (.invokestatic 116, 3) := by decide +kernel
theorem dX2_originFor_34 : decode cX2_originFor 34 = .ok (.if_icmp .eq 6, 3) := by decide +kernel
theorem dX2_originFor_37 : decode cX2_originFor 37 = .ok (.bipush (-2), 2) := by decide +kernel
theorem dX2_originFor_39 : decode cX2_originFor 39 = .ok (.ireturn, 1) := by decide +kernel
theorem dX2_originFor_40 : decode cX2_originFor 40 = .ok (.aload_n 0, 1) := by decide +kernel
theorem dX2_originFor_41 : decode cX2_originFor 41 = .ok (.getfield 30, 3) := by decide +kernel
theorem dX2_originFor_44 : decode cX2_originFor 44 = .ok (.iload_n 1, 1) := by decide +kernel
theorem dX2_originFor_45 : decode cX2_originFor 45 = .ok (.invokestatic 116, 3) := by decide +kernel
theorem dX2_originFor_48 : decode cX2_originFor 48 = .ok (.ireturn, 1) := by decide +kernel
set_option maxRecDepth 20000 in
theorem ggX2_countLikeness_X2_isBorn : GoodIn wsX2_countLikeness wsX2_isBorn := goodIn_r _ [11, 12, 13, 14, 15, 25, 26, 27, 28, 29, 30, 31, 32, 33, 34, 35, 36, 37] (by decide +kernel) (by decide +kernel)
set_option maxRecDepth 20000 in
theorem gX2_countLikeness_X2_isBorn : GoodIn wsX2_countLikeness (wsV RX2 192 RX2 yX2_isBorn wsX2_isBorn) := goodIn_app (goodIn_of _ (by decide +kernel)) ggX2_countLikeness_X2_isBorn
set_option maxRecDepth 20000 in
theorem ggX2_countLikeness_X5_at : GoodIn wsX2_countLikeness wsX5_at := goodIn_r _ [15] (by decide +kernel) (by decide +kernel)
set_option maxRecDepth 20000 in
theorem gX2_countLikeness_X5_at_n116 : GoodIn wsX2_countLikeness (wsX5_at) := ggX2_countLikeness_X5_at
set_option maxRecDepth 20000 in
theorem ggX2_countLikeness_X2_areInOneDwelling : GoodIn wsX2_countLikeness wsX2_areInOneDwelling := goodIn_r _ [19, 20, 21, 22, 23, 10, 24, 12, 13, 14, 15, 25, 26, 27, 28, 29, 30, 31, 32, 33, 34, 35, 36, 37] (by decide +kernel) (by decide +kernel)
set_option maxRecDepth 20000 in
theorem gX2_countLikeness_X2_areInOneDwelling : GoodIn wsX2_countLikeness (wsV RX2 170 RX2 yX2_areInOneDwelling wsX2_areInOneDwelling) := goodIn_app (goodIn_of _ (by decide +kernel)) ggX2_countLikeness_X2_areInOneDwelling
theorem dX2_countLikeness_0 : decode cX2_countLikeness 0 = .ok (.aload_n 0, 1) := by decide +kernel
theorem dX2_countLikeness_1 : decode cX2_countLikeness 1 = .ok (.iload_n 1, 1) := by decide +kernel
theorem dX2_countLikeness_2 : decode cX2_countLikeness 2 = .ok (.invokevirtual 192, 3) := by decide +kernel
theorem dX2_countLikeness_5 : decode cX2_countLikeness 5 = .ok (.ifCond .eq 11, 3) := by decide +kernel
theorem dX2_countLikeness_8 : decode cX2_countLikeness 8 = .ok (.aload_n 0, 1) := by decide +kernel
theorem dX2_countLikeness_9 : decode cX2_countLikeness 9 = .ok (.iload_n 2, 1) := by decide +kernel
theorem dX2_countLikeness_10 : decode cX2_countLikeness 10 = .ok (.invokevirtual 192, 3) := by decide +kernel
theorem dX2_countLikeness_13 : decode cX2_countLikeness 13 = .ok (.ifCond .ne 5, 3) := by decide +kernel
theorem dX2_countLikeness_16 : decode cX2_countLikeness 16 = .ok (.iconst 0, 1) := by decide +kernel
theorem dX2_countLikeness_17 : decode cX2_countLikeness 17 = .ok (.ireturn, 1) := by decide +kernel
theorem dX2_countLikeness_18 : decode cX2_countLikeness 18 = .ok (.iconst 0, 1) := by decide +kernel
theorem dX2_countLikeness_19 : decode cX2_countLikeness 19 = .ok (.istore_n 3, 1) := by decide +kernel
theorem dX2_countLikeness_20 : decode cX2_countLikeness 20 = .ok (.aload_n 0, 1) := by decide +kernel
theorem dX2_countLikeness_21 : decode cX2_countLikeness 21 = .ok (.getfield 33, 3) := by decide +kernel
theorem dX2_countLikeness_24 : decode cX2_countLikeness 24 = .ok (.iload_n 1, 1) := by decide +kernel
theorem dX2_countLikeness_25 : decode cX2_countLikeness 25 = .ok (.invokestatic 116, 3) := by decide +kernel
theorem dX2_countLikeness_28 : decode cX2_countLikeness 28 = .ok (.aload_n 0, 1) := by decide +kernel
theorem dX2_countLikeness_29 : decode cX2_countLikeness 29 = .ok (.getfield 33, 3) := by decide +kernel
theorem dX2_countLikeness_32 : decode cX2_countLikeness 32 = .ok (.iload_n 2, 1) := by decide +kernel
theorem dX2_countLikeness_33 : decode cX2_countLikeness 33 = .ok (.invokestatic 116, 3) := by decide +kernel
theorem dX2_countLikeness_36 : decode cX2_countLikeness 36 = .ok (.isub, 1) := by decide +kernel
theorem dX2_countLikeness_37 : decode cX2_countLikeness 37 = .ok (.invokestatic 195, 3) := by decide +kernel
theorem dX2_countLikeness_40 : decode cX2_countLikeness 40 = .ok (.istore 4, 2) := by decide +kernel
theorem dX2_countLikeness_42 : decode cX2_countLikeness 42 = .ok (.iload 4, 2) := by decide +kernel
theorem dX2_countLikeness_44 : decode cX2_countLikeness 44 = .ok (.ifCond .ne 9, 3) := by decide +kernel
theorem dX2_countLikeness_47 : decode cX2_countLikeness 47 = .ok (.iinc 3 5, 3) := by decide +kernel
theorem dX2_countLikeness_50 : decode cX2_countLikeness 50 = .ok (.goto 13, 3) := by decide +kernel
theorem dX2_countLikeness_53 : decode cX2_countLikeness 53 = .ok (.iload 4, 2) := by decide +kernel
theorem dX2_countLikeness_55 : decode cX2_countLikeness 55 = .ok (.bipush 31, 2) := by decide +kernel
theorem dX2_countLikeness_57 : decode cX2_countLikeness 57 = .ok (.if_icmp .gt 6, 3) := by decide +kernel
theorem dX2_countLikeness_60 : decode cX2_countLikeness 60 = .ok (.iinc 3 2, 3) := by decide +kernel
theorem dX2_countLikeness_63 : decode cX2_countLikeness 63 = .ok (.aload_n 0, 1) := by decide +kernel
theorem dX2_countLikeness_64 : decode cX2_countLikeness 64 = .ok (.getfield 21, 3) := by decide +kernel
theorem dX2_countLikeness_67 : decode cX2_countLikeness 67 = .ok (.iload_n 1, 1) := by decide +kernel
theorem dX2_countLikeness_68 : decode cX2_countLikeness 68 = .ok (.invokestatic 116, 3) := by decide +kernel
theorem dX2_countLikeness_71 : decode cX2_countLikeness 71 = .ok (.aload_n 0, 1) := by decide +kernel
theorem dX2_countLikeness_72 : decode cX2_countLikeness 72 = .ok (.getfield 21, 3) := by decide +kernel
theorem dX2_countLikeness_75 : decode cX2_countLikeness 75 = .ok (.iload_n 2, 1) := by decide +kernel
theorem dX2_countLikeness_76 : decode cX2_countLikeness 76 = .ok (.invokestatic 116, 3) := by decide +kernel
theorem dX2_countLikeness_79 : decode cX2_countLikeness 79 = .ok (.if_icmp .ne 6, 3) := by decide +kernel
theorem dX2_countLikeness_82 : decode cX2_countLikeness 82 = .ok (.iinc 3 3, 3) := by decide +kernel
theorem dX2_countLikeness_85 : decode cX2_countLikeness 85 = .ok (.aload_n 0, 1) := by decide +kernel
theorem dX2_countLikeness_86 : decode cX2_countLikeness 86 = .ok (.iload_n 1, 1) := by decide +kernel
theorem dX2_countLikeness_87 : decode cX2_countLikeness 87 = .ok (.iload_n 2, 1) := by decide +kernel
theorem dX2_countLikeness_88 : decode cX2_countLikeness 88 = .ok (.invokevirtual 170, 3) := by decide +kernel
theorem dX2_countLikeness_91 : decode cX2_countLikeness 91 = .ok (.ifCond .eq 6, 3) := by decide +kernel
theorem dX2_countLikeness_94 : decode cX2_countLikeness 94 = .ok (.iinc 3 2, 3) := by decide +kernel
theorem dX2_countLikeness_97 : decode cX2_countLikeness 97 = .ok (.iload_n 3, 1) := by decide +kernel
theorem dX2_countLikeness_98 : decode cX2_countLikeness 98 = .ok (.ireturn, 1) := by decide +kernel
theorem dX3_init_0 : decode cX3_init 0 = .ok (.aload_n 0, 1) := by decide +kernel
theorem dX3_init_1 : decode cX3_init 1 = .ok (.invokespecial 3, 3) := by decide +kernel
theorem dX3_init_4 : decode cX3_init 4 = .ok (.aload_n 0, 1) := by decide +kernel
theorem dX3_init_5 : decode cX3_init 5 = .ok (.bipush 60, 2) := by decide +kernel
theorem dX3_init_7 : decode cX3_init 7 = .ok (.newarray .int, 2) := by decide +kernel
theorem dX3_init_9 : decode cX3_init 9 = .ok (.putfield 9, 3) := by decide +kernel
theorem dX3_init_12 : decode cX3_init 12 = .ok (.aload_n 0, 1) := by decide +kernel
theorem dX3_init_13 : decode cX3_init 13 = .ok (.bipush 60, 2) := by decide +kernel
theorem dX3_init_15 : decode cX3_init 15 = .ok (.newarray .int, 2) := by decide +kernel
theorem dX3_init_17 : decode cX3_init 17 = .ok (.putfield 15, 3) := by decide +kernel
theorem dX3_init_20 : decode cX3_init 20 = .ok (.aload_n 0, 1) := by decide +kernel
theorem dX3_init_21 : decode cX3_init 21 = .ok (.sipush 1001, 3) := by decide +kernel
theorem dX3_init_24 : decode cX3_init 24 = .ok (.putfield 18, 3) := by decide +kernel
theorem dX3_init_27 : decode cX3_init 27 = .ok (.return_, 1) := by decide +kernel
set_option maxRecDepth 20000 in
theorem ggX3_give_X3_takeNext : GoodIn wsX3_give wsX3_takeNext := goodIn_r _ [8, 9, 10, 11, 7, 12, 16, 17, 18, 19] (by decide +kernel) (by decide +kernel)
set_option maxRecDepth 20000 in
theorem gX3_give_X3_takeNext : GoodIn wsX3_give (wsV RX3 22 RX3 yX3_takeNext wsX3_takeNext) := goodIn_app (goodIn_of _ (by decide +kernel)) ggX3_give_X3_takeNext
set_option maxRecDepth 20000 in
theorem ggX3_give_X5_put : GoodIn wsX3_give wsX5_put := goodIn_r _ [15] (by decide +kernel) (by decide +kernel)
set_option maxRecDepth 20000 in
theorem gX3_give_X5_put_n29 : GoodIn wsX3_give (wsX5_put) := ggX3_give_X5_put
theorem dX3_give_0 : decode cX3_give 0 = .ok (.aload_n 0, 1) := by decide +kernel
theorem dX3_give_1 : decode cX3_give 1 = .ok (.invokevirtual 22, 3) := by decide +kernel
theorem dX3_give_4 : decode cX3_give 4 = .ok (.istore_n 2, 1) := by decide +kernel
theorem dX3_give_5 : decode cX3_give 5 = .ok (.aload_n 0, 1) := by decide +kernel
theorem dX3_give_6 : decode cX3_give 6 = .ok (.getfield 9, 3) := by decide +kernel
theorem dX3_give_9 : decode cX3_give 9 = .ok (.aload_n 0, 1) := by decide +kernel
theorem dX3_give_10 : decode cX3_give 10 = .ok (.getfield 26, 3) := by decide +kernel
theorem dX3_give_13 : decode cX3_give 13 = .ok (.iload_n 2, 1) := by decide +kernel
theorem dX3_give_14 : decode cX3_give 14 = .ok (.invokestatic 29, 3) := by decide +kernel
theorem dX3_give_17 : decode cX3_give 17 = .ok (.aload_n 0, 1) := by decide +kernel
theorem dX3_give_18 : decode cX3_give 18 = .ok (.getfield 15, 3) := by decide +kernel
theorem dX3_give_21 : decode cX3_give 21 = .ok (.aload_n 0, 1) := by decide +kernel
theorem dX3_give_22 : decode cX3_give 22 = .ok (.getfield 26, 3) := by decide +kernel
theorem dX3_give_25 : decode cX3_give 25 = .ok (.iload_n 1, 1) := by decide +kernel
theorem dX3_give_26 : decode cX3_give 26 = .ok (.invokestatic 29, 3) := by decide +kernel
theorem dX3_give_29 : decode cX3_give 29 = .ok (.aload_n 0, 1) := by decide +kernel
theorem dX3_give_30 : decode cX3_give 30 = .ok (.dup, 1) := by decide +kernel
theorem dX3_give_31 : decode cX3_give 31 = .ok (.getfield 26, 3) := by decide +kernel
theorem dX3_give_34 : decode cX3_give 34 = .ok (.iconst 1, 1) := by decide +kernel
theorem dX3_give_35 : decode cX3_give 35 = .ok (.iadd, 1) := by decide +kernel
theorem dX3_give_36 : decode cX3_give 36 = .ok (.putfield 26, 3) := by decide +kernel
theorem dX3_give_39 : decode cX3_give 39 = .ok (.iload_n 2, 1) := by decide +kernel
theorem dX3_give_40 : decode cX3_give 40 = .ok (.ireturn, 1) := by decide +kernel
set_option maxRecDepth 20000 in
theorem ggX3_takeNext_X3_checkOf : GoodIn wsX3_takeNext wsX3_checkOf := goodIn_r _ [5] (by decide +kernel) (by decide +kernel)
set_option maxRecDepth 20000 in
theorem gX3_takeNext_X3_checkOf : GoodIn wsX3_takeNext (va_wsS RX3 33 yX3_checkOf wsX3_checkOf) := goodIn_app (goodIn_of _ (by decide +kernel)) ggX3_takeNext_X3_checkOf
theorem dX3_takeNext_0 : decode cX3_takeNext 0 = .ok (.aload_n 0, 1) := by decide +kernel
theorem dX3_takeNext_1 : decode cX3_takeNext 1 = .ok (.getfield 18, 3) := by decide +kernel
theorem dX3_takeNext_4 : decode cX3_takeNext 4 = .ok (.istore_n 1, 1) := by decide +kernel
theorem dX3_takeNext_5 : decode cX3_takeNext 5 = .ok (.iload_n 1, 1) := by decide +kernel
theorem dX3_takeNext_6 : decode cX3_takeNext 6 = .ok (.sipush 9999, 3) := by decide +kernel
theorem dX3_takeNext_9 : decode cX3_takeNext 9 = .ok (.if_icmp .gt 35, 3) := by decide +kernel
theorem dX3_takeNext_12 : decode cX3_takeNext 12 = .ok (.iload_n 1, 1) := by decide +kernel
theorem dX3_takeNext_13 : decode cX3_takeNext 13 = .ok (.invokestatic 33, 3) := by decide +kernel
theorem dX3_takeNext_16 : decode cX3_takeNext 16 = .ok (.bipush 10, 2) := by decide +kernel
theorem dX3_takeNext_18 : decode cX3_takeNext 18 = .ok (.if_icmp .eq 20, 3) := by decide +kernel
theorem dX3_takeNext_21 : decode cX3_takeNext 21 = .ok (.aload_n 0, 1) := by decide +kernel
theorem dX3_takeNext_22 : decode cX3_takeNext 22 = .ok (.iload_n 1, 1) := by decide +kernel
theorem dX3_takeNext_23 : decode cX3_takeNext 23 = .ok (.iconst 1, 1) := by decide +kernel
theorem dX3_takeNext_24 : decode cX3_takeNext 24 = .ok (.iadd, 1) := by decide +kernel
theorem dX3_takeNext_25 : decode cX3_takeNext 25 = .ok (.putfield 18, 3) := by decide +kernel
theorem dX3_takeNext_28 : decode cX3_takeNext 28 = .ok (.bipush 10, 2) := by decide +kernel
theorem dX3_takeNext_30 : decode cX3_takeNext 30 = .ok (.iload_n 1, 1) := by decide +kernel
theorem dX3_takeNext_31 : decode cX3_takeNext 31 = .ok (.imul, 1) := by decide +kernel
theorem dX3_takeNext_32 : decode cX3_takeNext 32 = .ok (.iload_n 1, 1) := by decide +kernel
theorem dX3_takeNext_33 : decode cX3_takeNext 33 = .ok (.invokestatic 33, 3) := by decide +kernel
theorem dX3_takeNext_36 : decode cX3_takeNext 36 = .ok (.iadd, 1) := by decide +kernel
theorem dX3_takeNext_37 : decode cX3_takeNext 37 = .ok (.ireturn, 1) := by decide +kernel
theorem dX3_takeNext_38 : decode cX3_takeNext 38 = .ok (.iinc 1 1, 3) := by decide +kernel
theorem dX3_takeNext_41 : decode cX3_takeNext 41 = .ok (.goto (-36), 3) := by decide +kernel
theorem dX3_takeNext_44 : decode cX3_takeNext 44 = .ok (.iconst (-1), 1) := by decide +kernel
theorem dX3_takeNext_45 : decode cX3_takeNext 45 = .ok (.ireturn, 1) := by decide +kernel
set_option maxRecDepth 20000 in
theorem ggX3_lastOf_X5_at : GoodIn wsX3_lastOf wsX5_at := goodIn_r _ [6] (by decide +kernel) (by decide +kernel)
set_option maxRecDepth 20000 in
theorem gX3_lastOf_X5_at_n37 : GoodIn wsX3_lastOf (wsX5_at) := ggX3_lastOf_X5_at
theorem dX3_lastOf_0 : decode cX3_lastOf 0 = .ok (.aload_n 0, 1) := by decide +kernel
theorem dX3_lastOf_1 : decode cX3_lastOf 1 = .ok (.getfield 26, 3) := by decide +kernel
theorem dX3_lastOf_4 : decode cX3_lastOf 4 = .ok (.iconst 1, 1) := by decide +kernel
theorem dX3_lastOf_5 : decode cX3_lastOf 5 = .ok (.isub, 1) := by decide +kernel
theorem dX3_lastOf_6 : decode cX3_lastOf 6 = .ok (.istore_n 2, 1) := by decide +kernel
theorem dX3_lastOf_7 : decode cX3_lastOf 7 = .ok (.iload_n 2, 1) := by decide +kernel
theorem dX3_lastOf_8 : decode cX3_lastOf 8 = .ok (.ifCond .lt 30, 3) := by decide +kernel
theorem dX3_lastOf_11 : decode cX3_lastOf 11 = .ok (.aload_n 0, 1) := by decide +kernel
theorem dX3_lastOf_12 : decode cX3_lastOf 12 = .ok (.getfield 15, 3) := by decide +kernel
theorem dX3_lastOf_15 : decode cX3_lastOf 15 = .ok (.iload_n 2, 1) := by decide +kernel
theorem dX3_lastOf_16 : decode cX3_lastOf 16 = .ok (.invokestatic 37, 3) := by decide +kernel
theorem dX3_lastOf_19 : decode cX3_lastOf 19 = .ok (.iload_n 1, 1) := by decide +kernel
theorem dX3_lastOf_20 : decode cX3_lastOf 20 = .ok (.if_icmp .ne 12, 3) := by decide +kernel
theorem dX3_lastOf_23 : decode cX3_lastOf 23 = .ok (.aload_n 0, 1) := by decide +kernel
theorem dX3_lastOf_24 : decode cX3_lastOf 24 = .ok (.getfield 9, 3) := by decide +kernel
theorem dX3_lastOf_27 : decode cX3_lastOf 27 = .ok (.iload_n 2, 1) := by decide +kernel
theorem dX3_lastOf_28 : decode cX3_lastOf 28 = .ok (.invokestatic 37, 3) := by decide +kernel
theorem dX3_lastOf_31 : decode cX3_lastOf 31 = .ok (.ireturn, 1) := by decide +kernel
theorem dX3_lastOf_32 : decode cX3_lastOf 32 = .ok (.iinc 2 (-1), 3) := by decide +kernel
theorem dX3_lastOf_35 : decode cX3_lastOf 35 = .ok (.goto (-28), 3) := by decide +kernel
theorem dX3_lastOf_38 : decode cX3_lastOf 38 = .ok (.iconst (-1), 1) := by decide +kernel
theorem dX3_lastOf_39 : decode cX3_lastOf 39 = .ok (.ireturn, 1) := by decide +kernel
set_option maxRecDepth 20000 in
theorem ggX3_personOf_X5_at : GoodIn wsX3_personOf wsX5_at := goodIn_r _ [6] (by decide +kernel) (by decide +kernel)
set_option maxRecDepth 20000 in
theorem gX3_personOf_X5_at_n37 : GoodIn wsX3_personOf (wsX5_at) := ggX3_personOf_X5_at
theorem dX3_personOf_0 : decode cX3_personOf 0 = .ok (.iconst 0, 1) := by decide +kernel
theorem dX3_personOf_1 : decode cX3_personOf 1 = .ok (.istore_n 2, 1) := by decide +kernel
theorem dX3_personOf_2 : decode cX3_personOf 2 = .ok (.iload_n 2, 1) := by decide +kernel
theorem dX3_personOf_3 : decode cX3_personOf 3 = .ok (.aload_n 0, 1) := by decide +kernel
theorem dX3_personOf_4 : decode cX3_personOf 4 = .ok (.getfield 26, 3) := by decide +kernel
theorem dX3_personOf_7 : decode cX3_personOf 7 = .ok (.if_icmp .ge 30, 3) := by decide +kernel
theorem dX3_personOf_10 : decode cX3_personOf 10 = .ok (.aload_n 0, 1) := by decide +kernel
theorem dX3_personOf_11 : decode cX3_personOf 11 = .ok (.getfield 9, 3) := by decide +kernel
theorem dX3_personOf_14 : decode cX3_personOf 14 = .ok (.iload_n 2, 1) := by decide +kernel
theorem dX3_personOf_15 : decode cX3_personOf 15 = .ok (.invokestatic 37, 3) := by decide +kernel
theorem dX3_personOf_18 : decode cX3_personOf 18 = .ok (.iload_n 1, 1) := by decide +kernel
theorem dX3_personOf_19 : decode cX3_personOf 19 = .ok (.if_icmp .ne 12, 3) := by decide +kernel
theorem dX3_personOf_22 : decode cX3_personOf 22 = .ok (.aload_n 0, 1) := by decide +kernel
theorem dX3_personOf_23 : decode cX3_personOf 23 = .ok (.getfield 15, 3) := by decide +kernel
theorem dX3_personOf_26 : decode cX3_personOf 26 = .ok (.iload_n 2, 1) := by decide +kernel
theorem dX3_personOf_27 : decode cX3_personOf 27 = .ok (.invokestatic 37, 3) := by decide +kernel
theorem dX3_personOf_30 : decode cX3_personOf 30 = .ok (.ireturn, 1) := by decide +kernel
theorem dX3_personOf_31 : decode cX3_personOf 31 = .ok (.iinc 2 1, 3) := by decide +kernel
theorem dX3_personOf_34 : decode cX3_personOf 34 = .ok (.goto (-32), 3) := by decide +kernel
theorem dX3_personOf_37 : decode cX3_personOf 37 = .ok (.iconst (-1), 1) := by decide +kernel
theorem dX3_personOf_38 : decode cX3_personOf 38 = .ok (.ireturn, 1) := by decide +kernel
set_option maxRecDepth 20000 in
theorem ggX3_isOfSerial_X3_checkOf : GoodIn wsX3_isOfSerial wsX3_checkOf := goodIn_r _ [4] (by decide +kernel) (by decide +kernel)
set_option maxRecDepth 20000 in
theorem gX3_isOfSerial_X3_checkOf : GoodIn wsX3_isOfSerial (va_wsS RX3 33 yX3_checkOf wsX3_checkOf) := goodIn_app (goodIn_of _ (by decide +kernel)) ggX3_isOfSerial_X3_checkOf
theorem dX3_isOfSerial_0 : decode cX3_isOfSerial 0 = .ok (.iload_n 0, 1) := by decide +kernel
theorem dX3_isOfSerial_1 : decode cX3_isOfSerial 1 = .ok (.bipush 10, 2) := by decide +kernel
theorem dX3_isOfSerial_3 : decode cX3_isOfSerial 3 = .ok (.idiv, 1) := by decide +kernel
theorem dX3_isOfSerial_4 : decode cX3_isOfSerial 4 = .ok (.istore_n 1, 1) := by decide +kernel
theorem dX3_isOfSerial_5 : decode cX3_isOfSerial 5 = .ok (.iload_n 1, 1) := by decide +kernel
theorem dX3_isOfSerial_6 : decode cX3_isOfSerial 6 = .ok (.sipush 1001, 3) := by decide +kernel
theorem dX3_isOfSerial_9 : decode cX3_isOfSerial 9 = .ok (.if_icmp .lt 25, 3) := by decide +kernel
theorem dX3_isOfSerial_12 : decode cX3_isOfSerial 12 = .ok (.iload_n 1, 1) := by decide +kernel
theorem dX3_isOfSerial_13 : decode cX3_isOfSerial 13 = .ok (.sipush 9999, 3) := by decide +kernel
theorem dX3_isOfSerial_16 : decode cX3_isOfSerial 16 = .ok (.if_icmp .gt 18, 3) := by decide +kernel
theorem dX3_isOfSerial_19 : decode cX3_isOfSerial 19 = .ok (.iload_n 0, 1) := by decide +kernel
theorem dX3_isOfSerial_20 : decode cX3_isOfSerial 20 = .ok (.bipush 10, 2) := by decide +kernel
theorem dX3_isOfSerial_22 : decode cX3_isOfSerial 22 = .ok (.irem, 1) := by decide +kernel
theorem dX3_isOfSerial_23 : decode cX3_isOfSerial 23 = .ok (.iload_n 1, 1) := by decide +kernel
theorem dX3_isOfSerial_24 : decode cX3_isOfSerial 24 = .ok (.invokestatic 33, 3) := by decide +kernel
theorem dX3_isOfSerial_27 : decode cX3_isOfSerial 27 = .ok (.if_icmp .ne 7, 3) := by decide +kernel
theorem dX3_isOfSerial_30 : decode cX3_isOfSerial 30 = .ok (.iconst 1, 1) := by decide +kernel
theorem dX3_isOfSerial_31 : decode cX3_isOfSerial 31 = .ok (.goto 4, 3) := by decide +kernel
theorem dX3_isOfSerial_34 : decode cX3_isOfSerial 34 = .ok (.iconst 0, 1) := by decide +kernel
theorem dX3_isOfSerial_35 : decode cX3_isOfSerial 35 = .ok (.ireturn, 1) := by decide +kernel
theorem dX3_checkOf_0 : decode cX3_checkOf 0 = .ok (.iload_n 0, 1) := by decide +kernel
theorem dX3_checkOf_1 : decode cX3_checkOf 1 = .ok (.sipush 1000, 3) := by decide +kernel
theorem dX3_checkOf_4 : decode cX3_checkOf 4 = .ok (.idiv, 1) := by decide +kernel
theorem dX3_checkOf_5 : decode cX3_checkOf 5 = .ok (.bipush 10, 2) := by decide +kernel
theorem dX3_checkOf_7 : decode cX3_checkOf 7 = .ok (.irem, 1) := by decide +kernel
theorem dX3_checkOf_8 : decode cX3_checkOf 8 = .ok (.istore_n 1, 1) := by decide +kernel
theorem dX3_checkOf_9 : decode cX3_checkOf 9 = .ok (.iload_n 0, 1) := by decide +kernel
theorem dX3_checkOf_10 : decode cX3_checkOf 10 = .ok (.bipush 100, 2) := by decide +kernel
theorem dX3_checkOf_12 : decode cX3_checkOf 12 = .ok (.idiv, 1) := by decide +kernel
theorem dX3_checkOf_13 : decode cX3_checkOf 13 = .ok (.bipush 10, 2) := by decide +kernel
theorem dX3_checkOf_15 : decode cX3_checkOf 15 = .ok (.irem, 1) := by decide +kernel
theorem dX3_checkOf_16 : decode cX3_checkOf 16 = .ok (.istore_n 2, 1) := by decide +kernel
theorem dX3_checkOf_17 : decode cX3_checkOf 17 = .ok (.iload_n 0, 1) := by decide +kernel
theorem dX3_checkOf_18 : decode cX3_checkOf 18 = .ok (.bipush 10, 2) := by decide +kernel
theorem dX3_checkOf_20 : decode cX3_checkOf 20 = .ok (.idiv, 1) := by decide +kernel
theorem dX3_checkOf_21 : decode cX3_checkOf 21 = .ok (.bipush 10, 2) := by decide +kernel
theorem dX3_checkOf_23 : decode cX3_checkOf 23 = .ok (.irem, 1) := by decide +kernel
theorem dX3_checkOf_24 : decode cX3_checkOf 24 = .ok (.istore_n 3, 1) := by decide +kernel
theorem dX3_checkOf_25 : decode cX3_checkOf 25 = .ok (.iload_n 0, 1) := by decide +kernel
theorem dX3_checkOf_26 : decode cX3_checkOf 26 = .ok (.bipush 10, 2) := by decide +kernel
theorem dX3_checkOf_28 : decode cX3_checkOf 28 = .ok (.irem, 1) := by decide +kernel
theorem dX3_checkOf_29 : decode cX3_checkOf 29 = .ok (.istore 4, 2) := by decide +kernel
theorem dX3_checkOf_31 : decode cX3_checkOf 31 = .ok (.iconst 2, 1) := by decide +kernel
theorem dX3_checkOf_32 : decode cX3_checkOf 32 = .ok (.iload_n 1, 1) := by decide +kernel
theorem dX3_checkOf_33 : decode cX3_checkOf 33 = .ok (.imul, 1) := by decide +kernel
theorem dX3_checkOf_34 : decode cX3_checkOf 34 = .ok (.iconst 3, 1) := by decide +kernel
theorem dX3_checkOf_35 : decode cX3_checkOf 35 = .ok (.iload_n 2, 1) := by decide +kernel
theorem dX3_checkOf_36 : decode cX3_checkOf 36 = .ok (.imul, 1) := by decide +kernel
theorem dX3_checkOf_37 : decode cX3_checkOf 37 = .ok (.iadd, 1) := by decide +kernel
theorem dX3_checkOf_38 : decode cX3_checkOf 38 = .ok (.iconst 4, 1) := by decide +kernel
theorem dX3_checkOf_39 : decode cX3_checkOf 39 = .ok (.iload_n 3, 1) := by decide +kernel
theorem dX3_checkOf_40 : decode cX3_checkOf 40 = .ok (.imul, 1) := by decide +kernel
theorem dX3_checkOf_41 : decode cX3_checkOf 41 = .ok (.iadd, 1) := by decide +kernel
theorem dX3_checkOf_42 : decode cX3_checkOf 42 = .ok (.iconst 5, 1) := by decide +kernel
theorem dX3_checkOf_43 : decode cX3_checkOf 43 = .ok (.iload 4, 2) := by decide +kernel
theorem dX3_checkOf_45 : decode cX3_checkOf 45 = .ok (.imul, 1) := by decide +kernel
theorem dX3_checkOf_46 : decode cX3_checkOf 46 = .ok (.iadd, 1) := by decide +kernel
theorem dX3_checkOf_47 : decode cX3_checkOf 47 = .ok (.bipush 11, 2) := by decide +kernel
theorem dX3_checkOf_49 : decode cX3_checkOf 49 = .ok (.irem, 1) := by decide +kernel
theorem dX3_checkOf_50 : decode cX3_checkOf 50 = .ok (.ireturn, 1) := by decide +kernel
set_option maxRecDepth 20000 in
theorem ggX4_init_J7_fill_53178 : GoodIn wsX4_init wsJ7_fill_53178 := goodIn_r _ [12] (by decide +kernel) (by decide +kernel)
set_option maxRecDepth 20000 in
theorem gX4_init_J7_fill_53178 : GoodIn wsX4_init (va_wsS RX4 25 yJ7_fill_53178 wsJ7_fill_53178) := goodIn_app (goodIn_of _ (by decide +kernel)) ggX4_init_J7_fill_53178
theorem dX4_init_0 : decode cX4_init 0 = .ok (.aload_n 0, 1) := by decide +kernel
theorem dX4_init_1 : decode cX4_init 1 = .ok (.invokespecial 3, 3) := by decide +kernel
theorem dX4_init_4 : decode cX4_init 4 = .ok (.aload_n 0, 1) := by decide +kernel
theorem dX4_init_5 : decode cX4_init 5 = .ok (.bipush 24, 2) := by decide +kernel
theorem dX4_init_7 : decode cX4_init 7 = .ok (.newarray .int, 2) := by decide +kernel
theorem dX4_init_9 : decode cX4_init 9 = .ok (.putfield 9, 3) := by decide +kernel
theorem dX4_init_12 : decode cX4_init 12 = .ok (.aload_n 0, 1) := by decide +kernel
theorem dX4_init_13 : decode cX4_init 13 = .ok (.bipush 24, 2) := by decide +kernel
theorem dX4_init_15 : decode cX4_init 15 = .ok (.newarray .int, 2) := by decide +kernel
theorem dX4_init_17 : decode cX4_init 17 = .ok (.putfield 15, 3) := by decide +kernel
theorem dX4_init_20 : decode cX4_init 20 = .ok (.aload_n 0, 1) := by decide +kernel
theorem dX4_init_21 : decode cX4_init 21 = .ok (.iload_n 1, 1) := by decide +kernel
theorem dX4_init_22 : decode cX4_init 22 = .ok (.putfield 18, 3) := by decide +kernel
theorem dX4_init_25 : decode cX4_init 25 = .ok (.aload_n 0, 1) := by decide +kernel
theorem dX4_init_26 : decode cX4_init 26 = .ok (.iload_n 2, 1) := by decide +kernel
theorem dX4_init_27 : decode cX4_init 27 = .ok (.putfield 22, 3) := by decide +kernel
theorem dX4_init_30 : decode cX4_init 30 = .ok (.aload_n 0, 1) := by decide +kernel
theorem dX4_init_31 : decode cX4_init 31 = .ok (.getfield 9, 3) := by decide +kernel
theorem dX4_init_34 : decode cX4_init 34 = .ok (.iconst (-1), 1) := by decide +kernel
theorem dX4_init_35 : decode cX4_init 35 = .ok (.invokestatic 25, 3) := by decide +kernel
theorem dX4_init_38 : decode cX4_init 38 = .ok (.return_, 1) := by decide +kernel
theorem dX4_write_0 : decode cX4_write 0 = .ok (.sipush 1000, 3) := by decide +kernel
theorem dX4_write_3 : decode cX4_write 3 = .ok (.iload_n 0, 1) := by decide +kernel
theorem dX4_write_4 : decode cX4_write 4 = .ok (.imul, 1) := by decide +kernel
theorem dX4_write_5 : decode cX4_write 5 = .ok (.bipush 10, 2) := by decide +kernel
theorem dX4_write_7 : decode cX4_write 7 = .ok (.iload_n 1, 1) := by decide +kernel
theorem dX4_write_8 : decode cX4_write 8 = .ok (.imul, 1) := by decide +kernel
theorem dX4_write_9 : decode cX4_write 9 = .ok (.iadd, 1) := by decide +kernel
theorem dX4_write_10 : decode cX4_write 10 = .ok (.iload_n 2, 1) := by decide +kernel
theorem dX4_write_11 : decode cX4_write 11 = .ok (.iadd, 1) := by decide +kernel
theorem dX4_write_12 : decode cX4_write 12 = .ok (.ireturn, 1) := by decide +kernel
theorem dX4_personIn_0 : decode cX4_personIn 0 = .ok (.iload_n 0, 1) := by decide +kernel
theorem dX4_personIn_1 : decode cX4_personIn 1 = .ok (.sipush 1000, 3) := by decide +kernel
theorem dX4_personIn_4 : decode cX4_personIn 4 = .ok (.idiv, 1) := by decide +kernel
theorem dX4_personIn_5 : decode cX4_personIn 5 = .ok (.ireturn, 1) := by decide +kernel
theorem dX4_dwellingIn_0 : decode cX4_dwellingIn 0 = .ok (.iload_n 0, 1) := by decide +kernel
theorem dX4_dwellingIn_1 : decode cX4_dwellingIn 1 = .ok (.bipush 10, 2) := by decide +kernel
theorem dX4_dwellingIn_3 : decode cX4_dwellingIn 3 = .ok (.irem, 1) := by decide +kernel
theorem dX4_dwellingIn_4 : decode cX4_dwellingIn 4 = .ok (.iconst 2, 1) := by decide +kernel
theorem dX4_dwellingIn_5 : decode cX4_dwellingIn 5 = .ok (.if_icmp .ne 7, 3) := by decide +kernel
theorem dX4_dwellingIn_8 : decode cX4_dwellingIn 8 = .ok (.iconst (-1), 1) := by decide +kernel
theorem dX4_dwellingIn_9 : decode cX4_dwellingIn 9 = .ok (.goto 11, 3) := by decide +kernel
theorem dX4_dwellingIn_12 : decode cX4_dwellingIn 12 = .ok (.iload_n 0, 1) := by decide +kernel
theorem dX4_dwellingIn_13 : decode cX4_dwellingIn 13 = .ok (.sipush 1000, 3) := by decide +kernel
theorem dX4_dwellingIn_16 : decode cX4_dwellingIn 16 = .ok (.irem, 1) := by decide +kernel
theorem dX4_dwellingIn_17 : decode cX4_dwellingIn 17 = .ok (.bipush 10, 2) := by decide +kernel
theorem dX4_dwellingIn_19 : decode cX4_dwellingIn 19 = .ok (.idiv, 1) := by decide +kernel
theorem dX4_dwellingIn_20 : decode cX4_dwellingIn 20 = .ok (.ireturn, 1) := by decide +kernel
set_option maxRecDepth 20000 in
theorem ggX4_take_X4_grow : GoodIn wsX4_take wsX4_grow := goodIn_r _ [8, 2, 9, 10, 11, 12, 13, 14, 15, 16, 17, 18, 19, 20, 21, 22, 23, 24, 25, 26, 27, 28, 38, 39, 40, 41, 42] (by decide +kernel) (by decide +kernel)
set_option maxRecDepth 20000 in
theorem gX4_take_X4_grow : GoodIn wsX4_take (wsV RX4 34 RX4 yX4_grow wsX4_grow) := goodIn_app (goodIn_of _ (by decide +kernel)) ggX4_take_X4_grow
set_option maxRecDepth 20000 in
theorem ggX4_take_X5_put : GoodIn wsX4_take wsX5_put := goodIn_r _ [31] (by decide +kernel) (by decide +kernel)
set_option maxRecDepth 20000 in
theorem gX4_take_X5_put_n37 : GoodIn wsX4_take (wsX5_put) := ggX4_take_X5_put
set_option maxRecDepth 20000 in
theorem ggX4_take_X4_personIn : GoodIn wsX4_take wsX4_personIn := goodIn_r _ [34] (by decide +kernel) (by decide +kernel)
set_option maxRecDepth 20000 in
theorem gX4_take_X4_personIn : GoodIn wsX4_take (va_wsS RX4 41 yX4_personIn wsX4_personIn) := goodIn_app (goodIn_of _ (by decide +kernel)) ggX4_take_X4_personIn
set_option maxRecDepth 20000 in
theorem ggX4_take_X4_dwellingIn : GoodIn wsX4_take wsX4_dwellingIn := goodIn_r _ [37] (by decide +kernel) (by decide +kernel)
set_option maxRecDepth 20000 in
theorem gX4_take_X4_dwellingIn : GoodIn wsX4_take (va_wsS RX4 45 yX4_dwellingIn wsX4_dwellingIn) := goodIn_app (goodIn_of _ (by decide +kernel)) ggX4_take_X4_dwellingIn
theorem dX4_take_0 : decode cX4_take 0 = .ok (.aload_n 0, 1) := by decide +kernel
theorem dX4_take_1 : decode cX4_take 1 = .ok (.getfield 31, 3) := by decide +kernel
theorem dX4_take_4 : decode cX4_take 4 = .ok (.aload_n 0, 1) := by decide +kernel
theorem dX4_take_5 : decode cX4_take 5 = .ok (.getfield 15, 3) := by decide +kernel
theorem dX4_take_8 : decode cX4_take 8 = .ok (.arraylength, 1) := by decide +kernel
theorem dX4_take_9 : decode cX4_take 9 = .ok (.if_icmp .lt 7, 3) := by decide +kernel
theorem dX4_take_12 : decode cX4_take 12 = .ok (.aload_n 0, 1) := by decide +kernel
theorem dX4_take_13 : decode cX4_take 13 = .ok (.invokevirtual 34, 3) := by decide +kernel
theorem dX4_take_16 : decode cX4_take 16 = .ok (.aload_n 0, 1) := by decide +kernel
theorem dX4_take_17 : decode cX4_take 17 = .ok (.getfield 31, 3) := by decide +kernel
theorem dX4_take_20 : decode cX4_take 20 = .ok (.aload_n 0, 1) := by decide +kernel
theorem dX4_take_21 : decode cX4_take 21 = .ok (.getfield 15, 3) := by decide +kernel
theorem dX4_take_24 : decode cX4_take 24 = .ok (.arraylength, 1) := by decide +kernel
theorem dX4_take_25 : decode cX4_take 25 = .ok (.if_icmp .ge 40, 3) := by decide +kernel
theorem dX4_take_28 : decode cX4_take 28 = .ok (.aload_n 0, 1) := by decide +kernel
theorem dX4_take_29 : decode cX4_take 29 = .ok (.getfield 15, 3) := by decide +kernel
theorem dX4_take_32 : decode cX4_take 32 = .ok (.aload_n 0, 1) := by decide +kernel
theorem dX4_take_33 : decode cX4_take 33 = .ok (.getfield 31, 3) := by decide +kernel
theorem dX4_take_36 : decode cX4_take 36 = .ok (.iload_n 1, 1) := by decide +kernel
theorem dX4_take_37 : decode cX4_take 37 = .ok (.invokestatic 37, 3) := by decide +kernel
theorem dX4_take_40 : decode cX4_take 40 = .ok (.aload_n 0, 1) := by decide +kernel
theorem dX4_take_41 : decode cX4_take 41 = .ok (.dup, 1) := by decide +kernel
theorem dX4_take_42 : decode cX4_take 42 = .ok (.getfield 31, 3) := by decide +kernel
theorem dX4_take_45 : decode cX4_take 45 = .ok (.iconst 1, 1) := by decide +kernel
theorem dX4_take_46 : decode cX4_take 46 = .ok (.iadd, 1) := by decide +kernel
theorem dX4_take_47 : decode cX4_take 47 = .ok (.putfield 31, 3) := by decide +kernel
theorem dX4_take_50 : decode cX4_take 50 = .ok (.aload_n 0, 1) := by decide +kernel
theorem dX4_take_51 : decode cX4_take 51 = .ok (.getfield 9, 3) := by decide +kernel
theorem dX4_take_54 : decode cX4_take 54 = .ok (.iload_n 1, 1) := by decide +kernel
theorem dX4_take_55 : decode cX4_take 55 = .ok (.invokestatic 41, 3) := by decide +kernel
theorem dX4_take_58 : decode cX4_take 58 = .ok (.iload_n 1, 1) := by decide +kernel
theorem dX4_take_59 : decode cX4_take 59 = .ok (.invokestatic 45, 3) := by decide +kernel
theorem dX4_take_62 : decode cX4_take 62 = .ok (.invokestatic 37, 3) := by decide +kernel
theorem dX4_take_65 : decode cX4_take 65 = .ok (.return_, 1) := by decide +kernel
set_option maxRecDepth 20000 in
theorem ggX4_grow_J7_copyOf_59c91 : GoodIn wsX4_grow wsJ7_copyOf_59c91 := goodIn_r _ [9, 10, 11, 12, 13, 14, 15, 16, 17, 3, 4, 5, 18, 19, 20, 21] (by decide +kernel) (by decide +kernel)
set_option maxRecDepth 20000 in
theorem gX4_grow_J7_copyOf_59c91 : GoodIn wsX4_grow (va_wsS RX4 54 yJ7_copyOf_59c91 wsJ7_copyOf_59c91) := goodIn_app (goodIn_of _ (by decide +kernel)) ggX4_grow_J7_copyOf_59c91
theorem dX4_grow_0 : decode cX4_grow 0 = .ok (.iconst 2, 1) := by decide +kernel
theorem dX4_grow_1 : decode cX4_grow 1 = .ok (.aload_n 0, 1) := by decide +kernel
theorem dX4_grow_2 : decode cX4_grow 2 = .ok (.getfield 15, 3) := by decide +kernel
theorem dX4_grow_5 : decode cX4_grow 5 = .ok (.arraylength, 1) := by decide +kernel
theorem dX4_grow_6 : decode cX4_grow 6 = .ok (.imul, 1) := by decide +kernel
theorem dX4_grow_7 : decode cX4_grow 7 = .ok (.sipush 12288, 3) := by decide +kernel
theorem dX4_grow_10 : decode cX4_grow 10 = .ok (.invokestatic 48, 3) := by decide +kernel
theorem dX4_grow_13 : decode cX4_grow 13 = .ok (.istore_n 1, 1) := by decide +kernel
theorem dX4_grow_14 : decode cX4_grow 14 = .ok (.iload_n 1, 1) := by decide +kernel
theorem dX4_grow_15 : decode cX4_grow 15 = .ok (.aload_n 0, 1) := by decide +kernel
theorem dX4_grow_16 : decode cX4_grow 16 = .ok (.getfield 15, 3) := by decide +kernel
theorem dX4_grow_19 : decode cX4_grow 19 = .ok (.arraylength, 1) := by decide +kernel
theorem dX4_grow_20 : decode cX4_grow 20 = .ok (.if_icmp .le 15, 3) := by decide +kernel
theorem dX4_grow_23 : decode cX4_grow 23 = .ok (.aload_n 0, 1) := by decide +kernel
theorem dX4_grow_24 : decode cX4_grow 24 = .ok (.aload_n 0, 1) := by decide +kernel
theorem dX4_grow_25 : decode cX4_grow 25 = .ok (.getfield 15, 3) := by decide +kernel
theorem dX4_grow_28 : decode cX4_grow 28 = .ok (.iload_n 1, 1) := by decide +kernel
theorem dX4_grow_29 : decode cX4_grow 29 = .ok (.invokestatic 54, 3) := by decide +kernel
theorem dX4_grow_32 : decode cX4_grow 32 = .ok (.putfield 15, 3) := by decide +kernel
theorem dX4_grow_35 : decode cX4_grow 35 = .ok (.return_, 1) := by decide +kernel
set_option maxRecDepth 20000 in
theorem ggX4_findAnew_X5_at : GoodIn wsX4_findAnew wsX5_at := goodIn_r _ [5] (by decide +kernel) (by decide +kernel)
set_option maxRecDepth 20000 in
theorem gX4_findAnew_X5_at_n58 : GoodIn wsX4_findAnew (wsX5_at) := ggX4_findAnew_X5_at
set_option maxRecDepth 20000 in
theorem ggX4_findAnew_X4_personIn : GoodIn wsX4_findAnew wsX4_personIn := goodIn_r _ [9] (by decide +kernel) (by decide +kernel)
set_option maxRecDepth 20000 in
theorem gX4_findAnew_X4_personIn : GoodIn wsX4_findAnew (va_wsS RX4 41 yX4_personIn wsX4_personIn) := goodIn_app (goodIn_of _ (by decide +kernel)) ggX4_findAnew_X4_personIn
set_option maxRecDepth 20000 in
theorem ggX4_findAnew_X4_dwellingIn : GoodIn wsX4_findAnew wsX4_dwellingIn := goodIn_r _ [12] (by decide +kernel) (by decide +kernel)
set_option maxRecDepth 20000 in
theorem gX4_findAnew_X4_dwellingIn : GoodIn wsX4_findAnew (va_wsS RX4 45 yX4_dwellingIn wsX4_dwellingIn) := goodIn_app (goodIn_of _ (by decide +kernel)) ggX4_findAnew_X4_dwellingIn
theorem dX4_findAnew_0 : decode cX4_findAnew 0 = .ok (.iconst (-1), 1) := by decide +kernel
theorem dX4_findAnew_1 : decode cX4_findAnew 1 = .ok (.istore_n 2, 1) := by decide +kernel
theorem dX4_findAnew_2 : decode cX4_findAnew 2 = .ok (.iconst 0, 1) := by decide +kernel
theorem dX4_findAnew_3 : decode cX4_findAnew 3 = .ok (.istore_n 3, 1) := by decide +kernel
theorem dX4_findAnew_4 : decode cX4_findAnew 4 = .ok (.iload_n 3, 1) := by decide +kernel
theorem dX4_findAnew_5 : decode cX4_findAnew 5 = .ok (.aload_n 0, 1) := by decide +kernel
theorem dX4_findAnew_6 : decode cX4_findAnew 6 = .ok (.getfield 31, 3) := by decide +kernel
theorem dX4_findAnew_9 : decode cX4_findAnew 9 = .ok (.if_icmp .ge 34, 3) := by decide +kernel
theorem dX4_findAnew_12 : decode cX4_findAnew 12 = .ok (.aload_n 0, 1) := by decide +kernel
theorem dX4_findAnew_13 : decode cX4_findAnew 13 = .ok (.getfield 15, 3) := by decide +kernel
theorem dX4_findAnew_16 : decode cX4_findAnew 16 = .ok (.iload_n 3, 1) := by decide +kernel
theorem dX4_findAnew_17 : decode cX4_findAnew 17 = .ok (.invokestatic 58, 3) := by decide +kernel
theorem dX4_findAnew_20 : decode cX4_findAnew 20 = .ok (.istore 4, 2) := by decide +kernel
theorem dX4_findAnew_22 : decode cX4_findAnew 22 = .ok (.iload 4, 2) := by decide +kernel
theorem dX4_findAnew_24 : decode cX4_findAnew 24 = .ok (.invokestatic 41, 3) := by decide +kernel
theorem dX4_findAnew_27 : decode cX4_findAnew 27 = .ok (.iload_n 1, 1) := by decide +kernel
theorem dX4_findAnew_28 : decode cX4_findAnew 28 = .ok (.if_icmp .ne 9, 3) := by decide +kernel
theorem dX4_findAnew_31 : decode cX4_findAnew 31 = .ok (.iload 4, 2) := by decide +kernel
theorem dX4_findAnew_33 : decode cX4_findAnew 33 = .ok (.invokestatic 45, 3) := by decide +kernel
theorem dX4_findAnew_36 : decode cX4_findAnew 36 = .ok (.istore_n 2, 1) := by decide +kernel
