theorem dL_pass_0 : decode cL_pass 0 = .ok (.aload_n 0, 1) := by decide +kernel
theorem dL_pass_1 : decode cL_pass 1 = .ok (.iload_n 1, 1) := by decide +kernel
theorem dL_pass_2 : decode cL_pass 2 = .ok (.invokevirtual 9, 3) := by decide +kernel
theorem dL_pass_5 : decode cL_pass 5 = .ok (.i2l, 1) := by decide +kernel
theorem dL_pass_6 : decode cL_pass 6 = .ok (.lreturn, 1) := by decide +kernel
theorem dL_pass_7 : decode cL_pass 7 = .ok (.astore_n 2, 1) := by decide +kernel
theorem dL_pass_8 : decode cL_pass 8 = .ok (.ldc2_w 17, 3) := by decide +kernel
theorem dL_pass_11 : decode cL_pass 11 = .ok (.lreturn, 1) := by decide +kernel
theorem dL_pass_12 : decode cL_pass 12 = .ok (.astore_n 2, 1) := by decide +kernel
theorem dL_pass_13 : decode cL_pass 13 = .ok (.ldc2_w 21, 3) := by decide +kernel
theorem dL_pass_16 : decode cL_pass 16 = .ok (.lreturn, 1) := by decide +kernel
theorem dL_birth_0 : decode cL_birth 0 = .ok (.aload_n 0, 1) := by decide +kernel
theorem dL_birth_1 : decode cL_birth 1 = .ok (.iload_n 1, 1) := by decide +kernel
theorem dL_birth_2 : decode cL_birth 2 = .ok (.iload_n 2, 1) := by decide +kernel
theorem dL_birth_3 : decode cL_birth 3 = .ok (.iload_n 3, 1) := by decide +kernel
theorem dL_birth_4 : decode cL_birth 4 = .ok (.iload 4, 2) := by decide +kernel
theorem dL_birth_6 : decode cL_birth 6 = .ok (.invokevirtual 23, 3) := by decide +kernel
theorem dL_birth_9 : decode cL_birth 9 = .ok (.i2l, 1) := by decide +kernel
theorem dL_birth_10 : decode cL_birth 10 = .ok (.lreturn, 1) := by decide +kernel
theorem dL_birth_11 : decode cL_birth 11 = .ok (.astore 5, 2) := by decide +kernel
theorem dL_birth_13 : decode cL_birth 13 = .ok (.ldc2_w 29, 3) := by decide +kernel
theorem dL_birth_16 : decode cL_birth 16 = .ok (.lreturn, 1) := by decide +kernel
theorem dL_birth_17 : decode cL_birth 17 = .ok (.astore 5, 2) := by decide +kernel
theorem dL_birth_19 : decode cL_birth 19 = .ok (.ldc2_w 17, 3) := by decide +kernel
theorem dL_birth_22 : decode cL_birth 22 = .ok (.lreturn, 1) := by decide +kernel
theorem dL_birth_23 : decode cL_birth 23 = .ok (.astore 5, 2) := by decide +kernel
theorem dL_birth_25 : decode cL_birth 25 = .ok (.ldc2_w 21, 3) := by decide +kernel
theorem dL_birth_28 : decode cL_birth 28 = .ok (.lreturn, 1) := by decide +kernel
theorem dL_move_0 : decode cL_move 0 = .ok (.aload_n 0, 1) := by decide +kernel
theorem dL_move_1 : decode cL_move 1 = .ok (.iload_n 1, 1) := by decide +kernel
theorem dL_move_2 : decode cL_move 2 = .ok (.iload_n 2, 1) := by decide +kernel
theorem dL_move_3 : decode cL_move 3 = .ok (.iload_n 3, 1) := by decide +kernel
theorem dL_move_4 : decode cL_move 4 = .ok (.invokevirtual 31, 3) := by decide +kernel
theorem dL_move_7 : decode cL_move 7 = .ok (.i2l, 1) := by decide +kernel
theorem dL_move_8 : decode cL_move 8 = .ok (.lreturn, 1) := by decide +kernel
theorem dL_move_9 : decode cL_move 9 = .ok (.astore 4, 2) := by decide +kernel
theorem dL_move_11 : decode cL_move 11 = .ok (.ldc2_w 29, 3) := by decide +kernel
theorem dL_move_14 : decode cL_move 14 = .ok (.lreturn, 1) := by decide +kernel
theorem dL_move_15 : decode cL_move 15 = .ok (.astore 4, 2) := by decide +kernel
theorem dL_move_17 : decode cL_move 17 = .ok (.ldc2_w 17, 3) := by decide +kernel
theorem dL_move_20 : decode cL_move 20 = .ok (.lreturn, 1) := by decide +kernel
theorem dL_move_21 : decode cL_move 21 = .ok (.astore 4, 2) := by decide +kernel
theorem dL_move_23 : decode cL_move 23 = .ok (.ldc2_w 21, 3) := by decide +kernel
theorem dL_move_26 : decode cL_move 26 = .ok (.lreturn, 1) := by decide +kernel
theorem dL_naming_0 : decode cL_naming 0 = .ok (.aload_n 0, 1) := by decide +kernel
theorem dL_naming_1 : decode cL_naming 1 = .ok (.iload_n 1, 1) := by decide +kernel
theorem dL_naming_2 : decode cL_naming 2 = .ok (.iload_n 2, 1) := by decide +kernel
theorem dL_naming_3 : decode cL_naming 3 = .ok (.iload_n 3, 1) := by decide +kernel
theorem dL_naming_4 : decode cL_naming 4 = .ok (.invokevirtual 35, 3) := by decide +kernel
theorem dL_naming_7 : decode cL_naming 7 = .ok (.i2l, 1) := by decide +kernel
theorem dL_naming_8 : decode cL_naming 8 = .ok (.lreturn, 1) := by decide +kernel
theorem dL_naming_9 : decode cL_naming 9 = .ok (.astore 4, 2) := by decide +kernel
theorem dL_naming_11 : decode cL_naming 11 = .ok (.ldc2_w 29, 3) := by decide +kernel
theorem dL_naming_14 : decode cL_naming 14 = .ok (.lreturn, 1) := by decide +kernel
theorem dL_naming_15 : decode cL_naming 15 = .ok (.astore 4, 2) := by decide +kernel
theorem dL_naming_17 : decode cL_naming 17 = .ok (.ldc2_w 17, 3) := by decide +kernel
theorem dL_naming_20 : decode cL_naming 20 = .ok (.lreturn, 1) := by decide +kernel
theorem dL_naming_21 : decode cL_naming 21 = .ok (.astore 4, 2) := by decide +kernel
theorem dL_naming_23 : decode cL_naming 23 = .ok (.ldc2_w 21, 3) := by decide +kernel
theorem dL_naming_26 : decode cL_naming 26 = .ok (.lreturn, 1) := by decide +kernel
theorem dL_tie_0 : decode cL_tie 0 = .ok (.aload_n 0, 1) := by decide +kernel
theorem dL_tie_1 : decode cL_tie 1 = .ok (.iload_n 1, 1) := by decide +kernel
theorem dL_tie_2 : decode cL_tie 2 = .ok (.iload_n 2, 1) := by decide +kernel
theorem dL_tie_3 : decode cL_tie 3 = .ok (.iload_n 3, 1) := by decide +kernel
theorem dL_tie_4 : decode cL_tie 4 = .ok (.iload 4, 2) := by decide +kernel
theorem dL_tie_6 : decode cL_tie 6 = .ok (.invokevirtual 38, 3) := by decide +kernel
theorem dL_tie_9 : decode cL_tie 9 = .ok (.i2l, 1) := by decide +kernel
theorem dL_tie_10 : decode cL_tie 10 = .ok (.lreturn, 1) := by decide +kernel
theorem dL_tie_11 : decode cL_tie 11 = .ok (.astore 5, 2) := by decide +kernel
theorem dL_tie_13 : decode cL_tie 13 = .ok (.ldc2_w 29, 3) := by decide +kernel
theorem dL_tie_16 : decode cL_tie 16 = .ok (.lreturn, 1) := by decide +kernel
theorem dL_tie_17 : decode cL_tie 17 = .ok (.astore 5, 2) := by decide +kernel
theorem dL_tie_19 : decode cL_tie 19 = .ok (.ldc2_w 17, 3) := by decide +kernel
theorem dL_tie_22 : decode cL_tie 22 = .ok (.lreturn, 1) := by decide +kernel
theorem dL_tie_23 : decode cL_tie 23 = .ok (.astore 5, 2) := by decide +kernel
theorem dL_tie_25 : decode cL_tie 25 = .ok (.ldc2_w 21, 3) := by decide +kernel
theorem dL_tie_28 : decode cL_tie 28 = .ok (.lreturn, 1) := by decide +kernel
theorem dL_death_0 : decode cL_death 0 = .ok (.aload_n 0, 1) := by decide +kernel
theorem dL_death_1 : decode cL_death 1 = .ok (.iload_n 1, 1) := by decide +kernel
theorem dL_death_2 : decode cL_death 2 = .ok (.iload_n 2, 1) := by decide +kernel
theorem dL_death_3 : decode cL_death 3 = .ok (.invokevirtual 41, 3) := by decide +kernel
theorem dL_death_6 : decode cL_death 6 = .ok (.i2l, 1) := by decide +kernel
theorem dL_death_7 : decode cL_death 7 = .ok (.lreturn, 1) := by decide +kernel
theorem dL_death_8 : decode cL_death 8 = .ok (.astore_n 3, 1) := by decide +kernel
theorem dL_death_9 : decode cL_death 9 = .ok (.ldc2_w 29, 3) := by decide +kernel
theorem dL_death_12 : decode cL_death 12 = .ok (.lreturn, 1) := by decide +kernel
theorem dL_death_13 : decode cL_death 13 = .ok (.astore_n 3, 1) := by decide +kernel
theorem dL_death_14 : decode cL_death 14 = .ok (.ldc2_w 17, 3) := by decide +kernel
theorem dL_death_17 : decode cL_death 17 = .ok (.lreturn, 1) := by decide +kernel
theorem dL_death_18 : decode cL_death 18 = .ok (.astore_n 3, 1) := by decide +kernel
theorem dL_death_19 : decode cL_death 19 = .ok (.ldc2_w 21, 3) := by decide +kernel
theorem dL_death_22 : decode cL_death 22 = .ok (.lreturn, 1) := by decide +kernel
theorem dL_join_0 : decode cL_join 0 = .ok (.aload_n 0, 1) := by decide +kernel
theorem dL_join_1 : decode cL_join 1 = .ok (.iload_n 1, 1) := by decide +kernel
theorem dL_join_2 : decode cL_join 2 = .ok (.iload_n 2, 1) := by decide +kernel
theorem dL_join_3 : decode cL_join 3 = .ok (.invokevirtual 45, 3) := by decide +kernel
theorem dL_join_6 : decode cL_join 6 = .ok (.i2l, 1) := by decide +kernel
theorem dL_join_7 : decode cL_join 7 = .ok (.lreturn, 1) := by decide +kernel
theorem dL_join_8 : decode cL_join 8 = .ok (.astore_n 3, 1) := by decide +kernel
theorem dL_join_9 : decode cL_join 9 = .ok (.ldc2_w 29, 3) := by decide +kernel
theorem dL_join_12 : decode cL_join 12 = .ok (.lreturn, 1) := by decide +kernel
theorem dL_join_13 : decode cL_join 13 = .ok (.astore_n 3, 1) := by decide +kernel
theorem dL_join_14 : decode cL_join 14 = .ok (.ldc2_w 17, 3) := by decide +kernel
theorem dL_join_17 : decode cL_join 17 = .ok (.lreturn, 1) := by decide +kernel
theorem dL_join_18 : decode cL_join 18 = .ok (.astore_n 3, 1) := by decide +kernel
theorem dL_join_19 : decode cL_join 19 = .ok (.ldc2_w 21, 3) := by decide +kernel
theorem dL_join_22 : decode cL_join 22 = .ok (.lreturn, 1) := by decide +kernel
theorem dL_strike_0 : decode cL_strike 0 = .ok (.aload_n 0, 1) := by decide +kernel
theorem dL_strike_1 : decode cL_strike 1 = .ok (.iload_n 1, 1) := by decide +kernel
theorem dL_strike_2 : decode cL_strike 2 = .ok (.invokevirtual 48, 3) := by decide +kernel
theorem dL_strike_5 : decode cL_strike 5 = .ok (.i2l, 1) := by decide +kernel
theorem dL_strike_6 : decode cL_strike 6 = .ok (.lreturn, 1) := by decide +kernel
theorem dL_strike_7 : decode cL_strike 7 = .ok (.astore_n 2, 1) := by decide +kernel
theorem dL_strike_8 : decode cL_strike 8 = .ok (.ldc2_w 29, 3) := by decide +kernel
theorem dL_strike_11 : decode cL_strike 11 = .ok (.lreturn, 1) := by decide +kernel
theorem dL_strike_12 : decode cL_strike 12 = .ok (.astore_n 2, 1) := by decide +kernel
theorem dL_strike_13 : decode cL_strike 13 = .ok (.ldc2_w 21, 3) := by decide +kernel
theorem dL_strike_16 : decode cL_strike 16 = .ok (.lreturn, 1) := by decide +kernel
theorem dL_actOf_0 : decode cL_actOf 0 = .ok (.aload_n 0, 1) := by decide +kernel
theorem dL_actOf_1 : decode cL_actOf 1 = .ok (.iload_n 1, 1) := by decide +kernel
theorem dL_actOf_2 : decode cL_actOf 2 = .ok (.iload_n 2, 1) := by decide +kernel
theorem dL_actOf_3 : decode cL_actOf 3 = .ok (.invokevirtual 51, 3) := by decide +kernel
theorem dL_actOf_6 : decode cL_actOf 6 = .ok (.i2l, 1) := by decide +kernel
theorem dL_actOf_7 : decode cL_actOf 7 = .ok (.lreturn, 1) := by decide +kernel
theorem dL_actOf_8 : decode cL_actOf 8 = .ok (.astore_n 3, 1) := by decide +kernel
theorem dL_actOf_9 : decode cL_actOf 9 = .ok (.ldc2_w 29, 3) := by decide +kernel
theorem dL_actOf_12 : decode cL_actOf 12 = .ok (.lreturn, 1) := by decide +kernel
theorem dL_actOf_13 : decode cL_actOf 13 = .ok (.astore_n 3, 1) := by decide +kernel
theorem dL_actOf_14 : decode cL_actOf 14 = .ok (.ldc2_w 17, 3) := by decide +kernel
theorem dL_actOf_17 : decode cL_actOf 17 = .ok (.lreturn, 1) := by decide +kernel
theorem dL_asOf_0 : decode cL_asOf 0 = .ok (.aload_n 0, 1) := by decide +kernel
theorem dL_asOf_1 : decode cL_asOf 1 = .ok (.iload_n 1, 1) := by decide +kernel
theorem dL_asOf_2 : decode cL_asOf 2 = .ok (.iload_n 2, 1) := by decide +kernel
theorem dL_asOf_3 : decode cL_asOf 3 = .ok (.iload_n 3, 1) := by decide +kernel
theorem dL_asOf_4 : decode cL_asOf 4 = .ok (.iload 4, 2) := by decide +kernel
theorem dL_asOf_6 : decode cL_asOf 6 = .ok (.invokevirtual 54, 3) := by decide +kernel
theorem dL_asOf_9 : decode cL_asOf 9 = .ok (.i2l, 1) := by decide +kernel
theorem dL_asOf_10 : decode cL_asOf 10 = .ok (.lreturn, 1) := by decide +kernel
theorem dL_asOf_11 : decode cL_asOf 11 = .ok (.astore 5, 2) := by decide +kernel
theorem dL_asOf_13 : decode cL_asOf 13 = .ok (.ldc2_w 29, 3) := by decide +kernel
theorem dL_asOf_16 : decode cL_asOf 16 = .ok (.lreturn, 1) := by decide +kernel
theorem dL_asOf_17 : decode cL_asOf 17 = .ok (.astore 5, 2) := by decide +kernel
theorem dL_asOf_19 : decode cL_asOf 19 = .ok (.ldc2_w 17, 3) := by decide +kernel
theorem dL_asOf_22 : decode cL_asOf 22 = .ok (.lreturn, 1) := by decide +kernel
theorem dL_now_0 : decode cL_now 0 = .ok (.aload_n 0, 1) := by decide +kernel
theorem dL_now_1 : decode cL_now 1 = .ok (.iload_n 1, 1) := by decide +kernel
theorem dL_now_2 : decode cL_now 2 = .ok (.iload_n 2, 1) := by decide +kernel
theorem dL_now_3 : decode cL_now 3 = .ok (.invokevirtual 57, 3) := by decide +kernel
theorem dL_now_6 : decode cL_now 6 = .ok (.i2l, 1) := by decide +kernel
theorem dL_now_7 : decode cL_now 7 = .ok (.lreturn, 1) := by decide +kernel
theorem dL_now_8 : decode cL_now 8 = .ok (.astore_n 3, 1) := by decide +kernel
theorem dL_now_9 : decode cL_now 9 = .ok (.ldc2_w 29, 3) := by decide +kernel
theorem dL_now_12 : decode cL_now 12 = .ok (.lreturn, 1) := by decide +kernel
theorem dL_now_13 : decode cL_now 13 = .ok (.astore_n 3, 1) := by decide +kernel
theorem dL_now_14 : decode cL_now 14 = .ok (.ldc2_w 17, 3) := by decide +kernel
theorem dL_now_17 : decode cL_now 17 = .ok (.lreturn, 1) := by decide +kernel
theorem dL_households_0 : decode cL_households 0 = .ok (.aload_n 0, 1) := by decide +kernel
theorem dL_households_1 : decode cL_households 1 = .ok (.iload_n 1, 1) := by decide +kernel
theorem dL_households_2 : decode cL_households 2 = .ok (.iload_n 2, 1) := by decide +kernel
theorem dL_households_3 : decode cL_households 3 = .ok (.iload_n 3, 1) := by decide +kernel
theorem dL_households_4 : decode cL_households 4 = .ok (.invokevirtual 60, 3) := by decide +kernel
theorem dL_households_7 : decode cL_households 7 = .ok (.i2l, 1) := by decide +kernel
theorem dL_households_8 : decode cL_households 8 = .ok (.lreturn, 1) := by decide +kernel
theorem dL_households_9 : decode cL_households 9 = .ok (.astore 4, 2) := by decide +kernel
theorem dL_households_11 : decode cL_households 11 = .ok (.ldc2_w 29, 3) := by decide +kernel
theorem dL_households_14 : decode cL_households 14 = .ok (.lreturn, 1) := by decide +kernel
theorem dL_households_15 : decode cL_households 15 = .ok (.astore 4, 2) := by decide +kernel
theorem dL_households_17 : decode cL_households 17 = .ok (.ldc2_w 17, 3) := by decide +kernel
theorem dL_households_20 : decode cL_households 20 = .ok (.lreturn, 1) := by decide +kernel
theorem dL_money_0 : decode cL_money 0 = .ok (.aload_n 0, 1) := by decide +kernel
theorem dL_money_1 : decode cL_money 1 = .ok (.iload_n 1, 1) := by decide +kernel
theorem dL_money_2 : decode cL_money 2 = .ok (.iload_n 2, 1) := by decide +kernel
theorem dL_money_3 : decode cL_money 3 = .ok (.iload_n 3, 1) := by decide +kernel
theorem dL_money_4 : decode cL_money 4 = .ok (.iload 4, 2) := by decide +kernel
theorem dL_money_6 : decode cL_money 6 = .ok (.invokevirtual 63, 3) := by decide +kernel
theorem dL_money_9 : decode cL_money 9 = .ok (.i2l, 1) := by decide +kernel
theorem dL_money_10 : decode cL_money 10 = .ok (.lreturn, 1) := by decide +kernel
theorem dL_money_11 : decode cL_money 11 = .ok (.astore 5, 2) := by decide +kernel
theorem dL_money_13 : decode cL_money 13 = .ok (.ldc2_w 29, 3) := by decide +kernel
theorem dL_money_16 : decode cL_money 16 = .ok (.lreturn, 1) := by decide +kernel
theorem dL_money_17 : decode cL_money 17 = .ok (.astore 5, 2) := by decide +kernel
theorem dL_money_19 : decode cL_money 19 = .ok (.ldc2_w 17, 3) := by decide +kernel
theorem dL_money_22 : decode cL_money 22 = .ok (.lreturn, 1) := by decide +kernel
theorem dL_changed_0 : decode cL_changed 0 = .ok (.aload_n 0, 1) := by decide +kernel
theorem dL_changed_1 : decode cL_changed 1 = .ok (.iload_n 1, 1) := by decide +kernel
theorem dL_changed_2 : decode cL_changed 2 = .ok (.iload_n 2, 1) := by decide +kernel
theorem dL_changed_3 : decode cL_changed 3 = .ok (.iload_n 3, 1) := by decide +kernel
theorem dL_changed_4 : decode cL_changed 4 = .ok (.invokevirtual 66, 3) := by decide +kernel
theorem dL_changed_7 : decode cL_changed 7 = .ok (.i2l, 1) := by decide +kernel
theorem dL_changed_8 : decode cL_changed 8 = .ok (.lreturn, 1) := by decide +kernel
theorem dL_changed_9 : decode cL_changed 9 = .ok (.astore 4, 2) := by decide +kernel
theorem dL_changed_11 : decode cL_changed 11 = .ok (.ldc2_w 17, 3) := by decide +kernel
theorem dL_changed_14 : decode cL_changed 14 = .ok (.lreturn, 1) := by decide +kernel
theorem dL_origin_0 : decode cL_origin 0 = .ok (.aload_n 0, 1) := by decide +kernel
theorem dL_origin_1 : decode cL_origin 1 = .ok (.iload_n 1, 1) := by decide +kernel
theorem dL_origin_2 : decode cL_origin 2 = .ok (.iload_n 2, 1) := by decide +kernel
theorem dL_origin_3 : decode cL_origin 3 = .ok (.invokevirtual 69, 3) := by decide +kernel
theorem dL_origin_6 : decode cL_origin 6 = .ok (.i2l, 1) := by decide +kernel
theorem dL_origin_7 : decode cL_origin 7 = .ok (.lreturn, 1) := by decide +kernel
theorem dL_origin_8 : decode cL_origin 8 = .ok (.astore_n 3, 1) := by decide +kernel
theorem dL_origin_9 : decode cL_origin 9 = .ok (.ldc2_w 29, 3) := by decide +kernel
theorem dL_origin_12 : decode cL_origin 12 = .ok (.lreturn, 1) := by decide +kernel
theorem dL_likeness_0 : decode cL_likeness 0 = .ok (.aload_n 0, 1) := by decide +kernel
theorem dL_likeness_1 : decode cL_likeness 1 = .ok (.iload_n 1, 1) := by decide +kernel
theorem dL_likeness_2 : decode cL_likeness 2 = .ok (.iload_n 2, 1) := by decide +kernel
theorem dL_likeness_3 : decode cL_likeness 3 = .ok (.invokevirtual 72, 3) := by decide +kernel
theorem dL_likeness_6 : decode cL_likeness 6 = .ok (.i2l, 1) := by decide +kernel
theorem dL_likeness_7 : decode cL_likeness 7 = .ok (.lreturn, 1) := by decide +kernel
theorem dL_likeness_8 : decode cL_likeness 8 = .ok (.astore_n 3, 1) := by decide +kernel
theorem dL_likeness_9 : decode cL_likeness 9 = .ok (.ldc2_w 29, 3) := by decide +kernel
theorem dL_likeness_12 : decode cL_likeness 12 = .ok (.lreturn, 1) := by decide +kernel
theorem dL_likeness_13 : decode cL_likeness 13 = .ok (.astore_n 3, 1) := by decide +kernel
theorem dL_likeness_14 : decode cL_likeness 14 = .ok (.ldc2_w 17, 3) := by decide +kernel
theorem dL_likeness_17 : decode cL_likeness 17 = .ok (.lreturn, 1) := by decide +kernel
theorem dL_doubleOf_0 : decode cL_doubleOf 0 = .ok (.aload_n 0, 1) := by decide +kernel
theorem dL_doubleOf_1 : decode cL_doubleOf 1 = .ok (.iload_n 1, 1) := by decide +kernel
theorem dL_doubleOf_2 : decode cL_doubleOf 2 = .ok (.invokevirtual 75, 3) := by decide +kernel
theorem dL_doubleOf_5 : decode cL_doubleOf 5 = .ok (.i2l, 1) := by decide +kernel
theorem dL_doubleOf_6 : decode cL_doubleOf 6 = .ok (.lreturn, 1) := by decide +kernel
theorem dL_doubleOf_7 : decode cL_doubleOf 7 = .ok (.astore_n 2, 1) := by decide +kernel
theorem dL_doubleOf_8 : decode cL_doubleOf 8 = .ok (.ldc2_w 29, 3) := by decide +kernel
theorem dL_doubleOf_11 : decode cL_doubleOf 11 = .ok (.lreturn, 1) := by decide +kernel
theorem dL_renumber_0 : decode cL_renumber 0 = .ok (.aload_n 0, 1) := by decide +kernel
theorem dL_renumber_1 : decode cL_renumber 1 = .ok (.iload_n 1, 1) := by decide +kernel
theorem dL_renumber_2 : decode cL_renumber 2 = .ok (.invokevirtual 78, 3) := by decide +kernel
theorem dL_renumber_5 : decode cL_renumber 5 = .ok (.i2l, 1) := by decide +kernel
theorem dL_renumber_6 : decode cL_renumber 6 = .ok (.lreturn, 1) := by decide +kernel
theorem dL_renumber_7 : decode cL_renumber 7 = .ok (.astore_n 2, 1) := by decide +kernel
theorem dL_renumber_8 : decode cL_renumber 8 = .ok (.ldc2_w 29, 3) := by decide +kernel
theorem dL_renumber_11 : decode cL_renumber 11 = .ok (.lreturn, 1) := by decide +kernel
theorem dL_renumber_12 : decode cL_renumber 12 = .ok (.astore_n 2, 1) := by decide +kernel
theorem dL_renumber_13 : decode cL_renumber 13 = .ok (.ldc2_w 21, 3) := by decide +kernel
theorem dL_renumber_16 : decode cL_renumber 16 = .ok (.lreturn, 1) := by decide +kernel
theorem dL_number_0 : decode cL_number 0 = .ok (.aload_n 0, 1) := by decide +kernel
theorem dL_number_1 : decode cL_number 1 = .ok (.iload_n 1, 1) := by decide +kernel
theorem dL_number_2 : decode cL_number 2 = .ok (.invokevirtual 81, 3) := by decide +kernel
theorem dL_number_5 : decode cL_number 5 = .ok (.i2l, 1) := by decide +kernel
theorem dL_number_6 : decode cL_number 6 = .ok (.lreturn, 1) := by decide +kernel
theorem dL_number_7 : decode cL_number 7 = .ok (.astore_n 2, 1) := by decide +kernel
theorem dL_number_8 : decode cL_number 8 = .ok (.ldc2_w 29, 3) := by decide +kernel
theorem dL_number_11 : decode cL_number 11 = .ok (.lreturn, 1) := by decide +kernel
theorem dL_bearer_0 : decode cL_bearer 0 = .ok (.aload_n 0, 1) := by decide +kernel
theorem dL_bearer_1 : decode cL_bearer 1 = .ok (.iload_n 1, 1) := by decide +kernel
theorem dL_bearer_2 : decode cL_bearer 2 = .ok (.invokevirtual 84, 3) := by decide +kernel
theorem dL_bearer_5 : decode cL_bearer 5 = .ok (.i2l, 1) := by decide +kernel
theorem dL_bearer_6 : decode cL_bearer 6 = .ok (.lreturn, 1) := by decide +kernel
theorem dL_bearer_7 : decode cL_bearer 7 = .ok (.astore_n 2, 1) := by decide +kernel
theorem dL_bearer_8 : decode cL_bearer 8 = .ok (.ldc2_w 17, 3) := by decide +kernel
theorem dL_bearer_11 : decode cL_bearer 11 = .ok (.lreturn, 1) := by decide +kernel
theorem dL_roll_0 : decode cL_roll 0 = .ok (.aload_n 0, 1) := by decide +kernel
theorem dL_roll_1 : decode cL_roll 1 = .ok (.iload_n 1, 1) := by decide +kernel
theorem dL_roll_2 : decode cL_roll 2 = .ok (.iload_n 2, 1) := by decide +kernel
theorem dL_roll_3 : decode cL_roll 3 = .ok (.invokevirtual 87, 3) := by decide +kernel
theorem dL_roll_6 : decode cL_roll 6 = .ok (.i2l, 1) := by decide +kernel
theorem dL_roll_7 : decode cL_roll 7 = .ok (.lreturn, 1) := by decide +kernel
theorem dL_roll_8 : decode cL_roll 8 = .ok (.astore_n 3, 1) := by decide +kernel
theorem dL_roll_9 : decode cL_roll 9 = .ok (.ldc2_w 29, 3) := by decide +kernel
theorem dL_roll_12 : decode cL_roll 12 = .ok (.lreturn, 1) := by decide +kernel
theorem dL_roll_13 : decode cL_roll 13 = .ok (.astore_n 3, 1) := by decide +kernel
theorem dL_roll_14 : decode cL_roll 14 = .ok (.ldc2_w 17, 3) := by decide +kernel
theorem dL_roll_17 : decode cL_roll 17 = .ok (.lreturn, 1) := by decide +kernel
theorem dL_roll_18 : decode cL_roll 18 = .ok (.astore_n 3, 1) := by decide +kernel
theorem dL_roll_19 : decode cL_roll 19 = .ok (.ldc2_w 21, 3) := by decide +kernel
theorem dL_roll_22 : decode cL_roll 22 = .ok (.lreturn, 1) := by decide +kernel
theorem dL_deliver_0 : decode cL_deliver 0 = .ok (.aload_n 0, 1) := by decide +kernel
theorem dL_deliver_1 : decode cL_deliver 1 = .ok (.iload_n 1, 1) := by decide +kernel
theorem dL_deliver_2 : decode cL_deliver 2 = .ok (.invokevirtual 90, 3) := by decide +kernel
theorem dL_deliver_5 : decode cL_deliver 5 = .ok (.i2l, 1) := by decide +kernel
theorem dL_deliver_6 : decode cL_deliver 6 = .ok (.lreturn, 1) := by decide +kernel
theorem dL_deliver_7 : decode cL_deliver 7 = .ok (.astore_n 2, 1) := by decide +kernel
theorem dL_deliver_8 : decode cL_deliver 8 = .ok (.ldc2_w 29, 3) := by decide +kernel
theorem dL_deliver_11 : decode cL_deliver 11 = .ok (.lreturn, 1) := by decide +kernel
theorem dL_owes_0 : decode cL_owes 0 = .ok (.aload_n 0, 1) := by decide +kernel
theorem dL_owes_1 : decode cL_owes 1 = .ok (.iload_n 1, 1) := by decide +kernel
theorem dL_owes_2 : decode cL_owes 2 = .ok (.invokevirtual 93, 3) := by decide +kernel
theorem dL_owes_5 : decode cL_owes 5 = .ok (.i2l, 1) := by decide +kernel
theorem dL_owes_6 : decode cL_owes 6 = .ok (.lreturn, 1) := by decide +kernel
theorem dL_owes_7 : decode cL_owes 7 = .ok (.astore_n 2, 1) := by decide +kernel
theorem dL_owes_8 : decode cL_owes 8 = .ok (.ldc2_w 29, 3) := by decide +kernel
theorem dL_owes_11 : decode cL_owes 11 = .ok (.lreturn, 1) := by decide +kernel
theorem dL_message_0 : decode cL_message 0 = .ok (.aload_n 0, 1) := by decide +kernel
theorem dL_message_1 : decode cL_message 1 = .ok (.iload_n 1, 1) := by decide +kernel
theorem dL_message_2 : decode cL_message 2 = .ok (.iload_n 2, 1) := by decide +kernel
theorem dL_message_3 : decode cL_message 3 = .ok (.invokevirtual 96, 3) := by decide +kernel
theorem dL_message_6 : decode cL_message 6 = .ok (.i2l, 1) := by decide +kernel
theorem dL_message_7 : decode cL_message 7 = .ok (.lreturn, 1) := by decide +kernel
theorem dL_message_8 : decode cL_message 8 = .ok (.astore_n 3, 1) := by decide +kernel
theorem dL_message_9 : decode cL_message 9 = .ok (.ldc2_w 29, 3) := by decide +kernel
theorem dL_message_12 : decode cL_message 12 = .ok (.lreturn, 1) := by decide +kernel
theorem dL_holds_0 : decode cL_holds 0 = .ok (.aload_n 0, 1) := by decide +kernel
theorem dL_holds_1 : decode cL_holds 1 = .ok (.iload_n 1, 1) := by decide +kernel
theorem dL_holds_2 : decode cL_holds 2 = .ok (.iload_n 2, 1) := by decide +kernel
theorem dL_holds_3 : decode cL_holds 3 = .ok (.invokevirtual 99, 3) := by decide +kernel
theorem dL_holds_6 : decode cL_holds 6 = .ok (.i2l, 1) := by decide +kernel
theorem dL_holds_7 : decode cL_holds 7 = .ok (.lreturn, 1) := by decide +kernel
theorem dL_holds_8 : decode cL_holds 8 = .ok (.astore_n 3, 1) := by decide +kernel
theorem dL_holds_9 : decode cL_holds 9 = .ok (.ldc2_w 29, 3) := by decide +kernel
theorem dL_holds_12 : decode cL_holds 12 = .ok (.lreturn, 1) := by decide +kernel
theorem dL_holdsAnew_0 : decode cL_holdsAnew 0 = .ok (.aload_n 0, 1) := by decide +kernel
theorem dL_holdsAnew_1 : decode cL_holdsAnew 1 = .ok (.iload_n 1, 1) := by decide +kernel
theorem dL_holdsAnew_2 : decode cL_holdsAnew 2 = .ok (.iload_n 2, 1) := by decide +kernel
theorem dL_holdsAnew_3 : decode cL_holdsAnew 3 = .ok (.invokevirtual 102, 3) := by decide +kernel
theorem dL_holdsAnew_6 : decode cL_holdsAnew 6 = .ok (.i2l, 1) := by decide +kernel
theorem dL_holdsAnew_7 : decode cL_holdsAnew 7 = .ok (.lreturn, 1) := by decide +kernel
theorem dL_holdsAnew_8 : decode cL_holdsAnew 8 = .ok (.astore_n 3, 1) := by decide +kernel
theorem dL_holdsAnew_9 : decode cL_holdsAnew 9 = .ok (.ldc2_w 29, 3) := by decide +kernel
theorem dL_holdsAnew_12 : decode cL_holdsAnew 12 = .ok (.lreturn, 1) := by decide +kernel
theorem dL_bar_0 : decode cL_bar 0 = .ok (.aload_n 0, 1) := by decide +kernel
theorem dL_bar_1 : decode cL_bar 1 = .ok (.iload_n 1, 1) := by decide +kernel
theorem dL_bar_2 : decode cL_bar 2 = .ok (.iload_n 2, 1) := by decide +kernel
theorem dL_bar_3 : decode cL_bar 3 = .ok (.invokevirtual 105, 3) := by decide +kernel
theorem dL_bar_6 : decode cL_bar 6 = .ok (.ifCond .eq 7, 3) := by decide +kernel
theorem dL_bar_9 : decode cL_bar 9 = .ok (.lconst 1, 1) := by decide +kernel
theorem dL_bar_10 : decode cL_bar 10 = .ok (.goto 4, 3) := by decide +kernel
theorem dL_bar_13 : decode cL_bar 13 = .ok (.lconst 0, 1) := by decide +kernel
theorem dL_bar_14 : decode cL_bar 14 = .ok (.lreturn, 1) := by decide +kernel
theorem dL_bar_15 : decode cL_bar 15 = .ok (.astore_n 3, 1) := by decide +kernel
theorem dL_bar_16 : decode cL_bar 16 = .ok (.ldc2_w 29, 3) := by decide +kernel
theorem dL_bar_19 : decode cL_bar 19 = .ok (.lreturn, 1) := by decide +kernel
theorem dL_look_0 : decode cL_look 0 = .ok (.aload_n 0, 1) := by decide +kernel
theorem dL_look_1 : decode cL_look 1 = .ok (.iload_n 1, 1) := by decide +kernel
theorem dL_look_2 : decode cL_look 2 = .ok (.iload_n 2, 1) := by decide +kernel
theorem dL_look_3 : decode cL_look 3 = .ok (.invokevirtual 109, 3) := by decide +kernel
theorem dL_look_6 : decode cL_look 6 = .ok (.i2l, 1) := by decide +kernel
theorem dL_look_7 : decode cL_look 7 = .ok (.lreturn, 1) := by decide +kernel
theorem dL_look_8 : decode cL_look 8 = .ok (.astore_n 3, 1) := by decide +kernel
theorem dL_look_9 : decode cL_look 9 = .ok (.ldc2_w 29, 3) := by decide +kernel
theorem dL_look_12 : decode cL_look 12 = .ok (.lreturn, 1) := by decide +kernel
theorem dL_look_13 : decode cL_look 13 = .ok (.astore_n 3, 1) := by decide +kernel
theorem dL_look_14 : decode cL_look 14 = .ok (.ldc2_w 17, 3) := by decide +kernel
theorem dL_look_17 : decode cL_look 17 = .ok (.lreturn, 1) := by decide +kernel
theorem dL_looks_0 : decode cL_looks 0 = .ok (.aload_n 0, 1) := by decide +kernel
theorem dL_looks_1 : decode cL_looks 1 = .ok (.iload_n 1, 1) := by decide +kernel
theorem dL_looks_2 : decode cL_looks 2 = .ok (.invokevirtual 112, 3) := by decide +kernel
theorem dL_looks_5 : decode cL_looks 5 = .ok (.i2l, 1) := by decide +kernel
theorem dL_looks_6 : decode cL_looks 6 = .ok (.lreturn, 1) := by decide +kernel
theorem dL_looks_7 : decode cL_looks 7 = .ok (.astore_n 2, 1) := by decide +kernel
theorem dL_looks_8 : decode cL_looks 8 = .ok (.ldc2_w 29, 3) := by decide +kernel
theorem dL_looks_11 : decode cL_looks 11 = .ok (.lreturn, 1) := by decide +kernel
