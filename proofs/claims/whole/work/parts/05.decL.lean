theorem dL_land_0 : decode cL_land 0 = .ok (.aload_n 2, 1) := by decide +kernel
theorem dL_land_1 : decode cL_land 1 = .ok (.iconst 0, 1) := by decide +kernel
theorem dL_land_2 : decode cL_land 2 = .ok (.aload_n 0, 1) := by decide +kernel
theorem dL_land_3 : decode cL_land 3 = .ok (.iload_n 1, 1) := by decide +kernel
theorem dL_land_4 : decode cL_land 4 = .ok (.invokevirtual 7, 3) := by decide +kernel
theorem dL_land_7 : decode cL_land 7 = .ok (.i2l, 1) := by decide +kernel
theorem dL_land_8 : decode cL_land 8 = .ok (.lastore, 1) := by decide +kernel
theorem dL_land_9 : decode cL_land 9 = .ok (.goto 6, 3) := by decide +kernel
theorem dL_land_12 : decode cL_land 12 = .ok (.astore_n 3, 1) := by decide +kernel
theorem dL_land_13 : decode cL_land 13 = .ok (.iconst 1, 1) := by decide +kernel
theorem dL_land_14 : decode cL_land 14 = .ok (.ireturn, 1) := by decide +kernel
theorem dL_land_15 : decode cL_land 15 = .ok (.iconst 0, 1) := by decide +kernel
theorem dL_land_16 : decode cL_land 16 = .ok (.ireturn, 1) := by decide +kernel
theorem dL_law_0 : decode cL_law 0 = .ok (.aload_n 2, 1) := by decide +kernel
theorem dL_law_1 : decode cL_law 1 = .ok (.iconst 0, 1) := by decide +kernel
theorem dL_law_2 : decode cL_law 2 = .ok (.aload_n 0, 1) := by decide +kernel
theorem dL_law_3 : decode cL_law 3 = .ok (.iload_n 1, 1) := by decide +kernel
theorem dL_law_4 : decode cL_law 4 = .ok (.invokevirtual 15, 3) := by decide +kernel
theorem dL_law_7 : decode cL_law 7 = .ok (.i2l, 1) := by decide +kernel
theorem dL_law_8 : decode cL_law 8 = .ok (.lastore, 1) := by decide +kernel
theorem dL_law_9 : decode cL_law 9 = .ok (.goto 6, 3) := by decide +kernel
theorem dL_law_12 : decode cL_law 12 = .ok (.astore_n 3, 1) := by decide +kernel
theorem dL_law_13 : decode cL_law 13 = .ok (.iconst 1, 1) := by decide +kernel
theorem dL_law_14 : decode cL_law 14 = .ok (.ireturn, 1) := by decide +kernel
theorem dL_law_15 : decode cL_law 15 = .ok (.iconst 0, 1) := by decide +kernel
theorem dL_law_16 : decode cL_law 16 = .ok (.ireturn, 1) := by decide +kernel
theorem dL_work_0 : decode cL_work 0 = .ok (.aload_n 2, 1) := by decide +kernel
theorem dL_work_1 : decode cL_work 1 = .ok (.iconst 0, 1) := by decide +kernel
theorem dL_work_2 : decode cL_work 2 = .ok (.aload_n 0, 1) := by decide +kernel
theorem dL_work_3 : decode cL_work 3 = .ok (.iload_n 1, 1) := by decide +kernel
theorem dL_work_4 : decode cL_work 4 = .ok (.invokevirtual 18, 3) := by decide +kernel
theorem dL_work_7 : decode cL_work 7 = .ok (.i2l, 1) := by decide +kernel
theorem dL_work_8 : decode cL_work 8 = .ok (.lastore, 1) := by decide +kernel
theorem dL_work_9 : decode cL_work 9 = .ok (.goto 6, 3) := by decide +kernel
theorem dL_work_12 : decode cL_work 12 = .ok (.astore_n 3, 1) := by decide +kernel
theorem dL_work_13 : decode cL_work 13 = .ok (.iconst 1, 1) := by decide +kernel
theorem dL_work_14 : decode cL_work 14 = .ok (.ireturn, 1) := by decide +kernel
theorem dL_work_15 : decode cL_work 15 = .ok (.iconst 0, 1) := by decide +kernel
theorem dL_work_16 : decode cL_work 16 = .ok (.ireturn, 1) := by decide +kernel
theorem dL_book_0 : decode cL_book 0 = .ok (.aload_n 2, 1) := by decide +kernel
theorem dL_book_1 : decode cL_book 1 = .ok (.iconst 0, 1) := by decide +kernel
theorem dL_book_2 : decode cL_book 2 = .ok (.aload_n 0, 1) := by decide +kernel
theorem dL_book_3 : decode cL_book 3 = .ok (.iload_n 1, 1) := by decide +kernel
theorem dL_book_4 : decode cL_book 4 = .ok (.invokevirtual 21, 3) := by decide +kernel
theorem dL_book_7 : decode cL_book 7 = .ok (.i2l, 1) := by decide +kernel
theorem dL_book_8 : decode cL_book 8 = .ok (.lastore, 1) := by decide +kernel
theorem dL_book_9 : decode cL_book 9 = .ok (.goto 6, 3) := by decide +kernel
theorem dL_book_12 : decode cL_book 12 = .ok (.astore_n 3, 1) := by decide +kernel
theorem dL_book_13 : decode cL_book 13 = .ok (.iconst 1, 1) := by decide +kernel
theorem dL_book_14 : decode cL_book 14 = .ok (.ireturn, 1) := by decide +kernel
theorem dL_book_15 : decode cL_book 15 = .ok (.iconst 0, 1) := by decide +kernel
theorem dL_book_16 : decode cL_book 16 = .ok (.ireturn, 1) := by decide +kernel
theorem dL_told_0 : decode cL_told 0 = .ok (.aload_n 2, 1) := by decide +kernel
theorem dL_told_1 : decode cL_told 1 = .ok (.iconst 0, 1) := by decide +kernel
theorem dL_told_2 : decode cL_told 2 = .ok (.aload_n 0, 1) := by decide +kernel
theorem dL_told_3 : decode cL_told 3 = .ok (.iload_n 1, 1) := by decide +kernel
theorem dL_told_4 : decode cL_told 4 = .ok (.invokevirtual 24, 3) := by decide +kernel
theorem dL_told_7 : decode cL_told 7 = .ok (.i2l, 1) := by decide +kernel
theorem dL_told_8 : decode cL_told 8 = .ok (.lastore, 1) := by decide +kernel
theorem dL_told_9 : decode cL_told 9 = .ok (.goto 6, 3) := by decide +kernel
theorem dL_told_12 : decode cL_told 12 = .ok (.astore_n 3, 1) := by decide +kernel
theorem dL_told_13 : decode cL_told 13 = .ok (.iconst 1, 1) := by decide +kernel
theorem dL_told_14 : decode cL_told 14 = .ok (.ireturn, 1) := by decide +kernel
theorem dL_told_15 : decode cL_told 15 = .ok (.iconst 0, 1) := by decide +kernel
theorem dL_told_16 : decode cL_told 16 = .ok (.ireturn, 1) := by decide +kernel
theorem dL_person_0 : decode cL_person 0 = .ok (.aload_n 3, 1) := by decide +kernel
theorem dL_person_1 : decode cL_person 1 = .ok (.iconst 0, 1) := by decide +kernel
theorem dL_person_2 : decode cL_person 2 = .ok (.aload_n 0, 1) := by decide +kernel
theorem dL_person_3 : decode cL_person 3 = .ok (.iload_n 1, 1) := by decide +kernel
theorem dL_person_4 : decode cL_person 4 = .ok (.iload_n 2, 1) := by decide +kernel
theorem dL_person_5 : decode cL_person 5 = .ok (.invokevirtual 27, 3) := by decide +kernel
theorem dL_person_8 : decode cL_person 8 = .ok (.i2l, 1) := by decide +kernel
theorem dL_person_9 : decode cL_person 9 = .ok (.lastore, 1) := by decide +kernel
theorem dL_person_10 : decode cL_person 10 = .ok (.goto 11, 3) := by decide +kernel
theorem dL_person_13 : decode cL_person 13 = .ok (.astore 4, 2) := by decide +kernel
theorem dL_person_15 : decode cL_person 15 = .ok (.iconst 1, 1) := by decide +kernel
theorem dL_person_16 : decode cL_person 16 = .ok (.ireturn, 1) := by decide +kernel
theorem dL_person_17 : decode cL_person 17 = .ok (.astore 4, 2) := by decide +kernel
theorem dL_person_19 : decode cL_person 19 = .ok (.iconst 2, 1) := by decide +kernel
theorem dL_person_20 : decode cL_person 20 = .ok (.ireturn, 1) := by decide +kernel
theorem dL_person_21 : decode cL_person 21 = .ok (.iconst 0, 1) := by decide +kernel
theorem dL_person_22 : decode cL_person 22 = .ok (.ireturn, 1) := by decide +kernel
theorem dL_number_0 : decode cL_number 0 = .ok (.aload_n 3, 1) := by decide +kernel
theorem dL_number_1 : decode cL_number 1 = .ok (.iconst 0, 1) := by decide +kernel
theorem dL_number_2 : decode cL_number 2 = .ok (.aload_n 0, 1) := by decide +kernel
theorem dL_number_3 : decode cL_number 3 = .ok (.iload_n 1, 1) := by decide +kernel
theorem dL_number_4 : decode cL_number 4 = .ok (.iload_n 2, 1) := by decide +kernel
theorem dL_number_5 : decode cL_number 5 = .ok (.invokevirtual 33, 3) := by decide +kernel
theorem dL_number_8 : decode cL_number 8 = .ok (.i2l, 1) := by decide +kernel
theorem dL_number_9 : decode cL_number 9 = .ok (.lastore, 1) := by decide +kernel
theorem dL_number_10 : decode cL_number 10 = .ok (.goto 11, 3) := by decide +kernel
theorem dL_number_13 : decode cL_number 13 = .ok (.astore 4, 2) := by decide +kernel
theorem dL_number_15 : decode cL_number 15 = .ok (.iconst 1, 1) := by decide +kernel
theorem dL_number_16 : decode cL_number 16 = .ok (.ireturn, 1) := by decide +kernel
theorem dL_number_17 : decode cL_number 17 = .ok (.astore 4, 2) := by decide +kernel
theorem dL_number_19 : decode cL_number 19 = .ok (.iconst 2, 1) := by decide +kernel
theorem dL_number_20 : decode cL_number 20 = .ok (.ireturn, 1) := by decide +kernel
theorem dL_number_21 : decode cL_number 21 = .ok (.iconst 0, 1) := by decide +kernel
theorem dL_number_22 : decode cL_number 22 = .ok (.ireturn, 1) := by decide +kernel
theorem dL_fare_0 : decode cL_fare 0 = .ok (.aload_n 3, 1) := by decide +kernel
theorem dL_fare_1 : decode cL_fare 1 = .ok (.iconst 0, 1) := by decide +kernel
theorem dL_fare_2 : decode cL_fare 2 = .ok (.aload_n 0, 1) := by decide +kernel
theorem dL_fare_3 : decode cL_fare 3 = .ok (.iload_n 1, 1) := by decide +kernel
theorem dL_fare_4 : decode cL_fare 4 = .ok (.iload_n 2, 1) := by decide +kernel
theorem dL_fare_5 : decode cL_fare 5 = .ok (.invokevirtual 36, 3) := by decide +kernel
theorem dL_fare_8 : decode cL_fare 8 = .ok (.i2l, 1) := by decide +kernel
theorem dL_fare_9 : decode cL_fare 9 = .ok (.lastore, 1) := by decide +kernel
theorem dL_fare_10 : decode cL_fare 10 = .ok (.goto 11, 3) := by decide +kernel
theorem dL_fare_13 : decode cL_fare 13 = .ok (.astore 4, 2) := by decide +kernel
theorem dL_fare_15 : decode cL_fare 15 = .ok (.iconst 1, 1) := by decide +kernel
theorem dL_fare_16 : decode cL_fare 16 = .ok (.ireturn, 1) := by decide +kernel
theorem dL_fare_17 : decode cL_fare 17 = .ok (.astore 4, 2) := by decide +kernel
theorem dL_fare_19 : decode cL_fare 19 = .ok (.iconst 2, 1) := by decide +kernel
theorem dL_fare_20 : decode cL_fare 20 = .ok (.ireturn, 1) := by decide +kernel
theorem dL_fare_21 : decode cL_fare 21 = .ok (.iconst 0, 1) := by decide +kernel
theorem dL_fare_22 : decode cL_fare 22 = .ok (.ireturn, 1) := by decide +kernel
theorem dL_would_0 : decode cL_would 0 = .ok (.aload 7, 2) := by decide +kernel
theorem dL_would_2 : decode cL_would 2 = .ok (.iconst 0, 1) := by decide +kernel
theorem dL_would_3 : decode cL_would 3 = .ok (.aload_n 0, 1) := by decide +kernel
theorem dL_would_4 : decode cL_would 4 = .ok (.iload_n 1, 1) := by decide +kernel
theorem dL_would_5 : decode cL_would 5 = .ok (.iload_n 2, 1) := by decide +kernel
theorem dL_would_6 : decode cL_would 6 = .ok (.iload_n 3, 1) := by decide +kernel
theorem dL_would_7 : decode cL_would 7 = .ok (.iload 4, 2) := by decide +kernel
theorem dL_would_9 : decode cL_would 9 = .ok (.iload 5, 2) := by decide +kernel
theorem dL_would_11 : decode cL_would 11 = .ok (.iload 6, 2) := by decide +kernel
theorem dL_would_13 : decode cL_would 13 = .ok (.invokevirtual 39, 3) := by decide +kernel
theorem dL_would_16 : decode cL_would 16 = .ok (.i2l, 1) := by decide +kernel
theorem dL_would_17 : decode cL_would 17 = .ok (.lastore, 1) := by decide +kernel
theorem dL_would_18 : decode cL_would 18 = .ok (.goto 7, 3) := by decide +kernel
theorem dL_would_21 : decode cL_would 21 = .ok (.astore 8, 2) := by decide +kernel
theorem dL_would_23 : decode cL_would 23 = .ok (.iconst 1, 1) := by decide +kernel
theorem dL_would_24 : decode cL_would 24 = .ok (.ireturn, 1) := by decide +kernel
theorem dL_would_25 : decode cL_would 25 = .ok (.iconst 0, 1) := by decide +kernel
theorem dL_would_26 : decode cL_would 26 = .ok (.ireturn, 1) := by decide +kernel
theorem dL_cost_0 : decode cL_cost 0 = .ok (.aload_n 2, 1) := by decide +kernel
theorem dL_cost_1 : decode cL_cost 1 = .ok (.iconst 0, 1) := by decide +kernel
theorem dL_cost_2 : decode cL_cost 2 = .ok (.aload_n 0, 1) := by decide +kernel
theorem dL_cost_3 : decode cL_cost 3 = .ok (.iload_n 1, 1) := by decide +kernel
theorem dL_cost_4 : decode cL_cost 4 = .ok (.invokevirtual 43, 3) := by decide +kernel
theorem dL_cost_7 : decode cL_cost 7 = .ok (.i2l, 1) := by decide +kernel
theorem dL_cost_8 : decode cL_cost 8 = .ok (.lastore, 1) := by decide +kernel
theorem dL_cost_9 : decode cL_cost 9 = .ok (.goto 6, 3) := by decide +kernel
theorem dL_cost_12 : decode cL_cost 12 = .ok (.astore_n 3, 1) := by decide +kernel
theorem dL_cost_13 : decode cL_cost 13 = .ok (.iconst 1, 1) := by decide +kernel
theorem dL_cost_14 : decode cL_cost 14 = .ok (.ireturn, 1) := by decide +kernel
theorem dL_cost_15 : decode cL_cost 15 = .ok (.iconst 0, 1) := by decide +kernel
theorem dL_cost_16 : decode cL_cost 16 = .ok (.ireturn, 1) := by decide +kernel
theorem dL_saying_0 : decode cL_saying 0 = .ok (.aload_n 3, 1) := by decide +kernel
theorem dL_saying_1 : decode cL_saying 1 = .ok (.iconst 0, 1) := by decide +kernel
theorem dL_saying_2 : decode cL_saying 2 = .ok (.aload_n 0, 1) := by decide +kernel
theorem dL_saying_3 : decode cL_saying 3 = .ok (.iload_n 1, 1) := by decide +kernel
theorem dL_saying_4 : decode cL_saying 4 = .ok (.iload_n 2, 1) := by decide +kernel
theorem dL_saying_5 : decode cL_saying 5 = .ok (.invokevirtual 46, 3) := by decide +kernel
theorem dL_saying_8 : decode cL_saying 8 = .ok (.i2l, 1) := by decide +kernel
theorem dL_saying_9 : decode cL_saying 9 = .ok (.lastore, 1) := by decide +kernel
theorem dL_saying_10 : decode cL_saying 10 = .ok (.goto 11, 3) := by decide +kernel
theorem dL_saying_13 : decode cL_saying 13 = .ok (.astore 4, 2) := by decide +kernel
theorem dL_saying_15 : decode cL_saying 15 = .ok (.iconst 1, 1) := by decide +kernel
theorem dL_saying_16 : decode cL_saying 16 = .ok (.ireturn, 1) := by decide +kernel
theorem dL_saying_17 : decode cL_saying 17 = .ok (.astore 4, 2) := by decide +kernel
theorem dL_saying_19 : decode cL_saying 19 = .ok (.iconst 2, 1) := by decide +kernel
theorem dL_saying_20 : decode cL_saying 20 = .ok (.ireturn, 1) := by decide +kernel
theorem dL_saying_21 : decode cL_saying 21 = .ok (.iconst 0, 1) := by decide +kernel
theorem dL_saying_22 : decode cL_saying 22 = .ok (.ireturn, 1) := by decide +kernel
theorem dL_leaves_0 : decode cL_leaves 0 = .ok (.aload_n 2, 1) := by decide +kernel
theorem dL_leaves_1 : decode cL_leaves 1 = .ok (.iconst 0, 1) := by decide +kernel
theorem dL_leaves_2 : decode cL_leaves 2 = .ok (.aload_n 0, 1) := by decide +kernel
theorem dL_leaves_3 : decode cL_leaves 3 = .ok (.iload_n 1, 1) := by decide +kernel
theorem dL_leaves_4 : decode cL_leaves 4 = .ok (.invokevirtual 49, 3) := by decide +kernel
theorem dL_leaves_7 : decode cL_leaves 7 = .ok (.i2l, 1) := by decide +kernel
theorem dL_leaves_8 : decode cL_leaves 8 = .ok (.lastore, 1) := by decide +kernel
theorem dL_leaves_9 : decode cL_leaves 9 = .ok (.goto 6, 3) := by decide +kernel
theorem dL_leaves_12 : decode cL_leaves 12 = .ok (.astore_n 3, 1) := by decide +kernel
theorem dL_leaves_13 : decode cL_leaves 13 = .ok (.iconst 1, 1) := by decide +kernel
theorem dL_leaves_14 : decode cL_leaves 14 = .ok (.ireturn, 1) := by decide +kernel
theorem dL_leaves_15 : decode cL_leaves 15 = .ok (.iconst 0, 1) := by decide +kernel
theorem dL_leaves_16 : decode cL_leaves 16 = .ok (.ireturn, 1) := by decide +kernel
theorem dL_out_0 : decode cL_out 0 = .ok (.aload_n 2, 1) := by decide +kernel
theorem dL_out_1 : decode cL_out 1 = .ok (.iconst 0, 1) := by decide +kernel
theorem dL_out_2 : decode cL_out 2 = .ok (.aload_n 0, 1) := by decide +kernel
theorem dL_out_3 : decode cL_out 3 = .ok (.iload_n 1, 1) := by decide +kernel
theorem dL_out_4 : decode cL_out 4 = .ok (.invokevirtual 52, 3) := by decide +kernel
theorem dL_out_7 : decode cL_out 7 = .ok (.i2l, 1) := by decide +kernel
theorem dL_out_8 : decode cL_out 8 = .ok (.lastore, 1) := by decide +kernel
theorem dL_out_9 : decode cL_out 9 = .ok (.goto 6, 3) := by decide +kernel
theorem dL_out_12 : decode cL_out 12 = .ok (.astore_n 3, 1) := by decide +kernel
theorem dL_out_13 : decode cL_out 13 = .ok (.iconst 1, 1) := by decide +kernel
theorem dL_out_14 : decode cL_out 14 = .ok (.ireturn, 1) := by decide +kernel
theorem dL_out_15 : decode cL_out 15 = .ok (.iconst 0, 1) := by decide +kernel
theorem dL_out_16 : decode cL_out 16 = .ok (.ireturn, 1) := by decide +kernel
theorem dL_round_0 : decode cL_round 0 = .ok (.aload 4, 2) := by decide +kernel
theorem dL_round_2 : decode cL_round 2 = .ok (.iconst 0, 1) := by decide +kernel
theorem dL_round_3 : decode cL_round 3 = .ok (.aload_n 0, 1) := by decide +kernel
theorem dL_round_4 : decode cL_round 4 = .ok (.iload_n 1, 1) := by decide +kernel
theorem dL_round_5 : decode cL_round 5 = .ok (.iload_n 2, 1) := by decide +kernel
theorem dL_round_6 : decode cL_round 6 = .ok (.iload_n 3, 1) := by decide +kernel
theorem dL_round_7 : decode cL_round 7 = .ok (.invokevirtual 55, 3) := by decide +kernel
theorem dL_round_10 : decode cL_round 10 = .ok (.i2l, 1) := by decide +kernel
theorem dL_round_11 : decode cL_round 11 = .ok (.lastore, 1) := by decide +kernel
theorem dL_round_12 : decode cL_round 12 = .ok (.goto 11, 3) := by decide +kernel
theorem dL_round_15 : decode cL_round 15 = .ok (.astore 5, 2) := by decide +kernel
theorem dL_round_17 : decode cL_round 17 = .ok (.iconst 1, 1) := by decide +kernel
theorem dL_round_18 : decode cL_round 18 = .ok (.ireturn, 1) := by decide +kernel
theorem dL_round_19 : decode cL_round 19 = .ok (.astore 5, 2) := by decide +kernel
theorem dL_round_21 : decode cL_round 21 = .ok (.iconst 2, 1) := by decide +kernel
theorem dL_round_22 : decode cL_round 22 = .ok (.ireturn, 1) := by decide +kernel
theorem dL_round_23 : decode cL_round 23 = .ok (.iconst 0, 1) := by decide +kernel
theorem dL_round_24 : decode cL_round 24 = .ok (.ireturn, 1) := by decide +kernel
theorem dL_buy_0 : decode cL_buy 0 = .ok (.aload_n 3, 1) := by decide +kernel
theorem dL_buy_1 : decode cL_buy 1 = .ok (.iconst 0, 1) := by decide +kernel
theorem dL_buy_2 : decode cL_buy 2 = .ok (.aload_n 0, 1) := by decide +kernel
theorem dL_buy_3 : decode cL_buy 3 = .ok (.iload_n 1, 1) := by decide +kernel
theorem dL_buy_4 : decode cL_buy 4 = .ok (.iload_n 2, 1) := by decide +kernel
theorem dL_buy_5 : decode cL_buy 5 = .ok (.invokevirtual 59, 3) := by decide +kernel
theorem dL_buy_8 : decode cL_buy 8 = .ok (.i2l, 1) := by decide +kernel
theorem dL_buy_9 : decode cL_buy 9 = .ok (.lastore, 1) := by decide +kernel
theorem dL_buy_10 : decode cL_buy 10 = .ok (.goto 7, 3) := by decide +kernel
theorem dL_buy_13 : decode cL_buy 13 = .ok (.astore 4, 2) := by decide +kernel
theorem dL_buy_15 : decode cL_buy 15 = .ok (.iconst 1, 1) := by decide +kernel
theorem dL_buy_16 : decode cL_buy 16 = .ok (.ireturn, 1) := by decide +kernel
theorem dL_buy_17 : decode cL_buy 17 = .ok (.iconst 0, 1) := by decide +kernel
theorem dL_buy_18 : decode cL_buy 18 = .ok (.ireturn, 1) := by decide +kernel
theorem dL_meant_0 : decode cL_meant 0 = .ok (.aload 4, 2) := by decide +kernel
theorem dL_meant_2 : decode cL_meant 2 = .ok (.iconst 0, 1) := by decide +kernel
theorem dL_meant_3 : decode cL_meant 3 = .ok (.aload_n 0, 1) := by decide +kernel
theorem dL_meant_4 : decode cL_meant 4 = .ok (.iload_n 1, 1) := by decide +kernel
theorem dL_meant_5 : decode cL_meant 5 = .ok (.iload_n 2, 1) := by decide +kernel
theorem dL_meant_6 : decode cL_meant 6 = .ok (.iload_n 3, 1) := by decide +kernel
theorem dL_meant_7 : decode cL_meant 7 = .ok (.invokevirtual 62, 3) := by decide +kernel
theorem dL_meant_10 : decode cL_meant 10 = .ok (.i2l, 1) := by decide +kernel
theorem dL_meant_11 : decode cL_meant 11 = .ok (.lastore, 1) := by decide +kernel
theorem dL_meant_12 : decode cL_meant 12 = .ok (.goto 7, 3) := by decide +kernel
theorem dL_meant_15 : decode cL_meant 15 = .ok (.astore 5, 2) := by decide +kernel
theorem dL_meant_17 : decode cL_meant 17 = .ok (.iconst 1, 1) := by decide +kernel
theorem dL_meant_18 : decode cL_meant 18 = .ok (.ireturn, 1) := by decide +kernel
theorem dL_meant_19 : decode cL_meant 19 = .ok (.iconst 0, 1) := by decide +kernel
theorem dL_meant_20 : decode cL_meant 20 = .ok (.ireturn, 1) := by decide +kernel
theorem dL_look_0 : decode cL_look 0 = .ok (.aload 4, 2) := by decide +kernel
theorem dL_look_2 : decode cL_look 2 = .ok (.iconst 0, 1) := by decide +kernel
theorem dL_look_3 : decode cL_look 3 = .ok (.aload_n 0, 1) := by decide +kernel
theorem dL_look_4 : decode cL_look 4 = .ok (.iload_n 1, 1) := by decide +kernel
theorem dL_look_5 : decode cL_look 5 = .ok (.iload_n 2, 1) := by decide +kernel
theorem dL_look_6 : decode cL_look 6 = .ok (.iload_n 3, 1) := by decide +kernel
theorem dL_look_7 : decode cL_look 7 = .ok (.invokevirtual 65, 3) := by decide +kernel
theorem dL_look_10 : decode cL_look 10 = .ok (.i2l, 1) := by decide +kernel
theorem dL_look_11 : decode cL_look 11 = .ok (.lastore, 1) := by decide +kernel
theorem dL_look_12 : decode cL_look 12 = .ok (.goto 7, 3) := by decide +kernel
theorem dL_look_15 : decode cL_look 15 = .ok (.astore 5, 2) := by decide +kernel
theorem dL_look_17 : decode cL_look 17 = .ok (.iconst 1, 1) := by decide +kernel
theorem dL_look_18 : decode cL_look 18 = .ok (.ireturn, 1) := by decide +kernel
theorem dL_look_19 : decode cL_look 19 = .ok (.iconst 0, 1) := by decide +kernel
theorem dL_look_20 : decode cL_look 20 = .ok (.ireturn, 1) := by decide +kernel
theorem dL_dice_0 : decode cL_dice 0 = .ok (.aload_n 3, 1) := by decide +kernel
theorem dL_dice_1 : decode cL_dice 1 = .ok (.iconst 0, 1) := by decide +kernel
theorem dL_dice_2 : decode cL_dice 2 = .ok (.aload_n 0, 1) := by decide +kernel
theorem dL_dice_3 : decode cL_dice 3 = .ok (.iload_n 1, 1) := by decide +kernel
theorem dL_dice_4 : decode cL_dice 4 = .ok (.iload_n 2, 1) := by decide +kernel
theorem dL_dice_5 : decode cL_dice 5 = .ok (.invokevirtual 68, 3) := by decide +kernel
theorem dL_dice_8 : decode cL_dice 8 = .ok (.i2l, 1) := by decide +kernel
theorem dL_dice_9 : decode cL_dice 9 = .ok (.lastore, 1) := by decide +kernel
theorem dL_dice_10 : decode cL_dice 10 = .ok (.goto 7, 3) := by decide +kernel
theorem dL_dice_13 : decode cL_dice 13 = .ok (.astore 4, 2) := by decide +kernel
theorem dL_dice_15 : decode cL_dice 15 = .ok (.iconst 1, 1) := by decide +kernel
theorem dL_dice_16 : decode cL_dice 16 = .ok (.ireturn, 1) := by decide +kernel
theorem dL_dice_17 : decode cL_dice 17 = .ok (.iconst 0, 1) := by decide +kernel
theorem dL_dice_18 : decode cL_dice 18 = .ok (.ireturn, 1) := by decide +kernel
theorem dL_lets_0 : decode cL_lets 0 = .ok (.aload_n 3, 1) := by decide +kernel
theorem dL_lets_1 : decode cL_lets 1 = .ok (.iconst 0, 1) := by decide +kernel
theorem dL_lets_2 : decode cL_lets 2 = .ok (.aload_n 0, 1) := by decide +kernel
theorem dL_lets_3 : decode cL_lets 3 = .ok (.iload_n 1, 1) := by decide +kernel
theorem dL_lets_4 : decode cL_lets 4 = .ok (.iload_n 2, 1) := by decide +kernel
theorem dL_lets_5 : decode cL_lets 5 = .ok (.invokevirtual 71, 3) := by decide +kernel
theorem dL_lets_8 : decode cL_lets 8 = .ok (.i2l, 1) := by decide +kernel
theorem dL_lets_9 : decode cL_lets 9 = .ok (.lastore, 1) := by decide +kernel
theorem dL_lets_10 : decode cL_lets 10 = .ok (.goto 7, 3) := by decide +kernel
theorem dL_lets_13 : decode cL_lets 13 = .ok (.astore 4, 2) := by decide +kernel
theorem dL_lets_15 : decode cL_lets 15 = .ok (.iconst 1, 1) := by decide +kernel
theorem dL_lets_16 : decode cL_lets 16 = .ok (.ireturn, 1) := by decide +kernel
theorem dL_lets_17 : decode cL_lets 17 = .ok (.iconst 0, 1) := by decide +kernel
theorem dL_lets_18 : decode cL_lets 18 = .ok (.ireturn, 1) := by decide +kernel
theorem dL_tax_0 : decode cL_tax 0 = .ok (.aload_n 3, 1) := by decide +kernel
theorem dL_tax_1 : decode cL_tax 1 = .ok (.iconst 0, 1) := by decide +kernel
theorem dL_tax_2 : decode cL_tax 2 = .ok (.aload_n 0, 1) := by decide +kernel
theorem dL_tax_3 : decode cL_tax 3 = .ok (.iload_n 1, 1) := by decide +kernel
theorem dL_tax_4 : decode cL_tax 4 = .ok (.iload_n 2, 1) := by decide +kernel
theorem dL_tax_5 : decode cL_tax 5 = .ok (.invokevirtual 74, 3) := by decide +kernel
theorem dL_tax_8 : decode cL_tax 8 = .ok (.i2l, 1) := by decide +kernel
theorem dL_tax_9 : decode cL_tax 9 = .ok (.lastore, 1) := by decide +kernel
theorem dL_tax_10 : decode cL_tax 10 = .ok (.goto 11, 3) := by decide +kernel
theorem dL_tax_13 : decode cL_tax 13 = .ok (.astore 4, 2) := by decide +kernel
theorem dL_tax_15 : decode cL_tax 15 = .ok (.iconst 1, 1) := by decide +kernel
theorem dL_tax_16 : decode cL_tax 16 = .ok (.ireturn, 1) := by decide +kernel
theorem dL_tax_17 : decode cL_tax 17 = .ok (.astore 4, 2) := by decide +kernel
theorem dL_tax_19 : decode cL_tax 19 = .ok (.iconst 2, 1) := by decide +kernel
theorem dL_tax_20 : decode cL_tax 20 = .ok (.ireturn, 1) := by decide +kernel
theorem dL_tax_21 : decode cL_tax 21 = .ok (.iconst 0, 1) := by decide +kernel
theorem dL_tax_22 : decode cL_tax 22 = .ok (.ireturn, 1) := by decide +kernel
theorem dL_dearest_0 : decode cL_dearest 0 = .ok (.aload 4, 2) := by decide +kernel
theorem dL_dearest_2 : decode cL_dearest 2 = .ok (.iconst 0, 1) := by decide +kernel
theorem dL_dearest_3 : decode cL_dearest 3 = .ok (.aload_n 0, 1) := by decide +kernel
theorem dL_dearest_4 : decode cL_dearest 4 = .ok (.iload_n 1, 1) := by decide +kernel
theorem dL_dearest_5 : decode cL_dearest 5 = .ok (.iload_n 2, 1) := by decide +kernel
theorem dL_dearest_6 : decode cL_dearest 6 = .ok (.iload_n 3, 1) := by decide +kernel
theorem dL_dearest_7 : decode cL_dearest 7 = .ok (.invokevirtual 77, 3) := by decide +kernel
theorem dL_dearest_10 : decode cL_dearest 10 = .ok (.i2l, 1) := by decide +kernel
theorem dL_dearest_11 : decode cL_dearest 11 = .ok (.lastore, 1) := by decide +kernel
theorem dL_dearest_12 : decode cL_dearest 12 = .ok (.goto 7, 3) := by decide +kernel
theorem dL_dearest_15 : decode cL_dearest 15 = .ok (.astore 5, 2) := by decide +kernel
theorem dL_dearest_17 : decode cL_dearest 17 = .ok (.iconst 1, 1) := by decide +kernel
theorem dL_dearest_18 : decode cL_dearest 18 = .ok (.ireturn, 1) := by decide +kernel
theorem dL_dearest_19 : decode cL_dearest 19 = .ok (.iconst 0, 1) := by decide +kernel
theorem dL_dearest_20 : decode cL_dearest 20 = .ok (.ireturn, 1) := by decide +kernel
theorem dL_landlord_0 : decode cL_landlord 0 = .ok (.aload_n 2, 1) := by decide +kernel
theorem dL_landlord_1 : decode cL_landlord 1 = .ok (.iconst 0, 1) := by decide +kernel
theorem dL_landlord_2 : decode cL_landlord 2 = .ok (.aload_n 0, 1) := by decide +kernel
theorem dL_landlord_3 : decode cL_landlord 3 = .ok (.iload_n 1, 1) := by decide +kernel
theorem dL_landlord_4 : decode cL_landlord 4 = .ok (.invokevirtual 80, 3) := by decide +kernel
theorem dL_landlord_7 : decode cL_landlord 7 = .ok (.i2l, 1) := by decide +kernel
theorem dL_landlord_8 : decode cL_landlord 8 = .ok (.lastore, 1) := by decide +kernel
theorem dL_landlord_9 : decode cL_landlord 9 = .ok (.goto 6, 3) := by decide +kernel
theorem dL_landlord_12 : decode cL_landlord 12 = .ok (.astore_n 3, 1) := by decide +kernel
theorem dL_landlord_13 : decode cL_landlord 13 = .ok (.iconst 1, 1) := by decide +kernel
theorem dL_landlord_14 : decode cL_landlord 14 = .ok (.ireturn, 1) := by decide +kernel
theorem dL_landlord_15 : decode cL_landlord 15 = .ok (.iconst 0, 1) := by decide +kernel
theorem dL_landlord_16 : decode cL_landlord 16 = .ok (.ireturn, 1) := by decide +kernel
theorem dL_common_0 : decode cL_common 0 = .ok (.aload_n 2, 1) := by decide +kernel
theorem dL_common_1 : decode cL_common 1 = .ok (.iconst 0, 1) := by decide +kernel
theorem dL_common_2 : decode cL_common 2 = .ok (.aload_n 0, 1) := by decide +kernel
theorem dL_common_3 : decode cL_common 3 = .ok (.iload_n 1, 1) := by decide +kernel
theorem dL_common_4 : decode cL_common 4 = .ok (.invokevirtual 83, 3) := by decide +kernel
theorem dL_common_7 : decode cL_common 7 = .ok (.i2l, 1) := by decide +kernel
theorem dL_common_8 : decode cL_common 8 = .ok (.lastore, 1) := by decide +kernel
theorem dL_common_9 : decode cL_common 9 = .ok (.goto 6, 3) := by decide +kernel
theorem dL_common_12 : decode cL_common 12 = .ok (.astore_n 3, 1) := by decide +kernel
theorem dL_common_13 : decode cL_common 13 = .ok (.iconst 1, 1) := by decide +kernel
theorem dL_common_14 : decode cL_common 14 = .ok (.ireturn, 1) := by decide +kernel
theorem dL_common_15 : decode cL_common 15 = .ok (.iconst 0, 1) := by decide +kernel
theorem dL_common_16 : decode cL_common 16 = .ok (.ireturn, 1) := by decide +kernel
theorem dL_affords_0 : decode cL_affords 0 = .ok (.aload 4, 2) := by decide +kernel
theorem dL_affords_2 : decode cL_affords 2 = .ok (.iconst 0, 1) := by decide +kernel
theorem dL_affords_3 : decode cL_affords 3 = .ok (.aload_n 0, 1) := by decide +kernel
theorem dL_affords_4 : decode cL_affords 4 = .ok (.iload_n 1, 1) := by decide +kernel
theorem dL_affords_5 : decode cL_affords 5 = .ok (.iload_n 2, 1) := by decide +kernel
theorem dL_affords_6 : decode cL_affords 6 = .ok (.iload_n 3, 1) := by decide +kernel
theorem dL_affords_7 : decode cL_affords 7 = .ok (.invokevirtual 86, 3) := by decide +kernel
theorem dL_affords_10 : decode cL_affords 10 = .ok (.i2l, 1) := by decide +kernel
theorem dL_affords_11 : decode cL_affords 11 = .ok (.lastore, 1) := by decide +kernel
theorem dL_affords_12 : decode cL_affords 12 = .ok (.goto 11, 3) := by decide +kernel
theorem dL_affords_15 : decode cL_affords 15 = .ok (.astore 5, 2) := by decide +kernel
theorem dL_affords_17 : decode cL_affords 17 = .ok (.iconst 1, 1) := by decide +kernel
theorem dL_affords_18 : decode cL_affords 18 = .ok (.ireturn, 1) := by decide +kernel
theorem dL_affords_19 : decode cL_affords 19 = .ok (.astore 5, 2) := by decide +kernel
theorem dL_affords_21 : decode cL_affords 21 = .ok (.iconst 2, 1) := by decide +kernel
theorem dL_affords_22 : decode cL_affords 22 = .ok (.ireturn, 1) := by decide +kernel
theorem dL_affords_23 : decode cL_affords 23 = .ok (.iconst 0, 1) := by decide +kernel
theorem dL_affords_24 : decode cL_affords 24 = .ok (.ireturn, 1) := by decide +kernel
theorem dL_worth_0 : decode cL_worth 0 = .ok (.aload_n 2, 1) := by decide +kernel
theorem dL_worth_1 : decode cL_worth 1 = .ok (.iconst 0, 1) := by decide +kernel
theorem dL_worth_2 : decode cL_worth 2 = .ok (.aload_n 0, 1) := by decide +kernel
theorem dL_worth_3 : decode cL_worth 3 = .ok (.iload_n 1, 1) := by decide +kernel
theorem dL_worth_4 : decode cL_worth 4 = .ok (.invokevirtual 89, 3) := by decide +kernel
theorem dL_worth_7 : decode cL_worth 7 = .ok (.i2l, 1) := by decide +kernel
theorem dL_worth_8 : decode cL_worth 8 = .ok (.lastore, 1) := by decide +kernel
theorem dL_worth_9 : decode cL_worth 9 = .ok (.goto 6, 3) := by decide +kernel
theorem dL_worth_12 : decode cL_worth 12 = .ok (.astore_n 3, 1) := by decide +kernel
theorem dL_worth_13 : decode cL_worth 13 = .ok (.iconst 1, 1) := by decide +kernel
theorem dL_worth_14 : decode cL_worth 14 = .ok (.ireturn, 1) := by decide +kernel
theorem dL_worth_15 : decode cL_worth 15 = .ok (.iconst 0, 1) := by decide +kernel
theorem dL_worth_16 : decode cL_worth 16 = .ok (.ireturn, 1) := by decide +kernel
theorem dL_run_0 : decode cL_run 0 = .ok (.aload_n 3, 1) := by decide +kernel
theorem dL_run_1 : decode cL_run 1 = .ok (.iconst 0, 1) := by decide +kernel
theorem dL_run_2 : decode cL_run 2 = .ok (.aload_n 0, 1) := by decide +kernel
theorem dL_run_3 : decode cL_run 3 = .ok (.iload_n 1, 1) := by decide +kernel
theorem dL_run_4 : decode cL_run 4 = .ok (.iload_n 2, 1) := by decide +kernel
theorem dL_run_5 : decode cL_run 5 = .ok (.invokevirtual 92, 3) := by decide +kernel
theorem dL_run_8 : decode cL_run 8 = .ok (.i2l, 1) := by decide +kernel
theorem dL_run_9 : decode cL_run 9 = .ok (.lastore, 1) := by decide +kernel
theorem dL_run_10 : decode cL_run 10 = .ok (.goto 11, 3) := by decide +kernel
theorem dL_run_13 : decode cL_run 13 = .ok (.astore 4, 2) := by decide +kernel
theorem dL_run_15 : decode cL_run 15 = .ok (.iconst 1, 1) := by decide +kernel
theorem dL_run_16 : decode cL_run 16 = .ok (.ireturn, 1) := by decide +kernel
theorem dL_run_17 : decode cL_run 17 = .ok (.astore 4, 2) := by decide +kernel
theorem dL_run_19 : decode cL_run 19 = .ok (.iconst 2, 1) := by decide +kernel
theorem dL_run_20 : decode cL_run 20 = .ok (.ireturn, 1) := by decide +kernel
theorem dL_run_21 : decode cL_run 21 = .ok (.iconst 0, 1) := by decide +kernel
theorem dL_run_22 : decode cL_run 22 = .ok (.ireturn, 1) := by decide +kernel
theorem dL_cheapest_0 : decode cL_cheapest 0 = .ok (.aload_n 3, 1) := by decide +kernel
theorem dL_cheapest_1 : decode cL_cheapest 1 = .ok (.iconst 0, 1) := by decide +kernel
theorem dL_cheapest_2 : decode cL_cheapest 2 = .ok (.aload_n 0, 1) := by decide +kernel
theorem dL_cheapest_3 : decode cL_cheapest 3 = .ok (.iload_n 1, 1) := by decide +kernel
theorem dL_cheapest_4 : decode cL_cheapest 4 = .ok (.iload_n 2, 1) := by decide +kernel
theorem dL_cheapest_5 : decode cL_cheapest 5 = .ok (.invokevirtual 95, 3) := by decide +kernel
theorem dL_cheapest_8 : decode cL_cheapest 8 = .ok (.i2l, 1) := by decide +kernel
theorem dL_cheapest_9 : decode cL_cheapest 9 = .ok (.lastore, 1) := by decide +kernel
theorem dL_cheapest_10 : decode cL_cheapest 10 = .ok (.goto 11, 3) := by decide +kernel
theorem dL_cheapest_13 : decode cL_cheapest 13 = .ok (.astore 4, 2) := by decide +kernel
theorem dL_cheapest_15 : decode cL_cheapest 15 = .ok (.iconst 1, 1) := by decide +kernel
theorem dL_cheapest_16 : decode cL_cheapest 16 = .ok (.ireturn, 1) := by decide +kernel
theorem dL_cheapest_17 : decode cL_cheapest 17 = .ok (.astore 4, 2) := by decide +kernel
theorem dL_cheapest_19 : decode cL_cheapest 19 = .ok (.iconst 2, 1) := by decide +kernel
theorem dL_cheapest_20 : decode cL_cheapest 20 = .ok (.ireturn, 1) := by decide +kernel
theorem dL_cheapest_21 : decode cL_cheapest 21 = .ok (.iconst 0, 1) := by decide +kernel
theorem dL_cheapest_22 : decode cL_cheapest 22 = .ok (.ireturn, 1) := by decide +kernel
theorem dL_primes_0 : decode cL_primes 0 = .ok (.aload_n 2, 1) := by decide +kernel
theorem dL_primes_1 : decode cL_primes 1 = .ok (.iconst 0, 1) := by decide +kernel
theorem dL_primes_2 : decode cL_primes 2 = .ok (.aload_n 0, 1) := by decide +kernel
theorem dL_primes_3 : decode cL_primes 3 = .ok (.iload_n 1, 1) := by decide +kernel
theorem dL_primes_4 : decode cL_primes 4 = .ok (.invokevirtual 98, 3) := by decide +kernel
theorem dL_primes_7 : decode cL_primes 7 = .ok (.i2l, 1) := by decide +kernel
theorem dL_primes_8 : decode cL_primes 8 = .ok (.lastore, 1) := by decide +kernel
theorem dL_primes_9 : decode cL_primes 9 = .ok (.goto 6, 3) := by decide +kernel
theorem dL_primes_12 : decode cL_primes 12 = .ok (.astore_n 3, 1) := by decide +kernel
theorem dL_primes_13 : decode cL_primes 13 = .ok (.iconst 1, 1) := by decide +kernel
theorem dL_primes_14 : decode cL_primes 14 = .ok (.ireturn, 1) := by decide +kernel
theorem dL_primes_15 : decode cL_primes 15 = .ok (.iconst 0, 1) := by decide +kernel
theorem dL_primes_16 : decode cL_primes 16 = .ok (.ireturn, 1) := by decide +kernel
theorem dL_poorest_0 : decode cL_poorest 0 = .ok (.aload_n 2, 1) := by decide +kernel
theorem dL_poorest_1 : decode cL_poorest 1 = .ok (.iconst 0, 1) := by decide +kernel
theorem dL_poorest_2 : decode cL_poorest 2 = .ok (.aload_n 0, 1) := by decide +kernel
theorem dL_poorest_3 : decode cL_poorest 3 = .ok (.iload_n 1, 1) := by decide +kernel
theorem dL_poorest_4 : decode cL_poorest 4 = .ok (.invokevirtual 101, 3) := by decide +kernel
theorem dL_poorest_7 : decode cL_poorest 7 = .ok (.i2l, 1) := by decide +kernel
theorem dL_poorest_8 : decode cL_poorest 8 = .ok (.lastore, 1) := by decide +kernel
theorem dL_poorest_9 : decode cL_poorest 9 = .ok (.goto 6, 3) := by decide +kernel
theorem dL_poorest_12 : decode cL_poorest 12 = .ok (.astore_n 3, 1) := by decide +kernel
theorem dL_poorest_13 : decode cL_poorest 13 = .ok (.iconst 1, 1) := by decide +kernel
theorem dL_poorest_14 : decode cL_poorest 14 = .ok (.ireturn, 1) := by decide +kernel
theorem dL_poorest_15 : decode cL_poorest 15 = .ok (.iconst 0, 1) := by decide +kernel
theorem dL_poorest_16 : decode cL_poorest 16 = .ok (.ireturn, 1) := by decide +kernel
theorem dL_sayable_0 : decode cL_sayable 0 = .ok (.aload_n 3, 1) := by decide +kernel
theorem dL_sayable_1 : decode cL_sayable 1 = .ok (.iconst 0, 1) := by decide +kernel
theorem dL_sayable_2 : decode cL_sayable 2 = .ok (.aload_n 0, 1) := by decide +kernel
theorem dL_sayable_3 : decode cL_sayable 3 = .ok (.iload_n 1, 1) := by decide +kernel
theorem dL_sayable_4 : decode cL_sayable 4 = .ok (.iload_n 2, 1) := by decide +kernel
theorem dL_sayable_5 : decode cL_sayable 5 = .ok (.invokevirtual 104, 3) := by decide +kernel
theorem dL_sayable_8 : decode cL_sayable 8 = .ok (.i2l, 1) := by decide +kernel
theorem dL_sayable_9 : decode cL_sayable 9 = .ok (.lastore, 1) := by decide +kernel
theorem dL_sayable_10 : decode cL_sayable 10 = .ok (.goto 7, 3) := by decide +kernel
theorem dL_sayable_13 : decode cL_sayable 13 = .ok (.astore 4, 2) := by decide +kernel
theorem dL_sayable_15 : decode cL_sayable 15 = .ok (.iconst 1, 1) := by decide +kernel
theorem dL_sayable_16 : decode cL_sayable 16 = .ok (.ireturn, 1) := by decide +kernel
theorem dL_sayable_17 : decode cL_sayable 17 = .ok (.iconst 0, 1) := by decide +kernel
theorem dL_sayable_18 : decode cL_sayable 18 = .ok (.ireturn, 1) := by decide +kernel
theorem dL_year_0 : decode cL_year 0 = .ok (.aload 4, 2) := by decide +kernel
theorem dL_year_2 : decode cL_year 2 = .ok (.iconst 0, 1) := by decide +kernel
theorem dL_year_3 : decode cL_year 3 = .ok (.aload_n 0, 1) := by decide +kernel
theorem dL_year_4 : decode cL_year 4 = .ok (.iload_n 1, 1) := by decide +kernel
theorem dL_year_5 : decode cL_year 5 = .ok (.iload_n 2, 1) := by decide +kernel
theorem dL_year_6 : decode cL_year 6 = .ok (.iload_n 3, 1) := by decide +kernel
theorem dL_year_7 : decode cL_year 7 = .ok (.invokevirtual 107, 3) := by decide +kernel
theorem dL_year_10 : decode cL_year 10 = .ok (.i2l, 1) := by decide +kernel
theorem dL_year_11 : decode cL_year 11 = .ok (.lastore, 1) := by decide +kernel
theorem dL_year_12 : decode cL_year 12 = .ok (.goto 7, 3) := by decide +kernel
theorem dL_year_15 : decode cL_year 15 = .ok (.astore 5, 2) := by decide +kernel
theorem dL_year_17 : decode cL_year 17 = .ok (.iconst 1, 1) := by decide +kernel
theorem dL_year_18 : decode cL_year 18 = .ok (.ireturn, 1) := by decide +kernel
theorem dL_year_19 : decode cL_year 19 = .ok (.iconst 0, 1) := by decide +kernel
theorem dL_year_20 : decode cL_year 20 = .ok (.ireturn, 1) := by decide +kernel
theorem dL_span_0 : decode cL_span 0 = .ok (.aload 5, 2) := by decide +kernel
theorem dL_span_2 : decode cL_span 2 = .ok (.iconst 0, 1) := by decide +kernel
theorem dL_span_3 : decode cL_span 3 = .ok (.aload_n 0, 1) := by decide +kernel
theorem dL_span_4 : decode cL_span 4 = .ok (.iload_n 1, 1) := by decide +kernel
theorem dL_span_5 : decode cL_span 5 = .ok (.iload_n 2, 1) := by decide +kernel
theorem dL_span_6 : decode cL_span 6 = .ok (.iload_n 3, 1) := by decide +kernel
theorem dL_span_7 : decode cL_span 7 = .ok (.iload 4, 2) := by decide +kernel
theorem dL_span_9 : decode cL_span 9 = .ok (.invokevirtual 110, 3) := by decide +kernel
theorem dL_span_12 : decode cL_span 12 = .ok (.i2l, 1) := by decide +kernel
theorem dL_span_13 : decode cL_span 13 = .ok (.lastore, 1) := by decide +kernel
theorem dL_span_14 : decode cL_span 14 = .ok (.goto 7, 3) := by decide +kernel
theorem dL_span_17 : decode cL_span 17 = .ok (.astore 6, 2) := by decide +kernel
theorem dL_span_19 : decode cL_span 19 = .ok (.iconst 1, 1) := by decide +kernel
theorem dL_span_20 : decode cL_span 20 = .ok (.ireturn, 1) := by decide +kernel
theorem dL_span_21 : decode cL_span 21 = .ok (.iconst 0, 1) := by decide +kernel
theorem dL_span_22 : decode cL_span 22 = .ok (.ireturn, 1) := by decide +kernel
theorem dL_law__0 : decode cL_law_ 0 = .ok (.new 8, 3) := by decide +kernel
theorem dL_law__3 : decode cL_law_ 3 = .ok (.dup, 1) := by decide +kernel
theorem dL_law__4 : decode cL_law_ 4 = .ok (.invokespecial 114, 3) := by decide +kernel
theorem dL_law__7 : decode cL_law_ 7 = .ok (.astore_n 1, 1) := by decide +kernel
theorem dL_law__8 : decode cL_law_ 8 = .ok (.new 115, 3) := by decide +kernel
theorem dL_law__11 : decode cL_law_ 11 = .ok (.dup, 1) := by decide +kernel
theorem dL_law__12 : decode cL_law_ 12 = .ok (.invokespecial 117, 3) := by decide +kernel
theorem dL_law__15 : decode cL_law_ 15 = .ok (.astore_n 2, 1) := by decide +kernel
theorem dL_law__16 : decode cL_law_ 16 = .ok (.iconst 1, 1) := by decide +kernel
theorem dL_law__17 : decode cL_law_ 17 = .ok (.newarray .long, 2) := by decide +kernel
theorem dL_law__19 : decode cL_law_ 19 = .ok (.astore_n 3, 1) := by decide +kernel
theorem dL_law__20 : decode cL_law_ 20 = .ok (.iconst 0, 1) := by decide +kernel
theorem dL_law__21 : decode cL_law_ 21 = .ok (.istore 4, 2) := by decide +kernel
theorem dL_law__23 : decode cL_law_ 23 = .ok (.iload 4, 2) := by decide +kernel
theorem dL_law__25 : decode cL_law_ 25 = .ok (.aload_n 0, 1) := by decide +kernel
theorem dL_law__26 : decode cL_law_ 26 = .ok (.arraylength, 1) := by decide +kernel
theorem dL_law__27 : decode cL_law_ 27 = .ok (.bipush 7, 2) := by decide +kernel
theorem dL_law__29 : decode cL_law_ 29 = .ok (.isub, 1) := by decide +kernel
theorem dL_law__30 : decode cL_law_ 30 = .ok (.if_icmp .gt 2529, 3) := by decide +kernel
theorem dL_law__33 : decode cL_law_ 33 = .ok (.aload_n 0, 1) := by decide +kernel
theorem dL_law__34 : decode cL_law_ 34 = .ok (.iload 4, 2) := by decide +kernel
theorem dL_law__36 : decode cL_law_ 36 = .ok (.iaload, 1) := by decide +kernel
theorem dL_law__37 : decode cL_law_ 37 = .ok (.bipush 63, 2) := by decide +kernel
theorem dL_law__39 : decode cL_law_ 39 = .ok (.iand, 1) := by decide +kernel
theorem dL_law__40 : decode cL_law_ 40 = .ok (.tableswitch 2513 0 38 #[172, 245, 301, 357, 413, 469, 482, 495, 551, 619, 687, 755, 873, 929, 997, 1053, 1109, 1189, 1257, 1337, 1417, 1485, 1553, 1621, 1701, 1757, 1813, 1893, 1949, 2017, 2085, 2141, 2197, 2265, 2345, 2437, 2450, 2463, 2488], 172) := by decide +kernel
theorem dL_law__212 : decode cL_law_ 212 = .ok (.aload_n 1, 1) := by decide +kernel
theorem dL_law__213 : decode cL_law_ 213 = .ok (.aload_n 0, 1) := by decide +kernel
theorem dL_law__214 : decode cL_law_ 214 = .ok (.iload 4, 2) := by decide +kernel
theorem dL_law__216 : decode cL_law_ 216 = .ok (.iconst 1, 1) := by decide +kernel
theorem dL_law__217 : decode cL_law_ 217 = .ok (.iadd, 1) := by decide +kernel
theorem dL_law__218 : decode cL_law_ 218 = .ok (.iaload, 1) := by decide +kernel
theorem dL_law__219 : decode cL_law_ 219 = .ok (.aload_n 0, 1) := by decide +kernel
theorem dL_law__220 : decode cL_law_ 220 = .ok (.iload 4, 2) := by decide +kernel
theorem dL_law__222 : decode cL_law_ 222 = .ok (.iconst 2, 1) := by decide +kernel
theorem dL_law__223 : decode cL_law_ 223 = .ok (.iadd, 1) := by decide +kernel
theorem dL_law__224 : decode cL_law_ 224 = .ok (.iaload, 1) := by decide +kernel
theorem dL_law__225 : decode cL_law_ 225 = .ok (.aload_n 0, 1) := by decide +kernel
theorem dL_law__226 : decode cL_law_ 226 = .ok (.iload 4, 2) := by decide +kernel
theorem dL_law__228 : decode cL_law_ 228 = .ok (.iconst 3, 1) := by decide +kernel
theorem dL_law__229 : decode cL_law_ 229 = .ok (.iadd, 1) := by decide +kernel
theorem dL_law__230 : decode cL_law_ 230 = .ok (.iaload, 1) := by decide +kernel
theorem dL_law__231 : decode cL_law_ 231 = .ok (.aload_n 0, 1) := by decide +kernel
theorem dL_law__232 : decode cL_law_ 232 = .ok (.iload 4, 2) := by decide +kernel
theorem dL_law__234 : decode cL_law_ 234 = .ok (.iconst 4, 1) := by decide +kernel
theorem dL_law__235 : decode cL_law_ 235 = .ok (.iadd, 1) := by decide +kernel
theorem dL_law__236 : decode cL_law_ 236 = .ok (.iaload, 1) := by decide +kernel
theorem dL_law__237 : decode cL_law_ 237 = .ok (.aload_n 0, 1) := by decide +kernel
theorem dL_law__238 : decode cL_law_ 238 = .ok (.iload 4, 2) := by decide +kernel
theorem dL_law__240 : decode cL_law_ 240 = .ok (.iconst 5, 1) := by decide +kernel
theorem dL_law__241 : decode cL_law_ 241 = .ok (.iadd, 1) := by decide +kernel
theorem dL_law__242 : decode cL_law_ 242 = .ok (.iaload, 1) := by decide +kernel
theorem dL_law__243 : decode cL_law_ 243 = .ok (.invokevirtual 118, 3) := by decide +kernel
theorem dL_law__246 : decode cL_law_ 246 = .ok (.aload_n 2, 1) := by decide +kernel
theorem dL_law__247 : decode cL_law_ 247 = .ok (.aload_n 0, 1) := by decide +kernel
theorem dL_law__248 : decode cL_law_ 248 = .ok (.iload 4, 2) := by decide +kernel
theorem dL_law__250 : decode cL_law_ 250 = .ok (.iconst 1, 1) := by decide +kernel
theorem dL_law__251 : decode cL_law_ 251 = .ok (.iadd, 1) := by decide +kernel
theorem dL_law__252 : decode cL_law_ 252 = .ok (.iaload, 1) := by decide +kernel
theorem dL_law__253 : decode cL_law_ 253 = .ok (.aload_n 0, 1) := by decide +kernel
theorem dL_law__254 : decode cL_law_ 254 = .ok (.iload 4, 2) := by decide +kernel
theorem dL_law__256 : decode cL_law_ 256 = .ok (.iconst 2, 1) := by decide +kernel
theorem dL_law__257 : decode cL_law_ 257 = .ok (.iadd, 1) := by decide +kernel
theorem dL_law__258 : decode cL_law_ 258 = .ok (.iaload, 1) := by decide +kernel
theorem dL_law__259 : decode cL_law_ 259 = .ok (.aload_n 0, 1) := by decide +kernel
theorem dL_law__260 : decode cL_law_ 260 = .ok (.iload 4, 2) := by decide +kernel
theorem dL_law__262 : decode cL_law_ 262 = .ok (.iconst 3, 1) := by decide +kernel
theorem dL_law__263 : decode cL_law_ 263 = .ok (.iadd, 1) := by decide +kernel
theorem dL_law__264 : decode cL_law_ 264 = .ok (.iaload, 1) := by decide +kernel
theorem dL_law__265 : decode cL_law_ 265 = .ok (.aload_n 0, 1) := by decide +kernel
theorem dL_law__266 : decode cL_law_ 266 = .ok (.iload 4, 2) := by decide +kernel
theorem dL_law__268 : decode cL_law_ 268 = .ok (.iconst 4, 1) := by decide +kernel
theorem dL_law__269 : decode cL_law_ 269 = .ok (.iadd, 1) := by decide +kernel
theorem dL_law__270 : decode cL_law_ 270 = .ok (.iaload, 1) := by decide +kernel
theorem dL_law__271 : decode cL_law_ 271 = .ok (.aload_n 0, 1) := by decide +kernel
theorem dL_law__272 : decode cL_law_ 272 = .ok (.iload 4, 2) := by decide +kernel
theorem dL_law__274 : decode cL_law_ 274 = .ok (.iconst 5, 1) := by decide +kernel
theorem dL_law__275 : decode cL_law_ 275 = .ok (.iadd, 1) := by decide +kernel
theorem dL_law__276 : decode cL_law_ 276 = .ok (.iaload, 1) := by decide +kernel
theorem dL_law__277 : decode cL_law_ 277 = .ok (.invokevirtual 122, 3) := by decide +kernel
theorem dL_law__280 : decode cL_law_ 280 = .ok (.if_icmp .eq 2273, 3) := by decide +kernel
theorem dL_law__283 : decode cL_law_ 283 = .ok (.iconst 0, 1) := by decide +kernel
theorem dL_law__284 : decode cL_law_ 284 = .ok (.ireturn, 1) := by decide +kernel
theorem dL_law__285 : decode cL_law_ 285 = .ok (.aload_n 1, 1) := by decide +kernel
theorem dL_law__286 : decode cL_law_ 286 = .ok (.aload_n 0, 1) := by decide +kernel
theorem dL_law__287 : decode cL_law_ 287 = .ok (.iload 4, 2) := by decide +kernel
theorem dL_law__289 : decode cL_law_ 289 = .ok (.iconst 1, 1) := by decide +kernel
theorem dL_law__290 : decode cL_law_ 290 = .ok (.iadd, 1) := by decide +kernel
theorem dL_law__291 : decode cL_law_ 291 = .ok (.iaload, 1) := by decide +kernel
theorem dL_law__292 : decode cL_law_ 292 = .ok (.aload_n 3, 1) := by decide +kernel
theorem dL_law__293 : decode cL_law_ 293 = .ok (.invokestatic 123, 3) := by decide +kernel
theorem dL_law__296 : decode cL_law_ 296 = .ok (.istore 5, 2) := by decide +kernel
theorem dL_law__298 : decode cL_law_ 298 = .ok (.aload_n 2, 1) := by decide +kernel
theorem dL_law__299 : decode cL_law_ 299 = .ok (.aload_n 0, 1) := by decide +kernel
theorem dL_law__300 : decode cL_law_ 300 = .ok (.iload 4, 2) := by decide +kernel
theorem dL_law__302 : decode cL_law_ 302 = .ok (.iconst 1, 1) := by decide +kernel
theorem dL_law__303 : decode cL_law_ 303 = .ok (.iadd, 1) := by decide +kernel
theorem dL_law__304 : decode cL_law_ 304 = .ok (.iaload, 1) := by decide +kernel
theorem dL_law__305 : decode cL_law_ 305 = .ok (.invokevirtual 128, 3) := by decide +kernel
theorem dL_law__308 : decode cL_law_ 308 = .ok (.istore 6, 2) := by decide +kernel
theorem dL_law__310 : decode cL_law_ 310 = .ok (.aload_n 2, 1) := by decide +kernel
theorem dL_law__311 : decode cL_law_ 311 = .ok (.invokevirtual 129, 3) := by decide +kernel
theorem dL_law__314 : decode cL_law_ 314 = .ok (.iload 5, 2) := by decide +kernel
theorem dL_law__316 : decode cL_law_ 316 = .ok (.if_icmp .eq 5, 3) := by decide +kernel
theorem dL_law__319 : decode cL_law_ 319 = .ok (.iconst 0, 1) := by decide +kernel
theorem dL_law__320 : decode cL_law_ 320 = .ok (.ireturn, 1) := by decide +kernel
theorem dL_law__321 : decode cL_law_ 321 = .ok (.iload 5, 2) := by decide +kernel
theorem dL_law__323 : decode cL_law_ 323 = .ok (.ifCond .ne 15, 3) := by decide +kernel
theorem dL_law__326 : decode cL_law_ 326 = .ok (.aload_n 3, 1) := by decide +kernel
theorem dL_law__327 : decode cL_law_ 327 = .ok (.iconst 0, 1) := by decide +kernel
theorem dL_law__328 : decode cL_law_ 328 = .ok (.laload, 1) := by decide +kernel
theorem dL_law__329 : decode cL_law_ 329 = .ok (.iload 6, 2) := by decide +kernel
theorem dL_law__331 : decode cL_law_ 331 = .ok (.i2l, 1) := by decide +kernel
theorem dL_law__332 : decode cL_law_ 332 = .ok (.lcmp, 1) := by decide +kernel
theorem dL_law__333 : decode cL_law_ 333 = .ok (.ifCond .eq 5, 3) := by decide +kernel
theorem dL_law__336 : decode cL_law_ 336 = .ok (.iconst 0, 1) := by decide +kernel
theorem dL_law__337 : decode cL_law_ 337 = .ok (.ireturn, 1) := by decide +kernel
theorem dL_law__338 : decode cL_law_ 338 = .ok (.goto 2215, 3) := by decide +kernel
theorem dL_law__341 : decode cL_law_ 341 = .ok (.aload_n 1, 1) := by decide +kernel
theorem dL_law__342 : decode cL_law_ 342 = .ok (.aload_n 0, 1) := by decide +kernel
theorem dL_law__343 : decode cL_law_ 343 = .ok (.iload 4, 2) := by decide +kernel
theorem dL_law__345 : decode cL_law_ 345 = .ok (.iconst 1, 1) := by decide +kernel
theorem dL_law__346 : decode cL_law_ 346 = .ok (.iadd, 1) := by decide +kernel
theorem dL_law__347 : decode cL_law_ 347 = .ok (.iaload, 1) := by decide +kernel
theorem dL_law__348 : decode cL_law_ 348 = .ok (.aload_n 3, 1) := by decide +kernel
theorem dL_law__349 : decode cL_law_ 349 = .ok (.invokestatic 133, 3) := by decide +kernel
theorem dL_law__352 : decode cL_law_ 352 = .ok (.istore 5, 2) := by decide +kernel
theorem dL_law__354 : decode cL_law_ 354 = .ok (.aload_n 2, 1) := by decide +kernel
theorem dL_law__355 : decode cL_law_ 355 = .ok (.aload_n 0, 1) := by decide +kernel
theorem dL_law__356 : decode cL_law_ 356 = .ok (.iload 4, 2) := by decide +kernel
theorem dL_law__358 : decode cL_law_ 358 = .ok (.iconst 1, 1) := by decide +kernel
theorem dL_law__359 : decode cL_law_ 359 = .ok (.iadd, 1) := by decide +kernel
theorem dL_law__360 : decode cL_law_ 360 = .ok (.iaload, 1) := by decide +kernel
theorem dL_law__361 : decode cL_law_ 361 = .ok (.invokevirtual 135, 3) := by decide +kernel
theorem dL_law__364 : decode cL_law_ 364 = .ok (.istore 6, 2) := by decide +kernel
theorem dL_law__366 : decode cL_law_ 366 = .ok (.aload_n 2, 1) := by decide +kernel
theorem dL_law__367 : decode cL_law_ 367 = .ok (.invokevirtual 129, 3) := by decide +kernel
theorem dL_law__370 : decode cL_law_ 370 = .ok (.iload 5, 2) := by decide +kernel
theorem dL_law__372 : decode cL_law_ 372 = .ok (.if_icmp .eq 5, 3) := by decide +kernel
theorem dL_law__375 : decode cL_law_ 375 = .ok (.iconst 0, 1) := by decide +kernel
theorem dL_law__376 : decode cL_law_ 376 = .ok (.ireturn, 1) := by decide +kernel
theorem dL_law__377 : decode cL_law_ 377 = .ok (.iload 5, 2) := by decide +kernel
theorem dL_law__379 : decode cL_law_ 379 = .ok (.ifCond .ne 15, 3) := by decide +kernel
theorem dL_law__382 : decode cL_law_ 382 = .ok (.aload_n 3, 1) := by decide +kernel
theorem dL_law__383 : decode cL_law_ 383 = .ok (.iconst 0, 1) := by decide +kernel
theorem dL_law__384 : decode cL_law_ 384 = .ok (.laload, 1) := by decide +kernel
theorem dL_law__385 : decode cL_law_ 385 = .ok (.iload 6, 2) := by decide +kernel
theorem dL_law__387 : decode cL_law_ 387 = .ok (.i2l, 1) := by decide +kernel
theorem dL_law__388 : decode cL_law_ 388 = .ok (.lcmp, 1) := by decide +kernel
theorem dL_law__389 : decode cL_law_ 389 = .ok (.ifCond .eq 5, 3) := by decide +kernel
theorem dL_law__392 : decode cL_law_ 392 = .ok (.iconst 0, 1) := by decide +kernel
theorem dL_law__393 : decode cL_law_ 393 = .ok (.ireturn, 1) := by decide +kernel
theorem dL_law__394 : decode cL_law_ 394 = .ok (.goto 2159, 3) := by decide +kernel
theorem dL_law__397 : decode cL_law_ 397 = .ok (.aload_n 1, 1) := by decide +kernel
theorem dL_law__398 : decode cL_law_ 398 = .ok (.aload_n 0, 1) := by decide +kernel
theorem dL_law__399 : decode cL_law_ 399 = .ok (.iload 4, 2) := by decide +kernel
theorem dL_law__401 : decode cL_law_ 401 = .ok (.iconst 1, 1) := by decide +kernel
theorem dL_law__402 : decode cL_law_ 402 = .ok (.iadd, 1) := by decide +kernel
theorem dL_law__403 : decode cL_law_ 403 = .ok (.iaload, 1) := by decide +kernel
theorem dL_law__404 : decode cL_law_ 404 = .ok (.aload_n 3, 1) := by decide +kernel
theorem dL_law__405 : decode cL_law_ 405 = .ok (.invokestatic 136, 3) := by decide +kernel
theorem dL_law__408 : decode cL_law_ 408 = .ok (.istore 5, 2) := by decide +kernel
theorem dL_law__410 : decode cL_law_ 410 = .ok (.aload_n 2, 1) := by decide +kernel
theorem dL_law__411 : decode cL_law_ 411 = .ok (.aload_n 0, 1) := by decide +kernel
theorem dL_law__412 : decode cL_law_ 412 = .ok (.iload 4, 2) := by decide +kernel
theorem dL_law__414 : decode cL_law_ 414 = .ok (.iconst 1, 1) := by decide +kernel
theorem dL_law__415 : decode cL_law_ 415 = .ok (.iadd, 1) := by decide +kernel
theorem dL_law__416 : decode cL_law_ 416 = .ok (.iaload, 1) := by decide +kernel
theorem dL_law__417 : decode cL_law_ 417 = .ok (.invokevirtual 138, 3) := by decide +kernel
theorem dL_law__420 : decode cL_law_ 420 = .ok (.istore 6, 2) := by decide +kernel
theorem dL_law__422 : decode cL_law_ 422 = .ok (.aload_n 2, 1) := by decide +kernel
theorem dL_law__423 : decode cL_law_ 423 = .ok (.invokevirtual 129, 3) := by decide +kernel
theorem dL_law__426 : decode cL_law_ 426 = .ok (.iload 5, 2) := by decide +kernel
theorem dL_law__428 : decode cL_law_ 428 = .ok (.if_icmp .eq 5, 3) := by decide +kernel
theorem dL_law__431 : decode cL_law_ 431 = .ok (.iconst 0, 1) := by decide +kernel
theorem dL_law__432 : decode cL_law_ 432 = .ok (.ireturn, 1) := by decide +kernel
theorem dL_law__433 : decode cL_law_ 433 = .ok (.iload 5, 2) := by decide +kernel
theorem dL_law__435 : decode cL_law_ 435 = .ok (.ifCond .ne 15, 3) := by decide +kernel
theorem dL_law__438 : decode cL_law_ 438 = .ok (.aload_n 3, 1) := by decide +kernel
theorem dL_law__439 : decode cL_law_ 439 = .ok (.iconst 0, 1) := by decide +kernel
theorem dL_law__440 : decode cL_law_ 440 = .ok (.laload, 1) := by decide +kernel
theorem dL_law__441 : decode cL_law_ 441 = .ok (.iload 6, 2) := by decide +kernel
theorem dL_law__443 : decode cL_law_ 443 = .ok (.i2l, 1) := by decide +kernel
theorem dL_law__444 : decode cL_law_ 444 = .ok (.lcmp, 1) := by decide +kernel
theorem dL_law__445 : decode cL_law_ 445 = .ok (.ifCond .eq 5, 3) := by decide +kernel
theorem dL_law__448 : decode cL_law_ 448 = .ok (.iconst 0, 1) := by decide +kernel
theorem dL_law__449 : decode cL_law_ 449 = .ok (.ireturn, 1) := by decide +kernel
theorem dL_law__450 : decode cL_law_ 450 = .ok (.goto 2103, 3) := by decide +kernel
theorem dL_law__453 : decode cL_law_ 453 = .ok (.aload_n 1, 1) := by decide +kernel
theorem dL_law__454 : decode cL_law_ 454 = .ok (.aload_n 0, 1) := by decide +kernel
theorem dL_law__455 : decode cL_law_ 455 = .ok (.iload 4, 2) := by decide +kernel
theorem dL_law__457 : decode cL_law_ 457 = .ok (.iconst 1, 1) := by decide +kernel
theorem dL_law__458 : decode cL_law_ 458 = .ok (.iadd, 1) := by decide +kernel
theorem dL_law__459 : decode cL_law_ 459 = .ok (.iaload, 1) := by decide +kernel
theorem dL_law__460 : decode cL_law_ 460 = .ok (.aload_n 3, 1) := by decide +kernel
theorem dL_law__461 : decode cL_law_ 461 = .ok (.invokestatic 139, 3) := by decide +kernel
theorem dL_law__464 : decode cL_law_ 464 = .ok (.istore 5, 2) := by decide +kernel
theorem dL_law__466 : decode cL_law_ 466 = .ok (.aload_n 2, 1) := by decide +kernel
theorem dL_law__467 : decode cL_law_ 467 = .ok (.aload_n 0, 1) := by decide +kernel
theorem dL_law__468 : decode cL_law_ 468 = .ok (.iload 4, 2) := by decide +kernel
theorem dL_law__470 : decode cL_law_ 470 = .ok (.iconst 1, 1) := by decide +kernel
theorem dL_law__471 : decode cL_law_ 471 = .ok (.iadd, 1) := by decide +kernel
theorem dL_law__472 : decode cL_law_ 472 = .ok (.iaload, 1) := by decide +kernel
theorem dL_law__473 : decode cL_law_ 473 = .ok (.invokevirtual 141, 3) := by decide +kernel
theorem dL_law__476 : decode cL_law_ 476 = .ok (.istore 6, 2) := by decide +kernel
theorem dL_law__478 : decode cL_law_ 478 = .ok (.aload_n 2, 1) := by decide +kernel
theorem dL_law__479 : decode cL_law_ 479 = .ok (.invokevirtual 129, 3) := by decide +kernel
theorem dL_law__482 : decode cL_law_ 482 = .ok (.iload 5, 2) := by decide +kernel
theorem dL_law__484 : decode cL_law_ 484 = .ok (.if_icmp .eq 5, 3) := by decide +kernel
theorem dL_law__487 : decode cL_law_ 487 = .ok (.iconst 0, 1) := by decide +kernel
theorem dL_law__488 : decode cL_law_ 488 = .ok (.ireturn, 1) := by decide +kernel
theorem dL_law__489 : decode cL_law_ 489 = .ok (.iload 5, 2) := by decide +kernel
theorem dL_law__491 : decode cL_law_ 491 = .ok (.ifCond .ne 15, 3) := by decide +kernel
theorem dL_law__494 : decode cL_law_ 494 = .ok (.aload_n 3, 1) := by decide +kernel
theorem dL_law__495 : decode cL_law_ 495 = .ok (.iconst 0, 1) := by decide +kernel
theorem dL_law__496 : decode cL_law_ 496 = .ok (.laload, 1) := by decide +kernel
theorem dL_law__497 : decode cL_law_ 497 = .ok (.iload 6, 2) := by decide +kernel
theorem dL_law__499 : decode cL_law_ 499 = .ok (.i2l, 1) := by decide +kernel
theorem dL_law__500 : decode cL_law_ 500 = .ok (.lcmp, 1) := by decide +kernel
theorem dL_law__501 : decode cL_law_ 501 = .ok (.ifCond .eq 5, 3) := by decide +kernel
theorem dL_law__504 : decode cL_law_ 504 = .ok (.iconst 0, 1) := by decide +kernel
theorem dL_law__505 : decode cL_law_ 505 = .ok (.ireturn, 1) := by decide +kernel
theorem dL_law__506 : decode cL_law_ 506 = .ok (.goto 2047, 3) := by decide +kernel
theorem dL_law__509 : decode cL_law_ 509 = .ok (.aload_n 1, 1) := by decide +kernel
theorem dL_law__510 : decode cL_law_ 510 = .ok (.invokevirtual 142, 3) := by decide +kernel
theorem dL_law__513 : decode cL_law_ 513 = .ok (.aload_n 2, 1) := by decide +kernel
theorem dL_law__514 : decode cL_law_ 514 = .ok (.invokevirtual 145, 3) := by decide +kernel
theorem dL_law__517 : decode cL_law_ 517 = .ok (.if_icmp .eq 2036, 3) := by decide +kernel
theorem dL_law__520 : decode cL_law_ 520 = .ok (.iconst 0, 1) := by decide +kernel
theorem dL_law__521 : decode cL_law_ 521 = .ok (.ireturn, 1) := by decide +kernel
theorem dL_law__522 : decode cL_law_ 522 = .ok (.aload_n 1, 1) := by decide +kernel
theorem dL_law__523 : decode cL_law_ 523 = .ok (.invokevirtual 146, 3) := by decide +kernel
theorem dL_law__526 : decode cL_law_ 526 = .ok (.aload_n 2, 1) := by decide +kernel
theorem dL_law__527 : decode cL_law_ 527 = .ok (.invokevirtual 149, 3) := by decide +kernel
theorem dL_law__530 : decode cL_law_ 530 = .ok (.if_icmp .eq 2023, 3) := by decide +kernel
theorem dL_law__533 : decode cL_law_ 533 = .ok (.iconst 0, 1) := by decide +kernel
theorem dL_law__534 : decode cL_law_ 534 = .ok (.ireturn, 1) := by decide +kernel
theorem dL_law__535 : decode cL_law_ 535 = .ok (.aload_n 1, 1) := by decide +kernel
theorem dL_law__536 : decode cL_law_ 536 = .ok (.aload_n 0, 1) := by decide +kernel
theorem dL_law__537 : decode cL_law_ 537 = .ok (.iload 4, 2) := by decide +kernel
theorem dL_law__539 : decode cL_law_ 539 = .ok (.iconst 1, 1) := by decide +kernel
theorem dL_law__540 : decode cL_law_ 540 = .ok (.iadd, 1) := by decide +kernel
theorem dL_law__541 : decode cL_law_ 541 = .ok (.iaload, 1) := by decide +kernel
theorem dL_law__542 : decode cL_law_ 542 = .ok (.aload_n 3, 1) := by decide +kernel
theorem dL_law__543 : decode cL_law_ 543 = .ok (.invokestatic 150, 3) := by decide +kernel
theorem dL_law__546 : decode cL_law_ 546 = .ok (.istore 5, 2) := by decide +kernel
theorem dL_law__548 : decode cL_law_ 548 = .ok (.aload_n 2, 1) := by decide +kernel
theorem dL_law__549 : decode cL_law_ 549 = .ok (.aload_n 0, 1) := by decide +kernel
theorem dL_law__550 : decode cL_law_ 550 = .ok (.iload 4, 2) := by decide +kernel
theorem dL_law__552 : decode cL_law_ 552 = .ok (.iconst 1, 1) := by decide +kernel
theorem dL_law__553 : decode cL_law_ 553 = .ok (.iadd, 1) := by decide +kernel
theorem dL_law__554 : decode cL_law_ 554 = .ok (.iaload, 1) := by decide +kernel
theorem dL_law__555 : decode cL_law_ 555 = .ok (.invokevirtual 152, 3) := by decide +kernel
theorem dL_law__558 : decode cL_law_ 558 = .ok (.istore 6, 2) := by decide +kernel
theorem dL_law__560 : decode cL_law_ 560 = .ok (.aload_n 2, 1) := by decide +kernel
theorem dL_law__561 : decode cL_law_ 561 = .ok (.invokevirtual 129, 3) := by decide +kernel
theorem dL_law__564 : decode cL_law_ 564 = .ok (.iload 5, 2) := by decide +kernel
theorem dL_law__566 : decode cL_law_ 566 = .ok (.if_icmp .eq 5, 3) := by decide +kernel
theorem dL_law__569 : decode cL_law_ 569 = .ok (.iconst 0, 1) := by decide +kernel
theorem dL_law__570 : decode cL_law_ 570 = .ok (.ireturn, 1) := by decide +kernel
theorem dL_law__571 : decode cL_law_ 571 = .ok (.iload 5, 2) := by decide +kernel
theorem dL_law__573 : decode cL_law_ 573 = .ok (.ifCond .ne 15, 3) := by decide +kernel
theorem dL_law__576 : decode cL_law_ 576 = .ok (.aload_n 3, 1) := by decide +kernel
theorem dL_law__577 : decode cL_law_ 577 = .ok (.iconst 0, 1) := by decide +kernel
theorem dL_law__578 : decode cL_law_ 578 = .ok (.laload, 1) := by decide +kernel
theorem dL_law__579 : decode cL_law_ 579 = .ok (.iload 6, 2) := by decide +kernel
theorem dL_law__581 : decode cL_law_ 581 = .ok (.i2l, 1) := by decide +kernel
theorem dL_law__582 : decode cL_law_ 582 = .ok (.lcmp, 1) := by decide +kernel
theorem dL_law__583 : decode cL_law_ 583 = .ok (.ifCond .eq 5, 3) := by decide +kernel
theorem dL_law__586 : decode cL_law_ 586 = .ok (.iconst 0, 1) := by decide +kernel
theorem dL_law__587 : decode cL_law_ 587 = .ok (.ireturn, 1) := by decide +kernel
theorem dL_law__588 : decode cL_law_ 588 = .ok (.goto 1965, 3) := by decide +kernel
theorem dL_law__591 : decode cL_law_ 591 = .ok (.aload_n 1, 1) := by decide +kernel
theorem dL_law__592 : decode cL_law_ 592 = .ok (.aload_n 0, 1) := by decide +kernel
theorem dL_law__593 : decode cL_law_ 593 = .ok (.iload 4, 2) := by decide +kernel
theorem dL_law__595 : decode cL_law_ 595 = .ok (.iconst 1, 1) := by decide +kernel
theorem dL_law__596 : decode cL_law_ 596 = .ok (.iadd, 1) := by decide +kernel
theorem dL_law__597 : decode cL_law_ 597 = .ok (.iaload, 1) := by decide +kernel
theorem dL_law__598 : decode cL_law_ 598 = .ok (.aload_n 0, 1) := by decide +kernel
theorem dL_law__599 : decode cL_law_ 599 = .ok (.iload 4, 2) := by decide +kernel
theorem dL_law__601 : decode cL_law_ 601 = .ok (.iconst 2, 1) := by decide +kernel
theorem dL_law__602 : decode cL_law_ 602 = .ok (.iadd, 1) := by decide +kernel
theorem dL_law__603 : decode cL_law_ 603 = .ok (.iaload, 1) := by decide +kernel
theorem dL_law__604 : decode cL_law_ 604 = .ok (.aload_n 3, 1) := by decide +kernel
theorem dL_law__605 : decode cL_law_ 605 = .ok (.invokestatic 153, 3) := by decide +kernel
theorem dL_law__608 : decode cL_law_ 608 = .ok (.istore 5, 2) := by decide +kernel
theorem dL_law__610 : decode cL_law_ 610 = .ok (.aload_n 2, 1) := by decide +kernel
theorem dL_law__611 : decode cL_law_ 611 = .ok (.aload_n 0, 1) := by decide +kernel
theorem dL_law__612 : decode cL_law_ 612 = .ok (.iload 4, 2) := by decide +kernel
theorem dL_law__614 : decode cL_law_ 614 = .ok (.iconst 1, 1) := by decide +kernel
theorem dL_law__615 : decode cL_law_ 615 = .ok (.iadd, 1) := by decide +kernel
theorem dL_law__616 : decode cL_law_ 616 = .ok (.iaload, 1) := by decide +kernel
theorem dL_law__617 : decode cL_law_ 617 = .ok (.aload_n 0, 1) := by decide +kernel
theorem dL_law__618 : decode cL_law_ 618 = .ok (.iload 4, 2) := by decide +kernel
theorem dL_law__620 : decode cL_law_ 620 = .ok (.iconst 2, 1) := by decide +kernel
theorem dL_law__621 : decode cL_law_ 621 = .ok (.iadd, 1) := by decide +kernel
theorem dL_law__622 : decode cL_law_ 622 = .ok (.iaload, 1) := by decide +kernel
theorem dL_law__623 : decode cL_law_ 623 = .ok (.invokevirtual 156, 3) := by decide +kernel
theorem dL_law__626 : decode cL_law_ 626 = .ok (.istore 6, 2) := by decide +kernel
theorem dL_law__628 : decode cL_law_ 628 = .ok (.aload_n 2, 1) := by decide +kernel
theorem dL_law__629 : decode cL_law_ 629 = .ok (.invokevirtual 129, 3) := by decide +kernel
theorem dL_law__632 : decode cL_law_ 632 = .ok (.iload 5, 2) := by decide +kernel
theorem dL_law__634 : decode cL_law_ 634 = .ok (.if_icmp .eq 5, 3) := by decide +kernel
theorem dL_law__637 : decode cL_law_ 637 = .ok (.iconst 0, 1) := by decide +kernel
theorem dL_law__638 : decode cL_law_ 638 = .ok (.ireturn, 1) := by decide +kernel
theorem dL_law__639 : decode cL_law_ 639 = .ok (.iload 5, 2) := by decide +kernel
theorem dL_law__641 : decode cL_law_ 641 = .ok (.ifCond .ne 15, 3) := by decide +kernel
theorem dL_law__644 : decode cL_law_ 644 = .ok (.aload_n 3, 1) := by decide +kernel
theorem dL_law__645 : decode cL_law_ 645 = .ok (.iconst 0, 1) := by decide +kernel
theorem dL_law__646 : decode cL_law_ 646 = .ok (.laload, 1) := by decide +kernel
theorem dL_law__647 : decode cL_law_ 647 = .ok (.iload 6, 2) := by decide +kernel
theorem dL_law__649 : decode cL_law_ 649 = .ok (.i2l, 1) := by decide +kernel
theorem dL_law__650 : decode cL_law_ 650 = .ok (.lcmp, 1) := by decide +kernel
theorem dL_law__651 : decode cL_law_ 651 = .ok (.ifCond .eq 5, 3) := by decide +kernel
theorem dL_law__654 : decode cL_law_ 654 = .ok (.iconst 0, 1) := by decide +kernel
theorem dL_law__655 : decode cL_law_ 655 = .ok (.ireturn, 1) := by decide +kernel
theorem dL_law__656 : decode cL_law_ 656 = .ok (.goto 1897, 3) := by decide +kernel
theorem dL_law__659 : decode cL_law_ 659 = .ok (.aload_n 1, 1) := by decide +kernel
theorem dL_law__660 : decode cL_law_ 660 = .ok (.aload_n 0, 1) := by decide +kernel
theorem dL_law__661 : decode cL_law_ 661 = .ok (.iload 4, 2) := by decide +kernel
theorem dL_law__663 : decode cL_law_ 663 = .ok (.iconst 1, 1) := by decide +kernel
theorem dL_law__664 : decode cL_law_ 664 = .ok (.iadd, 1) := by decide +kernel
theorem dL_law__665 : decode cL_law_ 665 = .ok (.iaload, 1) := by decide +kernel
theorem dL_law__666 : decode cL_law_ 666 = .ok (.aload_n 0, 1) := by decide +kernel
theorem dL_law__667 : decode cL_law_ 667 = .ok (.iload 4, 2) := by decide +kernel
theorem dL_law__669 : decode cL_law_ 669 = .ok (.iconst 2, 1) := by decide +kernel
theorem dL_law__670 : decode cL_law_ 670 = .ok (.iadd, 1) := by decide +kernel
theorem dL_law__671 : decode cL_law_ 671 = .ok (.iaload, 1) := by decide +kernel
theorem dL_law__672 : decode cL_law_ 672 = .ok (.aload_n 3, 1) := by decide +kernel
theorem dL_law__673 : decode cL_law_ 673 = .ok (.invokestatic 157, 3) := by decide +kernel
theorem dL_law__676 : decode cL_law_ 676 = .ok (.istore 5, 2) := by decide +kernel
theorem dL_law__678 : decode cL_law_ 678 = .ok (.aload_n 2, 1) := by decide +kernel
theorem dL_law__679 : decode cL_law_ 679 = .ok (.aload_n 0, 1) := by decide +kernel
theorem dL_law__680 : decode cL_law_ 680 = .ok (.iload 4, 2) := by decide +kernel
theorem dL_law__682 : decode cL_law_ 682 = .ok (.iconst 1, 1) := by decide +kernel
theorem dL_law__683 : decode cL_law_ 683 = .ok (.iadd, 1) := by decide +kernel
theorem dL_law__684 : decode cL_law_ 684 = .ok (.iaload, 1) := by decide +kernel
theorem dL_law__685 : decode cL_law_ 685 = .ok (.aload_n 0, 1) := by decide +kernel
theorem dL_law__686 : decode cL_law_ 686 = .ok (.iload 4, 2) := by decide +kernel
theorem dL_law__688 : decode cL_law_ 688 = .ok (.iconst 2, 1) := by decide +kernel
theorem dL_law__689 : decode cL_law_ 689 = .ok (.iadd, 1) := by decide +kernel
theorem dL_law__690 : decode cL_law_ 690 = .ok (.iaload, 1) := by decide +kernel
theorem dL_law__691 : decode cL_law_ 691 = .ok (.invokevirtual 159, 3) := by decide +kernel
theorem dL_law__694 : decode cL_law_ 694 = .ok (.istore 6, 2) := by decide +kernel
theorem dL_law__696 : decode cL_law_ 696 = .ok (.aload_n 2, 1) := by decide +kernel
theorem dL_law__697 : decode cL_law_ 697 = .ok (.invokevirtual 129, 3) := by decide +kernel
theorem dL_law__700 : decode cL_law_ 700 = .ok (.iload 5, 2) := by decide +kernel
theorem dL_law__702 : decode cL_law_ 702 = .ok (.if_icmp .eq 5, 3) := by decide +kernel
theorem dL_law__705 : decode cL_law_ 705 = .ok (.iconst 0, 1) := by decide +kernel
theorem dL_law__706 : decode cL_law_ 706 = .ok (.ireturn, 1) := by decide +kernel
theorem dL_law__707 : decode cL_law_ 707 = .ok (.iload 5, 2) := by decide +kernel
theorem dL_law__709 : decode cL_law_ 709 = .ok (.ifCond .ne 15, 3) := by decide +kernel
theorem dL_law__712 : decode cL_law_ 712 = .ok (.aload_n 3, 1) := by decide +kernel
theorem dL_law__713 : decode cL_law_ 713 = .ok (.iconst 0, 1) := by decide +kernel
theorem dL_law__714 : decode cL_law_ 714 = .ok (.laload, 1) := by decide +kernel
theorem dL_law__715 : decode cL_law_ 715 = .ok (.iload 6, 2) := by decide +kernel
theorem dL_law__717 : decode cL_law_ 717 = .ok (.i2l, 1) := by decide +kernel
theorem dL_law__718 : decode cL_law_ 718 = .ok (.lcmp, 1) := by decide +kernel
theorem dL_law__719 : decode cL_law_ 719 = .ok (.ifCond .eq 5, 3) := by decide +kernel
theorem dL_law__722 : decode cL_law_ 722 = .ok (.iconst 0, 1) := by decide +kernel
theorem dL_law__723 : decode cL_law_ 723 = .ok (.ireturn, 1) := by decide +kernel
theorem dL_law__724 : decode cL_law_ 724 = .ok (.goto 1829, 3) := by decide +kernel
theorem dL_law__727 : decode cL_law_ 727 = .ok (.aload_n 1, 1) := by decide +kernel
theorem dL_law__728 : decode cL_law_ 728 = .ok (.aload_n 0, 1) := by decide +kernel
theorem dL_law__729 : decode cL_law_ 729 = .ok (.iload 4, 2) := by decide +kernel
theorem dL_law__731 : decode cL_law_ 731 = .ok (.iconst 1, 1) := by decide +kernel
theorem dL_law__732 : decode cL_law_ 732 = .ok (.iadd, 1) := by decide +kernel
theorem dL_law__733 : decode cL_law_ 733 = .ok (.iaload, 1) := by decide +kernel
theorem dL_law__734 : decode cL_law_ 734 = .ok (.aload_n 0, 1) := by decide +kernel
theorem dL_law__735 : decode cL_law_ 735 = .ok (.iload 4, 2) := by decide +kernel
theorem dL_law__737 : decode cL_law_ 737 = .ok (.iconst 2, 1) := by decide +kernel
theorem dL_law__738 : decode cL_law_ 738 = .ok (.iadd, 1) := by decide +kernel
theorem dL_law__739 : decode cL_law_ 739 = .ok (.iaload, 1) := by decide +kernel
theorem dL_law__740 : decode cL_law_ 740 = .ok (.aload_n 3, 1) := by decide +kernel
theorem dL_law__741 : decode cL_law_ 741 = .ok (.invokestatic 160, 3) := by decide +kernel
theorem dL_law__744 : decode cL_law_ 744 = .ok (.istore 5, 2) := by decide +kernel
theorem dL_law__746 : decode cL_law_ 746 = .ok (.aload_n 2, 1) := by decide +kernel
theorem dL_law__747 : decode cL_law_ 747 = .ok (.aload_n 0, 1) := by decide +kernel
theorem dL_law__748 : decode cL_law_ 748 = .ok (.iload 4, 2) := by decide +kernel
theorem dL_law__750 : decode cL_law_ 750 = .ok (.iconst 1, 1) := by decide +kernel
theorem dL_law__751 : decode cL_law_ 751 = .ok (.iadd, 1) := by decide +kernel
theorem dL_law__752 : decode cL_law_ 752 = .ok (.iaload, 1) := by decide +kernel
theorem dL_law__753 : decode cL_law_ 753 = .ok (.aload_n 0, 1) := by decide +kernel
theorem dL_law__754 : decode cL_law_ 754 = .ok (.iload 4, 2) := by decide +kernel
theorem dL_law__756 : decode cL_law_ 756 = .ok (.iconst 2, 1) := by decide +kernel
theorem dL_law__757 : decode cL_law_ 757 = .ok (.iadd, 1) := by decide +kernel
theorem dL_law__758 : decode cL_law_ 758 = .ok (.iaload, 1) := by decide +kernel
theorem dL_law__759 : decode cL_law_ 759 = .ok (.invokevirtual 162, 3) := by decide +kernel
theorem dL_law__762 : decode cL_law_ 762 = .ok (.istore 6, 2) := by decide +kernel
theorem dL_law__764 : decode cL_law_ 764 = .ok (.aload_n 2, 1) := by decide +kernel
theorem dL_law__765 : decode cL_law_ 765 = .ok (.invokevirtual 129, 3) := by decide +kernel
theorem dL_law__768 : decode cL_law_ 768 = .ok (.iload 5, 2) := by decide +kernel
theorem dL_law__770 : decode cL_law_ 770 = .ok (.if_icmp .eq 5, 3) := by decide +kernel
theorem dL_law__773 : decode cL_law_ 773 = .ok (.iconst 0, 1) := by decide +kernel
theorem dL_law__774 : decode cL_law_ 774 = .ok (.ireturn, 1) := by decide +kernel
theorem dL_law__775 : decode cL_law_ 775 = .ok (.iload 5, 2) := by decide +kernel
theorem dL_law__777 : decode cL_law_ 777 = .ok (.ifCond .ne 15, 3) := by decide +kernel
theorem dL_law__780 : decode cL_law_ 780 = .ok (.aload_n 3, 1) := by decide +kernel
theorem dL_law__781 : decode cL_law_ 781 = .ok (.iconst 0, 1) := by decide +kernel
theorem dL_law__782 : decode cL_law_ 782 = .ok (.laload, 1) := by decide +kernel
theorem dL_law__783 : decode cL_law_ 783 = .ok (.iload 6, 2) := by decide +kernel
theorem dL_law__785 : decode cL_law_ 785 = .ok (.i2l, 1) := by decide +kernel
theorem dL_law__786 : decode cL_law_ 786 = .ok (.lcmp, 1) := by decide +kernel
theorem dL_law__787 : decode cL_law_ 787 = .ok (.ifCond .eq 5, 3) := by decide +kernel
theorem dL_law__790 : decode cL_law_ 790 = .ok (.iconst 0, 1) := by decide +kernel
theorem dL_law__791 : decode cL_law_ 791 = .ok (.ireturn, 1) := by decide +kernel
theorem dL_law__792 : decode cL_law_ 792 = .ok (.goto 1761, 3) := by decide +kernel
theorem dL_law__795 : decode cL_law_ 795 = .ok (.aload_n 1, 1) := by decide +kernel
theorem dL_law__796 : decode cL_law_ 796 = .ok (.aload_n 0, 1) := by decide +kernel
theorem dL_law__797 : decode cL_law_ 797 = .ok (.iload 4, 2) := by decide +kernel
theorem dL_law__799 : decode cL_law_ 799 = .ok (.iconst 1, 1) := by decide +kernel
theorem dL_law__800 : decode cL_law_ 800 = .ok (.iadd, 1) := by decide +kernel
theorem dL_law__801 : decode cL_law_ 801 = .ok (.iaload, 1) := by decide +kernel
theorem dL_law__802 : decode cL_law_ 802 = .ok (.aload_n 0, 1) := by decide +kernel
theorem dL_law__803 : decode cL_law_ 803 = .ok (.iload 4, 2) := by decide +kernel
theorem dL_law__805 : decode cL_law_ 805 = .ok (.iconst 2, 1) := by decide +kernel
theorem dL_law__806 : decode cL_law_ 806 = .ok (.iadd, 1) := by decide +kernel
theorem dL_law__807 : decode cL_law_ 807 = .ok (.iaload, 1) := by decide +kernel
theorem dL_law__808 : decode cL_law_ 808 = .ok (.aload_n 0, 1) := by decide +kernel
theorem dL_law__809 : decode cL_law_ 809 = .ok (.iload 4, 2) := by decide +kernel
theorem dL_law__811 : decode cL_law_ 811 = .ok (.iconst 3, 1) := by decide +kernel
theorem dL_law__812 : decode cL_law_ 812 = .ok (.iadd, 1) := by decide +kernel
theorem dL_law__813 : decode cL_law_ 813 = .ok (.iaload, 1) := by decide +kernel
theorem dL_law__814 : decode cL_law_ 814 = .ok (.aload_n 0, 1) := by decide +kernel
theorem dL_law__815 : decode cL_law_ 815 = .ok (.iload 4, 2) := by decide +kernel
theorem dL_law__817 : decode cL_law_ 817 = .ok (.iconst 4, 1) := by decide +kernel
theorem dL_law__818 : decode cL_law_ 818 = .ok (.iadd, 1) := by decide +kernel
theorem dL_law__819 : decode cL_law_ 819 = .ok (.iaload, 1) := by decide +kernel
theorem dL_law__820 : decode cL_law_ 820 = .ok (.aload_n 0, 1) := by decide +kernel
theorem dL_law__821 : decode cL_law_ 821 = .ok (.iload 4, 2) := by decide +kernel
theorem dL_law__823 : decode cL_law_ 823 = .ok (.iconst 5, 1) := by decide +kernel
theorem dL_law__824 : decode cL_law_ 824 = .ok (.iadd, 1) := by decide +kernel
theorem dL_law__825 : decode cL_law_ 825 = .ok (.iaload, 1) := by decide +kernel
theorem dL_law__826 : decode cL_law_ 826 = .ok (.aload_n 0, 1) := by decide +kernel
theorem dL_law__827 : decode cL_law_ 827 = .ok (.iload 4, 2) := by decide +kernel
theorem dL_law__829 : decode cL_law_ 829 = .ok (.bipush 6, 2) := by decide +kernel
theorem dL_law__831 : decode cL_law_ 831 = .ok (.iadd, 1) := by decide +kernel
theorem dL_law__832 : decode cL_law_ 832 = .ok (.iaload, 1) := by decide +kernel
theorem dL_law__833 : decode cL_law_ 833 = .ok (.aload_n 3, 1) := by decide +kernel
theorem dL_law__834 : decode cL_law_ 834 = .ok (.invokestatic 163, 3) := by decide +kernel
theorem dL_law__837 : decode cL_law_ 837 = .ok (.istore 5, 2) := by decide +kernel
theorem dL_law__839 : decode cL_law_ 839 = .ok (.aload_n 2, 1) := by decide +kernel
theorem dL_law__840 : decode cL_law_ 840 = .ok (.aload_n 0, 1) := by decide +kernel
theorem dL_law__841 : decode cL_law_ 841 = .ok (.iload 4, 2) := by decide +kernel
theorem dL_law__843 : decode cL_law_ 843 = .ok (.iconst 1, 1) := by decide +kernel
theorem dL_law__844 : decode cL_law_ 844 = .ok (.iadd, 1) := by decide +kernel
theorem dL_law__845 : decode cL_law_ 845 = .ok (.iaload, 1) := by decide +kernel
theorem dL_law__846 : decode cL_law_ 846 = .ok (.aload_n 0, 1) := by decide +kernel
theorem dL_law__847 : decode cL_law_ 847 = .ok (.iload 4, 2) := by decide +kernel
theorem dL_law__849 : decode cL_law_ 849 = .ok (.iconst 2, 1) := by decide +kernel
theorem dL_law__850 : decode cL_law_ 850 = .ok (.iadd, 1) := by decide +kernel
theorem dL_law__851 : decode cL_law_ 851 = .ok (.iaload, 1) := by decide +kernel
theorem dL_law__852 : decode cL_law_ 852 = .ok (.aload_n 0, 1) := by decide +kernel
theorem dL_law__853 : decode cL_law_ 853 = .ok (.iload 4, 2) := by decide +kernel
theorem dL_law__855 : decode cL_law_ 855 = .ok (.iconst 3, 1) := by decide +kernel
theorem dL_law__856 : decode cL_law_ 856 = .ok (.iadd, 1) := by decide +kernel
theorem dL_law__857 : decode cL_law_ 857 = .ok (.iaload, 1) := by decide +kernel
theorem dL_law__858 : decode cL_law_ 858 = .ok (.aload_n 0, 1) := by decide +kernel
theorem dL_law__859 : decode cL_law_ 859 = .ok (.iload 4, 2) := by decide +kernel
theorem dL_law__861 : decode cL_law_ 861 = .ok (.iconst 4, 1) := by decide +kernel
theorem dL_law__862 : decode cL_law_ 862 = .ok (.iadd, 1) := by decide +kernel
theorem dL_law__863 : decode cL_law_ 863 = .ok (.iaload, 1) := by decide +kernel
theorem dL_law__864 : decode cL_law_ 864 = .ok (.aload_n 0, 1) := by decide +kernel
theorem dL_law__865 : decode cL_law_ 865 = .ok (.iload 4, 2) := by decide +kernel
theorem dL_law__867 : decode cL_law_ 867 = .ok (.iconst 5, 1) := by decide +kernel
theorem dL_law__868 : decode cL_law_ 868 = .ok (.iadd, 1) := by decide +kernel
theorem dL_law__869 : decode cL_law_ 869 = .ok (.iaload, 1) := by decide +kernel
theorem dL_law__870 : decode cL_law_ 870 = .ok (.aload_n 0, 1) := by decide +kernel
theorem dL_law__871 : decode cL_law_ 871 = .ok (.iload 4, 2) := by decide +kernel
theorem dL_law__873 : decode cL_law_ 873 = .ok (.bipush 6, 2) := by decide +kernel
theorem dL_law__875 : decode cL_law_ 875 = .ok (.iadd, 1) := by decide +kernel
theorem dL_law__876 : decode cL_law_ 876 = .ok (.iaload, 1) := by decide +kernel
theorem dL_law__877 : decode cL_law_ 877 = .ok (.invokevirtual 166, 3) := by decide +kernel
theorem dL_law__880 : decode cL_law_ 880 = .ok (.istore 6, 2) := by decide +kernel
theorem dL_law__882 : decode cL_law_ 882 = .ok (.aload_n 2, 1) := by decide +kernel
theorem dL_law__883 : decode cL_law_ 883 = .ok (.invokevirtual 129, 3) := by decide +kernel
theorem dL_law__886 : decode cL_law_ 886 = .ok (.iload 5, 2) := by decide +kernel
theorem dL_law__888 : decode cL_law_ 888 = .ok (.if_icmp .eq 5, 3) := by decide +kernel
theorem dL_law__891 : decode cL_law_ 891 = .ok (.iconst 0, 1) := by decide +kernel
theorem dL_law__892 : decode cL_law_ 892 = .ok (.ireturn, 1) := by decide +kernel
theorem dL_law__893 : decode cL_law_ 893 = .ok (.iload 5, 2) := by decide +kernel
theorem dL_law__895 : decode cL_law_ 895 = .ok (.ifCond .ne 15, 3) := by decide +kernel
theorem dL_law__898 : decode cL_law_ 898 = .ok (.aload_n 3, 1) := by decide +kernel
theorem dL_law__899 : decode cL_law_ 899 = .ok (.iconst 0, 1) := by decide +kernel
theorem dL_law__900 : decode cL_law_ 900 = .ok (.laload, 1) := by decide +kernel
theorem dL_law__901 : decode cL_law_ 901 = .ok (.iload 6, 2) := by decide +kernel
theorem dL_law__903 : decode cL_law_ 903 = .ok (.i2l, 1) := by decide +kernel
theorem dL_law__904 : decode cL_law_ 904 = .ok (.lcmp, 1) := by decide +kernel
theorem dL_law__905 : decode cL_law_ 905 = .ok (.ifCond .eq 5, 3) := by decide +kernel
theorem dL_law__908 : decode cL_law_ 908 = .ok (.iconst 0, 1) := by decide +kernel
theorem dL_law__909 : decode cL_law_ 909 = .ok (.ireturn, 1) := by decide +kernel
theorem dL_law__910 : decode cL_law_ 910 = .ok (.goto 1643, 3) := by decide +kernel
theorem dL_law__913 : decode cL_law_ 913 = .ok (.aload_n 1, 1) := by decide +kernel
theorem dL_law__914 : decode cL_law_ 914 = .ok (.aload_n 0, 1) := by decide +kernel
theorem dL_law__915 : decode cL_law_ 915 = .ok (.iload 4, 2) := by decide +kernel
theorem dL_law__917 : decode cL_law_ 917 = .ok (.iconst 1, 1) := by decide +kernel
theorem dL_law__918 : decode cL_law_ 918 = .ok (.iadd, 1) := by decide +kernel
theorem dL_law__919 : decode cL_law_ 919 = .ok (.iaload, 1) := by decide +kernel
theorem dL_law__920 : decode cL_law_ 920 = .ok (.aload_n 3, 1) := by decide +kernel
theorem dL_law__921 : decode cL_law_ 921 = .ok (.invokestatic 167, 3) := by decide +kernel
theorem dL_law__924 : decode cL_law_ 924 = .ok (.istore 5, 2) := by decide +kernel
theorem dL_law__926 : decode cL_law_ 926 = .ok (.aload_n 2, 1) := by decide +kernel
theorem dL_law__927 : decode cL_law_ 927 = .ok (.aload_n 0, 1) := by decide +kernel
theorem dL_law__928 : decode cL_law_ 928 = .ok (.iload 4, 2) := by decide +kernel
theorem dL_law__930 : decode cL_law_ 930 = .ok (.iconst 1, 1) := by decide +kernel
theorem dL_law__931 : decode cL_law_ 931 = .ok (.iadd, 1) := by decide +kernel
theorem dL_law__932 : decode cL_law_ 932 = .ok (.iaload, 1) := by decide +kernel
theorem dL_law__933 : decode cL_law_ 933 = .ok (.invokevirtual 169, 3) := by decide +kernel
theorem dL_law__936 : decode cL_law_ 936 = .ok (.istore 6, 2) := by decide +kernel
theorem dL_law__938 : decode cL_law_ 938 = .ok (.aload_n 2, 1) := by decide +kernel
theorem dL_law__939 : decode cL_law_ 939 = .ok (.invokevirtual 129, 3) := by decide +kernel
theorem dL_law__942 : decode cL_law_ 942 = .ok (.iload 5, 2) := by decide +kernel
theorem dL_law__944 : decode cL_law_ 944 = .ok (.if_icmp .eq 5, 3) := by decide +kernel
theorem dL_law__947 : decode cL_law_ 947 = .ok (.iconst 0, 1) := by decide +kernel
theorem dL_law__948 : decode cL_law_ 948 = .ok (.ireturn, 1) := by decide +kernel
theorem dL_law__949 : decode cL_law_ 949 = .ok (.iload 5, 2) := by decide +kernel
theorem dL_law__951 : decode cL_law_ 951 = .ok (.ifCond .ne 15, 3) := by decide +kernel
theorem dL_law__954 : decode cL_law_ 954 = .ok (.aload_n 3, 1) := by decide +kernel
theorem dL_law__955 : decode cL_law_ 955 = .ok (.iconst 0, 1) := by decide +kernel
theorem dL_law__956 : decode cL_law_ 956 = .ok (.laload, 1) := by decide +kernel
theorem dL_law__957 : decode cL_law_ 957 = .ok (.iload 6, 2) := by decide +kernel
theorem dL_law__959 : decode cL_law_ 959 = .ok (.i2l, 1) := by decide +kernel
theorem dL_law__960 : decode cL_law_ 960 = .ok (.lcmp, 1) := by decide +kernel
theorem dL_law__961 : decode cL_law_ 961 = .ok (.ifCond .eq 5, 3) := by decide +kernel
theorem dL_law__964 : decode cL_law_ 964 = .ok (.iconst 0, 1) := by decide +kernel
theorem dL_law__965 : decode cL_law_ 965 = .ok (.ireturn, 1) := by decide +kernel
theorem dL_law__966 : decode cL_law_ 966 = .ok (.goto 1587, 3) := by decide +kernel
theorem dL_law__969 : decode cL_law_ 969 = .ok (.aload_n 1, 1) := by decide +kernel
theorem dL_law__970 : decode cL_law_ 970 = .ok (.aload_n 0, 1) := by decide +kernel
theorem dL_law__971 : decode cL_law_ 971 = .ok (.iload 4, 2) := by decide +kernel
theorem dL_law__973 : decode cL_law_ 973 = .ok (.iconst 1, 1) := by decide +kernel
theorem dL_law__974 : decode cL_law_ 974 = .ok (.iadd, 1) := by decide +kernel
theorem dL_law__975 : decode cL_law_ 975 = .ok (.iaload, 1) := by decide +kernel
theorem dL_law__976 : decode cL_law_ 976 = .ok (.aload_n 0, 1) := by decide +kernel
theorem dL_law__977 : decode cL_law_ 977 = .ok (.iload 4, 2) := by decide +kernel
theorem dL_law__979 : decode cL_law_ 979 = .ok (.iconst 2, 1) := by decide +kernel
theorem dL_law__980 : decode cL_law_ 980 = .ok (.iadd, 1) := by decide +kernel
theorem dL_law__981 : decode cL_law_ 981 = .ok (.iaload, 1) := by decide +kernel
theorem dL_law__982 : decode cL_law_ 982 = .ok (.aload_n 3, 1) := by decide +kernel
theorem dL_law__983 : decode cL_law_ 983 = .ok (.invokestatic 170, 3) := by decide +kernel
theorem dL_law__986 : decode cL_law_ 986 = .ok (.istore 5, 2) := by decide +kernel
theorem dL_law__988 : decode cL_law_ 988 = .ok (.aload_n 2, 1) := by decide +kernel
theorem dL_law__989 : decode cL_law_ 989 = .ok (.aload_n 0, 1) := by decide +kernel
theorem dL_law__990 : decode cL_law_ 990 = .ok (.iload 4, 2) := by decide +kernel
theorem dL_law__992 : decode cL_law_ 992 = .ok (.iconst 1, 1) := by decide +kernel
theorem dL_law__993 : decode cL_law_ 993 = .ok (.iadd, 1) := by decide +kernel
theorem dL_law__994 : decode cL_law_ 994 = .ok (.iaload, 1) := by decide +kernel
theorem dL_law__995 : decode cL_law_ 995 = .ok (.aload_n 0, 1) := by decide +kernel
theorem dL_law__996 : decode cL_law_ 996 = .ok (.iload 4, 2) := by decide +kernel
theorem dL_law__998 : decode cL_law_ 998 = .ok (.iconst 2, 1) := by decide +kernel
theorem dL_law__999 : decode cL_law_ 999 = .ok (.iadd, 1) := by decide +kernel
theorem dL_law__1000 : decode cL_law_ 1000 = .ok (.iaload, 1) := by decide +kernel
theorem dL_law__1001 : decode cL_law_ 1001 = .ok (.invokevirtual 172, 3) := by decide +kernel
theorem dL_law__1004 : decode cL_law_ 1004 = .ok (.istore 6, 2) := by decide +kernel
theorem dL_law__1006 : decode cL_law_ 1006 = .ok (.aload_n 2, 1) := by decide +kernel
theorem dL_law__1007 : decode cL_law_ 1007 = .ok (.invokevirtual 129, 3) := by decide +kernel
theorem dL_law__1010 : decode cL_law_ 1010 = .ok (.iload 5, 2) := by decide +kernel
theorem dL_law__1012 : decode cL_law_ 1012 = .ok (.if_icmp .eq 5, 3) := by decide +kernel
theorem dL_law__1015 : decode cL_law_ 1015 = .ok (.iconst 0, 1) := by decide +kernel
theorem dL_law__1016 : decode cL_law_ 1016 = .ok (.ireturn, 1) := by decide +kernel
theorem dL_law__1017 : decode cL_law_ 1017 = .ok (.iload 5, 2) := by decide +kernel
theorem dL_law__1019 : decode cL_law_ 1019 = .ok (.ifCond .ne 15, 3) := by decide +kernel
theorem dL_law__1022 : decode cL_law_ 1022 = .ok (.aload_n 3, 1) := by decide +kernel
theorem dL_law__1023 : decode cL_law_ 1023 = .ok (.iconst 0, 1) := by decide +kernel
theorem dL_law__1024 : decode cL_law_ 1024 = .ok (.laload, 1) := by decide +kernel
theorem dL_law__1025 : decode cL_law_ 1025 = .ok (.iload 6, 2) := by decide +kernel
theorem dL_law__1027 : decode cL_law_ 1027 = .ok (.i2l, 1) := by decide +kernel
theorem dL_law__1028 : decode cL_law_ 1028 = .ok (.lcmp, 1) := by decide +kernel
theorem dL_law__1029 : decode cL_law_ 1029 = .ok (.ifCond .eq 5, 3) := by decide +kernel
theorem dL_law__1032 : decode cL_law_ 1032 = .ok (.iconst 0, 1) := by decide +kernel
theorem dL_law__1033 : decode cL_law_ 1033 = .ok (.ireturn, 1) := by decide +kernel
theorem dL_law__1034 : decode cL_law_ 1034 = .ok (.goto 1519, 3) := by decide +kernel
theorem dL_law__1037 : decode cL_law_ 1037 = .ok (.aload_n 1, 1) := by decide +kernel
theorem dL_law__1038 : decode cL_law_ 1038 = .ok (.aload_n 0, 1) := by decide +kernel
theorem dL_law__1039 : decode cL_law_ 1039 = .ok (.iload 4, 2) := by decide +kernel
theorem dL_law__1041 : decode cL_law_ 1041 = .ok (.iconst 1, 1) := by decide +kernel
theorem dL_law__1042 : decode cL_law_ 1042 = .ok (.iadd, 1) := by decide +kernel
theorem dL_law__1043 : decode cL_law_ 1043 = .ok (.iaload, 1) := by decide +kernel
theorem dL_law__1044 : decode cL_law_ 1044 = .ok (.aload_n 3, 1) := by decide +kernel
theorem dL_law__1045 : decode cL_law_ 1045 = .ok (.invokestatic 173, 3) := by decide +kernel
theorem dL_law__1048 : decode cL_law_ 1048 = .ok (.istore 5, 2) := by decide +kernel
theorem dL_law__1050 : decode cL_law_ 1050 = .ok (.aload_n 2, 1) := by decide +kernel
theorem dL_law__1051 : decode cL_law_ 1051 = .ok (.aload_n 0, 1) := by decide +kernel
theorem dL_law__1052 : decode cL_law_ 1052 = .ok (.iload 4, 2) := by decide +kernel
theorem dL_law__1054 : decode cL_law_ 1054 = .ok (.iconst 1, 1) := by decide +kernel
theorem dL_law__1055 : decode cL_law_ 1055 = .ok (.iadd, 1) := by decide +kernel
theorem dL_law__1056 : decode cL_law_ 1056 = .ok (.iaload, 1) := by decide +kernel
theorem dL_law__1057 : decode cL_law_ 1057 = .ok (.invokevirtual 175, 3) := by decide +kernel
theorem dL_law__1060 : decode cL_law_ 1060 = .ok (.istore 6, 2) := by decide +kernel
theorem dL_law__1062 : decode cL_law_ 1062 = .ok (.aload_n 2, 1) := by decide +kernel
theorem dL_law__1063 : decode cL_law_ 1063 = .ok (.invokevirtual 129, 3) := by decide +kernel
theorem dL_law__1066 : decode cL_law_ 1066 = .ok (.iload 5, 2) := by decide +kernel
theorem dL_law__1068 : decode cL_law_ 1068 = .ok (.if_icmp .eq 5, 3) := by decide +kernel
theorem dL_law__1071 : decode cL_law_ 1071 = .ok (.iconst 0, 1) := by decide +kernel
theorem dL_law__1072 : decode cL_law_ 1072 = .ok (.ireturn, 1) := by decide +kernel
theorem dL_law__1073 : decode cL_law_ 1073 = .ok (.iload 5, 2) := by decide +kernel
theorem dL_law__1075 : decode cL_law_ 1075 = .ok (.ifCond .ne 15, 3) := by decide +kernel
theorem dL_law__1078 : decode cL_law_ 1078 = .ok (.aload_n 3, 1) := by decide +kernel
theorem dL_law__1079 : decode cL_law_ 1079 = .ok (.iconst 0, 1) := by decide +kernel
theorem dL_law__1080 : decode cL_law_ 1080 = .ok (.laload, 1) := by decide +kernel
theorem dL_law__1081 : decode cL_law_ 1081 = .ok (.iload 6, 2) := by decide +kernel
theorem dL_law__1083 : decode cL_law_ 1083 = .ok (.i2l, 1) := by decide +kernel
theorem dL_law__1084 : decode cL_law_ 1084 = .ok (.lcmp, 1) := by decide +kernel
theorem dL_law__1085 : decode cL_law_ 1085 = .ok (.ifCond .eq 5, 3) := by decide +kernel
theorem dL_law__1088 : decode cL_law_ 1088 = .ok (.iconst 0, 1) := by decide +kernel
theorem dL_law__1089 : decode cL_law_ 1089 = .ok (.ireturn, 1) := by decide +kernel
theorem dL_law__1090 : decode cL_law_ 1090 = .ok (.goto 1463, 3) := by decide +kernel
theorem dL_law__1093 : decode cL_law_ 1093 = .ok (.aload_n 1, 1) := by decide +kernel
theorem dL_law__1094 : decode cL_law_ 1094 = .ok (.aload_n 0, 1) := by decide +kernel
theorem dL_law__1095 : decode cL_law_ 1095 = .ok (.iload 4, 2) := by decide +kernel
theorem dL_law__1097 : decode cL_law_ 1097 = .ok (.iconst 1, 1) := by decide +kernel
theorem dL_law__1098 : decode cL_law_ 1098 = .ok (.iadd, 1) := by decide +kernel
theorem dL_law__1099 : decode cL_law_ 1099 = .ok (.iaload, 1) := by decide +kernel
theorem dL_law__1100 : decode cL_law_ 1100 = .ok (.aload_n 3, 1) := by decide +kernel
theorem dL_law__1101 : decode cL_law_ 1101 = .ok (.invokestatic 176, 3) := by decide +kernel
theorem dL_law__1104 : decode cL_law_ 1104 = .ok (.istore 5, 2) := by decide +kernel
theorem dL_law__1106 : decode cL_law_ 1106 = .ok (.aload_n 2, 1) := by decide +kernel
theorem dL_law__1107 : decode cL_law_ 1107 = .ok (.aload_n 0, 1) := by decide +kernel
theorem dL_law__1108 : decode cL_law_ 1108 = .ok (.iload 4, 2) := by decide +kernel
theorem dL_law__1110 : decode cL_law_ 1110 = .ok (.iconst 1, 1) := by decide +kernel
theorem dL_law__1111 : decode cL_law_ 1111 = .ok (.iadd, 1) := by decide +kernel
theorem dL_law__1112 : decode cL_law_ 1112 = .ok (.iaload, 1) := by decide +kernel
theorem dL_law__1113 : decode cL_law_ 1113 = .ok (.invokevirtual 178, 3) := by decide +kernel
theorem dL_law__1116 : decode cL_law_ 1116 = .ok (.istore 6, 2) := by decide +kernel
theorem dL_law__1118 : decode cL_law_ 1118 = .ok (.aload_n 2, 1) := by decide +kernel
theorem dL_law__1119 : decode cL_law_ 1119 = .ok (.invokevirtual 129, 3) := by decide +kernel
theorem dL_law__1122 : decode cL_law_ 1122 = .ok (.iload 5, 2) := by decide +kernel
theorem dL_law__1124 : decode cL_law_ 1124 = .ok (.if_icmp .eq 5, 3) := by decide +kernel
theorem dL_law__1127 : decode cL_law_ 1127 = .ok (.iconst 0, 1) := by decide +kernel
theorem dL_law__1128 : decode cL_law_ 1128 = .ok (.ireturn, 1) := by decide +kernel
theorem dL_law__1129 : decode cL_law_ 1129 = .ok (.iload 5, 2) := by decide +kernel
theorem dL_law__1131 : decode cL_law_ 1131 = .ok (.ifCond .ne 15, 3) := by decide +kernel
theorem dL_law__1134 : decode cL_law_ 1134 = .ok (.aload_n 3, 1) := by decide +kernel
theorem dL_law__1135 : decode cL_law_ 1135 = .ok (.iconst 0, 1) := by decide +kernel
theorem dL_law__1136 : decode cL_law_ 1136 = .ok (.laload, 1) := by decide +kernel
theorem dL_law__1137 : decode cL_law_ 1137 = .ok (.iload 6, 2) := by decide +kernel
theorem dL_law__1139 : decode cL_law_ 1139 = .ok (.i2l, 1) := by decide +kernel
theorem dL_law__1140 : decode cL_law_ 1140 = .ok (.lcmp, 1) := by decide +kernel
theorem dL_law__1141 : decode cL_law_ 1141 = .ok (.ifCond .eq 5, 3) := by decide +kernel
theorem dL_law__1144 : decode cL_law_ 1144 = .ok (.iconst 0, 1) := by decide +kernel
theorem dL_law__1145 : decode cL_law_ 1145 = .ok (.ireturn, 1) := by decide +kernel
theorem dL_law__1146 : decode cL_law_ 1146 = .ok (.goto 1407, 3) := by decide +kernel
theorem dL_law__1149 : decode cL_law_ 1149 = .ok (.aload_n 1, 1) := by decide +kernel
theorem dL_law__1150 : decode cL_law_ 1150 = .ok (.aload_n 0, 1) := by decide +kernel
theorem dL_law__1151 : decode cL_law_ 1151 = .ok (.iload 4, 2) := by decide +kernel
theorem dL_law__1153 : decode cL_law_ 1153 = .ok (.iconst 1, 1) := by decide +kernel
theorem dL_law__1154 : decode cL_law_ 1154 = .ok (.iadd, 1) := by decide +kernel
theorem dL_law__1155 : decode cL_law_ 1155 = .ok (.iaload, 1) := by decide +kernel
theorem dL_law__1156 : decode cL_law_ 1156 = .ok (.aload_n 0, 1) := by decide +kernel
theorem dL_law__1157 : decode cL_law_ 1157 = .ok (.iload 4, 2) := by decide +kernel
theorem dL_law__1159 : decode cL_law_ 1159 = .ok (.iconst 2, 1) := by decide +kernel
theorem dL_law__1160 : decode cL_law_ 1160 = .ok (.iadd, 1) := by decide +kernel
theorem dL_law__1161 : decode cL_law_ 1161 = .ok (.iaload, 1) := by decide +kernel
theorem dL_law__1162 : decode cL_law_ 1162 = .ok (.aload_n 0, 1) := by decide +kernel
theorem dL_law__1163 : decode cL_law_ 1163 = .ok (.iload 4, 2) := by decide +kernel
theorem dL_law__1165 : decode cL_law_ 1165 = .ok (.iconst 3, 1) := by decide +kernel
theorem dL_law__1166 : decode cL_law_ 1166 = .ok (.iadd, 1) := by decide +kernel
theorem dL_law__1167 : decode cL_law_ 1167 = .ok (.iaload, 1) := by decide +kernel
theorem dL_law__1168 : decode cL_law_ 1168 = .ok (.aload_n 3, 1) := by decide +kernel
theorem dL_law__1169 : decode cL_law_ 1169 = .ok (.invokestatic 179, 3) := by decide +kernel
theorem dL_law__1172 : decode cL_law_ 1172 = .ok (.istore 5, 2) := by decide +kernel
theorem dL_law__1174 : decode cL_law_ 1174 = .ok (.aload_n 2, 1) := by decide +kernel
theorem dL_law__1175 : decode cL_law_ 1175 = .ok (.aload_n 0, 1) := by decide +kernel
theorem dL_law__1176 : decode cL_law_ 1176 = .ok (.iload 4, 2) := by decide +kernel
theorem dL_law__1178 : decode cL_law_ 1178 = .ok (.iconst 1, 1) := by decide +kernel
theorem dL_law__1179 : decode cL_law_ 1179 = .ok (.iadd, 1) := by decide +kernel
theorem dL_law__1180 : decode cL_law_ 1180 = .ok (.iaload, 1) := by decide +kernel
theorem dL_law__1181 : decode cL_law_ 1181 = .ok (.aload_n 0, 1) := by decide +kernel
theorem dL_law__1182 : decode cL_law_ 1182 = .ok (.iload 4, 2) := by decide +kernel
theorem dL_law__1184 : decode cL_law_ 1184 = .ok (.iconst 2, 1) := by decide +kernel
theorem dL_law__1185 : decode cL_law_ 1185 = .ok (.iadd, 1) := by decide +kernel
theorem dL_law__1186 : decode cL_law_ 1186 = .ok (.iaload, 1) := by decide +kernel
theorem dL_law__1187 : decode cL_law_ 1187 = .ok (.aload_n 0, 1) := by decide +kernel
theorem dL_law__1188 : decode cL_law_ 1188 = .ok (.iload 4, 2) := by decide +kernel
theorem dL_law__1190 : decode cL_law_ 1190 = .ok (.iconst 3, 1) := by decide +kernel
theorem dL_law__1191 : decode cL_law_ 1191 = .ok (.iadd, 1) := by decide +kernel
theorem dL_law__1192 : decode cL_law_ 1192 = .ok (.iaload, 1) := by decide +kernel
theorem dL_law__1193 : decode cL_law_ 1193 = .ok (.invokevirtual 182, 3) := by decide +kernel
theorem dL_law__1196 : decode cL_law_ 1196 = .ok (.istore 6, 2) := by decide +kernel
theorem dL_law__1198 : decode cL_law_ 1198 = .ok (.aload_n 2, 1) := by decide +kernel
theorem dL_law__1199 : decode cL_law_ 1199 = .ok (.invokevirtual 129, 3) := by decide +kernel
theorem dL_law__1202 : decode cL_law_ 1202 = .ok (.iload 5, 2) := by decide +kernel
theorem dL_law__1204 : decode cL_law_ 1204 = .ok (.if_icmp .eq 5, 3) := by decide +kernel
theorem dL_law__1207 : decode cL_law_ 1207 = .ok (.iconst 0, 1) := by decide +kernel
theorem dL_law__1208 : decode cL_law_ 1208 = .ok (.ireturn, 1) := by decide +kernel
theorem dL_law__1209 : decode cL_law_ 1209 = .ok (.iload 5, 2) := by decide +kernel
theorem dL_law__1211 : decode cL_law_ 1211 = .ok (.ifCond .ne 15, 3) := by decide +kernel
theorem dL_law__1214 : decode cL_law_ 1214 = .ok (.aload_n 3, 1) := by decide +kernel
theorem dL_law__1215 : decode cL_law_ 1215 = .ok (.iconst 0, 1) := by decide +kernel
theorem dL_law__1216 : decode cL_law_ 1216 = .ok (.laload, 1) := by decide +kernel
theorem dL_law__1217 : decode cL_law_ 1217 = .ok (.iload 6, 2) := by decide +kernel
theorem dL_law__1219 : decode cL_law_ 1219 = .ok (.i2l, 1) := by decide +kernel
theorem dL_law__1220 : decode cL_law_ 1220 = .ok (.lcmp, 1) := by decide +kernel
theorem dL_law__1221 : decode cL_law_ 1221 = .ok (.ifCond .eq 5, 3) := by decide +kernel
theorem dL_law__1224 : decode cL_law_ 1224 = .ok (.iconst 0, 1) := by decide +kernel
theorem dL_law__1225 : decode cL_law_ 1225 = .ok (.ireturn, 1) := by decide +kernel
theorem dL_law__1226 : decode cL_law_ 1226 = .ok (.goto 1327, 3) := by decide +kernel
theorem dL_law__1229 : decode cL_law_ 1229 = .ok (.aload_n 1, 1) := by decide +kernel
theorem dL_law__1230 : decode cL_law_ 1230 = .ok (.aload_n 0, 1) := by decide +kernel
theorem dL_law__1231 : decode cL_law_ 1231 = .ok (.iload 4, 2) := by decide +kernel
theorem dL_law__1233 : decode cL_law_ 1233 = .ok (.iconst 1, 1) := by decide +kernel
theorem dL_law__1234 : decode cL_law_ 1234 = .ok (.iadd, 1) := by decide +kernel
theorem dL_law__1235 : decode cL_law_ 1235 = .ok (.iaload, 1) := by decide +kernel
theorem dL_law__1236 : decode cL_law_ 1236 = .ok (.aload_n 0, 1) := by decide +kernel
theorem dL_law__1237 : decode cL_law_ 1237 = .ok (.iload 4, 2) := by decide +kernel
theorem dL_law__1239 : decode cL_law_ 1239 = .ok (.iconst 2, 1) := by decide +kernel
theorem dL_law__1240 : decode cL_law_ 1240 = .ok (.iadd, 1) := by decide +kernel
theorem dL_law__1241 : decode cL_law_ 1241 = .ok (.iaload, 1) := by decide +kernel
theorem dL_law__1242 : decode cL_law_ 1242 = .ok (.aload_n 3, 1) := by decide +kernel
theorem dL_law__1243 : decode cL_law_ 1243 = .ok (.invokestatic 183, 3) := by decide +kernel
theorem dL_law__1246 : decode cL_law_ 1246 = .ok (.istore 5, 2) := by decide +kernel
theorem dL_law__1248 : decode cL_law_ 1248 = .ok (.aload_n 2, 1) := by decide +kernel
theorem dL_law__1249 : decode cL_law_ 1249 = .ok (.aload_n 0, 1) := by decide +kernel
theorem dL_law__1250 : decode cL_law_ 1250 = .ok (.iload 4, 2) := by decide +kernel
theorem dL_law__1252 : decode cL_law_ 1252 = .ok (.iconst 1, 1) := by decide +kernel
theorem dL_law__1253 : decode cL_law_ 1253 = .ok (.iadd, 1) := by decide +kernel
theorem dL_law__1254 : decode cL_law_ 1254 = .ok (.iaload, 1) := by decide +kernel
theorem dL_law__1255 : decode cL_law_ 1255 = .ok (.aload_n 0, 1) := by decide +kernel
theorem dL_law__1256 : decode cL_law_ 1256 = .ok (.iload 4, 2) := by decide +kernel
theorem dL_law__1258 : decode cL_law_ 1258 = .ok (.iconst 2, 1) := by decide +kernel
theorem dL_law__1259 : decode cL_law_ 1259 = .ok (.iadd, 1) := by decide +kernel
theorem dL_law__1260 : decode cL_law_ 1260 = .ok (.iaload, 1) := by decide +kernel
theorem dL_law__1261 : decode cL_law_ 1261 = .ok (.invokevirtual 185, 3) := by decide +kernel
theorem dL_law__1264 : decode cL_law_ 1264 = .ok (.istore 6, 2) := by decide +kernel
theorem dL_law__1266 : decode cL_law_ 1266 = .ok (.aload_n 2, 1) := by decide +kernel
theorem dL_law__1267 : decode cL_law_ 1267 = .ok (.invokevirtual 129, 3) := by decide +kernel
theorem dL_law__1270 : decode cL_law_ 1270 = .ok (.iload 5, 2) := by decide +kernel
theorem dL_law__1272 : decode cL_law_ 1272 = .ok (.if_icmp .eq 5, 3) := by decide +kernel
theorem dL_law__1275 : decode cL_law_ 1275 = .ok (.iconst 0, 1) := by decide +kernel
theorem dL_law__1276 : decode cL_law_ 1276 = .ok (.ireturn, 1) := by decide +kernel
theorem dL_law__1277 : decode cL_law_ 1277 = .ok (.iload 5, 2) := by decide +kernel
theorem dL_law__1279 : decode cL_law_ 1279 = .ok (.ifCond .ne 15, 3) := by decide +kernel
theorem dL_law__1282 : decode cL_law_ 1282 = .ok (.aload_n 3, 1) := by decide +kernel
theorem dL_law__1283 : decode cL_law_ 1283 = .ok (.iconst 0, 1) := by decide +kernel
theorem dL_law__1284 : decode cL_law_ 1284 = .ok (.laload, 1) := by decide +kernel
theorem dL_law__1285 : decode cL_law_ 1285 = .ok (.iload 6, 2) := by decide +kernel
theorem dL_law__1287 : decode cL_law_ 1287 = .ok (.i2l, 1) := by decide +kernel
theorem dL_law__1288 : decode cL_law_ 1288 = .ok (.lcmp, 1) := by decide +kernel
theorem dL_law__1289 : decode cL_law_ 1289 = .ok (.ifCond .eq 5, 3) := by decide +kernel
theorem dL_law__1292 : decode cL_law_ 1292 = .ok (.iconst 0, 1) := by decide +kernel
theorem dL_law__1293 : decode cL_law_ 1293 = .ok (.ireturn, 1) := by decide +kernel
theorem dL_law__1294 : decode cL_law_ 1294 = .ok (.goto 1259, 3) := by decide +kernel
theorem dL_law__1297 : decode cL_law_ 1297 = .ok (.aload_n 1, 1) := by decide +kernel
theorem dL_law__1298 : decode cL_law_ 1298 = .ok (.aload_n 0, 1) := by decide +kernel
theorem dL_law__1299 : decode cL_law_ 1299 = .ok (.iload 4, 2) := by decide +kernel
theorem dL_law__1301 : decode cL_law_ 1301 = .ok (.iconst 1, 1) := by decide +kernel
theorem dL_law__1302 : decode cL_law_ 1302 = .ok (.iadd, 1) := by decide +kernel
theorem dL_law__1303 : decode cL_law_ 1303 = .ok (.iaload, 1) := by decide +kernel
theorem dL_law__1304 : decode cL_law_ 1304 = .ok (.aload_n 0, 1) := by decide +kernel
theorem dL_law__1305 : decode cL_law_ 1305 = .ok (.iload 4, 2) := by decide +kernel
theorem dL_law__1307 : decode cL_law_ 1307 = .ok (.iconst 2, 1) := by decide +kernel
theorem dL_law__1308 : decode cL_law_ 1308 = .ok (.iadd, 1) := by decide +kernel
theorem dL_law__1309 : decode cL_law_ 1309 = .ok (.iaload, 1) := by decide +kernel
theorem dL_law__1310 : decode cL_law_ 1310 = .ok (.aload_n 0, 1) := by decide +kernel
theorem dL_law__1311 : decode cL_law_ 1311 = .ok (.iload 4, 2) := by decide +kernel
theorem dL_law__1313 : decode cL_law_ 1313 = .ok (.iconst 3, 1) := by decide +kernel
theorem dL_law__1314 : decode cL_law_ 1314 = .ok (.iadd, 1) := by decide +kernel
theorem dL_law__1315 : decode cL_law_ 1315 = .ok (.iaload, 1) := by decide +kernel
theorem dL_law__1316 : decode cL_law_ 1316 = .ok (.aload_n 3, 1) := by decide +kernel
theorem dL_law__1317 : decode cL_law_ 1317 = .ok (.invokestatic 186, 3) := by decide +kernel
theorem dL_law__1320 : decode cL_law_ 1320 = .ok (.istore 5, 2) := by decide +kernel
theorem dL_law__1322 : decode cL_law_ 1322 = .ok (.aload_n 2, 1) := by decide +kernel
theorem dL_law__1323 : decode cL_law_ 1323 = .ok (.aload_n 0, 1) := by decide +kernel
theorem dL_law__1324 : decode cL_law_ 1324 = .ok (.iload 4, 2) := by decide +kernel
theorem dL_law__1326 : decode cL_law_ 1326 = .ok (.iconst 1, 1) := by decide +kernel
theorem dL_law__1327 : decode cL_law_ 1327 = .ok (.iadd, 1) := by decide +kernel
theorem dL_law__1328 : decode cL_law_ 1328 = .ok (.iaload, 1) := by decide +kernel
theorem dL_law__1329 : decode cL_law_ 1329 = .ok (.aload_n 0, 1) := by decide +kernel
theorem dL_law__1330 : decode cL_law_ 1330 = .ok (.iload 4, 2) := by decide +kernel
theorem dL_law__1332 : decode cL_law_ 1332 = .ok (.iconst 2, 1) := by decide +kernel
theorem dL_law__1333 : decode cL_law_ 1333 = .ok (.iadd, 1) := by decide +kernel
theorem dL_law__1334 : decode cL_law_ 1334 = .ok (.iaload, 1) := by decide +kernel
theorem dL_law__1335 : decode cL_law_ 1335 = .ok (.aload_n 0, 1) := by decide +kernel
theorem dL_law__1336 : decode cL_law_ 1336 = .ok (.iload 4, 2) := by decide +kernel
theorem dL_law__1338 : decode cL_law_ 1338 = .ok (.iconst 3, 1) := by decide +kernel
theorem dL_law__1339 : decode cL_law_ 1339 = .ok (.iadd, 1) := by decide +kernel
theorem dL_law__1340 : decode cL_law_ 1340 = .ok (.iaload, 1) := by decide +kernel
theorem dL_law__1341 : decode cL_law_ 1341 = .ok (.invokevirtual 188, 3) := by decide +kernel
theorem dL_law__1344 : decode cL_law_ 1344 = .ok (.istore 6, 2) := by decide +kernel
theorem dL_law__1346 : decode cL_law_ 1346 = .ok (.aload_n 2, 1) := by decide +kernel
theorem dL_law__1347 : decode cL_law_ 1347 = .ok (.invokevirtual 129, 3) := by decide +kernel
theorem dL_law__1350 : decode cL_law_ 1350 = .ok (.iload 5, 2) := by decide +kernel
theorem dL_law__1352 : decode cL_law_ 1352 = .ok (.if_icmp .eq 5, 3) := by decide +kernel
theorem dL_law__1355 : decode cL_law_ 1355 = .ok (.iconst 0, 1) := by decide +kernel
theorem dL_law__1356 : decode cL_law_ 1356 = .ok (.ireturn, 1) := by decide +kernel
theorem dL_law__1357 : decode cL_law_ 1357 = .ok (.iload 5, 2) := by decide +kernel
theorem dL_law__1359 : decode cL_law_ 1359 = .ok (.ifCond .ne 15, 3) := by decide +kernel
theorem dL_law__1362 : decode cL_law_ 1362 = .ok (.aload_n 3, 1) := by decide +kernel
theorem dL_law__1363 : decode cL_law_ 1363 = .ok (.iconst 0, 1) := by decide +kernel
theorem dL_law__1364 : decode cL_law_ 1364 = .ok (.laload, 1) := by decide +kernel
theorem dL_law__1365 : decode cL_law_ 1365 = .ok (.iload 6, 2) := by decide +kernel
theorem dL_law__1367 : decode cL_law_ 1367 = .ok (.i2l, 1) := by decide +kernel
theorem dL_law__1368 : decode cL_law_ 1368 = .ok (.lcmp, 1) := by decide +kernel
theorem dL_law__1369 : decode cL_law_ 1369 = .ok (.ifCond .eq 5, 3) := by decide +kernel
theorem dL_law__1372 : decode cL_law_ 1372 = .ok (.iconst 0, 1) := by decide +kernel
theorem dL_law__1373 : decode cL_law_ 1373 = .ok (.ireturn, 1) := by decide +kernel
theorem dL_law__1374 : decode cL_law_ 1374 = .ok (.goto 1179, 3) := by decide +kernel
theorem dL_law__1377 : decode cL_law_ 1377 = .ok (.aload_n 1, 1) := by decide +kernel
theorem dL_law__1378 : decode cL_law_ 1378 = .ok (.aload_n 0, 1) := by decide +kernel
theorem dL_law__1379 : decode cL_law_ 1379 = .ok (.iload 4, 2) := by decide +kernel
theorem dL_law__1381 : decode cL_law_ 1381 = .ok (.iconst 1, 1) := by decide +kernel
theorem dL_law__1382 : decode cL_law_ 1382 = .ok (.iadd, 1) := by decide +kernel
theorem dL_law__1383 : decode cL_law_ 1383 = .ok (.iaload, 1) := by decide +kernel
theorem dL_law__1384 : decode cL_law_ 1384 = .ok (.aload_n 0, 1) := by decide +kernel
theorem dL_law__1385 : decode cL_law_ 1385 = .ok (.iload 4, 2) := by decide +kernel
theorem dL_law__1387 : decode cL_law_ 1387 = .ok (.iconst 2, 1) := by decide +kernel
theorem dL_law__1388 : decode cL_law_ 1388 = .ok (.iadd, 1) := by decide +kernel
theorem dL_law__1389 : decode cL_law_ 1389 = .ok (.iaload, 1) := by decide +kernel
theorem dL_law__1390 : decode cL_law_ 1390 = .ok (.aload_n 0, 1) := by decide +kernel
theorem dL_law__1391 : decode cL_law_ 1391 = .ok (.iload 4, 2) := by decide +kernel
theorem dL_law__1393 : decode cL_law_ 1393 = .ok (.iconst 3, 1) := by decide +kernel
theorem dL_law__1394 : decode cL_law_ 1394 = .ok (.iadd, 1) := by decide +kernel
theorem dL_law__1395 : decode cL_law_ 1395 = .ok (.iaload, 1) := by decide +kernel
theorem dL_law__1396 : decode cL_law_ 1396 = .ok (.aload_n 3, 1) := by decide +kernel
theorem dL_law__1397 : decode cL_law_ 1397 = .ok (.invokestatic 189, 3) := by decide +kernel
theorem dL_law__1400 : decode cL_law_ 1400 = .ok (.istore 5, 2) := by decide +kernel
theorem dL_law__1402 : decode cL_law_ 1402 = .ok (.aload_n 2, 1) := by decide +kernel
theorem dL_law__1403 : decode cL_law_ 1403 = .ok (.aload_n 0, 1) := by decide +kernel
theorem dL_law__1404 : decode cL_law_ 1404 = .ok (.iload 4, 2) := by decide +kernel
theorem dL_law__1406 : decode cL_law_ 1406 = .ok (.iconst 1, 1) := by decide +kernel
theorem dL_law__1407 : decode cL_law_ 1407 = .ok (.iadd, 1) := by decide +kernel
theorem dL_law__1408 : decode cL_law_ 1408 = .ok (.iaload, 1) := by decide +kernel
theorem dL_law__1409 : decode cL_law_ 1409 = .ok (.aload_n 0, 1) := by decide +kernel
theorem dL_law__1410 : decode cL_law_ 1410 = .ok (.iload 4, 2) := by decide +kernel
theorem dL_law__1412 : decode cL_law_ 1412 = .ok (.iconst 2, 1) := by decide +kernel
theorem dL_law__1413 : decode cL_law_ 1413 = .ok (.iadd, 1) := by decide +kernel
theorem dL_law__1414 : decode cL_law_ 1414 = .ok (.iaload, 1) := by decide +kernel
theorem dL_law__1415 : decode cL_law_ 1415 = .ok (.aload_n 0, 1) := by decide +kernel
theorem dL_law__1416 : decode cL_law_ 1416 = .ok (.iload 4, 2) := by decide +kernel
theorem dL_law__1418 : decode cL_law_ 1418 = .ok (.iconst 3, 1) := by decide +kernel
theorem dL_law__1419 : decode cL_law_ 1419 = .ok (.iadd, 1) := by decide +kernel
theorem dL_law__1420 : decode cL_law_ 1420 = .ok (.iaload, 1) := by decide +kernel
theorem dL_law__1421 : decode cL_law_ 1421 = .ok (.invokevirtual 191, 3) := by decide +kernel
theorem dL_law__1424 : decode cL_law_ 1424 = .ok (.istore 6, 2) := by decide +kernel
theorem dL_law__1426 : decode cL_law_ 1426 = .ok (.aload_n 2, 1) := by decide +kernel
theorem dL_law__1427 : decode cL_law_ 1427 = .ok (.invokevirtual 129, 3) := by decide +kernel
theorem dL_law__1430 : decode cL_law_ 1430 = .ok (.iload 5, 2) := by decide +kernel
theorem dL_law__1432 : decode cL_law_ 1432 = .ok (.if_icmp .eq 5, 3) := by decide +kernel
theorem dL_law__1435 : decode cL_law_ 1435 = .ok (.iconst 0, 1) := by decide +kernel
theorem dL_law__1436 : decode cL_law_ 1436 = .ok (.ireturn, 1) := by decide +kernel
theorem dL_law__1437 : decode cL_law_ 1437 = .ok (.iload 5, 2) := by decide +kernel
theorem dL_law__1439 : decode cL_law_ 1439 = .ok (.ifCond .ne 15, 3) := by decide +kernel
theorem dL_law__1442 : decode cL_law_ 1442 = .ok (.aload_n 3, 1) := by decide +kernel
theorem dL_law__1443 : decode cL_law_ 1443 = .ok (.iconst 0, 1) := by decide +kernel
theorem dL_law__1444 : decode cL_law_ 1444 = .ok (.laload, 1) := by decide +kernel
theorem dL_law__1445 : decode cL_law_ 1445 = .ok (.iload 6, 2) := by decide +kernel
theorem dL_law__1447 : decode cL_law_ 1447 = .ok (.i2l, 1) := by decide +kernel
theorem dL_law__1448 : decode cL_law_ 1448 = .ok (.lcmp, 1) := by decide +kernel
theorem dL_law__1449 : decode cL_law_ 1449 = .ok (.ifCond .eq 5, 3) := by decide +kernel
theorem dL_law__1452 : decode cL_law_ 1452 = .ok (.iconst 0, 1) := by decide +kernel
theorem dL_law__1453 : decode cL_law_ 1453 = .ok (.ireturn, 1) := by decide +kernel
theorem dL_law__1454 : decode cL_law_ 1454 = .ok (.goto 1099, 3) := by decide +kernel
theorem dL_law__1457 : decode cL_law_ 1457 = .ok (.aload_n 1, 1) := by decide +kernel
theorem dL_law__1458 : decode cL_law_ 1458 = .ok (.aload_n 0, 1) := by decide +kernel
theorem dL_law__1459 : decode cL_law_ 1459 = .ok (.iload 4, 2) := by decide +kernel
theorem dL_law__1461 : decode cL_law_ 1461 = .ok (.iconst 1, 1) := by decide +kernel
theorem dL_law__1462 : decode cL_law_ 1462 = .ok (.iadd, 1) := by decide +kernel
theorem dL_law__1463 : decode cL_law_ 1463 = .ok (.iaload, 1) := by decide +kernel
theorem dL_law__1464 : decode cL_law_ 1464 = .ok (.aload_n 0, 1) := by decide +kernel
theorem dL_law__1465 : decode cL_law_ 1465 = .ok (.iload 4, 2) := by decide +kernel
theorem dL_law__1467 : decode cL_law_ 1467 = .ok (.iconst 2, 1) := by decide +kernel
theorem dL_law__1468 : decode cL_law_ 1468 = .ok (.iadd, 1) := by decide +kernel
theorem dL_law__1469 : decode cL_law_ 1469 = .ok (.iaload, 1) := by decide +kernel
theorem dL_law__1470 : decode cL_law_ 1470 = .ok (.aload_n 3, 1) := by decide +kernel
theorem dL_law__1471 : decode cL_law_ 1471 = .ok (.invokestatic 192, 3) := by decide +kernel
theorem dL_law__1474 : decode cL_law_ 1474 = .ok (.istore 5, 2) := by decide +kernel
theorem dL_law__1476 : decode cL_law_ 1476 = .ok (.aload_n 2, 1) := by decide +kernel
theorem dL_law__1477 : decode cL_law_ 1477 = .ok (.aload_n 0, 1) := by decide +kernel
theorem dL_law__1478 : decode cL_law_ 1478 = .ok (.iload 4, 2) := by decide +kernel
theorem dL_law__1480 : decode cL_law_ 1480 = .ok (.iconst 1, 1) := by decide +kernel
theorem dL_law__1481 : decode cL_law_ 1481 = .ok (.iadd, 1) := by decide +kernel
theorem dL_law__1482 : decode cL_law_ 1482 = .ok (.iaload, 1) := by decide +kernel
theorem dL_law__1483 : decode cL_law_ 1483 = .ok (.aload_n 0, 1) := by decide +kernel
theorem dL_law__1484 : decode cL_law_ 1484 = .ok (.iload 4, 2) := by decide +kernel
theorem dL_law__1486 : decode cL_law_ 1486 = .ok (.iconst 2, 1) := by decide +kernel
theorem dL_law__1487 : decode cL_law_ 1487 = .ok (.iadd, 1) := by decide +kernel
theorem dL_law__1488 : decode cL_law_ 1488 = .ok (.iaload, 1) := by decide +kernel
theorem dL_law__1489 : decode cL_law_ 1489 = .ok (.invokevirtual 194, 3) := by decide +kernel
theorem dL_law__1492 : decode cL_law_ 1492 = .ok (.istore 6, 2) := by decide +kernel
theorem dL_law__1494 : decode cL_law_ 1494 = .ok (.aload_n 2, 1) := by decide +kernel
theorem dL_law__1495 : decode cL_law_ 1495 = .ok (.invokevirtual 129, 3) := by decide +kernel
theorem dL_law__1498 : decode cL_law_ 1498 = .ok (.iload 5, 2) := by decide +kernel
theorem dL_law__1500 : decode cL_law_ 1500 = .ok (.if_icmp .eq 5, 3) := by decide +kernel
theorem dL_law__1503 : decode cL_law_ 1503 = .ok (.iconst 0, 1) := by decide +kernel
theorem dL_law__1504 : decode cL_law_ 1504 = .ok (.ireturn, 1) := by decide +kernel
theorem dL_law__1505 : decode cL_law_ 1505 = .ok (.iload 5, 2) := by decide +kernel
theorem dL_law__1507 : decode cL_law_ 1507 = .ok (.ifCond .ne 15, 3) := by decide +kernel
theorem dL_law__1510 : decode cL_law_ 1510 = .ok (.aload_n 3, 1) := by decide +kernel
theorem dL_law__1511 : decode cL_law_ 1511 = .ok (.iconst 0, 1) := by decide +kernel
theorem dL_law__1512 : decode cL_law_ 1512 = .ok (.laload, 1) := by decide +kernel
theorem dL_law__1513 : decode cL_law_ 1513 = .ok (.iload 6, 2) := by decide +kernel
theorem dL_law__1515 : decode cL_law_ 1515 = .ok (.i2l, 1) := by decide +kernel
theorem dL_law__1516 : decode cL_law_ 1516 = .ok (.lcmp, 1) := by decide +kernel
theorem dL_law__1517 : decode cL_law_ 1517 = .ok (.ifCond .eq 5, 3) := by decide +kernel
theorem dL_law__1520 : decode cL_law_ 1520 = .ok (.iconst 0, 1) := by decide +kernel
theorem dL_law__1521 : decode cL_law_ 1521 = .ok (.ireturn, 1) := by decide +kernel
theorem dL_law__1522 : decode cL_law_ 1522 = .ok (.goto 1031, 3) := by decide +kernel
theorem dL_law__1525 : decode cL_law_ 1525 = .ok (.aload_n 1, 1) := by decide +kernel
theorem dL_law__1526 : decode cL_law_ 1526 = .ok (.aload_n 0, 1) := by decide +kernel
theorem dL_law__1527 : decode cL_law_ 1527 = .ok (.iload 4, 2) := by decide +kernel
theorem dL_law__1529 : decode cL_law_ 1529 = .ok (.iconst 1, 1) := by decide +kernel
theorem dL_law__1530 : decode cL_law_ 1530 = .ok (.iadd, 1) := by decide +kernel
theorem dL_law__1531 : decode cL_law_ 1531 = .ok (.iaload, 1) := by decide +kernel
theorem dL_law__1532 : decode cL_law_ 1532 = .ok (.aload_n 0, 1) := by decide +kernel
theorem dL_law__1533 : decode cL_law_ 1533 = .ok (.iload 4, 2) := by decide +kernel
theorem dL_law__1535 : decode cL_law_ 1535 = .ok (.iconst 2, 1) := by decide +kernel
theorem dL_law__1536 : decode cL_law_ 1536 = .ok (.iadd, 1) := by decide +kernel
theorem dL_law__1537 : decode cL_law_ 1537 = .ok (.iaload, 1) := by decide +kernel
theorem dL_law__1538 : decode cL_law_ 1538 = .ok (.aload_n 3, 1) := by decide +kernel
theorem dL_law__1539 : decode cL_law_ 1539 = .ok (.invokestatic 195, 3) := by decide +kernel
theorem dL_law__1542 : decode cL_law_ 1542 = .ok (.istore 5, 2) := by decide +kernel
theorem dL_law__1544 : decode cL_law_ 1544 = .ok (.aload_n 2, 1) := by decide +kernel
theorem dL_law__1545 : decode cL_law_ 1545 = .ok (.aload_n 0, 1) := by decide +kernel
theorem dL_law__1546 : decode cL_law_ 1546 = .ok (.iload 4, 2) := by decide +kernel
theorem dL_law__1548 : decode cL_law_ 1548 = .ok (.iconst 1, 1) := by decide +kernel
theorem dL_law__1549 : decode cL_law_ 1549 = .ok (.iadd, 1) := by decide +kernel
theorem dL_law__1550 : decode cL_law_ 1550 = .ok (.iaload, 1) := by decide +kernel
theorem dL_law__1551 : decode cL_law_ 1551 = .ok (.aload_n 0, 1) := by decide +kernel
theorem dL_law__1552 : decode cL_law_ 1552 = .ok (.iload 4, 2) := by decide +kernel
theorem dL_law__1554 : decode cL_law_ 1554 = .ok (.iconst 2, 1) := by decide +kernel
theorem dL_law__1555 : decode cL_law_ 1555 = .ok (.iadd, 1) := by decide +kernel
theorem dL_law__1556 : decode cL_law_ 1556 = .ok (.iaload, 1) := by decide +kernel
theorem dL_law__1557 : decode cL_law_ 1557 = .ok (.invokevirtual 197, 3) := by decide +kernel
theorem dL_law__1560 : decode cL_law_ 1560 = .ok (.istore 6, 2) := by decide +kernel
theorem dL_law__1562 : decode cL_law_ 1562 = .ok (.aload_n 2, 1) := by decide +kernel
theorem dL_law__1563 : decode cL_law_ 1563 = .ok (.invokevirtual 129, 3) := by decide +kernel
theorem dL_law__1566 : decode cL_law_ 1566 = .ok (.iload 5, 2) := by decide +kernel
theorem dL_law__1568 : decode cL_law_ 1568 = .ok (.if_icmp .eq 5, 3) := by decide +kernel
theorem dL_law__1571 : decode cL_law_ 1571 = .ok (.iconst 0, 1) := by decide +kernel
theorem dL_law__1572 : decode cL_law_ 1572 = .ok (.ireturn, 1) := by decide +kernel
theorem dL_law__1573 : decode cL_law_ 1573 = .ok (.iload 5, 2) := by decide +kernel
theorem dL_law__1575 : decode cL_law_ 1575 = .ok (.ifCond .ne 15, 3) := by decide +kernel
theorem dL_law__1578 : decode cL_law_ 1578 = .ok (.aload_n 3, 1) := by decide +kernel
theorem dL_law__1579 : decode cL_law_ 1579 = .ok (.iconst 0, 1) := by decide +kernel
theorem dL_law__1580 : decode cL_law_ 1580 = .ok (.laload, 1) := by decide +kernel
theorem dL_law__1581 : decode cL_law_ 1581 = .ok (.iload 6, 2) := by decide +kernel
theorem dL_law__1583 : decode cL_law_ 1583 = .ok (.i2l, 1) := by decide +kernel
theorem dL_law__1584 : decode cL_law_ 1584 = .ok (.lcmp, 1) := by decide +kernel
theorem dL_law__1585 : decode cL_law_ 1585 = .ok (.ifCond .eq 5, 3) := by decide +kernel
theorem dL_law__1588 : decode cL_law_ 1588 = .ok (.iconst 0, 1) := by decide +kernel
theorem dL_law__1589 : decode cL_law_ 1589 = .ok (.ireturn, 1) := by decide +kernel
theorem dL_law__1590 : decode cL_law_ 1590 = .ok (.goto 963, 3) := by decide +kernel
theorem dL_law__1593 : decode cL_law_ 1593 = .ok (.aload_n 1, 1) := by decide +kernel
theorem dL_law__1594 : decode cL_law_ 1594 = .ok (.aload_n 0, 1) := by decide +kernel
theorem dL_law__1595 : decode cL_law_ 1595 = .ok (.iload 4, 2) := by decide +kernel
theorem dL_law__1597 : decode cL_law_ 1597 = .ok (.iconst 1, 1) := by decide +kernel
theorem dL_law__1598 : decode cL_law_ 1598 = .ok (.iadd, 1) := by decide +kernel
theorem dL_law__1599 : decode cL_law_ 1599 = .ok (.iaload, 1) := by decide +kernel
theorem dL_law__1600 : decode cL_law_ 1600 = .ok (.aload_n 0, 1) := by decide +kernel
theorem dL_law__1601 : decode cL_law_ 1601 = .ok (.iload 4, 2) := by decide +kernel
theorem dL_law__1603 : decode cL_law_ 1603 = .ok (.iconst 2, 1) := by decide +kernel
theorem dL_law__1604 : decode cL_law_ 1604 = .ok (.iadd, 1) := by decide +kernel
theorem dL_law__1605 : decode cL_law_ 1605 = .ok (.iaload, 1) := by decide +kernel
theorem dL_law__1606 : decode cL_law_ 1606 = .ok (.aload_n 3, 1) := by decide +kernel
theorem dL_law__1607 : decode cL_law_ 1607 = .ok (.invokestatic 198, 3) := by decide +kernel
theorem dL_law__1610 : decode cL_law_ 1610 = .ok (.istore 5, 2) := by decide +kernel
theorem dL_law__1612 : decode cL_law_ 1612 = .ok (.aload_n 2, 1) := by decide +kernel
theorem dL_law__1613 : decode cL_law_ 1613 = .ok (.aload_n 0, 1) := by decide +kernel
theorem dL_law__1614 : decode cL_law_ 1614 = .ok (.iload 4, 2) := by decide +kernel
theorem dL_law__1616 : decode cL_law_ 1616 = .ok (.iconst 1, 1) := by decide +kernel
theorem dL_law__1617 : decode cL_law_ 1617 = .ok (.iadd, 1) := by decide +kernel
theorem dL_law__1618 : decode cL_law_ 1618 = .ok (.iaload, 1) := by decide +kernel
theorem dL_law__1619 : decode cL_law_ 1619 = .ok (.aload_n 0, 1) := by decide +kernel
theorem dL_law__1620 : decode cL_law_ 1620 = .ok (.iload 4, 2) := by decide +kernel
theorem dL_law__1622 : decode cL_law_ 1622 = .ok (.iconst 2, 1) := by decide +kernel
theorem dL_law__1623 : decode cL_law_ 1623 = .ok (.iadd, 1) := by decide +kernel
theorem dL_law__1624 : decode cL_law_ 1624 = .ok (.iaload, 1) := by decide +kernel
theorem dL_law__1625 : decode cL_law_ 1625 = .ok (.invokevirtual 200, 3) := by decide +kernel
theorem dL_law__1628 : decode cL_law_ 1628 = .ok (.istore 6, 2) := by decide +kernel
theorem dL_law__1630 : decode cL_law_ 1630 = .ok (.aload_n 2, 1) := by decide +kernel
theorem dL_law__1631 : decode cL_law_ 1631 = .ok (.invokevirtual 129, 3) := by decide +kernel
theorem dL_law__1634 : decode cL_law_ 1634 = .ok (.iload 5, 2) := by decide +kernel
theorem dL_law__1636 : decode cL_law_ 1636 = .ok (.if_icmp .eq 5, 3) := by decide +kernel
theorem dL_law__1639 : decode cL_law_ 1639 = .ok (.iconst 0, 1) := by decide +kernel
theorem dL_law__1640 : decode cL_law_ 1640 = .ok (.ireturn, 1) := by decide +kernel
theorem dL_law__1641 : decode cL_law_ 1641 = .ok (.iload 5, 2) := by decide +kernel
theorem dL_law__1643 : decode cL_law_ 1643 = .ok (.ifCond .ne 15, 3) := by decide +kernel
theorem dL_law__1646 : decode cL_law_ 1646 = .ok (.aload_n 3, 1) := by decide +kernel
theorem dL_law__1647 : decode cL_law_ 1647 = .ok (.iconst 0, 1) := by decide +kernel
theorem dL_law__1648 : decode cL_law_ 1648 = .ok (.laload, 1) := by decide +kernel
theorem dL_law__1649 : decode cL_law_ 1649 = .ok (.iload 6, 2) := by decide +kernel
theorem dL_law__1651 : decode cL_law_ 1651 = .ok (.i2l, 1) := by decide +kernel
theorem dL_law__1652 : decode cL_law_ 1652 = .ok (.lcmp, 1) := by decide +kernel
theorem dL_law__1653 : decode cL_law_ 1653 = .ok (.ifCond .eq 5, 3) := by decide +kernel
theorem dL_law__1656 : decode cL_law_ 1656 = .ok (.iconst 0, 1) := by decide +kernel
theorem dL_law__1657 : decode cL_law_ 1657 = .ok (.ireturn, 1) := by decide +kernel
theorem dL_law__1658 : decode cL_law_ 1658 = .ok (.goto 895, 3) := by decide +kernel
theorem dL_law__1661 : decode cL_law_ 1661 = .ok (.aload_n 1, 1) := by decide +kernel
theorem dL_law__1662 : decode cL_law_ 1662 = .ok (.aload_n 0, 1) := by decide +kernel
theorem dL_law__1663 : decode cL_law_ 1663 = .ok (.iload 4, 2) := by decide +kernel
theorem dL_law__1665 : decode cL_law_ 1665 = .ok (.iconst 1, 1) := by decide +kernel
theorem dL_law__1666 : decode cL_law_ 1666 = .ok (.iadd, 1) := by decide +kernel
theorem dL_law__1667 : decode cL_law_ 1667 = .ok (.iaload, 1) := by decide +kernel
theorem dL_law__1668 : decode cL_law_ 1668 = .ok (.aload_n 0, 1) := by decide +kernel
theorem dL_law__1669 : decode cL_law_ 1669 = .ok (.iload 4, 2) := by decide +kernel
theorem dL_law__1671 : decode cL_law_ 1671 = .ok (.iconst 2, 1) := by decide +kernel
theorem dL_law__1672 : decode cL_law_ 1672 = .ok (.iadd, 1) := by decide +kernel
theorem dL_law__1673 : decode cL_law_ 1673 = .ok (.iaload, 1) := by decide +kernel
theorem dL_law__1674 : decode cL_law_ 1674 = .ok (.aload_n 0, 1) := by decide +kernel
theorem dL_law__1675 : decode cL_law_ 1675 = .ok (.iload 4, 2) := by decide +kernel
theorem dL_law__1677 : decode cL_law_ 1677 = .ok (.iconst 3, 1) := by decide +kernel
theorem dL_law__1678 : decode cL_law_ 1678 = .ok (.iadd, 1) := by decide +kernel
theorem dL_law__1679 : decode cL_law_ 1679 = .ok (.iaload, 1) := by decide +kernel
theorem dL_law__1680 : decode cL_law_ 1680 = .ok (.aload_n 3, 1) := by decide +kernel
theorem dL_law__1681 : decode cL_law_ 1681 = .ok (.invokestatic 201, 3) := by decide +kernel
theorem dL_law__1684 : decode cL_law_ 1684 = .ok (.istore 5, 2) := by decide +kernel
theorem dL_law__1686 : decode cL_law_ 1686 = .ok (.aload_n 2, 1) := by decide +kernel
theorem dL_law__1687 : decode cL_law_ 1687 = .ok (.aload_n 0, 1) := by decide +kernel
theorem dL_law__1688 : decode cL_law_ 1688 = .ok (.iload 4, 2) := by decide +kernel
theorem dL_law__1690 : decode cL_law_ 1690 = .ok (.iconst 1, 1) := by decide +kernel
theorem dL_law__1691 : decode cL_law_ 1691 = .ok (.iadd, 1) := by decide +kernel
theorem dL_law__1692 : decode cL_law_ 1692 = .ok (.iaload, 1) := by decide +kernel
theorem dL_law__1693 : decode cL_law_ 1693 = .ok (.aload_n 0, 1) := by decide +kernel
theorem dL_law__1694 : decode cL_law_ 1694 = .ok (.iload 4, 2) := by decide +kernel
theorem dL_law__1696 : decode cL_law_ 1696 = .ok (.iconst 2, 1) := by decide +kernel
theorem dL_law__1697 : decode cL_law_ 1697 = .ok (.iadd, 1) := by decide +kernel
theorem dL_law__1698 : decode cL_law_ 1698 = .ok (.iaload, 1) := by decide +kernel
theorem dL_law__1699 : decode cL_law_ 1699 = .ok (.aload_n 0, 1) := by decide +kernel
theorem dL_law__1700 : decode cL_law_ 1700 = .ok (.iload 4, 2) := by decide +kernel
theorem dL_law__1702 : decode cL_law_ 1702 = .ok (.iconst 3, 1) := by decide +kernel
theorem dL_law__1703 : decode cL_law_ 1703 = .ok (.iadd, 1) := by decide +kernel
theorem dL_law__1704 : decode cL_law_ 1704 = .ok (.iaload, 1) := by decide +kernel
theorem dL_law__1705 : decode cL_law_ 1705 = .ok (.invokevirtual 203, 3) := by decide +kernel
theorem dL_law__1708 : decode cL_law_ 1708 = .ok (.istore 6, 2) := by decide +kernel
theorem dL_law__1710 : decode cL_law_ 1710 = .ok (.aload_n 2, 1) := by decide +kernel
theorem dL_law__1711 : decode cL_law_ 1711 = .ok (.invokevirtual 129, 3) := by decide +kernel
theorem dL_law__1714 : decode cL_law_ 1714 = .ok (.iload 5, 2) := by decide +kernel
theorem dL_law__1716 : decode cL_law_ 1716 = .ok (.if_icmp .eq 5, 3) := by decide +kernel
theorem dL_law__1719 : decode cL_law_ 1719 = .ok (.iconst 0, 1) := by decide +kernel
theorem dL_law__1720 : decode cL_law_ 1720 = .ok (.ireturn, 1) := by decide +kernel
theorem dL_law__1721 : decode cL_law_ 1721 = .ok (.iload 5, 2) := by decide +kernel
theorem dL_law__1723 : decode cL_law_ 1723 = .ok (.ifCond .ne 15, 3) := by decide +kernel
theorem dL_law__1726 : decode cL_law_ 1726 = .ok (.aload_n 3, 1) := by decide +kernel
theorem dL_law__1727 : decode cL_law_ 1727 = .ok (.iconst 0, 1) := by decide +kernel
theorem dL_law__1728 : decode cL_law_ 1728 = .ok (.laload, 1) := by decide +kernel
theorem dL_law__1729 : decode cL_law_ 1729 = .ok (.iload 6, 2) := by decide +kernel
theorem dL_law__1731 : decode cL_law_ 1731 = .ok (.i2l, 1) := by decide +kernel
theorem dL_law__1732 : decode cL_law_ 1732 = .ok (.lcmp, 1) := by decide +kernel
theorem dL_law__1733 : decode cL_law_ 1733 = .ok (.ifCond .eq 5, 3) := by decide +kernel
theorem dL_law__1736 : decode cL_law_ 1736 = .ok (.iconst 0, 1) := by decide +kernel
theorem dL_law__1737 : decode cL_law_ 1737 = .ok (.ireturn, 1) := by decide +kernel
theorem dL_law__1738 : decode cL_law_ 1738 = .ok (.goto 815, 3) := by decide +kernel
theorem dL_law__1741 : decode cL_law_ 1741 = .ok (.aload_n 1, 1) := by decide +kernel
theorem dL_law__1742 : decode cL_law_ 1742 = .ok (.aload_n 0, 1) := by decide +kernel
theorem dL_law__1743 : decode cL_law_ 1743 = .ok (.iload 4, 2) := by decide +kernel
theorem dL_law__1745 : decode cL_law_ 1745 = .ok (.iconst 1, 1) := by decide +kernel
theorem dL_law__1746 : decode cL_law_ 1746 = .ok (.iadd, 1) := by decide +kernel
theorem dL_law__1747 : decode cL_law_ 1747 = .ok (.iaload, 1) := by decide +kernel
theorem dL_law__1748 : decode cL_law_ 1748 = .ok (.aload_n 3, 1) := by decide +kernel
theorem dL_law__1749 : decode cL_law_ 1749 = .ok (.invokestatic 204, 3) := by decide +kernel
theorem dL_law__1752 : decode cL_law_ 1752 = .ok (.istore 5, 2) := by decide +kernel
theorem dL_law__1754 : decode cL_law_ 1754 = .ok (.aload_n 2, 1) := by decide +kernel
theorem dL_law__1755 : decode cL_law_ 1755 = .ok (.aload_n 0, 1) := by decide +kernel
theorem dL_law__1756 : decode cL_law_ 1756 = .ok (.iload 4, 2) := by decide +kernel
theorem dL_law__1758 : decode cL_law_ 1758 = .ok (.iconst 1, 1) := by decide +kernel
theorem dL_law__1759 : decode cL_law_ 1759 = .ok (.iadd, 1) := by decide +kernel
theorem dL_law__1760 : decode cL_law_ 1760 = .ok (.iaload, 1) := by decide +kernel
theorem dL_law__1761 : decode cL_law_ 1761 = .ok (.invokevirtual 206, 3) := by decide +kernel
theorem dL_law__1764 : decode cL_law_ 1764 = .ok (.istore 6, 2) := by decide +kernel
theorem dL_law__1766 : decode cL_law_ 1766 = .ok (.aload_n 2, 1) := by decide +kernel
theorem dL_law__1767 : decode cL_law_ 1767 = .ok (.invokevirtual 129, 3) := by decide +kernel
theorem dL_law__1770 : decode cL_law_ 1770 = .ok (.iload 5, 2) := by decide +kernel
theorem dL_law__1772 : decode cL_law_ 1772 = .ok (.if_icmp .eq 5, 3) := by decide +kernel
theorem dL_law__1775 : decode cL_law_ 1775 = .ok (.iconst 0, 1) := by decide +kernel
theorem dL_law__1776 : decode cL_law_ 1776 = .ok (.ireturn, 1) := by decide +kernel
theorem dL_law__1777 : decode cL_law_ 1777 = .ok (.iload 5, 2) := by decide +kernel
theorem dL_law__1779 : decode cL_law_ 1779 = .ok (.ifCond .ne 15, 3) := by decide +kernel
theorem dL_law__1782 : decode cL_law_ 1782 = .ok (.aload_n 3, 1) := by decide +kernel
theorem dL_law__1783 : decode cL_law_ 1783 = .ok (.iconst 0, 1) := by decide +kernel
theorem dL_law__1784 : decode cL_law_ 1784 = .ok (.laload, 1) := by decide +kernel
theorem dL_law__1785 : decode cL_law_ 1785 = .ok (.iload 6, 2) := by decide +kernel
theorem dL_law__1787 : decode cL_law_ 1787 = .ok (.i2l, 1) := by decide +kernel
theorem dL_law__1788 : decode cL_law_ 1788 = .ok (.lcmp, 1) := by decide +kernel
theorem dL_law__1789 : decode cL_law_ 1789 = .ok (.ifCond .eq 5, 3) := by decide +kernel
theorem dL_law__1792 : decode cL_law_ 1792 = .ok (.iconst 0, 1) := by decide +kernel
theorem dL_law__1793 : decode cL_law_ 1793 = .ok (.ireturn, 1) := by decide +kernel
theorem dL_law__1794 : decode cL_law_ 1794 = .ok (.goto 759, 3) := by decide +kernel
theorem dL_law__1797 : decode cL_law_ 1797 = .ok (.aload_n 1, 1) := by decide +kernel
theorem dL_law__1798 : decode cL_law_ 1798 = .ok (.aload_n 0, 1) := by decide +kernel
theorem dL_law__1799 : decode cL_law_ 1799 = .ok (.iload 4, 2) := by decide +kernel
theorem dL_law__1801 : decode cL_law_ 1801 = .ok (.iconst 1, 1) := by decide +kernel
theorem dL_law__1802 : decode cL_law_ 1802 = .ok (.iadd, 1) := by decide +kernel
theorem dL_law__1803 : decode cL_law_ 1803 = .ok (.iaload, 1) := by decide +kernel
theorem dL_law__1804 : decode cL_law_ 1804 = .ok (.aload_n 3, 1) := by decide +kernel
theorem dL_law__1805 : decode cL_law_ 1805 = .ok (.invokestatic 207, 3) := by decide +kernel
theorem dL_law__1808 : decode cL_law_ 1808 = .ok (.istore 5, 2) := by decide +kernel
theorem dL_law__1810 : decode cL_law_ 1810 = .ok (.aload_n 2, 1) := by decide +kernel
theorem dL_law__1811 : decode cL_law_ 1811 = .ok (.aload_n 0, 1) := by decide +kernel
theorem dL_law__1812 : decode cL_law_ 1812 = .ok (.iload 4, 2) := by decide +kernel
theorem dL_law__1814 : decode cL_law_ 1814 = .ok (.iconst 1, 1) := by decide +kernel
theorem dL_law__1815 : decode cL_law_ 1815 = .ok (.iadd, 1) := by decide +kernel
theorem dL_law__1816 : decode cL_law_ 1816 = .ok (.iaload, 1) := by decide +kernel
theorem dL_law__1817 : decode cL_law_ 1817 = .ok (.invokevirtual 209, 3) := by decide +kernel
theorem dL_law__1820 : decode cL_law_ 1820 = .ok (.istore 6, 2) := by decide +kernel
theorem dL_law__1822 : decode cL_law_ 1822 = .ok (.aload_n 2, 1) := by decide +kernel
theorem dL_law__1823 : decode cL_law_ 1823 = .ok (.invokevirtual 129, 3) := by decide +kernel
theorem dL_law__1826 : decode cL_law_ 1826 = .ok (.iload 5, 2) := by decide +kernel
theorem dL_law__1828 : decode cL_law_ 1828 = .ok (.if_icmp .eq 5, 3) := by decide +kernel
theorem dL_law__1831 : decode cL_law_ 1831 = .ok (.iconst 0, 1) := by decide +kernel
theorem dL_law__1832 : decode cL_law_ 1832 = .ok (.ireturn, 1) := by decide +kernel
theorem dL_law__1833 : decode cL_law_ 1833 = .ok (.iload 5, 2) := by decide +kernel
theorem dL_law__1835 : decode cL_law_ 1835 = .ok (.ifCond .ne 15, 3) := by decide +kernel
theorem dL_law__1838 : decode cL_law_ 1838 = .ok (.aload_n 3, 1) := by decide +kernel
theorem dL_law__1839 : decode cL_law_ 1839 = .ok (.iconst 0, 1) := by decide +kernel
theorem dL_law__1840 : decode cL_law_ 1840 = .ok (.laload, 1) := by decide +kernel
theorem dL_law__1841 : decode cL_law_ 1841 = .ok (.iload 6, 2) := by decide +kernel
theorem dL_law__1843 : decode cL_law_ 1843 = .ok (.i2l, 1) := by decide +kernel
theorem dL_law__1844 : decode cL_law_ 1844 = .ok (.lcmp, 1) := by decide +kernel
theorem dL_law__1845 : decode cL_law_ 1845 = .ok (.ifCond .eq 5, 3) := by decide +kernel
theorem dL_law__1848 : decode cL_law_ 1848 = .ok (.iconst 0, 1) := by decide +kernel
theorem dL_law__1849 : decode cL_law_ 1849 = .ok (.ireturn, 1) := by decide +kernel
theorem dL_law__1850 : decode cL_law_ 1850 = .ok (.goto 703, 3) := by decide +kernel
theorem dL_law__1853 : decode cL_law_ 1853 = .ok (.aload_n 1, 1) := by decide +kernel
theorem dL_law__1854 : decode cL_law_ 1854 = .ok (.aload_n 0, 1) := by decide +kernel
theorem dL_law__1855 : decode cL_law_ 1855 = .ok (.iload 4, 2) := by decide +kernel
theorem dL_law__1857 : decode cL_law_ 1857 = .ok (.iconst 1, 1) := by decide +kernel
theorem dL_law__1858 : decode cL_law_ 1858 = .ok (.iadd, 1) := by decide +kernel
theorem dL_law__1859 : decode cL_law_ 1859 = .ok (.iaload, 1) := by decide +kernel
theorem dL_law__1860 : decode cL_law_ 1860 = .ok (.aload_n 0, 1) := by decide +kernel
theorem dL_law__1861 : decode cL_law_ 1861 = .ok (.iload 4, 2) := by decide +kernel
theorem dL_law__1863 : decode cL_law_ 1863 = .ok (.iconst 2, 1) := by decide +kernel
theorem dL_law__1864 : decode cL_law_ 1864 = .ok (.iadd, 1) := by decide +kernel
theorem dL_law__1865 : decode cL_law_ 1865 = .ok (.iaload, 1) := by decide +kernel
theorem dL_law__1866 : decode cL_law_ 1866 = .ok (.aload_n 0, 1) := by decide +kernel
theorem dL_law__1867 : decode cL_law_ 1867 = .ok (.iload 4, 2) := by decide +kernel
theorem dL_law__1869 : decode cL_law_ 1869 = .ok (.iconst 3, 1) := by decide +kernel
theorem dL_law__1870 : decode cL_law_ 1870 = .ok (.iadd, 1) := by decide +kernel
theorem dL_law__1871 : decode cL_law_ 1871 = .ok (.iaload, 1) := by decide +kernel
theorem dL_law__1872 : decode cL_law_ 1872 = .ok (.aload_n 3, 1) := by decide +kernel
theorem dL_law__1873 : decode cL_law_ 1873 = .ok (.invokestatic 210, 3) := by decide +kernel
theorem dL_law__1876 : decode cL_law_ 1876 = .ok (.istore 5, 2) := by decide +kernel
theorem dL_law__1878 : decode cL_law_ 1878 = .ok (.aload_n 2, 1) := by decide +kernel
theorem dL_law__1879 : decode cL_law_ 1879 = .ok (.aload_n 0, 1) := by decide +kernel
theorem dL_law__1880 : decode cL_law_ 1880 = .ok (.iload 4, 2) := by decide +kernel
theorem dL_law__1882 : decode cL_law_ 1882 = .ok (.iconst 1, 1) := by decide +kernel
theorem dL_law__1883 : decode cL_law_ 1883 = .ok (.iadd, 1) := by decide +kernel
theorem dL_law__1884 : decode cL_law_ 1884 = .ok (.iaload, 1) := by decide +kernel
theorem dL_law__1885 : decode cL_law_ 1885 = .ok (.aload_n 0, 1) := by decide +kernel
theorem dL_law__1886 : decode cL_law_ 1886 = .ok (.iload 4, 2) := by decide +kernel
theorem dL_law__1888 : decode cL_law_ 1888 = .ok (.iconst 2, 1) := by decide +kernel
theorem dL_law__1889 : decode cL_law_ 1889 = .ok (.iadd, 1) := by decide +kernel
theorem dL_law__1890 : decode cL_law_ 1890 = .ok (.iaload, 1) := by decide +kernel
theorem dL_law__1891 : decode cL_law_ 1891 = .ok (.aload_n 0, 1) := by decide +kernel
theorem dL_law__1892 : decode cL_law_ 1892 = .ok (.iload 4, 2) := by decide +kernel
theorem dL_law__1894 : decode cL_law_ 1894 = .ok (.iconst 3, 1) := by decide +kernel
theorem dL_law__1895 : decode cL_law_ 1895 = .ok (.iadd, 1) := by decide +kernel
theorem dL_law__1896 : decode cL_law_ 1896 = .ok (.iaload, 1) := by decide +kernel
theorem dL_law__1897 : decode cL_law_ 1897 = .ok (.invokevirtual 212, 3) := by decide +kernel
theorem dL_law__1900 : decode cL_law_ 1900 = .ok (.istore 6, 2) := by decide +kernel
theorem dL_law__1902 : decode cL_law_ 1902 = .ok (.aload_n 2, 1) := by decide +kernel
theorem dL_law__1903 : decode cL_law_ 1903 = .ok (.invokevirtual 129, 3) := by decide +kernel
theorem dL_law__1906 : decode cL_law_ 1906 = .ok (.iload 5, 2) := by decide +kernel
theorem dL_law__1908 : decode cL_law_ 1908 = .ok (.if_icmp .eq 5, 3) := by decide +kernel
theorem dL_law__1911 : decode cL_law_ 1911 = .ok (.iconst 0, 1) := by decide +kernel
theorem dL_law__1912 : decode cL_law_ 1912 = .ok (.ireturn, 1) := by decide +kernel
theorem dL_law__1913 : decode cL_law_ 1913 = .ok (.iload 5, 2) := by decide +kernel
theorem dL_law__1915 : decode cL_law_ 1915 = .ok (.ifCond .ne 15, 3) := by decide +kernel
theorem dL_law__1918 : decode cL_law_ 1918 = .ok (.aload_n 3, 1) := by decide +kernel
theorem dL_law__1919 : decode cL_law_ 1919 = .ok (.iconst 0, 1) := by decide +kernel
theorem dL_law__1920 : decode cL_law_ 1920 = .ok (.laload, 1) := by decide +kernel
theorem dL_law__1921 : decode cL_law_ 1921 = .ok (.iload 6, 2) := by decide +kernel
theorem dL_law__1923 : decode cL_law_ 1923 = .ok (.i2l, 1) := by decide +kernel
theorem dL_law__1924 : decode cL_law_ 1924 = .ok (.lcmp, 1) := by decide +kernel
theorem dL_law__1925 : decode cL_law_ 1925 = .ok (.ifCond .eq 5, 3) := by decide +kernel
theorem dL_law__1928 : decode cL_law_ 1928 = .ok (.iconst 0, 1) := by decide +kernel
theorem dL_law__1929 : decode cL_law_ 1929 = .ok (.ireturn, 1) := by decide +kernel
theorem dL_law__1930 : decode cL_law_ 1930 = .ok (.goto 623, 3) := by decide +kernel
theorem dL_law__1933 : decode cL_law_ 1933 = .ok (.aload_n 1, 1) := by decide +kernel
theorem dL_law__1934 : decode cL_law_ 1934 = .ok (.aload_n 0, 1) := by decide +kernel
theorem dL_law__1935 : decode cL_law_ 1935 = .ok (.iload 4, 2) := by decide +kernel
theorem dL_law__1937 : decode cL_law_ 1937 = .ok (.iconst 1, 1) := by decide +kernel
theorem dL_law__1938 : decode cL_law_ 1938 = .ok (.iadd, 1) := by decide +kernel
theorem dL_law__1939 : decode cL_law_ 1939 = .ok (.iaload, 1) := by decide +kernel
theorem dL_law__1940 : decode cL_law_ 1940 = .ok (.aload_n 3, 1) := by decide +kernel
theorem dL_law__1941 : decode cL_law_ 1941 = .ok (.invokestatic 213, 3) := by decide +kernel
theorem dL_law__1944 : decode cL_law_ 1944 = .ok (.istore 5, 2) := by decide +kernel
theorem dL_law__1946 : decode cL_law_ 1946 = .ok (.aload_n 2, 1) := by decide +kernel
theorem dL_law__1947 : decode cL_law_ 1947 = .ok (.aload_n 0, 1) := by decide +kernel
theorem dL_law__1948 : decode cL_law_ 1948 = .ok (.iload 4, 2) := by decide +kernel
theorem dL_law__1950 : decode cL_law_ 1950 = .ok (.iconst 1, 1) := by decide +kernel
theorem dL_law__1951 : decode cL_law_ 1951 = .ok (.iadd, 1) := by decide +kernel
theorem dL_law__1952 : decode cL_law_ 1952 = .ok (.iaload, 1) := by decide +kernel
theorem dL_law__1953 : decode cL_law_ 1953 = .ok (.invokevirtual 215, 3) := by decide +kernel
theorem dL_law__1956 : decode cL_law_ 1956 = .ok (.istore 6, 2) := by decide +kernel
theorem dL_law__1958 : decode cL_law_ 1958 = .ok (.aload_n 2, 1) := by decide +kernel
theorem dL_law__1959 : decode cL_law_ 1959 = .ok (.invokevirtual 129, 3) := by decide +kernel
theorem dL_law__1962 : decode cL_law_ 1962 = .ok (.iload 5, 2) := by decide +kernel
theorem dL_law__1964 : decode cL_law_ 1964 = .ok (.if_icmp .eq 5, 3) := by decide +kernel
theorem dL_law__1967 : decode cL_law_ 1967 = .ok (.iconst 0, 1) := by decide +kernel
theorem dL_law__1968 : decode cL_law_ 1968 = .ok (.ireturn, 1) := by decide +kernel
theorem dL_law__1969 : decode cL_law_ 1969 = .ok (.iload 5, 2) := by decide +kernel
theorem dL_law__1971 : decode cL_law_ 1971 = .ok (.ifCond .ne 15, 3) := by decide +kernel
theorem dL_law__1974 : decode cL_law_ 1974 = .ok (.aload_n 3, 1) := by decide +kernel
theorem dL_law__1975 : decode cL_law_ 1975 = .ok (.iconst 0, 1) := by decide +kernel
theorem dL_law__1976 : decode cL_law_ 1976 = .ok (.laload, 1) := by decide +kernel
theorem dL_law__1977 : decode cL_law_ 1977 = .ok (.iload 6, 2) := by decide +kernel
theorem dL_law__1979 : decode cL_law_ 1979 = .ok (.i2l, 1) := by decide +kernel
theorem dL_law__1980 : decode cL_law_ 1980 = .ok (.lcmp, 1) := by decide +kernel
theorem dL_law__1981 : decode cL_law_ 1981 = .ok (.ifCond .eq 5, 3) := by decide +kernel
theorem dL_law__1984 : decode cL_law_ 1984 = .ok (.iconst 0, 1) := by decide +kernel
theorem dL_law__1985 : decode cL_law_ 1985 = .ok (.ireturn, 1) := by decide +kernel
theorem dL_law__1986 : decode cL_law_ 1986 = .ok (.goto 567, 3) := by decide +kernel
theorem dL_law__1989 : decode cL_law_ 1989 = .ok (.aload_n 1, 1) := by decide +kernel
theorem dL_law__1990 : decode cL_law_ 1990 = .ok (.aload_n 0, 1) := by decide +kernel
theorem dL_law__1991 : decode cL_law_ 1991 = .ok (.iload 4, 2) := by decide +kernel
theorem dL_law__1993 : decode cL_law_ 1993 = .ok (.iconst 1, 1) := by decide +kernel
theorem dL_law__1994 : decode cL_law_ 1994 = .ok (.iadd, 1) := by decide +kernel
theorem dL_law__1995 : decode cL_law_ 1995 = .ok (.iaload, 1) := by decide +kernel
theorem dL_law__1996 : decode cL_law_ 1996 = .ok (.aload_n 0, 1) := by decide +kernel
theorem dL_law__1997 : decode cL_law_ 1997 = .ok (.iload 4, 2) := by decide +kernel
theorem dL_law__1999 : decode cL_law_ 1999 = .ok (.iconst 2, 1) := by decide +kernel
theorem dL_law__2000 : decode cL_law_ 2000 = .ok (.iadd, 1) := by decide +kernel
theorem dL_law__2001 : decode cL_law_ 2001 = .ok (.iaload, 1) := by decide +kernel
theorem dL_law__2002 : decode cL_law_ 2002 = .ok (.aload_n 3, 1) := by decide +kernel
theorem dL_law__2003 : decode cL_law_ 2003 = .ok (.invokestatic 216, 3) := by decide +kernel
theorem dL_law__2006 : decode cL_law_ 2006 = .ok (.istore 5, 2) := by decide +kernel
theorem dL_law__2008 : decode cL_law_ 2008 = .ok (.aload_n 2, 1) := by decide +kernel
theorem dL_law__2009 : decode cL_law_ 2009 = .ok (.aload_n 0, 1) := by decide +kernel
theorem dL_law__2010 : decode cL_law_ 2010 = .ok (.iload 4, 2) := by decide +kernel
theorem dL_law__2012 : decode cL_law_ 2012 = .ok (.iconst 1, 1) := by decide +kernel
theorem dL_law__2013 : decode cL_law_ 2013 = .ok (.iadd, 1) := by decide +kernel
theorem dL_law__2014 : decode cL_law_ 2014 = .ok (.iaload, 1) := by decide +kernel
theorem dL_law__2015 : decode cL_law_ 2015 = .ok (.aload_n 0, 1) := by decide +kernel
theorem dL_law__2016 : decode cL_law_ 2016 = .ok (.iload 4, 2) := by decide +kernel
theorem dL_law__2018 : decode cL_law_ 2018 = .ok (.iconst 2, 1) := by decide +kernel
theorem dL_law__2019 : decode cL_law_ 2019 = .ok (.iadd, 1) := by decide +kernel
theorem dL_law__2020 : decode cL_law_ 2020 = .ok (.iaload, 1) := by decide +kernel
theorem dL_law__2021 : decode cL_law_ 2021 = .ok (.invokevirtual 218, 3) := by decide +kernel
theorem dL_law__2024 : decode cL_law_ 2024 = .ok (.istore 6, 2) := by decide +kernel
theorem dL_law__2026 : decode cL_law_ 2026 = .ok (.aload_n 2, 1) := by decide +kernel
theorem dL_law__2027 : decode cL_law_ 2027 = .ok (.invokevirtual 129, 3) := by decide +kernel
theorem dL_law__2030 : decode cL_law_ 2030 = .ok (.iload 5, 2) := by decide +kernel
theorem dL_law__2032 : decode cL_law_ 2032 = .ok (.if_icmp .eq 5, 3) := by decide +kernel
theorem dL_law__2035 : decode cL_law_ 2035 = .ok (.iconst 0, 1) := by decide +kernel
theorem dL_law__2036 : decode cL_law_ 2036 = .ok (.ireturn, 1) := by decide +kernel
theorem dL_law__2037 : decode cL_law_ 2037 = .ok (.iload 5, 2) := by decide +kernel
theorem dL_law__2039 : decode cL_law_ 2039 = .ok (.ifCond .ne 15, 3) := by decide +kernel
theorem dL_law__2042 : decode cL_law_ 2042 = .ok (.aload_n 3, 1) := by decide +kernel
theorem dL_law__2043 : decode cL_law_ 2043 = .ok (.iconst 0, 1) := by decide +kernel
theorem dL_law__2044 : decode cL_law_ 2044 = .ok (.laload, 1) := by decide +kernel
theorem dL_law__2045 : decode cL_law_ 2045 = .ok (.iload 6, 2) := by decide +kernel
theorem dL_law__2047 : decode cL_law_ 2047 = .ok (.i2l, 1) := by decide +kernel
theorem dL_law__2048 : decode cL_law_ 2048 = .ok (.lcmp, 1) := by decide +kernel
theorem dL_law__2049 : decode cL_law_ 2049 = .ok (.ifCond .eq 5, 3) := by decide +kernel
theorem dL_law__2052 : decode cL_law_ 2052 = .ok (.iconst 0, 1) := by decide +kernel
theorem dL_law__2053 : decode cL_law_ 2053 = .ok (.ireturn, 1) := by decide +kernel
theorem dL_law__2054 : decode cL_law_ 2054 = .ok (.goto 499, 3) := by decide +kernel
theorem dL_law__2057 : decode cL_law_ 2057 = .ok (.aload_n 1, 1) := by decide +kernel
theorem dL_law__2058 : decode cL_law_ 2058 = .ok (.aload_n 0, 1) := by decide +kernel
theorem dL_law__2059 : decode cL_law_ 2059 = .ok (.iload 4, 2) := by decide +kernel
theorem dL_law__2061 : decode cL_law_ 2061 = .ok (.iconst 1, 1) := by decide +kernel
theorem dL_law__2062 : decode cL_law_ 2062 = .ok (.iadd, 1) := by decide +kernel
theorem dL_law__2063 : decode cL_law_ 2063 = .ok (.iaload, 1) := by decide +kernel
theorem dL_law__2064 : decode cL_law_ 2064 = .ok (.aload_n 0, 1) := by decide +kernel
theorem dL_law__2065 : decode cL_law_ 2065 = .ok (.iload 4, 2) := by decide +kernel
theorem dL_law__2067 : decode cL_law_ 2067 = .ok (.iconst 2, 1) := by decide +kernel
theorem dL_law__2068 : decode cL_law_ 2068 = .ok (.iadd, 1) := by decide +kernel
theorem dL_law__2069 : decode cL_law_ 2069 = .ok (.iaload, 1) := by decide +kernel
theorem dL_law__2070 : decode cL_law_ 2070 = .ok (.aload_n 3, 1) := by decide +kernel
theorem dL_law__2071 : decode cL_law_ 2071 = .ok (.invokestatic 219, 3) := by decide +kernel
theorem dL_law__2074 : decode cL_law_ 2074 = .ok (.istore 5, 2) := by decide +kernel
theorem dL_law__2076 : decode cL_law_ 2076 = .ok (.aload_n 2, 1) := by decide +kernel
theorem dL_law__2077 : decode cL_law_ 2077 = .ok (.aload_n 0, 1) := by decide +kernel
theorem dL_law__2078 : decode cL_law_ 2078 = .ok (.iload 4, 2) := by decide +kernel
theorem dL_law__2080 : decode cL_law_ 2080 = .ok (.iconst 1, 1) := by decide +kernel
theorem dL_law__2081 : decode cL_law_ 2081 = .ok (.iadd, 1) := by decide +kernel
theorem dL_law__2082 : decode cL_law_ 2082 = .ok (.iaload, 1) := by decide +kernel
theorem dL_law__2083 : decode cL_law_ 2083 = .ok (.aload_n 0, 1) := by decide +kernel
theorem dL_law__2084 : decode cL_law_ 2084 = .ok (.iload 4, 2) := by decide +kernel
theorem dL_law__2086 : decode cL_law_ 2086 = .ok (.iconst 2, 1) := by decide +kernel
theorem dL_law__2087 : decode cL_law_ 2087 = .ok (.iadd, 1) := by decide +kernel
theorem dL_law__2088 : decode cL_law_ 2088 = .ok (.iaload, 1) := by decide +kernel
theorem dL_law__2089 : decode cL_law_ 2089 = .ok (.invokevirtual 221, 3) := by decide +kernel
theorem dL_law__2092 : decode cL_law_ 2092 = .ok (.istore 6, 2) := by decide +kernel
theorem dL_law__2094 : decode cL_law_ 2094 = .ok (.aload_n 2, 1) := by decide +kernel
theorem dL_law__2095 : decode cL_law_ 2095 = .ok (.invokevirtual 129, 3) := by decide +kernel
theorem dL_law__2098 : decode cL_law_ 2098 = .ok (.iload 5, 2) := by decide +kernel
theorem dL_law__2100 : decode cL_law_ 2100 = .ok (.if_icmp .eq 5, 3) := by decide +kernel
theorem dL_law__2103 : decode cL_law_ 2103 = .ok (.iconst 0, 1) := by decide +kernel
theorem dL_law__2104 : decode cL_law_ 2104 = .ok (.ireturn, 1) := by decide +kernel
theorem dL_law__2105 : decode cL_law_ 2105 = .ok (.iload 5, 2) := by decide +kernel
theorem dL_law__2107 : decode cL_law_ 2107 = .ok (.ifCond .ne 15, 3) := by decide +kernel
theorem dL_law__2110 : decode cL_law_ 2110 = .ok (.aload_n 3, 1) := by decide +kernel
theorem dL_law__2111 : decode cL_law_ 2111 = .ok (.iconst 0, 1) := by decide +kernel
theorem dL_law__2112 : decode cL_law_ 2112 = .ok (.laload, 1) := by decide +kernel
theorem dL_law__2113 : decode cL_law_ 2113 = .ok (.iload 6, 2) := by decide +kernel
theorem dL_law__2115 : decode cL_law_ 2115 = .ok (.i2l, 1) := by decide +kernel
theorem dL_law__2116 : decode cL_law_ 2116 = .ok (.lcmp, 1) := by decide +kernel
theorem dL_law__2117 : decode cL_law_ 2117 = .ok (.ifCond .eq 5, 3) := by decide +kernel
theorem dL_law__2120 : decode cL_law_ 2120 = .ok (.iconst 0, 1) := by decide +kernel
theorem dL_law__2121 : decode cL_law_ 2121 = .ok (.ireturn, 1) := by decide +kernel
theorem dL_law__2122 : decode cL_law_ 2122 = .ok (.goto 431, 3) := by decide +kernel
theorem dL_law__2125 : decode cL_law_ 2125 = .ok (.aload_n 1, 1) := by decide +kernel
theorem dL_law__2126 : decode cL_law_ 2126 = .ok (.aload_n 0, 1) := by decide +kernel
theorem dL_law__2127 : decode cL_law_ 2127 = .ok (.iload 4, 2) := by decide +kernel
theorem dL_law__2129 : decode cL_law_ 2129 = .ok (.iconst 1, 1) := by decide +kernel
theorem dL_law__2130 : decode cL_law_ 2130 = .ok (.iadd, 1) := by decide +kernel
theorem dL_law__2131 : decode cL_law_ 2131 = .ok (.iaload, 1) := by decide +kernel
theorem dL_law__2132 : decode cL_law_ 2132 = .ok (.aload_n 3, 1) := by decide +kernel
theorem dL_law__2133 : decode cL_law_ 2133 = .ok (.invokestatic 222, 3) := by decide +kernel
theorem dL_law__2136 : decode cL_law_ 2136 = .ok (.istore 5, 2) := by decide +kernel
theorem dL_law__2138 : decode cL_law_ 2138 = .ok (.aload_n 2, 1) := by decide +kernel
theorem dL_law__2139 : decode cL_law_ 2139 = .ok (.aload_n 0, 1) := by decide +kernel
theorem dL_law__2140 : decode cL_law_ 2140 = .ok (.iload 4, 2) := by decide +kernel
theorem dL_law__2142 : decode cL_law_ 2142 = .ok (.iconst 1, 1) := by decide +kernel
theorem dL_law__2143 : decode cL_law_ 2143 = .ok (.iadd, 1) := by decide +kernel
theorem dL_law__2144 : decode cL_law_ 2144 = .ok (.iaload, 1) := by decide +kernel
theorem dL_law__2145 : decode cL_law_ 2145 = .ok (.invokevirtual 224, 3) := by decide +kernel
theorem dL_law__2148 : decode cL_law_ 2148 = .ok (.istore 6, 2) := by decide +kernel
theorem dL_law__2150 : decode cL_law_ 2150 = .ok (.aload_n 2, 1) := by decide +kernel
theorem dL_law__2151 : decode cL_law_ 2151 = .ok (.invokevirtual 129, 3) := by decide +kernel
theorem dL_law__2154 : decode cL_law_ 2154 = .ok (.iload 5, 2) := by decide +kernel
theorem dL_law__2156 : decode cL_law_ 2156 = .ok (.if_icmp .eq 5, 3) := by decide +kernel
theorem dL_law__2159 : decode cL_law_ 2159 = .ok (.iconst 0, 1) := by decide +kernel
theorem dL_law__2160 : decode cL_law_ 2160 = .ok (.ireturn, 1) := by decide +kernel
theorem dL_law__2161 : decode cL_law_ 2161 = .ok (.iload 5, 2) := by decide +kernel
theorem dL_law__2163 : decode cL_law_ 2163 = .ok (.ifCond .ne 15, 3) := by decide +kernel
theorem dL_law__2166 : decode cL_law_ 2166 = .ok (.aload_n 3, 1) := by decide +kernel
theorem dL_law__2167 : decode cL_law_ 2167 = .ok (.iconst 0, 1) := by decide +kernel
theorem dL_law__2168 : decode cL_law_ 2168 = .ok (.laload, 1) := by decide +kernel
theorem dL_law__2169 : decode cL_law_ 2169 = .ok (.iload 6, 2) := by decide +kernel
theorem dL_law__2171 : decode cL_law_ 2171 = .ok (.i2l, 1) := by decide +kernel
theorem dL_law__2172 : decode cL_law_ 2172 = .ok (.lcmp, 1) := by decide +kernel
theorem dL_law__2173 : decode cL_law_ 2173 = .ok (.ifCond .eq 5, 3) := by decide +kernel
theorem dL_law__2176 : decode cL_law_ 2176 = .ok (.iconst 0, 1) := by decide +kernel
theorem dL_law__2177 : decode cL_law_ 2177 = .ok (.ireturn, 1) := by decide +kernel
theorem dL_law__2178 : decode cL_law_ 2178 = .ok (.goto 375, 3) := by decide +kernel
theorem dL_law__2181 : decode cL_law_ 2181 = .ok (.aload_n 1, 1) := by decide +kernel
theorem dL_law__2182 : decode cL_law_ 2182 = .ok (.aload_n 0, 1) := by decide +kernel
theorem dL_law__2183 : decode cL_law_ 2183 = .ok (.iload 4, 2) := by decide +kernel
theorem dL_law__2185 : decode cL_law_ 2185 = .ok (.iconst 1, 1) := by decide +kernel
theorem dL_law__2186 : decode cL_law_ 2186 = .ok (.iadd, 1) := by decide +kernel
theorem dL_law__2187 : decode cL_law_ 2187 = .ok (.iaload, 1) := by decide +kernel
theorem dL_law__2188 : decode cL_law_ 2188 = .ok (.aload_n 3, 1) := by decide +kernel
theorem dL_law__2189 : decode cL_law_ 2189 = .ok (.invokestatic 225, 3) := by decide +kernel
theorem dL_law__2192 : decode cL_law_ 2192 = .ok (.istore 5, 2) := by decide +kernel
theorem dL_law__2194 : decode cL_law_ 2194 = .ok (.aload_n 2, 1) := by decide +kernel
theorem dL_law__2195 : decode cL_law_ 2195 = .ok (.aload_n 0, 1) := by decide +kernel
theorem dL_law__2196 : decode cL_law_ 2196 = .ok (.iload 4, 2) := by decide +kernel
theorem dL_law__2198 : decode cL_law_ 2198 = .ok (.iconst 1, 1) := by decide +kernel
theorem dL_law__2199 : decode cL_law_ 2199 = .ok (.iadd, 1) := by decide +kernel
theorem dL_law__2200 : decode cL_law_ 2200 = .ok (.iaload, 1) := by decide +kernel
theorem dL_law__2201 : decode cL_law_ 2201 = .ok (.invokevirtual 227, 3) := by decide +kernel
theorem dL_law__2204 : decode cL_law_ 2204 = .ok (.istore 6, 2) := by decide +kernel
theorem dL_law__2206 : decode cL_law_ 2206 = .ok (.aload_n 2, 1) := by decide +kernel
theorem dL_law__2207 : decode cL_law_ 2207 = .ok (.invokevirtual 129, 3) := by decide +kernel
theorem dL_law__2210 : decode cL_law_ 2210 = .ok (.iload 5, 2) := by decide +kernel
theorem dL_law__2212 : decode cL_law_ 2212 = .ok (.if_icmp .eq 5, 3) := by decide +kernel
theorem dL_law__2215 : decode cL_law_ 2215 = .ok (.iconst 0, 1) := by decide +kernel
theorem dL_law__2216 : decode cL_law_ 2216 = .ok (.ireturn, 1) := by decide +kernel
theorem dL_law__2217 : decode cL_law_ 2217 = .ok (.iload 5, 2) := by decide +kernel
theorem dL_law__2219 : decode cL_law_ 2219 = .ok (.ifCond .ne 15, 3) := by decide +kernel
theorem dL_law__2222 : decode cL_law_ 2222 = .ok (.aload_n 3, 1) := by decide +kernel
theorem dL_law__2223 : decode cL_law_ 2223 = .ok (.iconst 0, 1) := by decide +kernel
theorem dL_law__2224 : decode cL_law_ 2224 = .ok (.laload, 1) := by decide +kernel
theorem dL_law__2225 : decode cL_law_ 2225 = .ok (.iload 6, 2) := by decide +kernel
theorem dL_law__2227 : decode cL_law_ 2227 = .ok (.i2l, 1) := by decide +kernel
theorem dL_law__2228 : decode cL_law_ 2228 = .ok (.lcmp, 1) := by decide +kernel
theorem dL_law__2229 : decode cL_law_ 2229 = .ok (.ifCond .eq 5, 3) := by decide +kernel
theorem dL_law__2232 : decode cL_law_ 2232 = .ok (.iconst 0, 1) := by decide +kernel
theorem dL_law__2233 : decode cL_law_ 2233 = .ok (.ireturn, 1) := by decide +kernel
theorem dL_law__2234 : decode cL_law_ 2234 = .ok (.goto 319, 3) := by decide +kernel
theorem dL_law__2237 : decode cL_law_ 2237 = .ok (.aload_n 1, 1) := by decide +kernel
theorem dL_law__2238 : decode cL_law_ 2238 = .ok (.aload_n 0, 1) := by decide +kernel
theorem dL_law__2239 : decode cL_law_ 2239 = .ok (.iload 4, 2) := by decide +kernel
theorem dL_law__2241 : decode cL_law_ 2241 = .ok (.iconst 1, 1) := by decide +kernel
theorem dL_law__2242 : decode cL_law_ 2242 = .ok (.iadd, 1) := by decide +kernel
theorem dL_law__2243 : decode cL_law_ 2243 = .ok (.iaload, 1) := by decide +kernel
theorem dL_law__2244 : decode cL_law_ 2244 = .ok (.aload_n 0, 1) := by decide +kernel
theorem dL_law__2245 : decode cL_law_ 2245 = .ok (.iload 4, 2) := by decide +kernel
theorem dL_law__2247 : decode cL_law_ 2247 = .ok (.iconst 2, 1) := by decide +kernel
theorem dL_law__2248 : decode cL_law_ 2248 = .ok (.iadd, 1) := by decide +kernel
theorem dL_law__2249 : decode cL_law_ 2249 = .ok (.iaload, 1) := by decide +kernel
theorem dL_law__2250 : decode cL_law_ 2250 = .ok (.aload_n 3, 1) := by decide +kernel
theorem dL_law__2251 : decode cL_law_ 2251 = .ok (.invokestatic 228, 3) := by decide +kernel
theorem dL_law__2254 : decode cL_law_ 2254 = .ok (.istore 5, 2) := by decide +kernel
theorem dL_law__2256 : decode cL_law_ 2256 = .ok (.aload_n 2, 1) := by decide +kernel
theorem dL_law__2257 : decode cL_law_ 2257 = .ok (.aload_n 0, 1) := by decide +kernel
theorem dL_law__2258 : decode cL_law_ 2258 = .ok (.iload 4, 2) := by decide +kernel
theorem dL_law__2260 : decode cL_law_ 2260 = .ok (.iconst 1, 1) := by decide +kernel
theorem dL_law__2261 : decode cL_law_ 2261 = .ok (.iadd, 1) := by decide +kernel
theorem dL_law__2262 : decode cL_law_ 2262 = .ok (.iaload, 1) := by decide +kernel
theorem dL_law__2263 : decode cL_law_ 2263 = .ok (.aload_n 0, 1) := by decide +kernel
theorem dL_law__2264 : decode cL_law_ 2264 = .ok (.iload 4, 2) := by decide +kernel
theorem dL_law__2266 : decode cL_law_ 2266 = .ok (.iconst 2, 1) := by decide +kernel
theorem dL_law__2267 : decode cL_law_ 2267 = .ok (.iadd, 1) := by decide +kernel
theorem dL_law__2268 : decode cL_law_ 2268 = .ok (.iaload, 1) := by decide +kernel
theorem dL_law__2269 : decode cL_law_ 2269 = .ok (.invokevirtual 230, 3) := by decide +kernel
theorem dL_law__2272 : decode cL_law_ 2272 = .ok (.istore 6, 2) := by decide +kernel
theorem dL_law__2274 : decode cL_law_ 2274 = .ok (.aload_n 2, 1) := by decide +kernel
theorem dL_law__2275 : decode cL_law_ 2275 = .ok (.invokevirtual 129, 3) := by decide +kernel
theorem dL_law__2278 : decode cL_law_ 2278 = .ok (.iload 5, 2) := by decide +kernel
theorem dL_law__2280 : decode cL_law_ 2280 = .ok (.if_icmp .eq 5, 3) := by decide +kernel
theorem dL_law__2283 : decode cL_law_ 2283 = .ok (.iconst 0, 1) := by decide +kernel
theorem dL_law__2284 : decode cL_law_ 2284 = .ok (.ireturn, 1) := by decide +kernel
theorem dL_law__2285 : decode cL_law_ 2285 = .ok (.iload 5, 2) := by decide +kernel
theorem dL_law__2287 : decode cL_law_ 2287 = .ok (.ifCond .ne 15, 3) := by decide +kernel
theorem dL_law__2290 : decode cL_law_ 2290 = .ok (.aload_n 3, 1) := by decide +kernel
theorem dL_law__2291 : decode cL_law_ 2291 = .ok (.iconst 0, 1) := by decide +kernel
theorem dL_law__2292 : decode cL_law_ 2292 = .ok (.laload, 1) := by decide +kernel
theorem dL_law__2293 : decode cL_law_ 2293 = .ok (.iload 6, 2) := by decide +kernel
theorem dL_law__2295 : decode cL_law_ 2295 = .ok (.i2l, 1) := by decide +kernel
theorem dL_law__2296 : decode cL_law_ 2296 = .ok (.lcmp, 1) := by decide +kernel
theorem dL_law__2297 : decode cL_law_ 2297 = .ok (.ifCond .eq 5, 3) := by decide +kernel
theorem dL_law__2300 : decode cL_law_ 2300 = .ok (.iconst 0, 1) := by decide +kernel
theorem dL_law__2301 : decode cL_law_ 2301 = .ok (.ireturn, 1) := by decide +kernel
theorem dL_law__2302 : decode cL_law_ 2302 = .ok (.goto 251, 3) := by decide +kernel
theorem dL_law__2305 : decode cL_law_ 2305 = .ok (.aload_n 1, 1) := by decide +kernel
theorem dL_law__2306 : decode cL_law_ 2306 = .ok (.aload_n 0, 1) := by decide +kernel
theorem dL_law__2307 : decode cL_law_ 2307 = .ok (.iload 4, 2) := by decide +kernel
theorem dL_law__2309 : decode cL_law_ 2309 = .ok (.iconst 1, 1) := by decide +kernel
theorem dL_law__2310 : decode cL_law_ 2310 = .ok (.iadd, 1) := by decide +kernel
theorem dL_law__2311 : decode cL_law_ 2311 = .ok (.iaload, 1) := by decide +kernel
theorem dL_law__2312 : decode cL_law_ 2312 = .ok (.aload_n 0, 1) := by decide +kernel
theorem dL_law__2313 : decode cL_law_ 2313 = .ok (.iload 4, 2) := by decide +kernel
theorem dL_law__2315 : decode cL_law_ 2315 = .ok (.iconst 2, 1) := by decide +kernel
theorem dL_law__2316 : decode cL_law_ 2316 = .ok (.iadd, 1) := by decide +kernel
theorem dL_law__2317 : decode cL_law_ 2317 = .ok (.iaload, 1) := by decide +kernel
theorem dL_law__2318 : decode cL_law_ 2318 = .ok (.aload_n 0, 1) := by decide +kernel
theorem dL_law__2319 : decode cL_law_ 2319 = .ok (.iload 4, 2) := by decide +kernel
theorem dL_law__2321 : decode cL_law_ 2321 = .ok (.iconst 3, 1) := by decide +kernel
theorem dL_law__2322 : decode cL_law_ 2322 = .ok (.iadd, 1) := by decide +kernel
theorem dL_law__2323 : decode cL_law_ 2323 = .ok (.iaload, 1) := by decide +kernel
theorem dL_law__2324 : decode cL_law_ 2324 = .ok (.aload_n 3, 1) := by decide +kernel
theorem dL_law__2325 : decode cL_law_ 2325 = .ok (.invokestatic 231, 3) := by decide +kernel
theorem dL_law__2328 : decode cL_law_ 2328 = .ok (.istore 5, 2) := by decide +kernel
theorem dL_law__2330 : decode cL_law_ 2330 = .ok (.aload_n 2, 1) := by decide +kernel
theorem dL_law__2331 : decode cL_law_ 2331 = .ok (.aload_n 0, 1) := by decide +kernel
theorem dL_law__2332 : decode cL_law_ 2332 = .ok (.iload 4, 2) := by decide +kernel
theorem dL_law__2334 : decode cL_law_ 2334 = .ok (.iconst 1, 1) := by decide +kernel
theorem dL_law__2335 : decode cL_law_ 2335 = .ok (.iadd, 1) := by decide +kernel
theorem dL_law__2336 : decode cL_law_ 2336 = .ok (.iaload, 1) := by decide +kernel
theorem dL_law__2337 : decode cL_law_ 2337 = .ok (.aload_n 0, 1) := by decide +kernel
theorem dL_law__2338 : decode cL_law_ 2338 = .ok (.iload 4, 2) := by decide +kernel
theorem dL_law__2340 : decode cL_law_ 2340 = .ok (.iconst 2, 1) := by decide +kernel
theorem dL_law__2341 : decode cL_law_ 2341 = .ok (.iadd, 1) := by decide +kernel
theorem dL_law__2342 : decode cL_law_ 2342 = .ok (.iaload, 1) := by decide +kernel
theorem dL_law__2343 : decode cL_law_ 2343 = .ok (.aload_n 0, 1) := by decide +kernel
theorem dL_law__2344 : decode cL_law_ 2344 = .ok (.iload 4, 2) := by decide +kernel
theorem dL_law__2346 : decode cL_law_ 2346 = .ok (.iconst 3, 1) := by decide +kernel
theorem dL_law__2347 : decode cL_law_ 2347 = .ok (.iadd, 1) := by decide +kernel
theorem dL_law__2348 : decode cL_law_ 2348 = .ok (.iaload, 1) := by decide +kernel
theorem dL_law__2349 : decode cL_law_ 2349 = .ok (.invokevirtual 233, 3) := by decide +kernel
theorem dL_law__2352 : decode cL_law_ 2352 = .ok (.istore 6, 2) := by decide +kernel
theorem dL_law__2354 : decode cL_law_ 2354 = .ok (.aload_n 2, 1) := by decide +kernel
theorem dL_law__2355 : decode cL_law_ 2355 = .ok (.invokevirtual 129, 3) := by decide +kernel
theorem dL_law__2358 : decode cL_law_ 2358 = .ok (.iload 5, 2) := by decide +kernel
theorem dL_law__2360 : decode cL_law_ 2360 = .ok (.if_icmp .eq 5, 3) := by decide +kernel
theorem dL_law__2363 : decode cL_law_ 2363 = .ok (.iconst 0, 1) := by decide +kernel
theorem dL_law__2364 : decode cL_law_ 2364 = .ok (.ireturn, 1) := by decide +kernel
theorem dL_law__2365 : decode cL_law_ 2365 = .ok (.iload 5, 2) := by decide +kernel
theorem dL_law__2367 : decode cL_law_ 2367 = .ok (.ifCond .ne 15, 3) := by decide +kernel
theorem dL_law__2370 : decode cL_law_ 2370 = .ok (.aload_n 3, 1) := by decide +kernel
theorem dL_law__2371 : decode cL_law_ 2371 = .ok (.iconst 0, 1) := by decide +kernel
theorem dL_law__2372 : decode cL_law_ 2372 = .ok (.laload, 1) := by decide +kernel
theorem dL_law__2373 : decode cL_law_ 2373 = .ok (.iload 6, 2) := by decide +kernel
theorem dL_law__2375 : decode cL_law_ 2375 = .ok (.i2l, 1) := by decide +kernel
theorem dL_law__2376 : decode cL_law_ 2376 = .ok (.lcmp, 1) := by decide +kernel
theorem dL_law__2377 : decode cL_law_ 2377 = .ok (.ifCond .eq 5, 3) := by decide +kernel
theorem dL_law__2380 : decode cL_law_ 2380 = .ok (.iconst 0, 1) := by decide +kernel
theorem dL_law__2381 : decode cL_law_ 2381 = .ok (.ireturn, 1) := by decide +kernel
theorem dL_law__2382 : decode cL_law_ 2382 = .ok (.goto 171, 3) := by decide +kernel
theorem dL_law__2385 : decode cL_law_ 2385 = .ok (.aload_n 1, 1) := by decide +kernel
theorem dL_law__2386 : decode cL_law_ 2386 = .ok (.aload_n 0, 1) := by decide +kernel
theorem dL_law__2387 : decode cL_law_ 2387 = .ok (.iload 4, 2) := by decide +kernel
theorem dL_law__2389 : decode cL_law_ 2389 = .ok (.iconst 1, 1) := by decide +kernel
theorem dL_law__2390 : decode cL_law_ 2390 = .ok (.iadd, 1) := by decide +kernel
theorem dL_law__2391 : decode cL_law_ 2391 = .ok (.iaload, 1) := by decide +kernel
theorem dL_law__2392 : decode cL_law_ 2392 = .ok (.aload_n 0, 1) := by decide +kernel
theorem dL_law__2393 : decode cL_law_ 2393 = .ok (.iload 4, 2) := by decide +kernel
theorem dL_law__2395 : decode cL_law_ 2395 = .ok (.iconst 2, 1) := by decide +kernel
theorem dL_law__2396 : decode cL_law_ 2396 = .ok (.iadd, 1) := by decide +kernel
theorem dL_law__2397 : decode cL_law_ 2397 = .ok (.iaload, 1) := by decide +kernel
theorem dL_law__2398 : decode cL_law_ 2398 = .ok (.aload_n 0, 1) := by decide +kernel
theorem dL_law__2399 : decode cL_law_ 2399 = .ok (.iload 4, 2) := by decide +kernel
theorem dL_law__2401 : decode cL_law_ 2401 = .ok (.iconst 3, 1) := by decide +kernel
theorem dL_law__2402 : decode cL_law_ 2402 = .ok (.iadd, 1) := by decide +kernel
theorem dL_law__2403 : decode cL_law_ 2403 = .ok (.iaload, 1) := by decide +kernel
theorem dL_law__2404 : decode cL_law_ 2404 = .ok (.aload_n 0, 1) := by decide +kernel
theorem dL_law__2405 : decode cL_law_ 2405 = .ok (.iload 4, 2) := by decide +kernel
theorem dL_law__2407 : decode cL_law_ 2407 = .ok (.iconst 4, 1) := by decide +kernel
theorem dL_law__2408 : decode cL_law_ 2408 = .ok (.iadd, 1) := by decide +kernel
theorem dL_law__2409 : decode cL_law_ 2409 = .ok (.iaload, 1) := by decide +kernel
theorem dL_law__2410 : decode cL_law_ 2410 = .ok (.aload_n 3, 1) := by decide +kernel
theorem dL_law__2411 : decode cL_law_ 2411 = .ok (.invokestatic 234, 3) := by decide +kernel
theorem dL_law__2414 : decode cL_law_ 2414 = .ok (.istore 5, 2) := by decide +kernel
theorem dL_law__2416 : decode cL_law_ 2416 = .ok (.aload_n 2, 1) := by decide +kernel
theorem dL_law__2417 : decode cL_law_ 2417 = .ok (.aload_n 0, 1) := by decide +kernel
theorem dL_law__2418 : decode cL_law_ 2418 = .ok (.iload 4, 2) := by decide +kernel
theorem dL_law__2420 : decode cL_law_ 2420 = .ok (.iconst 1, 1) := by decide +kernel
theorem dL_law__2421 : decode cL_law_ 2421 = .ok (.iadd, 1) := by decide +kernel
theorem dL_law__2422 : decode cL_law_ 2422 = .ok (.iaload, 1) := by decide +kernel
theorem dL_law__2423 : decode cL_law_ 2423 = .ok (.aload_n 0, 1) := by decide +kernel
theorem dL_law__2424 : decode cL_law_ 2424 = .ok (.iload 4, 2) := by decide +kernel
theorem dL_law__2426 : decode cL_law_ 2426 = .ok (.iconst 2, 1) := by decide +kernel
theorem dL_law__2427 : decode cL_law_ 2427 = .ok (.iadd, 1) := by decide +kernel
theorem dL_law__2428 : decode cL_law_ 2428 = .ok (.iaload, 1) := by decide +kernel
theorem dL_law__2429 : decode cL_law_ 2429 = .ok (.aload_n 0, 1) := by decide +kernel
theorem dL_law__2430 : decode cL_law_ 2430 = .ok (.iload 4, 2) := by decide +kernel
theorem dL_law__2432 : decode cL_law_ 2432 = .ok (.iconst 3, 1) := by decide +kernel
theorem dL_law__2433 : decode cL_law_ 2433 = .ok (.iadd, 1) := by decide +kernel
theorem dL_law__2434 : decode cL_law_ 2434 = .ok (.iaload, 1) := by decide +kernel
theorem dL_law__2435 : decode cL_law_ 2435 = .ok (.aload_n 0, 1) := by decide +kernel
theorem dL_law__2436 : decode cL_law_ 2436 = .ok (.iload 4, 2) := by decide +kernel
theorem dL_law__2438 : decode cL_law_ 2438 = .ok (.iconst 4, 1) := by decide +kernel
theorem dL_law__2439 : decode cL_law_ 2439 = .ok (.iadd, 1) := by decide +kernel
theorem dL_law__2440 : decode cL_law_ 2440 = .ok (.iaload, 1) := by decide +kernel
theorem dL_law__2441 : decode cL_law_ 2441 = .ok (.invokevirtual 237, 3) := by decide +kernel
theorem dL_law__2444 : decode cL_law_ 2444 = .ok (.istore 6, 2) := by decide +kernel
theorem dL_law__2446 : decode cL_law_ 2446 = .ok (.aload_n 2, 1) := by decide +kernel
theorem dL_law__2447 : decode cL_law_ 2447 = .ok (.invokevirtual 129, 3) := by decide +kernel
theorem dL_law__2450 : decode cL_law_ 2450 = .ok (.iload 5, 2) := by decide +kernel
theorem dL_law__2452 : decode cL_law_ 2452 = .ok (.if_icmp .eq 5, 3) := by decide +kernel
theorem dL_law__2455 : decode cL_law_ 2455 = .ok (.iconst 0, 1) := by decide +kernel
theorem dL_law__2456 : decode cL_law_ 2456 = .ok (.ireturn, 1) := by decide +kernel
theorem dL_law__2457 : decode cL_law_ 2457 = .ok (.iload 5, 2) := by decide +kernel
theorem dL_law__2459 : decode cL_law_ 2459 = .ok (.ifCond .ne 15, 3) := by decide +kernel
theorem dL_law__2462 : decode cL_law_ 2462 = .ok (.aload_n 3, 1) := by decide +kernel
theorem dL_law__2463 : decode cL_law_ 2463 = .ok (.iconst 0, 1) := by decide +kernel
theorem dL_law__2464 : decode cL_law_ 2464 = .ok (.laload, 1) := by decide +kernel
theorem dL_law__2465 : decode cL_law_ 2465 = .ok (.iload 6, 2) := by decide +kernel
theorem dL_law__2467 : decode cL_law_ 2467 = .ok (.i2l, 1) := by decide +kernel
theorem dL_law__2468 : decode cL_law_ 2468 = .ok (.lcmp, 1) := by decide +kernel
theorem dL_law__2469 : decode cL_law_ 2469 = .ok (.ifCond .eq 5, 3) := by decide +kernel
theorem dL_law__2472 : decode cL_law_ 2472 = .ok (.iconst 0, 1) := by decide +kernel
theorem dL_law__2473 : decode cL_law_ 2473 = .ok (.ireturn, 1) := by decide +kernel
theorem dL_law__2474 : decode cL_law_ 2474 = .ok (.goto 79, 3) := by decide +kernel
theorem dL_law__2477 : decode cL_law_ 2477 = .ok (.aload_n 1, 1) := by decide +kernel
theorem dL_law__2478 : decode cL_law_ 2478 = .ok (.invokevirtual 238, 3) := by decide +kernel
theorem dL_law__2481 : decode cL_law_ 2481 = .ok (.aload_n 2, 1) := by decide +kernel
theorem dL_law__2482 : decode cL_law_ 2482 = .ok (.invokevirtual 241, 3) := by decide +kernel
theorem dL_law__2485 : decode cL_law_ 2485 = .ok (.if_icmp .eq 68, 3) := by decide +kernel
theorem dL_law__2488 : decode cL_law_ 2488 = .ok (.iconst 0, 1) := by decide +kernel
theorem dL_law__2489 : decode cL_law_ 2489 = .ok (.ireturn, 1) := by decide +kernel
theorem dL_law__2490 : decode cL_law_ 2490 = .ok (.aload_n 1, 1) := by decide +kernel
theorem dL_law__2491 : decode cL_law_ 2491 = .ok (.invokevirtual 242, 3) := by decide +kernel
theorem dL_law__2494 : decode cL_law_ 2494 = .ok (.aload_n 2, 1) := by decide +kernel
theorem dL_law__2495 : decode cL_law_ 2495 = .ok (.invokevirtual 245, 3) := by decide +kernel
theorem dL_law__2498 : decode cL_law_ 2498 = .ok (.if_icmp .eq 55, 3) := by decide +kernel
theorem dL_law__2501 : decode cL_law_ 2501 = .ok (.iconst 0, 1) := by decide +kernel
theorem dL_law__2502 : decode cL_law_ 2502 = .ok (.ireturn, 1) := by decide +kernel
theorem dL_law__2503 : decode cL_law_ 2503 = .ok (.aload_n 1, 1) := by decide +kernel
theorem dL_law__2504 : decode cL_law_ 2504 = .ok (.aload_n 0, 1) := by decide +kernel
theorem dL_law__2505 : decode cL_law_ 2505 = .ok (.iload 4, 2) := by decide +kernel
theorem dL_law__2507 : decode cL_law_ 2507 = .ok (.iconst 1, 1) := by decide +kernel
theorem dL_law__2508 : decode cL_law_ 2508 = .ok (.iadd, 1) := by decide +kernel
theorem dL_law__2509 : decode cL_law_ 2509 = .ok (.iaload, 1) := by decide +kernel
theorem dL_law__2510 : decode cL_law_ 2510 = .ok (.invokevirtual 246, 3) := by decide +kernel
theorem dL_law__2513 : decode cL_law_ 2513 = .ok (.aload_n 2, 1) := by decide +kernel
theorem dL_law__2514 : decode cL_law_ 2514 = .ok (.aload_n 0, 1) := by decide +kernel
theorem dL_law__2515 : decode cL_law_ 2515 = .ok (.iload 4, 2) := by decide +kernel
theorem dL_law__2517 : decode cL_law_ 2517 = .ok (.iconst 1, 1) := by decide +kernel
theorem dL_law__2518 : decode cL_law_ 2518 = .ok (.iadd, 1) := by decide +kernel
theorem dL_law__2519 : decode cL_law_ 2519 = .ok (.iaload, 1) := by decide +kernel
theorem dL_law__2520 : decode cL_law_ 2520 = .ok (.invokevirtual 249, 3) := by decide +kernel
theorem dL_law__2523 : decode cL_law_ 2523 = .ok (.if_icmp .eq 30, 3) := by decide +kernel
theorem dL_law__2526 : decode cL_law_ 2526 = .ok (.iconst 0, 1) := by decide +kernel
theorem dL_law__2527 : decode cL_law_ 2527 = .ok (.ireturn, 1) := by decide +kernel
theorem dL_law__2528 : decode cL_law_ 2528 = .ok (.aload_n 1, 1) := by decide +kernel
theorem dL_law__2529 : decode cL_law_ 2529 = .ok (.aload_n 0, 1) := by decide +kernel
theorem dL_law__2530 : decode cL_law_ 2530 = .ok (.iload 4, 2) := by decide +kernel
theorem dL_law__2532 : decode cL_law_ 2532 = .ok (.iconst 1, 1) := by decide +kernel
theorem dL_law__2533 : decode cL_law_ 2533 = .ok (.iadd, 1) := by decide +kernel
theorem dL_law__2534 : decode cL_law_ 2534 = .ok (.iaload, 1) := by decide +kernel
theorem dL_law__2535 : decode cL_law_ 2535 = .ok (.invokevirtual 250, 3) := by decide +kernel
theorem dL_law__2538 : decode cL_law_ 2538 = .ok (.aload_n 2, 1) := by decide +kernel
theorem dL_law__2539 : decode cL_law_ 2539 = .ok (.aload_n 0, 1) := by decide +kernel
theorem dL_law__2540 : decode cL_law_ 2540 = .ok (.iload 4, 2) := by decide +kernel
theorem dL_law__2542 : decode cL_law_ 2542 = .ok (.iconst 1, 1) := by decide +kernel
theorem dL_law__2543 : decode cL_law_ 2543 = .ok (.iadd, 1) := by decide +kernel
theorem dL_law__2544 : decode cL_law_ 2544 = .ok (.iaload, 1) := by decide +kernel
theorem dL_law__2545 : decode cL_law_ 2545 = .ok (.invokevirtual 253, 3) := by decide +kernel
theorem dL_law__2548 : decode cL_law_ 2548 = .ok (.if_icmp .eq 5, 3) := by decide +kernel
theorem dL_law__2551 : decode cL_law_ 2551 = .ok (.iconst 0, 1) := by decide +kernel
theorem dL_law__2552 : decode cL_law_ 2552 = .ok (.ireturn, 1) := by decide +kernel
theorem dL_law__2553 : decode cL_law_ 2553 = .ok (.iinc 4 7, 3) := by decide +kernel
theorem dL_law__2556 : decode cL_law_ 2556 = .ok (.goto (-2533), 3) := by decide +kernel
theorem dL_law__2559 : decode cL_law_ 2559 = .ok (.iconst 1, 1) := by decide +kernel
theorem dL_law__2560 : decode cL_law_ 2560 = .ok (.ireturn, 1) := by decide +kernel
