theorem dL_setDistance_0 : decode cL_setDistance 0 = .ok (.aload 4, 2) := by decide +kernel
theorem dL_setDistance_2 : decode cL_setDistance 2 = .ok (.iconst 0, 1) := by decide +kernel
theorem dL_setDistance_3 : decode cL_setDistance 3 = .ok (.aload_n 0, 1) := by decide +kernel
theorem dL_setDistance_4 : decode cL_setDistance 4 = .ok (.iload_n 1, 1) := by decide +kernel
theorem dL_setDistance_5 : decode cL_setDistance 5 = .ok (.iload_n 2, 1) := by decide +kernel
theorem dL_setDistance_6 : decode cL_setDistance 6 = .ok (.iload_n 3, 1) := by decide +kernel
theorem dL_setDistance_7 : decode cL_setDistance 7 = .ok (.invokevirtual 7, 3) := by decide +kernel
theorem dL_setDistance_10 : decode cL_setDistance 10 = .ok (.i2l, 1) := by decide +kernel
theorem dL_setDistance_11 : decode cL_setDistance 11 = .ok (.lastore, 1) := by decide +kernel
theorem dL_setDistance_12 : decode cL_setDistance 12 = .ok (.goto 7, 3) := by decide +kernel
theorem dL_setDistance_15 : decode cL_setDistance 15 = .ok (.astore 5, 2) := by decide +kernel
theorem dL_setDistance_17 : decode cL_setDistance 17 = .ok (.iconst 1, 1) := by decide +kernel
theorem dL_setDistance_18 : decode cL_setDistance 18 = .ok (.ireturn, 1) := by decide +kernel
theorem dL_setDistance_19 : decode cL_setDistance 19 = .ok (.iconst 0, 1) := by decide +kernel
theorem dL_setDistance_20 : decode cL_setDistance 20 = .ok (.ireturn, 1) := by decide +kernel
theorem dL_setQuantities_0 : decode cL_setQuantities 0 = .ok (.aload_n 0, 1) := by decide +kernel
theorem dL_setQuantities_1 : decode cL_setQuantities 1 = .ok (.iload_n 1, 1) := by decide +kernel
theorem dL_setQuantities_2 : decode cL_setQuantities 2 = .ok (.iload_n 2, 1) := by decide +kernel
theorem dL_setQuantities_3 : decode cL_setQuantities 3 = .ok (.iload_n 3, 1) := by decide +kernel
theorem dL_setQuantities_4 : decode cL_setQuantities 4 = .ok (.invokevirtual 15, 3) := by decide +kernel
theorem dL_setQuantities_7 : decode cL_setQuantities 7 = .ok (.goto 7, 3) := by decide +kernel
theorem dL_setQuantities_10 : decode cL_setQuantities 10 = .ok (.astore 4, 2) := by decide +kernel
theorem dL_setQuantities_12 : decode cL_setQuantities 12 = .ok (.iconst 1, 1) := by decide +kernel
theorem dL_setQuantities_13 : decode cL_setQuantities 13 = .ok (.ireturn, 1) := by decide +kernel
theorem dL_setQuantities_14 : decode cL_setQuantities 14 = .ok (.iconst 0, 1) := by decide +kernel
theorem dL_setQuantities_15 : decode cL_setQuantities 15 = .ok (.ireturn, 1) := by decide +kernel
theorem dL_bar_0 : decode cL_bar 0 = .ok (.aload 4, 2) := by decide +kernel
theorem dL_bar_2 : decode cL_bar 2 = .ok (.iconst 0, 1) := by decide +kernel
theorem dL_bar_3 : decode cL_bar 3 = .ok (.aload_n 0, 1) := by decide +kernel
theorem dL_bar_4 : decode cL_bar 4 = .ok (.iload_n 1, 1) := by decide +kernel
theorem dL_bar_5 : decode cL_bar 5 = .ok (.iload_n 2, 1) := by decide +kernel
theorem dL_bar_6 : decode cL_bar 6 = .ok (.iload_n 3, 1) := by decide +kernel
theorem dL_bar_7 : decode cL_bar 7 = .ok (.invokevirtual 19, 3) := by decide +kernel
theorem dL_bar_10 : decode cL_bar 10 = .ok (.ifCond .eq 7, 3) := by decide +kernel
theorem dL_bar_13 : decode cL_bar 13 = .ok (.lconst 1, 1) := by decide +kernel
theorem dL_bar_14 : decode cL_bar 14 = .ok (.goto 4, 3) := by decide +kernel
theorem dL_bar_17 : decode cL_bar 17 = .ok (.lconst 0, 1) := by decide +kernel
theorem dL_bar_18 : decode cL_bar 18 = .ok (.lastore, 1) := by decide +kernel
theorem dL_bar_19 : decode cL_bar 19 = .ok (.goto 7, 3) := by decide +kernel
theorem dL_bar_22 : decode cL_bar 22 = .ok (.astore 5, 2) := by decide +kernel
theorem dL_bar_24 : decode cL_bar 24 = .ok (.iconst 1, 1) := by decide +kernel
theorem dL_bar_25 : decode cL_bar 25 = .ok (.ireturn, 1) := by decide +kernel
theorem dL_bar_26 : decode cL_bar 26 = .ok (.iconst 0, 1) := by decide +kernel
theorem dL_bar_27 : decode cL_bar 27 = .ok (.ireturn, 1) := by decide +kernel
theorem dL_distance_0 : decode cL_distance 0 = .ok (.aload_n 3, 1) := by decide +kernel
theorem dL_distance_1 : decode cL_distance 1 = .ok (.iconst 0, 1) := by decide +kernel
theorem dL_distance_2 : decode cL_distance 2 = .ok (.aload_n 0, 1) := by decide +kernel
theorem dL_distance_3 : decode cL_distance 3 = .ok (.iload_n 1, 1) := by decide +kernel
theorem dL_distance_4 : decode cL_distance 4 = .ok (.iload_n 2, 1) := by decide +kernel
theorem dL_distance_5 : decode cL_distance 5 = .ok (.invokevirtual 23, 3) := by decide +kernel
theorem dL_distance_8 : decode cL_distance 8 = .ok (.i2l, 1) := by decide +kernel
theorem dL_distance_9 : decode cL_distance 9 = .ok (.lastore, 1) := by decide +kernel
theorem dL_distance_10 : decode cL_distance 10 = .ok (.goto 7, 3) := by decide +kernel
theorem dL_distance_13 : decode cL_distance 13 = .ok (.astore 4, 2) := by decide +kernel
theorem dL_distance_15 : decode cL_distance 15 = .ok (.iconst 1, 1) := by decide +kernel
theorem dL_distance_16 : decode cL_distance 16 = .ok (.ireturn, 1) := by decide +kernel
theorem dL_distance_17 : decode cL_distance 17 = .ok (.iconst 0, 1) := by decide +kernel
theorem dL_distance_18 : decode cL_distance 18 = .ok (.ireturn, 1) := by decide +kernel
theorem dL_add_0 : decode cL_add 0 = .ok (.aload 4, 2) := by decide +kernel
theorem dL_add_2 : decode cL_add 2 = .ok (.iconst 0, 1) := by decide +kernel
theorem dL_add_3 : decode cL_add 3 = .ok (.aload_n 0, 1) := by decide +kernel
theorem dL_add_4 : decode cL_add 4 = .ok (.iload_n 1, 1) := by decide +kernel
theorem dL_add_5 : decode cL_add 5 = .ok (.iload_n 2, 1) := by decide +kernel
theorem dL_add_6 : decode cL_add 6 = .ok (.iload_n 3, 1) := by decide +kernel
theorem dL_add_7 : decode cL_add 7 = .ok (.invokevirtual 27, 3) := by decide +kernel
theorem dL_add_10 : decode cL_add 10 = .ok (.i2l, 1) := by decide +kernel
theorem dL_add_11 : decode cL_add 11 = .ok (.lastore, 1) := by decide +kernel
theorem dL_add_12 : decode cL_add 12 = .ok (.goto 11, 3) := by decide +kernel
theorem dL_add_15 : decode cL_add 15 = .ok (.astore 5, 2) := by decide +kernel
theorem dL_add_17 : decode cL_add 17 = .ok (.iconst 1, 1) := by decide +kernel
theorem dL_add_18 : decode cL_add 18 = .ok (.ireturn, 1) := by decide +kernel
theorem dL_add_19 : decode cL_add 19 = .ok (.astore 5, 2) := by decide +kernel
theorem dL_add_21 : decode cL_add 21 = .ok (.iconst 2, 1) := by decide +kernel
theorem dL_add_22 : decode cL_add 22 = .ok (.ireturn, 1) := by decide +kernel
theorem dL_add_23 : decode cL_add 23 = .ok (.iconst 0, 1) := by decide +kernel
theorem dL_add_24 : decode cL_add 24 = .ok (.ireturn, 1) := by decide +kernel
theorem dL_setQuantity_0 : decode cL_setQuantity 0 = .ok (.aload_n 3, 1) := by decide +kernel
theorem dL_setQuantity_1 : decode cL_setQuantity 1 = .ok (.iconst 0, 1) := by decide +kernel
theorem dL_setQuantity_2 : decode cL_setQuantity 2 = .ok (.aload_n 0, 1) := by decide +kernel
theorem dL_setQuantity_3 : decode cL_setQuantity 3 = .ok (.iload_n 1, 1) := by decide +kernel
theorem dL_setQuantity_4 : decode cL_setQuantity 4 = .ok (.iload_n 2, 1) := by decide +kernel
theorem dL_setQuantity_5 : decode cL_setQuantity 5 = .ok (.invokevirtual 32, 3) := by decide +kernel
theorem dL_setQuantity_8 : decode cL_setQuantity 8 = .ok (.i2l, 1) := by decide +kernel
theorem dL_setQuantity_9 : decode cL_setQuantity 9 = .ok (.lastore, 1) := by decide +kernel
theorem dL_setQuantity_10 : decode cL_setQuantity 10 = .ok (.goto 11, 3) := by decide +kernel
theorem dL_setQuantity_13 : decode cL_setQuantity 13 = .ok (.astore 4, 2) := by decide +kernel
theorem dL_setQuantity_15 : decode cL_setQuantity 15 = .ok (.iconst 1, 1) := by decide +kernel
theorem dL_setQuantity_16 : decode cL_setQuantity 16 = .ok (.ireturn, 1) := by decide +kernel
theorem dL_setQuantity_17 : decode cL_setQuantity 17 = .ok (.astore 4, 2) := by decide +kernel
theorem dL_setQuantity_19 : decode cL_setQuantity 19 = .ok (.iconst 2, 1) := by decide +kernel
theorem dL_setQuantity_20 : decode cL_setQuantity 20 = .ok (.ireturn, 1) := by decide +kernel
theorem dL_setQuantity_21 : decode cL_setQuantity 21 = .ok (.iconst 0, 1) := by decide +kernel
theorem dL_setQuantity_22 : decode cL_setQuantity 22 = .ok (.ireturn, 1) := by decide +kernel
theorem dL_put_0 : decode cL_put 0 = .ok (.aload_n 3, 1) := by decide +kernel
theorem dL_put_1 : decode cL_put 1 = .ok (.iconst 0, 1) := by decide +kernel
theorem dL_put_2 : decode cL_put 2 = .ok (.aload_n 0, 1) := by decide +kernel
theorem dL_put_3 : decode cL_put 3 = .ok (.iload_n 1, 1) := by decide +kernel
theorem dL_put_4 : decode cL_put 4 = .ok (.iload_n 2, 1) := by decide +kernel
theorem dL_put_5 : decode cL_put 5 = .ok (.invokevirtual 37, 3) := by decide +kernel
theorem dL_put_8 : decode cL_put 8 = .ok (.i2l, 1) := by decide +kernel
theorem dL_put_9 : decode cL_put 9 = .ok (.lastore, 1) := by decide +kernel
theorem dL_put_10 : decode cL_put 10 = .ok (.goto 11, 3) := by decide +kernel
theorem dL_put_13 : decode cL_put 13 = .ok (.astore 4, 2) := by decide +kernel
theorem dL_put_15 : decode cL_put 15 = .ok (.iconst 1, 1) := by decide +kernel
theorem dL_put_16 : decode cL_put 16 = .ok (.ireturn, 1) := by decide +kernel
theorem dL_put_17 : decode cL_put 17 = .ok (.astore 4, 2) := by decide +kernel
theorem dL_put_19 : decode cL_put 19 = .ok (.iconst 2, 1) := by decide +kernel
theorem dL_put_20 : decode cL_put 20 = .ok (.ireturn, 1) := by decide +kernel
theorem dL_put_21 : decode cL_put 21 = .ok (.iconst 0, 1) := by decide +kernel
theorem dL_put_22 : decode cL_put 22 = .ok (.ireturn, 1) := by decide +kernel
theorem dL_placeOf_0 : decode cL_placeOf 0 = .ok (.aload_n 2, 1) := by decide +kernel
theorem dL_placeOf_1 : decode cL_placeOf 1 = .ok (.iconst 0, 1) := by decide +kernel
theorem dL_placeOf_2 : decode cL_placeOf 2 = .ok (.aload_n 0, 1) := by decide +kernel
theorem dL_placeOf_3 : decode cL_placeOf 3 = .ok (.iload_n 1, 1) := by decide +kernel
theorem dL_placeOf_4 : decode cL_placeOf 4 = .ok (.invokevirtual 40, 3) := by decide +kernel
theorem dL_placeOf_7 : decode cL_placeOf 7 = .ok (.i2l, 1) := by decide +kernel
theorem dL_placeOf_8 : decode cL_placeOf 8 = .ok (.lastore, 1) := by decide +kernel
theorem dL_placeOf_9 : decode cL_placeOf 9 = .ok (.goto 6, 3) := by decide +kernel
theorem dL_placeOf_12 : decode cL_placeOf 12 = .ok (.astore_n 3, 1) := by decide +kernel
theorem dL_placeOf_13 : decode cL_placeOf 13 = .ok (.iconst 1, 1) := by decide +kernel
theorem dL_placeOf_14 : decode cL_placeOf 14 = .ok (.ireturn, 1) := by decide +kernel
theorem dL_placeOf_15 : decode cL_placeOf 15 = .ok (.iconst 0, 1) := by decide +kernel
theorem dL_placeOf_16 : decode cL_placeOf 16 = .ok (.ireturn, 1) := by decide +kernel
theorem dL_isLimited_0 : decode cL_isLimited 0 = .ok (.aload_n 2, 1) := by decide +kernel
theorem dL_isLimited_1 : decode cL_isLimited 1 = .ok (.iconst 0, 1) := by decide +kernel
theorem dL_isLimited_2 : decode cL_isLimited 2 = .ok (.aload_n 0, 1) := by decide +kernel
theorem dL_isLimited_3 : decode cL_isLimited 3 = .ok (.iload_n 1, 1) := by decide +kernel
theorem dL_isLimited_4 : decode cL_isLimited 4 = .ok (.invokevirtual 44, 3) := by decide +kernel
theorem dL_isLimited_7 : decode cL_isLimited 7 = .ok (.ifCond .eq 7, 3) := by decide +kernel
theorem dL_isLimited_10 : decode cL_isLimited 10 = .ok (.lconst 1, 1) := by decide +kernel
theorem dL_isLimited_11 : decode cL_isLimited 11 = .ok (.goto 4, 3) := by decide +kernel
theorem dL_isLimited_14 : decode cL_isLimited 14 = .ok (.lconst 0, 1) := by decide +kernel
theorem dL_isLimited_15 : decode cL_isLimited 15 = .ok (.lastore, 1) := by decide +kernel
theorem dL_isLimited_16 : decode cL_isLimited 16 = .ok (.goto 6, 3) := by decide +kernel
theorem dL_isLimited_19 : decode cL_isLimited 19 = .ok (.astore_n 3, 1) := by decide +kernel
theorem dL_isLimited_20 : decode cL_isLimited 20 = .ok (.iconst 1, 1) := by decide +kernel
theorem dL_isLimited_21 : decode cL_isLimited 21 = .ok (.ireturn, 1) := by decide +kernel
theorem dL_isLimited_22 : decode cL_isLimited 22 = .ok (.iconst 0, 1) := by decide +kernel
theorem dL_isLimited_23 : decode cL_isLimited 23 = .ok (.ireturn, 1) := by decide +kernel
theorem dL_isExcepted_0 : decode cL_isExcepted 0 = .ok (.aload_n 2, 1) := by decide +kernel
theorem dL_isExcepted_1 : decode cL_isExcepted 1 = .ok (.iconst 0, 1) := by decide +kernel
theorem dL_isExcepted_2 : decode cL_isExcepted 2 = .ok (.aload_n 0, 1) := by decide +kernel
theorem dL_isExcepted_3 : decode cL_isExcepted 3 = .ok (.iload_n 1, 1) := by decide +kernel
theorem dL_isExcepted_4 : decode cL_isExcepted 4 = .ok (.invokevirtual 48, 3) := by decide +kernel
theorem dL_isExcepted_7 : decode cL_isExcepted 7 = .ok (.ifCond .eq 7, 3) := by decide +kernel
theorem dL_isExcepted_10 : decode cL_isExcepted 10 = .ok (.lconst 1, 1) := by decide +kernel
theorem dL_isExcepted_11 : decode cL_isExcepted 11 = .ok (.goto 4, 3) := by decide +kernel
theorem dL_isExcepted_14 : decode cL_isExcepted 14 = .ok (.lconst 0, 1) := by decide +kernel
theorem dL_isExcepted_15 : decode cL_isExcepted 15 = .ok (.lastore, 1) := by decide +kernel
theorem dL_isExcepted_16 : decode cL_isExcepted 16 = .ok (.goto 6, 3) := by decide +kernel
theorem dL_isExcepted_19 : decode cL_isExcepted 19 = .ok (.astore_n 3, 1) := by decide +kernel
theorem dL_isExcepted_20 : decode cL_isExcepted 20 = .ok (.iconst 1, 1) := by decide +kernel
theorem dL_isExcepted_21 : decode cL_isExcepted 21 = .ok (.ireturn, 1) := by decide +kernel
theorem dL_isExcepted_22 : decode cL_isExcepted 22 = .ok (.iconst 0, 1) := by decide +kernel
theorem dL_isExcepted_23 : decode cL_isExcepted 23 = .ok (.ireturn, 1) := by decide +kernel
theorem dL_need_0 : decode cL_need 0 = .ok (.aload_n 3, 1) := by decide +kernel
theorem dL_need_1 : decode cL_need 1 = .ok (.iconst 0, 1) := by decide +kernel
theorem dL_need_2 : decode cL_need 2 = .ok (.aload_n 0, 1) := by decide +kernel
theorem dL_need_3 : decode cL_need 3 = .ok (.iload_n 1, 1) := by decide +kernel
theorem dL_need_4 : decode cL_need 4 = .ok (.iload_n 2, 1) := by decide +kernel
theorem dL_need_5 : decode cL_need 5 = .ok (.invokevirtual 51, 3) := by decide +kernel
theorem dL_need_8 : decode cL_need 8 = .ok (.i2l, 1) := by decide +kernel
theorem dL_need_9 : decode cL_need 9 = .ok (.lastore, 1) := by decide +kernel
theorem dL_need_10 : decode cL_need 10 = .ok (.goto 11, 3) := by decide +kernel
theorem dL_need_13 : decode cL_need 13 = .ok (.astore 4, 2) := by decide +kernel
theorem dL_need_15 : decode cL_need 15 = .ok (.iconst 1, 1) := by decide +kernel
theorem dL_need_16 : decode cL_need 16 = .ok (.ireturn, 1) := by decide +kernel
theorem dL_need_17 : decode cL_need 17 = .ok (.astore 4, 2) := by decide +kernel
theorem dL_need_19 : decode cL_need 19 = .ok (.iconst 2, 1) := by decide +kernel
theorem dL_need_20 : decode cL_need 20 = .ok (.ireturn, 1) := by decide +kernel
theorem dL_need_21 : decode cL_need 21 = .ok (.iconst 0, 1) := by decide +kernel
theorem dL_need_22 : decode cL_need 22 = .ok (.ireturn, 1) := by decide +kernel
theorem dL_areInBreach_0 : decode cL_areInBreach 0 = .ok (.aload_n 3, 1) := by decide +kernel
theorem dL_areInBreach_1 : decode cL_areInBreach 1 = .ok (.iconst 0, 1) := by decide +kernel
theorem dL_areInBreach_2 : decode cL_areInBreach 2 = .ok (.aload_n 0, 1) := by decide +kernel
theorem dL_areInBreach_3 : decode cL_areInBreach 3 = .ok (.iload_n 1, 1) := by decide +kernel
theorem dL_areInBreach_4 : decode cL_areInBreach 4 = .ok (.iload_n 2, 1) := by decide +kernel
theorem dL_areInBreach_5 : decode cL_areInBreach 5 = .ok (.invokevirtual 54, 3) := by decide +kernel
theorem dL_areInBreach_8 : decode cL_areInBreach 8 = .ok (.ifCond .eq 7, 3) := by decide +kernel
theorem dL_areInBreach_11 : decode cL_areInBreach 11 = .ok (.lconst 1, 1) := by decide +kernel
theorem dL_areInBreach_12 : decode cL_areInBreach 12 = .ok (.goto 4, 3) := by decide +kernel
theorem dL_areInBreach_15 : decode cL_areInBreach 15 = .ok (.lconst 0, 1) := by decide +kernel
theorem dL_areInBreach_16 : decode cL_areInBreach 16 = .ok (.lastore, 1) := by decide +kernel
theorem dL_areInBreach_17 : decode cL_areInBreach 17 = .ok (.goto 11, 3) := by decide +kernel
theorem dL_areInBreach_20 : decode cL_areInBreach 20 = .ok (.astore 4, 2) := by decide +kernel
theorem dL_areInBreach_22 : decode cL_areInBreach 22 = .ok (.iconst 1, 1) := by decide +kernel
theorem dL_areInBreach_23 : decode cL_areInBreach 23 = .ok (.ireturn, 1) := by decide +kernel
theorem dL_areInBreach_24 : decode cL_areInBreach 24 = .ok (.astore 4, 2) := by decide +kernel
theorem dL_areInBreach_26 : decode cL_areInBreach 26 = .ok (.iconst 2, 1) := by decide +kernel
theorem dL_areInBreach_27 : decode cL_areInBreach 27 = .ok (.ireturn, 1) := by decide +kernel
theorem dL_areInBreach_28 : decode cL_areInBreach 28 = .ok (.iconst 0, 1) := by decide +kernel
theorem dL_areInBreach_29 : decode cL_areInBreach 29 = .ok (.ireturn, 1) := by decide +kernel
theorem dL_isMisplaced_0 : decode cL_isMisplaced 0 = .ok (.aload_n 2, 1) := by decide +kernel
theorem dL_isMisplaced_1 : decode cL_isMisplaced 1 = .ok (.iconst 0, 1) := by decide +kernel
theorem dL_isMisplaced_2 : decode cL_isMisplaced 2 = .ok (.aload_n 0, 1) := by decide +kernel
theorem dL_isMisplaced_3 : decode cL_isMisplaced 3 = .ok (.iload_n 1, 1) := by decide +kernel
theorem dL_isMisplaced_4 : decode cL_isMisplaced 4 = .ok (.invokevirtual 58, 3) := by decide +kernel
theorem dL_isMisplaced_7 : decode cL_isMisplaced 7 = .ok (.ifCond .eq 7, 3) := by decide +kernel
theorem dL_isMisplaced_10 : decode cL_isMisplaced 10 = .ok (.lconst 1, 1) := by decide +kernel
theorem dL_isMisplaced_11 : decode cL_isMisplaced 11 = .ok (.goto 4, 3) := by decide +kernel
theorem dL_isMisplaced_14 : decode cL_isMisplaced 14 = .ok (.lconst 0, 1) := by decide +kernel
theorem dL_isMisplaced_15 : decode cL_isMisplaced 15 = .ok (.lastore, 1) := by decide +kernel
theorem dL_isMisplaced_16 : decode cL_isMisplaced 16 = .ok (.goto 6, 3) := by decide +kernel
theorem dL_isMisplaced_19 : decode cL_isMisplaced 19 = .ok (.astore_n 3, 1) := by decide +kernel
theorem dL_isMisplaced_20 : decode cL_isMisplaced 20 = .ok (.iconst 1, 1) := by decide +kernel
theorem dL_isMisplaced_21 : decode cL_isMisplaced 21 = .ok (.ireturn, 1) := by decide +kernel
theorem dL_isMisplaced_22 : decode cL_isMisplaced 22 = .ok (.iconst 0, 1) := by decide +kernel
theorem dL_isMisplaced_23 : decode cL_isMisplaced 23 = .ok (.ireturn, 1) := by decide +kernel
theorem dL_inBreachWith_0 : decode cL_inBreachWith 0 = .ok (.aload_n 2, 1) := by decide +kernel
theorem dL_inBreachWith_1 : decode cL_inBreachWith 1 = .ok (.iconst 0, 1) := by decide +kernel
theorem dL_inBreachWith_2 : decode cL_inBreachWith 2 = .ok (.aload_n 0, 1) := by decide +kernel
theorem dL_inBreachWith_3 : decode cL_inBreachWith 3 = .ok (.iload_n 1, 1) := by decide +kernel
theorem dL_inBreachWith_4 : decode cL_inBreachWith 4 = .ok (.invokevirtual 61, 3) := by decide +kernel
theorem dL_inBreachWith_7 : decode cL_inBreachWith 7 = .ok (.i2l, 1) := by decide +kernel
theorem dL_inBreachWith_8 : decode cL_inBreachWith 8 = .ok (.lastore, 1) := by decide +kernel
theorem dL_inBreachWith_9 : decode cL_inBreachWith 9 = .ok (.goto 6, 3) := by decide +kernel
theorem dL_inBreachWith_12 : decode cL_inBreachWith 12 = .ok (.astore_n 3, 1) := by decide +kernel
theorem dL_inBreachWith_13 : decode cL_inBreachWith 13 = .ok (.iconst 1, 1) := by decide +kernel
theorem dL_inBreachWith_14 : decode cL_inBreachWith 14 = .ok (.ireturn, 1) := by decide +kernel
theorem dL_inBreachWith_15 : decode cL_inBreachWith 15 = .ok (.iconst 0, 1) := by decide +kernel
theorem dL_inBreachWith_16 : decode cL_inBreachWith 16 = .ok (.ireturn, 1) := by decide +kernel
theorem dL_canPut_0 : decode cL_canPut 0 = .ok (.aload_n 3, 1) := by decide +kernel
theorem dL_canPut_1 : decode cL_canPut 1 = .ok (.iconst 0, 1) := by decide +kernel
theorem dL_canPut_2 : decode cL_canPut 2 = .ok (.aload_n 0, 1) := by decide +kernel
theorem dL_canPut_3 : decode cL_canPut 3 = .ok (.iload_n 1, 1) := by decide +kernel
theorem dL_canPut_4 : decode cL_canPut 4 = .ok (.iload_n 2, 1) := by decide +kernel
theorem dL_canPut_5 : decode cL_canPut 5 = .ok (.invokevirtual 64, 3) := by decide +kernel
theorem dL_canPut_8 : decode cL_canPut 8 = .ok (.ifCond .eq 7, 3) := by decide +kernel
theorem dL_canPut_11 : decode cL_canPut 11 = .ok (.lconst 1, 1) := by decide +kernel
theorem dL_canPut_12 : decode cL_canPut 12 = .ok (.goto 4, 3) := by decide +kernel
theorem dL_canPut_15 : decode cL_canPut 15 = .ok (.lconst 0, 1) := by decide +kernel
theorem dL_canPut_16 : decode cL_canPut 16 = .ok (.lastore, 1) := by decide +kernel
theorem dL_canPut_17 : decode cL_canPut 17 = .ok (.goto 11, 3) := by decide +kernel
theorem dL_canPut_20 : decode cL_canPut 20 = .ok (.astore 4, 2) := by decide +kernel
theorem dL_canPut_22 : decode cL_canPut 22 = .ok (.iconst 1, 1) := by decide +kernel
theorem dL_canPut_23 : decode cL_canPut 23 = .ok (.ireturn, 1) := by decide +kernel
theorem dL_canPut_24 : decode cL_canPut 24 = .ok (.astore 4, 2) := by decide +kernel
theorem dL_canPut_26 : decode cL_canPut 26 = .ok (.iconst 2, 1) := by decide +kernel
theorem dL_canPut_27 : decode cL_canPut 27 = .ok (.ireturn, 1) := by decide +kernel
theorem dL_canPut_28 : decode cL_canPut 28 = .ok (.iconst 0, 1) := by decide +kernel
theorem dL_canPut_29 : decode cL_canPut 29 = .ok (.ireturn, 1) := by decide +kernel
theorem dL_placeFor_0 : decode cL_placeFor 0 = .ok (.aload_n 2, 1) := by decide +kernel
theorem dL_placeFor_1 : decode cL_placeFor 1 = .ok (.iconst 0, 1) := by decide +kernel
theorem dL_placeFor_2 : decode cL_placeFor 2 = .ok (.aload_n 0, 1) := by decide +kernel
theorem dL_placeFor_3 : decode cL_placeFor 3 = .ok (.iload_n 1, 1) := by decide +kernel
theorem dL_placeFor_4 : decode cL_placeFor 4 = .ok (.invokevirtual 67, 3) := by decide +kernel
theorem dL_placeFor_7 : decode cL_placeFor 7 = .ok (.i2l, 1) := by decide +kernel
theorem dL_placeFor_8 : decode cL_placeFor 8 = .ok (.lastore, 1) := by decide +kernel
theorem dL_placeFor_9 : decode cL_placeFor 9 = .ok (.goto 6, 3) := by decide +kernel
theorem dL_placeFor_12 : decode cL_placeFor 12 = .ok (.astore_n 3, 1) := by decide +kernel
theorem dL_placeFor_13 : decode cL_placeFor 13 = .ok (.iconst 1, 1) := by decide +kernel
theorem dL_placeFor_14 : decode cL_placeFor 14 = .ok (.ireturn, 1) := by decide +kernel
theorem dL_placeFor_15 : decode cL_placeFor 15 = .ok (.iconst 0, 1) := by decide +kernel
theorem dL_placeFor_16 : decode cL_placeFor 16 = .ok (.ireturn, 1) := by decide +kernel
