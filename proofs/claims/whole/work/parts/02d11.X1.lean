theorem dX1_canPut_28 : decode cX1_canPut 28 = .ok (.ifCond .eq 16, 3) := by decide +kernel
theorem dX1_canPut_31 : decode cX1_canPut 31 = .ok (.aload_n 0, 1) := by decide +kernel
theorem dX1_canPut_32 : decode cX1_canPut 32 = .ok (.iload_n 1, 1) := by decide +kernel
theorem dX1_canPut_33 : decode cX1_canPut 33 = .ok (.iload_n 2, 1) := by decide +kernel
theorem dX1_canPut_34 : decode cX1_canPut 34 = .ok (.invokevirtual 112, 3) := by decide +kernel
theorem dX1_canPut_37 : decode cX1_canPut 37 = .ok (.ifCond .eq 7, 3) := by decide +kernel
theorem dX1_canPut_40 : decode cX1_canPut 40 = .ok (.iconst 1, 1) := by decide +kernel
theorem dX1_canPut_41 : decode cX1_canPut 41 = .ok (.goto 4, 3) := by decide +kernel
theorem dX1_canPut_44 : decode cX1_canPut 44 = .ok (.iconst 0, 1) := by decide +kernel
theorem dX1_canPut_45 : decode cX1_canPut 45 = .ok (.ireturn, 1) := by decide +kernel
theorem dX1_placeFor_0 : decode cX1_placeFor 0 = .ok (.aload_n 0, 1) := by decide +kernel
theorem dX1_placeFor_1 : decode cX1_placeFor 1 = .ok (.iload_n 1, 1) := by decide +kernel
theorem dX1_placeFor_2 : decode cX1_placeFor 2 = .ok (.invokevirtual 66, 3) := by decide +kernel
theorem dX1_placeFor_5 : decode cX1_placeFor 5 = .ok (.ifCond .ne 5, 3) := by decide +kernel
theorem dX1_placeFor_8 : decode cX1_placeFor 8 = .ok (.iconst 0, 1) := by decide +kernel
theorem dX1_placeFor_9 : decode cX1_placeFor 9 = .ok (.ireturn, 1) := by decide +kernel
theorem dX1_placeFor_10 : decode cX1_placeFor 10 = .ok (.iconst (-1), 1) := by decide +kernel
theorem dX1_placeFor_11 : decode cX1_placeFor 11 = .ok (.istore_n 2, 1) := by decide +kernel
theorem dX1_placeFor_12 : decode cX1_placeFor 12 = .ok (.bipush 47, 2) := by decide +kernel
theorem dX1_placeFor_14 : decode cX1_placeFor 14 = .ok (.istore_n 3, 1) := by decide +kernel
theorem dX1_placeFor_15 : decode cX1_placeFor 15 = .ok (.iload_n 3, 1) := by decide +kernel
theorem dX1_placeFor_16 : decode cX1_placeFor 16 = .ok (.ifCond .lt 24, 3) := by decide +kernel
theorem dX1_placeFor_19 : decode cX1_placeFor 19 = .ok (.aload_n 0, 1) := by decide +kernel
theorem dX1_placeFor_20 : decode cX1_placeFor 20 = .ok (.iload_n 1, 1) := by decide +kernel
theorem dX1_placeFor_21 : decode cX1_placeFor 21 = .ok (.iload_n 3, 1) := by decide +kernel
theorem dX1_placeFor_22 : decode cX1_placeFor 22 = .ok (.invokevirtual 112, 3) := by decide +kernel
theorem dX1_placeFor_25 : decode cX1_placeFor 25 = .ok (.ifCond .eq 7, 3) := by decide +kernel
theorem dX1_placeFor_28 : decode cX1_placeFor 28 = .ok (.iload_n 3, 1) := by decide +kernel
theorem dX1_placeFor_29 : decode cX1_placeFor 29 = .ok (.goto 4, 3) := by decide +kernel
theorem dX1_placeFor_32 : decode cX1_placeFor 32 = .ok (.iload_n 2, 1) := by decide +kernel
theorem dX1_placeFor_33 : decode cX1_placeFor 33 = .ok (.istore_n 2, 1) := by decide +kernel
theorem dX1_placeFor_34 : decode cX1_placeFor 34 = .ok (.iinc 3 (-1), 3) := by decide +kernel
theorem dX1_placeFor_37 : decode cX1_placeFor 37 = .ok (.goto (-22), 3) := by decide +kernel
theorem dX1_placeFor_40 : decode cX1_placeFor 40 = .ok (.iload_n 2, 1) := by decide +kernel
theorem dX1_placeFor_41 : decode cX1_placeFor 41 = .ok (.ireturn, 1) := by decide +kernel
theorem dX1_count_0 : decode cX1_count 0 = .ok (.iconst 0, 1) := by decide +kernel
theorem dX1_count_1 : decode cX1_count 1 = .ok (.istore_n 1, 1) := by decide +kernel
theorem dX1_count_2 : decode cX1_count 2 = .ok (.iload_n 0, 1) := by decide +kernel
theorem dX1_count_3 : decode cX1_count 3 = .ok (.istore_n 2, 1) := by decide +kernel
theorem dX1_count_4 : decode cX1_count 4 = .ok (.iload_n 2, 1) := by decide +kernel
theorem dX1_count_5 : decode cX1_count 5 = .ok (.ifCond .le 16, 3) := by decide +kernel
theorem dX1_count_8 : decode cX1_count 8 = .ok (.iload_n 1, 1) := by decide +kernel
theorem dX1_count_9 : decode cX1_count 9 = .ok (.iload_n 2, 1) := by decide +kernel
theorem dX1_count_10 : decode cX1_count 10 = .ok (.iconst 2, 1) := by decide +kernel
theorem dX1_count_11 : decode cX1_count 11 = .ok (.irem, 1) := by decide +kernel
theorem dX1_count_12 : decode cX1_count 12 = .ok (.iadd, 1) := by decide +kernel
theorem dX1_count_13 : decode cX1_count 13 = .ok (.istore_n 1, 1) := by decide +kernel
theorem dX1_count_14 : decode cX1_count 14 = .ok (.iload_n 2, 1) := by decide +kernel
theorem dX1_count_15 : decode cX1_count 15 = .ok (.iconst 2, 1) := by decide +kernel
theorem dX1_count_16 : decode cX1_count 16 = .ok (.idiv, 1) := by decide +kernel
theorem dX1_count_17 : decode cX1_count 17 = .ok (.istore_n 2, 1) := by decide +kernel
theorem dX1_count_18 : decode cX1_count 18 = .ok (.goto (-14), 3) := by decide +kernel
theorem dX1_count_21 : decode cX1_count 21 = .ok (.iload_n 1, 1) := by decide +kernel
theorem dX1_count_22 : decode cX1_count 22 = .ok (.ireturn, 1) := by decide +kernel
theorem dX1_least_0 : decode cX1_least 0 = .ok (.aload_n 0, 1) := by decide +kernel
theorem dX1_least_1 : decode cX1_least 1 = .ok (.invokevirtual 102, 3) := by decide +kernel
theorem dX1_least_4 : decode cX1_least 4 = .ok (.aload_n 0, 1) := by decide +kernel
theorem dX1_least_5 : decode cX1_least 5 = .ok (.invokevirtual 105, 3) := by decide +kernel
theorem dX1_least_8 : decode cX1_least 8 = .ok (.istore_n 1, 1) := by decide +kernel
theorem dX1_least_9 : decode cX1_least 9 = .ok (.iconst 0, 1) := by decide +kernel
theorem dX1_least_10 : decode cX1_least 10 = .ok (.istore_n 2, 1) := by decide +kernel
theorem dX1_least_11 : decode cX1_least 11 = .ok (.iconst 0, 1) := by decide +kernel
theorem dX1_least_12 : decode cX1_least 12 = .ok (.istore_n 3, 1) := by decide +kernel
theorem dX1_least_13 : decode cX1_least 13 = .ok (.iload_n 3, 1) := by decide +kernel
theorem dX1_least_14 : decode cX1_least 14 = .ok (.aload_n 0, 1) := by decide +kernel
theorem dX1_least_15 : decode cX1_least 15 = .ok (.getfield 46, 3) := by decide +kernel
theorem dX1_least_18 : decode cX1_least 18 = .ok (.if_icmp .ge 29, 3) := by decide +kernel
theorem dX1_least_21 : decode cX1_least 21 = .ok (.iload_n 2, 1) := by decide +kernel
theorem dX1_least_22 : decode cX1_least 22 = .ok (.aload_n 0, 1) := by decide +kernel
theorem dX1_least_23 : decode cX1_least 23 = .ok (.getfield 32, 3) := by decide +kernel
theorem dX1_least_26 : decode cX1_least 26 = .ok (.iload_n 3, 1) := by decide +kernel
theorem dX1_least_27 : decode cX1_least 27 = .ok (.iaload, 1) := by decide +kernel
theorem dX1_least_28 : decode cX1_least 28 = .ok (.iconst (-1), 1) := by decide +kernel
theorem dX1_least_29 : decode cX1_least 29 = .ok (.if_icmp .eq 9, 3) := by decide +kernel
theorem dX1_least_32 : decode cX1_least 32 = .ok (.iconst 1, 1) := by decide +kernel
theorem dX1_least_33 : decode cX1_least 33 = .ok (.iload_n 3, 1) := by decide +kernel
theorem dX1_least_34 : decode cX1_least 34 = .ok (.ishl, 1) := by decide +kernel
theorem dX1_least_35 : decode cX1_least 35 = .ok (.goto 4, 3) := by decide +kernel
theorem dX1_least_38 : decode cX1_least 38 = .ok (.iconst 0, 1) := by decide +kernel
theorem dX1_least_39 : decode cX1_least 39 = .ok (.ior, 1) := by decide +kernel
theorem dX1_least_40 : decode cX1_least 40 = .ok (.istore_n 2, 1) := by decide +kernel
theorem dX1_least_41 : decode cX1_least 41 = .ok (.iinc 3 1, 3) := by decide +kernel
theorem dX1_least_44 : decode cX1_least 44 = .ok (.goto (-31), 3) := by decide +kernel
theorem dX1_least_47 : decode cX1_least 47 = .ok (.iload_n 2, 1) := by decide +kernel
theorem dX1_least_48 : decode cX1_least 48 = .ok (.istore_n 3, 1) := by decide +kernel
theorem dX1_least_49 : decode cX1_least 49 = .ok (.iload_n 2, 1) := by decide +kernel
theorem dX1_least_50 : decode cX1_least 50 = .ok (.invokestatic 115, 3) := by decide +kernel
theorem dX1_least_53 : decode cX1_least 53 = .ok (.istore 4, 2) := by decide +kernel
theorem dX1_least_55 : decode cX1_least 55 = .ok (.iload_n 2, 1) := by decide +kernel
theorem dX1_least_56 : decode cX1_least 56 = .ok (.istore 5, 2) := by decide +kernel
theorem dX1_least_58 : decode cX1_least 58 = .ok (.iload 5, 2) := by decide +kernel
theorem dX1_least_60 : decode cX1_least 60 = .ok (.ifCond .le 44, 3) := by decide +kernel
theorem dX1_least_63 : decode cX1_least 63 = .ok (.aload_n 0, 1) := by decide +kernel
theorem dX1_least_64 : decode cX1_least 64 = .ok (.iload 5, 2) := by decide +kernel
theorem dX1_least_66 : decode cX1_least 66 = .ok (.iload_n 1, 1) := by decide +kernel
theorem dX1_least_67 : decode cX1_least 67 = .ok (.invokevirtual 109, 3) := by decide +kernel
theorem dX1_least_70 : decode cX1_least 70 = .ok (.ifCond .eq 23, 3) := by decide +kernel
theorem dX1_least_73 : decode cX1_least 73 = .ok (.iload 5, 2) := by decide +kernel
theorem dX1_least_75 : decode cX1_least 75 = .ok (.invokestatic 115, 3) := by decide +kernel
theorem dX1_least_78 : decode cX1_least 78 = .ok (.iload 4, 2) := by decide +kernel
theorem dX1_least_80 : decode cX1_least 80 = .ok (.if_icmp .gt 13, 3) := by decide +kernel
theorem dX1_least_83 : decode cX1_least 83 = .ok (.iload 5, 2) := by decide +kernel
theorem dX1_least_85 : decode cX1_least 85 = .ok (.istore_n 3, 1) := by decide +kernel
theorem dX1_least_86 : decode cX1_least 86 = .ok (.iload 5, 2) := by decide +kernel
theorem dX1_least_88 : decode cX1_least 88 = .ok (.invokestatic 115, 3) := by decide +kernel
theorem dX1_least_91 : decode cX1_least 91 = .ok (.istore 4, 2) := by decide +kernel
theorem dX1_least_93 : decode cX1_least 93 = .ok (.iload 5, 2) := by decide +kernel
theorem dX1_least_95 : decode cX1_least 95 = .ok (.iconst 1, 1) := by decide +kernel
theorem dX1_least_96 : decode cX1_least 96 = .ok (.isub, 1) := by decide +kernel
theorem dX1_least_97 : decode cX1_least 97 = .ok (.iload_n 2, 1) := by decide +kernel
theorem dX1_least_98 : decode cX1_least 98 = .ok (.iand, 1) := by decide +kernel
theorem dX1_least_99 : decode cX1_least 99 = .ok (.istore 5, 2) := by decide +kernel
theorem dX1_least_101 : decode cX1_least 101 = .ok (.goto (-43), 3) := by decide +kernel
theorem dX1_least_104 : decode cX1_least 104 = .ok (.aload_n 0, 1) := by decide +kernel
theorem dX1_least_105 : decode cX1_least 105 = .ok (.iconst 0, 1) := by decide +kernel
theorem dX1_least_106 : decode cX1_least 106 = .ok (.iload_n 1, 1) := by decide +kernel
theorem dX1_least_107 : decode cX1_least 107 = .ok (.invokevirtual 109, 3) := by decide +kernel
theorem dX1_least_110 : decode cX1_least 110 = .ok (.ifCond .eq 7, 3) := by decide +kernel
theorem dX1_least_113 : decode cX1_least 113 = .ok (.iconst 0, 1) := by decide +kernel
theorem dX1_least_114 : decode cX1_least 114 = .ok (.goto 4, 3) := by decide +kernel
theorem dX1_least_117 : decode cX1_least 117 = .ok (.iload_n 3, 1) := by decide +kernel
theorem dX1_least_118 : decode cX1_least 118 = .ok (.ireturn, 1) := by decide +kernel
theorem dX1_fewest_0 : decode cX1_fewest 0 = .ok (.aload_n 0, 1) := by decide +kernel
theorem dX1_fewest_1 : decode cX1_fewest 1 = .ok (.iconst 0, 1) := by decide +kernel
theorem dX1_fewest_2 : decode cX1_fewest 2 = .ok (.putfield 38, 3) := by decide +kernel
theorem dX1_fewest_5 : decode cX1_fewest 5 = .ok (.aload_n 0, 1) := by decide +kernel
theorem dX1_fewest_6 : decode cX1_fewest 6 = .ok (.invokevirtual 118, 3) := by decide +kernel
theorem dX1_fewest_9 : decode cX1_fewest 9 = .ok (.invokestatic 115, 3) := by decide +kernel
theorem dX1_fewest_12 : decode cX1_fewest 12 = .ok (.ireturn, 1) := by decide +kernel
theorem dX1_leaving_0 : decode cX1_leaving 0 = .ok (.aload_n 0, 1) := by decide +kernel
theorem dX1_leaving_1 : decode cX1_leaving 1 = .ok (.iconst 0, 1) := by decide +kernel
theorem dX1_leaving_2 : decode cX1_leaving 2 = .ok (.putfield 38, 3) := by decide +kernel
theorem dX1_leaving_5 : decode cX1_leaving 5 = .ok (.aload_n 0, 1) := by decide +kernel
theorem dX1_leaving_6 : decode cX1_leaving 6 = .ok (.invokevirtual 118, 3) := by decide +kernel
theorem dX1_leaving_9 : decode cX1_leaving 9 = .ok (.ireturn, 1) := by decide +kernel
