theorem dX1_isLimited_8 : decode cX1_isLimited 8 = .ok (.aload_n 0, 1) := by decide +kernel
theorem dX1_isLimited_9 : decode cX1_isLimited 9 = .ok (.iload_n 1, 1) := by decide +kernel
theorem dX1_isLimited_10 : decode cX1_isLimited 10 = .ok (.invokevirtual 76, 3) := by decide +kernel
theorem dX1_isLimited_13 : decode cX1_isLimited 13 = .ok (.ifCond .eq 7, 3) := by decide +kernel
theorem dX1_isLimited_16 : decode cX1_isLimited 16 = .ok (.iconst 1, 1) := by decide +kernel
theorem dX1_isLimited_17 : decode cX1_isLimited 17 = .ok (.goto 4, 3) := by decide +kernel
theorem dX1_isLimited_20 : decode cX1_isLimited 20 = .ok (.iconst 0, 1) := by decide +kernel
theorem dX1_isLimited_21 : decode cX1_isLimited 21 = .ok (.ireturn, 1) := by decide +kernel
theorem dX1_isExcepted_0 : decode cX1_isExcepted 0 = .ok (.aload_n 0, 1) := by decide +kernel
theorem dX1_isExcepted_1 : decode cX1_isExcepted 1 = .ok (.iload_n 1, 1) := by decide +kernel
theorem dX1_isExcepted_2 : decode cX1_isExcepted 2 = .ok (.invokevirtual 66, 3) := by decide +kernel
theorem dX1_isExcepted_5 : decode cX1_isExcepted 5 = .ok (.ifCond .eq 15, 3) := by decide +kernel
theorem dX1_isExcepted_8 : decode cX1_isExcepted 8 = .ok (.aload_n 0, 1) := by decide +kernel
theorem dX1_isExcepted_9 : decode cX1_isExcepted 9 = .ok (.iload_n 1, 1) := by decide +kernel
theorem dX1_isExcepted_10 : decode cX1_isExcepted 10 = .ok (.invokevirtual 73, 3) := by decide +kernel
theorem dX1_isExcepted_13 : decode cX1_isExcepted 13 = .ok (.ifCond .eq 7, 3) := by decide +kernel
theorem dX1_isExcepted_16 : decode cX1_isExcepted 16 = .ok (.iconst 1, 1) := by decide +kernel
theorem dX1_isExcepted_17 : decode cX1_isExcepted 17 = .ok (.goto 4, 3) := by decide +kernel
theorem dX1_isExcepted_20 : decode cX1_isExcepted 20 = .ok (.iconst 0, 1) := by decide +kernel
theorem dX1_isExcepted_21 : decode cX1_isExcepted 21 = .ok (.ireturn, 1) := by decide +kernel
theorem dX1_ofTable_0 : decode cX1_ofTable 0 = .ok (.iload_n 1, 1) := by decide +kernel
theorem dX1_ofTable_1 : decode cX1_ofTable 1 = .ok (.iconst (-1), 1) := by decide +kernel
theorem dX1_ofTable_2 : decode cX1_ofTable 2 = .ok (.if_icmp .eq 8, 3) := by decide +kernel
theorem dX1_ofTable_5 : decode cX1_ofTable 5 = .ok (.iload_n 2, 1) := by decide +kernel
theorem dX1_ofTable_6 : decode cX1_ofTable 6 = .ok (.iconst (-1), 1) := by decide +kernel
theorem dX1_ofTable_7 : decode cX1_ofTable 7 = .ok (.if_icmp .ne 7, 3) := by decide +kernel
theorem dX1_ofTable_10 : decode cX1_ofTable 10 = .ok (.iconst 0, 1) := by decide +kernel
theorem dX1_ofTable_11 : decode cX1_ofTable 11 = .ok (.goto 14, 3) := by decide +kernel
theorem dX1_ofTable_14 : decode cX1_ofTable 14 = .ok (.aload_n 0, 1) := by decide +kernel
theorem dX1_ofTable_15 : decode cX1_ofTable 15 = .ok (.getfield 7, 3) := by decide +kernel
theorem dX1_ofTable_18 : decode cX1_ofTable 18 = .ok (.bipush 10, 2) := by decide +kernel
theorem dX1_ofTable_20 : decode cX1_ofTable 20 = .ok (.iload_n 1, 1) := by decide +kernel
theorem dX1_ofTable_21 : decode cX1_ofTable 21 = .ok (.imul, 1) := by decide +kernel
theorem dX1_ofTable_22 : decode cX1_ofTable 22 = .ok (.iload_n 2, 1) := by decide +kernel
theorem dX1_ofTable_23 : decode cX1_ofTable 23 = .ok (.iadd, 1) := by decide +kernel
theorem dX1_ofTable_24 : decode cX1_ofTable 24 = .ok (.iaload, 1) := by decide +kernel
theorem dX1_ofTable_25 : decode cX1_ofTable 25 = .ok (.ireturn, 1) := by decide +kernel
theorem dX1_greater_0 : decode cX1_greater 0 = .ok (.iload_n 0, 1) := by decide +kernel
theorem dX1_greater_1 : decode cX1_greater 1 = .ok (.iload_n 1, 1) := by decide +kernel
theorem dX1_greater_2 : decode cX1_greater 2 = .ok (.if_icmp .le 7, 3) := by decide +kernel
theorem dX1_greater_5 : decode cX1_greater 5 = .ok (.iload_n 0, 1) := by decide +kernel
theorem dX1_greater_6 : decode cX1_greater 6 = .ok (.goto 4, 3) := by decide +kernel
theorem dX1_greater_9 : decode cX1_greater 9 = .ok (.iload_n 1, 1) := by decide +kernel
theorem dX1_greater_10 : decode cX1_greater 10 = .ok (.ireturn, 1) := by decide +kernel
theorem dX1_needs_0 : decode cX1_needs 0 = .ok (.aload_n 0, 1) := by decide +kernel
theorem dX1_needs_1 : decode cX1_needs 1 = .ok (.aload_n 0, 1) := by decide +kernel
theorem dX1_needs_2 : decode cX1_needs 2 = .ok (.getfield 23, 3) := by decide +kernel
theorem dX1_needs_5 : decode cX1_needs 5 = .ok (.iload_n 1, 1) := by decide +kernel
theorem dX1_needs_6 : decode cX1_needs 6 = .ok (.iaload, 1) := by decide +kernel
theorem dX1_needs_7 : decode cX1_needs 7 = .ok (.aload_n 0, 1) := by decide +kernel
theorem dX1_needs_8 : decode cX1_needs 8 = .ok (.getfield 23, 3) := by decide +kernel
theorem dX1_needs_11 : decode cX1_needs 11 = .ok (.iload_n 2, 1) := by decide +kernel
theorem dX1_needs_12 : decode cX1_needs 12 = .ok (.iaload, 1) := by decide +kernel
theorem dX1_needs_13 : decode cX1_needs 13 = .ok (.invokevirtual 79, 3) := by decide +kernel
theorem dX1_needs_16 : decode cX1_needs 16 = .ok (.aload_n 0, 1) := by decide +kernel
theorem dX1_needs_17 : decode cX1_needs 17 = .ok (.aload_n 0, 1) := by decide +kernel
theorem dX1_needs_18 : decode cX1_needs 18 = .ok (.getfield 23, 3) := by decide +kernel
theorem dX1_needs_21 : decode cX1_needs 21 = .ok (.iload_n 1, 1) := by decide +kernel
theorem dX1_needs_22 : decode cX1_needs 22 = .ok (.iaload, 1) := by decide +kernel
theorem dX1_needs_23 : decode cX1_needs 23 = .ok (.aload_n 0, 1) := by decide +kernel
theorem dX1_needs_24 : decode cX1_needs 24 = .ok (.getfield 26, 3) := by decide +kernel
theorem dX1_needs_27 : decode cX1_needs 27 = .ok (.iload_n 2, 1) := by decide +kernel
theorem dX1_needs_28 : decode cX1_needs 28 = .ok (.iaload, 1) := by decide +kernel
theorem dX1_needs_29 : decode cX1_needs 29 = .ok (.invokevirtual 79, 3) := by decide +kernel
theorem dX1_needs_32 : decode cX1_needs 32 = .ok (.invokestatic 82, 3) := by decide +kernel
theorem dX1_needs_35 : decode cX1_needs 35 = .ok (.istore_n 3, 1) := by decide +kernel
theorem dX1_needs_36 : decode cX1_needs 36 = .ok (.aload_n 0, 1) := by decide +kernel
theorem dX1_needs_37 : decode cX1_needs 37 = .ok (.aload_n 0, 1) := by decide +kernel
theorem dX1_needs_38 : decode cX1_needs 38 = .ok (.getfield 26, 3) := by decide +kernel
theorem dX1_needs_41 : decode cX1_needs 41 = .ok (.iload_n 1, 1) := by decide +kernel
theorem dX1_needs_42 : decode cX1_needs 42 = .ok (.iaload, 1) := by decide +kernel
theorem dX1_needs_43 : decode cX1_needs 43 = .ok (.aload_n 0, 1) := by decide +kernel
theorem dX1_needs_44 : decode cX1_needs 44 = .ok (.getfield 23, 3) := by decide +kernel
theorem dX1_needs_47 : decode cX1_needs 47 = .ok (.iload_n 2, 1) := by decide +kernel
theorem dX1_needs_48 : decode cX1_needs 48 = .ok (.iaload, 1) := by decide +kernel
theorem dX1_needs_49 : decode cX1_needs 49 = .ok (.invokevirtual 79, 3) := by decide +kernel
theorem dX1_needs_52 : decode cX1_needs 52 = .ok (.aload_n 0, 1) := by decide +kernel
theorem dX1_needs_53 : decode cX1_needs 53 = .ok (.aload_n 0, 1) := by decide +kernel
theorem dX1_needs_54 : decode cX1_needs 54 = .ok (.getfield 26, 3) := by decide +kernel
theorem dX1_needs_57 : decode cX1_needs 57 = .ok (.iload_n 1, 1) := by decide +kernel
theorem dX1_needs_58 : decode cX1_needs 58 = .ok (.iaload, 1) := by decide +kernel
theorem dX1_needs_59 : decode cX1_needs 59 = .ok (.aload_n 0, 1) := by decide +kernel
theorem dX1_needs_60 : decode cX1_needs 60 = .ok (.getfield 26, 3) := by decide +kernel
theorem dX1_needs_63 : decode cX1_needs 63 = .ok (.iload_n 2, 1) := by decide +kernel
theorem dX1_needs_64 : decode cX1_needs 64 = .ok (.iaload, 1) := by decide +kernel
theorem dX1_needs_65 : decode cX1_needs 65 = .ok (.invokevirtual 79, 3) := by decide +kernel
theorem dX1_needs_68 : decode cX1_needs 68 = .ok (.invokestatic 82, 3) := by decide +kernel
theorem dX1_needs_71 : decode cX1_needs 71 = .ok (.istore 4, 2) := by decide +kernel
theorem dX1_needs_73 : decode cX1_needs 73 = .ok (.iload_n 3, 1) := by decide +kernel
theorem dX1_needs_74 : decode cX1_needs 74 = .ok (.iload 4, 2) := by decide +kernel
theorem dX1_needs_76 : decode cX1_needs 76 = .ok (.invokestatic 82, 3) := by decide +kernel
theorem dX1_needs_79 : decode cX1_needs 79 = .ok (.istore 5, 2) := by decide +kernel
theorem dX1_needs_81 : decode cX1_needs 81 = .ok (.aload_n 0, 1) := by decide +kernel
theorem dX1_needs_82 : decode cX1_needs 82 = .ok (.iload_n 1, 1) := by decide +kernel
theorem dX1_needs_83 : decode cX1_needs 83 = .ok (.invokevirtual 73, 3) := by decide +kernel
theorem dX1_needs_86 : decode cX1_needs 86 = .ok (.ifCond .ne 11, 3) := by decide +kernel
theorem dX1_needs_89 : decode cX1_needs 89 = .ok (.aload_n 0, 1) := by decide +kernel
theorem dX1_needs_90 : decode cX1_needs 90 = .ok (.iload_n 2, 1) := by decide +kernel
theorem dX1_needs_91 : decode cX1_needs 91 = .ok (.invokevirtual 73, 3) := by decide +kernel
theorem dX1_needs_94 : decode cX1_needs 94 = .ok (.ifCond .eq 5, 3) := by decide +kernel
theorem dX1_needs_97 : decode cX1_needs 97 = .ok (.iconst 0, 1) := by decide +kernel
theorem dX1_needs_98 : decode cX1_needs 98 = .ok (.ireturn, 1) := by decide +kernel
theorem dX1_needs_99 : decode cX1_needs 99 = .ok (.iload 5, 2) := by decide +kernel
theorem dX1_needs_101 : decode cX1_needs 101 = .ok (.ifCond .le 26, 3) := by decide +kernel
theorem dX1_needs_104 : decode cX1_needs 104 = .ok (.aload_n 0, 1) := by decide +kernel
theorem dX1_needs_105 : decode cX1_needs 105 = .ok (.iload_n 1, 1) := by decide +kernel
theorem dX1_needs_106 : decode cX1_needs 106 = .ok (.invokevirtual 76, 3) := by decide +kernel
theorem dX1_needs_109 : decode cX1_needs 109 = .ok (.ifCond .ne 11, 3) := by decide +kernel
theorem dX1_needs_112 : decode cX1_needs 112 = .ok (.aload_n 0, 1) := by decide +kernel
theorem dX1_needs_113 : decode cX1_needs 113 = .ok (.iload_n 2, 1) := by decide +kernel
theorem dX1_needs_114 : decode cX1_needs 114 = .ok (.invokevirtual 76, 3) := by decide +kernel
theorem dX1_needs_117 : decode cX1_needs 117 = .ok (.ifCond .eq 10, 3) := by decide +kernel
theorem dX1_needs_120 : decode cX1_needs 120 = .ok (.iload 5, 2) := by decide +kernel
theorem dX1_needs_122 : decode cX1_needs 122 = .ok (.iconst 1, 1) := by decide +kernel
theorem dX1_needs_123 : decode cX1_needs 123 = .ok (.isub, 1) := by decide +kernel
theorem dX1_needs_124 : decode cX1_needs 124 = .ok (.goto 5, 3) := by decide +kernel
theorem dX1_needs_127 : decode cX1_needs 127 = .ok (.iload 5, 2) := by decide +kernel
theorem dX1_needs_129 : decode cX1_needs 129 = .ok (.ireturn, 1) := by decide +kernel
theorem dX1_asksTwo_0 : decode cX1_asksTwo 0 = .ok (.aload_n 0, 1) := by decide +kernel
theorem dX1_asksTwo_1 : decode cX1_asksTwo 1 = .ok (.aload_n 0, 1) := by decide +kernel
theorem dX1_asksTwo_2 : decode cX1_asksTwo 2 = .ok (.iload_n 1, 1) := by decide +kernel
theorem dX1_asksTwo_3 : decode cX1_asksTwo 3 = .ok (.invokevirtual 63, 3) := by decide +kernel
theorem dX1_asksTwo_6 : decode cX1_asksTwo 6 = .ok (.ifCond .eq 11, 3) := by decide +kernel
theorem dX1_asksTwo_9 : decode cX1_asksTwo 9 = .ok (.aload_n 0, 1) := by decide +kernel
theorem dX1_asksTwo_10 : decode cX1_asksTwo 10 = .ok (.iload_n 2, 1) := by decide +kernel
theorem dX1_asksTwo_11 : decode cX1_asksTwo 11 = .ok (.invokevirtual 63, 3) := by decide +kernel
theorem dX1_asksTwo_14 : decode cX1_asksTwo 14 = .ok (.ifCond .ne 7, 3) := by decide +kernel
theorem dX1_asksTwo_17 : decode cX1_asksTwo 17 = .ok (.iconst 1, 1) := by decide +kernel
theorem dX1_asksTwo_18 : decode cX1_asksTwo 18 = .ok (.goto 13, 3) := by decide +kernel
theorem dX1_asksTwo_21 : decode cX1_asksTwo 21 = .ok (.iload_n 1, 1) := by decide +kernel
theorem dX1_asksTwo_22 : decode cX1_asksTwo 22 = .ok (.iload_n 2, 1) := by decide +kernel
theorem dX1_asksTwo_23 : decode cX1_asksTwo 23 = .ok (.if_icmp .ne 7, 3) := by decide +kernel
theorem dX1_asksTwo_26 : decode cX1_asksTwo 26 = .ok (.iconst 2, 1) := by decide +kernel
theorem dX1_asksTwo_27 : decode cX1_asksTwo 27 = .ok (.goto 4, 3) := by decide +kernel
theorem dX1_asksTwo_30 : decode cX1_asksTwo 30 = .ok (.iconst 0, 1) := by decide +kernel
theorem dX1_asksTwo_31 : decode cX1_asksTwo 31 = .ok (.invokevirtual 53, 3) := by decide +kernel
theorem dX1_asksTwo_34 : decode cX1_asksTwo 34 = .ok (.ireturn, 1) := by decide +kernel
theorem dX1_need_0 : decode cX1_need 0 = .ok (.aload_n 0, 1) := by decide +kernel
theorem dX1_need_1 : decode cX1_need 1 = .ok (.iload_n 1, 1) := by decide +kernel
theorem dX1_need_2 : decode cX1_need 2 = .ok (.iload_n 2, 1) := by decide +kernel
theorem dX1_need_3 : decode cX1_need 3 = .ok (.invokevirtual 85, 3) := by decide +kernel
theorem dX1_need_6 : decode cX1_need 6 = .ok (.ifCond .eq 12, 3) := by decide +kernel
theorem dX1_need_9 : decode cX1_need 9 = .ok (.aload_n 0, 1) := by decide +kernel
theorem dX1_need_10 : decode cX1_need 10 = .ok (.iload_n 1, 1) := by decide +kernel
theorem dX1_need_11 : decode cX1_need 11 = .ok (.iload_n 2, 1) := by decide +kernel
theorem dX1_need_12 : decode cX1_need 12 = .ok (.invokevirtual 89, 3) := by decide +kernel
theorem dX1_need_15 : decode cX1_need 15 = .ok (.goto 4, 3) := by decide +kernel
theorem dX1_need_18 : decode cX1_need 18 = .ok (.iconst 0, 1) := by decide +kernel
theorem dX1_need_19 : decode cX1_need 19 = .ok (.ireturn, 1) := by decide +kernel
theorem dX1_areFoes_0 : decode cX1_areFoes 0 = .ok (.iload_n 1, 1) := by decide +kernel
theorem dX1_areFoes_1 : decode cX1_areFoes 1 = .ok (.iload_n 2, 1) := by decide +kernel
theorem dX1_areFoes_2 : decode cX1_areFoes 2 = .ok (.if_icmp .eq 36, 3) := by decide +kernel
theorem dX1_areFoes_5 : decode cX1_areFoes 5 = .ok (.aload_n 0, 1) := by decide +kernel
theorem dX1_areFoes_6 : decode cX1_areFoes 6 = .ok (.getfield 32, 3) := by decide +kernel
theorem dX1_areFoes_9 : decode cX1_areFoes 9 = .ok (.iload_n 2, 1) := by decide +kernel
theorem dX1_areFoes_10 : decode cX1_areFoes 10 = .ok (.iaload, 1) := by decide +kernel
theorem dX1_areFoes_11 : decode cX1_areFoes 11 = .ok (.iconst (-1), 1) := by decide +kernel
theorem dX1_areFoes_12 : decode cX1_areFoes 12 = .ok (.if_icmp .eq 26, 3) := by decide +kernel
theorem dX1_areFoes_15 : decode cX1_areFoes 15 = .ok (.iload_n 3, 1) := by decide +kernel
theorem dX1_areFoes_16 : decode cX1_areFoes 16 = .ok (.aload_n 0, 1) := by decide +kernel
theorem dX1_areFoes_17 : decode cX1_areFoes 17 = .ok (.getfield 32, 3) := by decide +kernel
theorem dX1_areFoes_20 : decode cX1_areFoes 20 = .ok (.iload_n 2, 1) := by decide +kernel
theorem dX1_areFoes_21 : decode cX1_areFoes 21 = .ok (.iaload, 1) := by decide +kernel
theorem dX1_areFoes_22 : decode cX1_areFoes 22 = .ok (.invokestatic 59, 3) := by decide +kernel
theorem dX1_areFoes_25 : decode cX1_areFoes 25 = .ok (.aload_n 0, 1) := by decide +kernel
theorem dX1_areFoes_26 : decode cX1_areFoes 26 = .ok (.iload_n 1, 1) := by decide +kernel
theorem dX1_areFoes_27 : decode cX1_areFoes 27 = .ok (.iload_n 2, 1) := by decide +kernel
theorem dX1_areFoes_28 : decode cX1_areFoes 28 = .ok (.invokevirtual 89, 3) := by decide +kernel
theorem dX1_areFoes_31 : decode cX1_areFoes 31 = .ok (.if_icmp .ge 7, 3) := by decide +kernel
theorem dX1_areFoes_34 : decode cX1_areFoes 34 = .ok (.iconst 1, 1) := by decide +kernel
theorem dX1_areFoes_35 : decode cX1_areFoes 35 = .ok (.goto 4, 3) := by decide +kernel
theorem dX1_areFoes_38 : decode cX1_areFoes 38 = .ok (.iconst 0, 1) := by decide +kernel
theorem dX1_areFoes_39 : decode cX1_areFoes 39 = .ok (.ireturn, 1) := by decide +kernel
theorem dX1_areWrong_0 : decode cX1_areWrong 0 = .ok (.aload_n 0, 1) := by decide +kernel
theorem dX1_areWrong_1 : decode cX1_areWrong 1 = .ok (.getfield 26, 3) := by decide +kernel
theorem dX1_areWrong_4 : decode cX1_areWrong 4 = .ok (.iload_n 1, 1) := by decide +kernel
theorem dX1_areWrong_5 : decode cX1_areWrong 5 = .ok (.iaload, 1) := by decide +kernel
theorem dX1_areWrong_6 : decode cX1_areWrong 6 = .ok (.istore_n 3, 1) := by decide +kernel
theorem dX1_areWrong_7 : decode cX1_areWrong 7 = .ok (.aload_n 0, 1) := by decide +kernel
theorem dX1_areWrong_8 : decode cX1_areWrong 8 = .ok (.getfield 19, 3) := by decide +kernel
theorem dX1_areWrong_11 : decode cX1_areWrong 11 = .ok (.iconst 2, 1) := by decide +kernel
theorem dX1_areWrong_12 : decode cX1_areWrong 12 = .ok (.aload_n 0, 1) := by decide +kernel
theorem dX1_areWrong_13 : decode cX1_areWrong 13 = .ok (.getfield 23, 3) := by decide +kernel
theorem dX1_areWrong_16 : decode cX1_areWrong 16 = .ok (.iload_n 1, 1) := by decide +kernel
theorem dX1_areWrong_17 : decode cX1_areWrong 17 = .ok (.iaload, 1) := by decide +kernel
theorem dX1_areWrong_18 : decode cX1_areWrong 18 = .ok (.imul, 1) := by decide +kernel
theorem dX1_areWrong_19 : decode cX1_areWrong 19 = .ok (.iload_n 2, 1) := by decide +kernel
theorem dX1_areWrong_20 : decode cX1_areWrong 20 = .ok (.iconst 2, 1) := by decide +kernel
theorem dX1_areWrong_21 : decode cX1_areWrong 21 = .ok (.irem, 1) := by decide +kernel
theorem dX1_areWrong_22 : decode cX1_areWrong 22 = .ok (.iadd, 1) := by decide +kernel
theorem dX1_areWrong_23 : decode cX1_areWrong 23 = .ok (.baload, 1) := by decide +kernel
theorem dX1_areWrong_24 : decode cX1_areWrong 24 = .ok (.ifCond .ne 23, 3) := by decide +kernel
theorem dX1_areWrong_27 : decode cX1_areWrong 27 = .ok (.iload_n 3, 1) := by decide +kernel
theorem dX1_areWrong_28 : decode cX1_areWrong 28 = .ok (.iconst (-1), 1) := by decide +kernel
theorem dX1_areWrong_29 : decode cX1_areWrong 29 = .ok (.if_icmp .eq 22, 3) := by decide +kernel
theorem dX1_areWrong_32 : decode cX1_areWrong 32 = .ok (.aload_n 0, 1) := by decide +kernel
theorem dX1_areWrong_33 : decode cX1_areWrong 33 = .ok (.getfield 19, 3) := by decide +kernel
theorem dX1_areWrong_36 : decode cX1_areWrong 36 = .ok (.iconst 2, 1) := by decide +kernel
theorem dX1_areWrong_37 : decode cX1_areWrong 37 = .ok (.iload_n 3, 1) := by decide +kernel
theorem dX1_areWrong_38 : decode cX1_areWrong 38 = .ok (.imul, 1) := by decide +kernel
theorem dX1_areWrong_39 : decode cX1_areWrong 39 = .ok (.iload_n 2, 1) := by decide +kernel
theorem dX1_areWrong_40 : decode cX1_areWrong 40 = .ok (.iconst 2, 1) := by decide +kernel
theorem dX1_areWrong_41 : decode cX1_areWrong 41 = .ok (.irem, 1) := by decide +kernel
theorem dX1_areWrong_42 : decode cX1_areWrong 42 = .ok (.iadd, 1) := by decide +kernel
theorem dX1_areWrong_43 : decode cX1_areWrong 43 = .ok (.baload, 1) := by decide +kernel
theorem dX1_areWrong_44 : decode cX1_areWrong 44 = .ok (.ifCond .eq 7, 3) := by decide +kernel
theorem dX1_areWrong_47 : decode cX1_areWrong 47 = .ok (.iconst 1, 1) := by decide +kernel
theorem dX1_areWrong_48 : decode cX1_areWrong 48 = .ok (.goto 4, 3) := by decide +kernel
theorem dX1_areWrong_51 : decode cX1_areWrong 51 = .ok (.iconst 0, 1) := by decide +kernel
theorem dX1_areWrong_52 : decode cX1_areWrong 52 = .ok (.istore 4, 2) := by decide +kernel
theorem dX1_areWrong_54 : decode cX1_areWrong 54 = .ok (.iload 4, 2) := by decide +kernel
theorem dX1_areWrong_56 : decode cX1_areWrong 56 = .ok (.ifCond .eq 15, 3) := by decide +kernel
theorem dX1_areWrong_59 : decode cX1_areWrong 59 = .ok (.aload_n 0, 1) := by decide +kernel
theorem dX1_areWrong_60 : decode cX1_areWrong 60 = .ok (.iload_n 1, 1) := by decide +kernel
theorem dX1_areWrong_61 : decode cX1_areWrong 61 = .ok (.invokevirtual 73, 3) := by decide +kernel
theorem dX1_areWrong_64 : decode cX1_areWrong 64 = .ok (.ifCond .ne 7, 3) := by decide +kernel
theorem dX1_areWrong_67 : decode cX1_areWrong 67 = .ok (.iconst 1, 1) := by decide +kernel
theorem dX1_areWrong_68 : decode cX1_areWrong 68 = .ok (.goto 4, 3) := by decide +kernel
theorem dX1_areWrong_71 : decode cX1_areWrong 71 = .ok (.iconst 0, 1) := by decide +kernel
theorem dX1_areWrong_72 : decode cX1_areWrong 72 = .ok (.ireturn, 1) := by decide +kernel
theorem dX1_areInBreach_0 : decode cX1_areInBreach 0 = .ok (.aload_n 0, 1) := by decide +kernel
theorem dX1_areInBreach_1 : decode cX1_areInBreach 1 = .ok (.iload_n 1, 1) := by decide +kernel
theorem dX1_areInBreach_2 : decode cX1_areInBreach 2 = .ok (.iload_n 2, 1) := by decide +kernel
theorem dX1_areInBreach_3 : decode cX1_areInBreach 3 = .ok (.invokevirtual 85, 3) := by decide +kernel
theorem dX1_areInBreach_6 : decode cX1_areInBreach 6 = .ok (.ifCond .eq 32, 3) := by decide +kernel
theorem dX1_areInBreach_9 : decode cX1_areInBreach 9 = .ok (.aload_n 0, 1) := by decide +kernel
theorem dX1_areInBreach_10 : decode cX1_areInBreach 10 = .ok (.getfield 32, 3) := by decide +kernel
theorem dX1_areInBreach_13 : decode cX1_areInBreach 13 = .ok (.iload_n 1, 1) := by decide +kernel
theorem dX1_areInBreach_14 : decode cX1_areInBreach 14 = .ok (.iaload, 1) := by decide +kernel
theorem dX1_areInBreach_15 : decode cX1_areInBreach 15 = .ok (.iconst (-1), 1) := by decide +kernel
theorem dX1_areInBreach_16 : decode cX1_areInBreach 16 = .ok (.if_icmp .eq 22, 3) := by decide +kernel
theorem dX1_areInBreach_19 : decode cX1_areInBreach 19 = .ok (.aload_n 0, 1) := by decide +kernel
theorem dX1_areInBreach_20 : decode cX1_areInBreach 20 = .ok (.iload_n 1, 1) := by decide +kernel
theorem dX1_areInBreach_21 : decode cX1_areInBreach 21 = .ok (.iload_n 2, 1) := by decide +kernel
theorem dX1_areInBreach_22 : decode cX1_areInBreach 22 = .ok (.aload_n 0, 1) := by decide +kernel
theorem dX1_areInBreach_23 : decode cX1_areInBreach 23 = .ok (.getfield 32, 3) := by decide +kernel
theorem dX1_areInBreach_26 : decode cX1_areInBreach 26 = .ok (.iload_n 1, 1) := by decide +kernel
theorem dX1_areInBreach_27 : decode cX1_areInBreach 27 = .ok (.iaload, 1) := by decide +kernel
theorem dX1_areInBreach_28 : decode cX1_areInBreach 28 = .ok (.invokevirtual 92, 3) := by decide +kernel
theorem dX1_areInBreach_31 : decode cX1_areInBreach 31 = .ok (.ifCond .eq 7, 3) := by decide +kernel
theorem dX1_areInBreach_34 : decode cX1_areInBreach 34 = .ok (.iconst 1, 1) := by decide +kernel
theorem dX1_areInBreach_35 : decode cX1_areInBreach 35 = .ok (.goto 4, 3) := by decide +kernel
theorem dX1_areInBreach_38 : decode cX1_areInBreach 38 = .ok (.iconst 0, 1) := by decide +kernel
theorem dX1_areInBreach_39 : decode cX1_areInBreach 39 = .ok (.ireturn, 1) := by decide +kernel
theorem dX1_isMisplaced_0 : decode cX1_isMisplaced 0 = .ok (.aload_n 0, 1) := by decide +kernel
theorem dX1_isMisplaced_1 : decode cX1_isMisplaced 1 = .ok (.iload_n 1, 1) := by decide +kernel
theorem dX1_isMisplaced_2 : decode cX1_isMisplaced 2 = .ok (.invokevirtual 66, 3) := by decide +kernel
theorem dX1_isMisplaced_5 : decode cX1_isMisplaced 5 = .ok (.ifCond .eq 31, 3) := by decide +kernel
theorem dX1_isMisplaced_8 : decode cX1_isMisplaced 8 = .ok (.aload_n 0, 1) := by decide +kernel
theorem dX1_isMisplaced_9 : decode cX1_isMisplaced 9 = .ok (.getfield 32, 3) := by decide +kernel
theorem dX1_isMisplaced_12 : decode cX1_isMisplaced 12 = .ok (.iload_n 1, 1) := by decide +kernel
theorem dX1_isMisplaced_13 : decode cX1_isMisplaced 13 = .ok (.iaload, 1) := by decide +kernel
theorem dX1_isMisplaced_14 : decode cX1_isMisplaced 14 = .ok (.iconst (-1), 1) := by decide +kernel
theorem dX1_isMisplaced_15 : decode cX1_isMisplaced 15 = .ok (.if_icmp .eq 21, 3) := by decide +kernel
theorem dX1_isMisplaced_18 : decode cX1_isMisplaced 18 = .ok (.aload_n 0, 1) := by decide +kernel
theorem dX1_isMisplaced_19 : decode cX1_isMisplaced 19 = .ok (.iload_n 1, 1) := by decide +kernel
theorem dX1_isMisplaced_20 : decode cX1_isMisplaced 20 = .ok (.aload_n 0, 1) := by decide +kernel
theorem dX1_isMisplaced_21 : decode cX1_isMisplaced 21 = .ok (.getfield 32, 3) := by decide +kernel
theorem dX1_isMisplaced_24 : decode cX1_isMisplaced 24 = .ok (.iload_n 1, 1) := by decide +kernel
theorem dX1_isMisplaced_25 : decode cX1_isMisplaced 25 = .ok (.iaload, 1) := by decide +kernel
theorem dX1_isMisplaced_26 : decode cX1_isMisplaced 26 = .ok (.invokevirtual 95, 3) := by decide +kernel
theorem dX1_isMisplaced_29 : decode cX1_isMisplaced 29 = .ok (.ifCond .eq 7, 3) := by decide +kernel
theorem dX1_isMisplaced_32 : decode cX1_isMisplaced 32 = .ok (.iconst 1, 1) := by decide +kernel
theorem dX1_isMisplaced_33 : decode cX1_isMisplaced 33 = .ok (.goto 4, 3) := by decide +kernel
theorem dX1_isMisplaced_36 : decode cX1_isMisplaced 36 = .ok (.iconst 0, 1) := by decide +kernel
theorem dX1_isMisplaced_37 : decode cX1_isMisplaced 37 = .ok (.ireturn, 1) := by decide +kernel
theorem dX1_foesOf_0 : decode cX1_foesOf 0 = .ok (.iconst 0, 1) := by decide +kernel
theorem dX1_foesOf_1 : decode cX1_foesOf 1 = .ok (.istore_n 2, 1) := by decide +kernel
theorem dX1_foesOf_2 : decode cX1_foesOf 2 = .ok (.iconst 0, 1) := by decide +kernel
theorem dX1_foesOf_3 : decode cX1_foesOf 3 = .ok (.istore_n 3, 1) := by decide +kernel
theorem dX1_foesOf_4 : decode cX1_foesOf 4 = .ok (.iload_n 3, 1) := by decide +kernel
theorem dX1_foesOf_5 : decode cX1_foesOf 5 = .ok (.aload_n 0, 1) := by decide +kernel
theorem dX1_foesOf_6 : decode cX1_foesOf 6 = .ok (.getfield 46, 3) := by decide +kernel
theorem dX1_foesOf_9 : decode cX1_foesOf 9 = .ok (.if_icmp .ge 44, 3) := by decide +kernel
theorem dX1_foesOf_12 : decode cX1_foesOf 12 = .ok (.iload_n 2, 1) := by decide +kernel
theorem dX1_foesOf_13 : decode cX1_foesOf 13 = .ok (.aload_n 0, 1) := by decide +kernel
theorem dX1_foesOf_14 : decode cX1_foesOf 14 = .ok (.getfield 32, 3) := by decide +kernel
theorem dX1_foesOf_17 : decode cX1_foesOf 17 = .ok (.iload_n 1, 1) := by decide +kernel
theorem dX1_foesOf_18 : decode cX1_foesOf 18 = .ok (.iaload, 1) := by decide +kernel
theorem dX1_foesOf_19 : decode cX1_foesOf 19 = .ok (.iconst (-1), 1) := by decide +kernel
theorem dX1_foesOf_20 : decode cX1_foesOf 20 = .ok (.if_icmp .eq 24, 3) := by decide +kernel
theorem dX1_foesOf_23 : decode cX1_foesOf 23 = .ok (.aload_n 0, 1) := by decide +kernel
theorem dX1_foesOf_24 : decode cX1_foesOf 24 = .ok (.iload_n 1, 1) := by decide +kernel
theorem dX1_foesOf_25 : decode cX1_foesOf 25 = .ok (.iload_n 3, 1) := by decide +kernel
theorem dX1_foesOf_26 : decode cX1_foesOf 26 = .ok (.aload_n 0, 1) := by decide +kernel
theorem dX1_foesOf_27 : decode cX1_foesOf 27 = .ok (.getfield 32, 3) := by decide +kernel
theorem dX1_foesOf_30 : decode cX1_foesOf 30 = .ok (.iload_n 1, 1) := by decide +kernel
theorem dX1_foesOf_31 : decode cX1_foesOf 31 = .ok (.iaload, 1) := by decide +kernel
theorem dX1_foesOf_32 : decode cX1_foesOf 32 = .ok (.invokevirtual 92, 3) := by decide +kernel
theorem dX1_foesOf_35 : decode cX1_foesOf 35 = .ok (.ifCond .eq 9, 3) := by decide +kernel
theorem dX1_foesOf_38 : decode cX1_foesOf 38 = .ok (.iconst 1, 1) := by decide +kernel
theorem dX1_foesOf_39 : decode cX1_foesOf 39 = .ok (.iload_n 3, 1) := by decide +kernel
theorem dX1_foesOf_40 : decode cX1_foesOf 40 = .ok (.ishl, 1) := by decide +kernel
theorem dX1_foesOf_41 : decode cX1_foesOf 41 = .ok (.goto 4, 3) := by decide +kernel
theorem dX1_foesOf_44 : decode cX1_foesOf 44 = .ok (.iconst 0, 1) := by decide +kernel
theorem dX1_foesOf_45 : decode cX1_foesOf 45 = .ok (.ior, 1) := by decide +kernel
theorem dX1_foesOf_46 : decode cX1_foesOf 46 = .ok (.istore_n 2, 1) := by decide +kernel
theorem dX1_foesOf_47 : decode cX1_foesOf 47 = .ok (.iinc 3 1, 3) := by decide +kernel
theorem dX1_foesOf_50 : decode cX1_foesOf 50 = .ok (.goto (-46), 3) := by decide +kernel
theorem dX1_foesOf_53 : decode cX1_foesOf 53 = .ok (.iload_n 2, 1) := by decide +kernel
theorem dX1_foesOf_54 : decode cX1_foesOf 54 = .ok (.ireturn, 1) := by decide +kernel
theorem dX1_breaches_0 : decode cX1_breaches 0 = .ok (.aload_n 0, 1) := by decide +kernel
theorem dX1_breaches_1 : decode cX1_breaches 1 = .ok (.iconst 0, 1) := by decide +kernel
theorem dX1_breaches_2 : decode cX1_breaches 2 = .ok (.putfield 38, 3) := by decide +kernel
theorem dX1_breaches_5 : decode cX1_breaches 5 = .ok (.iconst 0, 1) := by decide +kernel
theorem dX1_breaches_6 : decode cX1_breaches 6 = .ok (.istore_n 1, 1) := by decide +kernel
theorem dX1_breaches_7 : decode cX1_breaches 7 = .ok (.iconst 0, 1) := by decide +kernel
theorem dX1_breaches_8 : decode cX1_breaches 8 = .ok (.istore_n 2, 1) := by decide +kernel
theorem dX1_breaches_9 : decode cX1_breaches 9 = .ok (.iload_n 2, 1) := by decide +kernel
theorem dX1_breaches_10 : decode cX1_breaches 10 = .ok (.sipush 256, 3) := by decide +kernel
theorem dX1_breaches_13 : decode cX1_breaches 13 = .ok (.if_icmp .ge 47, 3) := by decide +kernel
theorem dX1_breaches_16 : decode cX1_breaches 16 = .ok (.iload_n 1, 1) := by decide +kernel
theorem dX1_breaches_17 : decode cX1_breaches 17 = .ok (.iload_n 2, 1) := by decide +kernel
theorem dX1_breaches_18 : decode cX1_breaches 18 = .ok (.bipush 16, 2) := by decide +kernel
theorem dX1_breaches_20 : decode cX1_breaches 20 = .ok (.idiv, 1) := by decide +kernel
theorem dX1_breaches_21 : decode cX1_breaches 21 = .ok (.aload_n 0, 1) := by decide +kernel
theorem dX1_breaches_22 : decode cX1_breaches 22 = .ok (.getfield 46, 3) := by decide +kernel
theorem dX1_breaches_25 : decode cX1_breaches 25 = .ok (.if_icmp .ge 26, 3) := by decide +kernel
theorem dX1_breaches_28 : decode cX1_breaches 28 = .ok (.aload_n 0, 1) := by decide +kernel
theorem dX1_breaches_29 : decode cX1_breaches 29 = .ok (.iload_n 2, 1) := by decide +kernel
theorem dX1_breaches_30 : decode cX1_breaches 30 = .ok (.bipush 16, 2) := by decide +kernel
theorem dX1_breaches_32 : decode cX1_breaches 32 = .ok (.idiv, 1) := by decide +kernel
theorem dX1_breaches_33 : decode cX1_breaches 33 = .ok (.invokevirtual 98, 3) := by decide +kernel
theorem dX1_breaches_36 : decode cX1_breaches 36 = .ok (.iload_n 2, 1) := by decide +kernel
theorem dX1_breaches_37 : decode cX1_breaches 37 = .ok (.bipush 16, 2) := by decide +kernel
theorem dX1_breaches_39 : decode cX1_breaches 39 = .ok (.irem, 1) := by decide +kernel
theorem dX1_breaches_40 : decode cX1_breaches 40 = .ok (.ishr, 1) := by decide +kernel
theorem dX1_breaches_41 : decode cX1_breaches 41 = .ok (.iconst 1, 1) := by decide +kernel
theorem dX1_breaches_42 : decode cX1_breaches 42 = .ok (.iand, 1) := by decide +kernel
theorem dX1_breaches_43 : decode cX1_breaches 43 = .ok (.iconst 1, 1) := by decide +kernel
theorem dX1_breaches_44 : decode cX1_breaches 44 = .ok (.if_icmp .ne 7, 3) := by decide +kernel
theorem dX1_breaches_47 : decode cX1_breaches 47 = .ok (.iconst 1, 1) := by decide +kernel
theorem dX1_breaches_48 : decode cX1_breaches 48 = .ok (.goto 4, 3) := by decide +kernel
theorem dX1_breaches_51 : decode cX1_breaches 51 = .ok (.iconst 0, 1) := by decide +kernel
theorem dX1_breaches_52 : decode cX1_breaches 52 = .ok (.iadd, 1) := by decide +kernel
theorem dX1_breaches_53 : decode cX1_breaches 53 = .ok (.istore_n 1, 1) := by decide +kernel
theorem dX1_breaches_54 : decode cX1_breaches 54 = .ok (.iinc 2 1, 3) := by decide +kernel
theorem dX1_breaches_57 : decode cX1_breaches 57 = .ok (.goto (-48), 3) := by decide +kernel
theorem dX1_breaches_60 : decode cX1_breaches 60 = .ok (.iload_n 1, 1) := by decide +kernel
theorem dX1_breaches_61 : decode cX1_breaches 61 = .ok (.iconst 2, 1) := by decide +kernel
theorem dX1_breaches_62 : decode cX1_breaches 62 = .ok (.idiv, 1) := by decide +kernel
theorem dX1_breaches_63 : decode cX1_breaches 63 = .ok (.ireturn, 1) := by decide +kernel
theorem dX1_inBreachWith_0 : decode cX1_inBreachWith 0 = .ok (.aload_n 0, 1) := by decide +kernel
theorem dX1_inBreachWith_1 : decode cX1_inBreachWith 1 = .ok (.iload_n 1, 1) := by decide +kernel
theorem dX1_inBreachWith_2 : decode cX1_inBreachWith 2 = .ok (.invokevirtual 66, 3) := by decide +kernel
theorem dX1_inBreachWith_5 : decode cX1_inBreachWith 5 = .ok (.ifCond .eq 11, 3) := by decide +kernel
theorem dX1_inBreachWith_8 : decode cX1_inBreachWith 8 = .ok (.aload_n 0, 1) := by decide +kernel
theorem dX1_inBreachWith_9 : decode cX1_inBreachWith 9 = .ok (.iload_n 1, 1) := by decide +kernel
theorem dX1_inBreachWith_10 : decode cX1_inBreachWith 10 = .ok (.invokevirtual 98, 3) := by decide +kernel
theorem dX1_inBreachWith_13 : decode cX1_inBreachWith 13 = .ok (.goto 4, 3) := by decide +kernel
theorem dX1_inBreachWith_16 : decode cX1_inBreachWith 16 = .ok (.iconst 0, 1) := by decide +kernel
theorem dX1_inBreachWith_17 : decode cX1_inBreachWith 17 = .ok (.ireturn, 1) := by decide +kernel
theorem dX1_wrongs_0 : decode cX1_wrongs 0 = .ok (.iconst 0, 1) := by decide +kernel
theorem dX1_wrongs_1 : decode cX1_wrongs 1 = .ok (.istore_n 1, 1) := by decide +kernel
theorem dX1_wrongs_2 : decode cX1_wrongs 2 = .ok (.iconst 0, 1) := by decide +kernel
theorem dX1_wrongs_3 : decode cX1_wrongs 3 = .ok (.istore_n 2, 1) := by decide +kernel
theorem dX1_wrongs_4 : decode cX1_wrongs 4 = .ok (.iload_n 2, 1) := by decide +kernel
theorem dX1_wrongs_5 : decode cX1_wrongs 5 = .ok (.aload_n 0, 1) := by decide +kernel
theorem dX1_wrongs_6 : decode cX1_wrongs 6 = .ok (.getfield 46, 3) := by decide +kernel
theorem dX1_wrongs_9 : decode cX1_wrongs 9 = .ok (.if_icmp .ge 43, 3) := by decide +kernel
theorem dX1_wrongs_12 : decode cX1_wrongs 12 = .ok (.iload_n 1, 1) := by decide +kernel
theorem dX1_wrongs_13 : decode cX1_wrongs 13 = .ok (.aload_n 0, 1) := by decide +kernel
theorem dX1_wrongs_14 : decode cX1_wrongs 14 = .ok (.getfield 32, 3) := by decide +kernel
theorem dX1_wrongs_17 : decode cX1_wrongs 17 = .ok (.iload_n 2, 1) := by decide +kernel
theorem dX1_wrongs_18 : decode cX1_wrongs 18 = .ok (.iaload, 1) := by decide +kernel
theorem dX1_wrongs_19 : decode cX1_wrongs 19 = .ok (.iconst (-1), 1) := by decide +kernel
theorem dX1_wrongs_20 : decode cX1_wrongs 20 = .ok (.if_icmp .eq 23, 3) := by decide +kernel
theorem dX1_wrongs_23 : decode cX1_wrongs 23 = .ok (.aload_n 0, 1) := by decide +kernel
theorem dX1_wrongs_24 : decode cX1_wrongs 24 = .ok (.iload_n 2, 1) := by decide +kernel
theorem dX1_wrongs_25 : decode cX1_wrongs 25 = .ok (.aload_n 0, 1) := by decide +kernel
theorem dX1_wrongs_26 : decode cX1_wrongs 26 = .ok (.getfield 32, 3) := by decide +kernel
theorem dX1_wrongs_29 : decode cX1_wrongs 29 = .ok (.iload_n 2, 1) := by decide +kernel
theorem dX1_wrongs_30 : decode cX1_wrongs 30 = .ok (.iaload, 1) := by decide +kernel
theorem dX1_wrongs_31 : decode cX1_wrongs 31 = .ok (.invokevirtual 95, 3) := by decide +kernel
theorem dX1_wrongs_34 : decode cX1_wrongs 34 = .ok (.ifCond .eq 9, 3) := by decide +kernel
theorem dX1_wrongs_37 : decode cX1_wrongs 37 = .ok (.iconst 1, 1) := by decide +kernel
theorem dX1_wrongs_38 : decode cX1_wrongs 38 = .ok (.iload_n 2, 1) := by decide +kernel
theorem dX1_wrongs_39 : decode cX1_wrongs 39 = .ok (.ishl, 1) := by decide +kernel
theorem dX1_wrongs_40 : decode cX1_wrongs 40 = .ok (.goto 4, 3) := by decide +kernel
theorem dX1_wrongs_43 : decode cX1_wrongs 43 = .ok (.iconst 0, 1) := by decide +kernel
theorem dX1_wrongs_44 : decode cX1_wrongs 44 = .ok (.ior, 1) := by decide +kernel
theorem dX1_wrongs_45 : decode cX1_wrongs 45 = .ok (.istore_n 1, 1) := by decide +kernel
theorem dX1_wrongs_46 : decode cX1_wrongs 46 = .ok (.iinc 2 1, 3) := by decide +kernel
theorem dX1_wrongs_49 : decode cX1_wrongs 49 = .ok (.goto (-45), 3) := by decide +kernel
theorem dX1_wrongs_52 : decode cX1_wrongs 52 = .ok (.iload_n 1, 1) := by decide +kernel
theorem dX1_wrongs_53 : decode cX1_wrongs 53 = .ok (.ireturn, 1) := by decide +kernel
theorem dX1_isCleanWithout_0 : decode cX1_isCleanWithout 0 = .ok (.iload_n 2, 1) := by decide +kernel
theorem dX1_isCleanWithout_1 : decode cX1_isCleanWithout 1 = .ok (.iload_n 1, 1) := by decide +kernel
theorem dX1_isCleanWithout_2 : decode cX1_isCleanWithout 2 = .ok (.iconst (-1), 1) := by decide +kernel
theorem dX1_isCleanWithout_3 : decode cX1_isCleanWithout 3 = .ok (.ixor, 1) := by decide +kernel
theorem dX1_isCleanWithout_4 : decode cX1_isCleanWithout 4 = .ok (.iand, 1) := by decide +kernel
theorem dX1_isCleanWithout_5 : decode cX1_isCleanWithout 5 = .ok (.ifCond .ne 7, 3) := by decide +kernel
theorem dX1_isCleanWithout_8 : decode cX1_isCleanWithout 8 = .ok (.iconst 1, 1) := by decide +kernel
theorem dX1_isCleanWithout_9 : decode cX1_isCleanWithout 9 = .ok (.goto 4, 3) := by decide +kernel
theorem dX1_isCleanWithout_12 : decode cX1_isCleanWithout 12 = .ok (.iconst 0, 1) := by decide +kernel
theorem dX1_isCleanWithout_13 : decode cX1_isCleanWithout 13 = .ok (.istore_n 3, 1) := by decide +kernel
theorem dX1_isCleanWithout_14 : decode cX1_isCleanWithout 14 = .ok (.iconst 0, 1) := by decide +kernel
theorem dX1_isCleanWithout_15 : decode cX1_isCleanWithout 15 = .ok (.istore 4, 2) := by decide +kernel
theorem dX1_isCleanWithout_17 : decode cX1_isCleanWithout 17 = .ok (.iload 4, 2) := by decide +kernel
theorem dX1_isCleanWithout_19 : decode cX1_isCleanWithout 19 = .ok (.aload_n 0, 1) := by decide +kernel
theorem dX1_isCleanWithout_20 : decode cX1_isCleanWithout 20 = .ok (.getfield 46, 3) := by decide +kernel
theorem dX1_isCleanWithout_23 : decode cX1_isCleanWithout 23 = .ok (.if_icmp .ge 43, 3) := by decide +kernel
theorem dX1_isCleanWithout_26 : decode cX1_isCleanWithout 26 = .ok (.iload_n 3, 1) := by decide +kernel
theorem dX1_isCleanWithout_27 : decode cX1_isCleanWithout 27 = .ok (.ifCond .eq 39, 3) := by decide +kernel
theorem dX1_isCleanWithout_30 : decode cX1_isCleanWithout 30 = .ok (.iload_n 1, 1) := by decide +kernel
theorem dX1_isCleanWithout_31 : decode cX1_isCleanWithout 31 = .ok (.iload 4, 2) := by decide +kernel
theorem dX1_isCleanWithout_33 : decode cX1_isCleanWithout 33 = .ok (.ishr, 1) := by decide +kernel
theorem dX1_isCleanWithout_34 : decode cX1_isCleanWithout 34 = .ok (.iconst 1, 1) := by decide +kernel
theorem dX1_isCleanWithout_35 : decode cX1_isCleanWithout 35 = .ok (.iand, 1) := by decide +kernel
theorem dX1_isCleanWithout_36 : decode cX1_isCleanWithout 36 = .ok (.iconst 1, 1) := by decide +kernel
theorem dX1_isCleanWithout_37 : decode cX1_isCleanWithout 37 = .ok (.if_icmp .eq 17, 3) := by decide +kernel
theorem dX1_isCleanWithout_40 : decode cX1_isCleanWithout 40 = .ok (.aload_n 0, 1) := by decide +kernel
theorem dX1_isCleanWithout_41 : decode cX1_isCleanWithout 41 = .ok (.getfield 35, 3) := by decide +kernel
theorem dX1_isCleanWithout_44 : decode cX1_isCleanWithout 44 = .ok (.iload 4, 2) := by decide +kernel
theorem dX1_isCleanWithout_46 : decode cX1_isCleanWithout 46 = .ok (.iaload, 1) := by decide +kernel
theorem dX1_isCleanWithout_47 : decode cX1_isCleanWithout 47 = .ok (.iload_n 1, 1) := by decide +kernel
theorem dX1_isCleanWithout_48 : decode cX1_isCleanWithout 48 = .ok (.iconst (-1), 1) := by decide +kernel
theorem dX1_isCleanWithout_49 : decode cX1_isCleanWithout 49 = .ok (.ixor, 1) := by decide +kernel
theorem dX1_isCleanWithout_50 : decode cX1_isCleanWithout 50 = .ok (.iand, 1) := by decide +kernel
theorem dX1_isCleanWithout_51 : decode cX1_isCleanWithout 51 = .ok (.ifCond .ne 7, 3) := by decide +kernel
theorem dX1_isCleanWithout_54 : decode cX1_isCleanWithout 54 = .ok (.iconst 1, 1) := by decide +kernel
theorem dX1_isCleanWithout_55 : decode cX1_isCleanWithout 55 = .ok (.goto 4, 3) := by decide +kernel
theorem dX1_isCleanWithout_58 : decode cX1_isCleanWithout 58 = .ok (.iconst 0, 1) := by decide +kernel
theorem dX1_isCleanWithout_59 : decode cX1_isCleanWithout 59 = .ok (.istore_n 3, 1) := by decide +kernel
theorem dX1_isCleanWithout_60 : decode cX1_isCleanWithout 60 = .ok (.iinc 4 1, 3) := by decide +kernel
theorem dX1_isCleanWithout_63 : decode cX1_isCleanWithout 63 = .ok (.goto (-46), 3) := by decide +kernel
theorem dX1_isCleanWithout_66 : decode cX1_isCleanWithout 66 = .ok (.iload_n 3, 1) := by decide +kernel
theorem dX1_isCleanWithout_67 : decode cX1_isCleanWithout 67 = .ok (.ireturn, 1) := by decide +kernel
theorem dX1_laysFoes_0 : decode cX1_laysFoes 0 = .ok (.iconst 0, 1) := by decide +kernel
theorem dX1_laysFoes_1 : decode cX1_laysFoes 1 = .ok (.istore_n 1, 1) := by decide +kernel
theorem dX1_laysFoes_2 : decode cX1_laysFoes 2 = .ok (.iload_n 1, 1) := by decide +kernel
theorem dX1_laysFoes_3 : decode cX1_laysFoes 3 = .ok (.aload_n 0, 1) := by decide +kernel
theorem dX1_laysFoes_4 : decode cX1_laysFoes 4 = .ok (.getfield 46, 3) := by decide +kernel
theorem dX1_laysFoes_7 : decode cX1_laysFoes 7 = .ok (.if_icmp .ge 20, 3) := by decide +kernel
theorem dX1_laysFoes_10 : decode cX1_laysFoes 10 = .ok (.aload_n 0, 1) := by decide +kernel
theorem dX1_laysFoes_11 : decode cX1_laysFoes 11 = .ok (.getfield 35, 3) := by decide +kernel
theorem dX1_laysFoes_14 : decode cX1_laysFoes 14 = .ok (.iload_n 1, 1) := by decide +kernel
theorem dX1_laysFoes_15 : decode cX1_laysFoes 15 = .ok (.aload_n 0, 1) := by decide +kernel
theorem dX1_laysFoes_16 : decode cX1_laysFoes 16 = .ok (.iload_n 1, 1) := by decide +kernel
theorem dX1_laysFoes_17 : decode cX1_laysFoes 17 = .ok (.invokevirtual 98, 3) := by decide +kernel
theorem dX1_laysFoes_20 : decode cX1_laysFoes 20 = .ok (.iastore, 1) := by decide +kernel
theorem dX1_laysFoes_21 : decode cX1_laysFoes 21 = .ok (.iinc 1 1, 3) := by decide +kernel
theorem dX1_laysFoes_24 : decode cX1_laysFoes 24 = .ok (.goto (-22), 3) := by decide +kernel
theorem dX1_laysFoes_27 : decode cX1_laysFoes 27 = .ok (.return_, 1) := by decide +kernel
theorem dX1_isClean_0 : decode cX1_isClean 0 = .ok (.aload_n 0, 1) := by decide +kernel
theorem dX1_isClean_1 : decode cX1_isClean 1 = .ok (.iconst 0, 1) := by decide +kernel
theorem dX1_isClean_2 : decode cX1_isClean 2 = .ok (.putfield 38, 3) := by decide +kernel
theorem dX1_isClean_5 : decode cX1_isClean 5 = .ok (.aload_n 0, 1) := by decide +kernel
theorem dX1_isClean_6 : decode cX1_isClean 6 = .ok (.invokevirtual 102, 3) := by decide +kernel
theorem dX1_isClean_9 : decode cX1_isClean 9 = .ok (.aload_n 0, 1) := by decide +kernel
theorem dX1_isClean_10 : decode cX1_isClean 10 = .ok (.iconst 0, 1) := by decide +kernel
theorem dX1_isClean_11 : decode cX1_isClean 11 = .ok (.aload_n 0, 1) := by decide +kernel
theorem dX1_isClean_12 : decode cX1_isClean 12 = .ok (.invokevirtual 105, 3) := by decide +kernel
theorem dX1_isClean_15 : decode cX1_isClean 15 = .ok (.invokevirtual 109, 3) := by decide +kernel
theorem dX1_isClean_18 : decode cX1_isClean 18 = .ok (.ireturn, 1) := by decide +kernel
theorem dX1_isGood_0 : decode cX1_isGood 0 = .ok (.aload_n 0, 1) := by decide +kernel
theorem dX1_isGood_1 : decode cX1_isGood 1 = .ok (.iload_n 1, 1) := by decide +kernel
theorem dX1_isGood_2 : decode cX1_isGood 2 = .ok (.iload_n 2, 1) := by decide +kernel
theorem dX1_isGood_3 : decode cX1_isGood 3 = .ok (.invokevirtual 95, 3) := by decide +kernel
theorem dX1_isGood_6 : decode cX1_isGood 6 = .ok (.ifCond .ne 7, 3) := by decide +kernel
theorem dX1_isGood_9 : decode cX1_isGood 9 = .ok (.iconst 1, 1) := by decide +kernel
theorem dX1_isGood_10 : decode cX1_isGood 10 = .ok (.goto 4, 3) := by decide +kernel
theorem dX1_isGood_13 : decode cX1_isGood 13 = .ok (.iconst 0, 1) := by decide +kernel
theorem dX1_isGood_14 : decode cX1_isGood 14 = .ok (.istore_n 3, 1) := by decide +kernel
theorem dX1_isGood_15 : decode cX1_isGood 15 = .ok (.iconst 0, 1) := by decide +kernel
theorem dX1_isGood_16 : decode cX1_isGood 16 = .ok (.istore 4, 2) := by decide +kernel
theorem dX1_isGood_18 : decode cX1_isGood 18 = .ok (.iload 4, 2) := by decide +kernel
theorem dX1_isGood_20 : decode cX1_isGood 20 = .ok (.aload_n 0, 1) := by decide +kernel
theorem dX1_isGood_21 : decode cX1_isGood 21 = .ok (.getfield 46, 3) := by decide +kernel
theorem dX1_isGood_24 : decode cX1_isGood 24 = .ok (.if_icmp .ge 30, 3) := by decide +kernel
theorem dX1_isGood_27 : decode cX1_isGood 27 = .ok (.iload_n 3, 1) := by decide +kernel
theorem dX1_isGood_28 : decode cX1_isGood 28 = .ok (.ifCond .eq 26, 3) := by decide +kernel
theorem dX1_isGood_31 : decode cX1_isGood 31 = .ok (.aload_n 0, 1) := by decide +kernel
theorem dX1_isGood_32 : decode cX1_isGood 32 = .ok (.iload_n 1, 1) := by decide +kernel
theorem dX1_isGood_33 : decode cX1_isGood 33 = .ok (.iload 4, 2) := by decide +kernel
theorem dX1_isGood_35 : decode cX1_isGood 35 = .ok (.iload_n 2, 1) := by decide +kernel
theorem dX1_isGood_36 : decode cX1_isGood 36 = .ok (.invokevirtual 92, 3) := by decide +kernel
theorem dX1_isGood_39 : decode cX1_isGood 39 = .ok (.ifCond .ne 7, 3) := by decide +kernel
theorem dX1_isGood_42 : decode cX1_isGood 42 = .ok (.iconst 1, 1) := by decide +kernel
theorem dX1_isGood_43 : decode cX1_isGood 43 = .ok (.goto 4, 3) := by decide +kernel
theorem dX1_isGood_46 : decode cX1_isGood 46 = .ok (.iconst 0, 1) := by decide +kernel
theorem dX1_isGood_47 : decode cX1_isGood 47 = .ok (.istore_n 3, 1) := by decide +kernel
theorem dX1_isGood_48 : decode cX1_isGood 48 = .ok (.iinc 4 1, 3) := by decide +kernel
theorem dX1_isGood_51 : decode cX1_isGood 51 = .ok (.goto (-33), 3) := by decide +kernel
theorem dX1_isGood_54 : decode cX1_isGood 54 = .ok (.iload_n 3, 1) := by decide +kernel
theorem dX1_isGood_55 : decode cX1_isGood 55 = .ok (.ireturn, 1) := by decide +kernel
theorem dX1_canPut_0 : decode cX1_canPut 0 = .ok (.aload_n 0, 1) := by decide +kernel
theorem dX1_canPut_1 : decode cX1_canPut 1 = .ok (.aload_n 0, 1) := by decide +kernel
theorem dX1_canPut_2 : decode cX1_canPut 2 = .ok (.iload_n 1, 1) := by decide +kernel
theorem dX1_canPut_3 : decode cX1_canPut 3 = .ok (.invokevirtual 63, 3) := by decide +kernel
theorem dX1_canPut_6 : decode cX1_canPut 6 = .ok (.ifCond .ne 7, 3) := by decide +kernel
theorem dX1_canPut_9 : decode cX1_canPut 9 = .ok (.iconst 1, 1) := by decide +kernel
theorem dX1_canPut_10 : decode cX1_canPut 10 = .ok (.goto 15, 3) := by decide +kernel
theorem dX1_canPut_13 : decode cX1_canPut 13 = .ok (.iload_n 2, 1) := by decide +kernel
theorem dX1_canPut_14 : decode cX1_canPut 14 = .ok (.invokestatic 56, 3) := by decide +kernel
theorem dX1_canPut_17 : decode cX1_canPut 17 = .ok (.ifCond .eq 7, 3) := by decide +kernel
theorem dX1_canPut_20 : decode cX1_canPut 20 = .ok (.iconst 0, 1) := by decide +kernel
theorem dX1_canPut_21 : decode cX1_canPut 21 = .ok (.goto 4, 3) := by decide +kernel
theorem dX1_canPut_24 : decode cX1_canPut 24 = .ok (.iconst 2, 1) := by decide +kernel
theorem dX1_canPut_25 : decode cX1_canPut 25 = .ok (.invokevirtual 53, 3) := by decide +kernel
