theorem dX0_tableDistance_11 : decode cX0_tableDistance 11 = .ok (.ireturn, 1) := by decide +kernel
theorem dX0_tableDistance_12 : decode cX0_tableDistance 12 = .ok (.aload_n 0, 1) := by decide +kernel
theorem dX0_tableDistance_13 : decode cX0_tableDistance 13 = .ok (.getfield 9, 3) := by decide +kernel
theorem dX0_tableDistance_16 : decode cX0_tableDistance 16 = .ok (.iload_n 1, 1) := by decide +kernel
theorem dX0_tableDistance_17 : decode cX0_tableDistance 17 = .ok (.bipush 10, 2) := by decide +kernel
theorem dX0_tableDistance_19 : decode cX0_tableDistance 19 = .ok (.imul, 1) := by decide +kernel
theorem dX0_tableDistance_20 : decode cX0_tableDistance 20 = .ok (.iload_n 2, 1) := by decide +kernel
theorem dX0_tableDistance_21 : decode cX0_tableDistance 21 = .ok (.iadd, 1) := by decide +kernel
theorem dX0_tableDistance_22 : decode cX0_tableDistance 22 = .ok (.iaload, 1) := by decide +kernel
theorem dX0_tableDistance_23 : decode cX0_tableDistance 23 = .ok (.ireturn, 1) := by decide +kernel
theorem dX0_greatestTableDistance_0 : decode cX0_greatestTableDistance 0 = .ok (.aload_n 0, 1) := by decide +kernel
theorem dX0_greatestTableDistance_1 : decode cX0_greatestTableDistance 1 = .ok (.aload_n 0, 1) := by decide +kernel
theorem dX0_greatestTableDistance_2 : decode cX0_greatestTableDistance 2 = .ok (.getfield 23, 3) := by decide +kernel
theorem dX0_greatestTableDistance_5 : decode cX0_greatestTableDistance 5 = .ok (.iload_n 1, 1) := by decide +kernel
theorem dX0_greatestTableDistance_6 : decode cX0_greatestTableDistance 6 = .ok (.iaload, 1) := by decide +kernel
theorem dX0_greatestTableDistance_7 : decode cX0_greatestTableDistance 7 = .ok (.aload_n 0, 1) := by decide +kernel
theorem dX0_greatestTableDistance_8 : decode cX0_greatestTableDistance 8 = .ok (.getfield 23, 3) := by decide +kernel
theorem dX0_greatestTableDistance_11 : decode cX0_greatestTableDistance 11 = .ok (.iload_n 2, 1) := by decide +kernel
theorem dX0_greatestTableDistance_12 : decode cX0_greatestTableDistance 12 = .ok (.iaload, 1) := by decide +kernel
theorem dX0_greatestTableDistance_13 : decode cX0_greatestTableDistance 13 = .ok (.invokevirtual 50, 3) := by decide +kernel
theorem dX0_greatestTableDistance_16 : decode cX0_greatestTableDistance 16 = .ok (.aload_n 0, 1) := by decide +kernel
theorem dX0_greatestTableDistance_17 : decode cX0_greatestTableDistance 17 = .ok (.aload_n 0, 1) := by decide +kernel
theorem dX0_greatestTableDistance_18 : decode cX0_greatestTableDistance 18 = .ok (.getfield 23, 3) := by decide +kernel
theorem dX0_greatestTableDistance_21 : decode cX0_greatestTableDistance 21 = .ok (.iload_n 1, 1) := by decide +kernel
theorem dX0_greatestTableDistance_22 : decode cX0_greatestTableDistance 22 = .ok (.iaload, 1) := by decide +kernel
theorem dX0_greatestTableDistance_23 : decode cX0_greatestTableDistance 23 = .ok (.aload_n 0, 1) := by decide +kernel
theorem dX0_greatestTableDistance_24 : decode cX0_greatestTableDistance 24 = .ok (.getfield 26, 3) := by decide +kernel
theorem dX0_greatestTableDistance_27 : decode cX0_greatestTableDistance 27 = .ok (.iload_n 2, 1) := by decide +kernel
theorem dX0_greatestTableDistance_28 : decode cX0_greatestTableDistance 28 = .ok (.iaload, 1) := by decide +kernel
theorem dX0_greatestTableDistance_29 : decode cX0_greatestTableDistance 29 = .ok (.invokevirtual 50, 3) := by decide +kernel
theorem dX0_greatestTableDistance_32 : decode cX0_greatestTableDistance 32 = .ok (.invokestatic 142, 3) := by decide +kernel
theorem dX0_greatestTableDistance_35 : decode cX0_greatestTableDistance 35 = .ok (.istore_n 3, 1) := by decide +kernel
theorem dX0_greatestTableDistance_36 : decode cX0_greatestTableDistance 36 = .ok (.aload_n 0, 1) := by decide +kernel
theorem dX0_greatestTableDistance_37 : decode cX0_greatestTableDistance 37 = .ok (.aload_n 0, 1) := by decide +kernel
theorem dX0_greatestTableDistance_38 : decode cX0_greatestTableDistance 38 = .ok (.getfield 26, 3) := by decide +kernel
theorem dX0_greatestTableDistance_41 : decode cX0_greatestTableDistance 41 = .ok (.iload_n 1, 1) := by decide +kernel
theorem dX0_greatestTableDistance_42 : decode cX0_greatestTableDistance 42 = .ok (.iaload, 1) := by decide +kernel
theorem dX0_greatestTableDistance_43 : decode cX0_greatestTableDistance 43 = .ok (.aload_n 0, 1) := by decide +kernel
theorem dX0_greatestTableDistance_44 : decode cX0_greatestTableDistance 44 = .ok (.getfield 23, 3) := by decide +kernel
theorem dX0_greatestTableDistance_47 : decode cX0_greatestTableDistance 47 = .ok (.iload_n 2, 1) := by decide +kernel
theorem dX0_greatestTableDistance_48 : decode cX0_greatestTableDistance 48 = .ok (.iaload, 1) := by decide +kernel
theorem dX0_greatestTableDistance_49 : decode cX0_greatestTableDistance 49 = .ok (.invokevirtual 50, 3) := by decide +kernel
theorem dX0_greatestTableDistance_52 : decode cX0_greatestTableDistance 52 = .ok (.aload_n 0, 1) := by decide +kernel
theorem dX0_greatestTableDistance_53 : decode cX0_greatestTableDistance 53 = .ok (.aload_n 0, 1) := by decide +kernel
theorem dX0_greatestTableDistance_54 : decode cX0_greatestTableDistance 54 = .ok (.getfield 26, 3) := by decide +kernel
theorem dX0_greatestTableDistance_57 : decode cX0_greatestTableDistance 57 = .ok (.iload_n 1, 1) := by decide +kernel
theorem dX0_greatestTableDistance_58 : decode cX0_greatestTableDistance 58 = .ok (.iaload, 1) := by decide +kernel
theorem dX0_greatestTableDistance_59 : decode cX0_greatestTableDistance 59 = .ok (.aload_n 0, 1) := by decide +kernel
theorem dX0_greatestTableDistance_60 : decode cX0_greatestTableDistance 60 = .ok (.getfield 26, 3) := by decide +kernel
theorem dX0_greatestTableDistance_63 : decode cX0_greatestTableDistance 63 = .ok (.iload_n 2, 1) := by decide +kernel
theorem dX0_greatestTableDistance_64 : decode cX0_greatestTableDistance 64 = .ok (.iaload, 1) := by decide +kernel
theorem dX0_greatestTableDistance_65 : decode cX0_greatestTableDistance 65 = .ok (.invokevirtual 50, 3) := by decide +kernel
theorem dX0_greatestTableDistance_68 : decode cX0_greatestTableDistance 68 = .ok (.invokestatic 142, 3) := by decide +kernel
theorem dX0_greatestTableDistance_71 : decode cX0_greatestTableDistance 71 = .ok (.istore 4, 2) := by decide +kernel
theorem dX0_greatestTableDistance_73 : decode cX0_greatestTableDistance 73 = .ok (.iload_n 3, 1) := by decide +kernel
theorem dX0_greatestTableDistance_74 : decode cX0_greatestTableDistance 74 = .ok (.iload 4, 2) := by decide +kernel
theorem dX0_greatestTableDistance_76 : decode cX0_greatestTableDistance 76 = .ok (.invokestatic 142, 3) := by decide +kernel
theorem dX0_greatestTableDistance_79 : decode cX0_greatestTableDistance 79 = .ok (.ireturn, 1) := by decide +kernel
theorem dX0_areWithin_0 : decode cX0_areWithin 0 = .ok (.aload_n 0, 1) := by decide +kernel
theorem dX0_areWithin_1 : decode cX0_areWithin 1 = .ok (.getfield 29, 3) := by decide +kernel
theorem dX0_areWithin_4 : decode cX0_areWithin 4 = .ok (.iload_n 1, 1) := by decide +kernel
theorem dX0_areWithin_5 : decode cX0_areWithin 5 = .ok (.iaload, 1) := by decide +kernel
theorem dX0_areWithin_6 : decode cX0_areWithin 6 = .ok (.istore_n 3, 1) := by decide +kernel
theorem dX0_areWithin_7 : decode cX0_areWithin 7 = .ok (.aload_n 0, 1) := by decide +kernel
theorem dX0_areWithin_8 : decode cX0_areWithin 8 = .ok (.getfield 26, 3) := by decide +kernel
theorem dX0_areWithin_11 : decode cX0_areWithin 11 = .ok (.iload_n 1, 1) := by decide +kernel
theorem dX0_areWithin_12 : decode cX0_areWithin 12 = .ok (.iaload, 1) := by decide +kernel
theorem dX0_areWithin_13 : decode cX0_areWithin 13 = .ok (.istore 4, 2) := by decide +kernel
theorem dX0_areWithin_15 : decode cX0_areWithin 15 = .ok (.iload_n 3, 1) := by decide +kernel
theorem dX0_areWithin_16 : decode cX0_areWithin 16 = .ok (.aload_n 2, 1) := by decide +kernel
theorem dX0_areWithin_17 : decode cX0_areWithin 17 = .ok (.aload_n 0, 1) := by decide +kernel
theorem dX0_areWithin_18 : decode cX0_areWithin 18 = .ok (.getfield 23, 3) := by decide +kernel
theorem dX0_areWithin_21 : decode cX0_areWithin 21 = .ok (.iload_n 1, 1) := by decide +kernel
theorem dX0_areWithin_22 : decode cX0_areWithin 22 = .ok (.iaload, 1) := by decide +kernel
theorem dX0_areWithin_23 : decode cX0_areWithin 23 = .ok (.iaload, 1) := by decide +kernel
theorem dX0_areWithin_24 : decode cX0_areWithin 24 = .ok (.if_icmp .gt 21, 3) := by decide +kernel
theorem dX0_areWithin_27 : decode cX0_areWithin 27 = .ok (.iload 4, 2) := by decide +kernel
theorem dX0_areWithin_29 : decode cX0_areWithin 29 = .ok (.iconst (-1), 1) := by decide +kernel
theorem dX0_areWithin_30 : decode cX0_areWithin 30 = .ok (.if_icmp .eq 11, 3) := by decide +kernel
theorem dX0_areWithin_33 : decode cX0_areWithin 33 = .ok (.iload_n 3, 1) := by decide +kernel
theorem dX0_areWithin_34 : decode cX0_areWithin 34 = .ok (.aload_n 2, 1) := by decide +kernel
theorem dX0_areWithin_35 : decode cX0_areWithin 35 = .ok (.iload 4, 2) := by decide +kernel
theorem dX0_areWithin_37 : decode cX0_areWithin 37 = .ok (.iaload, 1) := by decide +kernel
theorem dX0_areWithin_38 : decode cX0_areWithin 38 = .ok (.if_icmp .gt 7, 3) := by decide +kernel
theorem dX0_areWithin_41 : decode cX0_areWithin 41 = .ok (.iconst 1, 1) := by decide +kernel
theorem dX0_areWithin_42 : decode cX0_areWithin 42 = .ok (.goto 4, 3) := by decide +kernel
theorem dX0_areWithin_45 : decode cX0_areWithin 45 = .ok (.iconst 0, 1) := by decide +kernel
theorem dX0_areWithin_46 : decode cX0_areWithin 46 = .ok (.ireturn, 1) := by decide +kernel
theorem dX0_areExcepted_0 : decode cX0_areExcepted 0 = .ok (.aload_n 0, 1) := by decide +kernel
theorem dX0_areExcepted_1 : decode cX0_areExcepted 1 = .ok (.iload_n 1, 1) := by decide +kernel
theorem dX0_areExcepted_2 : decode cX0_areExcepted 2 = .ok (.aload_n 0, 1) := by decide +kernel
theorem dX0_areExcepted_3 : decode cX0_areExcepted 3 = .ok (.getfield 16, 3) := by decide +kernel
theorem dX0_areExcepted_6 : decode cX0_areExcepted 6 = .ok (.invokevirtual 145, 3) := by decide +kernel
theorem dX0_areExcepted_9 : decode cX0_areExcepted 9 = .ok (.ireturn, 1) := by decide +kernel
theorem dX0_areLimited_0 : decode cX0_areLimited 0 = .ok (.aload_n 0, 1) := by decide +kernel
theorem dX0_areLimited_1 : decode cX0_areLimited 1 = .ok (.iload_n 1, 1) := by decide +kernel
theorem dX0_areLimited_2 : decode cX0_areLimited 2 = .ok (.aload_n 0, 1) := by decide +kernel
theorem dX0_areLimited_3 : decode cX0_areLimited 3 = .ok (.getfield 16, 3) := by decide +kernel
theorem dX0_areLimited_6 : decode cX0_areLimited 6 = .ok (.invokevirtual 145, 3) := by decide +kernel
theorem dX0_areLimited_9 : decode cX0_areLimited 9 = .ok (.ifCond .ne 19, 3) := by decide +kernel
theorem dX0_areLimited_12 : decode cX0_areLimited 12 = .ok (.aload_n 0, 1) := by decide +kernel
theorem dX0_areLimited_13 : decode cX0_areLimited 13 = .ok (.iload_n 1, 1) := by decide +kernel
theorem dX0_areLimited_14 : decode cX0_areLimited 14 = .ok (.aload_n 0, 1) := by decide +kernel
theorem dX0_areLimited_15 : decode cX0_areLimited 15 = .ok (.getfield 13, 3) := by decide +kernel
theorem dX0_areLimited_18 : decode cX0_areLimited 18 = .ok (.invokevirtual 145, 3) := by decide +kernel
theorem dX0_areLimited_21 : decode cX0_areLimited 21 = .ok (.ifCond .eq 7, 3) := by decide +kernel
theorem dX0_areLimited_24 : decode cX0_areLimited 24 = .ok (.iconst 1, 1) := by decide +kernel
theorem dX0_areLimited_25 : decode cX0_areLimited 25 = .ok (.goto 4, 3) := by decide +kernel
theorem dX0_areLimited_28 : decode cX0_areLimited 28 = .ok (.iconst 0, 1) := by decide +kernel
theorem dX0_areLimited_29 : decode cX0_areLimited 29 = .ok (.ireturn, 1) := by decide +kernel
theorem dX0_needOf_0 : decode cX0_needOf 0 = .ok (.aload_n 0, 1) := by decide +kernel
theorem dX0_needOf_1 : decode cX0_needOf 1 = .ok (.iload_n 1, 1) := by decide +kernel
theorem dX0_needOf_2 : decode cX0_needOf 2 = .ok (.invokevirtual 81, 3) := by decide +kernel
theorem dX0_needOf_5 : decode cX0_needOf 5 = .ok (.ifCond .ne 11, 3) := by decide +kernel
theorem dX0_needOf_8 : decode cX0_needOf 8 = .ok (.aload_n 0, 1) := by decide +kernel
theorem dX0_needOf_9 : decode cX0_needOf 9 = .ok (.iload_n 2, 1) := by decide +kernel
theorem dX0_needOf_10 : decode cX0_needOf 10 = .ok (.invokevirtual 81, 3) := by decide +kernel
theorem dX0_needOf_13 : decode cX0_needOf 13 = .ok (.ifCond .eq 5, 3) := by decide +kernel
theorem dX0_needOf_16 : decode cX0_needOf 16 = .ok (.iconst 0, 1) := by decide +kernel
theorem dX0_needOf_17 : decode cX0_needOf 17 = .ok (.ireturn, 1) := by decide +kernel
theorem dX0_needOf_18 : decode cX0_needOf 18 = .ok (.aload_n 0, 1) := by decide +kernel
theorem dX0_needOf_19 : decode cX0_needOf 19 = .ok (.iload_n 1, 1) := by decide +kernel
theorem dX0_needOf_20 : decode cX0_needOf 20 = .ok (.iload_n 2, 1) := by decide +kernel
theorem dX0_needOf_21 : decode cX0_needOf 21 = .ok (.invokevirtual 149, 3) := by decide +kernel
theorem dX0_needOf_24 : decode cX0_needOf 24 = .ok (.istore_n 3, 1) := by decide +kernel
theorem dX0_needOf_25 : decode cX0_needOf 25 = .ok (.aload_n 0, 1) := by decide +kernel
theorem dX0_needOf_26 : decode cX0_needOf 26 = .ok (.iload_n 1, 1) := by decide +kernel
theorem dX0_needOf_27 : decode cX0_needOf 27 = .ok (.invokevirtual 77, 3) := by decide +kernel
theorem dX0_needOf_30 : decode cX0_needOf 30 = .ok (.ifCond .ne 11, 3) := by decide +kernel
theorem dX0_needOf_33 : decode cX0_needOf 33 = .ok (.aload_n 0, 1) := by decide +kernel
theorem dX0_needOf_34 : decode cX0_needOf 34 = .ok (.iload_n 2, 1) := by decide +kernel
theorem dX0_needOf_35 : decode cX0_needOf 35 = .ok (.invokevirtual 77, 3) := by decide +kernel
theorem dX0_needOf_38 : decode cX0_needOf 38 = .ok (.ifCond .eq 11, 3) := by decide +kernel
theorem dX0_needOf_41 : decode cX0_needOf 41 = .ok (.iload_n 3, 1) := by decide +kernel
theorem dX0_needOf_42 : decode cX0_needOf 42 = .ok (.iconst 1, 1) := by decide +kernel
theorem dX0_needOf_43 : decode cX0_needOf 43 = .ok (.isub, 1) := by decide +kernel
theorem dX0_needOf_44 : decode cX0_needOf 44 = .ok (.iconst 0, 1) := by decide +kernel
theorem dX0_needOf_45 : decode cX0_needOf 45 = .ok (.invokestatic 142, 3) := by decide +kernel
theorem dX0_needOf_48 : decode cX0_needOf 48 = .ok (.ireturn, 1) := by decide +kernel
theorem dX0_needOf_49 : decode cX0_needOf 49 = .ok (.iload_n 3, 1) := by decide +kernel
theorem dX0_needOf_50 : decode cX0_needOf 50 = .ok (.ireturn, 1) := by decide +kernel
theorem dX0_wouldBreach_0 : decode cX0_wouldBreach 0 = .ok (.iload_n 2, 1) := by decide +kernel
theorem dX0_wouldBreach_1 : decode cX0_wouldBreach 1 = .ok (.iconst (-1), 1) := by decide +kernel
theorem dX0_wouldBreach_2 : decode cX0_wouldBreach 2 = .ok (.if_icmp .eq 13, 3) := by decide +kernel
theorem dX0_wouldBreach_5 : decode cX0_wouldBreach 5 = .ok (.aload_n 0, 1) := by decide +kernel
theorem dX0_wouldBreach_6 : decode cX0_wouldBreach 6 = .ok (.getfield 32, 3) := by decide +kernel
theorem dX0_wouldBreach_9 : decode cX0_wouldBreach 9 = .ok (.iload_n 3, 1) := by decide +kernel
theorem dX0_wouldBreach_10 : decode cX0_wouldBreach 10 = .ok (.iaload, 1) := by decide +kernel
theorem dX0_wouldBreach_11 : decode cX0_wouldBreach 11 = .ok (.iconst (-1), 1) := by decide +kernel
theorem dX0_wouldBreach_12 : decode cX0_wouldBreach 12 = .ok (.if_icmp .ne 5, 3) := by decide +kernel
theorem dX0_wouldBreach_15 : decode cX0_wouldBreach 15 = .ok (.iconst 0, 1) := by decide +kernel
theorem dX0_wouldBreach_16 : decode cX0_wouldBreach 16 = .ok (.ireturn, 1) := by decide +kernel
theorem dX0_wouldBreach_17 : decode cX0_wouldBreach 17 = .ok (.iload_n 2, 1) := by decide +kernel
theorem dX0_wouldBreach_18 : decode cX0_wouldBreach 18 = .ok (.aload_n 0, 1) := by decide +kernel
theorem dX0_wouldBreach_19 : decode cX0_wouldBreach 19 = .ok (.getfield 32, 3) := by decide +kernel
theorem dX0_wouldBreach_22 : decode cX0_wouldBreach 22 = .ok (.iload_n 3, 1) := by decide +kernel
theorem dX0_wouldBreach_23 : decode cX0_wouldBreach 23 = .ok (.iaload, 1) := by decide +kernel
theorem dX0_wouldBreach_24 : decode cX0_wouldBreach 24 = .ok (.invokestatic 57, 3) := by decide +kernel
theorem dX0_wouldBreach_27 : decode cX0_wouldBreach 27 = .ok (.aload_n 0, 1) := by decide +kernel
theorem dX0_wouldBreach_28 : decode cX0_wouldBreach 28 = .ok (.iload_n 1, 1) := by decide +kernel
theorem dX0_wouldBreach_29 : decode cX0_wouldBreach 29 = .ok (.iload_n 3, 1) := by decide +kernel
theorem dX0_wouldBreach_30 : decode cX0_wouldBreach 30 = .ok (.invokevirtual 87, 3) := by decide +kernel
theorem dX0_wouldBreach_33 : decode cX0_wouldBreach 33 = .ok (.if_icmp .ge 7, 3) := by decide +kernel
theorem dX0_wouldBreach_36 : decode cX0_wouldBreach 36 = .ok (.iconst 1, 1) := by decide +kernel
theorem dX0_wouldBreach_37 : decode cX0_wouldBreach 37 = .ok (.goto 4, 3) := by decide +kernel
theorem dX0_wouldBreach_40 : decode cX0_wouldBreach 40 = .ok (.iconst 0, 1) := by decide +kernel
theorem dX0_wouldBreach_41 : decode cX0_wouldBreach 41 = .ok (.ireturn, 1) := by decide +kernel
theorem dX0_breachesAt_0 : decode cX0_breachesAt 0 = .ok (.iconst 0, 1) := by decide +kernel
theorem dX0_breachesAt_1 : decode cX0_breachesAt 1 = .ok (.istore_n 3, 1) := by decide +kernel
theorem dX0_breachesAt_2 : decode cX0_breachesAt 2 = .ok (.iconst 0, 1) := by decide +kernel
theorem dX0_breachesAt_3 : decode cX0_breachesAt 3 = .ok (.istore 4, 2) := by decide +kernel
theorem dX0_breachesAt_5 : decode cX0_breachesAt 5 = .ok (.iload 4, 2) := by decide +kernel
theorem dX0_breachesAt_7 : decode cX0_breachesAt 7 = .ok (.aload_n 0, 1) := by decide +kernel
theorem dX0_breachesAt_8 : decode cX0_breachesAt 8 = .ok (.getfield 35, 3) := by decide +kernel
theorem dX0_breachesAt_11 : decode cX0_breachesAt 11 = .ok (.if_icmp .ge 33, 3) := by decide +kernel
theorem dX0_breachesAt_14 : decode cX0_breachesAt 14 = .ok (.iload 4, 2) := by decide +kernel
theorem dX0_breachesAt_16 : decode cX0_breachesAt 16 = .ok (.iload_n 1, 1) := by decide +kernel
theorem dX0_breachesAt_17 : decode cX0_breachesAt 17 = .ok (.if_icmp .eq 21, 3) := by decide +kernel
theorem dX0_breachesAt_20 : decode cX0_breachesAt 20 = .ok (.aload_n 0, 1) := by decide +kernel
theorem dX0_breachesAt_21 : decode cX0_breachesAt 21 = .ok (.iload_n 1, 1) := by decide +kernel
theorem dX0_breachesAt_22 : decode cX0_breachesAt 22 = .ok (.iload_n 2, 1) := by decide +kernel
theorem dX0_breachesAt_23 : decode cX0_breachesAt 23 = .ok (.iload 4, 2) := by decide +kernel
theorem dX0_breachesAt_25 : decode cX0_breachesAt 25 = .ok (.invokevirtual 90, 3) := by decide +kernel
theorem dX0_breachesAt_28 : decode cX0_breachesAt 28 = .ok (.ifCond .eq 10, 3) := by decide +kernel
theorem dX0_breachesAt_31 : decode cX0_breachesAt 31 = .ok (.iload_n 3, 1) := by decide +kernel
theorem dX0_breachesAt_32 : decode cX0_breachesAt 32 = .ok (.iconst 1, 1) := by decide +kernel
theorem dX0_breachesAt_33 : decode cX0_breachesAt 33 = .ok (.iload 4, 2) := by decide +kernel
theorem dX0_breachesAt_35 : decode cX0_breachesAt 35 = .ok (.ishl, 1) := by decide +kernel
theorem dX0_breachesAt_36 : decode cX0_breachesAt 36 = .ok (.ior, 1) := by decide +kernel
theorem dX0_breachesAt_37 : decode cX0_breachesAt 37 = .ok (.istore_n 3, 1) := by decide +kernel
theorem dX0_breachesAt_38 : decode cX0_breachesAt 38 = .ok (.iinc 4 1, 3) := by decide +kernel
theorem dX0_breachesAt_41 : decode cX0_breachesAt 41 = .ok (.goto (-36), 3) := by decide +kernel
theorem dX0_breachesAt_44 : decode cX0_breachesAt 44 = .ok (.iload_n 3, 1) := by decide +kernel
theorem dX0_breachesAt_45 : decode cX0_breachesAt 45 = .ok (.ireturn, 1) := by decide +kernel
theorem dX0_isBarredFrom_0 : decode cX0_isBarredFrom 0 = .ok (.iload_n 1, 1) := by decide +kernel
theorem dX0_isBarredFrom_1 : decode cX0_isBarredFrom 1 = .ok (.iconst (-1), 1) := by decide +kernel
theorem dX0_isBarredFrom_2 : decode cX0_isBarredFrom 2 = .ok (.if_icmp .eq 20, 3) := by decide +kernel
theorem dX0_isBarredFrom_5 : decode cX0_isBarredFrom 5 = .ok (.aload_n 0, 1) := by decide +kernel
theorem dX0_isBarredFrom_6 : decode cX0_isBarredFrom 6 = .ok (.getfield 19, 3) := by decide +kernel
theorem dX0_isBarredFrom_9 : decode cX0_isBarredFrom 9 = .ok (.iload_n 1, 1) := by decide +kernel
theorem dX0_isBarredFrom_10 : decode cX0_isBarredFrom 10 = .ok (.iconst 2, 1) := by decide +kernel
theorem dX0_isBarredFrom_11 : decode cX0_isBarredFrom 11 = .ok (.imul, 1) := by decide +kernel
theorem dX0_isBarredFrom_12 : decode cX0_isBarredFrom 12 = .ok (.iload_n 2, 1) := by decide +kernel
theorem dX0_isBarredFrom_13 : decode cX0_isBarredFrom 13 = .ok (.iadd, 1) := by decide +kernel
theorem dX0_isBarredFrom_14 : decode cX0_isBarredFrom 14 = .ok (.baload, 1) := by decide +kernel
theorem dX0_isBarredFrom_15 : decode cX0_isBarredFrom 15 = .ok (.ifCond .eq 7, 3) := by decide +kernel
theorem dX0_isBarredFrom_18 : decode cX0_isBarredFrom 18 = .ok (.iconst 1, 1) := by decide +kernel
theorem dX0_isBarredFrom_19 : decode cX0_isBarredFrom 19 = .ok (.goto 4, 3) := by decide +kernel
theorem dX0_isBarredFrom_22 : decode cX0_isBarredFrom 22 = .ok (.iconst 0, 1) := by decide +kernel
theorem dX0_isBarredFrom_23 : decode cX0_isBarredFrom 23 = .ok (.ireturn, 1) := by decide +kernel
theorem dX0_wouldBeMisplaced_0 : decode cX0_wouldBeMisplaced 0 = .ok (.iload_n 2, 1) := by decide +kernel
theorem dX0_wouldBeMisplaced_1 : decode cX0_wouldBeMisplaced 1 = .ok (.iconst (-1), 1) := by decide +kernel
theorem dX0_wouldBeMisplaced_2 : decode cX0_wouldBeMisplaced 2 = .ok (.if_icmp .eq 11, 3) := by decide +kernel
theorem dX0_wouldBeMisplaced_5 : decode cX0_wouldBeMisplaced 5 = .ok (.aload_n 0, 1) := by decide +kernel
theorem dX0_wouldBeMisplaced_6 : decode cX0_wouldBeMisplaced 6 = .ok (.iload_n 1, 1) := by decide +kernel
theorem dX0_wouldBeMisplaced_7 : decode cX0_wouldBeMisplaced 7 = .ok (.invokevirtual 81, 3) := by decide +kernel
theorem dX0_wouldBeMisplaced_10 : decode cX0_wouldBeMisplaced 10 = .ok (.ifCond .eq 5, 3) := by decide +kernel
theorem dX0_wouldBeMisplaced_13 : decode cX0_wouldBeMisplaced 13 = .ok (.iconst 0, 1) := by decide +kernel
theorem dX0_wouldBeMisplaced_14 : decode cX0_wouldBeMisplaced 14 = .ok (.ireturn, 1) := by decide +kernel
theorem dX0_wouldBeMisplaced_15 : decode cX0_wouldBeMisplaced 15 = .ok (.iload_n 2, 1) := by decide +kernel
theorem dX0_wouldBeMisplaced_16 : decode cX0_wouldBeMisplaced 16 = .ok (.invokestatic 139, 3) := by decide +kernel
theorem dX0_wouldBeMisplaced_19 : decode cX0_wouldBeMisplaced 19 = .ok (.istore_n 3, 1) := by decide +kernel
theorem dX0_wouldBeMisplaced_20 : decode cX0_wouldBeMisplaced 20 = .ok (.aload_n 0, 1) := by decide +kernel
theorem dX0_wouldBeMisplaced_21 : decode cX0_wouldBeMisplaced 21 = .ok (.aload_n 0, 1) := by decide +kernel
theorem dX0_wouldBeMisplaced_22 : decode cX0_wouldBeMisplaced 22 = .ok (.getfield 23, 3) := by decide +kernel
theorem dX0_wouldBeMisplaced_25 : decode cX0_wouldBeMisplaced 25 = .ok (.iload_n 1, 1) := by decide +kernel
theorem dX0_wouldBeMisplaced_26 : decode cX0_wouldBeMisplaced 26 = .ok (.iaload, 1) := by decide +kernel
theorem dX0_wouldBeMisplaced_27 : decode cX0_wouldBeMisplaced 27 = .ok (.iload_n 3, 1) := by decide +kernel
theorem dX0_wouldBeMisplaced_28 : decode cX0_wouldBeMisplaced 28 = .ok (.invokevirtual 152, 3) := by decide +kernel
theorem dX0_wouldBeMisplaced_31 : decode cX0_wouldBeMisplaced 31 = .ok (.ifCond .ne 17, 3) := by decide +kernel
theorem dX0_wouldBeMisplaced_34 : decode cX0_wouldBeMisplaced 34 = .ok (.aload_n 0, 1) := by decide +kernel
theorem dX0_wouldBeMisplaced_35 : decode cX0_wouldBeMisplaced 35 = .ok (.aload_n 0, 1) := by decide +kernel
theorem dX0_wouldBeMisplaced_36 : decode cX0_wouldBeMisplaced 36 = .ok (.getfield 26, 3) := by decide +kernel
theorem dX0_wouldBeMisplaced_39 : decode cX0_wouldBeMisplaced 39 = .ok (.iload_n 1, 1) := by decide +kernel
theorem dX0_wouldBeMisplaced_40 : decode cX0_wouldBeMisplaced 40 = .ok (.iaload, 1) := by decide +kernel
theorem dX0_wouldBeMisplaced_41 : decode cX0_wouldBeMisplaced 41 = .ok (.iload_n 3, 1) := by decide +kernel
theorem dX0_wouldBeMisplaced_42 : decode cX0_wouldBeMisplaced 42 = .ok (.invokevirtual 152, 3) := by decide +kernel
theorem dX0_wouldBeMisplaced_45 : decode cX0_wouldBeMisplaced 45 = .ok (.ifCond .eq 7, 3) := by decide +kernel
theorem dX0_wouldBeMisplaced_48 : decode cX0_wouldBeMisplaced 48 = .ok (.iconst 1, 1) := by decide +kernel
theorem dX0_wouldBeMisplaced_49 : decode cX0_wouldBeMisplaced 49 = .ok (.goto 4, 3) := by decide +kernel
theorem dX0_wouldBeMisplaced_52 : decode cX0_wouldBeMisplaced 52 = .ok (.iconst 0, 1) := by decide +kernel
theorem dX0_wouldBeMisplaced_53 : decode cX0_wouldBeMisplaced 53 = .ok (.ireturn, 1) := by decide +kernel
theorem dX0_wouldBeClean_0 : decode cX0_wouldBeClean 0 = .ok (.aload_n 0, 1) := by decide +kernel
theorem dX0_wouldBeClean_1 : decode cX0_wouldBeClean 1 = .ok (.iload_n 1, 1) := by decide +kernel
theorem dX0_wouldBeClean_2 : decode cX0_wouldBeClean 2 = .ok (.iload_n 2, 1) := by decide +kernel
theorem dX0_wouldBeClean_3 : decode cX0_wouldBeClean 3 = .ok (.invokevirtual 94, 3) := by decide +kernel
theorem dX0_wouldBeClean_6 : decode cX0_wouldBeClean 6 = .ok (.ifCond .ne 16, 3) := by decide +kernel
theorem dX0_wouldBeClean_9 : decode cX0_wouldBeClean 9 = .ok (.aload_n 0, 1) := by decide +kernel
theorem dX0_wouldBeClean_10 : decode cX0_wouldBeClean 10 = .ok (.iload_n 1, 1) := by decide +kernel
theorem dX0_wouldBeClean_11 : decode cX0_wouldBeClean 11 = .ok (.iload_n 2, 1) := by decide +kernel
theorem dX0_wouldBeClean_12 : decode cX0_wouldBeClean 12 = .ok (.invokevirtual 98, 3) := by decide +kernel
theorem dX0_wouldBeClean_15 : decode cX0_wouldBeClean 15 = .ok (.ifCond .ne 7, 3) := by decide +kernel
theorem dX0_wouldBeClean_18 : decode cX0_wouldBeClean 18 = .ok (.iconst 1, 1) := by decide +kernel
theorem dX0_wouldBeClean_19 : decode cX0_wouldBeClean 19 = .ok (.goto 4, 3) := by decide +kernel
theorem dX0_wouldBeClean_22 : decode cX0_wouldBeClean 22 = .ok (.iconst 0, 1) := by decide +kernel
theorem dX0_wouldBeClean_23 : decode cX0_wouldBeClean 23 = .ok (.ireturn, 1) := by decide +kernel
theorem dX0_leastLeaving_0 : decode cX0_leastLeaving 0 = .ok (.iconst 0, 1) := by decide +kernel
theorem dX0_leastLeaving_1 : decode cX0_leastLeaving 1 = .ok (.istore_n 1, 1) := by decide +kernel
theorem dX0_leastLeaving_2 : decode cX0_leastLeaving 2 = .ok (.iconst 0, 1) := by decide +kernel
theorem dX0_leastLeaving_3 : decode cX0_leastLeaving 3 = .ok (.istore_n 2, 1) := by decide +kernel
theorem dX0_leastLeaving_4 : decode cX0_leastLeaving 4 = .ok (.iconst 0, 1) := by decide +kernel
theorem dX0_leastLeaving_5 : decode cX0_leastLeaving 5 = .ok (.istore_n 3, 1) := by decide +kernel
theorem dX0_leastLeaving_6 : decode cX0_leastLeaving 6 = .ok (.iload_n 3, 1) := by decide +kernel
theorem dX0_leastLeaving_7 : decode cX0_leastLeaving 7 = .ok (.aload_n 0, 1) := by decide +kernel
theorem dX0_leastLeaving_8 : decode cX0_leastLeaving 8 = .ok (.getfield 35, 3) := by decide +kernel
theorem dX0_leastLeaving_11 : decode cX0_leastLeaving 11 = .ok (.if_icmp .ge 62, 3) := by decide +kernel
theorem dX0_leastLeaving_14 : decode cX0_leastLeaving 14 = .ok (.aload_n 0, 1) := by decide +kernel
theorem dX0_leastLeaving_15 : decode cX0_leastLeaving 15 = .ok (.getfield 39, 3) := by decide +kernel
theorem dX0_leastLeaving_18 : decode cX0_leastLeaving 18 = .ok (.iload_n 3, 1) := by decide +kernel
theorem dX0_leastLeaving_19 : decode cX0_leastLeaving 19 = .ok (.aload_n 0, 1) := by decide +kernel
theorem dX0_leastLeaving_20 : decode cX0_leastLeaving 20 = .ok (.iload_n 3, 1) := by decide +kernel
theorem dX0_leastLeaving_21 : decode cX0_leastLeaving 21 = .ok (.aload_n 0, 1) := by decide +kernel
theorem dX0_leastLeaving_22 : decode cX0_leastLeaving 22 = .ok (.getfield 32, 3) := by decide +kernel
theorem dX0_leastLeaving_25 : decode cX0_leastLeaving 25 = .ok (.iload_n 3, 1) := by decide +kernel
theorem dX0_leastLeaving_26 : decode cX0_leastLeaving 26 = .ok (.iaload, 1) := by decide +kernel
theorem dX0_leastLeaving_27 : decode cX0_leastLeaving 27 = .ok (.invokevirtual 98, 3) := by decide +kernel
theorem dX0_leastLeaving_30 : decode cX0_leastLeaving 30 = .ok (.iastore, 1) := by decide +kernel
theorem dX0_leastLeaving_31 : decode cX0_leastLeaving 31 = .ok (.aload_n 0, 1) := by decide +kernel
theorem dX0_leastLeaving_32 : decode cX0_leastLeaving 32 = .ok (.getfield 32, 3) := by decide +kernel
theorem dX0_leastLeaving_35 : decode cX0_leastLeaving 35 = .ok (.iload_n 3, 1) := by decide +kernel
theorem dX0_leastLeaving_36 : decode cX0_leastLeaving 36 = .ok (.iaload, 1) := by decide +kernel
theorem dX0_leastLeaving_37 : decode cX0_leastLeaving 37 = .ok (.iconst (-1), 1) := by decide +kernel
theorem dX0_leastLeaving_38 : decode cX0_leastLeaving 38 = .ok (.if_icmp .eq 9, 3) := by decide +kernel
theorem dX0_leastLeaving_41 : decode cX0_leastLeaving 41 = .ok (.iload_n 1, 1) := by decide +kernel
theorem dX0_leastLeaving_42 : decode cX0_leastLeaving 42 = .ok (.iconst 1, 1) := by decide +kernel
theorem dX0_leastLeaving_43 : decode cX0_leastLeaving 43 = .ok (.iload_n 3, 1) := by decide +kernel
theorem dX0_leastLeaving_44 : decode cX0_leastLeaving 44 = .ok (.ishl, 1) := by decide +kernel
theorem dX0_leastLeaving_45 : decode cX0_leastLeaving 45 = .ok (.ior, 1) := by decide +kernel
theorem dX0_leastLeaving_46 : decode cX0_leastLeaving 46 = .ok (.istore_n 1, 1) := by decide +kernel
theorem dX0_leastLeaving_47 : decode cX0_leastLeaving 47 = .ok (.aload_n 0, 1) := by decide +kernel
theorem dX0_leastLeaving_48 : decode cX0_leastLeaving 48 = .ok (.iload_n 3, 1) := by decide +kernel
theorem dX0_leastLeaving_49 : decode cX0_leastLeaving 49 = .ok (.aload_n 0, 1) := by decide +kernel
theorem dX0_leastLeaving_50 : decode cX0_leastLeaving 50 = .ok (.getfield 32, 3) := by decide +kernel
theorem dX0_leastLeaving_53 : decode cX0_leastLeaving 53 = .ok (.iload_n 3, 1) := by decide +kernel
theorem dX0_leastLeaving_54 : decode cX0_leastLeaving 54 = .ok (.iaload, 1) := by decide +kernel
theorem dX0_leastLeaving_55 : decode cX0_leastLeaving 55 = .ok (.invokevirtual 94, 3) := by decide +kernel
theorem dX0_leastLeaving_58 : decode cX0_leastLeaving 58 = .ok (.ifCond .eq 9, 3) := by decide +kernel
theorem dX0_leastLeaving_61 : decode cX0_leastLeaving 61 = .ok (.iload_n 2, 1) := by decide +kernel
theorem dX0_leastLeaving_62 : decode cX0_leastLeaving 62 = .ok (.iconst 1, 1) := by decide +kernel
theorem dX0_leastLeaving_63 : decode cX0_leastLeaving 63 = .ok (.iload_n 3, 1) := by decide +kernel
theorem dX0_leastLeaving_64 : decode cX0_leastLeaving 64 = .ok (.ishl, 1) := by decide +kernel
theorem dX0_leastLeaving_65 : decode cX0_leastLeaving 65 = .ok (.ior, 1) := by decide +kernel
theorem dX0_leastLeaving_66 : decode cX0_leastLeaving 66 = .ok (.istore_n 2, 1) := by decide +kernel
theorem dX0_leastLeaving_67 : decode cX0_leastLeaving 67 = .ok (.iinc 3 1, 3) := by decide +kernel
theorem dX0_leastLeaving_70 : decode cX0_leastLeaving 70 = .ok (.goto (-64), 3) := by decide +kernel
theorem dX0_leastLeaving_73 : decode cX0_leastLeaving 73 = .ok (.aload_n 0, 1) := by decide +kernel
theorem dX0_leastLeaving_74 : decode cX0_leastLeaving 74 = .ok (.getfield 39, 3) := by decide +kernel
theorem dX0_leastLeaving_77 : decode cX0_leastLeaving 77 = .ok (.aload_n 0, 1) := by decide +kernel
theorem dX0_leastLeaving_78 : decode cX0_leastLeaving 78 = .ok (.getfield 35, 3) := by decide +kernel
theorem dX0_leastLeaving_81 : decode cX0_leastLeaving 81 = .ok (.iconst 1, 1) := by decide +kernel
theorem dX0_leastLeaving_82 : decode cX0_leastLeaving 82 = .ok (.isub, 1) := by decide +kernel
theorem dX0_leastLeaving_83 : decode cX0_leastLeaving 83 = .ok (.iload_n 2, 1) := by decide +kernel
theorem dX0_leastLeaving_84 : decode cX0_leastLeaving 84 = .ok (.iload_n 1, 1) := by decide +kernel
theorem dX0_leastLeaving_85 : decode cX0_leastLeaving 85 = .ok (.invokestatic 155, 3) := by decide +kernel
theorem dX0_leastLeaving_88 : decode cX0_leastLeaving 88 = .ok (.ireturn, 1) := by decide +kernel
theorem dX0_searchLeaving_0 : decode cX0_searchLeaving 0 = .ok (.iload_n 2, 1) := by decide +kernel
theorem dX0_searchLeaving_1 : decode cX0_searchLeaving 1 = .ok (.invokestatic 108, 3) := by decide +kernel
theorem dX0_searchLeaving_4 : decode cX0_searchLeaving 4 = .ok (.iload_n 3, 1) := by decide +kernel
theorem dX0_searchLeaving_5 : decode cX0_searchLeaving 5 = .ok (.invokestatic 108, 3) := by decide +kernel
theorem dX0_searchLeaving_8 : decode cX0_searchLeaving 8 = .ok (.if_icmp .lt 5, 3) := by decide +kernel
theorem dX0_searchLeaving_11 : decode cX0_searchLeaving 11 = .ok (.iload_n 3, 1) := by decide +kernel
theorem dX0_searchLeaving_12 : decode cX0_searchLeaving 12 = .ok (.ireturn, 1) := by decide +kernel
theorem dX0_searchLeaving_13 : decode cX0_searchLeaving 13 = .ok (.iload_n 1, 1) := by decide +kernel
theorem dX0_searchLeaving_14 : decode cX0_searchLeaving 14 = .ok (.ifCond .lt 9, 3) := by decide +kernel
theorem dX0_searchLeaving_17 : decode cX0_searchLeaving 17 = .ok (.iload_n 1, 1) := by decide +kernel
theorem dX0_searchLeaving_18 : decode cX0_searchLeaving 18 = .ok (.aload_n 0, 1) := by decide +kernel
theorem dX0_searchLeaving_19 : decode cX0_searchLeaving 19 = .ok (.arraylength, 1) := by decide +kernel
theorem dX0_searchLeaving_20 : decode cX0_searchLeaving 20 = .ok (.if_icmp .lt 5, 3) := by decide +kernel
theorem dX0_searchLeaving_23 : decode cX0_searchLeaving 23 = .ok (.iload_n 2, 1) := by decide +kernel
theorem dX0_searchLeaving_24 : decode cX0_searchLeaving 24 = .ok (.ireturn, 1) := by decide +kernel
theorem dX0_searchLeaving_25 : decode cX0_searchLeaving 25 = .ok (.iconst 1, 1) := by decide +kernel
theorem dX0_searchLeaving_26 : decode cX0_searchLeaving 26 = .ok (.iload_n 1, 1) := by decide +kernel
theorem dX0_searchLeaving_27 : decode cX0_searchLeaving 27 = .ok (.ishl, 1) := by decide +kernel
theorem dX0_searchLeaving_28 : decode cX0_searchLeaving 28 = .ok (.istore 4, 2) := by decide +kernel
theorem dX0_searchLeaving_30 : decode cX0_searchLeaving 30 = .ok (.iload_n 2, 1) := by decide +kernel
theorem dX0_searchLeaving_31 : decode cX0_searchLeaving 31 = .ok (.iload 4, 2) := by decide +kernel
theorem dX0_searchLeaving_33 : decode cX0_searchLeaving 33 = .ok (.iand, 1) := by decide +kernel
theorem dX0_searchLeaving_34 : decode cX0_searchLeaving 34 = .ok (.ifCond .eq 13, 3) := by decide +kernel
theorem dX0_searchLeaving_37 : decode cX0_searchLeaving 37 = .ok (.aload_n 0, 1) := by decide +kernel
theorem dX0_searchLeaving_38 : decode cX0_searchLeaving 38 = .ok (.iload_n 1, 1) := by decide +kernel
theorem dX0_searchLeaving_39 : decode cX0_searchLeaving 39 = .ok (.iconst 1, 1) := by decide +kernel
theorem dX0_searchLeaving_40 : decode cX0_searchLeaving 40 = .ok (.isub, 1) := by decide +kernel
theorem dX0_searchLeaving_41 : decode cX0_searchLeaving 41 = .ok (.iload_n 2, 1) := by decide +kernel
theorem dX0_searchLeaving_42 : decode cX0_searchLeaving 42 = .ok (.iload_n 3, 1) := by decide +kernel
theorem dX0_searchLeaving_43 : decode cX0_searchLeaving 43 = .ok (.invokestatic 155, 3) := by decide +kernel
theorem dX0_searchLeaving_46 : decode cX0_searchLeaving 46 = .ok (.ireturn, 1) := by decide +kernel
theorem dX0_searchLeaving_47 : decode cX0_searchLeaving 47 = .ok (.aload_n 0, 1) := by decide +kernel
theorem dX0_searchLeaving_48 : decode cX0_searchLeaving 48 = .ok (.iload_n 1, 1) := by decide +kernel
theorem dX0_searchLeaving_49 : decode cX0_searchLeaving 49 = .ok (.iconst 1, 1) := by decide +kernel
theorem dX0_searchLeaving_50 : decode cX0_searchLeaving 50 = .ok (.isub, 1) := by decide +kernel
theorem dX0_searchLeaving_51 : decode cX0_searchLeaving 51 = .ok (.iload_n 2, 1) := by decide +kernel
theorem dX0_searchLeaving_52 : decode cX0_searchLeaving 52 = .ok (.aload_n 0, 1) := by decide +kernel
theorem dX0_searchLeaving_53 : decode cX0_searchLeaving 53 = .ok (.iload_n 1, 1) := by decide +kernel
theorem dX0_searchLeaving_54 : decode cX0_searchLeaving 54 = .ok (.iaload, 1) := by decide +kernel
theorem dX0_searchLeaving_55 : decode cX0_searchLeaving 55 = .ok (.ior, 1) := by decide +kernel
theorem dX0_searchLeaving_56 : decode cX0_searchLeaving 56 = .ok (.iload_n 3, 1) := by decide +kernel
theorem dX0_searchLeaving_57 : decode cX0_searchLeaving 57 = .ok (.invokestatic 155, 3) := by decide +kernel
theorem dX0_searchLeaving_60 : decode cX0_searchLeaving 60 = .ok (.istore 5, 2) := by decide +kernel
theorem dX0_searchLeaving_62 : decode cX0_searchLeaving 62 = .ok (.aload_n 0, 1) := by decide +kernel
theorem dX0_searchLeaving_63 : decode cX0_searchLeaving 63 = .ok (.iload_n 1, 1) := by decide +kernel
theorem dX0_searchLeaving_64 : decode cX0_searchLeaving 64 = .ok (.iaload, 1) := by decide +kernel
theorem dX0_searchLeaving_65 : decode cX0_searchLeaving 65 = .ok (.iload_n 2, 1) := by decide +kernel
theorem dX0_searchLeaving_66 : decode cX0_searchLeaving 66 = .ok (.iconst (-1), 1) := by decide +kernel
theorem dX0_searchLeaving_67 : decode cX0_searchLeaving 67 = .ok (.ixor, 1) := by decide +kernel
theorem dX0_searchLeaving_68 : decode cX0_searchLeaving 68 = .ok (.iand, 1) := by decide +kernel
theorem dX0_searchLeaving_69 : decode cX0_searchLeaving 69 = .ok (.ifCond .ne 6, 3) := by decide +kernel
theorem dX0_searchLeaving_72 : decode cX0_searchLeaving 72 = .ok (.iload 5, 2) := by decide +kernel
theorem dX0_searchLeaving_74 : decode cX0_searchLeaving 74 = .ok (.ireturn, 1) := by decide +kernel
theorem dX0_searchLeaving_75 : decode cX0_searchLeaving 75 = .ok (.aload_n 0, 1) := by decide +kernel
theorem dX0_searchLeaving_76 : decode cX0_searchLeaving 76 = .ok (.iload_n 1, 1) := by decide +kernel
theorem dX0_searchLeaving_77 : decode cX0_searchLeaving 77 = .ok (.iconst 1, 1) := by decide +kernel
theorem dX0_searchLeaving_78 : decode cX0_searchLeaving 78 = .ok (.isub, 1) := by decide +kernel
theorem dX0_searchLeaving_79 : decode cX0_searchLeaving 79 = .ok (.iload_n 2, 1) := by decide +kernel
theorem dX0_searchLeaving_80 : decode cX0_searchLeaving 80 = .ok (.iload 4, 2) := by decide +kernel
theorem dX0_searchLeaving_82 : decode cX0_searchLeaving 82 = .ok (.ior, 1) := by decide +kernel
theorem dX0_searchLeaving_83 : decode cX0_searchLeaving 83 = .ok (.iload 5, 2) := by decide +kernel
theorem dX0_searchLeaving_85 : decode cX0_searchLeaving 85 = .ok (.invokestatic 155, 3) := by decide +kernel
theorem dX0_searchLeaving_88 : decode cX0_searchLeaving 88 = .ok (.ireturn, 1) := by decide +kernel
