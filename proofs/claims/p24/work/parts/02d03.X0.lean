theorem dX0_init_0 : decode cX0_init 0 = .ok (.aload_n 0, 1) := by decide +kernel
theorem dX0_init_1 : decode cX0_init 1 = .ok (.invokespecial 3, 3) := by decide +kernel
theorem dX0_init_4 : decode cX0_init 4 = .ok (.aload_n 0, 1) := by decide +kernel
theorem dX0_init_5 : decode cX0_init 5 = .ok (.bipush 100, 2) := by decide +kernel
theorem dX0_init_7 : decode cX0_init 7 = .ok (.newarray .int, 2) := by decide +kernel
theorem dX0_init_9 : decode cX0_init 9 = .ok (.putfield 9, 3) := by decide +kernel
theorem dX0_init_12 : decode cX0_init 12 = .ok (.aload_n 0, 1) := by decide +kernel
theorem dX0_init_13 : decode cX0_init 13 = .ok (.bipush 10, 2) := by decide +kernel
theorem dX0_init_15 : decode cX0_init 15 = .ok (.newarray .int, 2) := by decide +kernel
theorem dX0_init_17 : decode cX0_init 17 = .ok (.putfield 13, 3) := by decide +kernel
theorem dX0_init_20 : decode cX0_init 20 = .ok (.aload_n 0, 1) := by decide +kernel
theorem dX0_init_21 : decode cX0_init 21 = .ok (.bipush 10, 2) := by decide +kernel
theorem dX0_init_23 : decode cX0_init 23 = .ok (.newarray .int, 2) := by decide +kernel
theorem dX0_init_25 : decode cX0_init 25 = .ok (.putfield 16, 3) := by decide +kernel
theorem dX0_init_28 : decode cX0_init 28 = .ok (.aload_n 0, 1) := by decide +kernel
theorem dX0_init_29 : decode cX0_init 29 = .ok (.bipush 20, 2) := by decide +kernel
theorem dX0_init_31 : decode cX0_init 31 = .ok (.newarray .boolean, 2) := by decide +kernel
theorem dX0_init_33 : decode cX0_init 33 = .ok (.putfield 19, 3) := by decide +kernel
theorem dX0_init_36 : decode cX0_init 36 = .ok (.aload_n 0, 1) := by decide +kernel
theorem dX0_init_37 : decode cX0_init 37 = .ok (.bipush 16, 2) := by decide +kernel
theorem dX0_init_39 : decode cX0_init 39 = .ok (.newarray .int, 2) := by decide +kernel
theorem dX0_init_41 : decode cX0_init 41 = .ok (.putfield 23, 3) := by decide +kernel
theorem dX0_init_44 : decode cX0_init 44 = .ok (.aload_n 0, 1) := by decide +kernel
theorem dX0_init_45 : decode cX0_init 45 = .ok (.bipush 16, 2) := by decide +kernel
theorem dX0_init_47 : decode cX0_init 47 = .ok (.newarray .int, 2) := by decide +kernel
theorem dX0_init_49 : decode cX0_init 49 = .ok (.putfield 26, 3) := by decide +kernel
theorem dX0_init_52 : decode cX0_init 52 = .ok (.aload_n 0, 1) := by decide +kernel
theorem dX0_init_53 : decode cX0_init 53 = .ok (.bipush 16, 2) := by decide +kernel
theorem dX0_init_55 : decode cX0_init 55 = .ok (.newarray .int, 2) := by decide +kernel
theorem dX0_init_57 : decode cX0_init 57 = .ok (.putfield 29, 3) := by decide +kernel
theorem dX0_init_60 : decode cX0_init 60 = .ok (.aload_n 0, 1) := by decide +kernel
theorem dX0_init_61 : decode cX0_init 61 = .ok (.bipush 16, 2) := by decide +kernel
theorem dX0_init_63 : decode cX0_init 63 = .ok (.newarray .int, 2) := by decide +kernel
theorem dX0_init_65 : decode cX0_init 65 = .ok (.putfield 32, 3) := by decide +kernel
theorem dX0_init_68 : decode cX0_init 68 = .ok (.aload_n 0, 1) := by decide +kernel
theorem dX0_init_69 : decode cX0_init 69 = .ok (.iconst 0, 1) := by decide +kernel
theorem dX0_init_70 : decode cX0_init 70 = .ok (.putfield 35, 3) := by decide +kernel
theorem dX0_init_73 : decode cX0_init 73 = .ok (.aload_n 0, 1) := by decide +kernel
theorem dX0_init_74 : decode cX0_init 74 = .ok (.bipush 16, 2) := by decide +kernel
theorem dX0_init_76 : decode cX0_init 76 = .ok (.newarray .int, 2) := by decide +kernel
theorem dX0_init_78 : decode cX0_init 78 = .ok (.putfield 39, 3) := by decide +kernel
theorem dX0_init_81 : decode cX0_init 81 = .ok (.return_, 1) := by decide +kernel
theorem dX0_setDistance_0 : decode cX0_setDistance 0 = .ok (.iload_n 1, 1) := by decide +kernel
theorem dX0_setDistance_1 : decode cX0_setDistance 1 = .ok (.invokestatic 42, 3) := by decide +kernel
theorem dX0_setDistance_4 : decode cX0_setDistance 4 = .ok (.iload_n 2, 1) := by decide +kernel
theorem dX0_setDistance_5 : decode cX0_setDistance 5 = .ok (.invokestatic 42, 3) := by decide +kernel
theorem dX0_setDistance_8 : decode cX0_setDistance 8 = .ok (.iload_n 3, 1) := by decide +kernel
theorem dX0_setDistance_9 : decode cX0_setDistance 9 = .ok (.iconst 0, 1) := by decide +kernel
theorem dX0_setDistance_10 : decode cX0_setDistance 10 = .ok (.iconst 4, 1) := by decide +kernel
theorem dX0_setDistance_11 : decode cX0_setDistance 11 = .ok (.invokestatic 46, 3) := by decide +kernel
theorem dX0_setDistance_14 : decode cX0_setDistance 14 = .ok (.aload_n 0, 1) := by decide +kernel
theorem dX0_setDistance_15 : decode cX0_setDistance 15 = .ok (.iload_n 1, 1) := by decide +kernel
theorem dX0_setDistance_16 : decode cX0_setDistance 16 = .ok (.iload_n 2, 1) := by decide +kernel
theorem dX0_setDistance_17 : decode cX0_setDistance 17 = .ok (.invokevirtual 50, 3) := by decide +kernel
theorem dX0_setDistance_20 : decode cX0_setDistance 20 = .ok (.istore 4, 2) := by decide +kernel
theorem dX0_setDistance_22 : decode cX0_setDistance 22 = .ok (.aload_n 0, 1) := by decide +kernel
theorem dX0_setDistance_23 : decode cX0_setDistance 23 = .ok (.getfield 9, 3) := by decide +kernel
theorem dX0_setDistance_26 : decode cX0_setDistance 26 = .ok (.iload_n 1, 1) := by decide +kernel
theorem dX0_setDistance_27 : decode cX0_setDistance 27 = .ok (.bipush 10, 2) := by decide +kernel
theorem dX0_setDistance_29 : decode cX0_setDistance 29 = .ok (.imul, 1) := by decide +kernel
theorem dX0_setDistance_30 : decode cX0_setDistance 30 = .ok (.iload_n 2, 1) := by decide +kernel
theorem dX0_setDistance_31 : decode cX0_setDistance 31 = .ok (.iadd, 1) := by decide +kernel
theorem dX0_setDistance_32 : decode cX0_setDistance 32 = .ok (.iload_n 3, 1) := by decide +kernel
theorem dX0_setDistance_33 : decode cX0_setDistance 33 = .ok (.iastore, 1) := by decide +kernel
theorem dX0_setDistance_34 : decode cX0_setDistance 34 = .ok (.aload_n 0, 1) := by decide +kernel
theorem dX0_setDistance_35 : decode cX0_setDistance 35 = .ok (.getfield 9, 3) := by decide +kernel
theorem dX0_setDistance_38 : decode cX0_setDistance 38 = .ok (.iload_n 2, 1) := by decide +kernel
theorem dX0_setDistance_39 : decode cX0_setDistance 39 = .ok (.bipush 10, 2) := by decide +kernel
theorem dX0_setDistance_41 : decode cX0_setDistance 41 = .ok (.imul, 1) := by decide +kernel
theorem dX0_setDistance_42 : decode cX0_setDistance 42 = .ok (.iload_n 1, 1) := by decide +kernel
theorem dX0_setDistance_43 : decode cX0_setDistance 43 = .ok (.iadd, 1) := by decide +kernel
theorem dX0_setDistance_44 : decode cX0_setDistance 44 = .ok (.iload_n 3, 1) := by decide +kernel
theorem dX0_setDistance_45 : decode cX0_setDistance 45 = .ok (.iastore, 1) := by decide +kernel
theorem dX0_setDistance_46 : decode cX0_setDistance 46 = .ok (.iload 4, 2) := by decide +kernel
theorem dX0_setDistance_48 : decode cX0_setDistance 48 = .ok (.ireturn, 1) := by decide +kernel
theorem dX0_setQuantities_0 : decode cX0_setQuantities 0 = .ok (.iload_n 1, 1) := by decide +kernel
theorem dX0_setQuantities_1 : decode cX0_setQuantities 1 = .ok (.invokestatic 42, 3) := by decide +kernel
theorem dX0_setQuantities_4 : decode cX0_setQuantities 4 = .ok (.iload_n 2, 1) := by decide +kernel
theorem dX0_setQuantities_5 : decode cX0_setQuantities 5 = .ok (.iconst 0, 1) := by decide +kernel
theorem dX0_setQuantities_6 : decode cX0_setQuantities 6 = .ok (.sipush 10000, 3) := by decide +kernel
theorem dX0_setQuantities_9 : decode cX0_setQuantities 9 = .ok (.invokestatic 46, 3) := by decide +kernel
theorem dX0_setQuantities_12 : decode cX0_setQuantities 12 = .ok (.iload_n 3, 1) := by decide +kernel
theorem dX0_setQuantities_13 : decode cX0_setQuantities 13 = .ok (.iconst 0, 1) := by decide +kernel
theorem dX0_setQuantities_14 : decode cX0_setQuantities 14 = .ok (.iload_n 2, 1) := by decide +kernel
theorem dX0_setQuantities_15 : decode cX0_setQuantities 15 = .ok (.invokestatic 46, 3) := by decide +kernel
theorem dX0_setQuantities_18 : decode cX0_setQuantities 18 = .ok (.aload_n 0, 1) := by decide +kernel
theorem dX0_setQuantities_19 : decode cX0_setQuantities 19 = .ok (.getfield 13, 3) := by decide +kernel
theorem dX0_setQuantities_22 : decode cX0_setQuantities 22 = .ok (.iload_n 1, 1) := by decide +kernel
theorem dX0_setQuantities_23 : decode cX0_setQuantities 23 = .ok (.iload_n 2, 1) := by decide +kernel
theorem dX0_setQuantities_24 : decode cX0_setQuantities 24 = .ok (.iastore, 1) := by decide +kernel
theorem dX0_setQuantities_25 : decode cX0_setQuantities 25 = .ok (.aload_n 0, 1) := by decide +kernel
theorem dX0_setQuantities_26 : decode cX0_setQuantities 26 = .ok (.getfield 16, 3) := by decide +kernel
theorem dX0_setQuantities_29 : decode cX0_setQuantities 29 = .ok (.iload_n 1, 1) := by decide +kernel
theorem dX0_setQuantities_30 : decode cX0_setQuantities 30 = .ok (.iload_n 3, 1) := by decide +kernel
theorem dX0_setQuantities_31 : decode cX0_setQuantities 31 = .ok (.iastore, 1) := by decide +kernel
theorem dX0_setQuantities_32 : decode cX0_setQuantities 32 = .ok (.return_, 1) := by decide +kernel
theorem dX0_bar_0 : decode cX0_bar 0 = .ok (.iload_n 1, 1) := by decide +kernel
theorem dX0_bar_1 : decode cX0_bar 1 = .ok (.invokestatic 42, 3) := by decide +kernel
theorem dX0_bar_4 : decode cX0_bar 4 = .ok (.iload_n 2, 1) := by decide +kernel
theorem dX0_bar_5 : decode cX0_bar 5 = .ok (.iconst 0, 1) := by decide +kernel
theorem dX0_bar_6 : decode cX0_bar 6 = .ok (.iconst 1, 1) := by decide +kernel
theorem dX0_bar_7 : decode cX0_bar 7 = .ok (.invokestatic 46, 3) := by decide +kernel
theorem dX0_bar_10 : decode cX0_bar 10 = .ok (.iload_n 1, 1) := by decide +kernel
theorem dX0_bar_11 : decode cX0_bar 11 = .ok (.iconst 2, 1) := by decide +kernel
theorem dX0_bar_12 : decode cX0_bar 12 = .ok (.imul, 1) := by decide +kernel
theorem dX0_bar_13 : decode cX0_bar 13 = .ok (.iload_n 2, 1) := by decide +kernel
theorem dX0_bar_14 : decode cX0_bar 14 = .ok (.iadd, 1) := by decide +kernel
theorem dX0_bar_15 : decode cX0_bar 15 = .ok (.istore 4, 2) := by decide +kernel
theorem dX0_bar_17 : decode cX0_bar 17 = .ok (.aload_n 0, 1) := by decide +kernel
theorem dX0_bar_18 : decode cX0_bar 18 = .ok (.getfield 19, 3) := by decide +kernel
theorem dX0_bar_21 : decode cX0_bar 21 = .ok (.iload 4, 2) := by decide +kernel
theorem dX0_bar_23 : decode cX0_bar 23 = .ok (.baload, 1) := by decide +kernel
theorem dX0_bar_24 : decode cX0_bar 24 = .ok (.istore 5, 2) := by decide +kernel
theorem dX0_bar_26 : decode cX0_bar 26 = .ok (.aload_n 0, 1) := by decide +kernel
theorem dX0_bar_27 : decode cX0_bar 27 = .ok (.getfield 19, 3) := by decide +kernel
theorem dX0_bar_30 : decode cX0_bar 30 = .ok (.iload 4, 2) := by decide +kernel
theorem dX0_bar_32 : decode cX0_bar 32 = .ok (.iload_n 3, 1) := by decide +kernel
theorem dX0_bar_33 : decode cX0_bar 33 = .ok (.bastore, 1) := by decide +kernel
theorem dX0_bar_34 : decode cX0_bar 34 = .ok (.iload 5, 2) := by decide +kernel
theorem dX0_bar_36 : decode cX0_bar 36 = .ok (.ireturn, 1) := by decide +kernel
theorem dX0_distance_0 : decode cX0_distance 0 = .ok (.iload_n 1, 1) := by decide +kernel
theorem dX0_distance_1 : decode cX0_distance 1 = .ok (.invokestatic 54, 3) := by decide +kernel
theorem dX0_distance_4 : decode cX0_distance 4 = .ok (.iload_n 2, 1) := by decide +kernel
theorem dX0_distance_5 : decode cX0_distance 5 = .ok (.invokestatic 54, 3) := by decide +kernel
theorem dX0_distance_8 : decode cX0_distance 8 = .ok (.iload_n 1, 1) := by decide +kernel
theorem dX0_distance_9 : decode cX0_distance 9 = .ok (.iload_n 2, 1) := by decide +kernel
theorem dX0_distance_10 : decode cX0_distance 10 = .ok (.invokestatic 57, 3) := by decide +kernel
theorem dX0_distance_13 : decode cX0_distance 13 = .ok (.ireturn, 1) := by decide +kernel
theorem dX0_add_0 : decode cX0_add 0 = .ok (.iload_n 1, 1) := by decide +kernel
theorem dX0_add_1 : decode cX0_add 1 = .ok (.invokestatic 42, 3) := by decide +kernel
theorem dX0_add_4 : decode cX0_add 4 = .ok (.iload_n 2, 1) := by decide +kernel
theorem dX0_add_5 : decode cX0_add 5 = .ok (.iconst (-1), 1) := by decide +kernel
theorem dX0_add_6 : decode cX0_add 6 = .ok (.if_icmp .eq 8, 3) := by decide +kernel
theorem dX0_add_9 : decode cX0_add 9 = .ok (.iload_n 2, 1) := by decide +kernel
theorem dX0_add_10 : decode cX0_add 10 = .ok (.iload_n 1, 1) := by decide +kernel
theorem dX0_add_11 : decode cX0_add 11 = .ok (.invokestatic 60, 3) := by decide +kernel
theorem dX0_add_14 : decode cX0_add 14 = .ok (.iload_n 3, 1) := by decide +kernel
theorem dX0_add_15 : decode cX0_add 15 = .ok (.invokestatic 64, 3) := by decide +kernel
theorem dX0_add_18 : decode cX0_add 18 = .ok (.aload_n 0, 1) := by decide +kernel
theorem dX0_add_19 : decode cX0_add 19 = .ok (.getfield 35, 3) := by decide +kernel
theorem dX0_add_22 : decode cX0_add 22 = .ok (.bipush 16, 2) := by decide +kernel
theorem dX0_add_24 : decode cX0_add 24 = .ok (.if_icmp .lt 13, 3) := by decide +kernel
theorem dX0_add_27 : decode cX0_add 27 = .ok (.new 67, 3) := by decide +kernel
theorem dX0_add_30 : decode cX0_add 30 = .ok (.dup, 1) := by decide +kernel
theorem dX0_add_31 : decode cX0_add 31 = .ok (.ldc 69, 2) := by decide +kernel
theorem dX0_add_33 : decode cX0_add 33 = .ok (.invokespecial 71, 3) := by decide +kernel
theorem dX0_add_36 : decode cX0_add 36 = .ok (.athrow, 1) := by decide +kernel
theorem dX0_add_37 : decode cX0_add 37 = .ok (.aload_n 0, 1) := by decide +kernel
theorem dX0_add_38 : decode cX0_add 38 = .ok (.getfield 35, 3) := by decide +kernel
theorem dX0_add_41 : decode cX0_add 41 = .ok (.istore 4, 2) := by decide +kernel
theorem dX0_add_43 : decode cX0_add 43 = .ok (.aload_n 0, 1) := by decide +kernel
theorem dX0_add_44 : decode cX0_add 44 = .ok (.getfield 23, 3) := by decide +kernel
theorem dX0_add_47 : decode cX0_add 47 = .ok (.iload 4, 2) := by decide +kernel
theorem dX0_add_49 : decode cX0_add 49 = .ok (.iload_n 1, 1) := by decide +kernel
theorem dX0_add_50 : decode cX0_add 50 = .ok (.iastore, 1) := by decide +kernel
theorem dX0_add_51 : decode cX0_add 51 = .ok (.aload_n 0, 1) := by decide +kernel
theorem dX0_add_52 : decode cX0_add 52 = .ok (.getfield 26, 3) := by decide +kernel
theorem dX0_add_55 : decode cX0_add 55 = .ok (.iload 4, 2) := by decide +kernel
theorem dX0_add_57 : decode cX0_add 57 = .ok (.iload_n 2, 1) := by decide +kernel
theorem dX0_add_58 : decode cX0_add 58 = .ok (.iastore, 1) := by decide +kernel
theorem dX0_add_59 : decode cX0_add 59 = .ok (.aload_n 0, 1) := by decide +kernel
theorem dX0_add_60 : decode cX0_add 60 = .ok (.getfield 29, 3) := by decide +kernel
theorem dX0_add_63 : decode cX0_add 63 = .ok (.iload 4, 2) := by decide +kernel
theorem dX0_add_65 : decode cX0_add 65 = .ok (.iload_n 3, 1) := by decide +kernel
theorem dX0_add_66 : decode cX0_add 66 = .ok (.iastore, 1) := by decide +kernel
theorem dX0_add_67 : decode cX0_add 67 = .ok (.aload_n 0, 1) := by decide +kernel
theorem dX0_add_68 : decode cX0_add 68 = .ok (.getfield 32, 3) := by decide +kernel
theorem dX0_add_71 : decode cX0_add 71 = .ok (.iload 4, 2) := by decide +kernel
theorem dX0_add_73 : decode cX0_add 73 = .ok (.iconst (-1), 1) := by decide +kernel
theorem dX0_add_74 : decode cX0_add 74 = .ok (.iastore, 1) := by decide +kernel
theorem dX0_add_75 : decode cX0_add 75 = .ok (.aload_n 0, 1) := by decide +kernel
theorem dX0_add_76 : decode cX0_add 76 = .ok (.iload 4, 2) := by decide +kernel
theorem dX0_add_78 : decode cX0_add 78 = .ok (.iconst 1, 1) := by decide +kernel
theorem dX0_add_79 : decode cX0_add 79 = .ok (.iadd, 1) := by decide +kernel
theorem dX0_add_80 : decode cX0_add 80 = .ok (.putfield 35, 3) := by decide +kernel
theorem dX0_add_83 : decode cX0_add 83 = .ok (.iload 4, 2) := by decide +kernel
theorem dX0_add_85 : decode cX0_add 85 = .ok (.ireturn, 1) := by decide +kernel
theorem dX0_setQuantity_0 : decode cX0_setQuantity 0 = .ok (.aload_n 0, 1) := by decide +kernel
theorem dX0_setQuantity_1 : decode cX0_setQuantity 1 = .ok (.iload_n 1, 1) := by decide +kernel
theorem dX0_setQuantity_2 : decode cX0_setQuantity 2 = .ok (.invokevirtual 74, 3) := by decide +kernel
theorem dX0_setQuantity_5 : decode cX0_setQuantity 5 = .ok (.iload_n 2, 1) := by decide +kernel
theorem dX0_setQuantity_6 : decode cX0_setQuantity 6 = .ok (.invokestatic 64, 3) := by decide +kernel
theorem dX0_setQuantity_9 : decode cX0_setQuantity 9 = .ok (.aload_n 0, 1) := by decide +kernel
theorem dX0_setQuantity_10 : decode cX0_setQuantity 10 = .ok (.getfield 29, 3) := by decide +kernel
theorem dX0_setQuantity_13 : decode cX0_setQuantity 13 = .ok (.iload_n 1, 1) := by decide +kernel
theorem dX0_setQuantity_14 : decode cX0_setQuantity 14 = .ok (.iaload, 1) := by decide +kernel
theorem dX0_setQuantity_15 : decode cX0_setQuantity 15 = .ok (.istore_n 3, 1) := by decide +kernel
theorem dX0_setQuantity_16 : decode cX0_setQuantity 16 = .ok (.aload_n 0, 1) := by decide +kernel
theorem dX0_setQuantity_17 : decode cX0_setQuantity 17 = .ok (.getfield 29, 3) := by decide +kernel
theorem dX0_setQuantity_20 : decode cX0_setQuantity 20 = .ok (.iload_n 1, 1) := by decide +kernel
theorem dX0_setQuantity_21 : decode cX0_setQuantity 21 = .ok (.iload_n 2, 1) := by decide +kernel
theorem dX0_setQuantity_22 : decode cX0_setQuantity 22 = .ok (.iastore, 1) := by decide +kernel
theorem dX0_setQuantity_23 : decode cX0_setQuantity 23 = .ok (.iload_n 3, 1) := by decide +kernel
theorem dX0_setQuantity_24 : decode cX0_setQuantity 24 = .ok (.ireturn, 1) := by decide +kernel
theorem dX0_put_0 : decode cX0_put 0 = .ok (.aload_n 0, 1) := by decide +kernel
theorem dX0_put_1 : decode cX0_put 1 = .ok (.iload_n 1, 1) := by decide +kernel
theorem dX0_put_2 : decode cX0_put 2 = .ok (.invokevirtual 74, 3) := by decide +kernel
theorem dX0_put_5 : decode cX0_put 5 = .ok (.iload_n 2, 1) := by decide +kernel
theorem dX0_put_6 : decode cX0_put 6 = .ok (.iconst (-1), 1) := by decide +kernel
theorem dX0_put_7 : decode cX0_put 7 = .ok (.if_icmp .eq 7, 3) := by decide +kernel
theorem dX0_put_10 : decode cX0_put 10 = .ok (.iload_n 2, 1) := by decide +kernel
theorem dX0_put_11 : decode cX0_put 11 = .ok (.invokestatic 54, 3) := by decide +kernel
theorem dX0_put_14 : decode cX0_put 14 = .ok (.aload_n 0, 1) := by decide +kernel
theorem dX0_put_15 : decode cX0_put 15 = .ok (.getfield 32, 3) := by decide +kernel
theorem dX0_put_18 : decode cX0_put 18 = .ok (.iload_n 1, 1) := by decide +kernel
theorem dX0_put_19 : decode cX0_put 19 = .ok (.iaload, 1) := by decide +kernel
theorem dX0_put_20 : decode cX0_put 20 = .ok (.istore_n 3, 1) := by decide +kernel
theorem dX0_put_21 : decode cX0_put 21 = .ok (.aload_n 0, 1) := by decide +kernel
theorem dX0_put_22 : decode cX0_put 22 = .ok (.getfield 32, 3) := by decide +kernel
theorem dX0_put_25 : decode cX0_put 25 = .ok (.iload_n 1, 1) := by decide +kernel
theorem dX0_put_26 : decode cX0_put 26 = .ok (.iload_n 2, 1) := by decide +kernel
theorem dX0_put_27 : decode cX0_put 27 = .ok (.iastore, 1) := by decide +kernel
theorem dX0_put_28 : decode cX0_put 28 = .ok (.iload_n 3, 1) := by decide +kernel
theorem dX0_put_29 : decode cX0_put 29 = .ok (.ireturn, 1) := by decide +kernel
theorem dX0_goods_0 : decode cX0_goods 0 = .ok (.aload_n 0, 1) := by decide +kernel
theorem dX0_goods_1 : decode cX0_goods 1 = .ok (.getfield 35, 3) := by decide +kernel
theorem dX0_goods_4 : decode cX0_goods 4 = .ok (.ireturn, 1) := by decide +kernel
theorem dX0_placeOf_0 : decode cX0_placeOf 0 = .ok (.aload_n 0, 1) := by decide +kernel
theorem dX0_placeOf_1 : decode cX0_placeOf 1 = .ok (.iload_n 1, 1) := by decide +kernel
theorem dX0_placeOf_2 : decode cX0_placeOf 2 = .ok (.invokevirtual 74, 3) := by decide +kernel
theorem dX0_placeOf_5 : decode cX0_placeOf 5 = .ok (.aload_n 0, 1) := by decide +kernel
theorem dX0_placeOf_6 : decode cX0_placeOf 6 = .ok (.getfield 32, 3) := by decide +kernel
theorem dX0_placeOf_9 : decode cX0_placeOf 9 = .ok (.iload_n 1, 1) := by decide +kernel
theorem dX0_placeOf_10 : decode cX0_placeOf 10 = .ok (.iaload, 1) := by decide +kernel
theorem dX0_placeOf_11 : decode cX0_placeOf 11 = .ok (.ireturn, 1) := by decide +kernel
theorem dX0_isLimited_0 : decode cX0_isLimited 0 = .ok (.aload_n 0, 1) := by decide +kernel
theorem dX0_isLimited_1 : decode cX0_isLimited 1 = .ok (.iload_n 1, 1) := by decide +kernel
theorem dX0_isLimited_2 : decode cX0_isLimited 2 = .ok (.invokevirtual 74, 3) := by decide +kernel
theorem dX0_isLimited_5 : decode cX0_isLimited 5 = .ok (.aload_n 0, 1) := by decide +kernel
theorem dX0_isLimited_6 : decode cX0_isLimited 6 = .ok (.iload_n 1, 1) := by decide +kernel
theorem dX0_isLimited_7 : decode cX0_isLimited 7 = .ok (.invokevirtual 77, 3) := by decide +kernel
theorem dX0_isLimited_10 : decode cX0_isLimited 10 = .ok (.ireturn, 1) := by decide +kernel
theorem dX0_isExcepted_0 : decode cX0_isExcepted 0 = .ok (.aload_n 0, 1) := by decide +kernel
theorem dX0_isExcepted_1 : decode cX0_isExcepted 1 = .ok (.iload_n 1, 1) := by decide +kernel
theorem dX0_isExcepted_2 : decode cX0_isExcepted 2 = .ok (.invokevirtual 74, 3) := by decide +kernel
theorem dX0_isExcepted_5 : decode cX0_isExcepted 5 = .ok (.aload_n 0, 1) := by decide +kernel
theorem dX0_isExcepted_6 : decode cX0_isExcepted 6 = .ok (.iload_n 1, 1) := by decide +kernel
theorem dX0_isExcepted_7 : decode cX0_isExcepted 7 = .ok (.invokevirtual 81, 3) := by decide +kernel
theorem dX0_isExcepted_10 : decode cX0_isExcepted 10 = .ok (.ireturn, 1) := by decide +kernel
theorem dX0_need_0 : decode cX0_need 0 = .ok (.aload_n 0, 1) := by decide +kernel
theorem dX0_need_1 : decode cX0_need 1 = .ok (.iload_n 1, 1) := by decide +kernel
theorem dX0_need_2 : decode cX0_need 2 = .ok (.iload_n 2, 1) := by decide +kernel
theorem dX0_need_3 : decode cX0_need 3 = .ok (.invokevirtual 84, 3) := by decide +kernel
theorem dX0_need_6 : decode cX0_need 6 = .ok (.aload_n 0, 1) := by decide +kernel
theorem dX0_need_7 : decode cX0_need 7 = .ok (.iload_n 1, 1) := by decide +kernel
theorem dX0_need_8 : decode cX0_need 8 = .ok (.iload_n 2, 1) := by decide +kernel
theorem dX0_need_9 : decode cX0_need 9 = .ok (.invokevirtual 87, 3) := by decide +kernel
theorem dX0_need_12 : decode cX0_need 12 = .ok (.ireturn, 1) := by decide +kernel
theorem dX0_areInBreach_0 : decode cX0_areInBreach 0 = .ok (.aload_n 0, 1) := by decide +kernel
theorem dX0_areInBreach_1 : decode cX0_areInBreach 1 = .ok (.iload_n 1, 1) := by decide +kernel
theorem dX0_areInBreach_2 : decode cX0_areInBreach 2 = .ok (.iload_n 2, 1) := by decide +kernel
theorem dX0_areInBreach_3 : decode cX0_areInBreach 3 = .ok (.invokevirtual 84, 3) := by decide +kernel
theorem dX0_areInBreach_6 : decode cX0_areInBreach 6 = .ok (.aload_n 0, 1) := by decide +kernel
theorem dX0_areInBreach_7 : decode cX0_areInBreach 7 = .ok (.iload_n 1, 1) := by decide +kernel
theorem dX0_areInBreach_8 : decode cX0_areInBreach 8 = .ok (.aload_n 0, 1) := by decide +kernel
theorem dX0_areInBreach_9 : decode cX0_areInBreach 9 = .ok (.getfield 32, 3) := by decide +kernel
theorem dX0_areInBreach_12 : decode cX0_areInBreach 12 = .ok (.iload_n 1, 1) := by decide +kernel
theorem dX0_areInBreach_13 : decode cX0_areInBreach 13 = .ok (.iaload, 1) := by decide +kernel
theorem dX0_areInBreach_14 : decode cX0_areInBreach 14 = .ok (.iload_n 2, 1) := by decide +kernel
theorem dX0_areInBreach_15 : decode cX0_areInBreach 15 = .ok (.invokevirtual 90, 3) := by decide +kernel
theorem dX0_areInBreach_18 : decode cX0_areInBreach 18 = .ok (.ireturn, 1) := by decide +kernel
theorem dX0_isMisplaced_0 : decode cX0_isMisplaced 0 = .ok (.aload_n 0, 1) := by decide +kernel
theorem dX0_isMisplaced_1 : decode cX0_isMisplaced 1 = .ok (.iload_n 1, 1) := by decide +kernel
theorem dX0_isMisplaced_2 : decode cX0_isMisplaced 2 = .ok (.invokevirtual 74, 3) := by decide +kernel
theorem dX0_isMisplaced_5 : decode cX0_isMisplaced 5 = .ok (.aload_n 0, 1) := by decide +kernel
theorem dX0_isMisplaced_6 : decode cX0_isMisplaced 6 = .ok (.iload_n 1, 1) := by decide +kernel
theorem dX0_isMisplaced_7 : decode cX0_isMisplaced 7 = .ok (.aload_n 0, 1) := by decide +kernel
theorem dX0_isMisplaced_8 : decode cX0_isMisplaced 8 = .ok (.getfield 32, 3) := by decide +kernel
theorem dX0_isMisplaced_11 : decode cX0_isMisplaced 11 = .ok (.iload_n 1, 1) := by decide +kernel
theorem dX0_isMisplaced_12 : decode cX0_isMisplaced 12 = .ok (.iaload, 1) := by decide +kernel
theorem dX0_isMisplaced_13 : decode cX0_isMisplaced 13 = .ok (.invokevirtual 94, 3) := by decide +kernel
theorem dX0_isMisplaced_16 : decode cX0_isMisplaced 16 = .ok (.ireturn, 1) := by decide +kernel
theorem dX0_breaches_0 : decode cX0_breaches 0 = .ok (.iconst 0, 1) := by decide +kernel
theorem dX0_breaches_1 : decode cX0_breaches 1 = .ok (.istore_n 1, 1) := by decide +kernel
theorem dX0_breaches_2 : decode cX0_breaches 2 = .ok (.iconst 0, 1) := by decide +kernel
theorem dX0_breaches_3 : decode cX0_breaches 3 = .ok (.istore_n 2, 1) := by decide +kernel
theorem dX0_breaches_4 : decode cX0_breaches 4 = .ok (.iload_n 2, 1) := by decide +kernel
theorem dX0_breaches_5 : decode cX0_breaches 5 = .ok (.aload_n 0, 1) := by decide +kernel
theorem dX0_breaches_6 : decode cX0_breaches 6 = .ok (.getfield 35, 3) := by decide +kernel
theorem dX0_breaches_9 : decode cX0_breaches 9 = .ok (.if_icmp .ge 45, 3) := by decide +kernel
theorem dX0_breaches_12 : decode cX0_breaches 12 = .ok (.iload_n 2, 1) := by decide +kernel
theorem dX0_breaches_13 : decode cX0_breaches 13 = .ok (.iconst 1, 1) := by decide +kernel
theorem dX0_breaches_14 : decode cX0_breaches 14 = .ok (.iadd, 1) := by decide +kernel
theorem dX0_breaches_15 : decode cX0_breaches 15 = .ok (.istore_n 3, 1) := by decide +kernel
theorem dX0_breaches_16 : decode cX0_breaches 16 = .ok (.iload_n 3, 1) := by decide +kernel
theorem dX0_breaches_17 : decode cX0_breaches 17 = .ok (.aload_n 0, 1) := by decide +kernel
theorem dX0_breaches_18 : decode cX0_breaches 18 = .ok (.getfield 35, 3) := by decide +kernel
theorem dX0_breaches_21 : decode cX0_breaches 21 = .ok (.if_icmp .ge 27, 3) := by decide +kernel
theorem dX0_breaches_24 : decode cX0_breaches 24 = .ok (.aload_n 0, 1) := by decide +kernel
theorem dX0_breaches_25 : decode cX0_breaches 25 = .ok (.iload_n 2, 1) := by decide +kernel
theorem dX0_breaches_26 : decode cX0_breaches 26 = .ok (.aload_n 0, 1) := by decide +kernel
theorem dX0_breaches_27 : decode cX0_breaches 27 = .ok (.getfield 32, 3) := by decide +kernel
theorem dX0_breaches_30 : decode cX0_breaches 30 = .ok (.iload_n 2, 1) := by decide +kernel
theorem dX0_breaches_31 : decode cX0_breaches 31 = .ok (.iaload, 1) := by decide +kernel
theorem dX0_breaches_32 : decode cX0_breaches 32 = .ok (.iload_n 3, 1) := by decide +kernel
theorem dX0_breaches_33 : decode cX0_breaches 33 = .ok (.invokevirtual 90, 3) := by decide +kernel
theorem dX0_breaches_36 : decode cX0_breaches 36 = .ok (.ifCond .eq 6, 3) := by decide +kernel
theorem dX0_breaches_39 : decode cX0_breaches 39 = .ok (.iinc 1 1, 3) := by decide +kernel
theorem dX0_breaches_42 : decode cX0_breaches 42 = .ok (.iinc 3 1, 3) := by decide +kernel
theorem dX0_breaches_45 : decode cX0_breaches 45 = .ok (.goto (-29), 3) := by decide +kernel
theorem dX0_breaches_48 : decode cX0_breaches 48 = .ok (.iinc 2 1, 3) := by decide +kernel
theorem dX0_breaches_51 : decode cX0_breaches 51 = .ok (.goto (-47), 3) := by decide +kernel
theorem dX0_breaches_54 : decode cX0_breaches 54 = .ok (.iload_n 1, 1) := by decide +kernel
theorem dX0_breaches_55 : decode cX0_breaches 55 = .ok (.ireturn, 1) := by decide +kernel
theorem dX0_inBreachWith_0 : decode cX0_inBreachWith 0 = .ok (.aload_n 0, 1) := by decide +kernel
theorem dX0_inBreachWith_1 : decode cX0_inBreachWith 1 = .ok (.iload_n 1, 1) := by decide +kernel
theorem dX0_inBreachWith_2 : decode cX0_inBreachWith 2 = .ok (.invokevirtual 74, 3) := by decide +kernel
theorem dX0_inBreachWith_5 : decode cX0_inBreachWith 5 = .ok (.aload_n 0, 1) := by decide +kernel
theorem dX0_inBreachWith_6 : decode cX0_inBreachWith 6 = .ok (.iload_n 1, 1) := by decide +kernel
theorem dX0_inBreachWith_7 : decode cX0_inBreachWith 7 = .ok (.aload_n 0, 1) := by decide +kernel
theorem dX0_inBreachWith_8 : decode cX0_inBreachWith 8 = .ok (.getfield 32, 3) := by decide +kernel
theorem dX0_inBreachWith_11 : decode cX0_inBreachWith 11 = .ok (.iload_n 1, 1) := by decide +kernel
theorem dX0_inBreachWith_12 : decode cX0_inBreachWith 12 = .ok (.iaload, 1) := by decide +kernel
theorem dX0_inBreachWith_13 : decode cX0_inBreachWith 13 = .ok (.invokevirtual 98, 3) := by decide +kernel
theorem dX0_inBreachWith_16 : decode cX0_inBreachWith 16 = .ok (.ireturn, 1) := by decide +kernel
theorem dX0_isClean_0 : decode cX0_isClean 0 = .ok (.iconst 0, 1) := by decide +kernel
theorem dX0_isClean_1 : decode cX0_isClean 1 = .ok (.istore_n 1, 1) := by decide +kernel
theorem dX0_isClean_2 : decode cX0_isClean 2 = .ok (.iload_n 1, 1) := by decide +kernel
theorem dX0_isClean_3 : decode cX0_isClean 3 = .ok (.aload_n 0, 1) := by decide +kernel
theorem dX0_isClean_4 : decode cX0_isClean 4 = .ok (.getfield 35, 3) := by decide +kernel
theorem dX0_isClean_7 : decode cX0_isClean 7 = .ok (.if_icmp .ge 25, 3) := by decide +kernel
theorem dX0_isClean_10 : decode cX0_isClean 10 = .ok (.aload_n 0, 1) := by decide +kernel
theorem dX0_isClean_11 : decode cX0_isClean 11 = .ok (.iload_n 1, 1) := by decide +kernel
theorem dX0_isClean_12 : decode cX0_isClean 12 = .ok (.aload_n 0, 1) := by decide +kernel
theorem dX0_isClean_13 : decode cX0_isClean 13 = .ok (.getfield 32, 3) := by decide +kernel
theorem dX0_isClean_16 : decode cX0_isClean 16 = .ok (.iload_n 1, 1) := by decide +kernel
theorem dX0_isClean_17 : decode cX0_isClean 17 = .ok (.iaload, 1) := by decide +kernel
theorem dX0_isClean_18 : decode cX0_isClean 18 = .ok (.invokevirtual 101, 3) := by decide +kernel
theorem dX0_isClean_21 : decode cX0_isClean 21 = .ok (.ifCond .ne 5, 3) := by decide +kernel
theorem dX0_isClean_24 : decode cX0_isClean 24 = .ok (.iconst 0, 1) := by decide +kernel
theorem dX0_isClean_25 : decode cX0_isClean 25 = .ok (.ireturn, 1) := by decide +kernel
theorem dX0_isClean_26 : decode cX0_isClean 26 = .ok (.iinc 1 1, 3) := by decide +kernel
theorem dX0_isClean_29 : decode cX0_isClean 29 = .ok (.goto (-27), 3) := by decide +kernel
theorem dX0_isClean_32 : decode cX0_isClean 32 = .ok (.iconst 1, 1) := by decide +kernel
theorem dX0_isClean_33 : decode cX0_isClean 33 = .ok (.ireturn, 1) := by decide +kernel
theorem dX0_canPut_0 : decode cX0_canPut 0 = .ok (.aload_n 0, 1) := by decide +kernel
theorem dX0_canPut_1 : decode cX0_canPut 1 = .ok (.iload_n 1, 1) := by decide +kernel
theorem dX0_canPut_2 : decode cX0_canPut 2 = .ok (.invokevirtual 74, 3) := by decide +kernel
theorem dX0_canPut_5 : decode cX0_canPut 5 = .ok (.iload_n 2, 1) := by decide +kernel
theorem dX0_canPut_6 : decode cX0_canPut 6 = .ok (.invokestatic 54, 3) := by decide +kernel
theorem dX0_canPut_9 : decode cX0_canPut 9 = .ok (.aload_n 0, 1) := by decide +kernel
theorem dX0_canPut_10 : decode cX0_canPut 10 = .ok (.iload_n 1, 1) := by decide +kernel
theorem dX0_canPut_11 : decode cX0_canPut 11 = .ok (.iload_n 2, 1) := by decide +kernel
theorem dX0_canPut_12 : decode cX0_canPut 12 = .ok (.invokevirtual 101, 3) := by decide +kernel
theorem dX0_canPut_15 : decode cX0_canPut 15 = .ok (.ireturn, 1) := by decide +kernel
theorem dX0_placeFor_0 : decode cX0_placeFor 0 = .ok (.aload_n 0, 1) := by decide +kernel
theorem dX0_placeFor_1 : decode cX0_placeFor 1 = .ok (.iload_n 1, 1) := by decide +kernel
theorem dX0_placeFor_2 : decode cX0_placeFor 2 = .ok (.invokevirtual 74, 3) := by decide +kernel
theorem dX0_placeFor_5 : decode cX0_placeFor 5 = .ok (.iconst 0, 1) := by decide +kernel
theorem dX0_placeFor_6 : decode cX0_placeFor 6 = .ok (.istore_n 2, 1) := by decide +kernel
theorem dX0_placeFor_7 : decode cX0_placeFor 7 = .ok (.iload_n 2, 1) := by decide +kernel
theorem dX0_placeFor_8 : decode cX0_placeFor 8 = .ok (.bipush 48, 2) := by decide +kernel
theorem dX0_placeFor_10 : decode cX0_placeFor 10 = .ok (.if_icmp .ge 20, 3) := by decide +kernel
theorem dX0_placeFor_13 : decode cX0_placeFor 13 = .ok (.aload_n 0, 1) := by decide +kernel
theorem dX0_placeFor_14 : decode cX0_placeFor 14 = .ok (.iload_n 1, 1) := by decide +kernel
theorem dX0_placeFor_15 : decode cX0_placeFor 15 = .ok (.iload_n 2, 1) := by decide +kernel
theorem dX0_placeFor_16 : decode cX0_placeFor 16 = .ok (.invokevirtual 101, 3) := by decide +kernel
theorem dX0_placeFor_19 : decode cX0_placeFor 19 = .ok (.ifCond .eq 5, 3) := by decide +kernel
theorem dX0_placeFor_22 : decode cX0_placeFor 22 = .ok (.iload_n 2, 1) := by decide +kernel
theorem dX0_placeFor_23 : decode cX0_placeFor 23 = .ok (.ireturn, 1) := by decide +kernel
theorem dX0_placeFor_24 : decode cX0_placeFor 24 = .ok (.iinc 2 1, 3) := by decide +kernel
theorem dX0_placeFor_27 : decode cX0_placeFor 27 = .ok (.goto (-20), 3) := by decide +kernel
theorem dX0_placeFor_30 : decode cX0_placeFor 30 = .ok (.iconst (-1), 1) := by decide +kernel
theorem dX0_placeFor_31 : decode cX0_placeFor 31 = .ok (.ireturn, 1) := by decide +kernel
theorem dX0_fewest_0 : decode cX0_fewest 0 = .ok (.aload_n 0, 1) := by decide +kernel
theorem dX0_fewest_1 : decode cX0_fewest 1 = .ok (.invokevirtual 104, 3) := by decide +kernel
theorem dX0_fewest_4 : decode cX0_fewest 4 = .ok (.invokestatic 108, 3) := by decide +kernel
theorem dX0_fewest_7 : decode cX0_fewest 7 = .ok (.ireturn, 1) := by decide +kernel
theorem dX0_leaving_0 : decode cX0_leaving 0 = .ok (.aload_n 0, 1) := by decide +kernel
theorem dX0_leaving_1 : decode cX0_leaving 1 = .ok (.invokevirtual 104, 3) := by decide +kernel
theorem dX0_leaving_4 : decode cX0_leaving 4 = .ok (.ireturn, 1) := by decide +kernel
theorem dX0_checkRange_0 : decode cX0_checkRange 0 = .ok (.iload_n 0, 1) := by decide +kernel
theorem dX0_checkRange_1 : decode cX0_checkRange 1 = .ok (.iload_n 1, 1) := by decide +kernel
theorem dX0_checkRange_2 : decode cX0_checkRange 2 = .ok (.if_icmp .lt 8, 3) := by decide +kernel
theorem dX0_checkRange_5 : decode cX0_checkRange 5 = .ok (.iload_n 0, 1) := by decide +kernel
theorem dX0_checkRange_6 : decode cX0_checkRange 6 = .ok (.iload_n 2, 1) := by decide +kernel
theorem dX0_checkRange_7 : decode cX0_checkRange 7 = .ok (.if_icmp .le 13, 3) := by decide +kernel
theorem dX0_checkRange_10 : decode cX0_checkRange 10 = .ok (.new 114, 3) := by decide +kernel
theorem dX0_checkRange_13 : decode cX0_checkRange 13 = .ok (.dup, 1) := by decide +kernel
theorem dX0_checkRange_14 : decode cX0_checkRange 14 = .ok (.ldc 116, 2) := by decide +kernel
theorem dX0_checkRange_16 : decode cX0_checkRange 16 = .ok (.invokespecial 118, 3) := by decide +kernel
theorem dX0_checkRange_19 : decode cX0_checkRange 19 = .ok (.athrow, 1) := by decide +kernel
theorem dX0_checkRange_20 : decode cX0_checkRange 20 = .ok (.return_, 1) := by decide +kernel
theorem dX0_checkClass_0 : decode cX0_checkClass 0 = .ok (.iload_n 0, 1) := by decide +kernel
theorem dX0_checkClass_1 : decode cX0_checkClass 1 = .ok (.iconst 1, 1) := by decide +kernel
theorem dX0_checkClass_2 : decode cX0_checkClass 2 = .ok (.bipush 9, 2) := by decide +kernel
theorem dX0_checkClass_4 : decode cX0_checkClass 4 = .ok (.invokestatic 46, 3) := by decide +kernel
theorem dX0_checkClass_7 : decode cX0_checkClass 7 = .ok (.return_, 1) := by decide +kernel
theorem dX0_checkSubsidiary_0 : decode cX0_checkSubsidiary 0 = .ok (.iload_n 0, 1) := by decide +kernel
theorem dX0_checkSubsidiary_1 : decode cX0_checkSubsidiary 1 = .ok (.invokestatic 42, 3) := by decide +kernel
theorem dX0_checkSubsidiary_4 : decode cX0_checkSubsidiary 4 = .ok (.iload_n 0, 1) := by decide +kernel
theorem dX0_checkSubsidiary_5 : decode cX0_checkSubsidiary 5 = .ok (.iload_n 1, 1) := by decide +kernel
theorem dX0_checkSubsidiary_6 : decode cX0_checkSubsidiary 6 = .ok (.if_icmp .ne 13, 3) := by decide +kernel
theorem dX0_checkSubsidiary_9 : decode cX0_checkSubsidiary 9 = .ok (.new 114, 3) := by decide +kernel
theorem dX0_checkSubsidiary_12 : decode cX0_checkSubsidiary 12 = .ok (.dup, 1) := by decide +kernel
theorem dX0_checkSubsidiary_13 : decode cX0_checkSubsidiary 13 = .ok (.ldc 119, 2) := by decide +kernel
theorem dX0_checkSubsidiary_15 : decode cX0_checkSubsidiary 15 = .ok (.invokespecial 118, 3) := by decide +kernel
theorem dX0_checkSubsidiary_18 : decode cX0_checkSubsidiary 18 = .ok (.athrow, 1) := by decide +kernel
theorem dX0_checkSubsidiary_19 : decode cX0_checkSubsidiary 19 = .ok (.return_, 1) := by decide +kernel
theorem dX0_checkPlace_0 : decode cX0_checkPlace 0 = .ok (.iload_n 0, 1) := by decide +kernel
theorem dX0_checkPlace_1 : decode cX0_checkPlace 1 = .ok (.iconst 0, 1) := by decide +kernel
theorem dX0_checkPlace_2 : decode cX0_checkPlace 2 = .ok (.bipush 47, 2) := by decide +kernel
theorem dX0_checkPlace_4 : decode cX0_checkPlace 4 = .ok (.invokestatic 46, 3) := by decide +kernel
theorem dX0_checkPlace_7 : decode cX0_checkPlace 7 = .ok (.return_, 1) := by decide +kernel
theorem dX0_checkQuantity_0 : decode cX0_checkQuantity 0 = .ok (.iload_n 0, 1) := by decide +kernel
theorem dX0_checkQuantity_1 : decode cX0_checkQuantity 1 = .ok (.iconst 1, 1) := by decide +kernel
theorem dX0_checkQuantity_2 : decode cX0_checkQuantity 2 = .ok (.sipush 10000, 3) := by decide +kernel
theorem dX0_checkQuantity_5 : decode cX0_checkQuantity 5 = .ok (.invokestatic 46, 3) := by decide +kernel
theorem dX0_checkQuantity_8 : decode cX0_checkQuantity 8 = .ok (.return_, 1) := by decide +kernel
theorem dX0_checkGoods_0 : decode cX0_checkGoods 0 = .ok (.iload_n 1, 1) := by decide +kernel
theorem dX0_checkGoods_1 : decode cX0_checkGoods 1 = .ok (.ifCond .lt 11, 3) := by decide +kernel
theorem dX0_checkGoods_4 : decode cX0_checkGoods 4 = .ok (.iload_n 1, 1) := by decide +kernel
theorem dX0_checkGoods_5 : decode cX0_checkGoods 5 = .ok (.aload_n 0, 1) := by decide +kernel
theorem dX0_checkGoods_6 : decode cX0_checkGoods 6 = .ok (.getfield 35, 3) := by decide +kernel
theorem dX0_checkGoods_9 : decode cX0_checkGoods 9 = .ok (.if_icmp .lt 13, 3) := by decide +kernel
theorem dX0_checkGoods_12 : decode cX0_checkGoods 12 = .ok (.new 121, 3) := by decide +kernel
theorem dX0_checkGoods_15 : decode cX0_checkGoods 15 = .ok (.dup, 1) := by decide +kernel
theorem dX0_checkGoods_16 : decode cX0_checkGoods 16 = .ok (.ldc 123, 2) := by decide +kernel
theorem dX0_checkGoods_18 : decode cX0_checkGoods 18 = .ok (.invokespecial 125, 3) := by decide +kernel
theorem dX0_checkGoods_21 : decode cX0_checkGoods 21 = .ok (.athrow, 1) := by decide +kernel
theorem dX0_checkGoods_22 : decode cX0_checkGoods 22 = .ok (.return_, 1) := by decide +kernel
theorem dX0_checkPair_0 : decode cX0_checkPair 0 = .ok (.aload_n 0, 1) := by decide +kernel
theorem dX0_checkPair_1 : decode cX0_checkPair 1 = .ok (.iload_n 1, 1) := by decide +kernel
theorem dX0_checkPair_2 : decode cX0_checkPair 2 = .ok (.invokevirtual 74, 3) := by decide +kernel
theorem dX0_checkPair_5 : decode cX0_checkPair 5 = .ok (.aload_n 0, 1) := by decide +kernel
theorem dX0_checkPair_6 : decode cX0_checkPair 6 = .ok (.iload_n 2, 1) := by decide +kernel
theorem dX0_checkPair_7 : decode cX0_checkPair 7 = .ok (.invokevirtual 74, 3) := by decide +kernel
theorem dX0_checkPair_10 : decode cX0_checkPair 10 = .ok (.iload_n 1, 1) := by decide +kernel
theorem dX0_checkPair_11 : decode cX0_checkPair 11 = .ok (.iload_n 2, 1) := by decide +kernel
theorem dX0_checkPair_12 : decode cX0_checkPair 12 = .ok (.if_icmp .ne 13, 3) := by decide +kernel
theorem dX0_checkPair_15 : decode cX0_checkPair 15 = .ok (.new 114, 3) := by decide +kernel
theorem dX0_checkPair_18 : decode cX0_checkPair 18 = .ok (.dup, 1) := by decide +kernel
theorem dX0_checkPair_19 : decode cX0_checkPair 19 = .ok (.ldc 126, 2) := by decide +kernel
theorem dX0_checkPair_21 : decode cX0_checkPair 21 = .ok (.invokespecial 118, 3) := by decide +kernel
theorem dX0_checkPair_24 : decode cX0_checkPair 24 = .ok (.athrow, 1) := by decide +kernel
theorem dX0_checkPair_25 : decode cX0_checkPair 25 = .ok (.return_, 1) := by decide +kernel
theorem dX0_holdOf_0 : decode cX0_holdOf 0 = .ok (.iload_n 0, 1) := by decide +kernel
theorem dX0_holdOf_1 : decode cX0_holdOf 1 = .ok (.bipush 12, 2) := by decide +kernel
theorem dX0_holdOf_3 : decode cX0_holdOf 3 = .ok (.idiv, 1) := by decide +kernel
theorem dX0_holdOf_4 : decode cX0_holdOf 4 = .ok (.ireturn, 1) := by decide +kernel
theorem dX0_bayOf_0 : decode cX0_bayOf 0 = .ok (.iload_n 0, 1) := by decide +kernel
theorem dX0_bayOf_1 : decode cX0_bayOf 1 = .ok (.bipush 12, 2) := by decide +kernel
theorem dX0_bayOf_3 : decode cX0_bayOf 3 = .ok (.irem, 1) := by decide +kernel
theorem dX0_bayOf_4 : decode cX0_bayOf 4 = .ok (.iconst 2, 1) := by decide +kernel
theorem dX0_bayOf_5 : decode cX0_bayOf 5 = .ok (.idiv, 1) := by decide +kernel
theorem dX0_bayOf_6 : decode cX0_bayOf 6 = .ok (.ireturn, 1) := by decide +kernel
theorem dX0_deckOf_0 : decode cX0_deckOf 0 = .ok (.iload_n 0, 1) := by decide +kernel
theorem dX0_deckOf_1 : decode cX0_deckOf 1 = .ok (.iconst 2, 1) := by decide +kernel
theorem dX0_deckOf_2 : decode cX0_deckOf 2 = .ok (.irem, 1) := by decide +kernel
theorem dX0_deckOf_3 : decode cX0_deckOf 3 = .ok (.ireturn, 1) := by decide +kernel
theorem dX0_distanceBetween_0 : decode cX0_distanceBetween 0 = .ok (.iload_n 0, 1) := by decide +kernel
theorem dX0_distanceBetween_1 : decode cX0_distanceBetween 1 = .ok (.invokestatic 128, 3) := by decide +kernel
theorem dX0_distanceBetween_4 : decode cX0_distanceBetween 4 = .ok (.iload_n 1, 1) := by decide +kernel
theorem dX0_distanceBetween_5 : decode cX0_distanceBetween 5 = .ok (.invokestatic 128, 3) := by decide +kernel
theorem dX0_distanceBetween_8 : decode cX0_distanceBetween 8 = .ok (.isub, 1) := by decide +kernel
theorem dX0_distanceBetween_9 : decode cX0_distanceBetween 9 = .ok (.invokestatic 131, 3) := by decide +kernel
theorem dX0_distanceBetween_12 : decode cX0_distanceBetween 12 = .ok (.istore_n 2, 1) := by decide +kernel
theorem dX0_distanceBetween_13 : decode cX0_distanceBetween 13 = .ok (.iload_n 2, 1) := by decide +kernel
theorem dX0_distanceBetween_14 : decode cX0_distanceBetween 14 = .ok (.iconst 2, 1) := by decide +kernel
theorem dX0_distanceBetween_15 : decode cX0_distanceBetween 15 = .ok (.if_icmp .lt 5, 3) := by decide +kernel
theorem dX0_distanceBetween_18 : decode cX0_distanceBetween 18 = .ok (.iconst 4, 1) := by decide +kernel
theorem dX0_distanceBetween_19 : decode cX0_distanceBetween 19 = .ok (.ireturn, 1) := by decide +kernel
theorem dX0_distanceBetween_20 : decode cX0_distanceBetween 20 = .ok (.iload_n 2, 1) := by decide +kernel
theorem dX0_distanceBetween_21 : decode cX0_distanceBetween 21 = .ok (.iconst 1, 1) := by decide +kernel
theorem dX0_distanceBetween_22 : decode cX0_distanceBetween 22 = .ok (.if_icmp .ne 5, 3) := by decide +kernel
theorem dX0_distanceBetween_25 : decode cX0_distanceBetween 25 = .ok (.iconst 3, 1) := by decide +kernel
theorem dX0_distanceBetween_26 : decode cX0_distanceBetween 26 = .ok (.ireturn, 1) := by decide +kernel
theorem dX0_distanceBetween_27 : decode cX0_distanceBetween 27 = .ok (.iload_n 0, 1) := by decide +kernel
theorem dX0_distanceBetween_28 : decode cX0_distanceBetween 28 = .ok (.invokestatic 136, 3) := by decide +kernel
theorem dX0_distanceBetween_31 : decode cX0_distanceBetween 31 = .ok (.iload_n 1, 1) := by decide +kernel
theorem dX0_distanceBetween_32 : decode cX0_distanceBetween 32 = .ok (.invokestatic 136, 3) := by decide +kernel
theorem dX0_distanceBetween_35 : decode cX0_distanceBetween 35 = .ok (.isub, 1) := by decide +kernel
theorem dX0_distanceBetween_36 : decode cX0_distanceBetween 36 = .ok (.invokestatic 131, 3) := by decide +kernel
theorem dX0_distanceBetween_39 : decode cX0_distanceBetween 39 = .ok (.istore_n 3, 1) := by decide +kernel
theorem dX0_distanceBetween_40 : decode cX0_distanceBetween 40 = .ok (.iload_n 3, 1) := by decide +kernel
theorem dX0_distanceBetween_41 : decode cX0_distanceBetween 41 = .ok (.iconst 3, 1) := by decide +kernel
theorem dX0_distanceBetween_42 : decode cX0_distanceBetween 42 = .ok (.if_icmp .ge 18, 3) := by decide +kernel
theorem dX0_distanceBetween_45 : decode cX0_distanceBetween 45 = .ok (.iload_n 3, 1) := by decide +kernel
theorem dX0_distanceBetween_46 : decode cX0_distanceBetween 46 = .ok (.ifCond .le 16, 3) := by decide +kernel
theorem dX0_distanceBetween_49 : decode cX0_distanceBetween 49 = .ok (.iload_n 0, 1) := by decide +kernel
theorem dX0_distanceBetween_50 : decode cX0_distanceBetween 50 = .ok (.invokestatic 139, 3) := by decide +kernel
theorem dX0_distanceBetween_53 : decode cX0_distanceBetween 53 = .ok (.iload_n 1, 1) := by decide +kernel
theorem dX0_distanceBetween_54 : decode cX0_distanceBetween 54 = .ok (.invokestatic 139, 3) := by decide +kernel
theorem dX0_distanceBetween_57 : decode cX0_distanceBetween 57 = .ok (.if_icmp .eq 5, 3) := by decide +kernel
theorem dX0_distanceBetween_60 : decode cX0_distanceBetween 60 = .ok (.iconst 2, 1) := by decide +kernel
theorem dX0_distanceBetween_61 : decode cX0_distanceBetween 61 = .ok (.ireturn, 1) := by decide +kernel
theorem dX0_distanceBetween_62 : decode cX0_distanceBetween 62 = .ok (.iload_n 0, 1) := by decide +kernel
theorem dX0_distanceBetween_63 : decode cX0_distanceBetween 63 = .ok (.iload_n 1, 1) := by decide +kernel
theorem dX0_distanceBetween_64 : decode cX0_distanceBetween 64 = .ok (.if_icmp .ne 7, 3) := by decide +kernel
theorem dX0_distanceBetween_67 : decode cX0_distanceBetween 67 = .ok (.iconst 0, 1) := by decide +kernel
theorem dX0_distanceBetween_68 : decode cX0_distanceBetween 68 = .ok (.goto 4, 3) := by decide +kernel
theorem dX0_distanceBetween_71 : decode cX0_distanceBetween 71 = .ok (.iconst 1, 1) := by decide +kernel
theorem dX0_distanceBetween_72 : decode cX0_distanceBetween 72 = .ok (.ireturn, 1) := by decide +kernel
theorem dX0_tableDistance_0 : decode cX0_tableDistance 0 = .ok (.iload_n 1, 1) := by decide +kernel
theorem dX0_tableDistance_1 : decode cX0_tableDistance 1 = .ok (.iconst (-1), 1) := by decide +kernel
theorem dX0_tableDistance_2 : decode cX0_tableDistance 2 = .ok (.if_icmp .eq 8, 3) := by decide +kernel
theorem dX0_tableDistance_5 : decode cX0_tableDistance 5 = .ok (.iload_n 2, 1) := by decide +kernel
theorem dX0_tableDistance_6 : decode cX0_tableDistance 6 = .ok (.iconst (-1), 1) := by decide +kernel
theorem dX0_tableDistance_7 : decode cX0_tableDistance 7 = .ok (.if_icmp .ne 5, 3) := by decide +kernel
theorem dX0_tableDistance_10 : decode cX0_tableDistance 10 = .ok (.iconst 0, 1) := by decide +kernel
