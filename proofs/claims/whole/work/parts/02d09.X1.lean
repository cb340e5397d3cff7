theorem dX1_init_0 : decode cX1_init 0 = .ok (.aload_n 0, 1) := by decide +kernel
theorem dX1_init_1 : decode cX1_init 1 = .ok (.invokespecial 1, 3) := by decide +kernel
theorem dX1_init_4 : decode cX1_init 4 = .ok (.aload_n 0, 1) := by decide +kernel
theorem dX1_init_5 : decode cX1_init 5 = .ok (.bipush 100, 2) := by decide +kernel
theorem dX1_init_7 : decode cX1_init 7 = .ok (.newarray .int, 2) := by decide +kernel
theorem dX1_init_9 : decode cX1_init 9 = .ok (.putfield 7, 3) := by decide +kernel
theorem dX1_init_12 : decode cX1_init 12 = .ok (.aload_n 0, 1) := by decide +kernel
theorem dX1_init_13 : decode cX1_init 13 = .ok (.bipush 10, 2) := by decide +kernel
theorem dX1_init_15 : decode cX1_init 15 = .ok (.newarray .int, 2) := by decide +kernel
theorem dX1_init_17 : decode cX1_init 17 = .ok (.putfield 13, 3) := by decide +kernel
theorem dX1_init_20 : decode cX1_init 20 = .ok (.aload_n 0, 1) := by decide +kernel
theorem dX1_init_21 : decode cX1_init 21 = .ok (.bipush 10, 2) := by decide +kernel
theorem dX1_init_23 : decode cX1_init 23 = .ok (.newarray .int, 2) := by decide +kernel
theorem dX1_init_25 : decode cX1_init 25 = .ok (.putfield 16, 3) := by decide +kernel
theorem dX1_init_28 : decode cX1_init 28 = .ok (.aload_n 0, 1) := by decide +kernel
theorem dX1_init_29 : decode cX1_init 29 = .ok (.bipush 20, 2) := by decide +kernel
theorem dX1_init_31 : decode cX1_init 31 = .ok (.newarray .boolean, 2) := by decide +kernel
theorem dX1_init_33 : decode cX1_init 33 = .ok (.putfield 19, 3) := by decide +kernel
theorem dX1_init_36 : decode cX1_init 36 = .ok (.aload_n 0, 1) := by decide +kernel
theorem dX1_init_37 : decode cX1_init 37 = .ok (.bipush 16, 2) := by decide +kernel
theorem dX1_init_39 : decode cX1_init 39 = .ok (.newarray .int, 2) := by decide +kernel
theorem dX1_init_41 : decode cX1_init 41 = .ok (.putfield 23, 3) := by decide +kernel
theorem dX1_init_44 : decode cX1_init 44 = .ok (.aload_n 0, 1) := by decide +kernel
theorem dX1_init_45 : decode cX1_init 45 = .ok (.bipush 16, 2) := by decide +kernel
theorem dX1_init_47 : decode cX1_init 47 = .ok (.newarray .int, 2) := by decide +kernel
theorem dX1_init_49 : decode cX1_init 49 = .ok (.putfield 26, 3) := by decide +kernel
theorem dX1_init_52 : decode cX1_init 52 = .ok (.aload_n 0, 1) := by decide +kernel
theorem dX1_init_53 : decode cX1_init 53 = .ok (.bipush 16, 2) := by decide +kernel
theorem dX1_init_55 : decode cX1_init 55 = .ok (.newarray .int, 2) := by decide +kernel
theorem dX1_init_57 : decode cX1_init 57 = .ok (.putfield 29, 3) := by decide +kernel
theorem dX1_init_60 : decode cX1_init 60 = .ok (.aload_n 0, 1) := by decide +kernel
theorem dX1_init_61 : decode cX1_init 61 = .ok (.bipush 16, 2) := by decide +kernel
theorem dX1_init_63 : decode cX1_init 63 = .ok (.newarray .int, 2) := by decide +kernel
theorem dX1_init_65 : decode cX1_init 65 = .ok (.putfield 32, 3) := by decide +kernel
theorem dX1_init_68 : decode cX1_init 68 = .ok (.aload_n 0, 1) := by decide +kernel
theorem dX1_init_69 : decode cX1_init 69 = .ok (.bipush 16, 2) := by decide +kernel
theorem dX1_init_71 : decode cX1_init 71 = .ok (.newarray .int, 2) := by decide +kernel
theorem dX1_init_73 : decode cX1_init 73 = .ok (.putfield 35, 3) := by decide +kernel
theorem dX1_init_76 : decode cX1_init 76 = .ok (.return_, 1) := by decide +kernel
theorem dX1_thrown_0 : decode cX1_thrown 0 = .ok (.aload_n 0, 1) := by decide +kernel
theorem dX1_thrown_1 : decode cX1_thrown 1 = .ok (.getfield 38, 3) := by decide +kernel
theorem dX1_thrown_4 : decode cX1_thrown 4 = .ok (.ireturn, 1) := by decide +kernel
theorem dX1_goes_0 : decode cX1_goes 0 = .ok (.aload_n 0, 1) := by decide +kernel
theorem dX1_goes_1 : decode cX1_goes 1 = .ok (.iload_n 1, 1) := by decide +kernel
theorem dX1_goes_2 : decode cX1_goes 2 = .ok (.putfield 38, 3) := by decide +kernel
theorem dX1_goes_5 : decode cX1_goes 5 = .ok (.iload_n 1, 1) := by decide +kernel
theorem dX1_goes_6 : decode cX1_goes 6 = .ok (.ifCond .ne 7, 3) := by decide +kernel
theorem dX1_goes_9 : decode cX1_goes 9 = .ok (.iconst 1, 1) := by decide +kernel
theorem dX1_goes_10 : decode cX1_goes 10 = .ok (.goto 4, 3) := by decide +kernel
theorem dX1_goes_13 : decode cX1_goes 13 = .ok (.iconst 0, 1) := by decide +kernel
theorem dX1_goes_14 : decode cX1_goes 14 = .ok (.ireturn, 1) := by decide +kernel
theorem dX1_isIn_0 : decode cX1_isIn 0 = .ok (.iload_n 0, 1) := by decide +kernel
theorem dX1_isIn_1 : decode cX1_isIn 1 = .ok (.iload_n 1, 1) := by decide +kernel
theorem dX1_isIn_2 : decode cX1_isIn 2 = .ok (.if_icmp .lt 12, 3) := by decide +kernel
theorem dX1_isIn_5 : decode cX1_isIn 5 = .ok (.iload_n 0, 1) := by decide +kernel
theorem dX1_isIn_6 : decode cX1_isIn 6 = .ok (.iload_n 2, 1) := by decide +kernel
theorem dX1_isIn_7 : decode cX1_isIn 7 = .ok (.if_icmp .gt 7, 3) := by decide +kernel
theorem dX1_isIn_10 : decode cX1_isIn 10 = .ok (.iconst 1, 1) := by decide +kernel
theorem dX1_isIn_11 : decode cX1_isIn 11 = .ok (.goto 4, 3) := by decide +kernel
theorem dX1_isIn_14 : decode cX1_isIn 14 = .ok (.iconst 0, 1) := by decide +kernel
theorem dX1_isIn_15 : decode cX1_isIn 15 = .ok (.ireturn, 1) := by decide +kernel
theorem dX1_isClass_0 : decode cX1_isClass 0 = .ok (.iload_n 0, 1) := by decide +kernel
theorem dX1_isClass_1 : decode cX1_isClass 1 = .ok (.iconst 1, 1) := by decide +kernel
theorem dX1_isClass_2 : decode cX1_isClass 2 = .ok (.bipush 9, 2) := by decide +kernel
theorem dX1_isClass_4 : decode cX1_isClass 4 = .ok (.invokestatic 42, 3) := by decide +kernel
theorem dX1_isClass_7 : decode cX1_isClass 7 = .ok (.ireturn, 1) := by decide +kernel
theorem dX1_isPlace_0 : decode cX1_isPlace 0 = .ok (.iload_n 0, 1) := by decide +kernel
theorem dX1_isPlace_1 : decode cX1_isPlace 1 = .ok (.iconst 0, 1) := by decide +kernel
theorem dX1_isPlace_2 : decode cX1_isPlace 2 = .ok (.bipush 47, 2) := by decide +kernel
theorem dX1_isPlace_4 : decode cX1_isPlace 4 = .ok (.invokestatic 42, 3) := by decide +kernel
theorem dX1_isPlace_7 : decode cX1_isPlace 7 = .ok (.ireturn, 1) := by decide +kernel
theorem dX1_areGoods_0 : decode cX1_areGoods 0 = .ok (.iload_n 1, 1) := by decide +kernel
theorem dX1_areGoods_1 : decode cX1_areGoods 1 = .ok (.iconst 0, 1) := by decide +kernel
theorem dX1_areGoods_2 : decode cX1_areGoods 2 = .ok (.aload_n 0, 1) := by decide +kernel
theorem dX1_areGoods_3 : decode cX1_areGoods 3 = .ok (.getfield 46, 3) := by decide +kernel
theorem dX1_areGoods_6 : decode cX1_areGoods 6 = .ok (.iconst 1, 1) := by decide +kernel
theorem dX1_areGoods_7 : decode cX1_areGoods 7 = .ok (.isub, 1) := by decide +kernel
theorem dX1_areGoods_8 : decode cX1_areGoods 8 = .ok (.invokestatic 42, 3) := by decide +kernel
theorem dX1_areGoods_11 : decode cX1_areGoods 11 = .ok (.ireturn, 1) := by decide +kernel
theorem dX1_setDistance_0 : decode cX1_setDistance 0 = .ok (.aload_n 0, 1) := by decide +kernel
theorem dX1_setDistance_1 : decode cX1_setDistance 1 = .ok (.iload_n 1, 1) := by decide +kernel
theorem dX1_setDistance_2 : decode cX1_setDistance 2 = .ok (.invokestatic 49, 3) := by decide +kernel
theorem dX1_setDistance_5 : decode cX1_setDistance 5 = .ok (.ifCond .eq 23, 3) := by decide +kernel
theorem dX1_setDistance_8 : decode cX1_setDistance 8 = .ok (.iload_n 2, 1) := by decide +kernel
theorem dX1_setDistance_9 : decode cX1_setDistance 9 = .ok (.invokestatic 49, 3) := by decide +kernel
theorem dX1_setDistance_12 : decode cX1_setDistance 12 = .ok (.ifCond .eq 16, 3) := by decide +kernel
theorem dX1_setDistance_15 : decode cX1_setDistance 15 = .ok (.iload_n 3, 1) := by decide +kernel
theorem dX1_setDistance_16 : decode cX1_setDistance 16 = .ok (.iconst 0, 1) := by decide +kernel
theorem dX1_setDistance_17 : decode cX1_setDistance 17 = .ok (.iconst 4, 1) := by decide +kernel
theorem dX1_setDistance_18 : decode cX1_setDistance 18 = .ok (.invokestatic 42, 3) := by decide +kernel
theorem dX1_setDistance_21 : decode cX1_setDistance 21 = .ok (.ifCond .eq 7, 3) := by decide +kernel
theorem dX1_setDistance_24 : decode cX1_setDistance 24 = .ok (.iconst 0, 1) := by decide +kernel
theorem dX1_setDistance_25 : decode cX1_setDistance 25 = .ok (.goto 4, 3) := by decide +kernel
theorem dX1_setDistance_28 : decode cX1_setDistance 28 = .ok (.iconst 1, 1) := by decide +kernel
theorem dX1_setDistance_29 : decode cX1_setDistance 29 = .ok (.invokevirtual 53, 3) := by decide +kernel
theorem dX1_setDistance_32 : decode cX1_setDistance 32 = .ok (.ifCond .ne 5, 3) := by decide +kernel
theorem dX1_setDistance_35 : decode cX1_setDistance 35 = .ok (.iconst 0, 1) := by decide +kernel
theorem dX1_setDistance_36 : decode cX1_setDistance 36 = .ok (.ireturn, 1) := by decide +kernel
theorem dX1_setDistance_37 : decode cX1_setDistance 37 = .ok (.aload_n 0, 1) := by decide +kernel
theorem dX1_setDistance_38 : decode cX1_setDistance 38 = .ok (.getfield 7, 3) := by decide +kernel
theorem dX1_setDistance_41 : decode cX1_setDistance 41 = .ok (.bipush 10, 2) := by decide +kernel
theorem dX1_setDistance_43 : decode cX1_setDistance 43 = .ok (.iload_n 1, 1) := by decide +kernel
theorem dX1_setDistance_44 : decode cX1_setDistance 44 = .ok (.imul, 1) := by decide +kernel
theorem dX1_setDistance_45 : decode cX1_setDistance 45 = .ok (.iload_n 2, 1) := by decide +kernel
theorem dX1_setDistance_46 : decode cX1_setDistance 46 = .ok (.iadd, 1) := by decide +kernel
theorem dX1_setDistance_47 : decode cX1_setDistance 47 = .ok (.iaload, 1) := by decide +kernel
theorem dX1_setDistance_48 : decode cX1_setDistance 48 = .ok (.istore 4, 2) := by decide +kernel
theorem dX1_setDistance_50 : decode cX1_setDistance 50 = .ok (.aload_n 0, 1) := by decide +kernel
theorem dX1_setDistance_51 : decode cX1_setDistance 51 = .ok (.getfield 7, 3) := by decide +kernel
theorem dX1_setDistance_54 : decode cX1_setDistance 54 = .ok (.bipush 10, 2) := by decide +kernel
theorem dX1_setDistance_56 : decode cX1_setDistance 56 = .ok (.iload_n 1, 1) := by decide +kernel
theorem dX1_setDistance_57 : decode cX1_setDistance 57 = .ok (.imul, 1) := by decide +kernel
theorem dX1_setDistance_58 : decode cX1_setDistance 58 = .ok (.iload_n 2, 1) := by decide +kernel
theorem dX1_setDistance_59 : decode cX1_setDistance 59 = .ok (.iadd, 1) := by decide +kernel
theorem dX1_setDistance_60 : decode cX1_setDistance 60 = .ok (.iload_n 3, 1) := by decide +kernel
theorem dX1_setDistance_61 : decode cX1_setDistance 61 = .ok (.iastore, 1) := by decide +kernel
theorem dX1_setDistance_62 : decode cX1_setDistance 62 = .ok (.aload_n 0, 1) := by decide +kernel
theorem dX1_setDistance_63 : decode cX1_setDistance 63 = .ok (.getfield 7, 3) := by decide +kernel
theorem dX1_setDistance_66 : decode cX1_setDistance 66 = .ok (.bipush 10, 2) := by decide +kernel
theorem dX1_setDistance_68 : decode cX1_setDistance 68 = .ok (.iload_n 2, 1) := by decide +kernel
theorem dX1_setDistance_69 : decode cX1_setDistance 69 = .ok (.imul, 1) := by decide +kernel
theorem dX1_setDistance_70 : decode cX1_setDistance 70 = .ok (.iload_n 1, 1) := by decide +kernel
theorem dX1_setDistance_71 : decode cX1_setDistance 71 = .ok (.iadd, 1) := by decide +kernel
theorem dX1_setDistance_72 : decode cX1_setDistance 72 = .ok (.iload_n 3, 1) := by decide +kernel
theorem dX1_setDistance_73 : decode cX1_setDistance 73 = .ok (.iastore, 1) := by decide +kernel
theorem dX1_setDistance_74 : decode cX1_setDistance 74 = .ok (.iload 4, 2) := by decide +kernel
theorem dX1_setDistance_76 : decode cX1_setDistance 76 = .ok (.ireturn, 1) := by decide +kernel
theorem dX1_setQuantities_0 : decode cX1_setQuantities 0 = .ok (.aload_n 0, 1) := by decide +kernel
theorem dX1_setQuantities_1 : decode cX1_setQuantities 1 = .ok (.iload_n 1, 1) := by decide +kernel
theorem dX1_setQuantities_2 : decode cX1_setQuantities 2 = .ok (.invokestatic 49, 3) := by decide +kernel
theorem dX1_setQuantities_5 : decode cX1_setQuantities 5 = .ok (.ifCond .eq 27, 3) := by decide +kernel
theorem dX1_setQuantities_8 : decode cX1_setQuantities 8 = .ok (.iload_n 2, 1) := by decide +kernel
theorem dX1_setQuantities_9 : decode cX1_setQuantities 9 = .ok (.iconst 0, 1) := by decide +kernel
theorem dX1_setQuantities_10 : decode cX1_setQuantities 10 = .ok (.sipush 10000, 3) := by decide +kernel
theorem dX1_setQuantities_13 : decode cX1_setQuantities 13 = .ok (.invokestatic 42, 3) := by decide +kernel
theorem dX1_setQuantities_16 : decode cX1_setQuantities 16 = .ok (.ifCond .eq 16, 3) := by decide +kernel
theorem dX1_setQuantities_19 : decode cX1_setQuantities 19 = .ok (.iload_n 3, 1) := by decide +kernel
theorem dX1_setQuantities_20 : decode cX1_setQuantities 20 = .ok (.iconst 0, 1) := by decide +kernel
theorem dX1_setQuantities_21 : decode cX1_setQuantities 21 = .ok (.iload_n 2, 1) := by decide +kernel
theorem dX1_setQuantities_22 : decode cX1_setQuantities 22 = .ok (.invokestatic 42, 3) := by decide +kernel
theorem dX1_setQuantities_25 : decode cX1_setQuantities 25 = .ok (.ifCond .eq 7, 3) := by decide +kernel
theorem dX1_setQuantities_28 : decode cX1_setQuantities 28 = .ok (.iconst 0, 1) := by decide +kernel
theorem dX1_setQuantities_29 : decode cX1_setQuantities 29 = .ok (.goto 4, 3) := by decide +kernel
theorem dX1_setQuantities_32 : decode cX1_setQuantities 32 = .ok (.iconst 1, 1) := by decide +kernel
theorem dX1_setQuantities_33 : decode cX1_setQuantities 33 = .ok (.invokevirtual 53, 3) := by decide +kernel
theorem dX1_setQuantities_36 : decode cX1_setQuantities 36 = .ok (.ifCond .eq 17, 3) := by decide +kernel
theorem dX1_setQuantities_39 : decode cX1_setQuantities 39 = .ok (.aload_n 0, 1) := by decide +kernel
theorem dX1_setQuantities_40 : decode cX1_setQuantities 40 = .ok (.getfield 13, 3) := by decide +kernel
theorem dX1_setQuantities_43 : decode cX1_setQuantities 43 = .ok (.iload_n 1, 1) := by decide +kernel
theorem dX1_setQuantities_44 : decode cX1_setQuantities 44 = .ok (.iload_n 2, 1) := by decide +kernel
theorem dX1_setQuantities_45 : decode cX1_setQuantities 45 = .ok (.iastore, 1) := by decide +kernel
theorem dX1_setQuantities_46 : decode cX1_setQuantities 46 = .ok (.aload_n 0, 1) := by decide +kernel
theorem dX1_setQuantities_47 : decode cX1_setQuantities 47 = .ok (.getfield 16, 3) := by decide +kernel
theorem dX1_setQuantities_50 : decode cX1_setQuantities 50 = .ok (.iload_n 1, 1) := by decide +kernel
theorem dX1_setQuantities_51 : decode cX1_setQuantities 51 = .ok (.iload_n 3, 1) := by decide +kernel
theorem dX1_setQuantities_52 : decode cX1_setQuantities 52 = .ok (.iastore, 1) := by decide +kernel
theorem dX1_setQuantities_53 : decode cX1_setQuantities 53 = .ok (.return_, 1) := by decide +kernel
theorem dX1_bar_0 : decode cX1_bar 0 = .ok (.aload_n 0, 1) := by decide +kernel
theorem dX1_bar_1 : decode cX1_bar 1 = .ok (.iload_n 1, 1) := by decide +kernel
theorem dX1_bar_2 : decode cX1_bar 2 = .ok (.invokestatic 49, 3) := by decide +kernel
theorem dX1_bar_5 : decode cX1_bar 5 = .ok (.ifCond .eq 16, 3) := by decide +kernel
theorem dX1_bar_8 : decode cX1_bar 8 = .ok (.iload_n 2, 1) := by decide +kernel
theorem dX1_bar_9 : decode cX1_bar 9 = .ok (.iconst 0, 1) := by decide +kernel
theorem dX1_bar_10 : decode cX1_bar 10 = .ok (.iconst 1, 1) := by decide +kernel
theorem dX1_bar_11 : decode cX1_bar 11 = .ok (.invokestatic 42, 3) := by decide +kernel
theorem dX1_bar_14 : decode cX1_bar 14 = .ok (.ifCond .eq 7, 3) := by decide +kernel
theorem dX1_bar_17 : decode cX1_bar 17 = .ok (.iconst 0, 1) := by decide +kernel
theorem dX1_bar_18 : decode cX1_bar 18 = .ok (.goto 4, 3) := by decide +kernel
theorem dX1_bar_21 : decode cX1_bar 21 = .ok (.iconst 1, 1) := by decide +kernel
theorem dX1_bar_22 : decode cX1_bar 22 = .ok (.invokevirtual 53, 3) := by decide +kernel
theorem dX1_bar_25 : decode cX1_bar 25 = .ok (.ifCond .ne 5, 3) := by decide +kernel
theorem dX1_bar_28 : decode cX1_bar 28 = .ok (.iconst 0, 1) := by decide +kernel
theorem dX1_bar_29 : decode cX1_bar 29 = .ok (.ireturn, 1) := by decide +kernel
theorem dX1_bar_30 : decode cX1_bar 30 = .ok (.aload_n 0, 1) := by decide +kernel
theorem dX1_bar_31 : decode cX1_bar 31 = .ok (.getfield 19, 3) := by decide +kernel
theorem dX1_bar_34 : decode cX1_bar 34 = .ok (.iconst 2, 1) := by decide +kernel
theorem dX1_bar_35 : decode cX1_bar 35 = .ok (.iload_n 1, 1) := by decide +kernel
theorem dX1_bar_36 : decode cX1_bar 36 = .ok (.imul, 1) := by decide +kernel
theorem dX1_bar_37 : decode cX1_bar 37 = .ok (.iload_n 2, 1) := by decide +kernel
theorem dX1_bar_38 : decode cX1_bar 38 = .ok (.iadd, 1) := by decide +kernel
theorem dX1_bar_39 : decode cX1_bar 39 = .ok (.baload, 1) := by decide +kernel
theorem dX1_bar_40 : decode cX1_bar 40 = .ok (.istore 4, 2) := by decide +kernel
theorem dX1_bar_42 : decode cX1_bar 42 = .ok (.aload_n 0, 1) := by decide +kernel
theorem dX1_bar_43 : decode cX1_bar 43 = .ok (.getfield 19, 3) := by decide +kernel
theorem dX1_bar_46 : decode cX1_bar 46 = .ok (.iconst 2, 1) := by decide +kernel
theorem dX1_bar_47 : decode cX1_bar 47 = .ok (.iload_n 1, 1) := by decide +kernel
theorem dX1_bar_48 : decode cX1_bar 48 = .ok (.imul, 1) := by decide +kernel
theorem dX1_bar_49 : decode cX1_bar 49 = .ok (.iload_n 2, 1) := by decide +kernel
theorem dX1_bar_50 : decode cX1_bar 50 = .ok (.iadd, 1) := by decide +kernel
theorem dX1_bar_51 : decode cX1_bar 51 = .ok (.iload_n 3, 1) := by decide +kernel
theorem dX1_bar_52 : decode cX1_bar 52 = .ok (.bastore, 1) := by decide +kernel
theorem dX1_bar_53 : decode cX1_bar 53 = .ok (.iload 4, 2) := by decide +kernel
theorem dX1_bar_55 : decode cX1_bar 55 = .ok (.ireturn, 1) := by decide +kernel
theorem dX1_apart_0 : decode cX1_apart 0 = .ok (.iload_n 0, 1) := by decide +kernel
theorem dX1_apart_1 : decode cX1_apart 1 = .ok (.bipush 12, 2) := by decide +kernel
theorem dX1_apart_3 : decode cX1_apart 3 = .ok (.idiv, 1) := by decide +kernel
theorem dX1_apart_4 : decode cX1_apart 4 = .ok (.iload_n 1, 1) := by decide +kernel
theorem dX1_apart_5 : decode cX1_apart 5 = .ok (.bipush 12, 2) := by decide +kernel
theorem dX1_apart_7 : decode cX1_apart 7 = .ok (.idiv, 1) := by decide +kernel
theorem dX1_apart_8 : decode cX1_apart 8 = .ok (.isub, 1) := by decide +kernel
theorem dX1_apart_9 : decode cX1_apart 9 = .ok (.istore_n 2, 1) := by decide +kernel
theorem dX1_apart_10 : decode cX1_apart 10 = .ok (.iload_n 0, 1) := by decide +kernel
theorem dX1_apart_11 : decode cX1_apart 11 = .ok (.iconst 2, 1) := by decide +kernel
theorem dX1_apart_12 : decode cX1_apart 12 = .ok (.idiv, 1) := by decide +kernel
theorem dX1_apart_13 : decode cX1_apart 13 = .ok (.bipush 6, 2) := by decide +kernel
theorem dX1_apart_15 : decode cX1_apart 15 = .ok (.irem, 1) := by decide +kernel
theorem dX1_apart_16 : decode cX1_apart 16 = .ok (.iload_n 1, 1) := by decide +kernel
theorem dX1_apart_17 : decode cX1_apart 17 = .ok (.iconst 2, 1) := by decide +kernel
theorem dX1_apart_18 : decode cX1_apart 18 = .ok (.idiv, 1) := by decide +kernel
theorem dX1_apart_19 : decode cX1_apart 19 = .ok (.bipush 6, 2) := by decide +kernel
theorem dX1_apart_21 : decode cX1_apart 21 = .ok (.irem, 1) := by decide +kernel
theorem dX1_apart_22 : decode cX1_apart 22 = .ok (.isub, 1) := by decide +kernel
theorem dX1_apart_23 : decode cX1_apart 23 = .ok (.istore_n 3, 1) := by decide +kernel
theorem dX1_apart_24 : decode cX1_apart 24 = .ok (.iload_n 3, 1) := by decide +kernel
theorem dX1_apart_25 : decode cX1_apart 25 = .ok (.ifCond .ge 8, 3) := by decide +kernel
theorem dX1_apart_28 : decode cX1_apart 28 = .ok (.iload_n 3, 1) := by decide +kernel
theorem dX1_apart_29 : decode cX1_apart 29 = .ok (.ineg, 1) := by decide +kernel
theorem dX1_apart_30 : decode cX1_apart 30 = .ok (.goto 4, 3) := by decide +kernel
theorem dX1_apart_33 : decode cX1_apart 33 = .ok (.iload_n 3, 1) := by decide +kernel
theorem dX1_apart_34 : decode cX1_apart 34 = .ok (.istore 4, 2) := by decide +kernel
theorem dX1_apart_36 : decode cX1_apart 36 = .ok (.iload 4, 2) := by decide +kernel
theorem dX1_apart_38 : decode cX1_apart 38 = .ok (.iconst 2, 1) := by decide +kernel
theorem dX1_apart_39 : decode cX1_apart 39 = .ok (.if_icmp .gt 17, 3) := by decide +kernel
theorem dX1_apart_42 : decode cX1_apart 42 = .ok (.iload 4, 2) := by decide +kernel
theorem dX1_apart_44 : decode cX1_apart 44 = .ok (.ifCond .le 16, 3) := by decide +kernel
theorem dX1_apart_47 : decode cX1_apart 47 = .ok (.iload_n 0, 1) := by decide +kernel
theorem dX1_apart_48 : decode cX1_apart 48 = .ok (.iconst 2, 1) := by decide +kernel
theorem dX1_apart_49 : decode cX1_apart 49 = .ok (.irem, 1) := by decide +kernel
theorem dX1_apart_50 : decode cX1_apart 50 = .ok (.iload_n 1, 1) := by decide +kernel
theorem dX1_apart_51 : decode cX1_apart 51 = .ok (.iconst 2, 1) := by decide +kernel
theorem dX1_apart_52 : decode cX1_apart 52 = .ok (.irem, 1) := by decide +kernel
theorem dX1_apart_53 : decode cX1_apart 53 = .ok (.if_icmp .eq 7, 3) := by decide +kernel
theorem dX1_apart_56 : decode cX1_apart 56 = .ok (.iconst 1, 1) := by decide +kernel
theorem dX1_apart_57 : decode cX1_apart 57 = .ok (.goto 4, 3) := by decide +kernel
theorem dX1_apart_60 : decode cX1_apart 60 = .ok (.iconst 0, 1) := by decide +kernel
theorem dX1_apart_61 : decode cX1_apart 61 = .ok (.istore 5, 2) := by decide +kernel
theorem dX1_apart_63 : decode cX1_apart 63 = .ok (.iload_n 2, 1) := by decide +kernel
theorem dX1_apart_64 : decode cX1_apart 64 = .ok (.iconst 1, 1) := by decide +kernel
theorem dX1_apart_65 : decode cX1_apart 65 = .ok (.if_icmp .gt 8, 3) := by decide +kernel
theorem dX1_apart_68 : decode cX1_apart 68 = .ok (.iload_n 2, 1) := by decide +kernel
theorem dX1_apart_69 : decode cX1_apart 69 = .ok (.iconst (-1), 1) := by decide +kernel
theorem dX1_apart_70 : decode cX1_apart 70 = .ok (.if_icmp .ge 7, 3) := by decide +kernel
theorem dX1_apart_73 : decode cX1_apart 73 = .ok (.iconst 4, 1) := by decide +kernel
theorem dX1_apart_74 : decode cX1_apart 74 = .ok (.goto 30, 3) := by decide +kernel
theorem dX1_apart_77 : decode cX1_apart 77 = .ok (.iload_n 2, 1) := by decide +kernel
theorem dX1_apart_78 : decode cX1_apart 78 = .ok (.ifCond .eq 7, 3) := by decide +kernel
theorem dX1_apart_81 : decode cX1_apart 81 = .ok (.iconst 3, 1) := by decide +kernel
theorem dX1_apart_82 : decode cX1_apart 82 = .ok (.goto 22, 3) := by decide +kernel
theorem dX1_apart_85 : decode cX1_apart 85 = .ok (.iload 5, 2) := by decide +kernel
theorem dX1_apart_87 : decode cX1_apart 87 = .ok (.ifCond .eq 7, 3) := by decide +kernel
theorem dX1_apart_90 : decode cX1_apart 90 = .ok (.iconst 2, 1) := by decide +kernel
theorem dX1_apart_91 : decode cX1_apart 91 = .ok (.goto 13, 3) := by decide +kernel
theorem dX1_apart_94 : decode cX1_apart 94 = .ok (.iload_n 0, 1) := by decide +kernel
theorem dX1_apart_95 : decode cX1_apart 95 = .ok (.iload_n 1, 1) := by decide +kernel
theorem dX1_apart_96 : decode cX1_apart 96 = .ok (.if_icmp .eq 7, 3) := by decide +kernel
theorem dX1_apart_99 : decode cX1_apart 99 = .ok (.iconst 1, 1) := by decide +kernel
theorem dX1_apart_100 : decode cX1_apart 100 = .ok (.goto 4, 3) := by decide +kernel
theorem dX1_apart_103 : decode cX1_apart 103 = .ok (.iconst 0, 1) := by decide +kernel
theorem dX1_apart_104 : decode cX1_apart 104 = .ok (.ireturn, 1) := by decide +kernel
theorem dX1_distance_0 : decode cX1_distance 0 = .ok (.aload_n 0, 1) := by decide +kernel
theorem dX1_distance_1 : decode cX1_distance 1 = .ok (.iload_n 1, 1) := by decide +kernel
theorem dX1_distance_2 : decode cX1_distance 2 = .ok (.invokestatic 56, 3) := by decide +kernel
theorem dX1_distance_5 : decode cX1_distance 5 = .ok (.ifCond .eq 14, 3) := by decide +kernel
theorem dX1_distance_8 : decode cX1_distance 8 = .ok (.iload_n 2, 1) := by decide +kernel
theorem dX1_distance_9 : decode cX1_distance 9 = .ok (.invokestatic 56, 3) := by decide +kernel
theorem dX1_distance_12 : decode cX1_distance 12 = .ok (.ifCond .eq 7, 3) := by decide +kernel
theorem dX1_distance_15 : decode cX1_distance 15 = .ok (.iconst 0, 1) := by decide +kernel
theorem dX1_distance_16 : decode cX1_distance 16 = .ok (.goto 4, 3) := by decide +kernel
theorem dX1_distance_19 : decode cX1_distance 19 = .ok (.iconst 1, 1) := by decide +kernel
theorem dX1_distance_20 : decode cX1_distance 20 = .ok (.invokevirtual 53, 3) := by decide +kernel
theorem dX1_distance_23 : decode cX1_distance 23 = .ok (.ifCond .eq 11, 3) := by decide +kernel
theorem dX1_distance_26 : decode cX1_distance 26 = .ok (.iload_n 1, 1) := by decide +kernel
theorem dX1_distance_27 : decode cX1_distance 27 = .ok (.iload_n 2, 1) := by decide +kernel
theorem dX1_distance_28 : decode cX1_distance 28 = .ok (.invokestatic 59, 3) := by decide +kernel
theorem dX1_distance_31 : decode cX1_distance 31 = .ok (.goto 4, 3) := by decide +kernel
theorem dX1_distance_34 : decode cX1_distance 34 = .ok (.iconst 0, 1) := by decide +kernel
theorem dX1_distance_35 : decode cX1_distance 35 = .ok (.ireturn, 1) := by decide +kernel
theorem dX1_add_0 : decode cX1_add 0 = .ok (.iload_n 2, 1) := by decide +kernel
theorem dX1_add_1 : decode cX1_add 1 = .ok (.iconst (-1), 1) := by decide +kernel
theorem dX1_add_2 : decode cX1_add 2 = .ok (.if_icmp .eq 15, 3) := by decide +kernel
theorem dX1_add_5 : decode cX1_add 5 = .ok (.iload_n 2, 1) := by decide +kernel
theorem dX1_add_6 : decode cX1_add 6 = .ok (.invokestatic 49, 3) := by decide +kernel
theorem dX1_add_9 : decode cX1_add 9 = .ok (.ifCond .eq 12, 3) := by decide +kernel
theorem dX1_add_12 : decode cX1_add 12 = .ok (.iload_n 2, 1) := by decide +kernel
theorem dX1_add_13 : decode cX1_add 13 = .ok (.iload_n 1, 1) := by decide +kernel
theorem dX1_add_14 : decode cX1_add 14 = .ok (.if_icmp .eq 7, 3) := by decide +kernel
theorem dX1_add_17 : decode cX1_add 17 = .ok (.iconst 1, 1) := by decide +kernel
theorem dX1_add_18 : decode cX1_add 18 = .ok (.goto 4, 3) := by decide +kernel
theorem dX1_add_21 : decode cX1_add 21 = .ok (.iconst 0, 1) := by decide +kernel
theorem dX1_add_22 : decode cX1_add 22 = .ok (.istore 4, 2) := by decide +kernel
theorem dX1_add_24 : decode cX1_add 24 = .ok (.iload_n 1, 1) := by decide +kernel
theorem dX1_add_25 : decode cX1_add 25 = .ok (.invokestatic 49, 3) := by decide +kernel
theorem dX1_add_28 : decode cX1_add 28 = .ok (.ifCond .eq 23, 3) := by decide +kernel
theorem dX1_add_31 : decode cX1_add 31 = .ok (.iload 4, 2) := by decide +kernel
theorem dX1_add_33 : decode cX1_add 33 = .ok (.ifCond .eq 18, 3) := by decide +kernel
theorem dX1_add_36 : decode cX1_add 36 = .ok (.iload_n 3, 1) := by decide +kernel
theorem dX1_add_37 : decode cX1_add 37 = .ok (.iconst 1, 1) := by decide +kernel
theorem dX1_add_38 : decode cX1_add 38 = .ok (.sipush 10000, 3) := by decide +kernel
theorem dX1_add_41 : decode cX1_add 41 = .ok (.invokestatic 42, 3) := by decide +kernel
theorem dX1_add_44 : decode cX1_add 44 = .ok (.ifCond .eq 7, 3) := by decide +kernel
theorem dX1_add_47 : decode cX1_add 47 = .ok (.iconst 1, 1) := by decide +kernel
theorem dX1_add_48 : decode cX1_add 48 = .ok (.goto 4, 3) := by decide +kernel
theorem dX1_add_51 : decode cX1_add 51 = .ok (.iconst 0, 1) := by decide +kernel
theorem dX1_add_52 : decode cX1_add 52 = .ok (.istore 5, 2) := by decide +kernel
theorem dX1_add_54 : decode cX1_add 54 = .ok (.aload_n 0, 1) := by decide +kernel
theorem dX1_add_55 : decode cX1_add 55 = .ok (.iload 5, 2) := by decide +kernel
theorem dX1_add_57 : decode cX1_add 57 = .ok (.ifCond .ne 7, 3) := by decide +kernel
theorem dX1_add_60 : decode cX1_add 60 = .ok (.iconst 1, 1) := by decide +kernel
theorem dX1_add_61 : decode cX1_add 61 = .ok (.goto 17, 3) := by decide +kernel
theorem dX1_add_64 : decode cX1_add 64 = .ok (.aload_n 0, 1) := by decide +kernel
theorem dX1_add_65 : decode cX1_add 65 = .ok (.getfield 46, 3) := by decide +kernel
theorem dX1_add_68 : decode cX1_add 68 = .ok (.bipush 16, 2) := by decide +kernel
theorem dX1_add_70 : decode cX1_add 70 = .ok (.if_icmp .ne 7, 3) := by decide +kernel
theorem dX1_add_73 : decode cX1_add 73 = .ok (.iconst 2, 1) := by decide +kernel
theorem dX1_add_74 : decode cX1_add 74 = .ok (.goto 4, 3) := by decide +kernel
theorem dX1_add_77 : decode cX1_add 77 = .ok (.iconst 0, 1) := by decide +kernel
theorem dX1_add_78 : decode cX1_add 78 = .ok (.invokevirtual 53, 3) := by decide +kernel
theorem dX1_add_81 : decode cX1_add 81 = .ok (.ifCond .ne 5, 3) := by decide +kernel
theorem dX1_add_84 : decode cX1_add 84 = .ok (.iconst 0, 1) := by decide +kernel
theorem dX1_add_85 : decode cX1_add 85 = .ok (.ireturn, 1) := by decide +kernel
theorem dX1_add_86 : decode cX1_add 86 = .ok (.aload_n 0, 1) := by decide +kernel
theorem dX1_add_87 : decode cX1_add 87 = .ok (.getfield 23, 3) := by decide +kernel
theorem dX1_add_90 : decode cX1_add 90 = .ok (.aload_n 0, 1) := by decide +kernel
theorem dX1_add_91 : decode cX1_add 91 = .ok (.getfield 46, 3) := by decide +kernel
theorem dX1_add_94 : decode cX1_add 94 = .ok (.iload_n 1, 1) := by decide +kernel
theorem dX1_add_95 : decode cX1_add 95 = .ok (.iastore, 1) := by decide +kernel
theorem dX1_add_96 : decode cX1_add 96 = .ok (.aload_n 0, 1) := by decide +kernel
theorem dX1_add_97 : decode cX1_add 97 = .ok (.getfield 26, 3) := by decide +kernel
theorem dX1_add_100 : decode cX1_add 100 = .ok (.aload_n 0, 1) := by decide +kernel
theorem dX1_add_101 : decode cX1_add 101 = .ok (.getfield 46, 3) := by decide +kernel
theorem dX1_add_104 : decode cX1_add 104 = .ok (.iload_n 2, 1) := by decide +kernel
theorem dX1_add_105 : decode cX1_add 105 = .ok (.iastore, 1) := by decide +kernel
theorem dX1_add_106 : decode cX1_add 106 = .ok (.aload_n 0, 1) := by decide +kernel
theorem dX1_add_107 : decode cX1_add 107 = .ok (.getfield 29, 3) := by decide +kernel
theorem dX1_add_110 : decode cX1_add 110 = .ok (.aload_n 0, 1) := by decide +kernel
theorem dX1_add_111 : decode cX1_add 111 = .ok (.getfield 46, 3) := by decide +kernel
theorem dX1_add_114 : decode cX1_add 114 = .ok (.iload_n 3, 1) := by decide +kernel
theorem dX1_add_115 : decode cX1_add 115 = .ok (.iastore, 1) := by decide +kernel
theorem dX1_add_116 : decode cX1_add 116 = .ok (.aload_n 0, 1) := by decide +kernel
theorem dX1_add_117 : decode cX1_add 117 = .ok (.getfield 32, 3) := by decide +kernel
theorem dX1_add_120 : decode cX1_add 120 = .ok (.aload_n 0, 1) := by decide +kernel
theorem dX1_add_121 : decode cX1_add 121 = .ok (.getfield 46, 3) := by decide +kernel
theorem dX1_add_124 : decode cX1_add 124 = .ok (.iconst (-1), 1) := by decide +kernel
theorem dX1_add_125 : decode cX1_add 125 = .ok (.iastore, 1) := by decide +kernel
theorem dX1_add_126 : decode cX1_add 126 = .ok (.aload_n 0, 1) := by decide +kernel
theorem dX1_add_127 : decode cX1_add 127 = .ok (.dup, 1) := by decide +kernel
theorem dX1_add_128 : decode cX1_add 128 = .ok (.getfield 46, 3) := by decide +kernel
theorem dX1_add_131 : decode cX1_add 131 = .ok (.iconst 1, 1) := by decide +kernel
theorem dX1_add_132 : decode cX1_add 132 = .ok (.iadd, 1) := by decide +kernel
theorem dX1_add_133 : decode cX1_add 133 = .ok (.putfield 46, 3) := by decide +kernel
theorem dX1_add_136 : decode cX1_add 136 = .ok (.aload_n 0, 1) := by decide +kernel
theorem dX1_add_137 : decode cX1_add 137 = .ok (.getfield 46, 3) := by decide +kernel
theorem dX1_add_140 : decode cX1_add 140 = .ok (.iconst 1, 1) := by decide +kernel
theorem dX1_add_141 : decode cX1_add 141 = .ok (.isub, 1) := by decide +kernel
theorem dX1_add_142 : decode cX1_add 142 = .ok (.ireturn, 1) := by decide +kernel
theorem dX1_setQuantity_0 : decode cX1_setQuantity 0 = .ok (.aload_n 0, 1) := by decide +kernel
theorem dX1_setQuantity_1 : decode cX1_setQuantity 1 = .ok (.aload_n 0, 1) := by decide +kernel
theorem dX1_setQuantity_2 : decode cX1_setQuantity 2 = .ok (.iload_n 1, 1) := by decide +kernel
theorem dX1_setQuantity_3 : decode cX1_setQuantity 3 = .ok (.invokevirtual 63, 3) := by decide +kernel
theorem dX1_setQuantity_6 : decode cX1_setQuantity 6 = .ok (.ifCond .ne 7, 3) := by decide +kernel
theorem dX1_setQuantity_9 : decode cX1_setQuantity 9 = .ok (.iconst 1, 1) := by decide +kernel
theorem dX1_setQuantity_10 : decode cX1_setQuantity 10 = .ok (.goto 19, 3) := by decide +kernel
theorem dX1_setQuantity_13 : decode cX1_setQuantity 13 = .ok (.iload_n 2, 1) := by decide +kernel
theorem dX1_setQuantity_14 : decode cX1_setQuantity 14 = .ok (.iconst 1, 1) := by decide +kernel
theorem dX1_setQuantity_15 : decode cX1_setQuantity 15 = .ok (.sipush 10000, 3) := by decide +kernel
theorem dX1_setQuantity_18 : decode cX1_setQuantity 18 = .ok (.invokestatic 42, 3) := by decide +kernel
theorem dX1_setQuantity_21 : decode cX1_setQuantity 21 = .ok (.ifCond .eq 7, 3) := by decide +kernel
theorem dX1_setQuantity_24 : decode cX1_setQuantity 24 = .ok (.iconst 0, 1) := by decide +kernel
theorem dX1_setQuantity_25 : decode cX1_setQuantity 25 = .ok (.goto 4, 3) := by decide +kernel
theorem dX1_setQuantity_28 : decode cX1_setQuantity 28 = .ok (.iconst 2, 1) := by decide +kernel
theorem dX1_setQuantity_29 : decode cX1_setQuantity 29 = .ok (.invokevirtual 53, 3) := by decide +kernel
theorem dX1_setQuantity_32 : decode cX1_setQuantity 32 = .ok (.ifCond .ne 5, 3) := by decide +kernel
theorem dX1_setQuantity_35 : decode cX1_setQuantity 35 = .ok (.iconst 0, 1) := by decide +kernel
theorem dX1_setQuantity_36 : decode cX1_setQuantity 36 = .ok (.ireturn, 1) := by decide +kernel
theorem dX1_setQuantity_37 : decode cX1_setQuantity 37 = .ok (.aload_n 0, 1) := by decide +kernel
theorem dX1_setQuantity_38 : decode cX1_setQuantity 38 = .ok (.getfield 29, 3) := by decide +kernel
theorem dX1_setQuantity_41 : decode cX1_setQuantity 41 = .ok (.iload_n 1, 1) := by decide +kernel
theorem dX1_setQuantity_42 : decode cX1_setQuantity 42 = .ok (.iaload, 1) := by decide +kernel
theorem dX1_setQuantity_43 : decode cX1_setQuantity 43 = .ok (.istore_n 3, 1) := by decide +kernel
theorem dX1_setQuantity_44 : decode cX1_setQuantity 44 = .ok (.aload_n 0, 1) := by decide +kernel
theorem dX1_setQuantity_45 : decode cX1_setQuantity 45 = .ok (.getfield 29, 3) := by decide +kernel
theorem dX1_setQuantity_48 : decode cX1_setQuantity 48 = .ok (.iload_n 1, 1) := by decide +kernel
theorem dX1_setQuantity_49 : decode cX1_setQuantity 49 = .ok (.iload_n 2, 1) := by decide +kernel
theorem dX1_setQuantity_50 : decode cX1_setQuantity 50 = .ok (.iastore, 1) := by decide +kernel
theorem dX1_setQuantity_51 : decode cX1_setQuantity 51 = .ok (.iload_n 3, 1) := by decide +kernel
theorem dX1_setQuantity_52 : decode cX1_setQuantity 52 = .ok (.ireturn, 1) := by decide +kernel
theorem dX1_put_0 : decode cX1_put 0 = .ok (.aload_n 0, 1) := by decide +kernel
theorem dX1_put_1 : decode cX1_put 1 = .ok (.aload_n 0, 1) := by decide +kernel
theorem dX1_put_2 : decode cX1_put 2 = .ok (.iload_n 1, 1) := by decide +kernel
theorem dX1_put_3 : decode cX1_put 3 = .ok (.invokevirtual 63, 3) := by decide +kernel
theorem dX1_put_6 : decode cX1_put 6 = .ok (.ifCond .ne 7, 3) := by decide +kernel
theorem dX1_put_9 : decode cX1_put 9 = .ok (.iconst 1, 1) := by decide +kernel
theorem dX1_put_10 : decode cX1_put 10 = .ok (.goto 20, 3) := by decide +kernel
theorem dX1_put_13 : decode cX1_put 13 = .ok (.iload_n 2, 1) := by decide +kernel
theorem dX1_put_14 : decode cX1_put 14 = .ok (.iconst (-1), 1) := by decide +kernel
theorem dX1_put_15 : decode cX1_put 15 = .ok (.if_icmp .eq 10, 3) := by decide +kernel
theorem dX1_put_18 : decode cX1_put 18 = .ok (.iload_n 2, 1) := by decide +kernel
theorem dX1_put_19 : decode cX1_put 19 = .ok (.invokestatic 56, 3) := by decide +kernel
theorem dX1_put_22 : decode cX1_put 22 = .ok (.ifCond .eq 7, 3) := by decide +kernel
theorem dX1_put_25 : decode cX1_put 25 = .ok (.iconst 0, 1) := by decide +kernel
theorem dX1_put_26 : decode cX1_put 26 = .ok (.goto 4, 3) := by decide +kernel
theorem dX1_put_29 : decode cX1_put 29 = .ok (.iconst 2, 1) := by decide +kernel
theorem dX1_put_30 : decode cX1_put 30 = .ok (.invokevirtual 53, 3) := by decide +kernel
theorem dX1_put_33 : decode cX1_put 33 = .ok (.ifCond .ne 5, 3) := by decide +kernel
theorem dX1_put_36 : decode cX1_put 36 = .ok (.iconst 0, 1) := by decide +kernel
theorem dX1_put_37 : decode cX1_put 37 = .ok (.ireturn, 1) := by decide +kernel
theorem dX1_put_38 : decode cX1_put 38 = .ok (.aload_n 0, 1) := by decide +kernel
theorem dX1_put_39 : decode cX1_put 39 = .ok (.getfield 32, 3) := by decide +kernel
theorem dX1_put_42 : decode cX1_put 42 = .ok (.iload_n 1, 1) := by decide +kernel
theorem dX1_put_43 : decode cX1_put 43 = .ok (.iaload, 1) := by decide +kernel
theorem dX1_put_44 : decode cX1_put 44 = .ok (.istore_n 3, 1) := by decide +kernel
theorem dX1_put_45 : decode cX1_put 45 = .ok (.aload_n 0, 1) := by decide +kernel
theorem dX1_put_46 : decode cX1_put 46 = .ok (.getfield 32, 3) := by decide +kernel
theorem dX1_put_49 : decode cX1_put 49 = .ok (.iload_n 1, 1) := by decide +kernel
theorem dX1_put_50 : decode cX1_put 50 = .ok (.iload_n 2, 1) := by decide +kernel
theorem dX1_put_51 : decode cX1_put 51 = .ok (.iastore, 1) := by decide +kernel
theorem dX1_put_52 : decode cX1_put 52 = .ok (.iload_n 3, 1) := by decide +kernel
theorem dX1_put_53 : decode cX1_put 53 = .ok (.ireturn, 1) := by decide +kernel
theorem dX1_goods_0 : decode cX1_goods 0 = .ok (.aload_n 0, 1) := by decide +kernel
theorem dX1_goods_1 : decode cX1_goods 1 = .ok (.iconst 0, 1) := by decide +kernel
theorem dX1_goods_2 : decode cX1_goods 2 = .ok (.putfield 38, 3) := by decide +kernel
theorem dX1_goods_5 : decode cX1_goods 5 = .ok (.aload_n 0, 1) := by decide +kernel
theorem dX1_goods_6 : decode cX1_goods 6 = .ok (.getfield 46, 3) := by decide +kernel
theorem dX1_goods_9 : decode cX1_goods 9 = .ok (.ireturn, 1) := by decide +kernel
theorem dX1_asks_0 : decode cX1_asks 0 = .ok (.aload_n 0, 1) := by decide +kernel
theorem dX1_asks_1 : decode cX1_asks 1 = .ok (.aload_n 0, 1) := by decide +kernel
theorem dX1_asks_2 : decode cX1_asks 2 = .ok (.iload_n 1, 1) := by decide +kernel
theorem dX1_asks_3 : decode cX1_asks 3 = .ok (.invokevirtual 63, 3) := by decide +kernel
theorem dX1_asks_6 : decode cX1_asks 6 = .ok (.ifCond .eq 7, 3) := by decide +kernel
theorem dX1_asks_9 : decode cX1_asks 9 = .ok (.iconst 0, 1) := by decide +kernel
theorem dX1_asks_10 : decode cX1_asks 10 = .ok (.goto 4, 3) := by decide +kernel
theorem dX1_asks_13 : decode cX1_asks 13 = .ok (.iconst 1, 1) := by decide +kernel
theorem dX1_asks_14 : decode cX1_asks 14 = .ok (.invokevirtual 53, 3) := by decide +kernel
theorem dX1_asks_17 : decode cX1_asks 17 = .ok (.ireturn, 1) := by decide +kernel
theorem dX1_placeOf_0 : decode cX1_placeOf 0 = .ok (.aload_n 0, 1) := by decide +kernel
theorem dX1_placeOf_1 : decode cX1_placeOf 1 = .ok (.iload_n 1, 1) := by decide +kernel
theorem dX1_placeOf_2 : decode cX1_placeOf 2 = .ok (.invokevirtual 66, 3) := by decide +kernel
theorem dX1_placeOf_5 : decode cX1_placeOf 5 = .ok (.ifCond .eq 12, 3) := by decide +kernel
theorem dX1_placeOf_8 : decode cX1_placeOf 8 = .ok (.aload_n 0, 1) := by decide +kernel
theorem dX1_placeOf_9 : decode cX1_placeOf 9 = .ok (.getfield 32, 3) := by decide +kernel
theorem dX1_placeOf_12 : decode cX1_placeOf 12 = .ok (.iload_n 1, 1) := by decide +kernel
theorem dX1_placeOf_13 : decode cX1_placeOf 13 = .ok (.iaload, 1) := by decide +kernel
theorem dX1_placeOf_14 : decode cX1_placeOf 14 = .ok (.goto 4, 3) := by decide +kernel
theorem dX1_placeOf_17 : decode cX1_placeOf 17 = .ok (.iconst 0, 1) := by decide +kernel
theorem dX1_placeOf_18 : decode cX1_placeOf 18 = .ok (.ireturn, 1) := by decide +kernel
theorem dX1_isWithin_0 : decode cX1_isWithin 0 = .ok (.aload_n 0, 1) := by decide +kernel
theorem dX1_isWithin_1 : decode cX1_isWithin 1 = .ok (.getfield 26, 3) := by decide +kernel
theorem dX1_isWithin_4 : decode cX1_isWithin 4 = .ok (.iload_n 1, 1) := by decide +kernel
theorem dX1_isWithin_5 : decode cX1_isWithin 5 = .ok (.iaload, 1) := by decide +kernel
theorem dX1_isWithin_6 : decode cX1_isWithin 6 = .ok (.istore_n 3, 1) := by decide +kernel
theorem dX1_isWithin_7 : decode cX1_isWithin 7 = .ok (.aload_n 0, 1) := by decide +kernel
theorem dX1_isWithin_8 : decode cX1_isWithin 8 = .ok (.getfield 29, 3) := by decide +kernel
theorem dX1_isWithin_11 : decode cX1_isWithin 11 = .ok (.iload_n 1, 1) := by decide +kernel
theorem dX1_isWithin_12 : decode cX1_isWithin 12 = .ok (.iaload, 1) := by decide +kernel
theorem dX1_isWithin_13 : decode cX1_isWithin 13 = .ok (.aload_n 2, 1) := by decide +kernel
theorem dX1_isWithin_14 : decode cX1_isWithin 14 = .ok (.aload_n 0, 1) := by decide +kernel
theorem dX1_isWithin_15 : decode cX1_isWithin 15 = .ok (.getfield 23, 3) := by decide +kernel
theorem dX1_isWithin_18 : decode cX1_isWithin 18 = .ok (.iload_n 1, 1) := by decide +kernel
theorem dX1_isWithin_19 : decode cX1_isWithin 19 = .ok (.iaload, 1) := by decide +kernel
theorem dX1_isWithin_20 : decode cX1_isWithin 20 = .ok (.iaload, 1) := by decide +kernel
theorem dX1_isWithin_21 : decode cX1_isWithin 21 = .ok (.if_icmp .gt 24, 3) := by decide +kernel
theorem dX1_isWithin_24 : decode cX1_isWithin 24 = .ok (.iload_n 3, 1) := by decide +kernel
theorem dX1_isWithin_25 : decode cX1_isWithin 25 = .ok (.iconst (-1), 1) := by decide +kernel
theorem dX1_isWithin_26 : decode cX1_isWithin 26 = .ok (.if_icmp .eq 15, 3) := by decide +kernel
theorem dX1_isWithin_29 : decode cX1_isWithin 29 = .ok (.aload_n 0, 1) := by decide +kernel
theorem dX1_isWithin_30 : decode cX1_isWithin 30 = .ok (.getfield 29, 3) := by decide +kernel
theorem dX1_isWithin_33 : decode cX1_isWithin 33 = .ok (.iload_n 1, 1) := by decide +kernel
theorem dX1_isWithin_34 : decode cX1_isWithin 34 = .ok (.iaload, 1) := by decide +kernel
theorem dX1_isWithin_35 : decode cX1_isWithin 35 = .ok (.aload_n 2, 1) := by decide +kernel
theorem dX1_isWithin_36 : decode cX1_isWithin 36 = .ok (.iload_n 3, 1) := by decide +kernel
theorem dX1_isWithin_37 : decode cX1_isWithin 37 = .ok (.iaload, 1) := by decide +kernel
theorem dX1_isWithin_38 : decode cX1_isWithin 38 = .ok (.if_icmp .gt 7, 3) := by decide +kernel
theorem dX1_isWithin_41 : decode cX1_isWithin 41 = .ok (.iconst 1, 1) := by decide +kernel
theorem dX1_isWithin_42 : decode cX1_isWithin 42 = .ok (.goto 4, 3) := by decide +kernel
theorem dX1_isWithin_45 : decode cX1_isWithin 45 = .ok (.iconst 0, 1) := by decide +kernel
theorem dX1_isWithin_46 : decode cX1_isWithin 46 = .ok (.ireturn, 1) := by decide +kernel
theorem dX1_areExcepted_0 : decode cX1_areExcepted 0 = .ok (.aload_n 0, 1) := by decide +kernel
theorem dX1_areExcepted_1 : decode cX1_areExcepted 1 = .ok (.iload_n 1, 1) := by decide +kernel
theorem dX1_areExcepted_2 : decode cX1_areExcepted 2 = .ok (.aload_n 0, 1) := by decide +kernel
theorem dX1_areExcepted_3 : decode cX1_areExcepted 3 = .ok (.getfield 16, 3) := by decide +kernel
theorem dX1_areExcepted_6 : decode cX1_areExcepted 6 = .ok (.invokevirtual 69, 3) := by decide +kernel
theorem dX1_areExcepted_9 : decode cX1_areExcepted 9 = .ok (.ireturn, 1) := by decide +kernel
theorem dX1_areLimited_0 : decode cX1_areLimited 0 = .ok (.aload_n 0, 1) := by decide +kernel
theorem dX1_areLimited_1 : decode cX1_areLimited 1 = .ok (.iload_n 1, 1) := by decide +kernel
theorem dX1_areLimited_2 : decode cX1_areLimited 2 = .ok (.invokevirtual 73, 3) := by decide +kernel
theorem dX1_areLimited_5 : decode cX1_areLimited 5 = .ok (.ifCond .ne 19, 3) := by decide +kernel
theorem dX1_areLimited_8 : decode cX1_areLimited 8 = .ok (.aload_n 0, 1) := by decide +kernel
theorem dX1_areLimited_9 : decode cX1_areLimited 9 = .ok (.iload_n 1, 1) := by decide +kernel
theorem dX1_areLimited_10 : decode cX1_areLimited 10 = .ok (.aload_n 0, 1) := by decide +kernel
theorem dX1_areLimited_11 : decode cX1_areLimited 11 = .ok (.getfield 13, 3) := by decide +kernel
theorem dX1_areLimited_14 : decode cX1_areLimited 14 = .ok (.invokevirtual 69, 3) := by decide +kernel
theorem dX1_areLimited_17 : decode cX1_areLimited 17 = .ok (.ifCond .eq 7, 3) := by decide +kernel
theorem dX1_areLimited_20 : decode cX1_areLimited 20 = .ok (.iconst 1, 1) := by decide +kernel
theorem dX1_areLimited_21 : decode cX1_areLimited 21 = .ok (.goto 4, 3) := by decide +kernel
theorem dX1_areLimited_24 : decode cX1_areLimited 24 = .ok (.iconst 0, 1) := by decide +kernel
theorem dX1_areLimited_25 : decode cX1_areLimited 25 = .ok (.ireturn, 1) := by decide +kernel
theorem dX1_isLimited_0 : decode cX1_isLimited 0 = .ok (.aload_n 0, 1) := by decide +kernel
theorem dX1_isLimited_1 : decode cX1_isLimited 1 = .ok (.iload_n 1, 1) := by decide +kernel
theorem dX1_isLimited_2 : decode cX1_isLimited 2 = .ok (.invokevirtual 66, 3) := by decide +kernel
theorem dX1_isLimited_5 : decode cX1_isLimited 5 = .ok (.ifCond .eq 15, 3) := by decide +kernel
