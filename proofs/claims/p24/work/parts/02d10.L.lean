theorem dL_dice_0 : decode cL_dice 0 = .ok (.iload_n 1, 1) := by decide +kernel
theorem dL_dice_1 : decode cL_dice 1 = .ok (.aload_n 0, 1) := by decide +kernel
theorem dL_dice_2 : decode cL_dice 2 = .ok (.arraylength, 1) := by decide +kernel
theorem dL_dice_3 : decode cL_dice 3 = .ok (.if_icmp .ge 9, 3) := by decide +kernel
theorem dL_dice_6 : decode cL_dice 6 = .ok (.aload_n 0, 1) := by decide +kernel
theorem dL_dice_7 : decode cL_dice 7 = .ok (.iload_n 1, 1) := by decide +kernel
theorem dL_dice_8 : decode cL_dice 8 = .ok (.iaload, 1) := by decide +kernel
theorem dL_dice_9 : decode cL_dice 9 = .ok (.goto 21, 3) := by decide +kernel
theorem dL_dice_12 : decode cL_dice 12 = .ok (.ldc 7, 2) := by decide +kernel
theorem dL_dice_14 : decode cL_dice 14 = .ok (.iload_n 1, 1) := by decide +kernel
theorem dL_dice_15 : decode cL_dice 15 = .ok (.bipush 101, 2) := by decide +kernel
theorem dL_dice_17 : decode cL_dice 17 = .ok (.iadd, 1) := by decide +kernel
theorem dL_dice_18 : decode cL_dice 18 = .ok (.imul, 1) := by decide +kernel
theorem dL_dice_19 : decode cL_dice 19 = .ok (.sipush 445, 3) := by decide +kernel
theorem dL_dice_22 : decode cL_dice 22 = .ok (.iload_n 1, 1) := by decide +kernel
theorem dL_dice_23 : decode cL_dice 23 = .ok (.imul, 1) := by decide +kernel
theorem dL_dice_24 : decode cL_dice 24 = .ok (.iload_n 1, 1) := by decide +kernel
theorem dL_dice_25 : decode cL_dice 25 = .ok (.imul, 1) := by decide +kernel
theorem dL_dice_26 : decode cL_dice 26 = .ok (.iadd, 1) := by decide +kernel
theorem dL_dice_27 : decode cL_dice 27 = .ok (.bipush 37, 2) := by decide +kernel
theorem dL_dice_29 : decode cL_dice 29 = .ok (.iadd, 1) := by decide +kernel
theorem dL_dice_30 : decode cL_dice 30 = .ok (.ldc 8, 2) := by decide +kernel
theorem dL_dice_32 : decode cL_dice 32 = .ok (.iand, 1) := by decide +kernel
theorem dL_dice_33 : decode cL_dice 33 = .ok (.ireturn, 1) := by decide +kernel
theorem dL_rule_0 : decode cL_rule 0 = .ok (.iload_n 1, 1) := by decide +kernel
theorem dL_rule_1 : decode cL_rule 1 = .ok (.ifCond .ne 14, 3) := by decide +kernel
theorem dL_rule_4 : decode cL_rule 4 = .ok (.aload_n 0, 1) := by decide +kernel
theorem dL_rule_5 : decode cL_rule 5 = .ok (.iload_n 2, 1) := by decide +kernel
theorem dL_rule_6 : decode cL_rule 6 = .ok (.iload_n 3, 1) := by decide +kernel
theorem dL_rule_7 : decode cL_rule 7 = .ok (.iload 4, 2) := by decide +kernel
theorem dL_rule_9 : decode cL_rule 9 = .ok (.invokevirtual 9, 3) := by decide +kernel
theorem dL_rule_12 : decode cL_rule 12 = .ok (.goto 58, 3) := by decide +kernel
theorem dL_rule_15 : decode cL_rule 15 = .ok (.iload_n 1, 1) := by decide +kernel
theorem dL_rule_16 : decode cL_rule 16 = .ok (.iconst 1, 1) := by decide +kernel
theorem dL_rule_17 : decode cL_rule 17 = .ok (.if_icmp .ne 31, 3) := by decide +kernel
theorem dL_rule_20 : decode cL_rule 20 = .ok (.aload_n 0, 1) := by decide +kernel
theorem dL_rule_21 : decode cL_rule 21 = .ok (.iload_n 2, 1) := by decide +kernel
theorem dL_rule_22 : decode cL_rule 22 = .ok (.iload_n 3, 1) := by decide +kernel
theorem dL_rule_23 : decode cL_rule 23 = .ok (.iload 4, 2) := by decide +kernel
theorem dL_rule_25 : decode cL_rule 25 = .ok (.iconst 1, 1) := by decide +kernel
theorem dL_rule_26 : decode cL_rule 26 = .ok (.if_icmp .ne 7, 3) := by decide +kernel
theorem dL_rule_29 : decode cL_rule 29 = .ok (.iconst 1, 1) := by decide +kernel
theorem dL_rule_30 : decode cL_rule 30 = .ok (.goto 4, 3) := by decide +kernel
theorem dL_rule_33 : decode cL_rule 33 = .ok (.iconst 0, 1) := by decide +kernel
theorem dL_rule_34 : decode cL_rule 34 = .ok (.invokevirtual 15, 3) := by decide +kernel
theorem dL_rule_37 : decode cL_rule 37 = .ok (.ifCond .eq 7, 3) := by decide +kernel
theorem dL_rule_40 : decode cL_rule 40 = .ok (.iconst 1, 1) := by decide +kernel
theorem dL_rule_41 : decode cL_rule 41 = .ok (.goto 29, 3) := by decide +kernel
theorem dL_rule_44 : decode cL_rule 44 = .ok (.iconst 0, 1) := by decide +kernel
theorem dL_rule_45 : decode cL_rule 45 = .ok (.goto 25, 3) := by decide +kernel
theorem dL_rule_48 : decode cL_rule 48 = .ok (.iload_n 1, 1) := by decide +kernel
theorem dL_rule_49 : decode cL_rule 49 = .ok (.iconst 2, 1) := by decide +kernel
theorem dL_rule_50 : decode cL_rule 50 = .ok (.if_icmp .ne 12, 3) := by decide +kernel
theorem dL_rule_53 : decode cL_rule 53 = .ok (.aload_n 0, 1) := by decide +kernel
theorem dL_rule_54 : decode cL_rule 54 = .ok (.iload_n 2, 1) := by decide +kernel
theorem dL_rule_55 : decode cL_rule 55 = .ok (.iload_n 3, 1) := by decide +kernel
theorem dL_rule_56 : decode cL_rule 56 = .ok (.invokevirtual 19, 3) := by decide +kernel
theorem dL_rule_59 : decode cL_rule 59 = .ok (.goto 11, 3) := by decide +kernel
theorem dL_rule_62 : decode cL_rule 62 = .ok (.aload_n 0, 1) := by decide +kernel
theorem dL_rule_63 : decode cL_rule 63 = .ok (.iload_n 2, 1) := by decide +kernel
theorem dL_rule_64 : decode cL_rule 64 = .ok (.iload_n 3, 1) := by decide +kernel
theorem dL_rule_65 : decode cL_rule 65 = .ok (.iload 4, 2) := by decide +kernel
theorem dL_rule_67 : decode cL_rule 67 = .ok (.invokevirtual 23, 3) := by decide +kernel
theorem dL_rule_70 : decode cL_rule 70 = .ok (.ireturn, 1) := by decide +kernel
theorem dL_rule_71 : decode cL_rule 71 = .ok (.astore 5, 2) := by decide +kernel
theorem dL_rule_73 : decode cL_rule 73 = .ok (.sipush (-702), 3) := by decide +kernel
theorem dL_rule_76 : decode cL_rule 76 = .ok (.ireturn, 1) := by decide +kernel
theorem dL_rule_77 : decode cL_rule 77 = .ok (.astore 5, 2) := by decide +kernel
theorem dL_rule_79 : decode cL_rule 79 = .ok (.sipush (-703), 3) := by decide +kernel
theorem dL_rule_82 : decode cL_rule 82 = .ok (.ireturn, 1) := by decide +kernel
theorem dL_setQuantities_0 : decode cL_setQuantities 0 = .ok (.aload_n 0, 1) := by decide +kernel
theorem dL_setQuantities_1 : decode cL_setQuantities 1 = .ok (.iload_n 1, 1) := by decide +kernel
theorem dL_setQuantities_2 : decode cL_setQuantities 2 = .ok (.iload_n 2, 1) := by decide +kernel
theorem dL_setQuantities_3 : decode cL_setQuantities 3 = .ok (.iload_n 3, 1) := by decide +kernel
theorem dL_setQuantities_4 : decode cL_setQuantities 4 = .ok (.invokevirtual 30, 3) := by decide +kernel
theorem dL_setQuantities_7 : decode cL_setQuantities 7 = .ok (.iconst 0, 1) := by decide +kernel
theorem dL_setQuantities_8 : decode cL_setQuantities 8 = .ok (.ireturn, 1) := by decide +kernel
theorem dL_setQuantities_9 : decode cL_setQuantities 9 = .ok (.astore 4, 2) := by decide +kernel
theorem dL_setQuantities_11 : decode cL_setQuantities 11 = .ok (.sipush (-702), 3) := by decide +kernel
theorem dL_setQuantities_14 : decode cL_setQuantities 14 = .ok (.ireturn, 1) := by decide +kernel
theorem dL_of_0 : decode cL_of 0 = .ok (.iload_n 1, 1) := by decide +kernel
theorem dL_of_1 : decode cL_of 1 = .ok (.ifCond .ne 12, 3) := by decide +kernel
theorem dL_of_4 : decode cL_of 4 = .ok (.aload_n 0, 1) := by decide +kernel
theorem dL_of_5 : decode cL_of 5 = .ok (.iload_n 2, 1) := by decide +kernel
theorem dL_of_6 : decode cL_of 6 = .ok (.iload_n 3, 1) := by decide +kernel
theorem dL_of_7 : decode cL_of 7 = .ok (.invokevirtual 34, 3) := by decide +kernel
theorem dL_of_10 : decode cL_of 10 = .ok (.goto 173, 3) := by decide +kernel
theorem dL_of_13 : decode cL_of 13 = .ok (.iload_n 1, 1) := by decide +kernel
theorem dL_of_14 : decode cL_of 14 = .ok (.iconst 1, 1) := by decide +kernel
theorem dL_of_15 : decode cL_of 15 = .ok (.if_icmp .ne 12, 3) := by decide +kernel
theorem dL_of_18 : decode cL_of 18 = .ok (.aload_n 0, 1) := by decide +kernel
theorem dL_of_19 : decode cL_of 19 = .ok (.iload_n 2, 1) := by decide +kernel
theorem dL_of_20 : decode cL_of 20 = .ok (.iload_n 3, 1) := by decide +kernel
theorem dL_of_21 : decode cL_of 21 = .ok (.invokevirtual 37, 3) := by decide +kernel
theorem dL_of_24 : decode cL_of 24 = .ok (.goto 159, 3) := by decide +kernel
theorem dL_of_27 : decode cL_of 27 = .ok (.iload_n 1, 1) := by decide +kernel
theorem dL_of_28 : decode cL_of 28 = .ok (.iconst 2, 1) := by decide +kernel
theorem dL_of_29 : decode cL_of 29 = .ok (.if_icmp .ne 11, 3) := by decide +kernel
theorem dL_of_32 : decode cL_of 32 = .ok (.aload_n 0, 1) := by decide +kernel
theorem dL_of_33 : decode cL_of 33 = .ok (.iload_n 2, 1) := by decide +kernel
theorem dL_of_34 : decode cL_of 34 = .ok (.invokevirtual 40, 3) := by decide +kernel
theorem dL_of_37 : decode cL_of 37 = .ok (.goto 146, 3) := by decide +kernel
theorem dL_of_40 : decode cL_of 40 = .ok (.iload_n 1, 1) := by decide +kernel
theorem dL_of_41 : decode cL_of 41 = .ok (.iconst 3, 1) := by decide +kernel
theorem dL_of_42 : decode cL_of 42 = .ok (.if_icmp .ne 19, 3) := by decide +kernel
theorem dL_of_45 : decode cL_of 45 = .ok (.aload_n 0, 1) := by decide +kernel
theorem dL_of_46 : decode cL_of 46 = .ok (.iload_n 2, 1) := by decide +kernel
theorem dL_of_47 : decode cL_of 47 = .ok (.invokevirtual 44, 3) := by decide +kernel
theorem dL_of_50 : decode cL_of 50 = .ok (.ifCond .eq 7, 3) := by decide +kernel
theorem dL_of_53 : decode cL_of 53 = .ok (.iconst 1, 1) := by decide +kernel
theorem dL_of_54 : decode cL_of 54 = .ok (.goto 129, 3) := by decide +kernel
theorem dL_of_57 : decode cL_of 57 = .ok (.iconst 0, 1) := by decide +kernel
theorem dL_of_58 : decode cL_of 58 = .ok (.goto 125, 3) := by decide +kernel
theorem dL_of_61 : decode cL_of 61 = .ok (.iload_n 1, 1) := by decide +kernel
theorem dL_of_62 : decode cL_of 62 = .ok (.iconst 4, 1) := by decide +kernel
theorem dL_of_63 : decode cL_of 63 = .ok (.if_icmp .ne 19, 3) := by decide +kernel
theorem dL_of_66 : decode cL_of 66 = .ok (.aload_n 0, 1) := by decide +kernel
theorem dL_of_67 : decode cL_of 67 = .ok (.iload_n 2, 1) := by decide +kernel
theorem dL_of_68 : decode cL_of 68 = .ok (.invokevirtual 48, 3) := by decide +kernel
theorem dL_of_71 : decode cL_of 71 = .ok (.ifCond .eq 7, 3) := by decide +kernel
theorem dL_of_74 : decode cL_of 74 = .ok (.iconst 1, 1) := by decide +kernel
theorem dL_of_75 : decode cL_of 75 = .ok (.goto 108, 3) := by decide +kernel
theorem dL_of_78 : decode cL_of 78 = .ok (.iconst 0, 1) := by decide +kernel
theorem dL_of_79 : decode cL_of 79 = .ok (.goto 104, 3) := by decide +kernel
theorem dL_of_82 : decode cL_of 82 = .ok (.iload_n 1, 1) := by decide +kernel
theorem dL_of_83 : decode cL_of 83 = .ok (.iconst 5, 1) := by decide +kernel
theorem dL_of_84 : decode cL_of 84 = .ok (.if_icmp .ne 12, 3) := by decide +kernel
theorem dL_of_87 : decode cL_of 87 = .ok (.aload_n 0, 1) := by decide +kernel
theorem dL_of_88 : decode cL_of 88 = .ok (.iload_n 2, 1) := by decide +kernel
theorem dL_of_89 : decode cL_of 89 = .ok (.iload_n 3, 1) := by decide +kernel
theorem dL_of_90 : decode cL_of 90 = .ok (.invokevirtual 51, 3) := by decide +kernel
theorem dL_of_93 : decode cL_of 93 = .ok (.goto 90, 3) := by decide +kernel
theorem dL_of_96 : decode cL_of 96 = .ok (.iload_n 1, 1) := by decide +kernel
theorem dL_of_97 : decode cL_of 97 = .ok (.bipush 6, 2) := by decide +kernel
theorem dL_of_99 : decode cL_of 99 = .ok (.if_icmp .ne 20, 3) := by decide +kernel
theorem dL_of_102 : decode cL_of 102 = .ok (.aload_n 0, 1) := by decide +kernel
theorem dL_of_103 : decode cL_of 103 = .ok (.iload_n 2, 1) := by decide +kernel
theorem dL_of_104 : decode cL_of 104 = .ok (.iload_n 3, 1) := by decide +kernel
theorem dL_of_105 : decode cL_of 105 = .ok (.invokevirtual 54, 3) := by decide +kernel
theorem dL_of_108 : decode cL_of 108 = .ok (.ifCond .eq 7, 3) := by decide +kernel
theorem dL_of_111 : decode cL_of 111 = .ok (.iconst 1, 1) := by decide +kernel
theorem dL_of_112 : decode cL_of 112 = .ok (.goto 71, 3) := by decide +kernel
theorem dL_of_115 : decode cL_of 115 = .ok (.iconst 0, 1) := by decide +kernel
theorem dL_of_116 : decode cL_of 116 = .ok (.goto 67, 3) := by decide +kernel
theorem dL_of_119 : decode cL_of 119 = .ok (.iload_n 1, 1) := by decide +kernel
theorem dL_of_120 : decode cL_of 120 = .ok (.bipush 7, 2) := by decide +kernel
theorem dL_of_122 : decode cL_of 122 = .ok (.if_icmp .ne 19, 3) := by decide +kernel
theorem dL_of_125 : decode cL_of 125 = .ok (.aload_n 0, 1) := by decide +kernel
theorem dL_of_126 : decode cL_of 126 = .ok (.iload_n 2, 1) := by decide +kernel
theorem dL_of_127 : decode cL_of 127 = .ok (.invokevirtual 58, 3) := by decide +kernel
theorem dL_of_130 : decode cL_of 130 = .ok (.ifCond .eq 7, 3) := by decide +kernel
theorem dL_of_133 : decode cL_of 133 = .ok (.iconst 1, 1) := by decide +kernel
theorem dL_of_134 : decode cL_of 134 = .ok (.goto 49, 3) := by decide +kernel
theorem dL_of_137 : decode cL_of 137 = .ok (.iconst 0, 1) := by decide +kernel
theorem dL_of_138 : decode cL_of 138 = .ok (.goto 45, 3) := by decide +kernel
theorem dL_of_141 : decode cL_of 141 = .ok (.iload_n 1, 1) := by decide +kernel
theorem dL_of_142 : decode cL_of 142 = .ok (.bipush 8, 2) := by decide +kernel
theorem dL_of_144 : decode cL_of 144 = .ok (.if_icmp .ne 11, 3) := by decide +kernel
theorem dL_of_147 : decode cL_of 147 = .ok (.aload_n 0, 1) := by decide +kernel
theorem dL_of_148 : decode cL_of 148 = .ok (.iload_n 2, 1) := by decide +kernel
theorem dL_of_149 : decode cL_of 149 = .ok (.invokevirtual 61, 3) := by decide +kernel
theorem dL_of_152 : decode cL_of 152 = .ok (.goto 31, 3) := by decide +kernel
theorem dL_of_155 : decode cL_of 155 = .ok (.iload_n 1, 1) := by decide +kernel
theorem dL_of_156 : decode cL_of 156 = .ok (.bipush 9, 2) := by decide +kernel
theorem dL_of_158 : decode cL_of 158 = .ok (.if_icmp .ne 20, 3) := by decide +kernel
theorem dL_of_161 : decode cL_of 161 = .ok (.aload_n 0, 1) := by decide +kernel
theorem dL_of_162 : decode cL_of 162 = .ok (.iload_n 2, 1) := by decide +kernel
theorem dL_of_163 : decode cL_of 163 = .ok (.iload_n 3, 1) := by decide +kernel
theorem dL_of_164 : decode cL_of 164 = .ok (.invokevirtual 64, 3) := by decide +kernel
theorem dL_of_167 : decode cL_of 167 = .ok (.ifCond .eq 7, 3) := by decide +kernel
theorem dL_of_170 : decode cL_of 170 = .ok (.iconst 1, 1) := by decide +kernel
theorem dL_of_171 : decode cL_of 171 = .ok (.goto 12, 3) := by decide +kernel
theorem dL_of_174 : decode cL_of 174 = .ok (.iconst 0, 1) := by decide +kernel
theorem dL_of_175 : decode cL_of 175 = .ok (.goto 8, 3) := by decide +kernel
theorem dL_of_178 : decode cL_of 178 = .ok (.aload_n 0, 1) := by decide +kernel
theorem dL_of_179 : decode cL_of 179 = .ok (.iload_n 2, 1) := by decide +kernel
theorem dL_of_180 : decode cL_of 180 = .ok (.invokevirtual 67, 3) := by decide +kernel
theorem dL_of_183 : decode cL_of 183 = .ok (.ireturn, 1) := by decide +kernel
theorem dL_of_184 : decode cL_of 184 = .ok (.astore 4, 2) := by decide +kernel
theorem dL_of_186 : decode cL_of 186 = .ok (.sipush (-701), 3) := by decide +kernel
theorem dL_of_189 : decode cL_of 189 = .ok (.ireturn, 1) := by decide +kernel
theorem dL_of_190 : decode cL_of 190 = .ok (.astore 4, 2) := by decide +kernel
theorem dL_of_192 : decode cL_of 192 = .ok (.sipush (-702), 3) := by decide +kernel
theorem dL_of_195 : decode cL_of 195 = .ok (.ireturn, 1) := by decide +kernel
theorem dL_table_0 : decode cL_table 0 = .ok (.iload_n 1, 1) := by decide +kernel
theorem dL_table_1 : decode cL_table 1 = .ok (.iload_n 2, 1) := by decide +kernel
theorem dL_table_2 : decode cL_table 2 = .ok (.if_icmp .ge 7, 3) := by decide +kernel
theorem dL_table_5 : decode cL_table 5 = .ok (.iload_n 1, 1) := by decide +kernel
theorem dL_table_6 : decode cL_table 6 = .ok (.goto 4, 3) := by decide +kernel
theorem dL_table_9 : decode cL_table 9 = .ok (.iload_n 2, 1) := by decide +kernel
theorem dL_table_10 : decode cL_table 10 = .ok (.istore_n 3, 1) := by decide +kernel
theorem dL_table_11 : decode cL_table 11 = .ok (.aload_n 0, 1) := by decide +kernel
theorem dL_table_12 : decode cL_table 12 = .ok (.iload_n 3, 1) := by decide +kernel
theorem dL_table_13 : decode cL_table 13 = .ok (.iconst 1, 1) := by decide +kernel
theorem dL_table_14 : decode cL_table 14 = .ok (.isub, 1) := by decide +kernel
theorem dL_table_15 : decode cL_table 15 = .ok (.bipush 20, 2) := by decide +kernel
theorem dL_table_17 : decode cL_table 17 = .ok (.iload_n 3, 1) := by decide +kernel
theorem dL_table_18 : decode cL_table 18 = .ok (.isub, 1) := by decide +kernel
theorem dL_table_19 : decode cL_table 19 = .ok (.imul, 1) := by decide +kernel
theorem dL_table_20 : decode cL_table 20 = .ok (.iconst 2, 1) := by decide +kernel
theorem dL_table_21 : decode cL_table 21 = .ok (.idiv, 1) := by decide +kernel
theorem dL_table_22 : decode cL_table 22 = .ok (.iload_n 1, 1) := by decide +kernel
theorem dL_table_23 : decode cL_table 23 = .ok (.iadd, 1) := by decide +kernel
theorem dL_table_24 : decode cL_table 24 = .ok (.iload_n 2, 1) := by decide +kernel
theorem dL_table_25 : decode cL_table 25 = .ok (.iadd, 1) := by decide +kernel
theorem dL_table_26 : decode cL_table 26 = .ok (.iconst 2, 1) := by decide +kernel
theorem dL_table_27 : decode cL_table 27 = .ok (.iload_n 3, 1) := by decide +kernel
theorem dL_table_28 : decode cL_table 28 = .ok (.imul, 1) := by decide +kernel
theorem dL_table_29 : decode cL_table 29 = .ok (.isub, 1) := by decide +kernel
theorem dL_table_30 : decode cL_table 30 = .ok (.iaload, 1) := by decide +kernel
theorem dL_table_31 : decode cL_table 31 = .ok (.ireturn, 1) := by decide +kernel
theorem dL_sets_0 : decode cL_sets 0 = .ok (.iload_n 1, 1) := by decide +kernel
theorem dL_sets_1 : decode cL_sets 1 = .ok (.iload_n 2, 1) := by decide +kernel
theorem dL_sets_2 : decode cL_sets 2 = .ok (.if_icmp .ge 7, 3) := by decide +kernel
theorem dL_sets_5 : decode cL_sets 5 = .ok (.iload_n 1, 1) := by decide +kernel
theorem dL_sets_6 : decode cL_sets 6 = .ok (.goto 4, 3) := by decide +kernel
theorem dL_sets_9 : decode cL_sets 9 = .ok (.iload_n 2, 1) := by decide +kernel
theorem dL_sets_10 : decode cL_sets 10 = .ok (.istore 4, 2) := by decide +kernel
theorem dL_sets_12 : decode cL_sets 12 = .ok (.aload_n 0, 1) := by decide +kernel
theorem dL_sets_13 : decode cL_sets 13 = .ok (.iload 4, 2) := by decide +kernel
theorem dL_sets_15 : decode cL_sets 15 = .ok (.iconst 1, 1) := by decide +kernel
theorem dL_sets_16 : decode cL_sets 16 = .ok (.isub, 1) := by decide +kernel
theorem dL_sets_17 : decode cL_sets 17 = .ok (.bipush 20, 2) := by decide +kernel
theorem dL_sets_19 : decode cL_sets 19 = .ok (.iload 4, 2) := by decide +kernel
theorem dL_sets_21 : decode cL_sets 21 = .ok (.isub, 1) := by decide +kernel
theorem dL_sets_22 : decode cL_sets 22 = .ok (.imul, 1) := by decide +kernel
theorem dL_sets_23 : decode cL_sets 23 = .ok (.iconst 2, 1) := by decide +kernel
theorem dL_sets_24 : decode cL_sets 24 = .ok (.idiv, 1) := by decide +kernel
theorem dL_sets_25 : decode cL_sets 25 = .ok (.iload_n 1, 1) := by decide +kernel
theorem dL_sets_26 : decode cL_sets 26 = .ok (.iadd, 1) := by decide +kernel
theorem dL_sets_27 : decode cL_sets 27 = .ok (.iload_n 2, 1) := by decide +kernel
theorem dL_sets_28 : decode cL_sets 28 = .ok (.iadd, 1) := by decide +kernel
theorem dL_sets_29 : decode cL_sets 29 = .ok (.iconst 2, 1) := by decide +kernel
theorem dL_sets_30 : decode cL_sets 30 = .ok (.iload 4, 2) := by decide +kernel
theorem dL_sets_32 : decode cL_sets 32 = .ok (.imul, 1) := by decide +kernel
theorem dL_sets_33 : decode cL_sets 33 = .ok (.isub, 1) := by decide +kernel
theorem dL_sets_34 : decode cL_sets 34 = .ok (.iload_n 3, 1) := by decide +kernel
theorem dL_sets_35 : decode cL_sets 35 = .ok (.iastore, 1) := by decide +kernel
theorem dL_sets_36 : decode cL_sets 36 = .ok (.return_, 1) := by decide +kernel
theorem dL_isWithin_0 : decode cL_isWithin 0 = .ok (.aload_n 0, 1) := by decide +kernel
theorem dL_isWithin_1 : decode cL_isWithin 1 = .ok (.iconst 3, 1) := by decide +kernel
theorem dL_isWithin_2 : decode cL_isWithin 2 = .ok (.iload_n 2, 1) := by decide +kernel
theorem dL_isWithin_3 : decode cL_isWithin 3 = .ok (.imul, 1) := by decide +kernel
theorem dL_isWithin_4 : decode cL_isWithin 4 = .ok (.iconst 2, 1) := by decide +kernel
theorem dL_isWithin_5 : decode cL_isWithin 5 = .ok (.iadd, 1) := by decide +kernel
theorem dL_isWithin_6 : decode cL_isWithin 6 = .ok (.iaload, 1) := by decide +kernel
theorem dL_isWithin_7 : decode cL_isWithin 7 = .ok (.aload_n 1, 1) := by decide +kernel
theorem dL_isWithin_8 : decode cL_isWithin 8 = .ok (.iload_n 3, 1) := by decide +kernel
theorem dL_isWithin_9 : decode cL_isWithin 9 = .ok (.aload_n 0, 1) := by decide +kernel
theorem dL_isWithin_10 : decode cL_isWithin 10 = .ok (.iconst 3, 1) := by decide +kernel
theorem dL_isWithin_11 : decode cL_isWithin 11 = .ok (.iload_n 2, 1) := by decide +kernel
theorem dL_isWithin_12 : decode cL_isWithin 12 = .ok (.imul, 1) := by decide +kernel
theorem dL_isWithin_13 : decode cL_isWithin 13 = .ok (.iaload, 1) := by decide +kernel
theorem dL_isWithin_14 : decode cL_isWithin 14 = .ok (.iadd, 1) := by decide +kernel
theorem dL_isWithin_15 : decode cL_isWithin 15 = .ok (.iaload, 1) := by decide +kernel
theorem dL_isWithin_16 : decode cL_isWithin 16 = .ok (.if_icmp .gt 38, 3) := by decide +kernel
theorem dL_isWithin_19 : decode cL_isWithin 19 = .ok (.aload_n 0, 1) := by decide +kernel
theorem dL_isWithin_20 : decode cL_isWithin 20 = .ok (.iconst 3, 1) := by decide +kernel
theorem dL_isWithin_21 : decode cL_isWithin 21 = .ok (.iload_n 2, 1) := by decide +kernel
theorem dL_isWithin_22 : decode cL_isWithin 22 = .ok (.imul, 1) := by decide +kernel
theorem dL_isWithin_23 : decode cL_isWithin 23 = .ok (.iconst 1, 1) := by decide +kernel
theorem dL_isWithin_24 : decode cL_isWithin 24 = .ok (.iadd, 1) := by decide +kernel
theorem dL_isWithin_25 : decode cL_isWithin 25 = .ok (.iaload, 1) := by decide +kernel
theorem dL_isWithin_26 : decode cL_isWithin 26 = .ok (.ifCond .eq 24, 3) := by decide +kernel
theorem dL_isWithin_29 : decode cL_isWithin 29 = .ok (.aload_n 0, 1) := by decide +kernel
theorem dL_isWithin_30 : decode cL_isWithin 30 = .ok (.iconst 3, 1) := by decide +kernel
theorem dL_isWithin_31 : decode cL_isWithin 31 = .ok (.iload_n 2, 1) := by decide +kernel
theorem dL_isWithin_32 : decode cL_isWithin 32 = .ok (.imul, 1) := by decide +kernel
theorem dL_isWithin_33 : decode cL_isWithin 33 = .ok (.iconst 2, 1) := by decide +kernel
theorem dL_isWithin_34 : decode cL_isWithin 34 = .ok (.iadd, 1) := by decide +kernel
theorem dL_isWithin_35 : decode cL_isWithin 35 = .ok (.iaload, 1) := by decide +kernel
theorem dL_isWithin_36 : decode cL_isWithin 36 = .ok (.aload_n 1, 1) := by decide +kernel
theorem dL_isWithin_37 : decode cL_isWithin 37 = .ok (.iload_n 3, 1) := by decide +kernel
theorem dL_isWithin_38 : decode cL_isWithin 38 = .ok (.aload_n 0, 1) := by decide +kernel
theorem dL_isWithin_39 : decode cL_isWithin 39 = .ok (.iconst 3, 1) := by decide +kernel
theorem dL_isWithin_40 : decode cL_isWithin 40 = .ok (.iload_n 2, 1) := by decide +kernel
theorem dL_isWithin_41 : decode cL_isWithin 41 = .ok (.imul, 1) := by decide +kernel
theorem dL_isWithin_42 : decode cL_isWithin 42 = .ok (.iconst 1, 1) := by decide +kernel
theorem dL_isWithin_43 : decode cL_isWithin 43 = .ok (.iadd, 1) := by decide +kernel
theorem dL_isWithin_44 : decode cL_isWithin 44 = .ok (.iaload, 1) := by decide +kernel
theorem dL_isWithin_45 : decode cL_isWithin 45 = .ok (.iadd, 1) := by decide +kernel
theorem dL_isWithin_46 : decode cL_isWithin 46 = .ok (.iaload, 1) := by decide +kernel
theorem dL_isWithin_47 : decode cL_isWithin 47 = .ok (.if_icmp .gt 7, 3) := by decide +kernel
theorem dL_isWithin_50 : decode cL_isWithin 50 = .ok (.iconst 1, 1) := by decide +kernel
theorem dL_isWithin_51 : decode cL_isWithin 51 = .ok (.goto 4, 3) := by decide +kernel
theorem dL_isWithin_54 : decode cL_isWithin 54 = .ok (.iconst 0, 1) := by decide +kernel
theorem dL_isWithin_55 : decode cL_isWithin 55 = .ok (.ireturn, 1) := by decide +kernel
theorem dL_need_0 : decode cL_need 0 = .ok (.iconst 0, 1) := by decide +kernel
theorem dL_need_1 : decode cL_need 1 = .ok (.istore 5, 2) := by decide +kernel
theorem dL_need_3 : decode cL_need 3 = .ok (.iconst 0, 1) := by decide +kernel
theorem dL_need_4 : decode cL_need 4 = .ok (.istore 6, 2) := by decide +kernel
theorem dL_need_6 : decode cL_need 6 = .ok (.iload 6, 2) := by decide +kernel
theorem dL_need_8 : decode cL_need 8 = .ok (.iconst 4, 1) := by decide +kernel
theorem dL_need_9 : decode cL_need 9 = .ok (.if_icmp .ge 74, 3) := by decide +kernel
theorem dL_need_12 : decode cL_need 12 = .ok (.aload_n 2, 1) := by decide +kernel
theorem dL_need_13 : decode cL_need 13 = .ok (.iconst 3, 1) := by decide +kernel
theorem dL_need_14 : decode cL_need 14 = .ok (.iload_n 3, 1) := by decide +kernel
theorem dL_need_15 : decode cL_need 15 = .ok (.imul, 1) := by decide +kernel
theorem dL_need_16 : decode cL_need 16 = .ok (.iload 6, 2) := by decide +kernel
theorem dL_need_18 : decode cL_need 18 = .ok (.iconst 2, 1) := by decide +kernel
theorem dL_need_19 : decode cL_need 19 = .ok (.irem, 1) := by decide +kernel
theorem dL_need_20 : decode cL_need 20 = .ok (.iadd, 1) := by decide +kernel
theorem dL_need_21 : decode cL_need 21 = .ok (.iaload, 1) := by decide +kernel
theorem dL_need_22 : decode cL_need 22 = .ok (.istore 7, 2) := by decide +kernel
theorem dL_need_24 : decode cL_need 24 = .ok (.aload_n 2, 1) := by decide +kernel
theorem dL_need_25 : decode cL_need 25 = .ok (.iconst 3, 1) := by decide +kernel
theorem dL_need_26 : decode cL_need 26 = .ok (.iload 4, 2) := by decide +kernel
theorem dL_need_28 : decode cL_need 28 = .ok (.imul, 1) := by decide +kernel
theorem dL_need_29 : decode cL_need 29 = .ok (.iload 6, 2) := by decide +kernel
theorem dL_need_31 : decode cL_need 31 = .ok (.iconst 2, 1) := by decide +kernel
theorem dL_need_32 : decode cL_need 32 = .ok (.idiv, 1) := by decide +kernel
theorem dL_need_33 : decode cL_need 33 = .ok (.iadd, 1) := by decide +kernel
theorem dL_need_34 : decode cL_need 34 = .ok (.iaload, 1) := by decide +kernel
theorem dL_need_35 : decode cL_need 35 = .ok (.istore 8, 2) := by decide +kernel
theorem dL_need_37 : decode cL_need 37 = .ok (.iload 7, 2) := by decide +kernel
theorem dL_need_39 : decode cL_need 39 = .ok (.ifCond .eq 8, 3) := by decide +kernel
theorem dL_need_42 : decode cL_need 42 = .ok (.iload 8, 2) := by decide +kernel
theorem dL_need_44 : decode cL_need 44 = .ok (.ifCond .ne 7, 3) := by decide +kernel
theorem dL_need_47 : decode cL_need 47 = .ok (.iconst 0, 1) := by decide +kernel
theorem dL_need_48 : decode cL_need 48 = .ok (.goto 11, 3) := by decide +kernel
theorem dL_need_51 : decode cL_need 51 = .ok (.aload_n 0, 1) := by decide +kernel
theorem dL_need_52 : decode cL_need 52 = .ok (.iload 7, 2) := by decide +kernel
theorem dL_need_54 : decode cL_need 54 = .ok (.iload 8, 2) := by decide +kernel
theorem dL_need_56 : decode cL_need 56 = .ok (.invokestatic 72, 3) := by decide +kernel
theorem dL_need_59 : decode cL_need 59 = .ok (.istore 9, 2) := by decide +kernel
theorem dL_need_61 : decode cL_need 61 = .ok (.iload 9, 2) := by decide +kernel
theorem dL_need_63 : decode cL_need 63 = .ok (.iload 5, 2) := by decide +kernel
theorem dL_need_65 : decode cL_need 65 = .ok (.if_icmp .le 8, 3) := by decide +kernel
theorem dL_need_68 : decode cL_need 68 = .ok (.iload 9, 2) := by decide +kernel
theorem dL_need_70 : decode cL_need 70 = .ok (.goto 5, 3) := by decide +kernel
theorem dL_need_73 : decode cL_need 73 = .ok (.iload 5, 2) := by decide +kernel
theorem dL_need_75 : decode cL_need 75 = .ok (.istore 5, 2) := by decide +kernel
theorem dL_need_77 : decode cL_need 77 = .ok (.iinc 6 1, 3) := by decide +kernel
theorem dL_need_80 : decode cL_need 80 = .ok (.goto (-74), 3) := by decide +kernel
theorem dL_need_83 : decode cL_need 83 = .ok (.aload_n 2, 1) := by decide +kernel
theorem dL_need_84 : decode cL_need 84 = .ok (.aload_n 1, 1) := by decide +kernel
theorem dL_need_85 : decode cL_need 85 = .ok (.iload_n 3, 1) := by decide +kernel
theorem dL_need_86 : decode cL_need 86 = .ok (.bipush 10, 2) := by decide +kernel
theorem dL_need_88 : decode cL_need 88 = .ok (.invokestatic 78, 3) := by decide +kernel
theorem dL_need_91 : decode cL_need 91 = .ok (.ifCond .ne 15, 3) := by decide +kernel
theorem dL_need_94 : decode cL_need 94 = .ok (.aload_n 2, 1) := by decide +kernel
theorem dL_need_95 : decode cL_need 95 = .ok (.aload_n 1, 1) := by decide +kernel
theorem dL_need_96 : decode cL_need 96 = .ok (.iload 4, 2) := by decide +kernel
theorem dL_need_98 : decode cL_need 98 = .ok (.bipush 10, 2) := by decide +kernel
theorem dL_need_100 : decode cL_need 100 = .ok (.invokestatic 78, 3) := by decide +kernel
theorem dL_need_103 : decode cL_need 103 = .ok (.ifCond .eq 5, 3) := by decide +kernel
theorem dL_need_106 : decode cL_need 106 = .ok (.iconst 0, 1) := by decide +kernel
theorem dL_need_107 : decode cL_need 107 = .ok (.ireturn, 1) := by decide +kernel
theorem dL_need_108 : decode cL_need 108 = .ok (.iload 5, 2) := by decide +kernel
theorem dL_need_110 : decode cL_need 110 = .ok (.ifCond .le 31, 3) := by decide +kernel
theorem dL_need_113 : decode cL_need 113 = .ok (.aload_n 2, 1) := by decide +kernel
theorem dL_need_114 : decode cL_need 114 = .ok (.aload_n 1, 1) := by decide +kernel
theorem dL_need_115 : decode cL_need 115 = .ok (.iload_n 3, 1) := by decide +kernel
theorem dL_need_116 : decode cL_need 116 = .ok (.iconst 0, 1) := by decide +kernel
theorem dL_need_117 : decode cL_need 117 = .ok (.invokestatic 78, 3) := by decide +kernel
theorem dL_need_120 : decode cL_need 120 = .ok (.ifCond .ne 14, 3) := by decide +kernel
theorem dL_need_123 : decode cL_need 123 = .ok (.aload_n 2, 1) := by decide +kernel
theorem dL_need_124 : decode cL_need 124 = .ok (.aload_n 1, 1) := by decide +kernel
theorem dL_need_125 : decode cL_need 125 = .ok (.iload 4, 2) := by decide +kernel
theorem dL_need_127 : decode cL_need 127 = .ok (.iconst 0, 1) := by decide +kernel
theorem dL_need_128 : decode cL_need 128 = .ok (.invokestatic 78, 3) := by decide +kernel
theorem dL_need_131 : decode cL_need 131 = .ok (.ifCond .eq 10, 3) := by decide +kernel
theorem dL_need_134 : decode cL_need 134 = .ok (.iload 5, 2) := by decide +kernel
theorem dL_need_136 : decode cL_need 136 = .ok (.iconst 1, 1) := by decide +kernel
theorem dL_need_137 : decode cL_need 137 = .ok (.isub, 1) := by decide +kernel
theorem dL_need_138 : decode cL_need 138 = .ok (.goto 5, 3) := by decide +kernel
theorem dL_need_141 : decode cL_need 141 = .ok (.iload 5, 2) := by decide +kernel
theorem dL_need_143 : decode cL_need 143 = .ok (.ireturn, 1) := by decide +kernel
theorem dL_all_0 : decode cL_all 0 = .ok (.aload_n 0, 1) := by decide +kernel
theorem dL_all_1 : decode cL_all 1 = .ok (.invokevirtual 82, 3) := by decide +kernel
theorem dL_all_4 : decode cL_all 4 = .ok (.i2l, 1) := by decide +kernel
theorem dL_all_5 : decode cL_all 5 = .ok (.ldc2_w 86, 3) := by decide +kernel
theorem dL_all_8 : decode cL_all 8 = .ok (.aload_n 0, 1) := by decide +kernel
theorem dL_all_9 : decode cL_all 9 = .ok (.invokevirtual 88, 3) := by decide +kernel
theorem dL_all_12 : decode cL_all 12 = .ok (.i2l, 1) := by decide +kernel
theorem dL_all_13 : decode cL_all 13 = .ok (.lmul, 1) := by decide +kernel
theorem dL_all_14 : decode cL_all 14 = .ok (.ladd, 1) := by decide +kernel
theorem dL_all_15 : decode cL_all 15 = .ok (.ldc2_w 91, 3) := by decide +kernel
theorem dL_all_18 : decode cL_all 18 = .ok (.aload_n 0, 1) := by decide +kernel
theorem dL_all_19 : decode cL_all 19 = .ok (.invokevirtual 93, 3) := by decide +kernel
theorem dL_all_22 : decode cL_all 22 = .ok (.i2l, 1) := by decide +kernel
theorem dL_all_23 : decode cL_all 23 = .ok (.lmul, 1) := by decide +kernel
theorem dL_all_24 : decode cL_all 24 = .ok (.ladd, 1) := by decide +kernel
theorem dL_all_25 : decode cL_all 25 = .ok (.lstore_n 1, 1) := by decide +kernel
theorem dL_all_26 : decode cL_all 26 = .ok (.iconst 0, 1) := by decide +kernel
theorem dL_all_27 : decode cL_all 27 = .ok (.istore_n 3, 1) := by decide +kernel
theorem dL_all_28 : decode cL_all 28 = .ok (.iload_n 3, 1) := by decide +kernel
theorem dL_all_29 : decode cL_all 29 = .ok (.aload_n 0, 1) := by decide +kernel
theorem dL_all_30 : decode cL_all 30 = .ok (.invokevirtual 82, 3) := by decide +kernel
theorem dL_all_33 : decode cL_all 33 = .ok (.if_icmp .ge 81, 3) := by decide +kernel
theorem dL_all_36 : decode cL_all 36 = .ok (.ldc2_w 96, 3) := by decide +kernel
theorem dL_all_39 : decode cL_all 39 = .ok (.lload_n 1, 1) := by decide +kernel
theorem dL_all_40 : decode cL_all 40 = .ok (.lmul, 1) := by decide +kernel
theorem dL_all_41 : decode cL_all 41 = .ok (.aload_n 0, 1) := by decide +kernel
theorem dL_all_42 : decode cL_all 42 = .ok (.iload_n 3, 1) := by decide +kernel
theorem dL_all_43 : decode cL_all 43 = .ok (.invokevirtual 40, 3) := by decide +kernel
theorem dL_all_46 : decode cL_all 46 = .ok (.i2l, 1) := by decide +kernel
theorem dL_all_47 : decode cL_all 47 = .ok (.ladd, 1) := by decide +kernel
theorem dL_all_48 : decode cL_all 48 = .ok (.ldc2_w 98, 3) := by decide +kernel
theorem dL_all_51 : decode cL_all 51 = .ok (.aload_n 0, 1) := by decide +kernel
theorem dL_all_52 : decode cL_all 52 = .ok (.iload_n 3, 1) := by decide +kernel
theorem dL_all_53 : decode cL_all 53 = .ok (.invokevirtual 61, 3) := by decide +kernel
theorem dL_all_56 : decode cL_all 56 = .ok (.i2l, 1) := by decide +kernel
theorem dL_all_57 : decode cL_all 57 = .ok (.lmul, 1) := by decide +kernel
theorem dL_all_58 : decode cL_all 58 = .ok (.ladd, 1) := by decide +kernel
theorem dL_all_59 : decode cL_all 59 = .ok (.aload_n 0, 1) := by decide +kernel
theorem dL_all_60 : decode cL_all 60 = .ok (.iload_n 3, 1) := by decide +kernel
theorem dL_all_61 : decode cL_all 61 = .ok (.invokevirtual 44, 3) := by decide +kernel
theorem dL_all_64 : decode cL_all 64 = .ok (.ifCond .eq 9, 3) := by decide +kernel
theorem dL_all_67 : decode cL_all 67 = .ok (.ldc2_w 100, 3) := by decide +kernel
theorem dL_all_70 : decode cL_all 70 = .ok (.goto 4, 3) := by decide +kernel
theorem dL_all_73 : decode cL_all 73 = .ok (.lconst 0, 1) := by decide +kernel
theorem dL_all_74 : decode cL_all 74 = .ok (.ladd, 1) := by decide +kernel
theorem dL_all_75 : decode cL_all 75 = .ok (.aload_n 0, 1) := by decide +kernel
theorem dL_all_76 : decode cL_all 76 = .ok (.iload_n 3, 1) := by decide +kernel
theorem dL_all_77 : decode cL_all 77 = .ok (.invokevirtual 48, 3) := by decide +kernel
theorem dL_all_80 : decode cL_all 80 = .ok (.ifCond .eq 9, 3) := by decide +kernel
theorem dL_all_83 : decode cL_all 83 = .ok (.ldc2_w 102, 3) := by decide +kernel
theorem dL_all_86 : decode cL_all 86 = .ok (.goto 4, 3) := by decide +kernel
theorem dL_all_89 : decode cL_all 89 = .ok (.lconst 0, 1) := by decide +kernel
theorem dL_all_90 : decode cL_all 90 = .ok (.ladd, 1) := by decide +kernel
theorem dL_all_91 : decode cL_all 91 = .ok (.aload_n 0, 1) := by decide +kernel
theorem dL_all_92 : decode cL_all 92 = .ok (.iload_n 3, 1) := by decide +kernel
theorem dL_all_93 : decode cL_all 93 = .ok (.invokevirtual 58, 3) := by decide +kernel
theorem dL_all_96 : decode cL_all 96 = .ok (.ifCond .eq 9, 3) := by decide +kernel
theorem dL_all_99 : decode cL_all 99 = .ok (.ldc2_w 104, 3) := by decide +kernel
theorem dL_all_102 : decode cL_all 102 = .ok (.goto 4, 3) := by decide +kernel
theorem dL_all_105 : decode cL_all 105 = .ok (.lconst 0, 1) := by decide +kernel
theorem dL_all_106 : decode cL_all 106 = .ok (.ladd, 1) := by decide +kernel
theorem dL_all_107 : decode cL_all 107 = .ok (.lstore_n 1, 1) := by decide +kernel
theorem dL_all_108 : decode cL_all 108 = .ok (.iinc 3 1, 3) := by decide +kernel
theorem dL_all_111 : decode cL_all 111 = .ok (.goto (-83), 3) := by decide +kernel
theorem dL_all_114 : decode cL_all 114 = .ok (.iconst 0, 1) := by decide +kernel
theorem dL_all_115 : decode cL_all 115 = .ok (.istore_n 3, 1) := by decide +kernel
theorem dL_all_116 : decode cL_all 116 = .ok (.iload_n 3, 1) := by decide +kernel
theorem dL_all_117 : decode cL_all 117 = .ok (.aload_n 0, 1) := by decide +kernel
theorem dL_all_118 : decode cL_all 118 = .ok (.invokevirtual 82, 3) := by decide +kernel
theorem dL_all_121 : decode cL_all 121 = .ok (.aload_n 0, 1) := by decide +kernel
theorem dL_all_122 : decode cL_all 122 = .ok (.invokevirtual 82, 3) := by decide +kernel
theorem dL_all_125 : decode cL_all 125 = .ok (.imul, 1) := by decide +kernel
theorem dL_all_126 : decode cL_all 126 = .ok (.if_icmp .ge 52, 3) := by decide +kernel
theorem dL_all_129 : decode cL_all 129 = .ok (.ldc2_w 86, 3) := by decide +kernel
theorem dL_all_132 : decode cL_all 132 = .ok (.lload_n 1, 1) := by decide +kernel
theorem dL_all_133 : decode cL_all 133 = .ok (.lmul, 1) := by decide +kernel
theorem dL_all_134 : decode cL_all 134 = .ok (.iload_n 3, 1) := by decide +kernel
theorem dL_all_135 : decode cL_all 135 = .ok (.aload_n 0, 1) := by decide +kernel
theorem dL_all_136 : decode cL_all 136 = .ok (.invokevirtual 82, 3) := by decide +kernel
theorem dL_all_139 : decode cL_all 139 = .ok (.irem, 1) := by decide +kernel
theorem dL_all_140 : decode cL_all 140 = .ok (.iload_n 3, 1) := by decide +kernel
theorem dL_all_141 : decode cL_all 141 = .ok (.aload_n 0, 1) := by decide +kernel
theorem dL_all_142 : decode cL_all 142 = .ok (.invokevirtual 82, 3) := by decide +kernel
theorem dL_all_145 : decode cL_all 145 = .ok (.idiv, 1) := by decide +kernel
theorem dL_all_146 : decode cL_all 146 = .ok (.if_icmp .ne 7, 3) := by decide +kernel
theorem dL_all_149 : decode cL_all 149 = .ok (.iconst 0, 1) := by decide +kernel
theorem dL_all_150 : decode cL_all 150 = .ok (.goto 19, 3) := by decide +kernel
theorem dL_all_153 : decode cL_all 153 = .ok (.aload_n 0, 1) := by decide +kernel
theorem dL_all_154 : decode cL_all 154 = .ok (.iload_n 3, 1) := by decide +kernel
theorem dL_all_155 : decode cL_all 155 = .ok (.aload_n 0, 1) := by decide +kernel
theorem dL_all_156 : decode cL_all 156 = .ok (.invokevirtual 82, 3) := by decide +kernel
theorem dL_all_159 : decode cL_all 159 = .ok (.irem, 1) := by decide +kernel
theorem dL_all_160 : decode cL_all 160 = .ok (.iload_n 3, 1) := by decide +kernel
theorem dL_all_161 : decode cL_all 161 = .ok (.aload_n 0, 1) := by decide +kernel
theorem dL_all_162 : decode cL_all 162 = .ok (.invokevirtual 82, 3) := by decide +kernel
theorem dL_all_165 : decode cL_all 165 = .ok (.idiv, 1) := by decide +kernel
theorem dL_all_166 : decode cL_all 166 = .ok (.invokevirtual 51, 3) := by decide +kernel
theorem dL_all_169 : decode cL_all 169 = .ok (.i2l, 1) := by decide +kernel
theorem dL_all_170 : decode cL_all 170 = .ok (.ladd, 1) := by decide +kernel
theorem dL_all_171 : decode cL_all 171 = .ok (.lstore_n 1, 1) := by decide +kernel
theorem dL_all_172 : decode cL_all 172 = .ok (.iinc 3 1, 3) := by decide +kernel
theorem dL_all_175 : decode cL_all 175 = .ok (.goto (-59), 3) := by decide +kernel
theorem dL_all_178 : decode cL_all 178 = .ok (.lload_n 1, 1) := by decide +kernel
theorem dL_all_179 : decode cL_all 179 = .ok (.lreturn, 1) := by decide +kernel
theorem dL_areGoods_0 : decode cL_areGoods 0 = .ok (.iconst 0, 1) := by decide +kernel
theorem dL_areGoods_1 : decode cL_areGoods 1 = .ok (.istore 5, 2) := by decide +kernel
theorem dL_areGoods_3 : decode cL_areGoods 3 = .ok (.iconst 0, 1) := by decide +kernel
theorem dL_areGoods_4 : decode cL_areGoods 4 = .ok (.istore 6, 2) := by decide +kernel
theorem dL_areGoods_6 : decode cL_areGoods 6 = .ok (.aload_n 0, 1) := by decide +kernel
theorem dL_areGoods_7 : decode cL_areGoods 7 = .ok (.invokevirtual 82, 3) := by decide +kernel
theorem dL_areGoods_10 : decode cL_areGoods 10 = .ok (.aload 4, 2) := by decide +kernel
theorem dL_areGoods_12 : decode cL_areGoods 12 = .ok (.iconst 0, 1) := by decide +kernel
theorem dL_areGoods_13 : decode cL_areGoods 13 = .ok (.iaload, 1) := by decide +kernel
theorem dL_areGoods_14 : decode cL_areGoods 14 = .ok (.if_icmp .ne 7, 3) := by decide +kernel
theorem dL_areGoods_17 : decode cL_areGoods 17 = .ok (.iconst 1, 1) := by decide +kernel
theorem dL_areGoods_18 : decode cL_areGoods 18 = .ok (.goto 4, 3) := by decide +kernel
theorem dL_areGoods_21 : decode cL_areGoods 21 = .ok (.iconst 0, 1) := by decide +kernel
theorem dL_areGoods_22 : decode cL_areGoods 22 = .ok (.istore 7, 2) := by decide +kernel
theorem dL_areGoods_24 : decode cL_areGoods 24 = .ok (.iconst 0, 1) := by decide +kernel
theorem dL_areGoods_25 : decode cL_areGoods 25 = .ok (.istore 8, 2) := by decide +kernel
theorem dL_areGoods_27 : decode cL_areGoods 27 = .ok (.iload 8, 2) := by decide +kernel
theorem dL_areGoods_29 : decode cL_areGoods 29 = .ok (.aload 4, 2) := by decide +kernel
theorem dL_areGoods_31 : decode cL_areGoods 31 = .ok (.iconst 0, 1) := by decide +kernel
theorem dL_areGoods_32 : decode cL_areGoods 32 = .ok (.iaload, 1) := by decide +kernel
theorem dL_areGoods_33 : decode cL_areGoods 33 = .ok (.if_icmp .ge 416, 3) := by decide +kernel
theorem dL_areGoods_36 : decode cL_areGoods 36 = .ok (.iload 7, 2) := by decide +kernel
theorem dL_areGoods_38 : decode cL_areGoods 38 = .ok (.ifCond .eq 411, 3) := by decide +kernel
theorem dL_areGoods_41 : decode cL_areGoods 41 = .ok (.aload_n 0, 1) := by decide +kernel
theorem dL_areGoods_42 : decode cL_areGoods 42 = .ok (.iload 8, 2) := by decide +kernel
theorem dL_areGoods_44 : decode cL_areGoods 44 = .ok (.invokevirtual 40, 3) := by decide +kernel
theorem dL_areGoods_47 : decode cL_areGoods 47 = .ok (.istore 9, 2) := by decide +kernel
theorem dL_areGoods_49 : decode cL_areGoods 49 = .ok (.aload_n 0, 1) := by decide +kernel
