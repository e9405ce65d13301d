theorem dL_cell_0 : decode cL_cell 0 = .ok (.iload_n 1, 1) := by decide +kernel
theorem dL_cell_1 : decode cL_cell 1 = .ok (.aload_n 0, 1) := by decide +kernel
theorem dL_cell_2 : decode cL_cell 2 = .ok (.arraylength, 1) := by decide +kernel
theorem dL_cell_3 : decode cL_cell 3 = .ok (.if_icmp .ge 9, 3) := by decide +kernel
theorem dL_cell_6 : decode cL_cell 6 = .ok (.aload_n 0, 1) := by decide +kernel
theorem dL_cell_7 : decode cL_cell 7 = .ok (.iload_n 1, 1) := by decide +kernel
theorem dL_cell_8 : decode cL_cell 8 = .ok (.iaload, 1) := by decide +kernel
theorem dL_cell_9 : decode cL_cell 9 = .ok (.goto 13, 3) := by decide +kernel
theorem dL_cell_12 : decode cL_cell 12 = .ok (.ldc 7, 2) := by decide +kernel
theorem dL_cell_14 : decode cL_cell 14 = .ok (.iload_n 1, 1) := by decide +kernel
theorem dL_cell_15 : decode cL_cell 15 = .ok (.bipush 103, 2) := by decide +kernel
theorem dL_cell_17 : decode cL_cell 17 = .ok (.iadd, 1) := by decide +kernel
theorem dL_cell_18 : decode cL_cell 18 = .ok (.imul, 1) := by decide +kernel
theorem dL_cell_19 : decode cL_cell 19 = .ok (.ldc 8, 2) := by decide +kernel
theorem dL_cell_21 : decode cL_cell 21 = .ok (.iadd, 1) := by decide +kernel
theorem dL_cell_22 : decode cL_cell 22 = .ok (.ireturn, 1) := by decide +kernel
theorem dL_low_0 : decode cL_low 0 = .ok (.iload_n 0, 1) := by decide +kernel
theorem dL_low_1 : decode cL_low 1 = .ok (.ldc 9, 2) := by decide +kernel
theorem dL_low_3 : decode cL_low 3 = .ok (.iand, 1) := by decide +kernel
theorem dL_low_4 : decode cL_low 4 = .ok (.iload_n 1, 1) := by decide +kernel
theorem dL_low_5 : decode cL_low 5 = .ok (.irem, 1) := by decide +kernel
theorem dL_low_6 : decode cL_low 6 = .ok (.ireturn, 1) := by decide +kernel
theorem dL_at_0 : decode cL_at 0 = .ok (.iconst 3, 1) := by decide +kernel
theorem dL_at_1 : decode cL_at 1 = .ok (.iload_n 0, 1) := by decide +kernel
theorem dL_at_2 : decode cL_at 2 = .ok (.imul, 1) := by decide +kernel
theorem dL_at_3 : decode cL_at 3 = .ok (.iload_n 1, 1) := by decide +kernel
theorem dL_at_4 : decode cL_at 4 = .ok (.iadd, 1) := by decide +kernel
theorem dL_at_5 : decode cL_at 5 = .ok (.ireturn, 1) := by decide +kernel
theorem dL_grams_0 : decode cL_grams 0 = .ok (.iload_n 1, 1) := by decide +kernel
theorem dL_grams_1 : decode cL_grams 1 = .ok (.iconst 3, 1) := by decide +kernel
theorem dL_grams_2 : decode cL_grams 2 = .ok (.if_icmp .ge 9, 3) := by decide +kernel
theorem dL_grams_5 : decode cL_grams 5 = .ok (.aload_n 2, 1) := by decide +kernel
theorem dL_grams_6 : decode cL_grams 6 = .ok (.iload_n 0, 1) := by decide +kernel
theorem dL_grams_7 : decode cL_grams 7 = .ok (.iaload, 1) := by decide +kernel
theorem dL_grams_8 : decode cL_grams 8 = .ok (.goto 6, 3) := by decide +kernel
theorem dL_grams_11 : decode cL_grams 11 = .ok (.aload_n 3, 1) := by decide +kernel
theorem dL_grams_12 : decode cL_grams 12 = .ok (.iload_n 0, 1) := by decide +kernel
theorem dL_grams_13 : decode cL_grams 13 = .ok (.iaload, 1) := by decide +kernel
theorem dL_grams_14 : decode cL_grams 14 = .ok (.istore 4, 2) := by decide +kernel
theorem dL_grams_16 : decode cL_grams 16 = .ok (.iload 4, 2) := by decide +kernel
theorem dL_grams_18 : decode cL_grams 18 = .ok (.bipush 10, 2) := by decide +kernel
theorem dL_grams_20 : decode cL_grams 20 = .ok (.iload_n 1, 1) := by decide +kernel
theorem dL_grams_21 : decode cL_grams 21 = .ok (.iconst 3, 1) := by decide +kernel
theorem dL_grams_22 : decode cL_grams 22 = .ok (.irem, 1) := by decide +kernel
theorem dL_grams_23 : decode cL_grams 23 = .ok (.imul, 1) := by decide +kernel
theorem dL_grams_24 : decode cL_grams 24 = .ok (.ishr, 1) := by decide +kernel
theorem dL_grams_25 : decode cL_grams 25 = .ok (.sipush 1023, 3) := by decide +kernel
theorem dL_grams_28 : decode cL_grams 28 = .ok (.iand, 1) := by decide +kernel
theorem dL_grams_29 : decode cL_grams 29 = .ok (.ireturn, 1) := by decide +kernel
theorem dL_total_0 : decode cL_total 0 = .ok (.iconst 0, 1) := by decide +kernel
theorem dL_total_1 : decode cL_total 1 = .ok (.istore_n 2, 1) := by decide +kernel
theorem dL_total_2 : decode cL_total 2 = .ok (.iconst 0, 1) := by decide +kernel
theorem dL_total_3 : decode cL_total 3 = .ok (.istore_n 3, 1) := by decide +kernel
theorem dL_total_4 : decode cL_total 4 = .ok (.iload_n 3, 1) := by decide +kernel
theorem dL_total_5 : decode cL_total 5 = .ok (.bipush 6, 2) := by decide +kernel
theorem dL_total_7 : decode cL_total 7 = .ok (.if_icmp .ge 20, 3) := by decide +kernel
theorem dL_total_10 : decode cL_total 10 = .ok (.iload_n 2, 1) := by decide +kernel
theorem dL_total_11 : decode cL_total 11 = .ok (.aload_n 1, 1) := by decide +kernel
theorem dL_total_12 : decode cL_total 12 = .ok (.bipush 6, 2) := by decide +kernel
theorem dL_total_14 : decode cL_total 14 = .ok (.iload_n 0, 1) := by decide +kernel
theorem dL_total_15 : decode cL_total 15 = .ok (.imul, 1) := by decide +kernel
theorem dL_total_16 : decode cL_total 16 = .ok (.iload_n 3, 1) := by decide +kernel
theorem dL_total_17 : decode cL_total 17 = .ok (.iadd, 1) := by decide +kernel
theorem dL_total_18 : decode cL_total 18 = .ok (.iaload, 1) := by decide +kernel
theorem dL_total_19 : decode cL_total 19 = .ok (.iadd, 1) := by decide +kernel
theorem dL_total_20 : decode cL_total 20 = .ok (.istore_n 2, 1) := by decide +kernel
theorem dL_total_21 : decode cL_total 21 = .ok (.iinc 3 1, 3) := by decide +kernel
theorem dL_total_24 : decode cL_total 24 = .ok (.goto (-20), 3) := by decide +kernel
theorem dL_total_27 : decode cL_total 27 = .ok (.iload_n 2, 1) := by decide +kernel
theorem dL_total_28 : decode cL_total 28 = .ok (.ireturn, 1) := by decide +kernel
theorem dL_flows_0 : decode cL_flows 0 = .ok (.iload_n 0, 1) := by decide +kernel
theorem dL_flows_1 : decode cL_flows 1 = .ok (.aload_n 2, 1) := by decide +kernel
theorem dL_flows_2 : decode cL_flows 2 = .ok (.invokestatic 34, 3) := by decide +kernel
theorem dL_flows_5 : decode cL_flows 5 = .ok (.istore 4, 2) := by decide +kernel
theorem dL_flows_7 : decode cL_flows 7 = .ok (.iconst 0, 1) := by decide +kernel
theorem dL_flows_8 : decode cL_flows 8 = .ok (.istore 5, 2) := by decide +kernel
theorem dL_flows_10 : decode cL_flows 10 = .ok (.iconst 0, 1) := by decide +kernel
theorem dL_flows_11 : decode cL_flows 11 = .ok (.istore 6, 2) := by decide +kernel
theorem dL_flows_13 : decode cL_flows 13 = .ok (.iconst 0, 1) := by decide +kernel
theorem dL_flows_14 : decode cL_flows 14 = .ok (.istore 7, 2) := by decide +kernel
theorem dL_flows_16 : decode cL_flows 16 = .ok (.iload 7, 2) := by decide +kernel
theorem dL_flows_18 : decode cL_flows 18 = .ok (.bipush 6, 2) := by decide +kernel
theorem dL_flows_20 : decode cL_flows 20 = .ok (.if_icmp .ge 66, 3) := by decide +kernel
theorem dL_flows_23 : decode cL_flows 23 = .ok (.iload 5, 2) := by decide +kernel
theorem dL_flows_25 : decode cL_flows 25 = .ok (.aload_n 2, 1) := by decide +kernel
theorem dL_flows_26 : decode cL_flows 26 = .ok (.bipush 6, 2) := by decide +kernel
theorem dL_flows_28 : decode cL_flows 28 = .ok (.iload_n 0, 1) := by decide +kernel
theorem dL_flows_29 : decode cL_flows 29 = .ok (.imul, 1) := by decide +kernel
theorem dL_flows_30 : decode cL_flows 30 = .ok (.iload 7, 2) := by decide +kernel
theorem dL_flows_32 : decode cL_flows 32 = .ok (.iadd, 1) := by decide +kernel
theorem dL_flows_33 : decode cL_flows 33 = .ok (.iaload, 1) := by decide +kernel
theorem dL_flows_34 : decode cL_flows 34 = .ok (.iadd, 1) := by decide +kernel
theorem dL_flows_35 : decode cL_flows 35 = .ok (.istore 5, 2) := by decide +kernel
theorem dL_flows_37 : decode cL_flows 37 = .ok (.iload 6, 2) := by decide +kernel
theorem dL_flows_39 : decode cL_flows 39 = .ok (.istore 8, 2) := by decide +kernel
theorem dL_flows_41 : decode cL_flows 41 = .ok (.iload 8, 2) := by decide +kernel
theorem dL_flows_43 : decode cL_flows 43 = .ok (.iload_n 1, 1) := by decide +kernel
theorem dL_flows_44 : decode cL_flows 44 = .ok (.if_icmp .ge 23, 3) := by decide +kernel
theorem dL_flows_47 : decode cL_flows 47 = .ok (.iload 8, 2) := by decide +kernel
theorem dL_flows_49 : decode cL_flows 49 = .ok (.iconst 1, 1) := by decide +kernel
theorem dL_flows_50 : decode cL_flows 50 = .ok (.iadd, 1) := by decide +kernel
theorem dL_flows_51 : decode cL_flows 51 = .ok (.iload 4, 2) := by decide +kernel
theorem dL_flows_53 : decode cL_flows 53 = .ok (.imul, 1) := by decide +kernel
theorem dL_flows_54 : decode cL_flows 54 = .ok (.iload 5, 2) := by decide +kernel
theorem dL_flows_56 : decode cL_flows 56 = .ok (.iload_n 1, 1) := by decide +kernel
theorem dL_flows_57 : decode cL_flows 57 = .ok (.imul, 1) := by decide +kernel
theorem dL_flows_58 : decode cL_flows 58 = .ok (.if_icmp .gt 9, 3) := by decide +kernel
theorem dL_flows_61 : decode cL_flows 61 = .ok (.iinc 8 1, 3) := by decide +kernel
theorem dL_flows_64 : decode cL_flows 64 = .ok (.goto (-23), 3) := by decide +kernel
theorem dL_flows_67 : decode cL_flows 67 = .ok (.aload_n 3, 1) := by decide +kernel
theorem dL_flows_68 : decode cL_flows 68 = .ok (.iload 7, 2) := by decide +kernel
theorem dL_flows_70 : decode cL_flows 70 = .ok (.iload 8, 2) := by decide +kernel
theorem dL_flows_72 : decode cL_flows 72 = .ok (.iload 6, 2) := by decide +kernel
theorem dL_flows_74 : decode cL_flows 74 = .ok (.isub, 1) := by decide +kernel
theorem dL_flows_75 : decode cL_flows 75 = .ok (.iastore, 1) := by decide +kernel
theorem dL_flows_76 : decode cL_flows 76 = .ok (.iload 8, 2) := by decide +kernel
theorem dL_flows_78 : decode cL_flows 78 = .ok (.istore 6, 2) := by decide +kernel
theorem dL_flows_80 : decode cL_flows 80 = .ok (.iinc 7 1, 3) := by decide +kernel
theorem dL_flows_83 : decode cL_flows 83 = .ok (.goto (-67), 3) := by decide +kernel
theorem dL_flows_86 : decode cL_flows 86 = .ok (.iconst 0, 1) := by decide +kernel
theorem dL_flows_87 : decode cL_flows 87 = .ok (.istore 7, 2) := by decide +kernel
theorem dL_flows_89 : decode cL_flows 89 = .ok (.iload 7, 2) := by decide +kernel
theorem dL_flows_91 : decode cL_flows 91 = .ok (.bipush 6, 2) := by decide +kernel
theorem dL_flows_93 : decode cL_flows 93 = .ok (.if_icmp .ge 25, 3) := by decide +kernel
theorem dL_flows_96 : decode cL_flows 96 = .ok (.aload_n 2, 1) := by decide +kernel
theorem dL_flows_97 : decode cL_flows 97 = .ok (.bipush 6, 2) := by decide +kernel
theorem dL_flows_99 : decode cL_flows 99 = .ok (.iload_n 0, 1) := by decide +kernel
theorem dL_flows_100 : decode cL_flows 100 = .ok (.imul, 1) := by decide +kernel
theorem dL_flows_101 : decode cL_flows 101 = .ok (.iload 7, 2) := by decide +kernel
theorem dL_flows_103 : decode cL_flows 103 = .ok (.iadd, 1) := by decide +kernel
theorem dL_flows_104 : decode cL_flows 104 = .ok (.dup2, 1) := by decide +kernel
theorem dL_flows_105 : decode cL_flows 105 = .ok (.iaload, 1) := by decide +kernel
theorem dL_flows_106 : decode cL_flows 106 = .ok (.aload_n 3, 1) := by decide +kernel
theorem dL_flows_107 : decode cL_flows 107 = .ok (.iload 7, 2) := by decide +kernel
theorem dL_flows_109 : decode cL_flows 109 = .ok (.iaload, 1) := by decide +kernel
theorem dL_flows_110 : decode cL_flows 110 = .ok (.isub, 1) := by decide +kernel
theorem dL_flows_111 : decode cL_flows 111 = .ok (.iastore, 1) := by decide +kernel
theorem dL_flows_112 : decode cL_flows 112 = .ok (.iinc 7 1, 3) := by decide +kernel
theorem dL_flows_115 : decode cL_flows 115 = .ok (.goto (-26), 3) := by decide +kernel
theorem dL_flows_118 : decode cL_flows 118 = .ok (.return_, 1) := by decide +kernel
theorem dL_main_0 : decode cL_main 0 = .ok (.iconst (-1), 1) := by decide +kernel
theorem dL_main_1 : decode cL_main 1 = .ok (.istore 5, 2) := by decide +kernel
theorem dL_main_3 : decode cL_main 3 = .ok (.iconst 0, 1) := by decide +kernel
theorem dL_main_4 : decode cL_main 4 = .ok (.istore 6, 2) := by decide +kernel
theorem dL_main_6 : decode cL_main 6 = .ok (.iconst 0, 1) := by decide +kernel
theorem dL_main_7 : decode cL_main 7 = .ok (.istore 7, 2) := by decide +kernel
theorem dL_main_9 : decode cL_main 9 = .ok (.iload 7, 2) := by decide +kernel
theorem dL_main_11 : decode cL_main 11 = .ok (.iconst 4, 1) := by decide +kernel
theorem dL_main_12 : decode cL_main 12 = .ok (.if_icmp .ge 110, 3) := by decide +kernel
theorem dL_main_15 : decode cL_main 15 = .ok (.aload 4, 2) := by decide +kernel
theorem dL_main_17 : decode cL_main 17 = .ok (.bipush 7, 2) := by decide +kernel
theorem dL_main_19 : decode cL_main 19 = .ok (.iload_n 0, 1) := by decide +kernel
theorem dL_main_20 : decode cL_main 20 = .ok (.imul, 1) := by decide +kernel
theorem dL_main_21 : decode cL_main 21 = .ok (.iaload, 1) := by decide +kernel
theorem dL_main_22 : decode cL_main 22 = .ok (.ifCond .le 100, 3) := by decide +kernel
theorem dL_main_25 : decode cL_main 25 = .ok (.iconst 0, 1) := by decide +kernel
theorem dL_main_26 : decode cL_main 26 = .ok (.istore 8, 2) := by decide +kernel
theorem dL_main_28 : decode cL_main 28 = .ok (.iconst 0, 1) := by decide +kernel
theorem dL_main_29 : decode cL_main 29 = .ok (.istore 9, 2) := by decide +kernel
theorem dL_main_31 : decode cL_main 31 = .ok (.iload 9, 2) := by decide +kernel
theorem dL_main_33 : decode cL_main 33 = .ok (.bipush 6, 2) := by decide +kernel
theorem dL_main_35 : decode cL_main 35 = .ok (.if_icmp .ge 49, 3) := by decide +kernel
theorem dL_main_38 : decode cL_main 38 = .ok (.iload 8, 2) := by decide +kernel
theorem dL_main_40 : decode cL_main 40 = .ok (.aload_n 1, 1) := by decide +kernel
theorem dL_main_41 : decode cL_main 41 = .ok (.iconst 3, 1) := by decide +kernel
theorem dL_main_42 : decode cL_main 42 = .ok (.iload 9, 2) := by decide +kernel
theorem dL_main_44 : decode cL_main 44 = .ok (.imul, 1) := by decide +kernel
theorem dL_main_45 : decode cL_main 45 = .ok (.iaload, 1) := by decide +kernel
theorem dL_main_46 : decode cL_main 46 = .ok (.iload 7, 2) := by decide +kernel
theorem dL_main_48 : decode cL_main 48 = .ok (.if_icmp .ne 26, 3) := by decide +kernel
theorem dL_main_51 : decode cL_main 51 = .ok (.iload_n 0, 1) := by decide +kernel
theorem dL_main_52 : decode cL_main 52 = .ok (.aload 4, 2) := by decide +kernel
theorem dL_main_54 : decode cL_main 54 = .ok (.bipush 7, 2) := by decide +kernel
theorem dL_main_56 : decode cL_main 56 = .ok (.iload_n 0, 1) := by decide +kernel
theorem dL_main_57 : decode cL_main 57 = .ok (.imul, 1) := by decide +kernel
theorem dL_main_58 : decode cL_main 58 = .ok (.iaload, 1) := by decide +kernel
theorem dL_main_59 : decode cL_main 59 = .ok (.iconst 1, 1) := by decide +kernel
theorem dL_main_60 : decode cL_main 60 = .ok (.isub, 1) := by decide +kernel
theorem dL_main_61 : decode cL_main 61 = .ok (.invokestatic 40, 3) := by decide +kernel
theorem dL_main_64 : decode cL_main 64 = .ok (.iload 9, 2) := by decide +kernel
theorem dL_main_66 : decode cL_main 66 = .ok (.aload_n 2, 1) := by decide +kernel
theorem dL_main_67 : decode cL_main 67 = .ok (.aload_n 3, 1) := by decide +kernel
theorem dL_main_68 : decode cL_main 68 = .ok (.invokestatic 43, 3) := by decide +kernel
theorem dL_main_71 : decode cL_main 71 = .ok (.goto 4, 3) := by decide +kernel
theorem dL_main_74 : decode cL_main 74 = .ok (.iconst 0, 1) := by decide +kernel
theorem dL_main_75 : decode cL_main 75 = .ok (.iadd, 1) := by decide +kernel
theorem dL_main_76 : decode cL_main 76 = .ok (.istore 8, 2) := by decide +kernel
theorem dL_main_78 : decode cL_main 78 = .ok (.iinc 9 1, 3) := by decide +kernel
theorem dL_main_81 : decode cL_main 81 = .ok (.goto (-50), 3) := by decide +kernel
theorem dL_main_84 : decode cL_main 84 = .ok (.iload 8, 2) := by decide +kernel
theorem dL_main_86 : decode cL_main 86 = .ok (.iload 6, 2) := by decide +kernel
theorem dL_main_88 : decode cL_main 88 = .ok (.if_icmp .le 8, 3) := by decide +kernel
theorem dL_main_91 : decode cL_main 91 = .ok (.iload 7, 2) := by decide +kernel
theorem dL_main_93 : decode cL_main 93 = .ok (.goto 5, 3) := by decide +kernel
theorem dL_main_96 : decode cL_main 96 = .ok (.iload 5, 2) := by decide +kernel
theorem dL_main_98 : decode cL_main 98 = .ok (.istore 5, 2) := by decide +kernel
theorem dL_main_100 : decode cL_main 100 = .ok (.iload 8, 2) := by decide +kernel
theorem dL_main_102 : decode cL_main 102 = .ok (.iload 6, 2) := by decide +kernel
theorem dL_main_104 : decode cL_main 104 = .ok (.if_icmp .le 8, 3) := by decide +kernel
theorem dL_main_107 : decode cL_main 107 = .ok (.iload 8, 2) := by decide +kernel
theorem dL_main_109 : decode cL_main 109 = .ok (.goto 5, 3) := by decide +kernel
theorem dL_main_112 : decode cL_main 112 = .ok (.iload 6, 2) := by decide +kernel
theorem dL_main_114 : decode cL_main 114 = .ok (.istore 6, 2) := by decide +kernel
theorem dL_main_116 : decode cL_main 116 = .ok (.iinc 7 1, 3) := by decide +kernel
theorem dL_main_119 : decode cL_main 119 = .ok (.goto (-110), 3) := by decide +kernel
theorem dL_main_122 : decode cL_main 122 = .ok (.iload 5, 2) := by decide +kernel
theorem dL_main_124 : decode cL_main 124 = .ok (.ireturn, 1) := by decide +kernel
theorem dL_value_0 : decode cL_value 0 = .ok (.iload_n 0, 1) := by decide +kernel
theorem dL_value_1 : decode cL_value 1 = .ok (.aload_n 1, 1) := by decide +kernel
theorem dL_value_2 : decode cL_value 2 = .ok (.aload_n 2, 1) := by decide +kernel
theorem dL_value_3 : decode cL_value 3 = .ok (.aload_n 3, 1) := by decide +kernel
theorem dL_value_4 : decode cL_value 4 = .ok (.aload 4, 2) := by decide +kernel
theorem dL_value_6 : decode cL_value 6 = .ok (.invokestatic 47, 3) := by decide +kernel
theorem dL_value_9 : decode cL_value 9 = .ok (.istore 5, 2) := by decide +kernel
theorem dL_value_11 : decode cL_value 11 = .ok (.iconst 0, 1) := by decide +kernel
theorem dL_value_12 : decode cL_value 12 = .ok (.istore 6, 2) := by decide +kernel
theorem dL_value_14 : decode cL_value 14 = .ok (.iconst 0, 1) := by decide +kernel
theorem dL_value_15 : decode cL_value 15 = .ok (.istore 7, 2) := by decide +kernel
theorem dL_value_17 : decode cL_value 17 = .ok (.iconst 0, 1) := by decide +kernel
theorem dL_value_18 : decode cL_value 18 = .ok (.istore 8, 2) := by decide +kernel
theorem dL_value_20 : decode cL_value 20 = .ok (.iload 8, 2) := by decide +kernel
theorem dL_value_22 : decode cL_value 22 = .ok (.iconst 4, 1) := by decide +kernel
theorem dL_value_23 : decode cL_value 23 = .ok (.if_icmp .ge 88, 3) := by decide +kernel
theorem dL_value_26 : decode cL_value 26 = .ok (.iload 5, 2) := by decide +kernel
theorem dL_value_28 : decode cL_value 28 = .ok (.ifCond .lt 35, 3) := by decide +kernel
theorem dL_value_31 : decode cL_value 31 = .ok (.aload 4, 2) := by decide +kernel
theorem dL_value_33 : decode cL_value 33 = .ok (.bipush 7, 2) := by decide +kernel
theorem dL_value_35 : decode cL_value 35 = .ok (.iload 8, 2) := by decide +kernel
theorem dL_value_37 : decode cL_value 37 = .ok (.imul, 1) := by decide +kernel
theorem dL_value_38 : decode cL_value 38 = .ok (.iconst 2, 1) := by decide +kernel
theorem dL_value_39 : decode cL_value 39 = .ok (.iadd, 1) := by decide +kernel
theorem dL_value_40 : decode cL_value 40 = .ok (.iaload, 1) := by decide +kernel
theorem dL_value_41 : decode cL_value 41 = .ok (.ifCond .le 22, 3) := by decide +kernel
theorem dL_value_44 : decode cL_value 44 = .ok (.iload 8, 2) := by decide +kernel
theorem dL_value_46 : decode cL_value 46 = .ok (.aload_n 1, 1) := by decide +kernel
theorem dL_value_47 : decode cL_value 47 = .ok (.aload_n 2, 1) := by decide +kernel
theorem dL_value_48 : decode cL_value 48 = .ok (.aload_n 3, 1) := by decide +kernel
theorem dL_value_49 : decode cL_value 49 = .ok (.aload 4, 2) := by decide +kernel
theorem dL_value_51 : decode cL_value 51 = .ok (.invokestatic 47, 3) := by decide +kernel
theorem dL_value_54 : decode cL_value 54 = .ok (.iload 5, 2) := by decide +kernel
theorem dL_value_56 : decode cL_value 56 = .ok (.if_icmp .ne 7, 3) := by decide +kernel
theorem dL_value_59 : decode cL_value 59 = .ok (.iconst 1, 1) := by decide +kernel
theorem dL_value_60 : decode cL_value 60 = .ok (.goto 4, 3) := by decide +kernel
theorem dL_value_63 : decode cL_value 63 = .ok (.iconst 0, 1) := by decide +kernel
theorem dL_value_64 : decode cL_value 64 = .ok (.istore 9, 2) := by decide +kernel
theorem dL_value_66 : decode cL_value 66 = .ok (.iload 6, 2) := by decide +kernel
theorem dL_value_68 : decode cL_value 68 = .ok (.iload 9, 2) := by decide +kernel
theorem dL_value_70 : decode cL_value 70 = .ok (.ifCond .eq 16, 3) := by decide +kernel
theorem dL_value_73 : decode cL_value 73 = .ok (.aload 4, 2) := by decide +kernel
theorem dL_value_75 : decode cL_value 75 = .ok (.bipush 7, 2) := by decide +kernel
theorem dL_value_77 : decode cL_value 77 = .ok (.iload 8, 2) := by decide +kernel
theorem dL_value_79 : decode cL_value 79 = .ok (.imul, 1) := by decide +kernel
theorem dL_value_80 : decode cL_value 80 = .ok (.iconst 2, 1) := by decide +kernel
theorem dL_value_81 : decode cL_value 81 = .ok (.iadd, 1) := by decide +kernel
theorem dL_value_82 : decode cL_value 82 = .ok (.iaload, 1) := by decide +kernel
theorem dL_value_83 : decode cL_value 83 = .ok (.goto 4, 3) := by decide +kernel
theorem dL_value_86 : decode cL_value 86 = .ok (.iconst 0, 1) := by decide +kernel
theorem dL_value_87 : decode cL_value 87 = .ok (.iadd, 1) := by decide +kernel
theorem dL_value_88 : decode cL_value 88 = .ok (.istore 6, 2) := by decide +kernel
theorem dL_value_90 : decode cL_value 90 = .ok (.iload 7, 2) := by decide +kernel
theorem dL_value_92 : decode cL_value 92 = .ok (.iload 9, 2) := by decide +kernel
theorem dL_value_94 : decode cL_value 94 = .ok (.ifCond .eq 7, 3) := by decide +kernel
theorem dL_value_97 : decode cL_value 97 = .ok (.iconst 1, 1) := by decide +kernel
theorem dL_value_98 : decode cL_value 98 = .ok (.goto 4, 3) := by decide +kernel
theorem dL_value_101 : decode cL_value 101 = .ok (.iconst 0, 1) := by decide +kernel
theorem dL_value_102 : decode cL_value 102 = .ok (.iadd, 1) := by decide +kernel
theorem dL_value_103 : decode cL_value 103 = .ok (.istore 7, 2) := by decide +kernel
theorem dL_value_105 : decode cL_value 105 = .ok (.iinc 8 1, 3) := by decide +kernel
theorem dL_value_108 : decode cL_value 108 = .ok (.goto (-88), 3) := by decide +kernel
theorem dL_value_111 : decode cL_value 111 = .ok (.iload 7, 2) := by decide +kernel
theorem dL_value_113 : decode cL_value 113 = .ok (.ifCond .ne 7, 3) := by decide +kernel
theorem dL_value_116 : decode cL_value 116 = .ok (.iconst 0, 1) := by decide +kernel
theorem dL_value_117 : decode cL_value 117 = .ok (.goto 8, 3) := by decide +kernel
theorem dL_value_120 : decode cL_value 120 = .ok (.iload 6, 2) := by decide +kernel
theorem dL_value_122 : decode cL_value 122 = .ok (.iload 7, 2) := by decide +kernel
theorem dL_value_124 : decode cL_value 124 = .ok (.idiv, 1) := by decide +kernel
theorem dL_value_125 : decode cL_value 125 = .ok (.istore 8, 2) := by decide +kernel
theorem dL_value_127 : decode cL_value 127 = .ok (.iload 8, 2) := by decide +kernel
theorem dL_value_129 : decode cL_value 129 = .ok (.bipush 20, 2) := by decide +kernel
theorem dL_value_131 : decode cL_value 131 = .ok (.idiv, 1) := by decide +kernel
theorem dL_value_132 : decode cL_value 132 = .ok (.istore 9, 2) := by decide +kernel
theorem dL_value_134 : decode cL_value 134 = .ok (.iconst 0, 1) := by decide +kernel
theorem dL_value_135 : decode cL_value 135 = .ok (.istore 10, 2) := by decide +kernel
theorem dL_value_137 : decode cL_value 137 = .ok (.iload 10, 2) := by decide +kernel
theorem dL_value_139 : decode cL_value 139 = .ok (.aload 4, 2) := by decide +kernel
theorem dL_value_141 : decode cL_value 141 = .ok (.bipush 7, 2) := by decide +kernel
theorem dL_value_143 : decode cL_value 143 = .ok (.iload_n 0, 1) := by decide +kernel
theorem dL_value_144 : decode cL_value 144 = .ok (.imul, 1) := by decide +kernel
theorem dL_value_145 : decode cL_value 145 = .ok (.iconst 1, 1) := by decide +kernel
theorem dL_value_146 : decode cL_value 146 = .ok (.iadd, 1) := by decide +kernel
theorem dL_value_147 : decode cL_value 147 = .ok (.iaload, 1) := by decide +kernel
theorem dL_value_148 : decode cL_value 148 = .ok (.if_icmp .ge 21, 3) := by decide +kernel
theorem dL_value_151 : decode cL_value 151 = .ok (.iload 8, 2) := by decide +kernel
theorem dL_value_153 : decode cL_value 153 = .ok (.ifCond .le 16, 3) := by decide +kernel
theorem dL_value_156 : decode cL_value 156 = .ok (.iload 8, 2) := by decide +kernel
theorem dL_value_158 : decode cL_value 158 = .ok (.iload 9, 2) := by decide +kernel
theorem dL_value_160 : decode cL_value 160 = .ok (.isub, 1) := by decide +kernel
theorem dL_value_161 : decode cL_value 161 = .ok (.istore 8, 2) := by decide +kernel
theorem dL_value_163 : decode cL_value 163 = .ok (.iinc 10 1, 3) := by decide +kernel
theorem dL_value_166 : decode cL_value 166 = .ok (.goto (-29), 3) := by decide +kernel
theorem dL_value_169 : decode cL_value 169 = .ok (.iload 8, 2) := by decide +kernel
theorem dL_value_171 : decode cL_value 171 = .ok (.ifCond .ge 7, 3) := by decide +kernel
theorem dL_value_174 : decode cL_value 174 = .ok (.iconst 0, 1) := by decide +kernel
theorem dL_value_175 : decode cL_value 175 = .ok (.goto 5, 3) := by decide +kernel
theorem dL_value_178 : decode cL_value 178 = .ok (.iload 8, 2) := by decide +kernel
theorem dL_value_180 : decode cL_value 180 = .ok (.ireturn, 1) := by decide +kernel
theorem dL_shade_0 : decode cL_shade 0 = .ok (.iload_n 1, 1) := by decide +kernel
theorem dL_shade_1 : decode cL_shade 1 = .ok (.ifCond .ne 7, 3) := by decide +kernel
theorem dL_shade_4 : decode cL_shade 4 = .ok (.iconst (-1), 1) := by decide +kernel
theorem dL_shade_5 : decode cL_shade 5 = .ok (.goto 6, 3) := by decide +kernel
theorem dL_shade_8 : decode cL_shade 8 = .ok (.iload_n 0, 1) := by decide +kernel
theorem dL_shade_9 : decode cL_shade 9 = .ok (.iload_n 1, 1) := by decide +kernel
theorem dL_shade_10 : decode cL_shade 10 = .ok (.idiv, 1) := by decide +kernel
theorem dL_shade_11 : decode cL_shade 11 = .ok (.ireturn, 1) := by decide +kernel
theorem dL_recipe_0 : decode cL_recipe 0 = .ok (.iconst (-1), 1) := by decide +kernel
theorem dL_recipe_1 : decode cL_recipe 1 = .ok (.istore 5, 2) := by decide +kernel
theorem dL_recipe_3 : decode cL_recipe 3 = .ok (.ldc 9, 2) := by decide +kernel
theorem dL_recipe_5 : decode cL_recipe 5 = .ok (.istore 6, 2) := by decide +kernel
theorem dL_recipe_7 : decode cL_recipe 7 = .ok (.iconst 5, 1) := by decide +kernel
theorem dL_recipe_8 : decode cL_recipe 8 = .ok (.istore 7, 2) := by decide +kernel
theorem dL_recipe_10 : decode cL_recipe 10 = .ok (.iload 7, 2) := by decide +kernel
theorem dL_recipe_12 : decode cL_recipe 12 = .ok (.ifCond .lt 209, 3) := by decide +kernel
theorem dL_recipe_15 : decode cL_recipe 15 = .ok (.iconst 5, 1) := by decide +kernel
theorem dL_recipe_16 : decode cL_recipe 16 = .ok (.istore 8, 2) := by decide +kernel
theorem dL_recipe_18 : decode cL_recipe 18 = .ok (.iload 8, 2) := by decide +kernel
theorem dL_recipe_20 : decode cL_recipe 20 = .ok (.iload 7, 2) := by decide +kernel
theorem dL_recipe_22 : decode cL_recipe 22 = .ok (.if_icmp .lt 193, 3) := by decide +kernel
theorem dL_recipe_25 : decode cL_recipe 25 = .ok (.iconst 4, 1) := by decide +kernel
theorem dL_recipe_26 : decode cL_recipe 26 = .ok (.istore 9, 2) := by decide +kernel
theorem dL_recipe_28 : decode cL_recipe 28 = .ok (.iload 9, 2) := by decide +kernel
theorem dL_recipe_30 : decode cL_recipe 30 = .ok (.ifCond .lt 179, 3) := by decide +kernel
theorem dL_recipe_33 : decode cL_recipe 33 = .ok (.iconst 3, 1) := by decide +kernel
theorem dL_recipe_34 : decode cL_recipe 34 = .ok (.aload 4, 2) := by decide +kernel
theorem dL_recipe_36 : decode cL_recipe 36 = .ok (.iconst 3, 1) := by decide +kernel
theorem dL_recipe_37 : decode cL_recipe 37 = .ok (.iload 7, 2) := by decide +kernel
theorem dL_recipe_39 : decode cL_recipe 39 = .ok (.imul, 1) := by decide +kernel
theorem dL_recipe_40 : decode cL_recipe 40 = .ok (.iaload, 1) := by decide +kernel
theorem dL_recipe_41 : decode cL_recipe 41 = .ok (.imul, 1) := by decide +kernel
theorem dL_recipe_42 : decode cL_recipe 42 = .ok (.istore 10, 2) := by decide +kernel
theorem dL_recipe_44 : decode cL_recipe 44 = .ok (.iconst 3, 1) := by decide +kernel
theorem dL_recipe_45 : decode cL_recipe 45 = .ok (.aload 4, 2) := by decide +kernel
theorem dL_recipe_47 : decode cL_recipe 47 = .ok (.iconst 3, 1) := by decide +kernel
theorem dL_recipe_48 : decode cL_recipe 48 = .ok (.iload 8, 2) := by decide +kernel
theorem dL_recipe_50 : decode cL_recipe 50 = .ok (.imul, 1) := by decide +kernel
theorem dL_recipe_51 : decode cL_recipe 51 = .ok (.iaload, 1) := by decide +kernel
theorem dL_recipe_52 : decode cL_recipe 52 = .ok (.imul, 1) := by decide +kernel
theorem dL_recipe_53 : decode cL_recipe 53 = .ok (.istore 11, 2) := by decide +kernel
theorem dL_recipe_55 : decode cL_recipe 55 = .ok (.iload 9, 2) := by decide +kernel
theorem dL_recipe_57 : decode cL_recipe 57 = .ok (.aload_n 3, 1) := by decide +kernel
theorem dL_recipe_58 : decode cL_recipe 58 = .ok (.iload 10, 2) := by decide +kernel
theorem dL_recipe_60 : decode cL_recipe 60 = .ok (.iaload, 1) := by decide +kernel
theorem dL_recipe_61 : decode cL_recipe 61 = .ok (.imul, 1) := by decide +kernel
theorem dL_recipe_62 : decode cL_recipe 62 = .ok (.iconst 4, 1) := by decide +kernel
theorem dL_recipe_63 : decode cL_recipe 63 = .ok (.iload 9, 2) := by decide +kernel
theorem dL_recipe_65 : decode cL_recipe 65 = .ok (.isub, 1) := by decide +kernel
theorem dL_recipe_66 : decode cL_recipe 66 = .ok (.aload_n 3, 1) := by decide +kernel
theorem dL_recipe_67 : decode cL_recipe 67 = .ok (.iload 11, 2) := by decide +kernel
theorem dL_recipe_69 : decode cL_recipe 69 = .ok (.iaload, 1) := by decide +kernel
theorem dL_recipe_70 : decode cL_recipe 70 = .ok (.imul, 1) := by decide +kernel
theorem dL_recipe_71 : decode cL_recipe 71 = .ok (.iadd, 1) := by decide +kernel
theorem dL_recipe_72 : decode cL_recipe 72 = .ok (.iconst 4, 1) := by decide +kernel
theorem dL_recipe_73 : decode cL_recipe 73 = .ok (.idiv, 1) := by decide +kernel
theorem dL_recipe_74 : decode cL_recipe 74 = .ok (.iload_n 0, 1) := by decide +kernel
theorem dL_recipe_75 : decode cL_recipe 75 = .ok (.isub, 1) := by decide +kernel
theorem dL_recipe_76 : decode cL_recipe 76 = .ok (.istore 12, 2) := by decide +kernel
theorem dL_recipe_78 : decode cL_recipe 78 = .ok (.iload 9, 2) := by decide +kernel
theorem dL_recipe_80 : decode cL_recipe 80 = .ok (.aload_n 3, 1) := by decide +kernel
theorem dL_recipe_81 : decode cL_recipe 81 = .ok (.iload 10, 2) := by decide +kernel
theorem dL_recipe_83 : decode cL_recipe 83 = .ok (.iconst 1, 1) := by decide +kernel
theorem dL_recipe_84 : decode cL_recipe 84 = .ok (.iadd, 1) := by decide +kernel
theorem dL_recipe_85 : decode cL_recipe 85 = .ok (.iaload, 1) := by decide +kernel
theorem dL_recipe_86 : decode cL_recipe 86 = .ok (.imul, 1) := by decide +kernel
theorem dL_recipe_87 : decode cL_recipe 87 = .ok (.iconst 4, 1) := by decide +kernel
theorem dL_recipe_88 : decode cL_recipe 88 = .ok (.iload 9, 2) := by decide +kernel
theorem dL_recipe_90 : decode cL_recipe 90 = .ok (.isub, 1) := by decide +kernel
theorem dL_recipe_91 : decode cL_recipe 91 = .ok (.aload_n 3, 1) := by decide +kernel
theorem dL_recipe_92 : decode cL_recipe 92 = .ok (.iload 11, 2) := by decide +kernel
theorem dL_recipe_94 : decode cL_recipe 94 = .ok (.iconst 1, 1) := by decide +kernel
theorem dL_recipe_95 : decode cL_recipe 95 = .ok (.iadd, 1) := by decide +kernel
theorem dL_recipe_96 : decode cL_recipe 96 = .ok (.iaload, 1) := by decide +kernel
theorem dL_recipe_97 : decode cL_recipe 97 = .ok (.imul, 1) := by decide +kernel
theorem dL_recipe_98 : decode cL_recipe 98 = .ok (.iadd, 1) := by decide +kernel
theorem dL_recipe_99 : decode cL_recipe 99 = .ok (.iconst 4, 1) := by decide +kernel
theorem dL_recipe_100 : decode cL_recipe 100 = .ok (.idiv, 1) := by decide +kernel
theorem dL_recipe_101 : decode cL_recipe 101 = .ok (.iload_n 1, 1) := by decide +kernel
theorem dL_recipe_102 : decode cL_recipe 102 = .ok (.isub, 1) := by decide +kernel
theorem dL_recipe_103 : decode cL_recipe 103 = .ok (.istore 13, 2) := by decide +kernel
theorem dL_recipe_105 : decode cL_recipe 105 = .ok (.iload 9, 2) := by decide +kernel
theorem dL_recipe_107 : decode cL_recipe 107 = .ok (.aload_n 3, 1) := by decide +kernel
theorem dL_recipe_108 : decode cL_recipe 108 = .ok (.iload 10, 2) := by decide +kernel
theorem dL_recipe_110 : decode cL_recipe 110 = .ok (.iconst 2, 1) := by decide +kernel
theorem dL_recipe_111 : decode cL_recipe 111 = .ok (.iadd, 1) := by decide +kernel
theorem dL_recipe_112 : decode cL_recipe 112 = .ok (.iaload, 1) := by decide +kernel
theorem dL_recipe_113 : decode cL_recipe 113 = .ok (.imul, 1) := by decide +kernel
theorem dL_recipe_114 : decode cL_recipe 114 = .ok (.iconst 4, 1) := by decide +kernel
theorem dL_recipe_115 : decode cL_recipe 115 = .ok (.iload 9, 2) := by decide +kernel
theorem dL_recipe_117 : decode cL_recipe 117 = .ok (.isub, 1) := by decide +kernel
theorem dL_recipe_118 : decode cL_recipe 118 = .ok (.aload_n 3, 1) := by decide +kernel
theorem dL_recipe_119 : decode cL_recipe 119 = .ok (.iload 11, 2) := by decide +kernel
theorem dL_recipe_121 : decode cL_recipe 121 = .ok (.iconst 2, 1) := by decide +kernel
theorem dL_recipe_122 : decode cL_recipe 122 = .ok (.iadd, 1) := by decide +kernel
theorem dL_recipe_123 : decode cL_recipe 123 = .ok (.iaload, 1) := by decide +kernel
theorem dL_recipe_124 : decode cL_recipe 124 = .ok (.imul, 1) := by decide +kernel
theorem dL_recipe_125 : decode cL_recipe 125 = .ok (.iadd, 1) := by decide +kernel
theorem dL_recipe_126 : decode cL_recipe 126 = .ok (.iconst 4, 1) := by decide +kernel
theorem dL_recipe_127 : decode cL_recipe 127 = .ok (.idiv, 1) := by decide +kernel
theorem dL_recipe_128 : decode cL_recipe 128 = .ok (.iload_n 2, 1) := by decide +kernel
theorem dL_recipe_129 : decode cL_recipe 129 = .ok (.isub, 1) := by decide +kernel
theorem dL_recipe_130 : decode cL_recipe 130 = .ok (.istore 14, 2) := by decide +kernel
theorem dL_recipe_132 : decode cL_recipe 132 = .ok (.iload 12, 2) := by decide +kernel
theorem dL_recipe_134 : decode cL_recipe 134 = .ok (.iload 12, 2) := by decide +kernel
theorem dL_recipe_136 : decode cL_recipe 136 = .ok (.imul, 1) := by decide +kernel
theorem dL_recipe_137 : decode cL_recipe 137 = .ok (.iload 13, 2) := by decide +kernel
theorem dL_recipe_139 : decode cL_recipe 139 = .ok (.iload 13, 2) := by decide +kernel
theorem dL_recipe_141 : decode cL_recipe 141 = .ok (.imul, 1) := by decide +kernel
theorem dL_recipe_142 : decode cL_recipe 142 = .ok (.iadd, 1) := by decide +kernel
theorem dL_recipe_143 : decode cL_recipe 143 = .ok (.iload 14, 2) := by decide +kernel
theorem dL_recipe_145 : decode cL_recipe 145 = .ok (.iload 14, 2) := by decide +kernel
theorem dL_recipe_147 : decode cL_recipe 147 = .ok (.imul, 1) := by decide +kernel
theorem dL_recipe_148 : decode cL_recipe 148 = .ok (.iadd, 1) := by decide +kernel
theorem dL_recipe_149 : decode cL_recipe 149 = .ok (.istore 15, 2) := by decide +kernel
theorem dL_recipe_151 : decode cL_recipe 151 = .ok (.aload 4, 2) := by decide +kernel
theorem dL_recipe_153 : decode cL_recipe 153 = .ok (.iconst 3, 1) := by decide +kernel
theorem dL_recipe_154 : decode cL_recipe 154 = .ok (.iload 7, 2) := by decide +kernel
theorem dL_recipe_156 : decode cL_recipe 156 = .ok (.imul, 1) := by decide +kernel
theorem dL_recipe_157 : decode cL_recipe 157 = .ok (.iconst 1, 1) := by decide +kernel
theorem dL_recipe_158 : decode cL_recipe 158 = .ok (.iadd, 1) := by decide +kernel
theorem dL_recipe_159 : decode cL_recipe 159 = .ok (.iaload, 1) := by decide +kernel
theorem dL_recipe_160 : decode cL_recipe 160 = .ok (.ifCond .le 43, 3) := by decide +kernel
theorem dL_recipe_163 : decode cL_recipe 163 = .ok (.aload 4, 2) := by decide +kernel
theorem dL_recipe_165 : decode cL_recipe 165 = .ok (.iconst 3, 1) := by decide +kernel
theorem dL_recipe_166 : decode cL_recipe 166 = .ok (.iload 8, 2) := by decide +kernel
theorem dL_recipe_168 : decode cL_recipe 168 = .ok (.imul, 1) := by decide +kernel
theorem dL_recipe_169 : decode cL_recipe 169 = .ok (.iconst 1, 1) := by decide +kernel
theorem dL_recipe_170 : decode cL_recipe 170 = .ok (.iadd, 1) := by decide +kernel
theorem dL_recipe_171 : decode cL_recipe 171 = .ok (.iaload, 1) := by decide +kernel
theorem dL_recipe_172 : decode cL_recipe 172 = .ok (.ifCond .le 31, 3) := by decide +kernel
theorem dL_recipe_175 : decode cL_recipe 175 = .ok (.iload 15, 2) := by decide +kernel
theorem dL_recipe_177 : decode cL_recipe 177 = .ok (.iload 6, 2) := by decide +kernel
theorem dL_recipe_179 : decode cL_recipe 179 = .ok (.if_icmp .gt 24, 3) := by decide +kernel
theorem dL_recipe_182 : decode cL_recipe 182 = .ok (.iload 15, 2) := by decide +kernel
theorem dL_recipe_184 : decode cL_recipe 184 = .ok (.istore 6, 2) := by decide +kernel
theorem dL_recipe_186 : decode cL_recipe 186 = .ok (.sipush 1000, 3) := by decide +kernel
theorem dL_recipe_189 : decode cL_recipe 189 = .ok (.iload 7, 2) := by decide +kernel
theorem dL_recipe_191 : decode cL_recipe 191 = .ok (.imul, 1) := by decide +kernel
theorem dL_recipe_192 : decode cL_recipe 192 = .ok (.bipush 10, 2) := by decide +kernel
theorem dL_recipe_194 : decode cL_recipe 194 = .ok (.iload 8, 2) := by decide +kernel
theorem dL_recipe_196 : decode cL_recipe 196 = .ok (.imul, 1) := by decide +kernel
theorem dL_recipe_197 : decode cL_recipe 197 = .ok (.iadd, 1) := by decide +kernel
theorem dL_recipe_198 : decode cL_recipe 198 = .ok (.iload 9, 2) := by decide +kernel
theorem dL_recipe_200 : decode cL_recipe 200 = .ok (.iadd, 1) := by decide +kernel
theorem dL_recipe_201 : decode cL_recipe 201 = .ok (.istore 5, 2) := by decide +kernel
theorem dL_recipe_203 : decode cL_recipe 203 = .ok (.iinc 9 (-1), 3) := by decide +kernel
theorem dL_recipe_206 : decode cL_recipe 206 = .ok (.goto (-178), 3) := by decide +kernel
theorem dL_recipe_209 : decode cL_recipe 209 = .ok (.iinc 8 (-1), 3) := by decide +kernel
theorem dL_recipe_212 : decode cL_recipe 212 = .ok (.goto (-194), 3) := by decide +kernel
theorem dL_recipe_215 : decode cL_recipe 215 = .ok (.iinc 7 (-1), 3) := by decide +kernel
theorem dL_recipe_218 : decode cL_recipe 218 = .ok (.goto (-208), 3) := by decide +kernel
theorem dL_recipe_221 : decode cL_recipe 221 = .ok (.iload 5, 2) := by decide +kernel
theorem dL_recipe_223 : decode cL_recipe 223 = .ok (.ireturn, 1) := by decide +kernel
