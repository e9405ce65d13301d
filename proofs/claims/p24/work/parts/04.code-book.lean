theorem dX0_init_0 : decode cX0_init 0 = .ok (.aload_n 0, 1) := by decide +kernel
theorem dX0_init_1 : decode cX0_init 1 = .ok (.invokespecial 3, 3) := by decide +kernel
theorem dX0_init_4 : decode cX0_init 4 = .ok (.aload_n 0, 1) := by decide +kernel
theorem dX0_init_5 : decode cX0_init 5 = .ok (.bipush 18, 2) := by decide +kernel
theorem dX0_init_7 : decode cX0_init 7 = .ok (.newarray .int, 2) := by decide +kernel
theorem dX0_init_9 : decode cX0_init 9 = .ok (.putfield 9, 3) := by decide +kernel
theorem dX0_init_12 : decode cX0_init 12 = .ok (.aload_n 0, 1) := by decide +kernel
theorem dX0_init_13 : decode cX0_init 13 = .ok (.bipush 12, 2) := by decide +kernel
theorem dX0_init_15 : decode cX0_init 15 = .ok (.newarray .int, 2) := by decide +kernel
theorem dX0_init_17 : decode cX0_init 17 = .ok (.putfield 13, 3) := by decide +kernel
theorem dX0_init_20 : decode cX0_init 20 = .ok (.aload_n 0, 1) := by decide +kernel
theorem dX0_init_21 : decode cX0_init 21 = .ok (.bipush 12, 2) := by decide +kernel
theorem dX0_init_23 : decode cX0_init 23 = .ok (.newarray .int, 2) := by decide +kernel
theorem dX0_init_25 : decode cX0_init 25 = .ok (.putfield 16, 3) := by decide +kernel
theorem dX0_init_28 : decode cX0_init 28 = .ok (.aload_n 0, 1) := by decide +kernel
theorem dX0_init_29 : decode cX0_init 29 = .ok (.sipush 1284, 3) := by decide +kernel
theorem dX0_init_32 : decode cX0_init 32 = .ok (.newarray .int, 2) := by decide +kernel
theorem dX0_init_34 : decode cX0_init 34 = .ok (.putfield 19, 3) := by decide +kernel
theorem dX0_init_37 : decode cX0_init 37 = .ok (.aload_n 0, 1) := by decide +kernel
theorem dX0_init_38 : decode cX0_init 38 = .ok (.bipush 8, 2) := by decide +kernel
theorem dX0_init_40 : decode cX0_init 40 = .ok (.newarray .int, 2) := by decide +kernel
theorem dX0_init_42 : decode cX0_init 42 = .ok (.putfield 22, 3) := by decide +kernel
theorem dX0_init_45 : decode cX0_init 45 = .ok (.aload_n 0, 1) := by decide +kernel
theorem dX0_init_46 : decode cX0_init 46 = .ok (.bipush 8, 2) := by decide +kernel
theorem dX0_init_48 : decode cX0_init 48 = .ok (.newarray .int, 2) := by decide +kernel
theorem dX0_init_50 : decode cX0_init 50 = .ok (.putfield 25, 3) := by decide +kernel
theorem dX0_init_53 : decode cX0_init 53 = .ok (.aload_n 0, 1) := by decide +kernel
theorem dX0_init_54 : decode cX0_init 54 = .ok (.bipush 8, 2) := by decide +kernel
theorem dX0_init_56 : decode cX0_init 56 = .ok (.newarray .int, 2) := by decide +kernel
theorem dX0_init_58 : decode cX0_init 58 = .ok (.putfield 28, 3) := by decide +kernel
theorem dX0_init_61 : decode cX0_init 61 = .ok (.aload_n 0, 1) := by decide +kernel
theorem dX0_init_62 : decode cX0_init 62 = .ok (.bipush 8, 2) := by decide +kernel
theorem dX0_init_64 : decode cX0_init 64 = .ok (.newarray .int, 2) := by decide +kernel
theorem dX0_init_66 : decode cX0_init 66 = .ok (.putfield 31, 3) := by decide +kernel
theorem dX0_init_69 : decode cX0_init 69 = .ok (.aload_n 0, 1) := by decide +kernel
theorem dX0_init_70 : decode cX0_init 70 = .ok (.bipush 8, 2) := by decide +kernel
theorem dX0_init_72 : decode cX0_init 72 = .ok (.newarray .int, 2) := by decide +kernel
theorem dX0_init_74 : decode cX0_init 74 = .ok (.putfield 34, 3) := by decide +kernel
theorem dX0_init_77 : decode cX0_init 77 = .ok (.aload_n 0, 1) := by decide +kernel
theorem dX0_init_78 : decode cX0_init 78 = .ok (.bipush 8, 2) := by decide +kernel
theorem dX0_init_80 : decode cX0_init 80 = .ok (.newarray .int, 2) := by decide +kernel
theorem dX0_init_82 : decode cX0_init 82 = .ok (.putfield 37, 3) := by decide +kernel
theorem dX0_init_85 : decode cX0_init 85 = .ok (.aload_n 0, 1) := by decide +kernel
theorem dX0_init_86 : decode cX0_init 86 = .ok (.iconst 4, 1) := by decide +kernel
theorem dX0_init_87 : decode cX0_init 87 = .ok (.newarray .int, 2) := by decide +kernel
theorem dX0_init_89 : decode cX0_init 89 = .ok (.putfield 40, 3) := by decide +kernel
theorem dX0_init_92 : decode cX0_init 92 = .ok (.aload_n 0, 1) := by decide +kernel
theorem dX0_init_93 : decode cX0_init 93 = .ok (.iconst 4, 1) := by decide +kernel
theorem dX0_init_94 : decode cX0_init 94 = .ok (.newarray .int, 2) := by decide +kernel
theorem dX0_init_96 : decode cX0_init 96 = .ok (.putfield 43, 3) := by decide +kernel
theorem dX0_init_99 : decode cX0_init 99 = .ok (.iconst 0, 1) := by decide +kernel
theorem dX0_init_100 : decode cX0_init 100 = .ok (.istore_n 1, 1) := by decide +kernel
theorem dX0_init_101 : decode cX0_init 101 = .ok (.iload_n 1, 1) := by decide +kernel
theorem dX0_init_102 : decode cX0_init 102 = .ok (.iconst 4, 1) := by decide +kernel
theorem dX0_init_103 : decode cX0_init 103 = .ok (.if_icmp .ge 17, 3) := by decide +kernel
theorem dX0_init_106 : decode cX0_init 106 = .ok (.aload_n 0, 1) := by decide +kernel
theorem dX0_init_107 : decode cX0_init 107 = .ok (.getfield 40, 3) := by decide +kernel
theorem dX0_init_110 : decode cX0_init 110 = .ok (.iload_n 1, 1) := by decide +kernel
theorem dX0_init_111 : decode cX0_init 111 = .ok (.bipush 50, 2) := by decide +kernel
theorem dX0_init_113 : decode cX0_init 113 = .ok (.iastore, 1) := by decide +kernel
theorem dX0_init_114 : decode cX0_init 114 = .ok (.iinc 1 1, 3) := by decide +kernel
theorem dX0_init_117 : decode cX0_init 117 = .ok (.goto (-16), 3) := by decide +kernel
theorem dX0_init_120 : decode cX0_init 120 = .ok (.return_, 1) := by decide +kernel
theorem dX0_pigment_0 : decode cX0_pigment 0 = .ok (.iload_n 1, 1) := by decide +kernel
theorem dX0_pigment_1 : decode cX0_pigment 1 = .ok (.iload_n 2, 1) := by decide +kernel
theorem dX0_pigment_2 : decode cX0_pigment 2 = .ok (.iload_n 3, 1) := by decide +kernel
theorem dX0_pigment_3 : decode cX0_pigment 3 = .ok (.invokestatic 46, 3) := by decide +kernel
theorem dX0_pigment_6 : decode cX0_pigment 6 = .ok (.aload_n 0, 1) := by decide +kernel
theorem dX0_pigment_7 : decode cX0_pigment 7 = .ok (.getfield 50, 3) := by decide +kernel
theorem dX0_pigment_10 : decode cX0_pigment 10 = .ok (.bipush 6, 2) := by decide +kernel
theorem dX0_pigment_12 : decode cX0_pigment 12 = .ok (.if_icmp .lt 13, 3) := by decide +kernel
theorem dX0_pigment_15 : decode cX0_pigment 15 = .ok (.new 54, 3) := by decide +kernel
theorem dX0_pigment_18 : decode cX0_pigment 18 = .ok (.dup, 1) := by decide +kernel
theorem dX0_pigment_19 : decode cX0_pigment 19 = .ok (.ldc 56, 2) := by decide +kernel
theorem dX0_pigment_21 : decode cX0_pigment 21 = .ok (.invokespecial 58, 3) := by decide +kernel
theorem dX0_pigment_24 : decode cX0_pigment 24 = .ok (.athrow, 1) := by decide +kernel
theorem dX0_pigment_25 : decode cX0_pigment 25 = .ok (.aload_n 0, 1) := by decide +kernel
theorem dX0_pigment_26 : decode cX0_pigment 26 = .ok (.getfield 50, 3) := by decide +kernel
theorem dX0_pigment_29 : decode cX0_pigment 29 = .ok (.iconst 3, 1) := by decide +kernel
theorem dX0_pigment_30 : decode cX0_pigment 30 = .ok (.imul, 1) := by decide +kernel
theorem dX0_pigment_31 : decode cX0_pigment 31 = .ok (.istore 4, 2) := by decide +kernel
theorem dX0_pigment_33 : decode cX0_pigment 33 = .ok (.aload_n 0, 1) := by decide +kernel
theorem dX0_pigment_34 : decode cX0_pigment 34 = .ok (.getfield 9, 3) := by decide +kernel
theorem dX0_pigment_37 : decode cX0_pigment 37 = .ok (.iload 4, 2) := by decide +kernel
theorem dX0_pigment_39 : decode cX0_pigment 39 = .ok (.iload_n 1, 1) := by decide +kernel
theorem dX0_pigment_40 : decode cX0_pigment 40 = .ok (.iastore, 1) := by decide +kernel
theorem dX0_pigment_41 : decode cX0_pigment 41 = .ok (.aload_n 0, 1) := by decide +kernel
theorem dX0_pigment_42 : decode cX0_pigment 42 = .ok (.getfield 9, 3) := by decide +kernel
theorem dX0_pigment_45 : decode cX0_pigment 45 = .ok (.iload 4, 2) := by decide +kernel
theorem dX0_pigment_47 : decode cX0_pigment 47 = .ok (.iconst 1, 1) := by decide +kernel
theorem dX0_pigment_48 : decode cX0_pigment 48 = .ok (.iadd, 1) := by decide +kernel
theorem dX0_pigment_49 : decode cX0_pigment 49 = .ok (.iload_n 2, 1) := by decide +kernel
theorem dX0_pigment_50 : decode cX0_pigment 50 = .ok (.iastore, 1) := by decide +kernel
theorem dX0_pigment_51 : decode cX0_pigment 51 = .ok (.aload_n 0, 1) := by decide +kernel
theorem dX0_pigment_52 : decode cX0_pigment 52 = .ok (.getfield 9, 3) := by decide +kernel
theorem dX0_pigment_55 : decode cX0_pigment 55 = .ok (.iload 4, 2) := by decide +kernel
theorem dX0_pigment_57 : decode cX0_pigment 57 = .ok (.iconst 2, 1) := by decide +kernel
theorem dX0_pigment_58 : decode cX0_pigment 58 = .ok (.iadd, 1) := by decide +kernel
theorem dX0_pigment_59 : decode cX0_pigment 59 = .ok (.iload_n 3, 1) := by decide +kernel
theorem dX0_pigment_60 : decode cX0_pigment 60 = .ok (.iastore, 1) := by decide +kernel
theorem dX0_pigment_61 : decode cX0_pigment 61 = .ok (.aload_n 0, 1) := by decide +kernel
theorem dX0_pigment_62 : decode cX0_pigment 62 = .ok (.dup, 1) := by decide +kernel
theorem dX0_pigment_63 : decode cX0_pigment 63 = .ok (.getfield 50, 3) := by decide +kernel
theorem dX0_pigment_66 : decode cX0_pigment 66 = .ok (.iconst 1, 1) := by decide +kernel
theorem dX0_pigment_67 : decode cX0_pigment 67 = .ok (.iadd, 1) := by decide +kernel
theorem dX0_pigment_68 : decode cX0_pigment 68 = .ok (.putfield 50, 3) := by decide +kernel
theorem dX0_pigment_71 : decode cX0_pigment 71 = .ok (.aload_n 0, 1) := by decide +kernel
theorem dX0_pigment_72 : decode cX0_pigment 72 = .ok (.getfield 50, 3) := by decide +kernel
theorem dX0_pigment_75 : decode cX0_pigment 75 = .ok (.iconst 1, 1) := by decide +kernel
theorem dX0_pigment_76 : decode cX0_pigment 76 = .ok (.isub, 1) := by decide +kernel
theorem dX0_pigment_77 : decode cX0_pigment 77 = .ok (.ireturn, 1) := by decide +kernel
theorem dX0_tube_0 : decode cX0_tube 0 = .ok (.iload_n 1, 1) := by decide +kernel
theorem dX0_tube_1 : decode cX0_tube 1 = .ok (.aload_n 0, 1) := by decide +kernel
theorem dX0_tube_2 : decode cX0_tube 2 = .ok (.getfield 50, 3) := by decide +kernel
theorem dX0_tube_5 : decode cX0_tube 5 = .ok (.invokestatic 61, 3) := by decide +kernel
theorem dX0_tube_8 : decode cX0_tube 8 = .ok (.iload_n 2, 1) := by decide +kernel
theorem dX0_tube_9 : decode cX0_tube 9 = .ok (.iconst 1, 1) := by decide +kernel
theorem dX0_tube_10 : decode cX0_tube 10 = .ok (.sipush 1000, 3) := by decide +kernel
theorem dX0_tube_13 : decode cX0_tube 13 = .ok (.invokestatic 65, 3) := by decide +kernel
theorem dX0_tube_16 : decode cX0_tube 16 = .ok (.aload_n 0, 1) := by decide +kernel
theorem dX0_tube_17 : decode cX0_tube 17 = .ok (.getfield 68, 3) := by decide +kernel
theorem dX0_tube_20 : decode cX0_tube 20 = .ok (.bipush 12, 2) := by decide +kernel
theorem dX0_tube_22 : decode cX0_tube 22 = .ok (.if_icmp .lt 13, 3) := by decide +kernel
theorem dX0_tube_25 : decode cX0_tube 25 = .ok (.new 54, 3) := by decide +kernel
theorem dX0_tube_28 : decode cX0_tube 28 = .ok (.dup, 1) := by decide +kernel
theorem dX0_tube_29 : decode cX0_tube 29 = .ok (.ldc 71, 2) := by decide +kernel
theorem dX0_tube_31 : decode cX0_tube 31 = .ok (.invokespecial 58, 3) := by decide +kernel
theorem dX0_tube_34 : decode cX0_tube 34 = .ok (.athrow, 1) := by decide +kernel
theorem dX0_tube_35 : decode cX0_tube 35 = .ok (.aload_n 0, 1) := by decide +kernel
theorem dX0_tube_36 : decode cX0_tube 36 = .ok (.getfield 13, 3) := by decide +kernel
theorem dX0_tube_39 : decode cX0_tube 39 = .ok (.aload_n 0, 1) := by decide +kernel
theorem dX0_tube_40 : decode cX0_tube 40 = .ok (.getfield 68, 3) := by decide +kernel
theorem dX0_tube_43 : decode cX0_tube 43 = .ok (.iload_n 1, 1) := by decide +kernel
theorem dX0_tube_44 : decode cX0_tube 44 = .ok (.iastore, 1) := by decide +kernel
theorem dX0_tube_45 : decode cX0_tube 45 = .ok (.aload_n 0, 1) := by decide +kernel
theorem dX0_tube_46 : decode cX0_tube 46 = .ok (.getfield 16, 3) := by decide +kernel
theorem dX0_tube_49 : decode cX0_tube 49 = .ok (.aload_n 0, 1) := by decide +kernel
theorem dX0_tube_50 : decode cX0_tube 50 = .ok (.getfield 68, 3) := by decide +kernel
theorem dX0_tube_53 : decode cX0_tube 53 = .ok (.iload_n 2, 1) := by decide +kernel
theorem dX0_tube_54 : decode cX0_tube 54 = .ok (.iastore, 1) := by decide +kernel
theorem dX0_tube_55 : decode cX0_tube 55 = .ok (.aload_n 0, 1) := by decide +kernel
theorem dX0_tube_56 : decode cX0_tube 56 = .ok (.dup, 1) := by decide +kernel
theorem dX0_tube_57 : decode cX0_tube 57 = .ok (.getfield 68, 3) := by decide +kernel
theorem dX0_tube_60 : decode cX0_tube 60 = .ok (.iconst 1, 1) := by decide +kernel
theorem dX0_tube_61 : decode cX0_tube 61 = .ok (.iadd, 1) := by decide +kernel
theorem dX0_tube_62 : decode cX0_tube 62 = .ok (.putfield 68, 3) := by decide +kernel
theorem dX0_tube_65 : decode cX0_tube 65 = .ok (.aload_n 0, 1) := by decide +kernel
theorem dX0_tube_66 : decode cX0_tube 66 = .ok (.getfield 68, 3) := by decide +kernel
theorem dX0_tube_69 : decode cX0_tube 69 = .ok (.iconst 1, 1) := by decide +kernel
theorem dX0_tube_70 : decode cX0_tube 70 = .ok (.isub, 1) := by decide +kernel
theorem dX0_tube_71 : decode cX0_tube 71 = .ok (.ireturn, 1) := by decide +kernel
theorem dX0_pot_0 : decode cX0_pot 0 = .ok (.aload_n 0, 1) := by decide +kernel
theorem dX0_pot_1 : decode cX0_pot 1 = .ok (.getfield 73, 3) := by decide +kernel
theorem dX0_pot_4 : decode cX0_pot 4 = .ok (.bipush 10, 2) := by decide +kernel
theorem dX0_pot_6 : decode cX0_pot 6 = .ok (.if_icmp .lt 13, 3) := by decide +kernel
theorem dX0_pot_9 : decode cX0_pot 9 = .ok (.new 54, 3) := by decide +kernel
theorem dX0_pot_12 : decode cX0_pot 12 = .ok (.dup, 1) := by decide +kernel
theorem dX0_pot_13 : decode cX0_pot 13 = .ok (.ldc 76, 2) := by decide +kernel
theorem dX0_pot_15 : decode cX0_pot 15 = .ok (.invokespecial 58, 3) := by decide +kernel
theorem dX0_pot_18 : decode cX0_pot 18 = .ok (.athrow, 1) := by decide +kernel
theorem dX0_pot_19 : decode cX0_pot 19 = .ok (.aload_n 0, 1) := by decide +kernel
theorem dX0_pot_20 : decode cX0_pot 20 = .ok (.dup, 1) := by decide +kernel
theorem dX0_pot_21 : decode cX0_pot 21 = .ok (.getfield 73, 3) := by decide +kernel
theorem dX0_pot_24 : decode cX0_pot 24 = .ok (.iconst 1, 1) := by decide +kernel
theorem dX0_pot_25 : decode cX0_pot 25 = .ok (.iadd, 1) := by decide +kernel
theorem dX0_pot_26 : decode cX0_pot 26 = .ok (.putfield 73, 3) := by decide +kernel
theorem dX0_pot_29 : decode cX0_pot 29 = .ok (.aload_n 0, 1) := by decide +kernel
theorem dX0_pot_30 : decode cX0_pot 30 = .ok (.getfield 73, 3) := by decide +kernel
theorem dX0_pot_33 : decode cX0_pot 33 = .ok (.iconst 1, 1) := by decide +kernel
theorem dX0_pot_34 : decode cX0_pot 34 = .ok (.isub, 1) := by decide +kernel
theorem dX0_pot_35 : decode cX0_pot 35 = .ok (.ireturn, 1) := by decide +kernel
theorem dX0_squeeze_0 : decode cX0_squeeze 0 = .ok (.iload_n 1, 1) := by decide +kernel
theorem dX0_squeeze_1 : decode cX0_squeeze 1 = .ok (.aload_n 0, 1) := by decide +kernel
theorem dX0_squeeze_2 : decode cX0_squeeze 2 = .ok (.getfield 73, 3) := by decide +kernel
theorem dX0_squeeze_5 : decode cX0_squeeze 5 = .ok (.invokestatic 61, 3) := by decide +kernel
theorem dX0_squeeze_8 : decode cX0_squeeze 8 = .ok (.iload_n 2, 1) := by decide +kernel
theorem dX0_squeeze_9 : decode cX0_squeeze 9 = .ok (.aload_n 0, 1) := by decide +kernel
theorem dX0_squeeze_10 : decode cX0_squeeze 10 = .ok (.getfield 68, 3) := by decide +kernel
theorem dX0_squeeze_13 : decode cX0_squeeze 13 = .ok (.invokestatic 61, 3) := by decide +kernel
theorem dX0_squeeze_16 : decode cX0_squeeze 16 = .ok (.iload_n 3, 1) := by decide +kernel
theorem dX0_squeeze_17 : decode cX0_squeeze 17 = .ok (.iconst 1, 1) := by decide +kernel
theorem dX0_squeeze_18 : decode cX0_squeeze 18 = .ok (.sipush 1000, 3) := by decide +kernel
theorem dX0_squeeze_21 : decode cX0_squeeze 21 = .ok (.invokestatic 65, 3) := by decide +kernel
theorem dX0_squeeze_24 : decode cX0_squeeze 24 = .ok (.aload_n 0, 1) := by decide +kernel
theorem dX0_squeeze_25 : decode cX0_squeeze 25 = .ok (.getfield 16, 3) := by decide +kernel
theorem dX0_squeeze_28 : decode cX0_squeeze 28 = .ok (.iload_n 2, 1) := by decide +kernel
theorem dX0_squeeze_29 : decode cX0_squeeze 29 = .ok (.iaload, 1) := by decide +kernel
theorem dX0_squeeze_30 : decode cX0_squeeze 30 = .ok (.iload_n 3, 1) := by decide +kernel
theorem dX0_squeeze_31 : decode cX0_squeeze 31 = .ok (.if_icmp .ge 13, 3) := by decide +kernel
theorem dX0_squeeze_34 : decode cX0_squeeze 34 = .ok (.new 54, 3) := by decide +kernel
theorem dX0_squeeze_37 : decode cX0_squeeze 37 = .ok (.dup, 1) := by decide +kernel
theorem dX0_squeeze_38 : decode cX0_squeeze 38 = .ok (.ldc 78, 2) := by decide +kernel
theorem dX0_squeeze_40 : decode cX0_squeeze 40 = .ok (.invokespecial 58, 3) := by decide +kernel
theorem dX0_squeeze_43 : decode cX0_squeeze 43 = .ok (.athrow, 1) := by decide +kernel
theorem dX0_squeeze_44 : decode cX0_squeeze 44 = .ok (.aload_n 0, 1) := by decide +kernel
theorem dX0_squeeze_45 : decode cX0_squeeze 45 = .ok (.getfield 16, 3) := by decide +kernel
theorem dX0_squeeze_48 : decode cX0_squeeze 48 = .ok (.iload_n 2, 1) := by decide +kernel
theorem dX0_squeeze_49 : decode cX0_squeeze 49 = .ok (.dup2, 1) := by decide +kernel
theorem dX0_squeeze_50 : decode cX0_squeeze 50 = .ok (.iaload, 1) := by decide +kernel
theorem dX0_squeeze_51 : decode cX0_squeeze 51 = .ok (.iload_n 3, 1) := by decide +kernel
theorem dX0_squeeze_52 : decode cX0_squeeze 52 = .ok (.isub, 1) := by decide +kernel
theorem dX0_squeeze_53 : decode cX0_squeeze 53 = .ok (.iastore, 1) := by decide +kernel
theorem dX0_squeeze_54 : decode cX0_squeeze 54 = .ok (.aload_n 0, 1) := by decide +kernel
theorem dX0_squeeze_55 : decode cX0_squeeze 55 = .ok (.getfield 19, 3) := by decide +kernel
theorem dX0_squeeze_58 : decode cX0_squeeze 58 = .ok (.iload_n 1, 1) := by decide +kernel
theorem dX0_squeeze_59 : decode cX0_squeeze 59 = .ok (.invokestatic 80, 3) := by decide +kernel
theorem dX0_squeeze_62 : decode cX0_squeeze 62 = .ok (.iload_n 2, 1) := by decide +kernel
theorem dX0_squeeze_63 : decode cX0_squeeze 63 = .ok (.invokestatic 84, 3) := by decide +kernel
theorem dX0_squeeze_66 : decode cX0_squeeze 66 = .ok (.dup2, 1) := by decide +kernel
theorem dX0_squeeze_67 : decode cX0_squeeze 67 = .ok (.iaload, 1) := by decide +kernel
theorem dX0_squeeze_68 : decode cX0_squeeze 68 = .ok (.iload_n 3, 1) := by decide +kernel
theorem dX0_squeeze_69 : decode cX0_squeeze 69 = .ok (.iadd, 1) := by decide +kernel
theorem dX0_squeeze_70 : decode cX0_squeeze 70 = .ok (.iastore, 1) := by decide +kernel
theorem dX0_squeeze_71 : decode cX0_squeeze 71 = .ok (.aload_n 0, 1) := by decide +kernel
theorem dX0_squeeze_72 : decode cX0_squeeze 72 = .ok (.getfield 16, 3) := by decide +kernel
theorem dX0_squeeze_75 : decode cX0_squeeze 75 = .ok (.iload_n 2, 1) := by decide +kernel
theorem dX0_squeeze_76 : decode cX0_squeeze 76 = .ok (.iaload, 1) := by decide +kernel
theorem dX0_squeeze_77 : decode cX0_squeeze 77 = .ok (.ireturn, 1) := by decide +kernel
theorem dX0_pour_0 : decode cX0_pour 0 = .ok (.iload_n 1, 1) := by decide +kernel
theorem dX0_pour_1 : decode cX0_pour 1 = .ok (.aload_n 0, 1) := by decide +kernel
theorem dX0_pour_2 : decode cX0_pour 2 = .ok (.getfield 73, 3) := by decide +kernel
theorem dX0_pour_5 : decode cX0_pour 5 = .ok (.invokestatic 61, 3) := by decide +kernel
theorem dX0_pour_8 : decode cX0_pour 8 = .ok (.iload_n 2, 1) := by decide +kernel
theorem dX0_pour_9 : decode cX0_pour 9 = .ok (.aload_n 0, 1) := by decide +kernel
theorem dX0_pour_10 : decode cX0_pour 10 = .ok (.getfield 73, 3) := by decide +kernel
theorem dX0_pour_13 : decode cX0_pour 13 = .ok (.invokestatic 61, 3) := by decide +kernel
theorem dX0_pour_16 : decode cX0_pour 16 = .ok (.iload_n 1, 1) := by decide +kernel
theorem dX0_pour_17 : decode cX0_pour 17 = .ok (.iload_n 2, 1) := by decide +kernel
theorem dX0_pour_18 : decode cX0_pour 18 = .ok (.if_icmp .ne 13, 3) := by decide +kernel
theorem dX0_pour_21 : decode cX0_pour 21 = .ok (.new 88, 3) := by decide +kernel
theorem dX0_pour_24 : decode cX0_pour 24 = .ok (.dup, 1) := by decide +kernel
theorem dX0_pour_25 : decode cX0_pour 25 = .ok (.ldc 90, 2) := by decide +kernel
theorem dX0_pour_27 : decode cX0_pour 27 = .ok (.invokespecial 92, 3) := by decide +kernel
theorem dX0_pour_30 : decode cX0_pour 30 = .ok (.athrow, 1) := by decide +kernel
theorem dX0_pour_31 : decode cX0_pour 31 = .ok (.iload_n 3, 1) := by decide +kernel
theorem dX0_pour_32 : decode cX0_pour 32 = .ok (.iconst 1, 1) := by decide +kernel
theorem dX0_pour_33 : decode cX0_pour 33 = .ok (.sipush 12000, 3) := by decide +kernel
theorem dX0_pour_36 : decode cX0_pour 36 = .ok (.invokestatic 65, 3) := by decide +kernel
theorem dX0_pour_39 : decode cX0_pour 39 = .ok (.aload_n 0, 1) := by decide +kernel
theorem dX0_pour_40 : decode cX0_pour 40 = .ok (.iload_n 1, 1) := by decide +kernel
theorem dX0_pour_41 : decode cX0_pour 41 = .ok (.invokestatic 80, 3) := by decide +kernel
theorem dX0_pour_44 : decode cX0_pour 44 = .ok (.iload_n 2, 1) := by decide +kernel
theorem dX0_pour_45 : decode cX0_pour 45 = .ok (.invokestatic 80, 3) := by decide +kernel
theorem dX0_pour_48 : decode cX0_pour 48 = .ok (.iload_n 3, 1) := by decide +kernel
theorem dX0_pour_49 : decode cX0_pour 49 = .ok (.invokevirtual 93, 3) := by decide +kernel
theorem dX0_pour_52 : decode cX0_pour 52 = .ok (.ifCond .ne 13, 3) := by decide +kernel
theorem dX0_pour_55 : decode cX0_pour 55 = .ok (.new 54, 3) := by decide +kernel
theorem dX0_pour_58 : decode cX0_pour 58 = .ok (.dup, 1) := by decide +kernel
theorem dX0_pour_59 : decode cX0_pour 59 = .ok (.ldc 97, 2) := by decide +kernel
theorem dX0_pour_61 : decode cX0_pour 61 = .ok (.invokespecial 58, 3) := by decide +kernel
theorem dX0_pour_64 : decode cX0_pour 64 = .ok (.athrow, 1) := by decide +kernel
theorem dX0_pour_65 : decode cX0_pour 65 = .ok (.aload_n 0, 1) := by decide +kernel
theorem dX0_pour_66 : decode cX0_pour 66 = .ok (.iload_n 2, 1) := by decide +kernel
theorem dX0_pour_67 : decode cX0_pour 67 = .ok (.invokestatic 80, 3) := by decide +kernel
theorem dX0_pour_70 : decode cX0_pour 70 = .ok (.invokevirtual 99, 3) := by decide +kernel
theorem dX0_pour_73 : decode cX0_pour 73 = .ok (.ireturn, 1) := by decide +kernel
theorem dX0_scrape_0 : decode cX0_scrape 0 = .ok (.iload_n 1, 1) := by decide +kernel
theorem dX0_scrape_1 : decode cX0_scrape 1 = .ok (.aload_n 0, 1) := by decide +kernel
theorem dX0_scrape_2 : decode cX0_scrape 2 = .ok (.getfield 73, 3) := by decide +kernel
theorem dX0_scrape_5 : decode cX0_scrape 5 = .ok (.invokestatic 61, 3) := by decide +kernel
theorem dX0_scrape_8 : decode cX0_scrape 8 = .ok (.aload_n 0, 1) := by decide +kernel
theorem dX0_scrape_9 : decode cX0_scrape 9 = .ok (.iload_n 1, 1) := by decide +kernel
theorem dX0_scrape_10 : decode cX0_scrape 10 = .ok (.invokestatic 80, 3) := by decide +kernel
theorem dX0_scrape_13 : decode cX0_scrape 13 = .ok (.invokevirtual 102, 3) := by decide +kernel
theorem dX0_scrape_16 : decode cX0_scrape 16 = .ok (.ireturn, 1) := by decide +kernel
theorem dX0_picture_0 : decode cX0_picture 0 = .ok (.aload_n 0, 1) := by decide +kernel
theorem dX0_picture_1 : decode cX0_picture 1 = .ok (.getfield 105, 3) := by decide +kernel
theorem dX0_picture_4 : decode cX0_picture 4 = .ok (.bipush 8, 2) := by decide +kernel
theorem dX0_picture_6 : decode cX0_picture 6 = .ok (.if_icmp .lt 13, 3) := by decide +kernel
theorem dX0_picture_9 : decode cX0_picture 9 = .ok (.new 54, 3) := by decide +kernel
theorem dX0_picture_12 : decode cX0_picture 12 = .ok (.dup, 1) := by decide +kernel
theorem dX0_picture_13 : decode cX0_picture 13 = .ok (.ldc 108, 2) := by decide +kernel
theorem dX0_picture_15 : decode cX0_picture 15 = .ok (.invokespecial 58, 3) := by decide +kernel
theorem dX0_picture_18 : decode cX0_picture 18 = .ok (.athrow, 1) := by decide +kernel
theorem dX0_picture_19 : decode cX0_picture 19 = .ok (.aload_n 0, 1) := by decide +kernel
theorem dX0_picture_20 : decode cX0_picture 20 = .ok (.dup, 1) := by decide +kernel
theorem dX0_picture_21 : decode cX0_picture 21 = .ok (.getfield 105, 3) := by decide +kernel
theorem dX0_picture_24 : decode cX0_picture 24 = .ok (.iconst 1, 1) := by decide +kernel
theorem dX0_picture_25 : decode cX0_picture 25 = .ok (.iadd, 1) := by decide +kernel
theorem dX0_picture_26 : decode cX0_picture 26 = .ok (.putfield 105, 3) := by decide +kernel
theorem dX0_picture_29 : decode cX0_picture 29 = .ok (.aload_n 0, 1) := by decide +kernel
theorem dX0_picture_30 : decode cX0_picture 30 = .ok (.getfield 105, 3) := by decide +kernel
theorem dX0_picture_33 : decode cX0_picture 33 = .ok (.iconst 1, 1) := by decide +kernel
theorem dX0_picture_34 : decode cX0_picture 34 = .ok (.isub, 1) := by decide +kernel
theorem dX0_picture_35 : decode cX0_picture 35 = .ok (.ireturn, 1) := by decide +kernel
theorem dX0_paint_0 : decode cX0_paint 0 = .ok (.iload_n 1, 1) := by decide +kernel
theorem dX0_paint_1 : decode cX0_paint 1 = .ok (.aload_n 0, 1) := by decide +kernel
theorem dX0_paint_2 : decode cX0_paint 2 = .ok (.getfield 105, 3) := by decide +kernel
theorem dX0_paint_5 : decode cX0_paint 5 = .ok (.invokestatic 61, 3) := by decide +kernel
theorem dX0_paint_8 : decode cX0_paint 8 = .ok (.iload_n 2, 1) := by decide +kernel
theorem dX0_paint_9 : decode cX0_paint 9 = .ok (.aload_n 0, 1) := by decide +kernel
theorem dX0_paint_10 : decode cX0_paint 10 = .ok (.getfield 73, 3) := by decide +kernel
theorem dX0_paint_13 : decode cX0_paint 13 = .ok (.invokestatic 61, 3) := by decide +kernel
theorem dX0_paint_16 : decode cX0_paint 16 = .ok (.iload_n 3, 1) := by decide +kernel
theorem dX0_paint_17 : decode cX0_paint 17 = .ok (.iconst 1, 1) := by decide +kernel
theorem dX0_paint_18 : decode cX0_paint 18 = .ok (.sipush 1000, 3) := by decide +kernel
theorem dX0_paint_21 : decode cX0_paint 21 = .ok (.invokestatic 65, 3) := by decide +kernel
theorem dX0_paint_24 : decode cX0_paint 24 = .ok (.aload_n 0, 1) := by decide +kernel
theorem dX0_paint_25 : decode cX0_paint 25 = .ok (.iload_n 1, 1) := by decide +kernel
theorem dX0_paint_26 : decode cX0_paint 26 = .ok (.invokevirtual 110, 3) := by decide +kernel
theorem dX0_paint_29 : decode cX0_paint 29 = .ok (.aload_n 0, 1) := by decide +kernel
theorem dX0_paint_30 : decode cX0_paint 30 = .ok (.getfield 22, 3) := by decide +kernel
theorem dX0_paint_33 : decode cX0_paint 33 = .ok (.iload_n 1, 1) := by decide +kernel
theorem dX0_paint_34 : decode cX0_paint 34 = .ok (.iaload, 1) := by decide +kernel
theorem dX0_paint_35 : decode cX0_paint 35 = .ok (.bipush 12, 2) := by decide +kernel
theorem dX0_paint_37 : decode cX0_paint 37 = .ok (.if_icmp .lt 13, 3) := by decide +kernel
theorem dX0_paint_40 : decode cX0_paint 40 = .ok (.new 54, 3) := by decide +kernel
theorem dX0_paint_43 : decode cX0_paint 43 = .ok (.dup, 1) := by decide +kernel
theorem dX0_paint_44 : decode cX0_paint 44 = .ok (.ldc 114, 2) := by decide +kernel
theorem dX0_paint_46 : decode cX0_paint 46 = .ok (.invokespecial 58, 3) := by decide +kernel
theorem dX0_paint_49 : decode cX0_paint 49 = .ok (.athrow, 1) := by decide +kernel
theorem dX0_paint_50 : decode cX0_paint 50 = .ok (.aload_n 0, 1) := by decide +kernel
theorem dX0_paint_51 : decode cX0_paint 51 = .ok (.iload_n 2, 1) := by decide +kernel
theorem dX0_paint_52 : decode cX0_paint 52 = .ok (.invokestatic 80, 3) := by decide +kernel
theorem dX0_paint_55 : decode cX0_paint 55 = .ok (.iload_n 1, 1) := by decide +kernel
theorem dX0_paint_56 : decode cX0_paint 56 = .ok (.aload_n 0, 1) := by decide +kernel
theorem dX0_paint_57 : decode cX0_paint 57 = .ok (.getfield 22, 3) := by decide +kernel
theorem dX0_paint_60 : decode cX0_paint 60 = .ok (.iload_n 1, 1) := by decide +kernel
theorem dX0_paint_61 : decode cX0_paint 61 = .ok (.iaload, 1) := by decide +kernel
theorem dX0_paint_62 : decode cX0_paint 62 = .ok (.invokestatic 116, 3) := by decide +kernel
theorem dX0_paint_65 : decode cX0_paint 65 = .ok (.iload_n 3, 1) := by decide +kernel
theorem dX0_paint_66 : decode cX0_paint 66 = .ok (.invokevirtual 93, 3) := by decide +kernel
theorem dX0_paint_69 : decode cX0_paint 69 = .ok (.ifCond .ne 13, 3) := by decide +kernel
theorem dX0_paint_72 : decode cX0_paint 72 = .ok (.new 54, 3) := by decide +kernel
theorem dX0_paint_75 : decode cX0_paint 75 = .ok (.dup, 1) := by decide +kernel
theorem dX0_paint_76 : decode cX0_paint 76 = .ok (.ldc 97, 2) := by decide +kernel
theorem dX0_paint_78 : decode cX0_paint 78 = .ok (.invokespecial 58, 3) := by decide +kernel
theorem dX0_paint_81 : decode cX0_paint 81 = .ok (.athrow, 1) := by decide +kernel
theorem dX0_paint_82 : decode cX0_paint 82 = .ok (.aload_n 0, 1) := by decide +kernel
theorem dX0_paint_83 : decode cX0_paint 83 = .ok (.getfield 22, 3) := by decide +kernel
theorem dX0_paint_86 : decode cX0_paint 86 = .ok (.iload_n 1, 1) := by decide +kernel
theorem dX0_paint_87 : decode cX0_paint 87 = .ok (.dup2, 1) := by decide +kernel
theorem dX0_paint_88 : decode cX0_paint 88 = .ok (.iaload, 1) := by decide +kernel
theorem dX0_paint_89 : decode cX0_paint 89 = .ok (.iconst 1, 1) := by decide +kernel
theorem dX0_paint_90 : decode cX0_paint 90 = .ok (.iadd, 1) := by decide +kernel
theorem dX0_paint_91 : decode cX0_paint 91 = .ok (.iastore, 1) := by decide +kernel
theorem dX0_paint_92 : decode cX0_paint 92 = .ok (.aload_n 0, 1) := by decide +kernel
theorem dX0_paint_93 : decode cX0_paint 93 = .ok (.getfield 22, 3) := by decide +kernel
theorem dX0_paint_96 : decode cX0_paint 96 = .ok (.iload_n 1, 1) := by decide +kernel
theorem dX0_paint_97 : decode cX0_paint 97 = .ok (.iaload, 1) := by decide +kernel
theorem dX0_paint_98 : decode cX0_paint 98 = .ok (.ireturn, 1) := by decide +kernel
theorem dX0_clean_0 : decode cX0_clean 0 = .ok (.iload_n 1, 1) := by decide +kernel
theorem dX0_clean_1 : decode cX0_clean 1 = .ok (.aload_n 0, 1) := by decide +kernel
theorem dX0_clean_2 : decode cX0_clean 2 = .ok (.getfield 105, 3) := by decide +kernel
theorem dX0_clean_5 : decode cX0_clean 5 = .ok (.invokestatic 61, 3) := by decide +kernel
theorem dX0_clean_8 : decode cX0_clean 8 = .ok (.iload_n 2, 1) := by decide +kernel
theorem dX0_clean_9 : decode cX0_clean 9 = .ok (.iconst 1, 1) := by decide +kernel
theorem dX0_clean_10 : decode cX0_clean 10 = .ok (.bipush 12, 2) := by decide +kernel
theorem dX0_clean_12 : decode cX0_clean 12 = .ok (.invokestatic 65, 3) := by decide +kernel
theorem dX0_clean_15 : decode cX0_clean 15 = .ok (.aload_n 0, 1) := by decide +kernel
theorem dX0_clean_16 : decode cX0_clean 16 = .ok (.iload_n 1, 1) := by decide +kernel
theorem dX0_clean_17 : decode cX0_clean 17 = .ok (.invokevirtual 110, 3) := by decide +kernel
theorem dX0_clean_20 : decode cX0_clean 20 = .ok (.aload_n 0, 1) := by decide +kernel
theorem dX0_clean_21 : decode cX0_clean 21 = .ok (.getfield 22, 3) := by decide +kernel
theorem dX0_clean_24 : decode cX0_clean 24 = .ok (.iload_n 1, 1) := by decide +kernel
theorem dX0_clean_25 : decode cX0_clean 25 = .ok (.iaload, 1) := by decide +kernel
theorem dX0_clean_26 : decode cX0_clean 26 = .ok (.iload_n 2, 1) := by decide +kernel
theorem dX0_clean_27 : decode cX0_clean 27 = .ok (.if_icmp .ge 13, 3) := by decide +kernel
theorem dX0_clean_30 : decode cX0_clean 30 = .ok (.new 54, 3) := by decide +kernel
theorem dX0_clean_33 : decode cX0_clean 33 = .ok (.dup, 1) := by decide +kernel
theorem dX0_clean_34 : decode cX0_clean 34 = .ok (.ldc 119, 2) := by decide +kernel
theorem dX0_clean_36 : decode cX0_clean 36 = .ok (.invokespecial 58, 3) := by decide +kernel
theorem dX0_clean_39 : decode cX0_clean 39 = .ok (.athrow, 1) := by decide +kernel
theorem dX0_clean_40 : decode cX0_clean 40 = .ok (.iconst 0, 1) := by decide +kernel
theorem dX0_clean_41 : decode cX0_clean 41 = .ok (.istore_n 3, 1) := by decide +kernel
theorem dX0_clean_42 : decode cX0_clean 42 = .ok (.iconst 0, 1) := by decide +kernel
theorem dX0_clean_43 : decode cX0_clean 43 = .ok (.istore 4, 2) := by decide +kernel
theorem dX0_clean_45 : decode cX0_clean 45 = .ok (.iload 4, 2) := by decide +kernel
theorem dX0_clean_47 : decode cX0_clean 47 = .ok (.iload_n 2, 1) := by decide +kernel
theorem dX0_clean_48 : decode cX0_clean 48 = .ok (.if_icmp .ge 36, 3) := by decide +kernel
theorem dX0_clean_51 : decode cX0_clean 51 = .ok (.aload_n 0, 1) := by decide +kernel
theorem dX0_clean_52 : decode cX0_clean 52 = .ok (.getfield 22, 3) := by decide +kernel
theorem dX0_clean_55 : decode cX0_clean 55 = .ok (.iload_n 1, 1) := by decide +kernel
theorem dX0_clean_56 : decode cX0_clean 56 = .ok (.dup2, 1) := by decide +kernel
theorem dX0_clean_57 : decode cX0_clean 57 = .ok (.iaload, 1) := by decide +kernel
theorem dX0_clean_58 : decode cX0_clean 58 = .ok (.iconst 1, 1) := by decide +kernel
theorem dX0_clean_59 : decode cX0_clean 59 = .ok (.isub, 1) := by decide +kernel
theorem dX0_clean_60 : decode cX0_clean 60 = .ok (.iastore, 1) := by decide +kernel
theorem dX0_clean_61 : decode cX0_clean 61 = .ok (.iload_n 3, 1) := by decide +kernel
theorem dX0_clean_62 : decode cX0_clean 62 = .ok (.aload_n 0, 1) := by decide +kernel
theorem dX0_clean_63 : decode cX0_clean 63 = .ok (.iload_n 1, 1) := by decide +kernel
theorem dX0_clean_64 : decode cX0_clean 64 = .ok (.aload_n 0, 1) := by decide +kernel
theorem dX0_clean_65 : decode cX0_clean 65 = .ok (.getfield 22, 3) := by decide +kernel
theorem dX0_clean_68 : decode cX0_clean 68 = .ok (.iload_n 1, 1) := by decide +kernel
theorem dX0_clean_69 : decode cX0_clean 69 = .ok (.iaload, 1) := by decide +kernel
theorem dX0_clean_70 : decode cX0_clean 70 = .ok (.invokestatic 116, 3) := by decide +kernel
theorem dX0_clean_73 : decode cX0_clean 73 = .ok (.invokevirtual 102, 3) := by decide +kernel
theorem dX0_clean_76 : decode cX0_clean 76 = .ok (.iadd, 1) := by decide +kernel
theorem dX0_clean_77 : decode cX0_clean 77 = .ok (.istore_n 3, 1) := by decide +kernel
theorem dX0_clean_78 : decode cX0_clean 78 = .ok (.iinc 4 1, 3) := by decide +kernel
theorem dX0_clean_81 : decode cX0_clean 81 = .ok (.goto (-36), 3) := by decide +kernel
theorem dX0_clean_84 : decode cX0_clean 84 = .ok (.iload_n 3, 1) := by decide +kernel
theorem dX0_clean_85 : decode cX0_clean 85 = .ok (.ireturn, 1) := by decide +kernel
theorem dX0_damp_0 : decode cX0_damp 0 = .ok (.iload_n 1, 1) := by decide +kernel
theorem dX0_damp_1 : decode cX0_damp 1 = .ok (.iconst 4, 1) := by decide +kernel
theorem dX0_damp_2 : decode cX0_damp 2 = .ok (.invokestatic 61, 3) := by decide +kernel
theorem dX0_damp_5 : decode cX0_damp 5 = .ok (.iload_n 2, 1) := by decide +kernel
theorem dX0_damp_6 : decode cX0_damp 6 = .ok (.iconst 0, 1) := by decide +kernel
theorem dX0_damp_7 : decode cX0_damp 7 = .ok (.bipush 100, 2) := by decide +kernel
theorem dX0_damp_9 : decode cX0_damp 9 = .ok (.invokestatic 65, 3) := by decide +kernel
theorem dX0_damp_12 : decode cX0_damp 12 = .ok (.aload_n 0, 1) := by decide +kernel
theorem dX0_damp_13 : decode cX0_damp 13 = .ok (.getfield 40, 3) := by decide +kernel
theorem dX0_damp_16 : decode cX0_damp 16 = .ok (.iload_n 1, 1) := by decide +kernel
theorem dX0_damp_17 : decode cX0_damp 17 = .ok (.iaload, 1) := by decide +kernel
theorem dX0_damp_18 : decode cX0_damp 18 = .ok (.istore_n 3, 1) := by decide +kernel
theorem dX0_damp_19 : decode cX0_damp 19 = .ok (.aload_n 0, 1) := by decide +kernel
theorem dX0_damp_20 : decode cX0_damp 20 = .ok (.getfield 40, 3) := by decide +kernel
theorem dX0_damp_23 : decode cX0_damp 23 = .ok (.iload_n 1, 1) := by decide +kernel
theorem dX0_damp_24 : decode cX0_damp 24 = .ok (.iload_n 2, 1) := by decide +kernel
theorem dX0_damp_25 : decode cX0_damp 25 = .ok (.iastore, 1) := by decide +kernel
theorem dX0_damp_26 : decode cX0_damp 26 = .ok (.iload_n 3, 1) := by decide +kernel
theorem dX0_damp_27 : decode cX0_damp 27 = .ok (.ireturn, 1) := by decide +kernel
theorem dX0_lend_0 : decode cX0_lend 0 = .ok (.iload_n 1, 1) := by decide +kernel
theorem dX0_lend_1 : decode cX0_lend 1 = .ok (.aload_n 0, 1) := by decide +kernel
theorem dX0_lend_2 : decode cX0_lend 2 = .ok (.getfield 105, 3) := by decide +kernel
theorem dX0_lend_5 : decode cX0_lend 5 = .ok (.invokestatic 61, 3) := by decide +kernel
theorem dX0_lend_8 : decode cX0_lend 8 = .ok (.iload_n 2, 1) := by decide +kernel
theorem dX0_lend_9 : decode cX0_lend 9 = .ok (.iconst 4, 1) := by decide +kernel
theorem dX0_lend_10 : decode cX0_lend 10 = .ok (.invokestatic 61, 3) := by decide +kernel
theorem dX0_lend_13 : decode cX0_lend 13 = .ok (.iload_n 3, 1) := by decide +kernel
theorem dX0_lend_14 : decode cX0_lend 14 = .ok (.iconst 1, 1) := by decide +kernel
theorem dX0_lend_15 : decode cX0_lend 15 = .ok (.bipush 100, 2) := by decide +kernel
theorem dX0_lend_17 : decode cX0_lend 17 = .ok (.invokestatic 65, 3) := by decide +kernel
theorem dX0_lend_20 : decode cX0_lend 20 = .ok (.aload_n 0, 1) := by decide +kernel
theorem dX0_lend_21 : decode cX0_lend 21 = .ok (.iload_n 1, 1) := by decide +kernel
theorem dX0_lend_22 : decode cX0_lend 22 = .ok (.invokevirtual 110, 3) := by decide +kernel
theorem dX0_lend_25 : decode cX0_lend 25 = .ok (.aload_n 0, 1) := by decide +kernel
theorem dX0_lend_26 : decode cX0_lend 26 = .ok (.getfield 25, 3) := by decide +kernel
theorem dX0_lend_29 : decode cX0_lend 29 = .ok (.iload_n 1, 1) := by decide +kernel
theorem dX0_lend_30 : decode cX0_lend 30 = .ok (.iaload, 1) := by decide +kernel
theorem dX0_lend_31 : decode cX0_lend 31 = .ok (.bipush 10, 2) := by decide +kernel
theorem dX0_lend_33 : decode cX0_lend 33 = .ok (.if_icmp .lt 13, 3) := by decide +kernel
theorem dX0_lend_36 : decode cX0_lend 36 = .ok (.new 54, 3) := by decide +kernel
theorem dX0_lend_39 : decode cX0_lend 39 = .ok (.dup, 1) := by decide +kernel
theorem dX0_lend_40 : decode cX0_lend 40 = .ok (.ldc 121, 2) := by decide +kernel
theorem dX0_lend_42 : decode cX0_lend 42 = .ok (.invokespecial 58, 3) := by decide +kernel
theorem dX0_lend_45 : decode cX0_lend 45 = .ok (.athrow, 1) := by decide +kernel
theorem dX0_lend_46 : decode cX0_lend 46 = .ok (.aload_n 0, 1) := by decide +kernel
theorem dX0_lend_47 : decode cX0_lend 47 = .ok (.getfield 37, 3) := by decide +kernel
theorem dX0_lend_50 : decode cX0_lend 50 = .ok (.iload_n 1, 1) := by decide +kernel
theorem dX0_lend_51 : decode cX0_lend 51 = .ok (.aload_n 0, 1) := by decide +kernel
theorem dX0_lend_52 : decode cX0_lend 52 = .ok (.iload_n 1, 1) := by decide +kernel
theorem dX0_lend_53 : decode cX0_lend 53 = .ok (.invokevirtual 123, 3) := by decide +kernel
theorem dX0_lend_56 : decode cX0_lend 56 = .ok (.bipush 100, 2) := by decide +kernel
theorem dX0_lend_58 : decode cX0_lend 58 = .ok (.idiv, 1) := by decide +kernel
theorem dX0_lend_59 : decode cX0_lend 59 = .ok (.iconst 1, 1) := by decide +kernel
theorem dX0_lend_60 : decode cX0_lend 60 = .ok (.iadd, 1) := by decide +kernel
theorem dX0_lend_61 : decode cX0_lend 61 = .ok (.iastore, 1) := by decide +kernel
theorem dX0_lend_62 : decode cX0_lend 62 = .ok (.aload_n 0, 1) := by decide +kernel
theorem dX0_lend_63 : decode cX0_lend 63 = .ok (.getfield 34, 3) := by decide +kernel
theorem dX0_lend_66 : decode cX0_lend 66 = .ok (.iload_n 1, 1) := by decide +kernel
theorem dX0_lend_67 : decode cX0_lend 67 = .ok (.iload_n 2, 1) := by decide +kernel
theorem dX0_lend_68 : decode cX0_lend 68 = .ok (.iastore, 1) := by decide +kernel
theorem dX0_lend_69 : decode cX0_lend 69 = .ok (.aload_n 0, 1) := by decide +kernel
theorem dX0_lend_70 : decode cX0_lend 70 = .ok (.getfield 31, 3) := by decide +kernel
theorem dX0_lend_73 : decode cX0_lend 73 = .ok (.iload_n 1, 1) := by decide +kernel
theorem dX0_lend_74 : decode cX0_lend 74 = .ok (.iload_n 3, 1) := by decide +kernel
theorem dX0_lend_75 : decode cX0_lend 75 = .ok (.iastore, 1) := by decide +kernel
theorem dX0_lend_76 : decode cX0_lend 76 = .ok (.aload_n 0, 1) := by decide +kernel
theorem dX0_lend_77 : decode cX0_lend 77 = .ok (.getfield 37, 3) := by decide +kernel
theorem dX0_lend_80 : decode cX0_lend 80 = .ok (.iload_n 1, 1) := by decide +kernel
theorem dX0_lend_81 : decode cX0_lend 81 = .ok (.iaload, 1) := by decide +kernel
theorem dX0_lend_82 : decode cX0_lend 82 = .ok (.ireturn, 1) := by decide +kernel
theorem dX0_sell_0 : decode cX0_sell 0 = .ok (.iload_n 1, 1) := by decide +kernel
theorem dX0_sell_1 : decode cX0_sell 1 = .ok (.aload_n 0, 1) := by decide +kernel
theorem dX0_sell_2 : decode cX0_sell 2 = .ok (.getfield 105, 3) := by decide +kernel
theorem dX0_sell_5 : decode cX0_sell 5 = .ok (.invokestatic 61, 3) := by decide +kernel
theorem dX0_sell_8 : decode cX0_sell 8 = .ok (.iload_n 2, 1) := by decide +kernel
theorem dX0_sell_9 : decode cX0_sell 9 = .ok (.iconst 1, 1) := by decide +kernel
theorem dX0_sell_10 : decode cX0_sell 10 = .ok (.ldc 126, 2) := by decide +kernel
theorem dX0_sell_12 : decode cX0_sell 12 = .ok (.invokestatic 65, 3) := by decide +kernel
theorem dX0_sell_15 : decode cX0_sell 15 = .ok (.aload_n 0, 1) := by decide +kernel
theorem dX0_sell_16 : decode cX0_sell 16 = .ok (.iload_n 1, 1) := by decide +kernel
theorem dX0_sell_17 : decode cX0_sell 17 = .ok (.invokevirtual 110, 3) := by decide +kernel
theorem dX0_sell_20 : decode cX0_sell 20 = .ok (.aload_n 0, 1) := by decide +kernel
theorem dX0_sell_21 : decode cX0_sell 21 = .ok (.getfield 22, 3) := by decide +kernel
theorem dX0_sell_24 : decode cX0_sell 24 = .ok (.iload_n 1, 1) := by decide +kernel
theorem dX0_sell_25 : decode cX0_sell 25 = .ok (.iaload, 1) := by decide +kernel
theorem dX0_sell_26 : decode cX0_sell 26 = .ok (.ifCond .ne 13, 3) := by decide +kernel
theorem dX0_sell_29 : decode cX0_sell 29 = .ok (.new 54, 3) := by decide +kernel
theorem dX0_sell_32 : decode cX0_sell 32 = .ok (.dup, 1) := by decide +kernel
theorem dX0_sell_33 : decode cX0_sell 33 = .ok (.ldc 127, 2) := by decide +kernel
theorem dX0_sell_35 : decode cX0_sell 35 = .ok (.invokespecial 58, 3) := by decide +kernel
theorem dX0_sell_38 : decode cX0_sell 38 = .ok (.athrow, 1) := by decide +kernel
theorem dX0_sell_39 : decode cX0_sell 39 = .ok (.aload_n 0, 1) := by decide +kernel
theorem dX0_sell_40 : decode cX0_sell 40 = .ok (.getfield 28, 3) := by decide +kernel
theorem dX0_sell_43 : decode cX0_sell 43 = .ok (.iload_n 1, 1) := by decide +kernel
theorem dX0_sell_44 : decode cX0_sell 44 = .ok (.iload_n 2, 1) := by decide +kernel
theorem dX0_sell_45 : decode cX0_sell 45 = .ok (.iastore, 1) := by decide +kernel
theorem dX0_sell_46 : decode cX0_sell 46 = .ok (.aload_n 0, 1) := by decide +kernel
theorem dX0_sell_47 : decode cX0_sell 47 = .ok (.iload_n 1, 1) := by decide +kernel
theorem dX0_sell_48 : decode cX0_sell 48 = .ok (.invokevirtual 123, 3) := by decide +kernel
theorem dX0_sell_51 : decode cX0_sell 51 = .ok (.ireturn, 1) := by decide +kernel
theorem dX0_pass_0 : decode cX0_pass 0 = .ok (.iload_n 1, 1) := by decide +kernel
theorem dX0_pass_1 : decode cX0_pass 1 = .ok (.iconst 1, 1) := by decide +kernel
theorem dX0_pass_2 : decode cX0_pass 2 = .ok (.bipush 100, 2) := by decide +kernel
theorem dX0_pass_4 : decode cX0_pass 4 = .ok (.invokestatic 65, 3) := by decide +kernel
theorem dX0_pass_7 : decode cX0_pass 7 = .ok (.aload_n 0, 1) := by decide +kernel
theorem dX0_pass_8 : decode cX0_pass 8 = .ok (.getfield 129, 3) := by decide +kernel
theorem dX0_pass_11 : decode cX0_pass 11 = .ok (.iload_n 1, 1) := by decide +kernel
theorem dX0_pass_12 : decode cX0_pass 12 = .ok (.iadd, 1) := by decide +kernel
theorem dX0_pass_13 : decode cX0_pass 13 = .ok (.sipush 5000, 3) := by decide +kernel
theorem dX0_pass_16 : decode cX0_pass 16 = .ok (.if_icmp .le 13, 3) := by decide +kernel
theorem dX0_pass_19 : decode cX0_pass 19 = .ok (.new 54, 3) := by decide +kernel
theorem dX0_pass_22 : decode cX0_pass 22 = .ok (.dup, 1) := by decide +kernel
theorem dX0_pass_23 : decode cX0_pass 23 = .ok (.ldc 132, 2) := by decide +kernel
theorem dX0_pass_25 : decode cX0_pass 25 = .ok (.invokespecial 58, 3) := by decide +kernel
theorem dX0_pass_28 : decode cX0_pass 28 = .ok (.athrow, 1) := by decide +kernel
theorem dX0_pass_29 : decode cX0_pass 29 = .ok (.iconst 0, 1) := by decide +kernel
theorem dX0_pass_30 : decode cX0_pass 30 = .ok (.istore_n 2, 1) := by decide +kernel
theorem dX0_pass_31 : decode cX0_pass 31 = .ok (.iload_n 2, 1) := by decide +kernel
theorem dX0_pass_32 : decode cX0_pass 32 = .ok (.aload_n 0, 1) := by decide +kernel
theorem dX0_pass_33 : decode cX0_pass 33 = .ok (.getfield 105, 3) := by decide +kernel
theorem dX0_pass_36 : decode cX0_pass 36 = .ok (.if_icmp .ge 15, 3) := by decide +kernel
theorem dX0_pass_39 : decode cX0_pass 39 = .ok (.aload_n 0, 1) := by decide +kernel
theorem dX0_pass_40 : decode cX0_pass 40 = .ok (.iload_n 2, 1) := by decide +kernel
theorem dX0_pass_41 : decode cX0_pass 41 = .ok (.iload_n 1, 1) := by decide +kernel
theorem dX0_pass_42 : decode cX0_pass 42 = .ok (.invokevirtual 134, 3) := by decide +kernel
theorem dX0_pass_45 : decode cX0_pass 45 = .ok (.iinc 2 1, 3) := by decide +kernel
theorem dX0_pass_48 : decode cX0_pass 48 = .ok (.goto (-17), 3) := by decide +kernel
theorem dX0_pass_51 : decode cX0_pass 51 = .ok (.aload_n 0, 1) := by decide +kernel
theorem dX0_pass_52 : decode cX0_pass 52 = .ok (.dup, 1) := by decide +kernel
theorem dX0_pass_53 : decode cX0_pass 53 = .ok (.getfield 129, 3) := by decide +kernel
theorem dX0_pass_56 : decode cX0_pass 56 = .ok (.iload_n 1, 1) := by decide +kernel
theorem dX0_pass_57 : decode cX0_pass 57 = .ok (.iadd, 1) := by decide +kernel
theorem dX0_pass_58 : decode cX0_pass 58 = .ok (.putfield 129, 3) := by decide +kernel
theorem dX0_pass_61 : decode cX0_pass 61 = .ok (.aload_n 0, 1) := by decide +kernel
theorem dX0_pass_62 : decode cX0_pass 62 = .ok (.getfield 129, 3) := by decide +kernel
theorem dX0_pass_65 : decode cX0_pass 65 = .ok (.ireturn, 1) := by decide +kernel
theorem dX0_left_0 : decode cX0_left 0 = .ok (.iload_n 1, 1) := by decide +kernel
theorem dX0_left_1 : decode cX0_left 1 = .ok (.aload_n 0, 1) := by decide +kernel
theorem dX0_left_2 : decode cX0_left 2 = .ok (.getfield 68, 3) := by decide +kernel
theorem dX0_left_5 : decode cX0_left 5 = .ok (.invokestatic 61, 3) := by decide +kernel
theorem dX0_left_8 : decode cX0_left 8 = .ok (.aload_n 0, 1) := by decide +kernel
theorem dX0_left_9 : decode cX0_left 9 = .ok (.getfield 16, 3) := by decide +kernel
theorem dX0_left_12 : decode cX0_left 12 = .ok (.iload_n 1, 1) := by decide +kernel
theorem dX0_left_13 : decode cX0_left 13 = .ok (.iaload, 1) := by decide +kernel
theorem dX0_left_14 : decode cX0_left 14 = .ok (.ireturn, 1) := by decide +kernel
theorem dX0_has_0 : decode cX0_has 0 = .ok (.iload_n 1, 1) := by decide +kernel
theorem dX0_has_1 : decode cX0_has 1 = .ok (.aload_n 0, 1) := by decide +kernel
theorem dX0_has_2 : decode cX0_has 2 = .ok (.getfield 73, 3) := by decide +kernel
theorem dX0_has_5 : decode cX0_has 5 = .ok (.invokestatic 61, 3) := by decide +kernel
theorem dX0_has_8 : decode cX0_has 8 = .ok (.iload_n 2, 1) := by decide +kernel
theorem dX0_has_9 : decode cX0_has 9 = .ok (.iconst (-1), 1) := by decide +kernel
theorem dX0_has_10 : decode cX0_has 10 = .ok (.if_icmp .ne 12, 3) := by decide +kernel
theorem dX0_has_13 : decode cX0_has 13 = .ok (.aload_n 0, 1) := by decide +kernel
theorem dX0_has_14 : decode cX0_has 14 = .ok (.iload_n 1, 1) := by decide +kernel
theorem dX0_has_15 : decode cX0_has 15 = .ok (.invokestatic 80, 3) := by decide +kernel
theorem dX0_has_18 : decode cX0_has 18 = .ok (.invokevirtual 99, 3) := by decide +kernel
theorem dX0_has_21 : decode cX0_has 21 = .ok (.ireturn, 1) := by decide +kernel
theorem dX0_has_22 : decode cX0_has 22 = .ok (.iload_n 2, 1) := by decide +kernel
theorem dX0_has_23 : decode cX0_has 23 = .ok (.aload_n 0, 1) := by decide +kernel
theorem dX0_has_24 : decode cX0_has 24 = .ok (.getfield 68, 3) := by decide +kernel
theorem dX0_has_27 : decode cX0_has 27 = .ok (.invokestatic 61, 3) := by decide +kernel
theorem dX0_has_30 : decode cX0_has 30 = .ok (.aload_n 0, 1) := by decide +kernel
theorem dX0_has_31 : decode cX0_has 31 = .ok (.getfield 19, 3) := by decide +kernel
theorem dX0_has_34 : decode cX0_has 34 = .ok (.iload_n 1, 1) := by decide +kernel
theorem dX0_has_35 : decode cX0_has 35 = .ok (.invokestatic 80, 3) := by decide +kernel
theorem dX0_has_38 : decode cX0_has 38 = .ok (.iload_n 2, 1) := by decide +kernel
theorem dX0_has_39 : decode cX0_has 39 = .ok (.invokestatic 84, 3) := by decide +kernel
theorem dX0_has_42 : decode cX0_has 42 = .ok (.iaload, 1) := by decide +kernel
theorem dX0_has_43 : decode cX0_has 43 = .ok (.ireturn, 1) := by decide +kernel
theorem dX0_colour_0 : decode cX0_colour 0 = .ok (.iload_n 1, 1) := by decide +kernel
theorem dX0_colour_1 : decode cX0_colour 1 = .ok (.aload_n 0, 1) := by decide +kernel
theorem dX0_colour_2 : decode cX0_colour 2 = .ok (.getfield 73, 3) := by decide +kernel
theorem dX0_colour_5 : decode cX0_colour 5 = .ok (.invokestatic 61, 3) := by decide +kernel
theorem dX0_colour_8 : decode cX0_colour 8 = .ok (.iload_n 2, 1) := by decide +kernel
theorem dX0_colour_9 : decode cX0_colour 9 = .ok (.iconst 0, 1) := by decide +kernel
theorem dX0_colour_10 : decode cX0_colour 10 = .ok (.iconst 2, 1) := by decide +kernel
theorem dX0_colour_11 : decode cX0_colour 11 = .ok (.invokestatic 65, 3) := by decide +kernel
theorem dX0_colour_14 : decode cX0_colour 14 = .ok (.aload_n 0, 1) := by decide +kernel
theorem dX0_colour_15 : decode cX0_colour 15 = .ok (.iload_n 1, 1) := by decide +kernel
theorem dX0_colour_16 : decode cX0_colour 16 = .ok (.invokestatic 80, 3) := by decide +kernel
theorem dX0_colour_19 : decode cX0_colour 19 = .ok (.iload_n 2, 1) := by decide +kernel
theorem dX0_colour_20 : decode cX0_colour 20 = .ok (.invokevirtual 137, 3) := by decide +kernel
theorem dX0_colour_23 : decode cX0_colour 23 = .ok (.ireturn, 1) := by decide +kernel
theorem dX0_of_0 : decode cX0_of 0 = .ok (.iload_n 1, 1) := by decide +kernel
theorem dX0_of_1 : decode cX0_of 1 = .ok (.aload_n 0, 1) := by decide +kernel
theorem dX0_of_2 : decode cX0_of 2 = .ok (.getfield 105, 3) := by decide +kernel
theorem dX0_of_5 : decode cX0_of 5 = .ok (.invokestatic 61, 3) := by decide +kernel
theorem dX0_of_8 : decode cX0_of 8 = .ok (.iload_n 2, 1) := by decide +kernel
theorem dX0_of_9 : decode cX0_of 9 = .ok (.iconst 0, 1) := by decide +kernel
theorem dX0_of_10 : decode cX0_of 10 = .ok (.bipush 8, 2) := by decide +kernel
theorem dX0_of_12 : decode cX0_of 12 = .ok (.invokestatic 65, 3) := by decide +kernel
theorem dX0_of_15 : decode cX0_of 15 = .ok (.iload_n 2, 1) := by decide +kernel
theorem dX0_of_16 : decode cX0_of 16 = .ok (.tableswitch 92 0 5 #[40, 47, 54, 60, 66, 85], 40) := by decide +kernel
theorem dX0_of_56 : decode cX0_of 56 = .ok (.aload_n 0, 1) := by decide +kernel
theorem dX0_of_57 : decode cX0_of 57 = .ok (.getfield 22, 3) := by decide +kernel
theorem dX0_of_60 : decode cX0_of 60 = .ok (.iload_n 1, 1) := by decide +kernel
theorem dX0_of_61 : decode cX0_of 61 = .ok (.iaload, 1) := by decide +kernel
theorem dX0_of_62 : decode cX0_of 62 = .ok (.ireturn, 1) := by decide +kernel
theorem dX0_of_63 : decode cX0_of 63 = .ok (.aload_n 0, 1) := by decide +kernel
theorem dX0_of_64 : decode cX0_of 64 = .ok (.getfield 25, 3) := by decide +kernel
theorem dX0_of_67 : decode cX0_of 67 = .ok (.iload_n 1, 1) := by decide +kernel
theorem dX0_of_68 : decode cX0_of 68 = .ok (.iaload, 1) := by decide +kernel
theorem dX0_of_69 : decode cX0_of 69 = .ok (.ireturn, 1) := by decide +kernel
theorem dX0_of_70 : decode cX0_of 70 = .ok (.aload_n 0, 1) := by decide +kernel
theorem dX0_of_71 : decode cX0_of 71 = .ok (.iload_n 1, 1) := by decide +kernel
theorem dX0_of_72 : decode cX0_of 72 = .ok (.invokevirtual 123, 3) := by decide +kernel
theorem dX0_of_75 : decode cX0_of 75 = .ok (.ireturn, 1) := by decide +kernel
theorem dX0_of_76 : decode cX0_of 76 = .ok (.aload_n 0, 1) := by decide +kernel
theorem dX0_of_77 : decode cX0_of 77 = .ok (.iload_n 1, 1) := by decide +kernel
theorem dX0_of_78 : decode cX0_of 78 = .ok (.invokevirtual 140, 3) := by decide +kernel
theorem dX0_of_81 : decode cX0_of 81 = .ok (.ireturn, 1) := by decide +kernel
theorem dX0_of_82 : decode cX0_of 82 = .ok (.aload_n 0, 1) := by decide +kernel
theorem dX0_of_83 : decode cX0_of 83 = .ok (.iload_n 1, 1) := by decide +kernel
theorem dX0_of_84 : decode cX0_of 84 = .ok (.invokevirtual 143, 3) := by decide +kernel
theorem dX0_of_87 : decode cX0_of 87 = .ok (.ifCond .eq 12, 3) := by decide +kernel
theorem dX0_of_90 : decode cX0_of 90 = .ok (.aload_n 0, 1) := by decide +kernel
theorem dX0_of_91 : decode cX0_of 91 = .ok (.getfield 34, 3) := by decide +kernel
theorem dX0_of_94 : decode cX0_of 94 = .ok (.iload_n 1, 1) := by decide +kernel
theorem dX0_of_95 : decode cX0_of 95 = .ok (.iaload, 1) := by decide +kernel
theorem dX0_of_96 : decode cX0_of 96 = .ok (.goto 4, 3) := by decide +kernel
theorem dX0_of_99 : decode cX0_of 99 = .ok (.iconst (-1), 1) := by decide +kernel
theorem dX0_of_100 : decode cX0_of 100 = .ok (.ireturn, 1) := by decide +kernel
theorem dX0_of_101 : decode cX0_of 101 = .ok (.aload_n 0, 1) := by decide +kernel
theorem dX0_of_102 : decode cX0_of 102 = .ok (.getfield 31, 3) := by decide +kernel
theorem dX0_of_105 : decode cX0_of 105 = .ok (.iload_n 1, 1) := by decide +kernel
theorem dX0_of_106 : decode cX0_of 106 = .ok (.iaload, 1) := by decide +kernel
theorem dX0_of_107 : decode cX0_of 107 = .ok (.ireturn, 1) := by decide +kernel
theorem dX0_of_108 : decode cX0_of 108 = .ok (.aload_n 0, 1) := by decide +kernel
theorem dX0_of_109 : decode cX0_of 109 = .ok (.iload_n 1, 1) := by decide +kernel
theorem dX0_of_110 : decode cX0_of 110 = .ok (.iload_n 2, 1) := by decide +kernel
theorem dX0_of_111 : decode cX0_of 111 = .ok (.bipush 6, 2) := by decide +kernel
theorem dX0_of_113 : decode cX0_of 113 = .ok (.isub, 1) := by decide +kernel
theorem dX0_of_114 : decode cX0_of 114 = .ok (.invokevirtual 147, 3) := by decide +kernel
theorem dX0_of_117 : decode cX0_of 117 = .ok (.ireturn, 1) := by decide +kernel
theorem dX0_layer_0 : decode cX0_layer 0 = .ok (.iload_n 1, 1) := by decide +kernel
theorem dX0_layer_1 : decode cX0_layer 1 = .ok (.aload_n 0, 1) := by decide +kernel
theorem dX0_layer_2 : decode cX0_layer 2 = .ok (.getfield 105, 3) := by decide +kernel
theorem dX0_layer_5 : decode cX0_layer 5 = .ok (.invokestatic 61, 3) := by decide +kernel
theorem dX0_layer_8 : decode cX0_layer 8 = .ok (.iload_n 2, 1) := by decide +kernel
theorem dX0_layer_9 : decode cX0_layer 9 = .ok (.aload_n 0, 1) := by decide +kernel
theorem dX0_layer_10 : decode cX0_layer 10 = .ok (.getfield 22, 3) := by decide +kernel
theorem dX0_layer_13 : decode cX0_layer 13 = .ok (.iload_n 1, 1) := by decide +kernel
theorem dX0_layer_14 : decode cX0_layer 14 = .ok (.iaload, 1) := by decide +kernel
theorem dX0_layer_15 : decode cX0_layer 15 = .ok (.invokestatic 61, 3) := by decide +kernel
theorem dX0_layer_18 : decode cX0_layer 18 = .ok (.iload_n 3, 1) := by decide +kernel
theorem dX0_layer_19 : decode cX0_layer 19 = .ok (.aload_n 0, 1) := by decide +kernel
theorem dX0_layer_20 : decode cX0_layer 20 = .ok (.getfield 68, 3) := by decide +kernel
theorem dX0_layer_23 : decode cX0_layer 23 = .ok (.invokestatic 61, 3) := by decide +kernel
theorem dX0_layer_26 : decode cX0_layer 26 = .ok (.aload_n 0, 1) := by decide +kernel
theorem dX0_layer_27 : decode cX0_layer 27 = .ok (.getfield 19, 3) := by decide +kernel
theorem dX0_layer_30 : decode cX0_layer 30 = .ok (.iload_n 1, 1) := by decide +kernel
theorem dX0_layer_31 : decode cX0_layer 31 = .ok (.iload_n 2, 1) := by decide +kernel
theorem dX0_layer_32 : decode cX0_layer 32 = .ok (.invokestatic 116, 3) := by decide +kernel
theorem dX0_layer_35 : decode cX0_layer 35 = .ok (.iload_n 3, 1) := by decide +kernel
theorem dX0_layer_36 : decode cX0_layer 36 = .ok (.invokestatic 84, 3) := by decide +kernel
theorem dX0_layer_39 : decode cX0_layer 39 = .ok (.iaload, 1) := by decide +kernel
theorem dX0_layer_40 : decode cX0_layer 40 = .ok (.ireturn, 1) := by decide +kernel
theorem dX0_where_0 : decode cX0_where 0 = .ok (.iload_n 1, 1) := by decide +kernel
theorem dX0_where_1 : decode cX0_where 1 = .ok (.aload_n 0, 1) := by decide +kernel
theorem dX0_where_2 : decode cX0_where 2 = .ok (.getfield 68, 3) := by decide +kernel
theorem dX0_where_5 : decode cX0_where 5 = .ok (.invokestatic 61, 3) := by decide +kernel
theorem dX0_where_8 : decode cX0_where 8 = .ok (.iload_n 2, 1) := by decide +kernel
theorem dX0_where_9 : decode cX0_where 9 = .ok (.iconst 0, 1) := by decide +kernel
theorem dX0_where_10 : decode cX0_where 10 = .ok (.iconst 3, 1) := by decide +kernel
theorem dX0_where_11 : decode cX0_where 11 = .ok (.invokestatic 65, 3) := by decide +kernel
theorem dX0_where_14 : decode cX0_where 14 = .ok (.iload_n 2, 1) := by decide +kernel
theorem dX0_where_15 : decode cX0_where 15 = .ok (.tableswitch 51 0 2 #[25, 32, 41], 25) := by decide +kernel
theorem dX0_where_40 : decode cX0_where 40 = .ok (.aload_n 0, 1) := by decide +kernel
theorem dX0_where_41 : decode cX0_where 41 = .ok (.getfield 16, 3) := by decide +kernel
theorem dX0_where_44 : decode cX0_where 44 = .ok (.iload_n 1, 1) := by decide +kernel
theorem dX0_where_45 : decode cX0_where 45 = .ok (.iaload, 1) := by decide +kernel
theorem dX0_where_46 : decode cX0_where 46 = .ok (.ireturn, 1) := by decide +kernel
theorem dX0_where_47 : decode cX0_where 47 = .ok (.aload_n 0, 1) := by decide +kernel
theorem dX0_where_48 : decode cX0_where 48 = .ok (.iload_n 1, 1) := by decide +kernel
theorem dX0_where_49 : decode cX0_where 49 = .ok (.iconst 0, 1) := by decide +kernel
theorem dX0_where_50 : decode cX0_where 50 = .ok (.bipush 10, 2) := by decide +kernel
theorem dX0_where_52 : decode cX0_where 52 = .ok (.invokevirtual 150, 3) := by decide +kernel
theorem dX0_where_55 : decode cX0_where 55 = .ok (.ireturn, 1) := by decide +kernel
theorem dX0_where_56 : decode cX0_where 56 = .ok (.aload_n 0, 1) := by decide +kernel
theorem dX0_where_57 : decode cX0_where 57 = .ok (.iload_n 1, 1) := by decide +kernel
theorem dX0_where_58 : decode cX0_where 58 = .ok (.bipush 10, 2) := by decide +kernel
theorem dX0_where_60 : decode cX0_where 60 = .ok (.bipush 106, 2) := by decide +kernel
theorem dX0_where_62 : decode cX0_where 62 = .ok (.invokevirtual 150, 3) := by decide +kernel
theorem dX0_where_65 : decode cX0_where 65 = .ok (.ireturn, 1) := by decide +kernel
theorem dX0_where_66 : decode cX0_where 66 = .ok (.aload_n 0, 1) := by decide +kernel
theorem dX0_where_67 : decode cX0_where 67 = .ok (.iload_n 1, 1) := by decide +kernel
theorem dX0_where_68 : decode cX0_where 68 = .ok (.bipush 106, 2) := by decide +kernel
theorem dX0_where_70 : decode cX0_where 70 = .ok (.bipush 107, 2) := by decide +kernel
theorem dX0_where_72 : decode cX0_where 72 = .ok (.invokevirtual 150, 3) := by decide +kernel
theorem dX0_where_75 : decode cX0_where 75 = .ok (.ireturn, 1) := by decide +kernel
theorem dX0_recipe_0 : decode cX0_recipe 0 = .ok (.iload_n 1, 1) := by decide +kernel
theorem dX0_recipe_1 : decode cX0_recipe 1 = .ok (.iload_n 2, 1) := by decide +kernel
theorem dX0_recipe_2 : decode cX0_recipe 2 = .ok (.iload_n 3, 1) := by decide +kernel
theorem dX0_recipe_3 : decode cX0_recipe 3 = .ok (.invokestatic 46, 3) := by decide +kernel
theorem dX0_recipe_6 : decode cX0_recipe 6 = .ok (.iconst (-1), 1) := by decide +kernel
theorem dX0_recipe_7 : decode cX0_recipe 7 = .ok (.istore 4, 2) := by decide +kernel
theorem dX0_recipe_9 : decode cX0_recipe 9 = .ok (.iconst 0, 1) := by decide +kernel
theorem dX0_recipe_10 : decode cX0_recipe 10 = .ok (.istore 5, 2) := by decide +kernel
theorem dX0_recipe_12 : decode cX0_recipe 12 = .ok (.iconst 0, 1) := by decide +kernel
theorem dX0_recipe_13 : decode cX0_recipe 13 = .ok (.istore 6, 2) := by decide +kernel
theorem dX0_recipe_15 : decode cX0_recipe 15 = .ok (.iload 6, 2) := by decide +kernel
theorem dX0_recipe_17 : decode cX0_recipe 17 = .ok (.aload_n 0, 1) := by decide +kernel
theorem dX0_recipe_18 : decode cX0_recipe 18 = .ok (.getfield 68, 3) := by decide +kernel
theorem dX0_recipe_21 : decode cX0_recipe 21 = .ok (.if_icmp .ge 152, 3) := by decide +kernel
theorem dX0_recipe_24 : decode cX0_recipe 24 = .ok (.iload 6, 2) := by decide +kernel
theorem dX0_recipe_26 : decode cX0_recipe 26 = .ok (.istore 7, 2) := by decide +kernel
theorem dX0_recipe_28 : decode cX0_recipe 28 = .ok (.iload 7, 2) := by decide +kernel
theorem dX0_recipe_30 : decode cX0_recipe 30 = .ok (.aload_n 0, 1) := by decide +kernel
theorem dX0_recipe_31 : decode cX0_recipe 31 = .ok (.getfield 68, 3) := by decide +kernel
theorem dX0_recipe_34 : decode cX0_recipe 34 = .ok (.if_icmp .ge 133, 3) := by decide +kernel
theorem dX0_recipe_37 : decode cX0_recipe 37 = .ok (.aload_n 0, 1) := by decide +kernel
theorem dX0_recipe_38 : decode cX0_recipe 38 = .ok (.getfield 16, 3) := by decide +kernel
theorem dX0_recipe_41 : decode cX0_recipe 41 = .ok (.iload 6, 2) := by decide +kernel
theorem dX0_recipe_43 : decode cX0_recipe 43 = .ok (.iaload, 1) := by decide +kernel
theorem dX0_recipe_44 : decode cX0_recipe 44 = .ok (.ifCond .eq 117, 3) := by decide +kernel
theorem dX0_recipe_47 : decode cX0_recipe 47 = .ok (.aload_n 0, 1) := by decide +kernel
theorem dX0_recipe_48 : decode cX0_recipe 48 = .ok (.getfield 16, 3) := by decide +kernel
theorem dX0_recipe_51 : decode cX0_recipe 51 = .ok (.iload 7, 2) := by decide +kernel
theorem dX0_recipe_53 : decode cX0_recipe 53 = .ok (.iaload, 1) := by decide +kernel
theorem dX0_recipe_54 : decode cX0_recipe 54 = .ok (.ifCond .ne 6, 3) := by decide +kernel
theorem dX0_recipe_57 : decode cX0_recipe 57 = .ok (.goto 104, 3) := by decide +kernel
theorem dX0_recipe_60 : decode cX0_recipe 60 = .ok (.iconst 0, 1) := by decide +kernel
theorem dX0_recipe_61 : decode cX0_recipe 61 = .ok (.istore 8, 2) := by decide +kernel
theorem dX0_recipe_63 : decode cX0_recipe 63 = .ok (.iload 8, 2) := by decide +kernel
theorem dX0_recipe_65 : decode cX0_recipe 65 = .ok (.iconst 4, 1) := by decide +kernel
theorem dX0_recipe_66 : decode cX0_recipe 66 = .ok (.if_icmp .gt 95, 3) := by decide +kernel
theorem dX0_recipe_69 : decode cX0_recipe 69 = .ok (.aload_n 0, 1) := by decide +kernel
theorem dX0_recipe_70 : decode cX0_recipe 70 = .ok (.iload 6, 2) := by decide +kernel
theorem dX0_recipe_72 : decode cX0_recipe 72 = .ok (.iload 7, 2) := by decide +kernel
theorem dX0_recipe_74 : decode cX0_recipe 74 = .ok (.iload 8, 2) := by decide +kernel
theorem dX0_recipe_76 : decode cX0_recipe 76 = .ok (.iconst 0, 1) := by decide +kernel
theorem dX0_recipe_77 : decode cX0_recipe 77 = .ok (.invokevirtual 154, 3) := by decide +kernel
theorem dX0_recipe_80 : decode cX0_recipe 80 = .ok (.iload_n 1, 1) := by decide +kernel
theorem dX0_recipe_81 : decode cX0_recipe 81 = .ok (.isub, 1) := by decide +kernel
theorem dX0_recipe_82 : decode cX0_recipe 82 = .ok (.invokestatic 158, 3) := by decide +kernel
theorem dX0_recipe_85 : decode cX0_recipe 85 = .ok (.aload_n 0, 1) := by decide +kernel
theorem dX0_recipe_86 : decode cX0_recipe 86 = .ok (.iload 6, 2) := by decide +kernel
theorem dX0_recipe_88 : decode cX0_recipe 88 = .ok (.iload 7, 2) := by decide +kernel
theorem dX0_recipe_90 : decode cX0_recipe 90 = .ok (.iload 8, 2) := by decide +kernel
theorem dX0_recipe_92 : decode cX0_recipe 92 = .ok (.iconst 1, 1) := by decide +kernel
theorem dX0_recipe_93 : decode cX0_recipe 93 = .ok (.invokevirtual 154, 3) := by decide +kernel
theorem dX0_recipe_96 : decode cX0_recipe 96 = .ok (.iload_n 2, 1) := by decide +kernel
theorem dX0_recipe_97 : decode cX0_recipe 97 = .ok (.isub, 1) := by decide +kernel
theorem dX0_recipe_98 : decode cX0_recipe 98 = .ok (.invokestatic 158, 3) := by decide +kernel
theorem dX0_recipe_101 : decode cX0_recipe 101 = .ok (.iadd, 1) := by decide +kernel
theorem dX0_recipe_102 : decode cX0_recipe 102 = .ok (.aload_n 0, 1) := by decide +kernel
theorem dX0_recipe_103 : decode cX0_recipe 103 = .ok (.iload 6, 2) := by decide +kernel
theorem dX0_recipe_105 : decode cX0_recipe 105 = .ok (.iload 7, 2) := by decide +kernel
theorem dX0_recipe_107 : decode cX0_recipe 107 = .ok (.iload 8, 2) := by decide +kernel
theorem dX0_recipe_109 : decode cX0_recipe 109 = .ok (.iconst 2, 1) := by decide +kernel
theorem dX0_recipe_110 : decode cX0_recipe 110 = .ok (.invokevirtual 154, 3) := by decide +kernel
theorem dX0_recipe_113 : decode cX0_recipe 113 = .ok (.iload_n 3, 1) := by decide +kernel
theorem dX0_recipe_114 : decode cX0_recipe 114 = .ok (.isub, 1) := by decide +kernel
theorem dX0_recipe_115 : decode cX0_recipe 115 = .ok (.invokestatic 158, 3) := by decide +kernel
theorem dX0_recipe_118 : decode cX0_recipe 118 = .ok (.iadd, 1) := by decide +kernel
theorem dX0_recipe_119 : decode cX0_recipe 119 = .ok (.istore 9, 2) := by decide +kernel
theorem dX0_recipe_121 : decode cX0_recipe 121 = .ok (.iload 4, 2) := by decide +kernel
theorem dX0_recipe_123 : decode cX0_recipe 123 = .ok (.iconst (-1), 1) := by decide +kernel
theorem dX0_recipe_124 : decode cX0_recipe 124 = .ok (.if_icmp .eq 10, 3) := by decide +kernel
theorem dX0_recipe_127 : decode cX0_recipe 127 = .ok (.iload 9, 2) := by decide +kernel
theorem dX0_recipe_129 : decode cX0_recipe 129 = .ok (.iload 5, 2) := by decide +kernel
theorem dX0_recipe_131 : decode cX0_recipe 131 = .ok (.if_icmp .ge 24, 3) := by decide +kernel
theorem dX0_recipe_134 : decode cX0_recipe 134 = .ok (.sipush 1000, 3) := by decide +kernel
theorem dX0_recipe_137 : decode cX0_recipe 137 = .ok (.iload 6, 2) := by decide +kernel
theorem dX0_recipe_139 : decode cX0_recipe 139 = .ok (.imul, 1) := by decide +kernel
theorem dX0_recipe_140 : decode cX0_recipe 140 = .ok (.bipush 10, 2) := by decide +kernel
theorem dX0_recipe_142 : decode cX0_recipe 142 = .ok (.iload 7, 2) := by decide +kernel
theorem dX0_recipe_144 : decode cX0_recipe 144 = .ok (.imul, 1) := by decide +kernel
theorem dX0_recipe_145 : decode cX0_recipe 145 = .ok (.iadd, 1) := by decide +kernel
theorem dX0_recipe_146 : decode cX0_recipe 146 = .ok (.iload 8, 2) := by decide +kernel
theorem dX0_recipe_148 : decode cX0_recipe 148 = .ok (.iadd, 1) := by decide +kernel
theorem dX0_recipe_149 : decode cX0_recipe 149 = .ok (.istore 4, 2) := by decide +kernel
theorem dX0_recipe_151 : decode cX0_recipe 151 = .ok (.iload 9, 2) := by decide +kernel
theorem dX0_recipe_153 : decode cX0_recipe 153 = .ok (.istore 5, 2) := by decide +kernel
theorem dX0_recipe_155 : decode cX0_recipe 155 = .ok (.iinc 8 1, 3) := by decide +kernel
theorem dX0_recipe_158 : decode cX0_recipe 158 = .ok (.goto (-95), 3) := by decide +kernel
theorem dX0_recipe_161 : decode cX0_recipe 161 = .ok (.iinc 7 1, 3) := by decide +kernel
theorem dX0_recipe_164 : decode cX0_recipe 164 = .ok (.goto (-136), 3) := by decide +kernel
theorem dX0_recipe_167 : decode cX0_recipe 167 = .ok (.iinc 6 1, 3) := by decide +kernel
theorem dX0_recipe_170 : decode cX0_recipe 170 = .ok (.goto (-155), 3) := by decide +kernel
theorem dX0_recipe_173 : decode cX0_recipe 173 = .ok (.iload 4, 2) := by decide +kernel
theorem dX0_recipe_175 : decode cX0_recipe 175 = .ok (.ireturn, 1) := by decide +kernel
theorem dX0_paid_0 : decode cX0_paid 0 = .ok (.iload_n 1, 1) := by decide +kernel
theorem dX0_paid_1 : decode cX0_paid 1 = .ok (.iconst 4, 1) := by decide +kernel
theorem dX0_paid_2 : decode cX0_paid 2 = .ok (.invokestatic 61, 3) := by decide +kernel
theorem dX0_paid_5 : decode cX0_paid 5 = .ok (.aload_n 0, 1) := by decide +kernel
theorem dX0_paid_6 : decode cX0_paid 6 = .ok (.getfield 43, 3) := by decide +kernel
theorem dX0_paid_9 : decode cX0_paid 9 = .ok (.iload_n 1, 1) := by decide +kernel
theorem dX0_paid_10 : decode cX0_paid 10 = .ok (.iaload, 1) := by decide +kernel
theorem dX0_paid_11 : decode cX0_paid 11 = .ok (.ireturn, 1) := by decide +kernel
theorem dX0_checkNumber_0 : decode cX0_checkNumber 0 = .ok (.iload_n 0, 1) := by decide +kernel
theorem dX0_checkNumber_1 : decode cX0_checkNumber 1 = .ok (.ifCond .lt 8, 3) := by decide +kernel
theorem dX0_checkNumber_4 : decode cX0_checkNumber 4 = .ok (.iload_n 0, 1) := by decide +kernel
theorem dX0_checkNumber_5 : decode cX0_checkNumber 5 = .ok (.iload_n 1, 1) := by decide +kernel
theorem dX0_checkNumber_6 : decode cX0_checkNumber 6 = .ok (.if_icmp .lt 13, 3) := by decide +kernel
theorem dX0_checkNumber_9 : decode cX0_checkNumber 9 = .ok (.new 161, 3) := by decide +kernel
theorem dX0_checkNumber_12 : decode cX0_checkNumber 12 = .ok (.dup, 1) := by decide +kernel
theorem dX0_checkNumber_13 : decode cX0_checkNumber 13 = .ok (.ldc 163, 2) := by decide +kernel
theorem dX0_checkNumber_15 : decode cX0_checkNumber 15 = .ok (.invokespecial 165, 3) := by decide +kernel
theorem dX0_checkNumber_18 : decode cX0_checkNumber 18 = .ok (.athrow, 1) := by decide +kernel
theorem dX0_checkNumber_19 : decode cX0_checkNumber 19 = .ok (.return_, 1) := by decide +kernel
theorem dX0_checkRange_0 : decode cX0_checkRange 0 = .ok (.iload_n 0, 1) := by decide +kernel
theorem dX0_checkRange_1 : decode cX0_checkRange 1 = .ok (.iload_n 1, 1) := by decide +kernel
theorem dX0_checkRange_2 : decode cX0_checkRange 2 = .ok (.if_icmp .lt 8, 3) := by decide +kernel
theorem dX0_checkRange_5 : decode cX0_checkRange 5 = .ok (.iload_n 0, 1) := by decide +kernel
theorem dX0_checkRange_6 : decode cX0_checkRange 6 = .ok (.iload_n 2, 1) := by decide +kernel
theorem dX0_checkRange_7 : decode cX0_checkRange 7 = .ok (.if_icmp .le 13, 3) := by decide +kernel
theorem dX0_checkRange_10 : decode cX0_checkRange 10 = .ok (.new 88, 3) := by decide +kernel
theorem dX0_checkRange_13 : decode cX0_checkRange 13 = .ok (.dup, 1) := by decide +kernel
theorem dX0_checkRange_14 : decode cX0_checkRange 14 = .ok (.ldc 166, 2) := by decide +kernel
theorem dX0_checkRange_16 : decode cX0_checkRange 16 = .ok (.invokespecial 92, 3) := by decide +kernel
theorem dX0_checkRange_19 : decode cX0_checkRange 19 = .ok (.athrow, 1) := by decide +kernel
theorem dX0_checkRange_20 : decode cX0_checkRange 20 = .ok (.return_, 1) := by decide +kernel
theorem dX0_checkColour_0 : decode cX0_checkColour 0 = .ok (.iload_n 0, 1) := by decide +kernel
theorem dX0_checkColour_1 : decode cX0_checkColour 1 = .ok (.iconst 0, 1) := by decide +kernel
theorem dX0_checkColour_2 : decode cX0_checkColour 2 = .ok (.sipush 255, 3) := by decide +kernel
theorem dX0_checkColour_5 : decode cX0_checkColour 5 = .ok (.invokestatic 65, 3) := by decide +kernel
theorem dX0_checkColour_8 : decode cX0_checkColour 8 = .ok (.iload_n 1, 1) := by decide +kernel
theorem dX0_checkColour_9 : decode cX0_checkColour 9 = .ok (.iconst 0, 1) := by decide +kernel
theorem dX0_checkColour_10 : decode cX0_checkColour 10 = .ok (.sipush 255, 3) := by decide +kernel
theorem dX0_checkColour_13 : decode cX0_checkColour 13 = .ok (.invokestatic 65, 3) := by decide +kernel
theorem dX0_checkColour_16 : decode cX0_checkColour 16 = .ok (.iload_n 2, 1) := by decide +kernel
theorem dX0_checkColour_17 : decode cX0_checkColour 17 = .ok (.iconst 0, 1) := by decide +kernel
theorem dX0_checkColour_18 : decode cX0_checkColour 18 = .ok (.sipush 255, 3) := by decide +kernel
theorem dX0_checkColour_21 : decode cX0_checkColour 21 = .ok (.invokestatic 65, 3) := by decide +kernel
theorem dX0_checkColour_24 : decode cX0_checkColour 24 = .ok (.return_, 1) := by decide +kernel
theorem dX0_checkAtHome_0 : decode cX0_checkAtHome 0 = .ok (.aload_n 0, 1) := by decide +kernel
theorem dX0_checkAtHome_1 : decode cX0_checkAtHome 1 = .ok (.iload_n 1, 1) := by decide +kernel
theorem dX0_checkAtHome_2 : decode cX0_checkAtHome 2 = .ok (.invokevirtual 143, 3) := by decide +kernel
theorem dX0_checkAtHome_5 : decode cX0_checkAtHome 5 = .ok (.ifCond .eq 13, 3) := by decide +kernel
theorem dX0_checkAtHome_8 : decode cX0_checkAtHome 8 = .ok (.new 54, 3) := by decide +kernel
theorem dX0_checkAtHome_11 : decode cX0_checkAtHome 11 = .ok (.dup, 1) := by decide +kernel
theorem dX0_checkAtHome_12 : decode cX0_checkAtHome 12 = .ok (.ldc 168, 2) := by decide +kernel
theorem dX0_checkAtHome_14 : decode cX0_checkAtHome 14 = .ok (.invokespecial 58, 3) := by decide +kernel
theorem dX0_checkAtHome_17 : decode cX0_checkAtHome 17 = .ok (.athrow, 1) := by decide +kernel
theorem dX0_checkAtHome_18 : decode cX0_checkAtHome 18 = .ok (.return_, 1) := by decide +kernel
theorem dX0_potRow_0 : decode cX0_potRow 0 = .ok (.iload_n 0, 1) := by decide +kernel
theorem dX0_potRow_1 : decode cX0_potRow 1 = .ok (.ireturn, 1) := by decide +kernel
theorem dX0_layerRow_0 : decode cX0_layerRow 0 = .ok (.bipush 10, 2) := by decide +kernel
theorem dX0_layerRow_2 : decode cX0_layerRow 2 = .ok (.iload_n 0, 1) := by decide +kernel
theorem dX0_layerRow_3 : decode cX0_layerRow 3 = .ok (.bipush 12, 2) := by decide +kernel
theorem dX0_layerRow_5 : decode cX0_layerRow 5 = .ok (.imul, 1) := by decide +kernel
theorem dX0_layerRow_6 : decode cX0_layerRow 6 = .ok (.iadd, 1) := by decide +kernel
theorem dX0_layerRow_7 : decode cX0_layerRow 7 = .ok (.iload_n 1, 1) := by decide +kernel
theorem dX0_layerRow_8 : decode cX0_layerRow 8 = .ok (.iadd, 1) := by decide +kernel
theorem dX0_layerRow_9 : decode cX0_layerRow 9 = .ok (.ireturn, 1) := by decide +kernel
theorem dX0_place_0 : decode cX0_place 0 = .ok (.iload_n 0, 1) := by decide +kernel
theorem dX0_place_1 : decode cX0_place 1 = .ok (.bipush 12, 2) := by decide +kernel
theorem dX0_place_3 : decode cX0_place 3 = .ok (.imul, 1) := by decide +kernel
theorem dX0_place_4 : decode cX0_place 4 = .ok (.iload_n 1, 1) := by decide +kernel
theorem dX0_place_5 : decode cX0_place 5 = .ok (.iadd, 1) := by decide +kernel
theorem dX0_place_6 : decode cX0_place 6 = .ok (.ireturn, 1) := by decide +kernel
theorem dX0_sumOfRow_0 : decode cX0_sumOfRow 0 = .ok (.iconst 0, 1) := by decide +kernel
theorem dX0_sumOfRow_1 : decode cX0_sumOfRow 1 = .ok (.istore_n 2, 1) := by decide +kernel
theorem dX0_sumOfRow_2 : decode cX0_sumOfRow 2 = .ok (.iconst 0, 1) := by decide +kernel
theorem dX0_sumOfRow_3 : decode cX0_sumOfRow 3 = .ok (.istore_n 3, 1) := by decide +kernel
theorem dX0_sumOfRow_4 : decode cX0_sumOfRow 4 = .ok (.iload_n 3, 1) := by decide +kernel
theorem dX0_sumOfRow_5 : decode cX0_sumOfRow 5 = .ok (.aload_n 0, 1) := by decide +kernel
theorem dX0_sumOfRow_6 : decode cX0_sumOfRow 6 = .ok (.getfield 68, 3) := by decide +kernel
theorem dX0_sumOfRow_9 : decode cX0_sumOfRow 9 = .ok (.if_icmp .ge 22, 3) := by decide +kernel
theorem dX0_sumOfRow_12 : decode cX0_sumOfRow 12 = .ok (.iload_n 2, 1) := by decide +kernel
theorem dX0_sumOfRow_13 : decode cX0_sumOfRow 13 = .ok (.aload_n 0, 1) := by decide +kernel
theorem dX0_sumOfRow_14 : decode cX0_sumOfRow 14 = .ok (.getfield 19, 3) := by decide +kernel
theorem dX0_sumOfRow_17 : decode cX0_sumOfRow 17 = .ok (.iload_n 1, 1) := by decide +kernel
theorem dX0_sumOfRow_18 : decode cX0_sumOfRow 18 = .ok (.iload_n 3, 1) := by decide +kernel
theorem dX0_sumOfRow_19 : decode cX0_sumOfRow 19 = .ok (.invokestatic 84, 3) := by decide +kernel
theorem dX0_sumOfRow_22 : decode cX0_sumOfRow 22 = .ok (.iaload, 1) := by decide +kernel
theorem dX0_sumOfRow_23 : decode cX0_sumOfRow 23 = .ok (.iadd, 1) := by decide +kernel
theorem dX0_sumOfRow_24 : decode cX0_sumOfRow 24 = .ok (.istore_n 2, 1) := by decide +kernel
theorem dX0_sumOfRow_25 : decode cX0_sumOfRow 25 = .ok (.iinc 3 1, 3) := by decide +kernel
theorem dX0_sumOfRow_28 : decode cX0_sumOfRow 28 = .ok (.goto (-24), 3) := by decide +kernel
theorem dX0_sumOfRow_31 : decode cX0_sumOfRow 31 = .ok (.iload_n 2, 1) := by decide +kernel
theorem dX0_sumOfRow_32 : decode cX0_sumOfRow 32 = .ok (.ireturn, 1) := by decide +kernel
theorem dX0_sumOfTube_0 : decode cX0_sumOfTube 0 = .ok (.iconst 0, 1) := by decide +kernel
theorem dX0_sumOfTube_1 : decode cX0_sumOfTube 1 = .ok (.istore 4, 2) := by decide +kernel
theorem dX0_sumOfTube_3 : decode cX0_sumOfTube 3 = .ok (.iload_n 2, 1) := by decide +kernel
theorem dX0_sumOfTube_4 : decode cX0_sumOfTube 4 = .ok (.istore 5, 2) := by decide +kernel
theorem dX0_sumOfTube_6 : decode cX0_sumOfTube 6 = .ok (.iload 5, 2) := by decide +kernel
theorem dX0_sumOfTube_8 : decode cX0_sumOfTube 8 = .ok (.iload_n 3, 1) := by decide +kernel
theorem dX0_sumOfTube_9 : decode cX0_sumOfTube 9 = .ok (.if_icmp .ge 25, 3) := by decide +kernel
theorem dX0_sumOfTube_12 : decode cX0_sumOfTube 12 = .ok (.iload 4, 2) := by decide +kernel
theorem dX0_sumOfTube_14 : decode cX0_sumOfTube 14 = .ok (.aload_n 0, 1) := by decide +kernel
theorem dX0_sumOfTube_15 : decode cX0_sumOfTube 15 = .ok (.getfield 19, 3) := by decide +kernel
theorem dX0_sumOfTube_18 : decode cX0_sumOfTube 18 = .ok (.iload 5, 2) := by decide +kernel
theorem dX0_sumOfTube_20 : decode cX0_sumOfTube 20 = .ok (.iload_n 1, 1) := by decide +kernel
theorem dX0_sumOfTube_21 : decode cX0_sumOfTube 21 = .ok (.invokestatic 84, 3) := by decide +kernel
theorem dX0_sumOfTube_24 : decode cX0_sumOfTube 24 = .ok (.iaload, 1) := by decide +kernel
theorem dX0_sumOfTube_25 : decode cX0_sumOfTube 25 = .ok (.iadd, 1) := by decide +kernel
theorem dX0_sumOfTube_26 : decode cX0_sumOfTube 26 = .ok (.istore 4, 2) := by decide +kernel
theorem dX0_sumOfTube_28 : decode cX0_sumOfTube 28 = .ok (.iinc 5 1, 3) := by decide +kernel
theorem dX0_sumOfTube_31 : decode cX0_sumOfTube 31 = .ok (.goto (-25), 3) := by decide +kernel
theorem dX0_sumOfTube_34 : decode cX0_sumOfTube 34 = .ok (.iload 4, 2) := by decide +kernel
theorem dX0_sumOfTube_36 : decode cX0_sumOfTube 36 = .ok (.ireturn, 1) := by decide +kernel
theorem dX0_move_0 : decode cX0_move 0 = .ok (.aload_n 0, 1) := by decide +kernel
theorem dX0_move_1 : decode cX0_move 1 = .ok (.iload_n 1, 1) := by decide +kernel
theorem dX0_move_2 : decode cX0_move 2 = .ok (.invokevirtual 99, 3) := by decide +kernel
theorem dX0_move_5 : decode cX0_move 5 = .ok (.istore 4, 2) := by decide +kernel
theorem dX0_move_7 : decode cX0_move 7 = .ok (.iload 4, 2) := by decide +kernel
theorem dX0_move_9 : decode cX0_move 9 = .ok (.iconst 1, 1) := by decide +kernel
theorem dX0_move_10 : decode cX0_move 10 = .ok (.if_icmp .lt 9, 3) := by decide +kernel
theorem dX0_move_13 : decode cX0_move 13 = .ok (.iload 4, 2) := by decide +kernel
theorem dX0_move_15 : decode cX0_move 15 = .ok (.iload_n 3, 1) := by decide +kernel
theorem dX0_move_16 : decode cX0_move 16 = .ok (.if_icmp .ge 5, 3) := by decide +kernel
theorem dX0_move_19 : decode cX0_move 19 = .ok (.iconst 0, 1) := by decide +kernel
theorem dX0_move_20 : decode cX0_move 20 = .ok (.ireturn, 1) := by decide +kernel
theorem dX0_move_21 : decode cX0_move 21 = .ok (.iconst 0, 1) := by decide +kernel
theorem dX0_move_22 : decode cX0_move 22 = .ok (.istore 5, 2) := by decide +kernel
theorem dX0_move_24 : decode cX0_move 24 = .ok (.iconst 0, 1) := by decide +kernel
theorem dX0_move_25 : decode cX0_move 25 = .ok (.istore 6, 2) := by decide +kernel
theorem dX0_move_27 : decode cX0_move 27 = .ok (.iload 6, 2) := by decide +kernel
theorem dX0_move_29 : decode cX0_move 29 = .ok (.aload_n 0, 1) := by decide +kernel
theorem dX0_move_30 : decode cX0_move 30 = .ok (.getfield 68, 3) := by decide +kernel
theorem dX0_move_33 : decode cX0_move 33 = .ok (.if_icmp .ge 81, 3) := by decide +kernel
theorem dX0_move_36 : decode cX0_move 36 = .ok (.aload_n 0, 1) := by decide +kernel
theorem dX0_move_37 : decode cX0_move 37 = .ok (.getfield 19, 3) := by decide +kernel
theorem dX0_move_40 : decode cX0_move 40 = .ok (.iload_n 1, 1) := by decide +kernel
theorem dX0_move_41 : decode cX0_move 41 = .ok (.iload 6, 2) := by decide +kernel
theorem dX0_move_43 : decode cX0_move 43 = .ok (.invokestatic 84, 3) := by decide +kernel
theorem dX0_move_46 : decode cX0_move 46 = .ok (.iaload, 1) := by decide +kernel
theorem dX0_move_47 : decode cX0_move 47 = .ok (.istore 7, 2) := by decide +kernel
theorem dX0_move_49 : decode cX0_move 49 = .ok (.iload 5, 2) := by decide +kernel
theorem dX0_move_51 : decode cX0_move 51 = .ok (.iload 7, 2) := by decide +kernel
theorem dX0_move_53 : decode cX0_move 53 = .ok (.iadd, 1) := by decide +kernel
theorem dX0_move_54 : decode cX0_move 54 = .ok (.iload_n 3, 1) := by decide +kernel
theorem dX0_move_55 : decode cX0_move 55 = .ok (.imul, 1) := by decide +kernel
theorem dX0_move_56 : decode cX0_move 56 = .ok (.iload 4, 2) := by decide +kernel
theorem dX0_move_58 : decode cX0_move 58 = .ok (.idiv, 1) := by decide +kernel
theorem dX0_move_59 : decode cX0_move 59 = .ok (.iload 5, 2) := by decide +kernel
theorem dX0_move_61 : decode cX0_move 61 = .ok (.iload_n 3, 1) := by decide +kernel
theorem dX0_move_62 : decode cX0_move 62 = .ok (.imul, 1) := by decide +kernel
theorem dX0_move_63 : decode cX0_move 63 = .ok (.iload 4, 2) := by decide +kernel
theorem dX0_move_65 : decode cX0_move 65 = .ok (.idiv, 1) := by decide +kernel
theorem dX0_move_66 : decode cX0_move 66 = .ok (.isub, 1) := by decide +kernel
theorem dX0_move_67 : decode cX0_move 67 = .ok (.istore 8, 2) := by decide +kernel
theorem dX0_move_69 : decode cX0_move 69 = .ok (.aload_n 0, 1) := by decide +kernel
theorem dX0_move_70 : decode cX0_move 70 = .ok (.getfield 19, 3) := by decide +kernel
theorem dX0_move_73 : decode cX0_move 73 = .ok (.iload_n 1, 1) := by decide +kernel
theorem dX0_move_74 : decode cX0_move 74 = .ok (.iload 6, 2) := by decide +kernel
theorem dX0_move_76 : decode cX0_move 76 = .ok (.invokestatic 84, 3) := by decide +kernel
theorem dX0_move_79 : decode cX0_move 79 = .ok (.dup2, 1) := by decide +kernel
theorem dX0_move_80 : decode cX0_move 80 = .ok (.iaload, 1) := by decide +kernel
theorem dX0_move_81 : decode cX0_move 81 = .ok (.iload 8, 2) := by decide +kernel
theorem dX0_move_83 : decode cX0_move 83 = .ok (.isub, 1) := by decide +kernel
theorem dX0_move_84 : decode cX0_move 84 = .ok (.iastore, 1) := by decide +kernel
theorem dX0_move_85 : decode cX0_move 85 = .ok (.aload_n 0, 1) := by decide +kernel
theorem dX0_move_86 : decode cX0_move 86 = .ok (.getfield 19, 3) := by decide +kernel
theorem dX0_move_89 : decode cX0_move 89 = .ok (.iload_n 2, 1) := by decide +kernel
theorem dX0_move_90 : decode cX0_move 90 = .ok (.iload 6, 2) := by decide +kernel
theorem dX0_move_92 : decode cX0_move 92 = .ok (.invokestatic 84, 3) := by decide +kernel
theorem dX0_move_95 : decode cX0_move 95 = .ok (.dup2, 1) := by decide +kernel
theorem dX0_move_96 : decode cX0_move 96 = .ok (.iaload, 1) := by decide +kernel
theorem dX0_move_97 : decode cX0_move 97 = .ok (.iload 8, 2) := by decide +kernel
theorem dX0_move_99 : decode cX0_move 99 = .ok (.iadd, 1) := by decide +kernel
theorem dX0_move_100 : decode cX0_move 100 = .ok (.iastore, 1) := by decide +kernel
theorem dX0_move_101 : decode cX0_move 101 = .ok (.iload 5, 2) := by decide +kernel
theorem dX0_move_103 : decode cX0_move 103 = .ok (.iload 7, 2) := by decide +kernel
theorem dX0_move_105 : decode cX0_move 105 = .ok (.iadd, 1) := by decide +kernel
theorem dX0_move_106 : decode cX0_move 106 = .ok (.istore 5, 2) := by decide +kernel
theorem dX0_move_108 : decode cX0_move 108 = .ok (.iinc 6 1, 3) := by decide +kernel
theorem dX0_move_111 : decode cX0_move 111 = .ok (.goto (-84), 3) := by decide +kernel
theorem dX0_move_114 : decode cX0_move 114 = .ok (.iconst 1, 1) := by decide +kernel
theorem dX0_move_115 : decode cX0_move 115 = .ok (.ireturn, 1) := by decide +kernel
theorem dX0_waste_0 : decode cX0_waste 0 = .ok (.iconst 0, 1) := by decide +kernel
theorem dX0_waste_1 : decode cX0_waste 1 = .ok (.istore_n 2, 1) := by decide +kernel
theorem dX0_waste_2 : decode cX0_waste 2 = .ok (.iconst 0, 1) := by decide +kernel
theorem dX0_waste_3 : decode cX0_waste 3 = .ok (.istore_n 3, 1) := by decide +kernel
theorem dX0_waste_4 : decode cX0_waste 4 = .ok (.iload_n 3, 1) := by decide +kernel
theorem dX0_waste_5 : decode cX0_waste 5 = .ok (.aload_n 0, 1) := by decide +kernel
theorem dX0_waste_6 : decode cX0_waste 6 = .ok (.getfield 68, 3) := by decide +kernel
theorem dX0_waste_9 : decode cX0_waste 9 = .ok (.if_icmp .ge 53, 3) := by decide +kernel
theorem dX0_waste_12 : decode cX0_waste 12 = .ok (.aload_n 0, 1) := by decide +kernel
theorem dX0_waste_13 : decode cX0_waste 13 = .ok (.getfield 19, 3) := by decide +kernel
theorem dX0_waste_16 : decode cX0_waste 16 = .ok (.iload_n 1, 1) := by decide +kernel
theorem dX0_waste_17 : decode cX0_waste 17 = .ok (.iload_n 3, 1) := by decide +kernel
theorem dX0_waste_18 : decode cX0_waste 18 = .ok (.invokestatic 84, 3) := by decide +kernel
theorem dX0_waste_21 : decode cX0_waste 21 = .ok (.iaload, 1) := by decide +kernel
theorem dX0_waste_22 : decode cX0_waste 22 = .ok (.istore 4, 2) := by decide +kernel
theorem dX0_waste_24 : decode cX0_waste 24 = .ok (.aload_n 0, 1) := by decide +kernel
theorem dX0_waste_25 : decode cX0_waste 25 = .ok (.getfield 19, 3) := by decide +kernel
theorem dX0_waste_28 : decode cX0_waste 28 = .ok (.iload_n 1, 1) := by decide +kernel
theorem dX0_waste_29 : decode cX0_waste 29 = .ok (.iload_n 3, 1) := by decide +kernel
theorem dX0_waste_30 : decode cX0_waste 30 = .ok (.invokestatic 84, 3) := by decide +kernel
theorem dX0_waste_33 : decode cX0_waste 33 = .ok (.iconst 0, 1) := by decide +kernel
theorem dX0_waste_34 : decode cX0_waste 34 = .ok (.iastore, 1) := by decide +kernel
theorem dX0_waste_35 : decode cX0_waste 35 = .ok (.aload_n 0, 1) := by decide +kernel
theorem dX0_waste_36 : decode cX0_waste 36 = .ok (.getfield 19, 3) := by decide +kernel
theorem dX0_waste_39 : decode cX0_waste 39 = .ok (.bipush 106, 2) := by decide +kernel
theorem dX0_waste_41 : decode cX0_waste 41 = .ok (.iload_n 3, 1) := by decide +kernel
theorem dX0_waste_42 : decode cX0_waste 42 = .ok (.invokestatic 84, 3) := by decide +kernel
theorem dX0_waste_45 : decode cX0_waste 45 = .ok (.dup2, 1) := by decide +kernel
theorem dX0_waste_46 : decode cX0_waste 46 = .ok (.iaload, 1) := by decide +kernel
theorem dX0_waste_47 : decode cX0_waste 47 = .ok (.iload 4, 2) := by decide +kernel
theorem dX0_waste_49 : decode cX0_waste 49 = .ok (.iadd, 1) := by decide +kernel
theorem dX0_waste_50 : decode cX0_waste 50 = .ok (.iastore, 1) := by decide +kernel
theorem dX0_waste_51 : decode cX0_waste 51 = .ok (.iload_n 2, 1) := by decide +kernel
theorem dX0_waste_52 : decode cX0_waste 52 = .ok (.iload 4, 2) := by decide +kernel
theorem dX0_waste_54 : decode cX0_waste 54 = .ok (.iadd, 1) := by decide +kernel
theorem dX0_waste_55 : decode cX0_waste 55 = .ok (.istore_n 2, 1) := by decide +kernel
theorem dX0_waste_56 : decode cX0_waste 56 = .ok (.iinc 3 1, 3) := by decide +kernel
theorem dX0_waste_59 : decode cX0_waste 59 = .ok (.goto (-55), 3) := by decide +kernel
theorem dX0_waste_62 : decode cX0_waste 62 = .ok (.iload_n 2, 1) := by decide +kernel
theorem dX0_waste_63 : decode cX0_waste 63 = .ok (.ireturn, 1) := by decide +kernel
theorem dX0_colourOfTube_0 : decode cX0_colourOfTube 0 = .ok (.aload_n 0, 1) := by decide +kernel
theorem dX0_colourOfTube_1 : decode cX0_colourOfTube 1 = .ok (.getfield 9, 3) := by decide +kernel
theorem dX0_colourOfTube_4 : decode cX0_colourOfTube 4 = .ok (.aload_n 0, 1) := by decide +kernel
theorem dX0_colourOfTube_5 : decode cX0_colourOfTube 5 = .ok (.getfield 13, 3) := by decide +kernel
theorem dX0_colourOfTube_8 : decode cX0_colourOfTube 8 = .ok (.iload_n 1, 1) := by decide +kernel
theorem dX0_colourOfTube_9 : decode cX0_colourOfTube 9 = .ok (.iaload, 1) := by decide +kernel
theorem dX0_colourOfTube_10 : decode cX0_colourOfTube 10 = .ok (.iconst 3, 1) := by decide +kernel
theorem dX0_colourOfTube_11 : decode cX0_colourOfTube 11 = .ok (.imul, 1) := by decide +kernel
theorem dX0_colourOfTube_12 : decode cX0_colourOfTube 12 = .ok (.iload_n 2, 1) := by decide +kernel
theorem dX0_colourOfTube_13 : decode cX0_colourOfTube 13 = .ok (.iadd, 1) := by decide +kernel
theorem dX0_colourOfTube_14 : decode cX0_colourOfTube 14 = .ok (.iaload, 1) := by decide +kernel
theorem dX0_colourOfTube_15 : decode cX0_colourOfTube 15 = .ok (.ireturn, 1) := by decide +kernel
theorem dX0_colourOfRow_0 : decode cX0_colourOfRow 0 = .ok (.iconst 0, 1) := by decide +kernel
theorem dX0_colourOfRow_1 : decode cX0_colourOfRow 1 = .ok (.istore_n 3, 1) := by decide +kernel
theorem dX0_colourOfRow_2 : decode cX0_colourOfRow 2 = .ok (.iconst 0, 1) := by decide +kernel
theorem dX0_colourOfRow_3 : decode cX0_colourOfRow 3 = .ok (.istore 4, 2) := by decide +kernel
theorem dX0_colourOfRow_5 : decode cX0_colourOfRow 5 = .ok (.iconst 0, 1) := by decide +kernel
theorem dX0_colourOfRow_6 : decode cX0_colourOfRow 6 = .ok (.istore 5, 2) := by decide +kernel
theorem dX0_colourOfRow_8 : decode cX0_colourOfRow 8 = .ok (.iload 5, 2) := by decide +kernel
theorem dX0_colourOfRow_10 : decode cX0_colourOfRow 10 = .ok (.aload_n 0, 1) := by decide +kernel
theorem dX0_colourOfRow_11 : decode cX0_colourOfRow 11 = .ok (.getfield 68, 3) := by decide +kernel
theorem dX0_colourOfRow_14 : decode cX0_colourOfRow 14 = .ok (.if_icmp .ge 42, 3) := by decide +kernel
theorem dX0_colourOfRow_17 : decode cX0_colourOfRow 17 = .ok (.aload_n 0, 1) := by decide +kernel
theorem dX0_colourOfRow_18 : decode cX0_colourOfRow 18 = .ok (.getfield 19, 3) := by decide +kernel
theorem dX0_colourOfRow_21 : decode cX0_colourOfRow 21 = .ok (.iload_n 1, 1) := by decide +kernel
theorem dX0_colourOfRow_22 : decode cX0_colourOfRow 22 = .ok (.iload 5, 2) := by decide +kernel
theorem dX0_colourOfRow_24 : decode cX0_colourOfRow 24 = .ok (.invokestatic 84, 3) := by decide +kernel
theorem dX0_colourOfRow_27 : decode cX0_colourOfRow 27 = .ok (.iaload, 1) := by decide +kernel
theorem dX0_colourOfRow_28 : decode cX0_colourOfRow 28 = .ok (.istore 6, 2) := by decide +kernel
theorem dX0_colourOfRow_30 : decode cX0_colourOfRow 30 = .ok (.iload_n 3, 1) := by decide +kernel
theorem dX0_colourOfRow_31 : decode cX0_colourOfRow 31 = .ok (.iload 6, 2) := by decide +kernel
theorem dX0_colourOfRow_33 : decode cX0_colourOfRow 33 = .ok (.iadd, 1) := by decide +kernel
theorem dX0_colourOfRow_34 : decode cX0_colourOfRow 34 = .ok (.istore_n 3, 1) := by decide +kernel
theorem dX0_colourOfRow_35 : decode cX0_colourOfRow 35 = .ok (.iload 4, 2) := by decide +kernel
theorem dX0_colourOfRow_37 : decode cX0_colourOfRow 37 = .ok (.iload 6, 2) := by decide +kernel
theorem dX0_colourOfRow_39 : decode cX0_colourOfRow 39 = .ok (.aload_n 0, 1) := by decide +kernel
theorem dX0_colourOfRow_40 : decode cX0_colourOfRow 40 = .ok (.iload 5, 2) := by decide +kernel
theorem dX0_colourOfRow_42 : decode cX0_colourOfRow 42 = .ok (.iload_n 2, 1) := by decide +kernel
theorem dX0_colourOfRow_43 : decode cX0_colourOfRow 43 = .ok (.invokevirtual 170, 3) := by decide +kernel
theorem dX0_colourOfRow_46 : decode cX0_colourOfRow 46 = .ok (.imul, 1) := by decide +kernel
theorem dX0_colourOfRow_47 : decode cX0_colourOfRow 47 = .ok (.iadd, 1) := by decide +kernel
theorem dX0_colourOfRow_48 : decode cX0_colourOfRow 48 = .ok (.istore 4, 2) := by decide +kernel
theorem dX0_colourOfRow_50 : decode cX0_colourOfRow 50 = .ok (.iinc 5 1, 3) := by decide +kernel
theorem dX0_colourOfRow_53 : decode cX0_colourOfRow 53 = .ok (.goto (-45), 3) := by decide +kernel
theorem dX0_colourOfRow_56 : decode cX0_colourOfRow 56 = .ok (.iload_n 3, 1) := by decide +kernel
theorem dX0_colourOfRow_57 : decode cX0_colourOfRow 57 = .ok (.ifCond .ne 7, 3) := by decide +kernel
theorem dX0_colourOfRow_60 : decode cX0_colourOfRow 60 = .ok (.iconst (-1), 1) := by decide +kernel
theorem dX0_colourOfRow_61 : decode cX0_colourOfRow 61 = .ok (.goto 7, 3) := by decide +kernel
theorem dX0_colourOfRow_64 : decode cX0_colourOfRow 64 = .ok (.iload 4, 2) := by decide +kernel
theorem dX0_colourOfRow_66 : decode cX0_colourOfRow 66 = .ok (.iload_n 3, 1) := by decide +kernel
theorem dX0_colourOfRow_67 : decode cX0_colourOfRow 67 = .ok (.idiv, 1) := by decide +kernel
theorem dX0_colourOfRow_68 : decode cX0_colourOfRow 68 = .ok (.ireturn, 1) := by decide +kernel
theorem dX0_gramsOfPigment_0 : decode cX0_gramsOfPigment 0 = .ok (.iconst 0, 1) := by decide +kernel
theorem dX0_gramsOfPigment_1 : decode cX0_gramsOfPigment 1 = .ok (.istore_n 3, 1) := by decide +kernel
theorem dX0_gramsOfPigment_2 : decode cX0_gramsOfPigment 2 = .ok (.iconst 0, 1) := by decide +kernel
theorem dX0_gramsOfPigment_3 : decode cX0_gramsOfPigment 3 = .ok (.istore 4, 2) := by decide +kernel
theorem dX0_gramsOfPigment_5 : decode cX0_gramsOfPigment 5 = .ok (.iload 4, 2) := by decide +kernel
theorem dX0_gramsOfPigment_7 : decode cX0_gramsOfPigment 7 = .ok (.aload_n 0, 1) := by decide +kernel
theorem dX0_gramsOfPigment_8 : decode cX0_gramsOfPigment 8 = .ok (.getfield 68, 3) := by decide +kernel
theorem dX0_gramsOfPigment_11 : decode cX0_gramsOfPigment 11 = .ok (.if_icmp .ge 34, 3) := by decide +kernel
theorem dX0_gramsOfPigment_14 : decode cX0_gramsOfPigment 14 = .ok (.aload_n 0, 1) := by decide +kernel
theorem dX0_gramsOfPigment_15 : decode cX0_gramsOfPigment 15 = .ok (.getfield 13, 3) := by decide +kernel
theorem dX0_gramsOfPigment_18 : decode cX0_gramsOfPigment 18 = .ok (.iload 4, 2) := by decide +kernel
theorem dX0_gramsOfPigment_20 : decode cX0_gramsOfPigment 20 = .ok (.iaload, 1) := by decide +kernel
theorem dX0_gramsOfPigment_21 : decode cX0_gramsOfPigment 21 = .ok (.iload_n 2, 1) := by decide +kernel
theorem dX0_gramsOfPigment_22 : decode cX0_gramsOfPigment 22 = .ok (.if_icmp .ne 17, 3) := by decide +kernel
theorem dX0_gramsOfPigment_25 : decode cX0_gramsOfPigment 25 = .ok (.iload_n 3, 1) := by decide +kernel
theorem dX0_gramsOfPigment_26 : decode cX0_gramsOfPigment 26 = .ok (.aload_n 0, 1) := by decide +kernel
theorem dX0_gramsOfPigment_27 : decode cX0_gramsOfPigment 27 = .ok (.getfield 19, 3) := by decide +kernel
theorem dX0_gramsOfPigment_30 : decode cX0_gramsOfPigment 30 = .ok (.iload_n 1, 1) := by decide +kernel
theorem dX0_gramsOfPigment_31 : decode cX0_gramsOfPigment 31 = .ok (.iload 4, 2) := by decide +kernel
theorem dX0_gramsOfPigment_33 : decode cX0_gramsOfPigment 33 = .ok (.invokestatic 84, 3) := by decide +kernel
theorem dX0_gramsOfPigment_36 : decode cX0_gramsOfPigment 36 = .ok (.iaload, 1) := by decide +kernel
theorem dX0_gramsOfPigment_37 : decode cX0_gramsOfPigment 37 = .ok (.iadd, 1) := by decide +kernel
theorem dX0_gramsOfPigment_38 : decode cX0_gramsOfPigment 38 = .ok (.istore_n 3, 1) := by decide +kernel
theorem dX0_gramsOfPigment_39 : decode cX0_gramsOfPigment 39 = .ok (.iinc 4 1, 3) := by decide +kernel
theorem dX0_gramsOfPigment_42 : decode cX0_gramsOfPigment 42 = .ok (.goto (-37), 3) := by decide +kernel
theorem dX0_gramsOfPigment_45 : decode cX0_gramsOfPigment 45 = .ok (.iload_n 3, 1) := by decide +kernel
theorem dX0_gramsOfPigment_46 : decode cX0_gramsOfPigment 46 = .ok (.ireturn, 1) := by decide +kernel
theorem dX0_mainPigmentOfRow_0 : decode cX0_mainPigmentOfRow 0 = .ok (.iconst (-1), 1) := by decide +kernel
theorem dX0_mainPigmentOfRow_1 : decode cX0_mainPigmentOfRow 1 = .ok (.istore_n 2, 1) := by decide +kernel
theorem dX0_mainPigmentOfRow_2 : decode cX0_mainPigmentOfRow 2 = .ok (.iconst 0, 1) := by decide +kernel
theorem dX0_mainPigmentOfRow_3 : decode cX0_mainPigmentOfRow 3 = .ok (.istore_n 3, 1) := by decide +kernel
theorem dX0_mainPigmentOfRow_4 : decode cX0_mainPigmentOfRow 4 = .ok (.iconst 0, 1) := by decide +kernel
theorem dX0_mainPigmentOfRow_5 : decode cX0_mainPigmentOfRow 5 = .ok (.istore 4, 2) := by decide +kernel
theorem dX0_mainPigmentOfRow_7 : decode cX0_mainPigmentOfRow 7 = .ok (.iload 4, 2) := by decide +kernel
theorem dX0_mainPigmentOfRow_9 : decode cX0_mainPigmentOfRow 9 = .ok (.aload_n 0, 1) := by decide +kernel
theorem dX0_mainPigmentOfRow_10 : decode cX0_mainPigmentOfRow 10 = .ok (.getfield 50, 3) := by decide +kernel
theorem dX0_mainPigmentOfRow_13 : decode cX0_mainPigmentOfRow 13 = .ok (.if_icmp .ge 30, 3) := by decide +kernel
theorem dX0_mainPigmentOfRow_16 : decode cX0_mainPigmentOfRow 16 = .ok (.aload_n 0, 1) := by decide +kernel
theorem dX0_mainPigmentOfRow_17 : decode cX0_mainPigmentOfRow 17 = .ok (.iload_n 1, 1) := by decide +kernel
theorem dX0_mainPigmentOfRow_18 : decode cX0_mainPigmentOfRow 18 = .ok (.iload 4, 2) := by decide +kernel
theorem dX0_mainPigmentOfRow_20 : decode cX0_mainPigmentOfRow 20 = .ok (.invokevirtual 173, 3) := by decide +kernel
theorem dX0_mainPigmentOfRow_23 : decode cX0_mainPigmentOfRow 23 = .ok (.istore 5, 2) := by decide +kernel
theorem dX0_mainPigmentOfRow_25 : decode cX0_mainPigmentOfRow 25 = .ok (.iload 5, 2) := by decide +kernel
theorem dX0_mainPigmentOfRow_27 : decode cX0_mainPigmentOfRow 27 = .ok (.iload_n 3, 1) := by decide +kernel
theorem dX0_mainPigmentOfRow_28 : decode cX0_mainPigmentOfRow 28 = .ok (.if_icmp .le 9, 3) := by decide +kernel
theorem dX0_mainPigmentOfRow_31 : decode cX0_mainPigmentOfRow 31 = .ok (.iload 4, 2) := by decide +kernel
theorem dX0_mainPigmentOfRow_33 : decode cX0_mainPigmentOfRow 33 = .ok (.istore_n 2, 1) := by decide +kernel
theorem dX0_mainPigmentOfRow_34 : decode cX0_mainPigmentOfRow 34 = .ok (.iload 5, 2) := by decide +kernel
theorem dX0_mainPigmentOfRow_36 : decode cX0_mainPigmentOfRow 36 = .ok (.istore_n 3, 1) := by decide +kernel
theorem dX0_mainPigmentOfRow_37 : decode cX0_mainPigmentOfRow 37 = .ok (.iinc 4 1, 3) := by decide +kernel
theorem dX0_mainPigmentOfRow_40 : decode cX0_mainPigmentOfRow 40 = .ok (.goto (-33), 3) := by decide +kernel
theorem dX0_mainPigmentOfRow_43 : decode cX0_mainPigmentOfRow 43 = .ok (.iload_n 2, 1) := by decide +kernel
theorem dX0_mainPigmentOfRow_44 : decode cX0_mainPigmentOfRow 44 = .ok (.ireturn, 1) := by decide +kernel
theorem dX0_mixed_0 : decode cX0_mixed 0 = .ok (.iload_n 3, 1) := by decide +kernel
theorem dX0_mixed_1 : decode cX0_mixed 1 = .ok (.aload_n 0, 1) := by decide +kernel
theorem dX0_mixed_2 : decode cX0_mixed 2 = .ok (.iload_n 1, 1) := by decide +kernel
theorem dX0_mixed_3 : decode cX0_mixed 3 = .ok (.iload 4, 2) := by decide +kernel
theorem dX0_mixed_5 : decode cX0_mixed 5 = .ok (.invokevirtual 170, 3) := by decide +kernel
theorem dX0_mixed_8 : decode cX0_mixed 8 = .ok (.imul, 1) := by decide +kernel
theorem dX0_mixed_9 : decode cX0_mixed 9 = .ok (.iconst 4, 1) := by decide +kernel
theorem dX0_mixed_10 : decode cX0_mixed 10 = .ok (.iload_n 3, 1) := by decide +kernel
theorem dX0_mixed_11 : decode cX0_mixed 11 = .ok (.isub, 1) := by decide +kernel
theorem dX0_mixed_12 : decode cX0_mixed 12 = .ok (.aload_n 0, 1) := by decide +kernel
theorem dX0_mixed_13 : decode cX0_mixed 13 = .ok (.iload_n 2, 1) := by decide +kernel
theorem dX0_mixed_14 : decode cX0_mixed 14 = .ok (.iload 4, 2) := by decide +kernel
theorem dX0_mixed_16 : decode cX0_mixed 16 = .ok (.invokevirtual 170, 3) := by decide +kernel
theorem dX0_mixed_19 : decode cX0_mixed 19 = .ok (.imul, 1) := by decide +kernel
theorem dX0_mixed_20 : decode cX0_mixed 20 = .ok (.iadd, 1) := by decide +kernel
theorem dX0_mixed_21 : decode cX0_mixed 21 = .ok (.iconst 4, 1) := by decide +kernel
theorem dX0_mixed_22 : decode cX0_mixed 22 = .ok (.idiv, 1) := by decide +kernel
theorem dX0_mixed_23 : decode cX0_mixed 23 = .ok (.ireturn, 1) := by decide +kernel
theorem dX0_square_0 : decode cX0_square 0 = .ok (.iload_n 0, 1) := by decide +kernel
theorem dX0_square_1 : decode cX0_square 1 = .ok (.iload_n 0, 1) := by decide +kernel
theorem dX0_square_2 : decode cX0_square 2 = .ok (.imul, 1) := by decide +kernel
theorem dX0_square_3 : decode cX0_square 3 = .ok (.ireturn, 1) := by decide +kernel
theorem dX0_isLent_0 : decode cX0_isLent 0 = .ok (.aload_n 0, 1) := by decide +kernel
theorem dX0_isLent_1 : decode cX0_isLent 1 = .ok (.getfield 31, 3) := by decide +kernel
theorem dX0_isLent_4 : decode cX0_isLent 4 = .ok (.iload_n 1, 1) := by decide +kernel
theorem dX0_isLent_5 : decode cX0_isLent 5 = .ok (.iaload, 1) := by decide +kernel
theorem dX0_isLent_6 : decode cX0_isLent 6 = .ok (.ifCond .le 7, 3) := by decide +kernel
theorem dX0_isLent_9 : decode cX0_isLent 9 = .ok (.iconst 1, 1) := by decide +kernel
theorem dX0_isLent_10 : decode cX0_isLent 10 = .ok (.goto 4, 3) := by decide +kernel
theorem dX0_isLent_13 : decode cX0_isLent 13 = .ok (.iconst 0, 1) := by decide +kernel
theorem dX0_isLent_14 : decode cX0_isLent 14 = .ok (.ireturn, 1) := by decide +kernel
theorem dX0_mainPigmentOf_0 : decode cX0_mainPigmentOf 0 = .ok (.aload_n 0, 1) := by decide +kernel
theorem dX0_mainPigmentOf_1 : decode cX0_mainPigmentOf 1 = .ok (.getfield 22, 3) := by decide +kernel
theorem dX0_mainPigmentOf_4 : decode cX0_mainPigmentOf 4 = .ok (.iload_n 1, 1) := by decide +kernel
theorem dX0_mainPigmentOf_5 : decode cX0_mainPigmentOf 5 = .ok (.iaload, 1) := by decide +kernel
theorem dX0_mainPigmentOf_6 : decode cX0_mainPigmentOf 6 = .ok (.istore_n 2, 1) := by decide +kernel
theorem dX0_mainPigmentOf_7 : decode cX0_mainPigmentOf 7 = .ok (.iload_n 2, 1) := by decide +kernel
theorem dX0_mainPigmentOf_8 : decode cX0_mainPigmentOf 8 = .ok (.ifCond .ne 7, 3) := by decide +kernel
theorem dX0_mainPigmentOf_11 : decode cX0_mainPigmentOf 11 = .ok (.iconst (-1), 1) := by decide +kernel
theorem dX0_mainPigmentOf_12 : decode cX0_mainPigmentOf 12 = .ok (.goto 14, 3) := by decide +kernel
theorem dX0_mainPigmentOf_15 : decode cX0_mainPigmentOf 15 = .ok (.aload_n 0, 1) := by decide +kernel
theorem dX0_mainPigmentOf_16 : decode cX0_mainPigmentOf 16 = .ok (.iload_n 1, 1) := by decide +kernel
theorem dX0_mainPigmentOf_17 : decode cX0_mainPigmentOf 17 = .ok (.iload_n 2, 1) := by decide +kernel
theorem dX0_mainPigmentOf_18 : decode cX0_mainPigmentOf 18 = .ok (.iconst 1, 1) := by decide +kernel
theorem dX0_mainPigmentOf_19 : decode cX0_mainPigmentOf 19 = .ok (.isub, 1) := by decide +kernel
theorem dX0_mainPigmentOf_20 : decode cX0_mainPigmentOf 20 = .ok (.invokestatic 116, 3) := by decide +kernel
theorem dX0_mainPigmentOf_23 : decode cX0_mainPigmentOf 23 = .ok (.invokevirtual 176, 3) := by decide +kernel
theorem dX0_mainPigmentOf_26 : decode cX0_mainPigmentOf 26 = .ok (.ireturn, 1) := by decide +kernel
theorem dX0_lookOf_0 : decode cX0_lookOf 0 = .ok (.aload_n 0, 1) := by decide +kernel
theorem dX0_lookOf_1 : decode cX0_lookOf 1 = .ok (.getfield 22, 3) := by decide +kernel
theorem dX0_lookOf_4 : decode cX0_lookOf 4 = .ok (.iload_n 1, 1) := by decide +kernel
theorem dX0_lookOf_5 : decode cX0_lookOf 5 = .ok (.iaload, 1) := by decide +kernel
theorem dX0_lookOf_6 : decode cX0_lookOf 6 = .ok (.istore_n 3, 1) := by decide +kernel
theorem dX0_lookOf_7 : decode cX0_lookOf 7 = .ok (.iload_n 3, 1) := by decide +kernel
theorem dX0_lookOf_8 : decode cX0_lookOf 8 = .ok (.ifCond .ne 7, 3) := by decide +kernel
theorem dX0_lookOf_11 : decode cX0_lookOf 11 = .ok (.iconst (-1), 1) := by decide +kernel
theorem dX0_lookOf_12 : decode cX0_lookOf 12 = .ok (.goto 15, 3) := by decide +kernel
theorem dX0_lookOf_15 : decode cX0_lookOf 15 = .ok (.aload_n 0, 1) := by decide +kernel
theorem dX0_lookOf_16 : decode cX0_lookOf 16 = .ok (.iload_n 1, 1) := by decide +kernel
theorem dX0_lookOf_17 : decode cX0_lookOf 17 = .ok (.iload_n 3, 1) := by decide +kernel
theorem dX0_lookOf_18 : decode cX0_lookOf 18 = .ok (.iconst 1, 1) := by decide +kernel
theorem dX0_lookOf_19 : decode cX0_lookOf 19 = .ok (.isub, 1) := by decide +kernel
theorem dX0_lookOf_20 : decode cX0_lookOf 20 = .ok (.invokestatic 116, 3) := by decide +kernel
theorem dX0_lookOf_23 : decode cX0_lookOf 23 = .ok (.iload_n 2, 1) := by decide +kernel
theorem dX0_lookOf_24 : decode cX0_lookOf 24 = .ok (.invokevirtual 137, 3) := by decide +kernel
theorem dX0_lookOf_27 : decode cX0_lookOf 27 = .ok (.ireturn, 1) := by decide +kernel
theorem dX0_valueOf_0 : decode cX0_valueOf 0 = .ok (.aload_n 0, 1) := by decide +kernel
theorem dX0_valueOf_1 : decode cX0_valueOf 1 = .ok (.iload_n 1, 1) := by decide +kernel
theorem dX0_valueOf_2 : decode cX0_valueOf 2 = .ok (.invokevirtual 179, 3) := by decide +kernel
theorem dX0_valueOf_5 : decode cX0_valueOf 5 = .ok (.istore_n 2, 1) := by decide +kernel
theorem dX0_valueOf_6 : decode cX0_valueOf 6 = .ok (.iconst 0, 1) := by decide +kernel
theorem dX0_valueOf_7 : decode cX0_valueOf 7 = .ok (.iload_n 2, 1) := by decide +kernel
theorem dX0_valueOf_8 : decode cX0_valueOf 8 = .ok (.aload_n 0, 1) := by decide +kernel
theorem dX0_valueOf_9 : decode cX0_valueOf 9 = .ok (.getfield 25, 3) := by decide +kernel
theorem dX0_valueOf_12 : decode cX0_valueOf 12 = .ok (.iload_n 1, 1) := by decide +kernel
theorem dX0_valueOf_13 : decode cX0_valueOf 13 = .ok (.iaload, 1) := by decide +kernel
theorem dX0_valueOf_14 : decode cX0_valueOf 14 = .ok (.iload_n 2, 1) := by decide +kernel
theorem dX0_valueOf_15 : decode cX0_valueOf 15 = .ok (.bipush 20, 2) := by decide +kernel
theorem dX0_valueOf_17 : decode cX0_valueOf 17 = .ok (.idiv, 1) := by decide +kernel
theorem dX0_valueOf_18 : decode cX0_valueOf 18 = .ok (.imul, 1) := by decide +kernel
theorem dX0_valueOf_19 : decode cX0_valueOf 19 = .ok (.isub, 1) := by decide +kernel
theorem dX0_valueOf_20 : decode cX0_valueOf 20 = .ok (.invokestatic 182, 3) := by decide +kernel
theorem dX0_valueOf_23 : decode cX0_valueOf 23 = .ok (.ireturn, 1) := by decide +kernel
theorem dX0_averagePriceOfAlike_0 : decode cX0_averagePriceOfAlike 0 = .ok (.aload_n 0, 1) := by decide +kernel
theorem dX0_averagePriceOfAlike_1 : decode cX0_averagePriceOfAlike 1 = .ok (.iload_n 1, 1) := by decide +kernel
theorem dX0_averagePriceOfAlike_2 : decode cX0_averagePriceOfAlike 2 = .ok (.invokevirtual 140, 3) := by decide +kernel
theorem dX0_averagePriceOfAlike_5 : decode cX0_averagePriceOfAlike 5 = .ok (.istore_n 2, 1) := by decide +kernel
theorem dX0_averagePriceOfAlike_6 : decode cX0_averagePriceOfAlike 6 = .ok (.iload_n 2, 1) := by decide +kernel
theorem dX0_averagePriceOfAlike_7 : decode cX0_averagePriceOfAlike 7 = .ok (.iconst (-1), 1) := by decide +kernel
theorem dX0_averagePriceOfAlike_8 : decode cX0_averagePriceOfAlike 8 = .ok (.if_icmp .ne 5, 3) := by decide +kernel
theorem dX0_averagePriceOfAlike_11 : decode cX0_averagePriceOfAlike 11 = .ok (.iconst 0, 1) := by decide +kernel
theorem dX0_averagePriceOfAlike_12 : decode cX0_averagePriceOfAlike 12 = .ok (.ireturn, 1) := by decide +kernel
theorem dX0_averagePriceOfAlike_13 : decode cX0_averagePriceOfAlike 13 = .ok (.iconst 0, 1) := by decide +kernel
theorem dX0_averagePriceOfAlike_14 : decode cX0_averagePriceOfAlike 14 = .ok (.istore_n 3, 1) := by decide +kernel
theorem dX0_averagePriceOfAlike_15 : decode cX0_averagePriceOfAlike 15 = .ok (.iconst 0, 1) := by decide +kernel
theorem dX0_averagePriceOfAlike_16 : decode cX0_averagePriceOfAlike 16 = .ok (.istore 4, 2) := by decide +kernel
theorem dX0_averagePriceOfAlike_18 : decode cX0_averagePriceOfAlike 18 = .ok (.iconst 0, 1) := by decide +kernel
theorem dX0_averagePriceOfAlike_19 : decode cX0_averagePriceOfAlike 19 = .ok (.istore 5, 2) := by decide +kernel
theorem dX0_averagePriceOfAlike_21 : decode cX0_averagePriceOfAlike 21 = .ok (.iload 5, 2) := by decide +kernel
theorem dX0_averagePriceOfAlike_23 : decode cX0_averagePriceOfAlike 23 = .ok (.aload_n 0, 1) := by decide +kernel
theorem dX0_averagePriceOfAlike_24 : decode cX0_averagePriceOfAlike 24 = .ok (.getfield 105, 3) := by decide +kernel
theorem dX0_averagePriceOfAlike_27 : decode cX0_averagePriceOfAlike 27 = .ok (.if_icmp .ge 42, 3) := by decide +kernel
theorem dX0_averagePriceOfAlike_30 : decode cX0_averagePriceOfAlike 30 = .ok (.aload_n 0, 1) := by decide +kernel
theorem dX0_averagePriceOfAlike_31 : decode cX0_averagePriceOfAlike 31 = .ok (.getfield 28, 3) := by decide +kernel
theorem dX0_averagePriceOfAlike_34 : decode cX0_averagePriceOfAlike 34 = .ok (.iload 5, 2) := by decide +kernel
theorem dX0_averagePriceOfAlike_36 : decode cX0_averagePriceOfAlike 36 = .ok (.iaload, 1) := by decide +kernel
theorem dX0_averagePriceOfAlike_37 : decode cX0_averagePriceOfAlike 37 = .ok (.ifCond .le 26, 3) := by decide +kernel
theorem dX0_averagePriceOfAlike_40 : decode cX0_averagePriceOfAlike 40 = .ok (.aload_n 0, 1) := by decide +kernel
theorem dX0_averagePriceOfAlike_41 : decode cX0_averagePriceOfAlike 41 = .ok (.iload 5, 2) := by decide +kernel
theorem dX0_averagePriceOfAlike_43 : decode cX0_averagePriceOfAlike 43 = .ok (.invokevirtual 140, 3) := by decide +kernel
theorem dX0_averagePriceOfAlike_46 : decode cX0_averagePriceOfAlike 46 = .ok (.iload_n 2, 1) := by decide +kernel
theorem dX0_averagePriceOfAlike_47 : decode cX0_averagePriceOfAlike 47 = .ok (.if_icmp .ne 16, 3) := by decide +kernel
theorem dX0_averagePriceOfAlike_50 : decode cX0_averagePriceOfAlike 50 = .ok (.iload_n 3, 1) := by decide +kernel
theorem dX0_averagePriceOfAlike_51 : decode cX0_averagePriceOfAlike 51 = .ok (.aload_n 0, 1) := by decide +kernel
theorem dX0_averagePriceOfAlike_52 : decode cX0_averagePriceOfAlike 52 = .ok (.getfield 28, 3) := by decide +kernel
theorem dX0_averagePriceOfAlike_55 : decode cX0_averagePriceOfAlike 55 = .ok (.iload 5, 2) := by decide +kernel
theorem dX0_averagePriceOfAlike_57 : decode cX0_averagePriceOfAlike 57 = .ok (.iaload, 1) := by decide +kernel
theorem dX0_averagePriceOfAlike_58 : decode cX0_averagePriceOfAlike 58 = .ok (.iadd, 1) := by decide +kernel
theorem dX0_averagePriceOfAlike_59 : decode cX0_averagePriceOfAlike 59 = .ok (.istore_n 3, 1) := by decide +kernel
theorem dX0_averagePriceOfAlike_60 : decode cX0_averagePriceOfAlike 60 = .ok (.iinc 4 1, 3) := by decide +kernel
theorem dX0_averagePriceOfAlike_63 : decode cX0_averagePriceOfAlike 63 = .ok (.iinc 5 1, 3) := by decide +kernel
theorem dX0_averagePriceOfAlike_66 : decode cX0_averagePriceOfAlike 66 = .ok (.goto (-45), 3) := by decide +kernel
theorem dX0_averagePriceOfAlike_69 : decode cX0_averagePriceOfAlike 69 = .ok (.iload 4, 2) := by decide +kernel
theorem dX0_averagePriceOfAlike_71 : decode cX0_averagePriceOfAlike 71 = .ok (.ifCond .ne 7, 3) := by decide +kernel
theorem dX0_averagePriceOfAlike_74 : decode cX0_averagePriceOfAlike 74 = .ok (.iconst 0, 1) := by decide +kernel
theorem dX0_averagePriceOfAlike_75 : decode cX0_averagePriceOfAlike 75 = .ok (.goto 7, 3) := by decide +kernel
theorem dX0_averagePriceOfAlike_78 : decode cX0_averagePriceOfAlike 78 = .ok (.iload_n 3, 1) := by decide +kernel
theorem dX0_averagePriceOfAlike_79 : decode cX0_averagePriceOfAlike 79 = .ok (.iload 4, 2) := by decide +kernel
theorem dX0_averagePriceOfAlike_81 : decode cX0_averagePriceOfAlike 81 = .ok (.idiv, 1) := by decide +kernel
theorem dX0_averagePriceOfAlike_82 : decode cX0_averagePriceOfAlike 82 = .ok (.ireturn, 1) := by decide +kernel
theorem dX0_passForLoan_0 : decode cX0_passForLoan 0 = .ok (.iload_n 2, 1) := by decide +kernel
theorem dX0_passForLoan_1 : decode cX0_passForLoan 1 = .ok (.aload_n 0, 1) := by decide +kernel
theorem dX0_passForLoan_2 : decode cX0_passForLoan 2 = .ok (.getfield 31, 3) := by decide +kernel
theorem dX0_passForLoan_5 : decode cX0_passForLoan 5 = .ok (.iload_n 1, 1) := by decide +kernel
theorem dX0_passForLoan_6 : decode cX0_passForLoan 6 = .ok (.iaload, 1) := by decide +kernel
theorem dX0_passForLoan_7 : decode cX0_passForLoan 7 = .ok (.invokestatic 187, 3) := by decide +kernel
theorem dX0_passForLoan_10 : decode cX0_passForLoan 10 = .ok (.istore_n 3, 1) := by decide +kernel
theorem dX0_passForLoan_11 : decode cX0_passForLoan 11 = .ok (.aload_n 0, 1) := by decide +kernel
theorem dX0_passForLoan_12 : decode cX0_passForLoan 12 = .ok (.getfield 34, 3) := by decide +kernel
theorem dX0_passForLoan_15 : decode cX0_passForLoan 15 = .ok (.iload_n 1, 1) := by decide +kernel
theorem dX0_passForLoan_16 : decode cX0_passForLoan 16 = .ok (.iaload, 1) := by decide +kernel
theorem dX0_passForLoan_17 : decode cX0_passForLoan 17 = .ok (.istore 4, 2) := by decide +kernel
theorem dX0_passForLoan_19 : decode cX0_passForLoan 19 = .ok (.aload_n 0, 1) := by decide +kernel
theorem dX0_passForLoan_20 : decode cX0_passForLoan 20 = .ok (.getfield 40, 3) := by decide +kernel
theorem dX0_passForLoan_23 : decode cX0_passForLoan 23 = .ok (.iload 4, 2) := by decide +kernel
theorem dX0_passForLoan_25 : decode cX0_passForLoan 25 = .ok (.iaload, 1) := by decide +kernel
theorem dX0_passForLoan_26 : decode cX0_passForLoan 26 = .ok (.bipush 50, 2) := by decide +kernel
theorem dX0_passForLoan_28 : decode cX0_passForLoan 28 = .ok (.isub, 1) := by decide +kernel
theorem dX0_passForLoan_29 : decode cX0_passForLoan 29 = .ok (.invokestatic 190, 3) := by decide +kernel
theorem dX0_passForLoan_32 : decode cX0_passForLoan 32 = .ok (.bipush 10, 2) := by decide +kernel
theorem dX0_passForLoan_34 : decode cX0_passForLoan 34 = .ok (.if_icmp .le 13, 3) := by decide +kernel
theorem dX0_passForLoan_37 : decode cX0_passForLoan 37 = .ok (.aload_n 0, 1) := by decide +kernel
theorem dX0_passForLoan_38 : decode cX0_passForLoan 38 = .ok (.getfield 25, 3) := by decide +kernel
theorem dX0_passForLoan_41 : decode cX0_passForLoan 41 = .ok (.iload_n 1, 1) := by decide +kernel
theorem dX0_passForLoan_42 : decode cX0_passForLoan 42 = .ok (.dup2, 1) := by decide +kernel
theorem dX0_passForLoan_43 : decode cX0_passForLoan 43 = .ok (.iaload, 1) := by decide +kernel
theorem dX0_passForLoan_44 : decode cX0_passForLoan 44 = .ok (.iload_n 3, 1) := by decide +kernel
theorem dX0_passForLoan_45 : decode cX0_passForLoan 45 = .ok (.iadd, 1) := by decide +kernel
theorem dX0_passForLoan_46 : decode cX0_passForLoan 46 = .ok (.iastore, 1) := by decide +kernel
theorem dX0_passForLoan_47 : decode cX0_passForLoan 47 = .ok (.aload_n 0, 1) := by decide +kernel
theorem dX0_passForLoan_48 : decode cX0_passForLoan 48 = .ok (.getfield 43, 3) := by decide +kernel
theorem dX0_passForLoan_51 : decode cX0_passForLoan 51 = .ok (.iload 4, 2) := by decide +kernel
theorem dX0_passForLoan_53 : decode cX0_passForLoan 53 = .ok (.dup2, 1) := by decide +kernel
theorem dX0_passForLoan_54 : decode cX0_passForLoan 54 = .ok (.iaload, 1) := by decide +kernel
theorem dX0_passForLoan_55 : decode cX0_passForLoan 55 = .ok (.iload_n 3, 1) := by decide +kernel
theorem dX0_passForLoan_56 : decode cX0_passForLoan 56 = .ok (.aload_n 0, 1) := by decide +kernel
theorem dX0_passForLoan_57 : decode cX0_passForLoan 57 = .ok (.getfield 37, 3) := by decide +kernel
theorem dX0_passForLoan_60 : decode cX0_passForLoan 60 = .ok (.iload_n 1, 1) := by decide +kernel
theorem dX0_passForLoan_61 : decode cX0_passForLoan 61 = .ok (.iaload, 1) := by decide +kernel
theorem dX0_passForLoan_62 : decode cX0_passForLoan 62 = .ok (.imul, 1) := by decide +kernel
theorem dX0_passForLoan_63 : decode cX0_passForLoan 63 = .ok (.iadd, 1) := by decide +kernel
theorem dX0_passForLoan_64 : decode cX0_passForLoan 64 = .ok (.iastore, 1) := by decide +kernel
theorem dX0_passForLoan_65 : decode cX0_passForLoan 65 = .ok (.aload_n 0, 1) := by decide +kernel
theorem dX0_passForLoan_66 : decode cX0_passForLoan 66 = .ok (.getfield 31, 3) := by decide +kernel
theorem dX0_passForLoan_69 : decode cX0_passForLoan 69 = .ok (.iload_n 1, 1) := by decide +kernel
theorem dX0_passForLoan_70 : decode cX0_passForLoan 70 = .ok (.dup2, 1) := by decide +kernel
theorem dX0_passForLoan_71 : decode cX0_passForLoan 71 = .ok (.iaload, 1) := by decide +kernel
theorem dX0_passForLoan_72 : decode cX0_passForLoan 72 = .ok (.iload_n 3, 1) := by decide +kernel
theorem dX0_passForLoan_73 : decode cX0_passForLoan 73 = .ok (.isub, 1) := by decide +kernel
theorem dX0_passForLoan_74 : decode cX0_passForLoan 74 = .ok (.iastore, 1) := by decide +kernel
theorem dX0_passForLoan_75 : decode cX0_passForLoan 75 = .ok (.return_, 1) := by decide +kernel
theorem dJ9_abs_0f7a4_0 : decode cJ9_abs_0f7a4 0 = .ok (.iload_n 0, 1) := by decide +kernel
theorem dJ9_abs_0f7a4_1 : decode cJ9_abs_0f7a4 1 = .ok (.ifCond .ge 8, 3) := by decide +kernel
theorem dJ9_abs_0f7a4_4 : decode cJ9_abs_0f7a4 4 = .ok (.iload_n 0, 1) := by decide +kernel
theorem dJ9_abs_0f7a4_5 : decode cJ9_abs_0f7a4 5 = .ok (.ineg, 1) := by decide +kernel
theorem dJ9_abs_0f7a4_6 : decode cJ9_abs_0f7a4 6 = .ok (.goto 4, 3) := by decide +kernel
theorem dJ9_abs_0f7a4_9 : decode cJ9_abs_0f7a4 9 = .ok (.iload_n 0, 1) := by decide +kernel
theorem dJ9_abs_0f7a4_10 : decode cJ9_abs_0f7a4 10 = .ok (.ireturn, 1) := by decide +kernel
theorem dJ9_max_7cf53_0 : decode cJ9_max_7cf53 0 = .ok (.iload_n 0, 1) := by decide +kernel
theorem dJ9_max_7cf53_1 : decode cJ9_max_7cf53 1 = .ok (.iload_n 1, 1) := by decide +kernel
theorem dJ9_max_7cf53_2 : decode cJ9_max_7cf53 2 = .ok (.if_icmp .lt 7, 3) := by decide +kernel
theorem dJ9_max_7cf53_5 : decode cJ9_max_7cf53 5 = .ok (.iload_n 0, 1) := by decide +kernel
theorem dJ9_max_7cf53_6 : decode cJ9_max_7cf53 6 = .ok (.goto 4, 3) := by decide +kernel
theorem dJ9_max_7cf53_9 : decode cJ9_max_7cf53 9 = .ok (.iload_n 1, 1) := by decide +kernel
theorem dJ9_max_7cf53_10 : decode cJ9_max_7cf53 10 = .ok (.ireturn, 1) := by decide +kernel
theorem dJ9_min_7cf53_0 : decode cJ9_min_7cf53 0 = .ok (.iload_n 0, 1) := by decide +kernel
theorem dJ9_min_7cf53_1 : decode cJ9_min_7cf53 1 = .ok (.iload_n 1, 1) := by decide +kernel
theorem dJ9_min_7cf53_2 : decode cJ9_min_7cf53 2 = .ok (.if_icmp .gt 7, 3) := by decide +kernel
theorem dJ9_min_7cf53_5 : decode cJ9_min_7cf53 5 = .ok (.iload_n 0, 1) := by decide +kernel
theorem dJ9_min_7cf53_6 : decode cJ9_min_7cf53 6 = .ok (.goto 4, 3) := by decide +kernel
theorem dJ9_min_7cf53_9 : decode cJ9_min_7cf53 9 = .ok (.iload_n 1, 1) := by decide +kernel
theorem dJ9_min_7cf53_10 : decode cJ9_min_7cf53 10 = .ok (.ireturn, 1) := by decide +kernel
