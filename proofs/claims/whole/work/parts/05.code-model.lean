theorem dX1_init_0 : decode cX1_init 0 = .ok (.aload_n 0, 1) := by decide +kernel
theorem dX1_init_1 : decode cX1_init 1 = .ok (.invokespecial 1, 3) := by decide +kernel
theorem dX1_init_4 : decode cX1_init 4 = .ok (.aload_n 0, 1) := by decide +kernel
theorem dX1_init_5 : decode cX1_init 5 = .ok (.bipush 18, 2) := by decide +kernel
theorem dX1_init_7 : decode cX1_init 7 = .ok (.newarray .int, 2) := by decide +kernel
theorem dX1_init_9 : decode cX1_init 9 = .ok (.putfield 7, 3) := by decide +kernel
theorem dX1_init_12 : decode cX1_init 12 = .ok (.aload_n 0, 1) := by decide +kernel
theorem dX1_init_13 : decode cX1_init 13 = .ok (.bipush 12, 2) := by decide +kernel
theorem dX1_init_15 : decode cX1_init 15 = .ok (.newarray .int, 2) := by decide +kernel
theorem dX1_init_17 : decode cX1_init 17 = .ok (.putfield 13, 3) := by decide +kernel
theorem dX1_init_20 : decode cX1_init 20 = .ok (.aload_n 0, 1) := by decide +kernel
theorem dX1_init_21 : decode cX1_init 21 = .ok (.bipush 12, 2) := by decide +kernel
theorem dX1_init_23 : decode cX1_init 23 = .ok (.newarray .int, 2) := by decide +kernel
theorem dX1_init_25 : decode cX1_init 25 = .ok (.putfield 16, 3) := by decide +kernel
theorem dX1_init_28 : decode cX1_init 28 = .ok (.aload_n 0, 1) := by decide +kernel
theorem dX1_init_29 : decode cX1_init 29 = .ok (.bipush 12, 2) := by decide +kernel
theorem dX1_init_31 : decode cX1_init 31 = .ok (.newarray .int, 2) := by decide +kernel
theorem dX1_init_33 : decode cX1_init 33 = .ok (.putfield 19, 3) := by decide +kernel
theorem dX1_init_36 : decode cX1_init 36 = .ok (.aload_n 0, 1) := by decide +kernel
theorem dX1_init_37 : decode cX1_init 37 = .ok (.bipush 120, 2) := by decide +kernel
theorem dX1_init_39 : decode cX1_init 39 = .ok (.newarray .int, 2) := by decide +kernel
theorem dX1_init_41 : decode cX1_init 41 = .ok (.putfield 22, 3) := by decide +kernel
theorem dX1_init_44 : decode cX1_init 44 = .ok (.aload_n 0, 1) := by decide +kernel
theorem dX1_init_45 : decode cX1_init 45 = .ok (.bipush 8, 2) := by decide +kernel
theorem dX1_init_47 : decode cX1_init 47 = .ok (.newarray .int, 2) := by decide +kernel
theorem dX1_init_49 : decode cX1_init 49 = .ok (.putfield 25, 3) := by decide +kernel
theorem dX1_init_52 : decode cX1_init 52 = .ok (.aload_n 0, 1) := by decide +kernel
theorem dX1_init_53 : decode cX1_init 53 = .ok (.sipush 1152, 3) := by decide +kernel
theorem dX1_init_56 : decode cX1_init 56 = .ok (.newarray .int, 2) := by decide +kernel
theorem dX1_init_58 : decode cX1_init 58 = .ok (.putfield 28, 3) := by decide +kernel
theorem dX1_init_61 : decode cX1_init 61 = .ok (.aload_n 0, 1) := by decide +kernel
theorem dX1_init_62 : decode cX1_init 62 = .ok (.bipush 8, 2) := by decide +kernel
theorem dX1_init_64 : decode cX1_init 64 = .ok (.newarray .int, 2) := by decide +kernel
theorem dX1_init_66 : decode cX1_init 66 = .ok (.putfield 31, 3) := by decide +kernel
theorem dX1_init_69 : decode cX1_init 69 = .ok (.aload_n 0, 1) := by decide +kernel
theorem dX1_init_70 : decode cX1_init 70 = .ok (.bipush 8, 2) := by decide +kernel
theorem dX1_init_72 : decode cX1_init 72 = .ok (.newarray .int, 2) := by decide +kernel
theorem dX1_init_74 : decode cX1_init 74 = .ok (.putfield 34, 3) := by decide +kernel
theorem dX1_init_77 : decode cX1_init 77 = .ok (.aload_n 0, 1) := by decide +kernel
theorem dX1_init_78 : decode cX1_init 78 = .ok (.bipush 8, 2) := by decide +kernel
theorem dX1_init_80 : decode cX1_init 80 = .ok (.newarray .int, 2) := by decide +kernel
theorem dX1_init_82 : decode cX1_init 82 = .ok (.putfield 37, 3) := by decide +kernel
theorem dX1_init_85 : decode cX1_init 85 = .ok (.aload_n 0, 1) := by decide +kernel
theorem dX1_init_86 : decode cX1_init 86 = .ok (.bipush 8, 2) := by decide +kernel
theorem dX1_init_88 : decode cX1_init 88 = .ok (.newarray .int, 2) := by decide +kernel
theorem dX1_init_90 : decode cX1_init 90 = .ok (.putfield 40, 3) := by decide +kernel
theorem dX1_init_93 : decode cX1_init 93 = .ok (.aload_n 0, 1) := by decide +kernel
theorem dX1_init_94 : decode cX1_init 94 = .ok (.bipush 8, 2) := by decide +kernel
theorem dX1_init_96 : decode cX1_init 96 = .ok (.newarray .int, 2) := by decide +kernel
theorem dX1_init_98 : decode cX1_init 98 = .ok (.putfield 43, 3) := by decide +kernel
theorem dX1_init_101 : decode cX1_init 101 = .ok (.aload_n 0, 1) := by decide +kernel
theorem dX1_init_102 : decode cX1_init 102 = .ok (.iconst 4, 1) := by decide +kernel
theorem dX1_init_103 : decode cX1_init 103 = .ok (.newarray .int, 2) := by decide +kernel
theorem dX1_init_105 : decode cX1_init 105 = .ok (.putfield 46, 3) := by decide +kernel
theorem dX1_init_108 : decode cX1_init 108 = .ok (.aload_n 0, 1) := by decide +kernel
theorem dX1_init_109 : decode cX1_init 109 = .ok (.iconst 4, 1) := by decide +kernel
theorem dX1_init_110 : decode cX1_init 110 = .ok (.newarray .int, 2) := by decide +kernel
theorem dX1_init_112 : decode cX1_init 112 = .ok (.putfield 49, 3) := by decide +kernel
theorem dX1_init_115 : decode cX1_init 115 = .ok (.aload_n 0, 1) := by decide +kernel
theorem dX1_init_116 : decode cX1_init 116 = .ok (.bipush 12, 2) := by decide +kernel
theorem dX1_init_118 : decode cX1_init 118 = .ok (.newarray .int, 2) := by decide +kernel
theorem dX1_init_120 : decode cX1_init 120 = .ok (.putfield 52, 3) := by decide +kernel
theorem dX1_init_123 : decode cX1_init 123 = .ok (.aload_n 0, 1) := by decide +kernel
theorem dX1_init_124 : decode cX1_init 124 = .ok (.bipush 6, 2) := by decide +kernel
theorem dX1_init_126 : decode cX1_init 126 = .ok (.newarray .int, 2) := by decide +kernel
theorem dX1_init_128 : decode cX1_init 128 = .ok (.putfield 55, 3) := by decide +kernel
theorem dX1_init_131 : decode cX1_init 131 = .ok (.iconst 0, 1) := by decide +kernel
theorem dX1_init_132 : decode cX1_init 132 = .ok (.istore_n 1, 1) := by decide +kernel
theorem dX1_init_133 : decode cX1_init 133 = .ok (.iload_n 1, 1) := by decide +kernel
theorem dX1_init_134 : decode cX1_init 134 = .ok (.iconst 4, 1) := by decide +kernel
theorem dX1_init_135 : decode cX1_init 135 = .ok (.if_icmp .ge 17, 3) := by decide +kernel
theorem dX1_init_138 : decode cX1_init 138 = .ok (.aload_n 0, 1) := by decide +kernel
theorem dX1_init_139 : decode cX1_init 139 = .ok (.getfield 46, 3) := by decide +kernel
theorem dX1_init_142 : decode cX1_init 142 = .ok (.iload_n 1, 1) := by decide +kernel
theorem dX1_init_143 : decode cX1_init 143 = .ok (.bipush 50, 2) := by decide +kernel
theorem dX1_init_145 : decode cX1_init 145 = .ok (.iastore, 1) := by decide +kernel
theorem dX1_init_146 : decode cX1_init 146 = .ok (.iinc 1 1, 3) := by decide +kernel
theorem dX1_init_149 : decode cX1_init 149 = .ok (.goto (-16), 3) := by decide +kernel
theorem dX1_init_152 : decode cX1_init 152 = .ok (.iconst 0, 1) := by decide +kernel
theorem dX1_init_153 : decode cX1_init 153 = .ok (.istore_n 1, 1) := by decide +kernel
theorem dX1_init_154 : decode cX1_init 154 = .ok (.iload_n 1, 1) := by decide +kernel
theorem dX1_init_155 : decode cX1_init 155 = .ok (.bipush 8, 2) := by decide +kernel
theorem dX1_init_157 : decode cX1_init 157 = .ok (.if_icmp .ge 16, 3) := by decide +kernel
theorem dX1_init_160 : decode cX1_init 160 = .ok (.aload_n 0, 1) := by decide +kernel
theorem dX1_init_161 : decode cX1_init 161 = .ok (.getfield 37, 3) := by decide +kernel
theorem dX1_init_164 : decode cX1_init 164 = .ok (.iload_n 1, 1) := by decide +kernel
theorem dX1_init_165 : decode cX1_init 165 = .ok (.iconst (-1), 1) := by decide +kernel
theorem dX1_init_166 : decode cX1_init 166 = .ok (.iastore, 1) := by decide +kernel
theorem dX1_init_167 : decode cX1_init 167 = .ok (.iinc 1 1, 3) := by decide +kernel
theorem dX1_init_170 : decode cX1_init 170 = .ok (.goto (-16), 3) := by decide +kernel
theorem dX1_init_173 : decode cX1_init 173 = .ok (.return_, 1) := by decide +kernel
theorem dX1_thrown_0 : decode cX1_thrown 0 = .ok (.aload_n 0, 1) := by decide +kernel
theorem dX1_thrown_1 : decode cX1_thrown 1 = .ok (.getfield 58, 3) := by decide +kernel
theorem dX1_thrown_4 : decode cX1_thrown 4 = .ok (.ireturn, 1) := by decide +kernel
theorem dX1_in_0 : decode cX1_in 0 = .ok (.iload_n 0, 1) := by decide +kernel
theorem dX1_in_1 : decode cX1_in 1 = .ok (.iload_n 1, 1) := by decide +kernel
theorem dX1_in_2 : decode cX1_in 2 = .ok (.if_icmp .lt 12, 3) := by decide +kernel
theorem dX1_in_5 : decode cX1_in 5 = .ok (.iload_n 0, 1) := by decide +kernel
theorem dX1_in_6 : decode cX1_in 6 = .ok (.iload_n 2, 1) := by decide +kernel
theorem dX1_in_7 : decode cX1_in 7 = .ok (.if_icmp .gt 7, 3) := by decide +kernel
theorem dX1_in_10 : decode cX1_in 10 = .ok (.iconst 1, 1) := by decide +kernel
theorem dX1_in_11 : decode cX1_in 11 = .ok (.goto 4, 3) := by decide +kernel
theorem dX1_in_14 : decode cX1_in 14 = .ok (.iconst 0, 1) := by decide +kernel
theorem dX1_in_15 : decode cX1_in 15 = .ok (.ireturn, 1) := by decide +kernel
theorem dX1_areShades_0 : decode cX1_areShades 0 = .ok (.iload_n 0, 1) := by decide +kernel
theorem dX1_areShades_1 : decode cX1_areShades 1 = .ok (.iconst 0, 1) := by decide +kernel
theorem dX1_areShades_2 : decode cX1_areShades 2 = .ok (.sipush 255, 3) := by decide +kernel
theorem dX1_areShades_5 : decode cX1_areShades 5 = .ok (.invokestatic 62, 3) := by decide +kernel
theorem dX1_areShades_8 : decode cX1_areShades 8 = .ok (.ifCond .eq 29, 3) := by decide +kernel
theorem dX1_areShades_11 : decode cX1_areShades 11 = .ok (.iload_n 1, 1) := by decide +kernel
theorem dX1_areShades_12 : decode cX1_areShades 12 = .ok (.iconst 0, 1) := by decide +kernel
theorem dX1_areShades_13 : decode cX1_areShades 13 = .ok (.sipush 255, 3) := by decide +kernel
theorem dX1_areShades_16 : decode cX1_areShades 16 = .ok (.invokestatic 62, 3) := by decide +kernel
theorem dX1_areShades_19 : decode cX1_areShades 19 = .ok (.ifCond .eq 18, 3) := by decide +kernel
theorem dX1_areShades_22 : decode cX1_areShades 22 = .ok (.iload_n 2, 1) := by decide +kernel
theorem dX1_areShades_23 : decode cX1_areShades 23 = .ok (.iconst 0, 1) := by decide +kernel
theorem dX1_areShades_24 : decode cX1_areShades 24 = .ok (.sipush 255, 3) := by decide +kernel
theorem dX1_areShades_27 : decode cX1_areShades 27 = .ok (.invokestatic 62, 3) := by decide +kernel
theorem dX1_areShades_30 : decode cX1_areShades 30 = .ok (.ifCond .eq 7, 3) := by decide +kernel
theorem dX1_areShades_33 : decode cX1_areShades 33 = .ok (.iconst 1, 1) := by decide +kernel
theorem dX1_areShades_34 : decode cX1_areShades 34 = .ok (.goto 4, 3) := by decide +kernel
theorem dX1_areShades_37 : decode cX1_areShades 37 = .ok (.iconst 0, 1) := by decide +kernel
theorem dX1_areShades_38 : decode cX1_areShades 38 = .ok (.ireturn, 1) := by decide +kernel
theorem dX1_isTube_0 : decode cX1_isTube 0 = .ok (.iload_n 1, 1) := by decide +kernel
theorem dX1_isTube_1 : decode cX1_isTube 1 = .ok (.iconst 0, 1) := by decide +kernel
theorem dX1_isTube_2 : decode cX1_isTube 2 = .ok (.aload_n 0, 1) := by decide +kernel
theorem dX1_isTube_3 : decode cX1_isTube 3 = .ok (.getfield 66, 3) := by decide +kernel
theorem dX1_isTube_6 : decode cX1_isTube 6 = .ok (.iconst 1, 1) := by decide +kernel
theorem dX1_isTube_7 : decode cX1_isTube 7 = .ok (.isub, 1) := by decide +kernel
theorem dX1_isTube_8 : decode cX1_isTube 8 = .ok (.invokestatic 62, 3) := by decide +kernel
theorem dX1_isTube_11 : decode cX1_isTube 11 = .ok (.ireturn, 1) := by decide +kernel
theorem dX1_isPot_0 : decode cX1_isPot 0 = .ok (.iload_n 1, 1) := by decide +kernel
theorem dX1_isPot_1 : decode cX1_isPot 1 = .ok (.iconst 0, 1) := by decide +kernel
theorem dX1_isPot_2 : decode cX1_isPot 2 = .ok (.aload_n 0, 1) := by decide +kernel
theorem dX1_isPot_3 : decode cX1_isPot 3 = .ok (.getfield 69, 3) := by decide +kernel
theorem dX1_isPot_6 : decode cX1_isPot 6 = .ok (.iconst 1, 1) := by decide +kernel
theorem dX1_isPot_7 : decode cX1_isPot 7 = .ok (.isub, 1) := by decide +kernel
theorem dX1_isPot_8 : decode cX1_isPot 8 = .ok (.invokestatic 62, 3) := by decide +kernel
theorem dX1_isPot_11 : decode cX1_isPot 11 = .ok (.ireturn, 1) := by decide +kernel
theorem dX1_isPicture_0 : decode cX1_isPicture 0 = .ok (.iload_n 1, 1) := by decide +kernel
theorem dX1_isPicture_1 : decode cX1_isPicture 1 = .ok (.iconst 0, 1) := by decide +kernel
theorem dX1_isPicture_2 : decode cX1_isPicture 2 = .ok (.aload_n 0, 1) := by decide +kernel
theorem dX1_isPicture_3 : decode cX1_isPicture 3 = .ok (.getfield 72, 3) := by decide +kernel
theorem dX1_isPicture_6 : decode cX1_isPicture 6 = .ok (.iconst 1, 1) := by decide +kernel
theorem dX1_isPicture_7 : decode cX1_isPicture 7 = .ok (.isub, 1) := by decide +kernel
theorem dX1_isPicture_8 : decode cX1_isPicture 8 = .ok (.invokestatic 62, 3) := by decide +kernel
theorem dX1_isPicture_11 : decode cX1_isPicture 11 = .ok (.ireturn, 1) := by decide +kernel
theorem dX1_isHouse_0 : decode cX1_isHouse 0 = .ok (.iload_n 0, 1) := by decide +kernel
theorem dX1_isHouse_1 : decode cX1_isHouse 1 = .ok (.iconst 0, 1) := by decide +kernel
theorem dX1_isHouse_2 : decode cX1_isHouse 2 = .ok (.iconst 3, 1) := by decide +kernel
theorem dX1_isHouse_3 : decode cX1_isHouse 3 = .ok (.invokestatic 62, 3) := by decide +kernel
theorem dX1_isHouse_6 : decode cX1_isHouse 6 = .ok (.ireturn, 1) := by decide +kernel
theorem dX1_pigment_0 : decode cX1_pigment 0 = .ok (.aload_n 0, 1) := by decide +kernel
theorem dX1_pigment_1 : decode cX1_pigment 1 = .ok (.iload_n 1, 1) := by decide +kernel
theorem dX1_pigment_2 : decode cX1_pigment 2 = .ok (.iload_n 2, 1) := by decide +kernel
theorem dX1_pigment_3 : decode cX1_pigment 3 = .ok (.iload_n 3, 1) := by decide +kernel
theorem dX1_pigment_4 : decode cX1_pigment 4 = .ok (.invokestatic 75, 3) := by decide +kernel
theorem dX1_pigment_7 : decode cX1_pigment 7 = .ok (.ifCond .ne 7, 3) := by decide +kernel
theorem dX1_pigment_10 : decode cX1_pigment 10 = .ok (.iconst 1, 1) := by decide +kernel
theorem dX1_pigment_11 : decode cX1_pigment 11 = .ok (.goto 17, 3) := by decide +kernel
theorem dX1_pigment_14 : decode cX1_pigment 14 = .ok (.aload_n 0, 1) := by decide +kernel
theorem dX1_pigment_15 : decode cX1_pigment 15 = .ok (.getfield 78, 3) := by decide +kernel
theorem dX1_pigment_18 : decode cX1_pigment 18 = .ok (.bipush 6, 2) := by decide +kernel
theorem dX1_pigment_20 : decode cX1_pigment 20 = .ok (.if_icmp .ne 7, 3) := by decide +kernel
theorem dX1_pigment_23 : decode cX1_pigment 23 = .ok (.iconst 2, 1) := by decide +kernel
theorem dX1_pigment_24 : decode cX1_pigment 24 = .ok (.goto 4, 3) := by decide +kernel
theorem dX1_pigment_27 : decode cX1_pigment 27 = .ok (.iconst 0, 1) := by decide +kernel
theorem dX1_pigment_28 : decode cX1_pigment 28 = .ok (.putfield 58, 3) := by decide +kernel
theorem dX1_pigment_31 : decode cX1_pigment 31 = .ok (.aload_n 0, 1) := by decide +kernel
theorem dX1_pigment_32 : decode cX1_pigment 32 = .ok (.getfield 58, 3) := by decide +kernel
theorem dX1_pigment_35 : decode cX1_pigment 35 = .ok (.ifCond .le 5, 3) := by decide +kernel
theorem dX1_pigment_38 : decode cX1_pigment 38 = .ok (.iconst 0, 1) := by decide +kernel
theorem dX1_pigment_39 : decode cX1_pigment 39 = .ok (.ireturn, 1) := by decide +kernel
theorem dX1_pigment_40 : decode cX1_pigment 40 = .ok (.aload_n 0, 1) := by decide +kernel
theorem dX1_pigment_41 : decode cX1_pigment 41 = .ok (.getfield 7, 3) := by decide +kernel
theorem dX1_pigment_44 : decode cX1_pigment 44 = .ok (.iconst 3, 1) := by decide +kernel
theorem dX1_pigment_45 : decode cX1_pigment 45 = .ok (.aload_n 0, 1) := by decide +kernel
theorem dX1_pigment_46 : decode cX1_pigment 46 = .ok (.getfield 78, 3) := by decide +kernel
theorem dX1_pigment_49 : decode cX1_pigment 49 = .ok (.imul, 1) := by decide +kernel
theorem dX1_pigment_50 : decode cX1_pigment 50 = .ok (.iload_n 1, 1) := by decide +kernel
theorem dX1_pigment_51 : decode cX1_pigment 51 = .ok (.iastore, 1) := by decide +kernel
theorem dX1_pigment_52 : decode cX1_pigment 52 = .ok (.aload_n 0, 1) := by decide +kernel
theorem dX1_pigment_53 : decode cX1_pigment 53 = .ok (.getfield 7, 3) := by decide +kernel
theorem dX1_pigment_56 : decode cX1_pigment 56 = .ok (.iconst 3, 1) := by decide +kernel
theorem dX1_pigment_57 : decode cX1_pigment 57 = .ok (.aload_n 0, 1) := by decide +kernel
theorem dX1_pigment_58 : decode cX1_pigment 58 = .ok (.getfield 78, 3) := by decide +kernel
theorem dX1_pigment_61 : decode cX1_pigment 61 = .ok (.imul, 1) := by decide +kernel
theorem dX1_pigment_62 : decode cX1_pigment 62 = .ok (.iconst 1, 1) := by decide +kernel
theorem dX1_pigment_63 : decode cX1_pigment 63 = .ok (.iadd, 1) := by decide +kernel
theorem dX1_pigment_64 : decode cX1_pigment 64 = .ok (.iload_n 2, 1) := by decide +kernel
theorem dX1_pigment_65 : decode cX1_pigment 65 = .ok (.iastore, 1) := by decide +kernel
theorem dX1_pigment_66 : decode cX1_pigment 66 = .ok (.aload_n 0, 1) := by decide +kernel
theorem dX1_pigment_67 : decode cX1_pigment 67 = .ok (.getfield 7, 3) := by decide +kernel
theorem dX1_pigment_70 : decode cX1_pigment 70 = .ok (.iconst 3, 1) := by decide +kernel
theorem dX1_pigment_71 : decode cX1_pigment 71 = .ok (.aload_n 0, 1) := by decide +kernel
theorem dX1_pigment_72 : decode cX1_pigment 72 = .ok (.getfield 78, 3) := by decide +kernel
theorem dX1_pigment_75 : decode cX1_pigment 75 = .ok (.imul, 1) := by decide +kernel
theorem dX1_pigment_76 : decode cX1_pigment 76 = .ok (.iconst 2, 1) := by decide +kernel
theorem dX1_pigment_77 : decode cX1_pigment 77 = .ok (.iadd, 1) := by decide +kernel
theorem dX1_pigment_78 : decode cX1_pigment 78 = .ok (.iload_n 3, 1) := by decide +kernel
theorem dX1_pigment_79 : decode cX1_pigment 79 = .ok (.iastore, 1) := by decide +kernel
theorem dX1_pigment_80 : decode cX1_pigment 80 = .ok (.aload_n 0, 1) := by decide +kernel
theorem dX1_pigment_81 : decode cX1_pigment 81 = .ok (.dup, 1) := by decide +kernel
theorem dX1_pigment_82 : decode cX1_pigment 82 = .ok (.getfield 78, 3) := by decide +kernel
theorem dX1_pigment_85 : decode cX1_pigment 85 = .ok (.iconst 1, 1) := by decide +kernel
theorem dX1_pigment_86 : decode cX1_pigment 86 = .ok (.iadd, 1) := by decide +kernel
theorem dX1_pigment_87 : decode cX1_pigment 87 = .ok (.putfield 78, 3) := by decide +kernel
theorem dX1_pigment_90 : decode cX1_pigment 90 = .ok (.aload_n 0, 1) := by decide +kernel
theorem dX1_pigment_91 : decode cX1_pigment 91 = .ok (.getfield 78, 3) := by decide +kernel
theorem dX1_pigment_94 : decode cX1_pigment 94 = .ok (.iconst 1, 1) := by decide +kernel
theorem dX1_pigment_95 : decode cX1_pigment 95 = .ok (.isub, 1) := by decide +kernel
theorem dX1_pigment_96 : decode cX1_pigment 96 = .ok (.ireturn, 1) := by decide +kernel
theorem dX1_tube_0 : decode cX1_tube 0 = .ok (.aload_n 0, 1) := by decide +kernel
theorem dX1_tube_1 : decode cX1_tube 1 = .ok (.iload_n 1, 1) := by decide +kernel
theorem dX1_tube_2 : decode cX1_tube 2 = .ok (.iconst 0, 1) := by decide +kernel
theorem dX1_tube_3 : decode cX1_tube 3 = .ok (.aload_n 0, 1) := by decide +kernel
theorem dX1_tube_4 : decode cX1_tube 4 = .ok (.getfield 78, 3) := by decide +kernel
theorem dX1_tube_7 : decode cX1_tube 7 = .ok (.iconst 1, 1) := by decide +kernel
theorem dX1_tube_8 : decode cX1_tube 8 = .ok (.isub, 1) := by decide +kernel
theorem dX1_tube_9 : decode cX1_tube 9 = .ok (.invokestatic 62, 3) := by decide +kernel
theorem dX1_tube_12 : decode cX1_tube 12 = .ok (.ifCond .ne 7, 3) := by decide +kernel
theorem dX1_tube_15 : decode cX1_tube 15 = .ok (.iconst 1, 1) := by decide +kernel
theorem dX1_tube_16 : decode cX1_tube 16 = .ok (.goto 32, 3) := by decide +kernel
theorem dX1_tube_19 : decode cX1_tube 19 = .ok (.iload_n 2, 1) := by decide +kernel
theorem dX1_tube_20 : decode cX1_tube 20 = .ok (.iconst 1, 1) := by decide +kernel
theorem dX1_tube_21 : decode cX1_tube 21 = .ok (.sipush 1000, 3) := by decide +kernel
theorem dX1_tube_24 : decode cX1_tube 24 = .ok (.invokestatic 62, 3) := by decide +kernel
theorem dX1_tube_27 : decode cX1_tube 27 = .ok (.ifCond .ne 7, 3) := by decide +kernel
theorem dX1_tube_30 : decode cX1_tube 30 = .ok (.iconst 2, 1) := by decide +kernel
theorem dX1_tube_31 : decode cX1_tube 31 = .ok (.goto 17, 3) := by decide +kernel
theorem dX1_tube_34 : decode cX1_tube 34 = .ok (.aload_n 0, 1) := by decide +kernel
theorem dX1_tube_35 : decode cX1_tube 35 = .ok (.getfield 66, 3) := by decide +kernel
theorem dX1_tube_38 : decode cX1_tube 38 = .ok (.bipush 12, 2) := by decide +kernel
theorem dX1_tube_40 : decode cX1_tube 40 = .ok (.if_icmp .ne 7, 3) := by decide +kernel
theorem dX1_tube_43 : decode cX1_tube 43 = .ok (.iconst 3, 1) := by decide +kernel
theorem dX1_tube_44 : decode cX1_tube 44 = .ok (.goto 4, 3) := by decide +kernel
theorem dX1_tube_47 : decode cX1_tube 47 = .ok (.iconst 0, 1) := by decide +kernel
theorem dX1_tube_48 : decode cX1_tube 48 = .ok (.putfield 58, 3) := by decide +kernel
theorem dX1_tube_51 : decode cX1_tube 51 = .ok (.aload_n 0, 1) := by decide +kernel
theorem dX1_tube_52 : decode cX1_tube 52 = .ok (.getfield 58, 3) := by decide +kernel
theorem dX1_tube_55 : decode cX1_tube 55 = .ok (.ifCond .le 5, 3) := by decide +kernel
theorem dX1_tube_58 : decode cX1_tube 58 = .ok (.iconst 0, 1) := by decide +kernel
theorem dX1_tube_59 : decode cX1_tube 59 = .ok (.ireturn, 1) := by decide +kernel
theorem dX1_tube_60 : decode cX1_tube 60 = .ok (.aload_n 0, 1) := by decide +kernel
theorem dX1_tube_61 : decode cX1_tube 61 = .ok (.getfield 13, 3) := by decide +kernel
theorem dX1_tube_64 : decode cX1_tube 64 = .ok (.aload_n 0, 1) := by decide +kernel
theorem dX1_tube_65 : decode cX1_tube 65 = .ok (.getfield 66, 3) := by decide +kernel
theorem dX1_tube_68 : decode cX1_tube 68 = .ok (.iload_n 1, 1) := by decide +kernel
theorem dX1_tube_69 : decode cX1_tube 69 = .ok (.iastore, 1) := by decide +kernel
theorem dX1_tube_70 : decode cX1_tube 70 = .ok (.aload_n 0, 1) := by decide +kernel
theorem dX1_tube_71 : decode cX1_tube 71 = .ok (.getfield 16, 3) := by decide +kernel
theorem dX1_tube_74 : decode cX1_tube 74 = .ok (.aload_n 0, 1) := by decide +kernel
theorem dX1_tube_75 : decode cX1_tube 75 = .ok (.getfield 66, 3) := by decide +kernel
theorem dX1_tube_78 : decode cX1_tube 78 = .ok (.iload_n 2, 1) := by decide +kernel
theorem dX1_tube_79 : decode cX1_tube 79 = .ok (.iastore, 1) := by decide +kernel
theorem dX1_tube_80 : decode cX1_tube 80 = .ok (.aload_n 0, 1) := by decide +kernel
theorem dX1_tube_81 : decode cX1_tube 81 = .ok (.dup, 1) := by decide +kernel
theorem dX1_tube_82 : decode cX1_tube 82 = .ok (.getfield 66, 3) := by decide +kernel
theorem dX1_tube_85 : decode cX1_tube 85 = .ok (.iconst 1, 1) := by decide +kernel
theorem dX1_tube_86 : decode cX1_tube 86 = .ok (.iadd, 1) := by decide +kernel
theorem dX1_tube_87 : decode cX1_tube 87 = .ok (.putfield 66, 3) := by decide +kernel
theorem dX1_tube_90 : decode cX1_tube 90 = .ok (.aload_n 0, 1) := by decide +kernel
theorem dX1_tube_91 : decode cX1_tube 91 = .ok (.getfield 66, 3) := by decide +kernel
theorem dX1_tube_94 : decode cX1_tube 94 = .ok (.iconst 1, 1) := by decide +kernel
theorem dX1_tube_95 : decode cX1_tube 95 = .ok (.isub, 1) := by decide +kernel
theorem dX1_tube_96 : decode cX1_tube 96 = .ok (.ireturn, 1) := by decide +kernel
theorem dX1_pot_0 : decode cX1_pot 0 = .ok (.aload_n 0, 1) := by decide +kernel
theorem dX1_pot_1 : decode cX1_pot 1 = .ok (.aload_n 0, 1) := by decide +kernel
theorem dX1_pot_2 : decode cX1_pot 2 = .ok (.getfield 69, 3) := by decide +kernel
theorem dX1_pot_5 : decode cX1_pot 5 = .ok (.bipush 10, 2) := by decide +kernel
theorem dX1_pot_7 : decode cX1_pot 7 = .ok (.if_icmp .ne 7, 3) := by decide +kernel
theorem dX1_pot_10 : decode cX1_pot 10 = .ok (.iconst 1, 1) := by decide +kernel
theorem dX1_pot_11 : decode cX1_pot 11 = .ok (.goto 4, 3) := by decide +kernel
theorem dX1_pot_14 : decode cX1_pot 14 = .ok (.iconst 0, 1) := by decide +kernel
theorem dX1_pot_15 : decode cX1_pot 15 = .ok (.putfield 58, 3) := by decide +kernel
theorem dX1_pot_18 : decode cX1_pot 18 = .ok (.aload_n 0, 1) := by decide +kernel
theorem dX1_pot_19 : decode cX1_pot 19 = .ok (.getfield 58, 3) := by decide +kernel
theorem dX1_pot_22 : decode cX1_pot 22 = .ok (.ifCond .le 5, 3) := by decide +kernel
theorem dX1_pot_25 : decode cX1_pot 25 = .ok (.iconst 0, 1) := by decide +kernel
theorem dX1_pot_26 : decode cX1_pot 26 = .ok (.ireturn, 1) := by decide +kernel
theorem dX1_pot_27 : decode cX1_pot 27 = .ok (.aload_n 0, 1) := by decide +kernel
theorem dX1_pot_28 : decode cX1_pot 28 = .ok (.dup, 1) := by decide +kernel
theorem dX1_pot_29 : decode cX1_pot 29 = .ok (.getfield 69, 3) := by decide +kernel
theorem dX1_pot_32 : decode cX1_pot 32 = .ok (.iconst 1, 1) := by decide +kernel
theorem dX1_pot_33 : decode cX1_pot 33 = .ok (.iadd, 1) := by decide +kernel
theorem dX1_pot_34 : decode cX1_pot 34 = .ok (.putfield 69, 3) := by decide +kernel
theorem dX1_pot_37 : decode cX1_pot 37 = .ok (.aload_n 0, 1) := by decide +kernel
theorem dX1_pot_38 : decode cX1_pot 38 = .ok (.getfield 69, 3) := by decide +kernel
theorem dX1_pot_41 : decode cX1_pot 41 = .ok (.iconst 1, 1) := by decide +kernel
theorem dX1_pot_42 : decode cX1_pot 42 = .ok (.isub, 1) := by decide +kernel
theorem dX1_pot_43 : decode cX1_pot 43 = .ok (.ireturn, 1) := by decide +kernel
theorem dX1_gramsOf_0 : decode cX1_gramsOf 0 = .ok (.iconst 0, 1) := by decide +kernel
theorem dX1_gramsOf_1 : decode cX1_gramsOf 1 = .ok (.istore_n 2, 1) := by decide +kernel
theorem dX1_gramsOf_2 : decode cX1_gramsOf 2 = .ok (.iconst 0, 1) := by decide +kernel
theorem dX1_gramsOf_3 : decode cX1_gramsOf 3 = .ok (.istore_n 3, 1) := by decide +kernel
theorem dX1_gramsOf_4 : decode cX1_gramsOf 4 = .ok (.iload_n 3, 1) := by decide +kernel
theorem dX1_gramsOf_5 : decode cX1_gramsOf 5 = .ok (.bipush 12, 2) := by decide +kernel
theorem dX1_gramsOf_7 : decode cX1_gramsOf 7 = .ok (.if_icmp .ge 23, 3) := by decide +kernel
theorem dX1_gramsOf_10 : decode cX1_gramsOf 10 = .ok (.iload_n 2, 1) := by decide +kernel
theorem dX1_gramsOf_11 : decode cX1_gramsOf 11 = .ok (.aload_n 0, 1) := by decide +kernel
theorem dX1_gramsOf_12 : decode cX1_gramsOf 12 = .ok (.getfield 22, 3) := by decide +kernel
theorem dX1_gramsOf_15 : decode cX1_gramsOf 15 = .ok (.bipush 12, 2) := by decide +kernel
theorem dX1_gramsOf_17 : decode cX1_gramsOf 17 = .ok (.iload_n 1, 1) := by decide +kernel
theorem dX1_gramsOf_18 : decode cX1_gramsOf 18 = .ok (.imul, 1) := by decide +kernel
theorem dX1_gramsOf_19 : decode cX1_gramsOf 19 = .ok (.iload_n 3, 1) := by decide +kernel
theorem dX1_gramsOf_20 : decode cX1_gramsOf 20 = .ok (.iadd, 1) := by decide +kernel
theorem dX1_gramsOf_21 : decode cX1_gramsOf 21 = .ok (.iaload, 1) := by decide +kernel
theorem dX1_gramsOf_22 : decode cX1_gramsOf 22 = .ok (.iadd, 1) := by decide +kernel
theorem dX1_gramsOf_23 : decode cX1_gramsOf 23 = .ok (.istore_n 2, 1) := by decide +kernel
theorem dX1_gramsOf_24 : decode cX1_gramsOf 24 = .ok (.iinc 3 1, 3) := by decide +kernel
theorem dX1_gramsOf_27 : decode cX1_gramsOf 27 = .ok (.goto (-23), 3) := by decide +kernel
theorem dX1_gramsOf_30 : decode cX1_gramsOf 30 = .ok (.iload_n 2, 1) := by decide +kernel
theorem dX1_gramsOf_31 : decode cX1_gramsOf 31 = .ok (.ireturn, 1) := by decide +kernel
theorem dX1_squeeze_0 : decode cX1_squeeze 0 = .ok (.aload_n 0, 1) := by decide +kernel
theorem dX1_squeeze_1 : decode cX1_squeeze 1 = .ok (.aload_n 0, 1) := by decide +kernel
theorem dX1_squeeze_2 : decode cX1_squeeze 2 = .ok (.iload_n 1, 1) := by decide +kernel
theorem dX1_squeeze_3 : decode cX1_squeeze 3 = .ok (.invokevirtual 81, 3) := by decide +kernel
theorem dX1_squeeze_6 : decode cX1_squeeze 6 = .ok (.ifCond .eq 11, 3) := by decide +kernel
theorem dX1_squeeze_9 : decode cX1_squeeze 9 = .ok (.aload_n 0, 1) := by decide +kernel
theorem dX1_squeeze_10 : decode cX1_squeeze 10 = .ok (.iload_n 2, 1) := by decide +kernel
theorem dX1_squeeze_11 : decode cX1_squeeze 11 = .ok (.invokevirtual 85, 3) := by decide +kernel
theorem dX1_squeeze_14 : decode cX1_squeeze 14 = .ok (.ifCond .ne 7, 3) := by decide +kernel
theorem dX1_squeeze_17 : decode cX1_squeeze 17 = .ok (.iconst 1, 1) := by decide +kernel
theorem dX1_squeeze_18 : decode cX1_squeeze 18 = .ok (.goto 33, 3) := by decide +kernel
theorem dX1_squeeze_21 : decode cX1_squeeze 21 = .ok (.iload_n 3, 1) := by decide +kernel
theorem dX1_squeeze_22 : decode cX1_squeeze 22 = .ok (.iconst 1, 1) := by decide +kernel
theorem dX1_squeeze_23 : decode cX1_squeeze 23 = .ok (.sipush 1000, 3) := by decide +kernel
theorem dX1_squeeze_26 : decode cX1_squeeze 26 = .ok (.invokestatic 62, 3) := by decide +kernel
theorem dX1_squeeze_29 : decode cX1_squeeze 29 = .ok (.ifCond .ne 7, 3) := by decide +kernel
theorem dX1_squeeze_32 : decode cX1_squeeze 32 = .ok (.iconst 2, 1) := by decide +kernel
theorem dX1_squeeze_33 : decode cX1_squeeze 33 = .ok (.goto 18, 3) := by decide +kernel
theorem dX1_squeeze_36 : decode cX1_squeeze 36 = .ok (.aload_n 0, 1) := by decide +kernel
theorem dX1_squeeze_37 : decode cX1_squeeze 37 = .ok (.getfield 16, 3) := by decide +kernel
theorem dX1_squeeze_40 : decode cX1_squeeze 40 = .ok (.iload_n 2, 1) := by decide +kernel
theorem dX1_squeeze_41 : decode cX1_squeeze 41 = .ok (.iaload, 1) := by decide +kernel
theorem dX1_squeeze_42 : decode cX1_squeeze 42 = .ok (.iload_n 3, 1) := by decide +kernel
theorem dX1_squeeze_43 : decode cX1_squeeze 43 = .ok (.if_icmp .ge 7, 3) := by decide +kernel
theorem dX1_squeeze_46 : decode cX1_squeeze 46 = .ok (.iconst 3, 1) := by decide +kernel
theorem dX1_squeeze_47 : decode cX1_squeeze 47 = .ok (.goto 4, 3) := by decide +kernel
theorem dX1_squeeze_50 : decode cX1_squeeze 50 = .ok (.iconst 0, 1) := by decide +kernel
theorem dX1_squeeze_51 : decode cX1_squeeze 51 = .ok (.putfield 58, 3) := by decide +kernel
theorem dX1_squeeze_54 : decode cX1_squeeze 54 = .ok (.aload_n 0, 1) := by decide +kernel
theorem dX1_squeeze_55 : decode cX1_squeeze 55 = .ok (.getfield 58, 3) := by decide +kernel
theorem dX1_squeeze_58 : decode cX1_squeeze 58 = .ok (.ifCond .le 5, 3) := by decide +kernel
theorem dX1_squeeze_61 : decode cX1_squeeze 61 = .ok (.iconst 0, 1) := by decide +kernel
theorem dX1_squeeze_62 : decode cX1_squeeze 62 = .ok (.ireturn, 1) := by decide +kernel
theorem dX1_squeeze_63 : decode cX1_squeeze 63 = .ok (.aload_n 0, 1) := by decide +kernel
theorem dX1_squeeze_64 : decode cX1_squeeze 64 = .ok (.getfield 16, 3) := by decide +kernel
theorem dX1_squeeze_67 : decode cX1_squeeze 67 = .ok (.iload_n 2, 1) := by decide +kernel
theorem dX1_squeeze_68 : decode cX1_squeeze 68 = .ok (.dup2, 1) := by decide +kernel
theorem dX1_squeeze_69 : decode cX1_squeeze 69 = .ok (.iaload, 1) := by decide +kernel
theorem dX1_squeeze_70 : decode cX1_squeeze 70 = .ok (.iload_n 3, 1) := by decide +kernel
theorem dX1_squeeze_71 : decode cX1_squeeze 71 = .ok (.isub, 1) := by decide +kernel
theorem dX1_squeeze_72 : decode cX1_squeeze 72 = .ok (.iastore, 1) := by decide +kernel
theorem dX1_squeeze_73 : decode cX1_squeeze 73 = .ok (.aload_n 0, 1) := by decide +kernel
theorem dX1_squeeze_74 : decode cX1_squeeze 74 = .ok (.getfield 22, 3) := by decide +kernel
theorem dX1_squeeze_77 : decode cX1_squeeze 77 = .ok (.bipush 12, 2) := by decide +kernel
theorem dX1_squeeze_79 : decode cX1_squeeze 79 = .ok (.iload_n 1, 1) := by decide +kernel
theorem dX1_squeeze_80 : decode cX1_squeeze 80 = .ok (.imul, 1) := by decide +kernel
theorem dX1_squeeze_81 : decode cX1_squeeze 81 = .ok (.iload_n 2, 1) := by decide +kernel
theorem dX1_squeeze_82 : decode cX1_squeeze 82 = .ok (.iadd, 1) := by decide +kernel
theorem dX1_squeeze_83 : decode cX1_squeeze 83 = .ok (.dup2, 1) := by decide +kernel
theorem dX1_squeeze_84 : decode cX1_squeeze 84 = .ok (.iaload, 1) := by decide +kernel
theorem dX1_squeeze_85 : decode cX1_squeeze 85 = .ok (.iload_n 3, 1) := by decide +kernel
theorem dX1_squeeze_86 : decode cX1_squeeze 86 = .ok (.iadd, 1) := by decide +kernel
theorem dX1_squeeze_87 : decode cX1_squeeze 87 = .ok (.iastore, 1) := by decide +kernel
theorem dX1_squeeze_88 : decode cX1_squeeze 88 = .ok (.aload_n 0, 1) := by decide +kernel
theorem dX1_squeeze_89 : decode cX1_squeeze 89 = .ok (.getfield 16, 3) := by decide +kernel
theorem dX1_squeeze_92 : decode cX1_squeeze 92 = .ok (.iload_n 2, 1) := by decide +kernel
theorem dX1_squeeze_93 : decode cX1_squeeze 93 = .ok (.iaload, 1) := by decide +kernel
theorem dX1_squeeze_94 : decode cX1_squeeze 94 = .ok (.ireturn, 1) := by decide +kernel
theorem dX1_flows_0 : decode cX1_flows 0 = .ok (.aload_n 0, 1) := by decide +kernel
theorem dX1_flows_1 : decode cX1_flows 1 = .ok (.iload_n 1, 1) := by decide +kernel
theorem dX1_flows_2 : decode cX1_flows 2 = .ok (.invokevirtual 88, 3) := by decide +kernel
theorem dX1_flows_5 : decode cX1_flows 5 = .ok (.istore_n 3, 1) := by decide +kernel
theorem dX1_flows_6 : decode cX1_flows 6 = .ok (.iconst 0, 1) := by decide +kernel
theorem dX1_flows_7 : decode cX1_flows 7 = .ok (.istore 4, 2) := by decide +kernel
theorem dX1_flows_9 : decode cX1_flows 9 = .ok (.iconst 0, 1) := by decide +kernel
theorem dX1_flows_10 : decode cX1_flows 10 = .ok (.istore 5, 2) := by decide +kernel
theorem dX1_flows_12 : decode cX1_flows 12 = .ok (.iload 5, 2) := by decide +kernel
theorem dX1_flows_14 : decode cX1_flows 14 = .ok (.bipush 12, 2) := by decide +kernel
theorem dX1_flows_16 : decode cX1_flows 16 = .ok (.if_icmp .ge 53, 3) := by decide +kernel
theorem dX1_flows_19 : decode cX1_flows 19 = .ok (.aload_n 0, 1) := by decide +kernel
theorem dX1_flows_20 : decode cX1_flows 20 = .ok (.getfield 22, 3) := by decide +kernel
theorem dX1_flows_23 : decode cX1_flows 23 = .ok (.bipush 12, 2) := by decide +kernel
theorem dX1_flows_25 : decode cX1_flows 25 = .ok (.iload_n 1, 1) := by decide +kernel
theorem dX1_flows_26 : decode cX1_flows 26 = .ok (.imul, 1) := by decide +kernel
theorem dX1_flows_27 : decode cX1_flows 27 = .ok (.iload 5, 2) := by decide +kernel
theorem dX1_flows_29 : decode cX1_flows 29 = .ok (.iadd, 1) := by decide +kernel
theorem dX1_flows_30 : decode cX1_flows 30 = .ok (.iaload, 1) := by decide +kernel
theorem dX1_flows_31 : decode cX1_flows 31 = .ok (.istore 6, 2) := by decide +kernel
theorem dX1_flows_33 : decode cX1_flows 33 = .ok (.aload_n 0, 1) := by decide +kernel
theorem dX1_flows_34 : decode cX1_flows 34 = .ok (.getfield 52, 3) := by decide +kernel
theorem dX1_flows_37 : decode cX1_flows 37 = .ok (.iload 5, 2) := by decide +kernel
theorem dX1_flows_39 : decode cX1_flows 39 = .ok (.iload 4, 2) := by decide +kernel
theorem dX1_flows_41 : decode cX1_flows 41 = .ok (.iload 6, 2) := by decide +kernel
theorem dX1_flows_43 : decode cX1_flows 43 = .ok (.iadd, 1) := by decide +kernel
theorem dX1_flows_44 : decode cX1_flows 44 = .ok (.iload_n 2, 1) := by decide +kernel
theorem dX1_flows_45 : decode cX1_flows 45 = .ok (.imul, 1) := by decide +kernel
theorem dX1_flows_46 : decode cX1_flows 46 = .ok (.iload_n 3, 1) := by decide +kernel
theorem dX1_flows_47 : decode cX1_flows 47 = .ok (.idiv, 1) := by decide +kernel
theorem dX1_flows_48 : decode cX1_flows 48 = .ok (.iload 4, 2) := by decide +kernel
theorem dX1_flows_50 : decode cX1_flows 50 = .ok (.iload_n 2, 1) := by decide +kernel
theorem dX1_flows_51 : decode cX1_flows 51 = .ok (.imul, 1) := by decide +kernel
theorem dX1_flows_52 : decode cX1_flows 52 = .ok (.iload_n 3, 1) := by decide +kernel
theorem dX1_flows_53 : decode cX1_flows 53 = .ok (.idiv, 1) := by decide +kernel
theorem dX1_flows_54 : decode cX1_flows 54 = .ok (.isub, 1) := by decide +kernel
theorem dX1_flows_55 : decode cX1_flows 55 = .ok (.iastore, 1) := by decide +kernel
theorem dX1_flows_56 : decode cX1_flows 56 = .ok (.iload 4, 2) := by decide +kernel
theorem dX1_flows_58 : decode cX1_flows 58 = .ok (.iload 6, 2) := by decide +kernel
theorem dX1_flows_60 : decode cX1_flows 60 = .ok (.iadd, 1) := by decide +kernel
theorem dX1_flows_61 : decode cX1_flows 61 = .ok (.istore 4, 2) := by decide +kernel
theorem dX1_flows_63 : decode cX1_flows 63 = .ok (.iinc 5 1, 3) := by decide +kernel
theorem dX1_flows_66 : decode cX1_flows 66 = .ok (.goto (-54), 3) := by decide +kernel
theorem dX1_flows_69 : decode cX1_flows 69 = .ok (.iconst 0, 1) := by decide +kernel
theorem dX1_flows_70 : decode cX1_flows 70 = .ok (.istore 5, 2) := by decide +kernel
theorem dX1_flows_72 : decode cX1_flows 72 = .ok (.iload 5, 2) := by decide +kernel
theorem dX1_flows_74 : decode cX1_flows 74 = .ok (.bipush 12, 2) := by decide +kernel
theorem dX1_flows_76 : decode cX1_flows 76 = .ok (.if_icmp .ge 31, 3) := by decide +kernel
theorem dX1_flows_79 : decode cX1_flows 79 = .ok (.aload_n 0, 1) := by decide +kernel
theorem dX1_flows_80 : decode cX1_flows 80 = .ok (.getfield 22, 3) := by decide +kernel
theorem dX1_flows_83 : decode cX1_flows 83 = .ok (.bipush 12, 2) := by decide +kernel
theorem dX1_flows_85 : decode cX1_flows 85 = .ok (.iload_n 1, 1) := by decide +kernel
theorem dX1_flows_86 : decode cX1_flows 86 = .ok (.imul, 1) := by decide +kernel
theorem dX1_flows_87 : decode cX1_flows 87 = .ok (.iload 5, 2) := by decide +kernel
theorem dX1_flows_89 : decode cX1_flows 89 = .ok (.iadd, 1) := by decide +kernel
theorem dX1_flows_90 : decode cX1_flows 90 = .ok (.dup2, 1) := by decide +kernel
theorem dX1_flows_91 : decode cX1_flows 91 = .ok (.iaload, 1) := by decide +kernel
theorem dX1_flows_92 : decode cX1_flows 92 = .ok (.aload_n 0, 1) := by decide +kernel
theorem dX1_flows_93 : decode cX1_flows 93 = .ok (.getfield 52, 3) := by decide +kernel
theorem dX1_flows_96 : decode cX1_flows 96 = .ok (.iload 5, 2) := by decide +kernel
theorem dX1_flows_98 : decode cX1_flows 98 = .ok (.iaload, 1) := by decide +kernel
theorem dX1_flows_99 : decode cX1_flows 99 = .ok (.isub, 1) := by decide +kernel
theorem dX1_flows_100 : decode cX1_flows 100 = .ok (.iastore, 1) := by decide +kernel
theorem dX1_flows_101 : decode cX1_flows 101 = .ok (.iinc 5 1, 3) := by decide +kernel
theorem dX1_flows_104 : decode cX1_flows 104 = .ok (.goto (-32), 3) := by decide +kernel
theorem dX1_flows_107 : decode cX1_flows 107 = .ok (.return_, 1) := by decide +kernel
theorem dX1_pour_0 : decode cX1_pour 0 = .ok (.aload_n 0, 1) := by decide +kernel
theorem dX1_pour_1 : decode cX1_pour 1 = .ok (.aload_n 0, 1) := by decide +kernel
theorem dX1_pour_2 : decode cX1_pour 2 = .ok (.iload_n 1, 1) := by decide +kernel
theorem dX1_pour_3 : decode cX1_pour 3 = .ok (.invokevirtual 81, 3) := by decide +kernel
theorem dX1_pour_6 : decode cX1_pour 6 = .ok (.ifCond .eq 11, 3) := by decide +kernel
theorem dX1_pour_9 : decode cX1_pour 9 = .ok (.aload_n 0, 1) := by decide +kernel
theorem dX1_pour_10 : decode cX1_pour 10 = .ok (.iload_n 2, 1) := by decide +kernel
theorem dX1_pour_11 : decode cX1_pour 11 = .ok (.invokevirtual 81, 3) := by decide +kernel
theorem dX1_pour_14 : decode cX1_pour 14 = .ok (.ifCond .ne 7, 3) := by decide +kernel
theorem dX1_pour_17 : decode cX1_pour 17 = .ok (.iconst 1, 1) := by decide +kernel
theorem dX1_pour_18 : decode cX1_pour 18 = .ok (.goto 37, 3) := by decide +kernel
theorem dX1_pour_21 : decode cX1_pour 21 = .ok (.iload_n 1, 1) := by decide +kernel
theorem dX1_pour_22 : decode cX1_pour 22 = .ok (.iload_n 2, 1) := by decide +kernel
theorem dX1_pour_23 : decode cX1_pour 23 = .ok (.if_icmp .eq 14, 3) := by decide +kernel
theorem dX1_pour_26 : decode cX1_pour 26 = .ok (.iload_n 3, 1) := by decide +kernel
theorem dX1_pour_27 : decode cX1_pour 27 = .ok (.iconst 1, 1) := by decide +kernel
theorem dX1_pour_28 : decode cX1_pour 28 = .ok (.sipush 12000, 3) := by decide +kernel
theorem dX1_pour_31 : decode cX1_pour 31 = .ok (.invokestatic 62, 3) := by decide +kernel
theorem dX1_pour_34 : decode cX1_pour 34 = .ok (.ifCond .ne 7, 3) := by decide +kernel
theorem dX1_pour_37 : decode cX1_pour 37 = .ok (.iconst 2, 1) := by decide +kernel
theorem dX1_pour_38 : decode cX1_pour 38 = .ok (.goto 17, 3) := by decide +kernel
theorem dX1_pour_41 : decode cX1_pour 41 = .ok (.aload_n 0, 1) := by decide +kernel
theorem dX1_pour_42 : decode cX1_pour 42 = .ok (.iload_n 1, 1) := by decide +kernel
theorem dX1_pour_43 : decode cX1_pour 43 = .ok (.invokevirtual 88, 3) := by decide +kernel
theorem dX1_pour_46 : decode cX1_pour 46 = .ok (.iload_n 3, 1) := by decide +kernel
theorem dX1_pour_47 : decode cX1_pour 47 = .ok (.if_icmp .ge 7, 3) := by decide +kernel
theorem dX1_pour_50 : decode cX1_pour 50 = .ok (.iconst 3, 1) := by decide +kernel
theorem dX1_pour_51 : decode cX1_pour 51 = .ok (.goto 4, 3) := by decide +kernel
theorem dX1_pour_54 : decode cX1_pour 54 = .ok (.iconst 0, 1) := by decide +kernel
theorem dX1_pour_55 : decode cX1_pour 55 = .ok (.putfield 58, 3) := by decide +kernel
theorem dX1_pour_58 : decode cX1_pour 58 = .ok (.aload_n 0, 1) := by decide +kernel
theorem dX1_pour_59 : decode cX1_pour 59 = .ok (.getfield 58, 3) := by decide +kernel
theorem dX1_pour_62 : decode cX1_pour 62 = .ok (.ifCond .le 5, 3) := by decide +kernel
theorem dX1_pour_65 : decode cX1_pour 65 = .ok (.iconst 0, 1) := by decide +kernel
theorem dX1_pour_66 : decode cX1_pour 66 = .ok (.ireturn, 1) := by decide +kernel
theorem dX1_pour_67 : decode cX1_pour 67 = .ok (.aload_n 0, 1) := by decide +kernel
theorem dX1_pour_68 : decode cX1_pour 68 = .ok (.iload_n 1, 1) := by decide +kernel
theorem dX1_pour_69 : decode cX1_pour 69 = .ok (.iload_n 3, 1) := by decide +kernel
theorem dX1_pour_70 : decode cX1_pour 70 = .ok (.invokevirtual 92, 3) := by decide +kernel
theorem dX1_pour_73 : decode cX1_pour 73 = .ok (.iconst 0, 1) := by decide +kernel
theorem dX1_pour_74 : decode cX1_pour 74 = .ok (.istore 4, 2) := by decide +kernel
theorem dX1_pour_76 : decode cX1_pour 76 = .ok (.iload 4, 2) := by decide +kernel
theorem dX1_pour_78 : decode cX1_pour 78 = .ok (.bipush 12, 2) := by decide +kernel
theorem dX1_pour_80 : decode cX1_pour 80 = .ok (.if_icmp .ge 31, 3) := by decide +kernel
theorem dX1_pour_83 : decode cX1_pour 83 = .ok (.aload_n 0, 1) := by decide +kernel
theorem dX1_pour_84 : decode cX1_pour 84 = .ok (.getfield 22, 3) := by decide +kernel
theorem dX1_pour_87 : decode cX1_pour 87 = .ok (.bipush 12, 2) := by decide +kernel
theorem dX1_pour_89 : decode cX1_pour 89 = .ok (.iload_n 2, 1) := by decide +kernel
theorem dX1_pour_90 : decode cX1_pour 90 = .ok (.imul, 1) := by decide +kernel
theorem dX1_pour_91 : decode cX1_pour 91 = .ok (.iload 4, 2) := by decide +kernel
theorem dX1_pour_93 : decode cX1_pour 93 = .ok (.iadd, 1) := by decide +kernel
theorem dX1_pour_94 : decode cX1_pour 94 = .ok (.dup2, 1) := by decide +kernel
theorem dX1_pour_95 : decode cX1_pour 95 = .ok (.iaload, 1) := by decide +kernel
theorem dX1_pour_96 : decode cX1_pour 96 = .ok (.aload_n 0, 1) := by decide +kernel
theorem dX1_pour_97 : decode cX1_pour 97 = .ok (.getfield 52, 3) := by decide +kernel
theorem dX1_pour_100 : decode cX1_pour 100 = .ok (.iload 4, 2) := by decide +kernel
theorem dX1_pour_102 : decode cX1_pour 102 = .ok (.iaload, 1) := by decide +kernel
theorem dX1_pour_103 : decode cX1_pour 103 = .ok (.iadd, 1) := by decide +kernel
theorem dX1_pour_104 : decode cX1_pour 104 = .ok (.iastore, 1) := by decide +kernel
theorem dX1_pour_105 : decode cX1_pour 105 = .ok (.iinc 4 1, 3) := by decide +kernel
theorem dX1_pour_108 : decode cX1_pour 108 = .ok (.goto (-32), 3) := by decide +kernel
theorem dX1_pour_111 : decode cX1_pour 111 = .ok (.aload_n 0, 1) := by decide +kernel
theorem dX1_pour_112 : decode cX1_pour 112 = .ok (.iload_n 2, 1) := by decide +kernel
theorem dX1_pour_113 : decode cX1_pour 113 = .ok (.invokevirtual 88, 3) := by decide +kernel
theorem dX1_pour_116 : decode cX1_pour 116 = .ok (.ireturn, 1) := by decide +kernel
theorem dX1_scrape_0 : decode cX1_scrape 0 = .ok (.aload_n 0, 1) := by decide +kernel
theorem dX1_scrape_1 : decode cX1_scrape 1 = .ok (.aload_n 0, 1) := by decide +kernel
theorem dX1_scrape_2 : decode cX1_scrape 2 = .ok (.iload_n 1, 1) := by decide +kernel
theorem dX1_scrape_3 : decode cX1_scrape 3 = .ok (.invokevirtual 81, 3) := by decide +kernel
theorem dX1_scrape_6 : decode cX1_scrape 6 = .ok (.ifCond .eq 7, 3) := by decide +kernel
theorem dX1_scrape_9 : decode cX1_scrape 9 = .ok (.iconst 0, 1) := by decide +kernel
theorem dX1_scrape_10 : decode cX1_scrape 10 = .ok (.goto 4, 3) := by decide +kernel
theorem dX1_scrape_13 : decode cX1_scrape 13 = .ok (.iconst 1, 1) := by decide +kernel
theorem dX1_scrape_14 : decode cX1_scrape 14 = .ok (.putfield 58, 3) := by decide +kernel
theorem dX1_scrape_17 : decode cX1_scrape 17 = .ok (.aload_n 0, 1) := by decide +kernel
theorem dX1_scrape_18 : decode cX1_scrape 18 = .ok (.getfield 58, 3) := by decide +kernel
theorem dX1_scrape_21 : decode cX1_scrape 21 = .ok (.ifCond .le 5, 3) := by decide +kernel
theorem dX1_scrape_24 : decode cX1_scrape 24 = .ok (.iconst 0, 1) := by decide +kernel
theorem dX1_scrape_25 : decode cX1_scrape 25 = .ok (.ireturn, 1) := by decide +kernel
theorem dX1_scrape_26 : decode cX1_scrape 26 = .ok (.aload_n 0, 1) := by decide +kernel
theorem dX1_scrape_27 : decode cX1_scrape 27 = .ok (.iload_n 1, 1) := by decide +kernel
theorem dX1_scrape_28 : decode cX1_scrape 28 = .ok (.invokevirtual 88, 3) := by decide +kernel
theorem dX1_scrape_31 : decode cX1_scrape 31 = .ok (.istore_n 2, 1) := by decide +kernel
theorem dX1_scrape_32 : decode cX1_scrape 32 = .ok (.iconst 0, 1) := by decide +kernel
theorem dX1_scrape_33 : decode cX1_scrape 33 = .ok (.istore_n 3, 1) := by decide +kernel
theorem dX1_scrape_34 : decode cX1_scrape 34 = .ok (.iload_n 3, 1) := by decide +kernel
theorem dX1_scrape_35 : decode cX1_scrape 35 = .ok (.bipush 12, 2) := by decide +kernel
theorem dX1_scrape_37 : decode cX1_scrape 37 = .ok (.if_icmp .ge 41, 3) := by decide +kernel
theorem dX1_scrape_40 : decode cX1_scrape 40 = .ok (.aload_n 0, 1) := by decide +kernel
theorem dX1_scrape_41 : decode cX1_scrape 41 = .ok (.getfield 19, 3) := by decide +kernel
theorem dX1_scrape_44 : decode cX1_scrape 44 = .ok (.iload_n 3, 1) := by decide +kernel
theorem dX1_scrape_45 : decode cX1_scrape 45 = .ok (.dup2, 1) := by decide +kernel
theorem dX1_scrape_46 : decode cX1_scrape 46 = .ok (.iaload, 1) := by decide +kernel
theorem dX1_scrape_47 : decode cX1_scrape 47 = .ok (.aload_n 0, 1) := by decide +kernel
theorem dX1_scrape_48 : decode cX1_scrape 48 = .ok (.getfield 22, 3) := by decide +kernel
theorem dX1_scrape_51 : decode cX1_scrape 51 = .ok (.bipush 12, 2) := by decide +kernel
theorem dX1_scrape_53 : decode cX1_scrape 53 = .ok (.iload_n 1, 1) := by decide +kernel
theorem dX1_scrape_54 : decode cX1_scrape 54 = .ok (.imul, 1) := by decide +kernel
theorem dX1_scrape_55 : decode cX1_scrape 55 = .ok (.iload_n 3, 1) := by decide +kernel
theorem dX1_scrape_56 : decode cX1_scrape 56 = .ok (.iadd, 1) := by decide +kernel
theorem dX1_scrape_57 : decode cX1_scrape 57 = .ok (.iaload, 1) := by decide +kernel
theorem dX1_scrape_58 : decode cX1_scrape 58 = .ok (.iadd, 1) := by decide +kernel
theorem dX1_scrape_59 : decode cX1_scrape 59 = .ok (.iastore, 1) := by decide +kernel
theorem dX1_scrape_60 : decode cX1_scrape 60 = .ok (.aload_n 0, 1) := by decide +kernel
theorem dX1_scrape_61 : decode cX1_scrape 61 = .ok (.getfield 22, 3) := by decide +kernel
theorem dX1_scrape_64 : decode cX1_scrape 64 = .ok (.bipush 12, 2) := by decide +kernel
theorem dX1_scrape_66 : decode cX1_scrape 66 = .ok (.iload_n 1, 1) := by decide +kernel
theorem dX1_scrape_67 : decode cX1_scrape 67 = .ok (.imul, 1) := by decide +kernel
theorem dX1_scrape_68 : decode cX1_scrape 68 = .ok (.iload_n 3, 1) := by decide +kernel
theorem dX1_scrape_69 : decode cX1_scrape 69 = .ok (.iadd, 1) := by decide +kernel
theorem dX1_scrape_70 : decode cX1_scrape 70 = .ok (.iconst 0, 1) := by decide +kernel
theorem dX1_scrape_71 : decode cX1_scrape 71 = .ok (.iastore, 1) := by decide +kernel
theorem dX1_scrape_72 : decode cX1_scrape 72 = .ok (.iinc 3 1, 3) := by decide +kernel
theorem dX1_scrape_75 : decode cX1_scrape 75 = .ok (.goto (-41), 3) := by decide +kernel
theorem dX1_scrape_78 : decode cX1_scrape 78 = .ok (.iload_n 2, 1) := by decide +kernel
theorem dX1_scrape_79 : decode cX1_scrape 79 = .ok (.ireturn, 1) := by decide +kernel
theorem dX1_picture_0 : decode cX1_picture 0 = .ok (.aload_n 0, 1) := by decide +kernel
theorem dX1_picture_1 : decode cX1_picture 1 = .ok (.aload_n 0, 1) := by decide +kernel
theorem dX1_picture_2 : decode cX1_picture 2 = .ok (.getfield 72, 3) := by decide +kernel
theorem dX1_picture_5 : decode cX1_picture 5 = .ok (.bipush 8, 2) := by decide +kernel
theorem dX1_picture_7 : decode cX1_picture 7 = .ok (.if_icmp .ne 7, 3) := by decide +kernel
theorem dX1_picture_10 : decode cX1_picture 10 = .ok (.iconst 1, 1) := by decide +kernel
theorem dX1_picture_11 : decode cX1_picture 11 = .ok (.goto 4, 3) := by decide +kernel
theorem dX1_picture_14 : decode cX1_picture 14 = .ok (.iconst 0, 1) := by decide +kernel
theorem dX1_picture_15 : decode cX1_picture 15 = .ok (.putfield 58, 3) := by decide +kernel
theorem dX1_picture_18 : decode cX1_picture 18 = .ok (.aload_n 0, 1) := by decide +kernel
theorem dX1_picture_19 : decode cX1_picture 19 = .ok (.getfield 58, 3) := by decide +kernel
theorem dX1_picture_22 : decode cX1_picture 22 = .ok (.ifCond .le 5, 3) := by decide +kernel
theorem dX1_picture_25 : decode cX1_picture 25 = .ok (.iconst 0, 1) := by decide +kernel
theorem dX1_picture_26 : decode cX1_picture 26 = .ok (.ireturn, 1) := by decide +kernel
theorem dX1_picture_27 : decode cX1_picture 27 = .ok (.aload_n 0, 1) := by decide +kernel
theorem dX1_picture_28 : decode cX1_picture 28 = .ok (.dup, 1) := by decide +kernel
theorem dX1_picture_29 : decode cX1_picture 29 = .ok (.getfield 72, 3) := by decide +kernel
theorem dX1_picture_32 : decode cX1_picture 32 = .ok (.iconst 1, 1) := by decide +kernel
theorem dX1_picture_33 : decode cX1_picture 33 = .ok (.iadd, 1) := by decide +kernel
theorem dX1_picture_34 : decode cX1_picture 34 = .ok (.putfield 72, 3) := by decide +kernel
theorem dX1_picture_37 : decode cX1_picture 37 = .ok (.aload_n 0, 1) := by decide +kernel
theorem dX1_picture_38 : decode cX1_picture 38 = .ok (.getfield 72, 3) := by decide +kernel
theorem dX1_picture_41 : decode cX1_picture 41 = .ok (.iconst 1, 1) := by decide +kernel
theorem dX1_picture_42 : decode cX1_picture 42 = .ok (.isub, 1) := by decide +kernel
theorem dX1_picture_43 : decode cX1_picture 43 = .ok (.ireturn, 1) := by decide +kernel
theorem dX1_layerAt_0 : decode cX1_layerAt 0 = .ok (.bipush 12, 2) := by decide +kernel
theorem dX1_layerAt_2 : decode cX1_layerAt 2 = .ok (.bipush 12, 2) := by decide +kernel
theorem dX1_layerAt_4 : decode cX1_layerAt 4 = .ok (.iload_n 0, 1) := by decide +kernel
theorem dX1_layerAt_5 : decode cX1_layerAt 5 = .ok (.imul, 1) := by decide +kernel
theorem dX1_layerAt_6 : decode cX1_layerAt 6 = .ok (.iload_n 1, 1) := by decide +kernel
theorem dX1_layerAt_7 : decode cX1_layerAt 7 = .ok (.iadd, 1) := by decide +kernel
theorem dX1_layerAt_8 : decode cX1_layerAt 8 = .ok (.imul, 1) := by decide +kernel
theorem dX1_layerAt_9 : decode cX1_layerAt 9 = .ok (.ireturn, 1) := by decide +kernel
theorem dX1_paint_0 : decode cX1_paint 0 = .ok (.aload_n 0, 1) := by decide +kernel
theorem dX1_paint_1 : decode cX1_paint 1 = .ok (.aload_n 0, 1) := by decide +kernel
theorem dX1_paint_2 : decode cX1_paint 2 = .ok (.iload_n 1, 1) := by decide +kernel
theorem dX1_paint_3 : decode cX1_paint 3 = .ok (.invokevirtual 96, 3) := by decide +kernel
theorem dX1_paint_6 : decode cX1_paint 6 = .ok (.ifCond .eq 11, 3) := by decide +kernel
theorem dX1_paint_9 : decode cX1_paint 9 = .ok (.aload_n 0, 1) := by decide +kernel
theorem dX1_paint_10 : decode cX1_paint 10 = .ok (.iload_n 2, 1) := by decide +kernel
theorem dX1_paint_11 : decode cX1_paint 11 = .ok (.invokevirtual 81, 3) := by decide +kernel
theorem dX1_paint_14 : decode cX1_paint 14 = .ok (.ifCond .ne 7, 3) := by decide +kernel
theorem dX1_paint_17 : decode cX1_paint 17 = .ok (.iconst 1, 1) := by decide +kernel
theorem dX1_paint_18 : decode cX1_paint 18 = .ok (.goto 53, 3) := by decide +kernel
theorem dX1_paint_21 : decode cX1_paint 21 = .ok (.iload_n 3, 1) := by decide +kernel
theorem dX1_paint_22 : decode cX1_paint 22 = .ok (.iconst 1, 1) := by decide +kernel
theorem dX1_paint_23 : decode cX1_paint 23 = .ok (.sipush 1000, 3) := by decide +kernel
theorem dX1_paint_26 : decode cX1_paint 26 = .ok (.invokestatic 62, 3) := by decide +kernel
theorem dX1_paint_29 : decode cX1_paint 29 = .ok (.ifCond .ne 7, 3) := by decide +kernel
theorem dX1_paint_32 : decode cX1_paint 32 = .ok (.iconst 2, 1) := by decide +kernel
theorem dX1_paint_33 : decode cX1_paint 33 = .ok (.goto 38, 3) := by decide +kernel
theorem dX1_paint_36 : decode cX1_paint 36 = .ok (.aload_n 0, 1) := by decide +kernel
theorem dX1_paint_37 : decode cX1_paint 37 = .ok (.getfield 37, 3) := by decide +kernel
theorem dX1_paint_40 : decode cX1_paint 40 = .ok (.iload_n 1, 1) := by decide +kernel
theorem dX1_paint_41 : decode cX1_paint 41 = .ok (.iaload, 1) := by decide +kernel
theorem dX1_paint_42 : decode cX1_paint 42 = .ok (.iconst (-1), 1) := by decide +kernel
theorem dX1_paint_43 : decode cX1_paint 43 = .ok (.if_icmp .ne 23, 3) := by decide +kernel
theorem dX1_paint_46 : decode cX1_paint 46 = .ok (.aload_n 0, 1) := by decide +kernel
theorem dX1_paint_47 : decode cX1_paint 47 = .ok (.getfield 25, 3) := by decide +kernel
theorem dX1_paint_50 : decode cX1_paint 50 = .ok (.iload_n 1, 1) := by decide +kernel
theorem dX1_paint_51 : decode cX1_paint 51 = .ok (.iaload, 1) := by decide +kernel
theorem dX1_paint_52 : decode cX1_paint 52 = .ok (.bipush 12, 2) := by decide +kernel
theorem dX1_paint_54 : decode cX1_paint 54 = .ok (.if_icmp .eq 12, 3) := by decide +kernel
theorem dX1_paint_57 : decode cX1_paint 57 = .ok (.aload_n 0, 1) := by decide +kernel
theorem dX1_paint_58 : decode cX1_paint 58 = .ok (.iload_n 2, 1) := by decide +kernel
theorem dX1_paint_59 : decode cX1_paint 59 = .ok (.invokevirtual 88, 3) := by decide +kernel
theorem dX1_paint_62 : decode cX1_paint 62 = .ok (.iload_n 3, 1) := by decide +kernel
theorem dX1_paint_63 : decode cX1_paint 63 = .ok (.if_icmp .ge 7, 3) := by decide +kernel
theorem dX1_paint_66 : decode cX1_paint 66 = .ok (.iconst 3, 1) := by decide +kernel
theorem dX1_paint_67 : decode cX1_paint 67 = .ok (.goto 4, 3) := by decide +kernel
theorem dX1_paint_70 : decode cX1_paint 70 = .ok (.iconst 0, 1) := by decide +kernel
theorem dX1_paint_71 : decode cX1_paint 71 = .ok (.putfield 58, 3) := by decide +kernel
theorem dX1_paint_74 : decode cX1_paint 74 = .ok (.aload_n 0, 1) := by decide +kernel
theorem dX1_paint_75 : decode cX1_paint 75 = .ok (.getfield 58, 3) := by decide +kernel
theorem dX1_paint_78 : decode cX1_paint 78 = .ok (.ifCond .le 5, 3) := by decide +kernel
theorem dX1_paint_81 : decode cX1_paint 81 = .ok (.iconst 0, 1) := by decide +kernel
theorem dX1_paint_82 : decode cX1_paint 82 = .ok (.ireturn, 1) := by decide +kernel
theorem dX1_paint_83 : decode cX1_paint 83 = .ok (.aload_n 0, 1) := by decide +kernel
theorem dX1_paint_84 : decode cX1_paint 84 = .ok (.iload_n 2, 1) := by decide +kernel
theorem dX1_paint_85 : decode cX1_paint 85 = .ok (.iload_n 3, 1) := by decide +kernel
theorem dX1_paint_86 : decode cX1_paint 86 = .ok (.invokevirtual 92, 3) := by decide +kernel
theorem dX1_paint_89 : decode cX1_paint 89 = .ok (.iconst 0, 1) := by decide +kernel
theorem dX1_paint_90 : decode cX1_paint 90 = .ok (.istore 4, 2) := by decide +kernel
theorem dX1_paint_92 : decode cX1_paint 92 = .ok (.iload 4, 2) := by decide +kernel
theorem dX1_paint_94 : decode cX1_paint 94 = .ok (.bipush 12, 2) := by decide +kernel
theorem dX1_paint_96 : decode cX1_paint 96 = .ok (.if_icmp .ge 34, 3) := by decide +kernel
theorem dX1_paint_99 : decode cX1_paint 99 = .ok (.aload_n 0, 1) := by decide +kernel
theorem dX1_paint_100 : decode cX1_paint 100 = .ok (.getfield 28, 3) := by decide +kernel
theorem dX1_paint_103 : decode cX1_paint 103 = .ok (.iload_n 1, 1) := by decide +kernel
theorem dX1_paint_104 : decode cX1_paint 104 = .ok (.aload_n 0, 1) := by decide +kernel
theorem dX1_paint_105 : decode cX1_paint 105 = .ok (.getfield 25, 3) := by decide +kernel
theorem dX1_paint_108 : decode cX1_paint 108 = .ok (.iload_n 1, 1) := by decide +kernel
theorem dX1_paint_109 : decode cX1_paint 109 = .ok (.iaload, 1) := by decide +kernel
theorem dX1_paint_110 : decode cX1_paint 110 = .ok (.invokestatic 99, 3) := by decide +kernel
theorem dX1_paint_113 : decode cX1_paint 113 = .ok (.iload 4, 2) := by decide +kernel
theorem dX1_paint_115 : decode cX1_paint 115 = .ok (.iadd, 1) := by decide +kernel
theorem dX1_paint_116 : decode cX1_paint 116 = .ok (.aload_n 0, 1) := by decide +kernel
theorem dX1_paint_117 : decode cX1_paint 117 = .ok (.getfield 52, 3) := by decide +kernel
theorem dX1_paint_120 : decode cX1_paint 120 = .ok (.iload 4, 2) := by decide +kernel
theorem dX1_paint_122 : decode cX1_paint 122 = .ok (.iaload, 1) := by decide +kernel
theorem dX1_paint_123 : decode cX1_paint 123 = .ok (.iastore, 1) := by decide +kernel
theorem dX1_paint_124 : decode cX1_paint 124 = .ok (.iinc 4 1, 3) := by decide +kernel
theorem dX1_paint_127 : decode cX1_paint 127 = .ok (.goto (-35), 3) := by decide +kernel
theorem dX1_paint_130 : decode cX1_paint 130 = .ok (.aload_n 0, 1) := by decide +kernel
theorem dX1_paint_131 : decode cX1_paint 131 = .ok (.getfield 25, 3) := by decide +kernel
theorem dX1_paint_134 : decode cX1_paint 134 = .ok (.iload_n 1, 1) := by decide +kernel
theorem dX1_paint_135 : decode cX1_paint 135 = .ok (.dup2, 1) := by decide +kernel
theorem dX1_paint_136 : decode cX1_paint 136 = .ok (.iaload, 1) := by decide +kernel
theorem dX1_paint_137 : decode cX1_paint 137 = .ok (.iconst 1, 1) := by decide +kernel
theorem dX1_paint_138 : decode cX1_paint 138 = .ok (.iadd, 1) := by decide +kernel
theorem dX1_paint_139 : decode cX1_paint 139 = .ok (.iastore, 1) := by decide +kernel
theorem dX1_paint_140 : decode cX1_paint 140 = .ok (.aload_n 0, 1) := by decide +kernel
theorem dX1_paint_141 : decode cX1_paint 141 = .ok (.getfield 25, 3) := by decide +kernel
theorem dX1_paint_144 : decode cX1_paint 144 = .ok (.iload_n 1, 1) := by decide +kernel
theorem dX1_paint_145 : decode cX1_paint 145 = .ok (.iaload, 1) := by decide +kernel
theorem dX1_paint_146 : decode cX1_paint 146 = .ok (.ireturn, 1) := by decide +kernel
theorem dX1_clean_0 : decode cX1_clean 0 = .ok (.aload_n 0, 1) := by decide +kernel
theorem dX1_clean_1 : decode cX1_clean 1 = .ok (.aload_n 0, 1) := by decide +kernel
theorem dX1_clean_2 : decode cX1_clean 2 = .ok (.iload_n 1, 1) := by decide +kernel
theorem dX1_clean_3 : decode cX1_clean 3 = .ok (.invokevirtual 96, 3) := by decide +kernel
theorem dX1_clean_6 : decode cX1_clean 6 = .ok (.ifCond .ne 7, 3) := by decide +kernel
theorem dX1_clean_9 : decode cX1_clean 9 = .ok (.iconst 1, 1) := by decide +kernel
theorem dX1_clean_10 : decode cX1_clean 10 = .ok (.goto 42, 3) := by decide +kernel
theorem dX1_clean_13 : decode cX1_clean 13 = .ok (.iload_n 2, 1) := by decide +kernel
theorem dX1_clean_14 : decode cX1_clean 14 = .ok (.iconst 1, 1) := by decide +kernel
theorem dX1_clean_15 : decode cX1_clean 15 = .ok (.bipush 12, 2) := by decide +kernel
theorem dX1_clean_17 : decode cX1_clean 17 = .ok (.invokestatic 62, 3) := by decide +kernel
theorem dX1_clean_20 : decode cX1_clean 20 = .ok (.ifCond .ne 7, 3) := by decide +kernel
theorem dX1_clean_23 : decode cX1_clean 23 = .ok (.iconst 2, 1) := by decide +kernel
theorem dX1_clean_24 : decode cX1_clean 24 = .ok (.goto 28, 3) := by decide +kernel
theorem dX1_clean_27 : decode cX1_clean 27 = .ok (.aload_n 0, 1) := by decide +kernel
theorem dX1_clean_28 : decode cX1_clean 28 = .ok (.getfield 37, 3) := by decide +kernel
theorem dX1_clean_31 : decode cX1_clean 31 = .ok (.iload_n 1, 1) := by decide +kernel
theorem dX1_clean_32 : decode cX1_clean 32 = .ok (.iaload, 1) := by decide +kernel
theorem dX1_clean_33 : decode cX1_clean 33 = .ok (.iconst (-1), 1) := by decide +kernel
theorem dX1_clean_34 : decode cX1_clean 34 = .ok (.if_icmp .ne 13, 3) := by decide +kernel
theorem dX1_clean_37 : decode cX1_clean 37 = .ok (.aload_n 0, 1) := by decide +kernel
theorem dX1_clean_38 : decode cX1_clean 38 = .ok (.getfield 25, 3) := by decide +kernel
theorem dX1_clean_41 : decode cX1_clean 41 = .ok (.iload_n 1, 1) := by decide +kernel
theorem dX1_clean_42 : decode cX1_clean 42 = .ok (.iaload, 1) := by decide +kernel
theorem dX1_clean_43 : decode cX1_clean 43 = .ok (.iload_n 2, 1) := by decide +kernel
theorem dX1_clean_44 : decode cX1_clean 44 = .ok (.if_icmp .ge 7, 3) := by decide +kernel
theorem dX1_clean_47 : decode cX1_clean 47 = .ok (.iconst 3, 1) := by decide +kernel
theorem dX1_clean_48 : decode cX1_clean 48 = .ok (.goto 4, 3) := by decide +kernel
theorem dX1_clean_51 : decode cX1_clean 51 = .ok (.iconst 0, 1) := by decide +kernel
theorem dX1_clean_52 : decode cX1_clean 52 = .ok (.putfield 58, 3) := by decide +kernel
theorem dX1_clean_55 : decode cX1_clean 55 = .ok (.aload_n 0, 1) := by decide +kernel
theorem dX1_clean_56 : decode cX1_clean 56 = .ok (.getfield 58, 3) := by decide +kernel
theorem dX1_clean_59 : decode cX1_clean 59 = .ok (.ifCond .le 5, 3) := by decide +kernel
theorem dX1_clean_62 : decode cX1_clean 62 = .ok (.iconst 0, 1) := by decide +kernel
theorem dX1_clean_63 : decode cX1_clean 63 = .ok (.ireturn, 1) := by decide +kernel
theorem dX1_clean_64 : decode cX1_clean 64 = .ok (.iconst 0, 1) := by decide +kernel
theorem dX1_clean_65 : decode cX1_clean 65 = .ok (.istore_n 3, 1) := by decide +kernel
theorem dX1_clean_66 : decode cX1_clean 66 = .ok (.iconst 0, 1) := by decide +kernel
theorem dX1_clean_67 : decode cX1_clean 67 = .ok (.istore 4, 2) := by decide +kernel
theorem dX1_clean_69 : decode cX1_clean 69 = .ok (.iload 4, 2) := by decide +kernel
theorem dX1_clean_71 : decode cX1_clean 71 = .ok (.iload_n 2, 1) := by decide +kernel
theorem dX1_clean_72 : decode cX1_clean 72 = .ok (.if_icmp .ge 91, 3) := by decide +kernel
theorem dX1_clean_75 : decode cX1_clean 75 = .ok (.aload_n 0, 1) := by decide +kernel
theorem dX1_clean_76 : decode cX1_clean 76 = .ok (.getfield 25, 3) := by decide +kernel
theorem dX1_clean_79 : decode cX1_clean 79 = .ok (.iload_n 1, 1) := by decide +kernel
theorem dX1_clean_80 : decode cX1_clean 80 = .ok (.dup2, 1) := by decide +kernel
theorem dX1_clean_81 : decode cX1_clean 81 = .ok (.iaload, 1) := by decide +kernel
theorem dX1_clean_82 : decode cX1_clean 82 = .ok (.iconst 1, 1) := by decide +kernel
theorem dX1_clean_83 : decode cX1_clean 83 = .ok (.isub, 1) := by decide +kernel
theorem dX1_clean_84 : decode cX1_clean 84 = .ok (.iastore, 1) := by decide +kernel
theorem dX1_clean_85 : decode cX1_clean 85 = .ok (.iconst 0, 1) := by decide +kernel
theorem dX1_clean_86 : decode cX1_clean 86 = .ok (.istore 5, 2) := by decide +kernel
theorem dX1_clean_88 : decode cX1_clean 88 = .ok (.iload 5, 2) := by decide +kernel
theorem dX1_clean_90 : decode cX1_clean 90 = .ok (.bipush 12, 2) := by decide +kernel
theorem dX1_clean_92 : decode cX1_clean 92 = .ok (.if_icmp .ge 65, 3) := by decide +kernel
theorem dX1_clean_95 : decode cX1_clean 95 = .ok (.aload_n 0, 1) := by decide +kernel
theorem dX1_clean_96 : decode cX1_clean 96 = .ok (.getfield 28, 3) := by decide +kernel
theorem dX1_clean_99 : decode cX1_clean 99 = .ok (.iload_n 1, 1) := by decide +kernel
theorem dX1_clean_100 : decode cX1_clean 100 = .ok (.aload_n 0, 1) := by decide +kernel
theorem dX1_clean_101 : decode cX1_clean 101 = .ok (.getfield 25, 3) := by decide +kernel
theorem dX1_clean_104 : decode cX1_clean 104 = .ok (.iload_n 1, 1) := by decide +kernel
theorem dX1_clean_105 : decode cX1_clean 105 = .ok (.iaload, 1) := by decide +kernel
theorem dX1_clean_106 : decode cX1_clean 106 = .ok (.invokestatic 99, 3) := by decide +kernel
theorem dX1_clean_109 : decode cX1_clean 109 = .ok (.iload 5, 2) := by decide +kernel
theorem dX1_clean_111 : decode cX1_clean 111 = .ok (.iadd, 1) := by decide +kernel
theorem dX1_clean_112 : decode cX1_clean 112 = .ok (.iaload, 1) := by decide +kernel
theorem dX1_clean_113 : decode cX1_clean 113 = .ok (.istore 6, 2) := by decide +kernel
theorem dX1_clean_115 : decode cX1_clean 115 = .ok (.aload_n 0, 1) := by decide +kernel
theorem dX1_clean_116 : decode cX1_clean 116 = .ok (.getfield 19, 3) := by decide +kernel
theorem dX1_clean_119 : decode cX1_clean 119 = .ok (.iload 5, 2) := by decide +kernel
theorem dX1_clean_121 : decode cX1_clean 121 = .ok (.dup2, 1) := by decide +kernel
theorem dX1_clean_122 : decode cX1_clean 122 = .ok (.iaload, 1) := by decide +kernel
theorem dX1_clean_123 : decode cX1_clean 123 = .ok (.iload 6, 2) := by decide +kernel
theorem dX1_clean_125 : decode cX1_clean 125 = .ok (.iadd, 1) := by decide +kernel
theorem dX1_clean_126 : decode cX1_clean 126 = .ok (.iastore, 1) := by decide +kernel
theorem dX1_clean_127 : decode cX1_clean 127 = .ok (.iload_n 3, 1) := by decide +kernel
theorem dX1_clean_128 : decode cX1_clean 128 = .ok (.iload 6, 2) := by decide +kernel
theorem dX1_clean_130 : decode cX1_clean 130 = .ok (.iadd, 1) := by decide +kernel
theorem dX1_clean_131 : decode cX1_clean 131 = .ok (.istore_n 3, 1) := by decide +kernel
theorem dX1_clean_132 : decode cX1_clean 132 = .ok (.aload_n 0, 1) := by decide +kernel
theorem dX1_clean_133 : decode cX1_clean 133 = .ok (.getfield 28, 3) := by decide +kernel
theorem dX1_clean_136 : decode cX1_clean 136 = .ok (.iload_n 1, 1) := by decide +kernel
theorem dX1_clean_137 : decode cX1_clean 137 = .ok (.aload_n 0, 1) := by decide +kernel
theorem dX1_clean_138 : decode cX1_clean 138 = .ok (.getfield 25, 3) := by decide +kernel
theorem dX1_clean_141 : decode cX1_clean 141 = .ok (.iload_n 1, 1) := by decide +kernel
theorem dX1_clean_142 : decode cX1_clean 142 = .ok (.iaload, 1) := by decide +kernel
theorem dX1_clean_143 : decode cX1_clean 143 = .ok (.invokestatic 99, 3) := by decide +kernel
theorem dX1_clean_146 : decode cX1_clean 146 = .ok (.iload 5, 2) := by decide +kernel
theorem dX1_clean_148 : decode cX1_clean 148 = .ok (.iadd, 1) := by decide +kernel
theorem dX1_clean_149 : decode cX1_clean 149 = .ok (.iconst 0, 1) := by decide +kernel
theorem dX1_clean_150 : decode cX1_clean 150 = .ok (.iastore, 1) := by decide +kernel
theorem dX1_clean_151 : decode cX1_clean 151 = .ok (.iinc 5 1, 3) := by decide +kernel
theorem dX1_clean_154 : decode cX1_clean 154 = .ok (.goto (-66), 3) := by decide +kernel
theorem dX1_clean_157 : decode cX1_clean 157 = .ok (.iinc 4 1, 3) := by decide +kernel
theorem dX1_clean_160 : decode cX1_clean 160 = .ok (.goto (-91), 3) := by decide +kernel
theorem dX1_clean_163 : decode cX1_clean 163 = .ok (.iload_n 3, 1) := by decide +kernel
theorem dX1_clean_164 : decode cX1_clean 164 = .ok (.ireturn, 1) := by decide +kernel
theorem dX1_main_0 : decode cX1_main 0 = .ok (.aload_n 0, 1) := by decide +kernel
theorem dX1_main_1 : decode cX1_main 1 = .ok (.getfield 25, 3) := by decide +kernel
theorem dX1_main_4 : decode cX1_main 4 = .ok (.iload_n 1, 1) := by decide +kernel
theorem dX1_main_5 : decode cX1_main 5 = .ok (.iaload, 1) := by decide +kernel
theorem dX1_main_6 : decode cX1_main 6 = .ok (.ifCond .ne 5, 3) := by decide +kernel
theorem dX1_main_9 : decode cX1_main 9 = .ok (.iconst (-1), 1) := by decide +kernel
theorem dX1_main_10 : decode cX1_main 10 = .ok (.ireturn, 1) := by decide +kernel
theorem dX1_main_11 : decode cX1_main 11 = .ok (.iconst 0, 1) := by decide +kernel
theorem dX1_main_12 : decode cX1_main 12 = .ok (.istore_n 2, 1) := by decide +kernel
theorem dX1_main_13 : decode cX1_main 13 = .ok (.iload_n 2, 1) := by decide +kernel
theorem dX1_main_14 : decode cX1_main 14 = .ok (.bipush 6, 2) := by decide +kernel
theorem dX1_main_16 : decode cX1_main 16 = .ok (.if_icmp .ge 16, 3) := by decide +kernel
theorem dX1_main_19 : decode cX1_main 19 = .ok (.aload_n 0, 1) := by decide +kernel
theorem dX1_main_20 : decode cX1_main 20 = .ok (.getfield 55, 3) := by decide +kernel
theorem dX1_main_23 : decode cX1_main 23 = .ok (.iload_n 2, 1) := by decide +kernel
theorem dX1_main_24 : decode cX1_main 24 = .ok (.iconst 0, 1) := by decide +kernel
theorem dX1_main_25 : decode cX1_main 25 = .ok (.iastore, 1) := by decide +kernel
theorem dX1_main_26 : decode cX1_main 26 = .ok (.iinc 2 1, 3) := by decide +kernel
theorem dX1_main_29 : decode cX1_main 29 = .ok (.goto (-16), 3) := by decide +kernel
theorem dX1_main_32 : decode cX1_main 32 = .ok (.iconst 0, 1) := by decide +kernel
theorem dX1_main_33 : decode cX1_main 33 = .ok (.istore_n 2, 1) := by decide +kernel
theorem dX1_main_34 : decode cX1_main 34 = .ok (.iload_n 2, 1) := by decide +kernel
theorem dX1_main_35 : decode cX1_main 35 = .ok (.aload_n 0, 1) := by decide +kernel
theorem dX1_main_36 : decode cX1_main 36 = .ok (.getfield 66, 3) := by decide +kernel
theorem dX1_main_39 : decode cX1_main 39 = .ok (.if_icmp .ge 42, 3) := by decide +kernel
theorem dX1_main_42 : decode cX1_main 42 = .ok (.aload_n 0, 1) := by decide +kernel
theorem dX1_main_43 : decode cX1_main 43 = .ok (.getfield 55, 3) := by decide +kernel
theorem dX1_main_46 : decode cX1_main 46 = .ok (.aload_n 0, 1) := by decide +kernel
theorem dX1_main_47 : decode cX1_main 47 = .ok (.getfield 13, 3) := by decide +kernel
theorem dX1_main_50 : decode cX1_main 50 = .ok (.iload_n 2, 1) := by decide +kernel
theorem dX1_main_51 : decode cX1_main 51 = .ok (.iaload, 1) := by decide +kernel
theorem dX1_main_52 : decode cX1_main 52 = .ok (.dup2, 1) := by decide +kernel
theorem dX1_main_53 : decode cX1_main 53 = .ok (.iaload, 1) := by decide +kernel
theorem dX1_main_54 : decode cX1_main 54 = .ok (.aload_n 0, 1) := by decide +kernel
theorem dX1_main_55 : decode cX1_main 55 = .ok (.getfield 28, 3) := by decide +kernel
theorem dX1_main_58 : decode cX1_main 58 = .ok (.iload_n 1, 1) := by decide +kernel
theorem dX1_main_59 : decode cX1_main 59 = .ok (.aload_n 0, 1) := by decide +kernel
theorem dX1_main_60 : decode cX1_main 60 = .ok (.getfield 25, 3) := by decide +kernel
theorem dX1_main_63 : decode cX1_main 63 = .ok (.iload_n 1, 1) := by decide +kernel
theorem dX1_main_64 : decode cX1_main 64 = .ok (.iaload, 1) := by decide +kernel
theorem dX1_main_65 : decode cX1_main 65 = .ok (.iconst 1, 1) := by decide +kernel
theorem dX1_main_66 : decode cX1_main 66 = .ok (.isub, 1) := by decide +kernel
theorem dX1_main_67 : decode cX1_main 67 = .ok (.invokestatic 99, 3) := by decide +kernel
theorem dX1_main_70 : decode cX1_main 70 = .ok (.iload_n 2, 1) := by decide +kernel
theorem dX1_main_71 : decode cX1_main 71 = .ok (.iadd, 1) := by decide +kernel
theorem dX1_main_72 : decode cX1_main 72 = .ok (.iaload, 1) := by decide +kernel
theorem dX1_main_73 : decode cX1_main 73 = .ok (.iadd, 1) := by decide +kernel
theorem dX1_main_74 : decode cX1_main 74 = .ok (.iastore, 1) := by decide +kernel
theorem dX1_main_75 : decode cX1_main 75 = .ok (.iinc 2 1, 3) := by decide +kernel
theorem dX1_main_78 : decode cX1_main 78 = .ok (.goto (-44), 3) := by decide +kernel
theorem dX1_main_81 : decode cX1_main 81 = .ok (.iconst 0, 1) := by decide +kernel
theorem dX1_main_82 : decode cX1_main 82 = .ok (.istore_n 2, 1) := by decide +kernel
theorem dX1_main_83 : decode cX1_main 83 = .ok (.iconst 1, 1) := by decide +kernel
theorem dX1_main_84 : decode cX1_main 84 = .ok (.istore_n 3, 1) := by decide +kernel
theorem dX1_main_85 : decode cX1_main 85 = .ok (.iload_n 3, 1) := by decide +kernel
theorem dX1_main_86 : decode cX1_main 86 = .ok (.bipush 6, 2) := by decide +kernel
theorem dX1_main_88 : decode cX1_main 88 = .ok (.if_icmp .ge 30, 3) := by decide +kernel
theorem dX1_main_91 : decode cX1_main 91 = .ok (.aload_n 0, 1) := by decide +kernel
theorem dX1_main_92 : decode cX1_main 92 = .ok (.getfield 55, 3) := by decide +kernel
theorem dX1_main_95 : decode cX1_main 95 = .ok (.iload_n 3, 1) := by decide +kernel
theorem dX1_main_96 : decode cX1_main 96 = .ok (.iaload, 1) := by decide +kernel
theorem dX1_main_97 : decode cX1_main 97 = .ok (.aload_n 0, 1) := by decide +kernel
theorem dX1_main_98 : decode cX1_main 98 = .ok (.getfield 55, 3) := by decide +kernel
theorem dX1_main_101 : decode cX1_main 101 = .ok (.iload_n 2, 1) := by decide +kernel
theorem dX1_main_102 : decode cX1_main 102 = .ok (.iaload, 1) := by decide +kernel
theorem dX1_main_103 : decode cX1_main 103 = .ok (.if_icmp .le 7, 3) := by decide +kernel
theorem dX1_main_106 : decode cX1_main 106 = .ok (.iload_n 3, 1) := by decide +kernel
theorem dX1_main_107 : decode cX1_main 107 = .ok (.goto 4, 3) := by decide +kernel
theorem dX1_main_110 : decode cX1_main 110 = .ok (.iload_n 2, 1) := by decide +kernel
theorem dX1_main_111 : decode cX1_main 111 = .ok (.istore_n 2, 1) := by decide +kernel
theorem dX1_main_112 : decode cX1_main 112 = .ok (.iinc 3 1, 3) := by decide +kernel
theorem dX1_main_115 : decode cX1_main 115 = .ok (.goto (-30), 3) := by decide +kernel
theorem dX1_main_118 : decode cX1_main 118 = .ok (.iload_n 2, 1) := by decide +kernel
theorem dX1_main_119 : decode cX1_main 119 = .ok (.ireturn, 1) := by decide +kernel
theorem dX1_look_0 : decode cX1_look 0 = .ok (.aload_n 0, 1) := by decide +kernel
theorem dX1_look_1 : decode cX1_look 1 = .ok (.getfield 25, 3) := by decide +kernel
theorem dX1_look_4 : decode cX1_look 4 = .ok (.iload_n 1, 1) := by decide +kernel
theorem dX1_look_5 : decode cX1_look 5 = .ok (.iaload, 1) := by decide +kernel
theorem dX1_look_6 : decode cX1_look 6 = .ok (.ifCond .ne 5, 3) := by decide +kernel
theorem dX1_look_9 : decode cX1_look 9 = .ok (.iconst (-1), 1) := by decide +kernel
theorem dX1_look_10 : decode cX1_look 10 = .ok (.ireturn, 1) := by decide +kernel
theorem dX1_look_11 : decode cX1_look 11 = .ok (.iconst 0, 1) := by decide +kernel
theorem dX1_look_12 : decode cX1_look 12 = .ok (.istore_n 3, 1) := by decide +kernel
theorem dX1_look_13 : decode cX1_look 13 = .ok (.iconst 0, 1) := by decide +kernel
theorem dX1_look_14 : decode cX1_look 14 = .ok (.istore 4, 2) := by decide +kernel
theorem dX1_look_16 : decode cX1_look 16 = .ok (.iconst 0, 1) := by decide +kernel
theorem dX1_look_17 : decode cX1_look 17 = .ok (.istore 5, 2) := by decide +kernel
theorem dX1_look_19 : decode cX1_look 19 = .ok (.iload 5, 2) := by decide +kernel
theorem dX1_look_21 : decode cX1_look 21 = .ok (.aload_n 0, 1) := by decide +kernel
theorem dX1_look_22 : decode cX1_look 22 = .ok (.getfield 66, 3) := by decide +kernel
theorem dX1_look_25 : decode cX1_look 25 = .ok (.if_icmp .ge 60, 3) := by decide +kernel
theorem dX1_look_28 : decode cX1_look 28 = .ok (.aload_n 0, 1) := by decide +kernel
theorem dX1_look_29 : decode cX1_look 29 = .ok (.getfield 28, 3) := by decide +kernel
theorem dX1_look_32 : decode cX1_look 32 = .ok (.iload_n 1, 1) := by decide +kernel
theorem dX1_look_33 : decode cX1_look 33 = .ok (.aload_n 0, 1) := by decide +kernel
theorem dX1_look_34 : decode cX1_look 34 = .ok (.getfield 25, 3) := by decide +kernel
theorem dX1_look_37 : decode cX1_look 37 = .ok (.iload_n 1, 1) := by decide +kernel
theorem dX1_look_38 : decode cX1_look 38 = .ok (.iaload, 1) := by decide +kernel
theorem dX1_look_39 : decode cX1_look 39 = .ok (.iconst 1, 1) := by decide +kernel
theorem dX1_look_40 : decode cX1_look 40 = .ok (.isub, 1) := by decide +kernel
theorem dX1_look_41 : decode cX1_look 41 = .ok (.invokestatic 99, 3) := by decide +kernel
theorem dX1_look_44 : decode cX1_look 44 = .ok (.iload 5, 2) := by decide +kernel
theorem dX1_look_46 : decode cX1_look 46 = .ok (.iadd, 1) := by decide +kernel
theorem dX1_look_47 : decode cX1_look 47 = .ok (.iaload, 1) := by decide +kernel
theorem dX1_look_48 : decode cX1_look 48 = .ok (.istore 6, 2) := by decide +kernel
theorem dX1_look_50 : decode cX1_look 50 = .ok (.iload_n 3, 1) := by decide +kernel
theorem dX1_look_51 : decode cX1_look 51 = .ok (.iload 6, 2) := by decide +kernel
theorem dX1_look_53 : decode cX1_look 53 = .ok (.iadd, 1) := by decide +kernel
theorem dX1_look_54 : decode cX1_look 54 = .ok (.istore_n 3, 1) := by decide +kernel
theorem dX1_look_55 : decode cX1_look 55 = .ok (.iload 4, 2) := by decide +kernel
theorem dX1_look_57 : decode cX1_look 57 = .ok (.iload 6, 2) := by decide +kernel
theorem dX1_look_59 : decode cX1_look 59 = .ok (.aload_n 0, 1) := by decide +kernel
theorem dX1_look_60 : decode cX1_look 60 = .ok (.getfield 7, 3) := by decide +kernel
theorem dX1_look_63 : decode cX1_look 63 = .ok (.iconst 3, 1) := by decide +kernel
theorem dX1_look_64 : decode cX1_look 64 = .ok (.aload_n 0, 1) := by decide +kernel
theorem dX1_look_65 : decode cX1_look 65 = .ok (.getfield 13, 3) := by decide +kernel
theorem dX1_look_68 : decode cX1_look 68 = .ok (.iload 5, 2) := by decide +kernel
theorem dX1_look_70 : decode cX1_look 70 = .ok (.iaload, 1) := by decide +kernel
theorem dX1_look_71 : decode cX1_look 71 = .ok (.imul, 1) := by decide +kernel
theorem dX1_look_72 : decode cX1_look 72 = .ok (.iload_n 2, 1) := by decide +kernel
theorem dX1_look_73 : decode cX1_look 73 = .ok (.iadd, 1) := by decide +kernel
theorem dX1_look_74 : decode cX1_look 74 = .ok (.iaload, 1) := by decide +kernel
theorem dX1_look_75 : decode cX1_look 75 = .ok (.imul, 1) := by decide +kernel
theorem dX1_look_76 : decode cX1_look 76 = .ok (.iadd, 1) := by decide +kernel
theorem dX1_look_77 : decode cX1_look 77 = .ok (.istore 4, 2) := by decide +kernel
theorem dX1_look_79 : decode cX1_look 79 = .ok (.iinc 5 1, 3) := by decide +kernel
theorem dX1_look_82 : decode cX1_look 82 = .ok (.goto (-63), 3) := by decide +kernel
theorem dX1_look_85 : decode cX1_look 85 = .ok (.iload 4, 2) := by decide +kernel
theorem dX1_look_87 : decode cX1_look 87 = .ok (.iload_n 3, 1) := by decide +kernel
theorem dX1_look_88 : decode cX1_look 88 = .ok (.idiv, 1) := by decide +kernel
theorem dX1_look_89 : decode cX1_look 89 = .ok (.ireturn, 1) := by decide +kernel
theorem dX1_value_0 : decode cX1_value 0 = .ok (.aload_n 0, 1) := by decide +kernel
theorem dX1_value_1 : decode cX1_value 1 = .ok (.iload_n 1, 1) := by decide +kernel
theorem dX1_value_2 : decode cX1_value 2 = .ok (.invokevirtual 103, 3) := by decide +kernel
theorem dX1_value_5 : decode cX1_value 5 = .ok (.istore_n 2, 1) := by decide +kernel
theorem dX1_value_6 : decode cX1_value 6 = .ok (.iconst 0, 1) := by decide +kernel
theorem dX1_value_7 : decode cX1_value 7 = .ok (.istore_n 3, 1) := by decide +kernel
theorem dX1_value_8 : decode cX1_value 8 = .ok (.iconst 0, 1) := by decide +kernel
theorem dX1_value_9 : decode cX1_value 9 = .ok (.istore 4, 2) := by decide +kernel
theorem dX1_value_11 : decode cX1_value 11 = .ok (.iconst 0, 1) := by decide +kernel
theorem dX1_value_12 : decode cX1_value 12 = .ok (.istore 5, 2) := by decide +kernel
theorem dX1_value_14 : decode cX1_value 14 = .ok (.iload 5, 2) := by decide +kernel
theorem dX1_value_16 : decode cX1_value 16 = .ok (.aload_n 0, 1) := by decide +kernel
theorem dX1_value_17 : decode cX1_value 17 = .ok (.getfield 72, 3) := by decide +kernel
theorem dX1_value_20 : decode cX1_value 20 = .ok (.if_icmp .ge 47, 3) := by decide +kernel
theorem dX1_value_23 : decode cX1_value 23 = .ok (.iload_n 2, 1) := by decide +kernel
theorem dX1_value_24 : decode cX1_value 24 = .ok (.iconst (-1), 1) := by decide +kernel
theorem dX1_value_25 : decode cX1_value 25 = .ok (.if_icmp .eq 36, 3) := by decide +kernel
theorem dX1_value_28 : decode cX1_value 28 = .ok (.aload_n 0, 1) := by decide +kernel
theorem dX1_value_29 : decode cX1_value 29 = .ok (.getfield 34, 3) := by decide +kernel
theorem dX1_value_32 : decode cX1_value 32 = .ok (.iload 5, 2) := by decide +kernel
theorem dX1_value_34 : decode cX1_value 34 = .ok (.iaload, 1) := by decide +kernel
theorem dX1_value_35 : decode cX1_value 35 = .ok (.ifCond .le 26, 3) := by decide +kernel
theorem dX1_value_38 : decode cX1_value 38 = .ok (.aload_n 0, 1) := by decide +kernel
theorem dX1_value_39 : decode cX1_value 39 = .ok (.iload 5, 2) := by decide +kernel
theorem dX1_value_41 : decode cX1_value 41 = .ok (.invokevirtual 103, 3) := by decide +kernel
theorem dX1_value_44 : decode cX1_value 44 = .ok (.iload_n 2, 1) := by decide +kernel
theorem dX1_value_45 : decode cX1_value 45 = .ok (.if_icmp .ne 16, 3) := by decide +kernel
theorem dX1_value_48 : decode cX1_value 48 = .ok (.iload_n 3, 1) := by decide +kernel
theorem dX1_value_49 : decode cX1_value 49 = .ok (.aload_n 0, 1) := by decide +kernel
theorem dX1_value_50 : decode cX1_value 50 = .ok (.getfield 34, 3) := by decide +kernel
theorem dX1_value_53 : decode cX1_value 53 = .ok (.iload 5, 2) := by decide +kernel
theorem dX1_value_55 : decode cX1_value 55 = .ok (.iaload, 1) := by decide +kernel
theorem dX1_value_56 : decode cX1_value 56 = .ok (.iadd, 1) := by decide +kernel
theorem dX1_value_57 : decode cX1_value 57 = .ok (.istore_n 3, 1) := by decide +kernel
theorem dX1_value_58 : decode cX1_value 58 = .ok (.iinc 4 1, 3) := by decide +kernel
theorem dX1_value_61 : decode cX1_value 61 = .ok (.iinc 5 1, 3) := by decide +kernel
theorem dX1_value_64 : decode cX1_value 64 = .ok (.goto (-50), 3) := by decide +kernel
theorem dX1_value_67 : decode cX1_value 67 = .ok (.iload 4, 2) := by decide +kernel
theorem dX1_value_69 : decode cX1_value 69 = .ok (.ifCond .ne 7, 3) := by decide +kernel
theorem dX1_value_72 : decode cX1_value 72 = .ok (.iconst 0, 1) := by decide +kernel
theorem dX1_value_73 : decode cX1_value 73 = .ok (.goto 7, 3) := by decide +kernel
theorem dX1_value_76 : decode cX1_value 76 = .ok (.iload_n 3, 1) := by decide +kernel
theorem dX1_value_77 : decode cX1_value 77 = .ok (.iload 4, 2) := by decide +kernel
theorem dX1_value_79 : decode cX1_value 79 = .ok (.idiv, 1) := by decide +kernel
theorem dX1_value_80 : decode cX1_value 80 = .ok (.istore 5, 2) := by decide +kernel
theorem dX1_value_82 : decode cX1_value 82 = .ok (.iload 5, 2) := by decide +kernel
theorem dX1_value_84 : decode cX1_value 84 = .ok (.aload_n 0, 1) := by decide +kernel
theorem dX1_value_85 : decode cX1_value 85 = .ok (.getfield 31, 3) := by decide +kernel
theorem dX1_value_88 : decode cX1_value 88 = .ok (.iload_n 1, 1) := by decide +kernel
theorem dX1_value_89 : decode cX1_value 89 = .ok (.iaload, 1) := by decide +kernel
theorem dX1_value_90 : decode cX1_value 90 = .ok (.iload 5, 2) := by decide +kernel
theorem dX1_value_92 : decode cX1_value 92 = .ok (.bipush 20, 2) := by decide +kernel
theorem dX1_value_94 : decode cX1_value 94 = .ok (.idiv, 1) := by decide +kernel
theorem dX1_value_95 : decode cX1_value 95 = .ok (.imul, 1) := by decide +kernel
theorem dX1_value_96 : decode cX1_value 96 = .ok (.isub, 1) := by decide +kernel
theorem dX1_value_97 : decode cX1_value 97 = .ok (.istore 6, 2) := by decide +kernel
theorem dX1_value_99 : decode cX1_value 99 = .ok (.iload 6, 2) := by decide +kernel
theorem dX1_value_101 : decode cX1_value 101 = .ok (.ifCond .ge 7, 3) := by decide +kernel
theorem dX1_value_104 : decode cX1_value 104 = .ok (.iconst 0, 1) := by decide +kernel
theorem dX1_value_105 : decode cX1_value 105 = .ok (.goto 5, 3) := by decide +kernel
theorem dX1_value_108 : decode cX1_value 108 = .ok (.iload 6, 2) := by decide +kernel
theorem dX1_value_110 : decode cX1_value 110 = .ok (.ireturn, 1) := by decide +kernel
theorem dX1_damp_0 : decode cX1_damp 0 = .ok (.aload_n 0, 1) := by decide +kernel
theorem dX1_damp_1 : decode cX1_damp 1 = .ok (.iload_n 1, 1) := by decide +kernel
theorem dX1_damp_2 : decode cX1_damp 2 = .ok (.invokestatic 106, 3) := by decide +kernel
theorem dX1_damp_5 : decode cX1_damp 5 = .ok (.ifCond .ne 7, 3) := by decide +kernel
theorem dX1_damp_8 : decode cX1_damp 8 = .ok (.iconst 1, 1) := by decide +kernel
theorem dX1_damp_9 : decode cX1_damp 9 = .ok (.goto 18, 3) := by decide +kernel
theorem dX1_damp_12 : decode cX1_damp 12 = .ok (.iload_n 2, 1) := by decide +kernel
theorem dX1_damp_13 : decode cX1_damp 13 = .ok (.iconst 0, 1) := by decide +kernel
theorem dX1_damp_14 : decode cX1_damp 14 = .ok (.bipush 100, 2) := by decide +kernel
theorem dX1_damp_16 : decode cX1_damp 16 = .ok (.invokestatic 62, 3) := by decide +kernel
theorem dX1_damp_19 : decode cX1_damp 19 = .ok (.ifCond .ne 7, 3) := by decide +kernel
theorem dX1_damp_22 : decode cX1_damp 22 = .ok (.iconst 2, 1) := by decide +kernel
theorem dX1_damp_23 : decode cX1_damp 23 = .ok (.goto 4, 3) := by decide +kernel
theorem dX1_damp_26 : decode cX1_damp 26 = .ok (.iconst 0, 1) := by decide +kernel
theorem dX1_damp_27 : decode cX1_damp 27 = .ok (.putfield 58, 3) := by decide +kernel
theorem dX1_damp_30 : decode cX1_damp 30 = .ok (.aload_n 0, 1) := by decide +kernel
theorem dX1_damp_31 : decode cX1_damp 31 = .ok (.getfield 58, 3) := by decide +kernel
theorem dX1_damp_34 : decode cX1_damp 34 = .ok (.ifCond .le 5, 3) := by decide +kernel
theorem dX1_damp_37 : decode cX1_damp 37 = .ok (.iconst 0, 1) := by decide +kernel
theorem dX1_damp_38 : decode cX1_damp 38 = .ok (.ireturn, 1) := by decide +kernel
theorem dX1_damp_39 : decode cX1_damp 39 = .ok (.aload_n 0, 1) := by decide +kernel
theorem dX1_damp_40 : decode cX1_damp 40 = .ok (.getfield 46, 3) := by decide +kernel
theorem dX1_damp_43 : decode cX1_damp 43 = .ok (.iload_n 1, 1) := by decide +kernel
theorem dX1_damp_44 : decode cX1_damp 44 = .ok (.iaload, 1) := by decide +kernel
theorem dX1_damp_45 : decode cX1_damp 45 = .ok (.istore_n 3, 1) := by decide +kernel
theorem dX1_damp_46 : decode cX1_damp 46 = .ok (.aload_n 0, 1) := by decide +kernel
theorem dX1_damp_47 : decode cX1_damp 47 = .ok (.getfield 46, 3) := by decide +kernel
theorem dX1_damp_50 : decode cX1_damp 50 = .ok (.iload_n 1, 1) := by decide +kernel
theorem dX1_damp_51 : decode cX1_damp 51 = .ok (.iload_n 2, 1) := by decide +kernel
theorem dX1_damp_52 : decode cX1_damp 52 = .ok (.iastore, 1) := by decide +kernel
theorem dX1_damp_53 : decode cX1_damp 53 = .ok (.iload_n 3, 1) := by decide +kernel
theorem dX1_damp_54 : decode cX1_damp 54 = .ok (.ireturn, 1) := by decide +kernel
theorem dX1_lend_0 : decode cX1_lend 0 = .ok (.aload_n 0, 1) := by decide +kernel
theorem dX1_lend_1 : decode cX1_lend 1 = .ok (.aload_n 0, 1) := by decide +kernel
theorem dX1_lend_2 : decode cX1_lend 2 = .ok (.iload_n 1, 1) := by decide +kernel
theorem dX1_lend_3 : decode cX1_lend 3 = .ok (.invokevirtual 96, 3) := by decide +kernel
theorem dX1_lend_6 : decode cX1_lend 6 = .ok (.ifCond .eq 10, 3) := by decide +kernel
theorem dX1_lend_9 : decode cX1_lend 9 = .ok (.iload_n 2, 1) := by decide +kernel
theorem dX1_lend_10 : decode cX1_lend 10 = .ok (.invokestatic 106, 3) := by decide +kernel
theorem dX1_lend_13 : decode cX1_lend 13 = .ok (.ifCond .ne 7, 3) := by decide +kernel
theorem dX1_lend_16 : decode cX1_lend 16 = .ok (.iconst 1, 1) := by decide +kernel
theorem dX1_lend_17 : decode cX1_lend 17 = .ok (.goto 43, 3) := by decide +kernel
theorem dX1_lend_20 : decode cX1_lend 20 = .ok (.iload_n 3, 1) := by decide +kernel
theorem dX1_lend_21 : decode cX1_lend 21 = .ok (.iconst 1, 1) := by decide +kernel
theorem dX1_lend_22 : decode cX1_lend 22 = .ok (.bipush 100, 2) := by decide +kernel
theorem dX1_lend_24 : decode cX1_lend 24 = .ok (.invokestatic 62, 3) := by decide +kernel
theorem dX1_lend_27 : decode cX1_lend 27 = .ok (.ifCond .ne 7, 3) := by decide +kernel
theorem dX1_lend_30 : decode cX1_lend 30 = .ok (.iconst 2, 1) := by decide +kernel
theorem dX1_lend_31 : decode cX1_lend 31 = .ok (.goto 29, 3) := by decide +kernel
theorem dX1_lend_34 : decode cX1_lend 34 = .ok (.aload_n 0, 1) := by decide +kernel
theorem dX1_lend_35 : decode cX1_lend 35 = .ok (.getfield 37, 3) := by decide +kernel
theorem dX1_lend_38 : decode cX1_lend 38 = .ok (.iload_n 1, 1) := by decide +kernel
theorem dX1_lend_39 : decode cX1_lend 39 = .ok (.iaload, 1) := by decide +kernel
theorem dX1_lend_40 : decode cX1_lend 40 = .ok (.iconst (-1), 1) := by decide +kernel
theorem dX1_lend_41 : decode cX1_lend 41 = .ok (.if_icmp .ne 14, 3) := by decide +kernel
theorem dX1_lend_44 : decode cX1_lend 44 = .ok (.aload_n 0, 1) := by decide +kernel
theorem dX1_lend_45 : decode cX1_lend 45 = .ok (.getfield 31, 3) := by decide +kernel
theorem dX1_lend_48 : decode cX1_lend 48 = .ok (.iload_n 1, 1) := by decide +kernel
theorem dX1_lend_49 : decode cX1_lend 49 = .ok (.iaload, 1) := by decide +kernel
theorem dX1_lend_50 : decode cX1_lend 50 = .ok (.bipush 10, 2) := by decide +kernel
theorem dX1_lend_52 : decode cX1_lend 52 = .ok (.if_icmp .lt 7, 3) := by decide +kernel
theorem dX1_lend_55 : decode cX1_lend 55 = .ok (.iconst 3, 1) := by decide +kernel
theorem dX1_lend_56 : decode cX1_lend 56 = .ok (.goto 4, 3) := by decide +kernel
theorem dX1_lend_59 : decode cX1_lend 59 = .ok (.iconst 0, 1) := by decide +kernel
theorem dX1_lend_60 : decode cX1_lend 60 = .ok (.putfield 58, 3) := by decide +kernel
theorem dX1_lend_63 : decode cX1_lend 63 = .ok (.aload_n 0, 1) := by decide +kernel
theorem dX1_lend_64 : decode cX1_lend 64 = .ok (.getfield 58, 3) := by decide +kernel
theorem dX1_lend_67 : decode cX1_lend 67 = .ok (.ifCond .le 5, 3) := by decide +kernel
theorem dX1_lend_70 : decode cX1_lend 70 = .ok (.iconst 0, 1) := by decide +kernel
theorem dX1_lend_71 : decode cX1_lend 71 = .ok (.ireturn, 1) := by decide +kernel
theorem dX1_lend_72 : decode cX1_lend 72 = .ok (.aload_n 0, 1) := by decide +kernel
theorem dX1_lend_73 : decode cX1_lend 73 = .ok (.getfield 37, 3) := by decide +kernel
theorem dX1_lend_76 : decode cX1_lend 76 = .ok (.iload_n 1, 1) := by decide +kernel
theorem dX1_lend_77 : decode cX1_lend 77 = .ok (.iload_n 2, 1) := by decide +kernel
theorem dX1_lend_78 : decode cX1_lend 78 = .ok (.iastore, 1) := by decide +kernel
theorem dX1_lend_79 : decode cX1_lend 79 = .ok (.aload_n 0, 1) := by decide +kernel
theorem dX1_lend_80 : decode cX1_lend 80 = .ok (.getfield 40, 3) := by decide +kernel
theorem dX1_lend_83 : decode cX1_lend 83 = .ok (.iload_n 1, 1) := by decide +kernel
theorem dX1_lend_84 : decode cX1_lend 84 = .ok (.iload_n 3, 1) := by decide +kernel
theorem dX1_lend_85 : decode cX1_lend 85 = .ok (.iastore, 1) := by decide +kernel
theorem dX1_lend_86 : decode cX1_lend 86 = .ok (.aload_n 0, 1) := by decide +kernel
theorem dX1_lend_87 : decode cX1_lend 87 = .ok (.getfield 43, 3) := by decide +kernel
theorem dX1_lend_90 : decode cX1_lend 90 = .ok (.iload_n 1, 1) := by decide +kernel
theorem dX1_lend_91 : decode cX1_lend 91 = .ok (.aload_n 0, 1) := by decide +kernel
theorem dX1_lend_92 : decode cX1_lend 92 = .ok (.iload_n 1, 1) := by decide +kernel
theorem dX1_lend_93 : decode cX1_lend 93 = .ok (.invokevirtual 109, 3) := by decide +kernel
theorem dX1_lend_96 : decode cX1_lend 96 = .ok (.bipush 100, 2) := by decide +kernel
theorem dX1_lend_98 : decode cX1_lend 98 = .ok (.idiv, 1) := by decide +kernel
theorem dX1_lend_99 : decode cX1_lend 99 = .ok (.iconst 1, 1) := by decide +kernel
theorem dX1_lend_100 : decode cX1_lend 100 = .ok (.iadd, 1) := by decide +kernel
theorem dX1_lend_101 : decode cX1_lend 101 = .ok (.iastore, 1) := by decide +kernel
theorem dX1_lend_102 : decode cX1_lend 102 = .ok (.aload_n 0, 1) := by decide +kernel
theorem dX1_lend_103 : decode cX1_lend 103 = .ok (.getfield 43, 3) := by decide +kernel
theorem dX1_lend_106 : decode cX1_lend 106 = .ok (.iload_n 1, 1) := by decide +kernel
theorem dX1_lend_107 : decode cX1_lend 107 = .ok (.iaload, 1) := by decide +kernel
theorem dX1_lend_108 : decode cX1_lend 108 = .ok (.ireturn, 1) := by decide +kernel
theorem dX1_sell_0 : decode cX1_sell 0 = .ok (.aload_n 0, 1) := by decide +kernel
theorem dX1_sell_1 : decode cX1_sell 1 = .ok (.aload_n 0, 1) := by decide +kernel
theorem dX1_sell_2 : decode cX1_sell 2 = .ok (.iload_n 1, 1) := by decide +kernel
theorem dX1_sell_3 : decode cX1_sell 3 = .ok (.invokevirtual 96, 3) := by decide +kernel
theorem dX1_sell_6 : decode cX1_sell 6 = .ok (.ifCond .ne 7, 3) := by decide +kernel
theorem dX1_sell_9 : decode cX1_sell 9 = .ok (.iconst 1, 1) := by decide +kernel
theorem dX1_sell_10 : decode cX1_sell 10 = .ok (.goto 41, 3) := by decide +kernel
theorem dX1_sell_13 : decode cX1_sell 13 = .ok (.iload_n 2, 1) := by decide +kernel
theorem dX1_sell_14 : decode cX1_sell 14 = .ok (.iconst 1, 1) := by decide +kernel
theorem dX1_sell_15 : decode cX1_sell 15 = .ok (.ldc 112, 2) := by decide +kernel
theorem dX1_sell_17 : decode cX1_sell 17 = .ok (.invokestatic 62, 3) := by decide +kernel
theorem dX1_sell_20 : decode cX1_sell 20 = .ok (.ifCond .ne 7, 3) := by decide +kernel
theorem dX1_sell_23 : decode cX1_sell 23 = .ok (.iconst 2, 1) := by decide +kernel
theorem dX1_sell_24 : decode cX1_sell 24 = .ok (.goto 27, 3) := by decide +kernel
theorem dX1_sell_27 : decode cX1_sell 27 = .ok (.aload_n 0, 1) := by decide +kernel
theorem dX1_sell_28 : decode cX1_sell 28 = .ok (.getfield 37, 3) := by decide +kernel
theorem dX1_sell_31 : decode cX1_sell 31 = .ok (.iload_n 1, 1) := by decide +kernel
theorem dX1_sell_32 : decode cX1_sell 32 = .ok (.iaload, 1) := by decide +kernel
theorem dX1_sell_33 : decode cX1_sell 33 = .ok (.iconst (-1), 1) := by decide +kernel
theorem dX1_sell_34 : decode cX1_sell 34 = .ok (.if_icmp .ne 12, 3) := by decide +kernel
theorem dX1_sell_37 : decode cX1_sell 37 = .ok (.aload_n 0, 1) := by decide +kernel
theorem dX1_sell_38 : decode cX1_sell 38 = .ok (.getfield 25, 3) := by decide +kernel
theorem dX1_sell_41 : decode cX1_sell 41 = .ok (.iload_n 1, 1) := by decide +kernel
theorem dX1_sell_42 : decode cX1_sell 42 = .ok (.iaload, 1) := by decide +kernel
theorem dX1_sell_43 : decode cX1_sell 43 = .ok (.ifCond .ne 7, 3) := by decide +kernel
theorem dX1_sell_46 : decode cX1_sell 46 = .ok (.iconst 3, 1) := by decide +kernel
theorem dX1_sell_47 : decode cX1_sell 47 = .ok (.goto 4, 3) := by decide +kernel
theorem dX1_sell_50 : decode cX1_sell 50 = .ok (.iconst 0, 1) := by decide +kernel
theorem dX1_sell_51 : decode cX1_sell 51 = .ok (.putfield 58, 3) := by decide +kernel
theorem dX1_sell_54 : decode cX1_sell 54 = .ok (.aload_n 0, 1) := by decide +kernel
theorem dX1_sell_55 : decode cX1_sell 55 = .ok (.getfield 58, 3) := by decide +kernel
theorem dX1_sell_58 : decode cX1_sell 58 = .ok (.ifCond .le 5, 3) := by decide +kernel
theorem dX1_sell_61 : decode cX1_sell 61 = .ok (.iconst 0, 1) := by decide +kernel
theorem dX1_sell_62 : decode cX1_sell 62 = .ok (.ireturn, 1) := by decide +kernel
theorem dX1_sell_63 : decode cX1_sell 63 = .ok (.aload_n 0, 1) := by decide +kernel
theorem dX1_sell_64 : decode cX1_sell 64 = .ok (.getfield 34, 3) := by decide +kernel
theorem dX1_sell_67 : decode cX1_sell 67 = .ok (.iload_n 1, 1) := by decide +kernel
theorem dX1_sell_68 : decode cX1_sell 68 = .ok (.iload_n 2, 1) := by decide +kernel
theorem dX1_sell_69 : decode cX1_sell 69 = .ok (.iastore, 1) := by decide +kernel
theorem dX1_sell_70 : decode cX1_sell 70 = .ok (.aload_n 0, 1) := by decide +kernel
theorem dX1_sell_71 : decode cX1_sell 71 = .ok (.iload_n 1, 1) := by decide +kernel
theorem dX1_sell_72 : decode cX1_sell 72 = .ok (.invokevirtual 109, 3) := by decide +kernel
theorem dX1_sell_75 : decode cX1_sell 75 = .ok (.ireturn, 1) := by decide +kernel
theorem dX1_passOne_0 : decode cX1_passOne 0 = .ok (.aload_n 0, 1) := by decide +kernel
theorem dX1_passOne_1 : decode cX1_passOne 1 = .ok (.dup, 1) := by decide +kernel
theorem dX1_passOne_2 : decode cX1_passOne 2 = .ok (.getfield 113, 3) := by decide +kernel
theorem dX1_passOne_5 : decode cX1_passOne 5 = .ok (.iconst 1, 1) := by decide +kernel
theorem dX1_passOne_6 : decode cX1_passOne 6 = .ok (.iadd, 1) := by decide +kernel
theorem dX1_passOne_7 : decode cX1_passOne 7 = .ok (.putfield 113, 3) := by decide +kernel
theorem dX1_passOne_10 : decode cX1_passOne 10 = .ok (.iconst 0, 1) := by decide +kernel
theorem dX1_passOne_11 : decode cX1_passOne 11 = .ok (.istore_n 1, 1) := by decide +kernel
theorem dX1_passOne_12 : decode cX1_passOne 12 = .ok (.iload_n 1, 1) := by decide +kernel
theorem dX1_passOne_13 : decode cX1_passOne 13 = .ok (.aload_n 0, 1) := by decide +kernel
theorem dX1_passOne_14 : decode cX1_passOne 14 = .ok (.getfield 72, 3) := by decide +kernel
theorem dX1_passOne_17 : decode cX1_passOne 17 = .ok (.if_icmp .ge 96, 3) := by decide +kernel
theorem dX1_passOne_20 : decode cX1_passOne 20 = .ok (.aload_n 0, 1) := by decide +kernel
theorem dX1_passOne_21 : decode cX1_passOne 21 = .ok (.getfield 37, 3) := by decide +kernel
theorem dX1_passOne_24 : decode cX1_passOne 24 = .ok (.iload_n 1, 1) := by decide +kernel
theorem dX1_passOne_25 : decode cX1_passOne 25 = .ok (.iaload, 1) := by decide +kernel
theorem dX1_passOne_26 : decode cX1_passOne 26 = .ok (.istore_n 2, 1) := by decide +kernel
theorem dX1_passOne_27 : decode cX1_passOne 27 = .ok (.iload_n 2, 1) := by decide +kernel
theorem dX1_passOne_28 : decode cX1_passOne 28 = .ok (.iconst (-1), 1) := by decide +kernel
theorem dX1_passOne_29 : decode cX1_passOne 29 = .ok (.if_icmp .eq 78, 3) := by decide +kernel
theorem dX1_passOne_32 : decode cX1_passOne 32 = .ok (.aload_n 0, 1) := by decide +kernel
theorem dX1_passOne_33 : decode cX1_passOne 33 = .ok (.getfield 49, 3) := by decide +kernel
theorem dX1_passOne_36 : decode cX1_passOne 36 = .ok (.iload_n 2, 1) := by decide +kernel
theorem dX1_passOne_37 : decode cX1_passOne 37 = .ok (.dup2, 1) := by decide +kernel
theorem dX1_passOne_38 : decode cX1_passOne 38 = .ok (.iaload, 1) := by decide +kernel
theorem dX1_passOne_39 : decode cX1_passOne 39 = .ok (.aload_n 0, 1) := by decide +kernel
theorem dX1_passOne_40 : decode cX1_passOne 40 = .ok (.getfield 43, 3) := by decide +kernel
theorem dX1_passOne_43 : decode cX1_passOne 43 = .ok (.iload_n 1, 1) := by decide +kernel
theorem dX1_passOne_44 : decode cX1_passOne 44 = .ok (.iaload, 1) := by decide +kernel
theorem dX1_passOne_45 : decode cX1_passOne 45 = .ok (.iadd, 1) := by decide +kernel
theorem dX1_passOne_46 : decode cX1_passOne 46 = .ok (.iastore, 1) := by decide +kernel
theorem dX1_passOne_47 : decode cX1_passOne 47 = .ok (.aload_n 0, 1) := by decide +kernel
theorem dX1_passOne_48 : decode cX1_passOne 48 = .ok (.getfield 31, 3) := by decide +kernel
theorem dX1_passOne_51 : decode cX1_passOne 51 = .ok (.iload_n 1, 1) := by decide +kernel
theorem dX1_passOne_52 : decode cX1_passOne 52 = .ok (.dup2, 1) := by decide +kernel
theorem dX1_passOne_53 : decode cX1_passOne 53 = .ok (.iaload, 1) := by decide +kernel
theorem dX1_passOne_54 : decode cX1_passOne 54 = .ok (.aload_n 0, 1) := by decide +kernel
theorem dX1_passOne_55 : decode cX1_passOne 55 = .ok (.getfield 46, 3) := by decide +kernel
theorem dX1_passOne_58 : decode cX1_passOne 58 = .ok (.iload_n 2, 1) := by decide +kernel
theorem dX1_passOne_59 : decode cX1_passOne 59 = .ok (.iaload, 1) := by decide +kernel
theorem dX1_passOne_60 : decode cX1_passOne 60 = .ok (.bipush 40, 2) := by decide +kernel
theorem dX1_passOne_62 : decode cX1_passOne 62 = .ok (.bipush 60, 2) := by decide +kernel
theorem dX1_passOne_64 : decode cX1_passOne 64 = .ok (.invokestatic 62, 3) := by decide +kernel
theorem dX1_passOne_67 : decode cX1_passOne 67 = .ok (.ifCond .eq 7, 3) := by decide +kernel
theorem dX1_passOne_70 : decode cX1_passOne 70 = .ok (.iconst 0, 1) := by decide +kernel
theorem dX1_passOne_71 : decode cX1_passOne 71 = .ok (.goto 4, 3) := by decide +kernel
theorem dX1_passOne_74 : decode cX1_passOne 74 = .ok (.iconst 1, 1) := by decide +kernel
theorem dX1_passOne_75 : decode cX1_passOne 75 = .ok (.iadd, 1) := by decide +kernel
theorem dX1_passOne_76 : decode cX1_passOne 76 = .ok (.iastore, 1) := by decide +kernel
theorem dX1_passOne_77 : decode cX1_passOne 77 = .ok (.aload_n 0, 1) := by decide +kernel
theorem dX1_passOne_78 : decode cX1_passOne 78 = .ok (.getfield 40, 3) := by decide +kernel
theorem dX1_passOne_81 : decode cX1_passOne 81 = .ok (.iload_n 1, 1) := by decide +kernel
theorem dX1_passOne_82 : decode cX1_passOne 82 = .ok (.dup2, 1) := by decide +kernel
theorem dX1_passOne_83 : decode cX1_passOne 83 = .ok (.iaload, 1) := by decide +kernel
theorem dX1_passOne_84 : decode cX1_passOne 84 = .ok (.iconst 1, 1) := by decide +kernel
theorem dX1_passOne_85 : decode cX1_passOne 85 = .ok (.isub, 1) := by decide +kernel
theorem dX1_passOne_86 : decode cX1_passOne 86 = .ok (.iastore, 1) := by decide +kernel
theorem dX1_passOne_87 : decode cX1_passOne 87 = .ok (.aload_n 0, 1) := by decide +kernel
theorem dX1_passOne_88 : decode cX1_passOne 88 = .ok (.getfield 37, 3) := by decide +kernel
theorem dX1_passOne_91 : decode cX1_passOne 91 = .ok (.iload_n 1, 1) := by decide +kernel
theorem dX1_passOne_92 : decode cX1_passOne 92 = .ok (.aload_n 0, 1) := by decide +kernel
theorem dX1_passOne_93 : decode cX1_passOne 93 = .ok (.getfield 40, 3) := by decide +kernel
theorem dX1_passOne_96 : decode cX1_passOne 96 = .ok (.iload_n 1, 1) := by decide +kernel
theorem dX1_passOne_97 : decode cX1_passOne 97 = .ok (.iaload, 1) := by decide +kernel
theorem dX1_passOne_98 : decode cX1_passOne 98 = .ok (.ifCond .ne 7, 3) := by decide +kernel
theorem dX1_passOne_101 : decode cX1_passOne 101 = .ok (.iconst (-1), 1) := by decide +kernel
theorem dX1_passOne_102 : decode cX1_passOne 102 = .ok (.goto 4, 3) := by decide +kernel
theorem dX1_passOne_105 : decode cX1_passOne 105 = .ok (.iload_n 2, 1) := by decide +kernel
theorem dX1_passOne_106 : decode cX1_passOne 106 = .ok (.iastore, 1) := by decide +kernel
theorem dX1_passOne_107 : decode cX1_passOne 107 = .ok (.iinc 1 1, 3) := by decide +kernel
theorem dX1_passOne_110 : decode cX1_passOne 110 = .ok (.goto (-98), 3) := by decide +kernel
theorem dX1_passOne_113 : decode cX1_passOne 113 = .ok (.return_, 1) := by decide +kernel
theorem dX1_pass_0 : decode cX1_pass 0 = .ok (.aload_n 0, 1) := by decide +kernel
theorem dX1_pass_1 : decode cX1_pass 1 = .ok (.iload_n 1, 1) := by decide +kernel
theorem dX1_pass_2 : decode cX1_pass 2 = .ok (.iconst 1, 1) := by decide +kernel
theorem dX1_pass_3 : decode cX1_pass 3 = .ok (.bipush 100, 2) := by decide +kernel
theorem dX1_pass_5 : decode cX1_pass 5 = .ok (.invokestatic 62, 3) := by decide +kernel
theorem dX1_pass_8 : decode cX1_pass 8 = .ok (.ifCond .ne 7, 3) := by decide +kernel
theorem dX1_pass_11 : decode cX1_pass 11 = .ok (.iconst 1, 1) := by decide +kernel
theorem dX1_pass_12 : decode cX1_pass 12 = .ok (.goto 20, 3) := by decide +kernel
theorem dX1_pass_15 : decode cX1_pass 15 = .ok (.aload_n 0, 1) := by decide +kernel
theorem dX1_pass_16 : decode cX1_pass 16 = .ok (.getfield 113, 3) := by decide +kernel
theorem dX1_pass_19 : decode cX1_pass 19 = .ok (.iload_n 1, 1) := by decide +kernel
theorem dX1_pass_20 : decode cX1_pass 20 = .ok (.iadd, 1) := by decide +kernel
theorem dX1_pass_21 : decode cX1_pass 21 = .ok (.sipush 5000, 3) := by decide +kernel
theorem dX1_pass_24 : decode cX1_pass 24 = .ok (.if_icmp .le 7, 3) := by decide +kernel
theorem dX1_pass_27 : decode cX1_pass 27 = .ok (.iconst 2, 1) := by decide +kernel
theorem dX1_pass_28 : decode cX1_pass 28 = .ok (.goto 4, 3) := by decide +kernel
theorem dX1_pass_31 : decode cX1_pass 31 = .ok (.iconst 0, 1) := by decide +kernel
theorem dX1_pass_32 : decode cX1_pass 32 = .ok (.putfield 58, 3) := by decide +kernel
theorem dX1_pass_35 : decode cX1_pass 35 = .ok (.aload_n 0, 1) := by decide +kernel
theorem dX1_pass_36 : decode cX1_pass 36 = .ok (.getfield 58, 3) := by decide +kernel
theorem dX1_pass_39 : decode cX1_pass 39 = .ok (.ifCond .le 5, 3) := by decide +kernel
theorem dX1_pass_42 : decode cX1_pass 42 = .ok (.iconst 0, 1) := by decide +kernel
theorem dX1_pass_43 : decode cX1_pass 43 = .ok (.ireturn, 1) := by decide +kernel
theorem dX1_pass_44 : decode cX1_pass 44 = .ok (.iconst 0, 1) := by decide +kernel
theorem dX1_pass_45 : decode cX1_pass 45 = .ok (.istore_n 2, 1) := by decide +kernel
theorem dX1_pass_46 : decode cX1_pass 46 = .ok (.iload_n 2, 1) := by decide +kernel
theorem dX1_pass_47 : decode cX1_pass 47 = .ok (.iload_n 1, 1) := by decide +kernel
theorem dX1_pass_48 : decode cX1_pass 48 = .ok (.if_icmp .ge 13, 3) := by decide +kernel
theorem dX1_pass_51 : decode cX1_pass 51 = .ok (.aload_n 0, 1) := by decide +kernel
theorem dX1_pass_52 : decode cX1_pass 52 = .ok (.invokevirtual 116, 3) := by decide +kernel
theorem dX1_pass_55 : decode cX1_pass 55 = .ok (.iinc 2 1, 3) := by decide +kernel
theorem dX1_pass_58 : decode cX1_pass 58 = .ok (.goto (-12), 3) := by decide +kernel
theorem dX1_pass_61 : decode cX1_pass 61 = .ok (.aload_n 0, 1) := by decide +kernel
theorem dX1_pass_62 : decode cX1_pass 62 = .ok (.getfield 113, 3) := by decide +kernel
theorem dX1_pass_65 : decode cX1_pass 65 = .ok (.ireturn, 1) := by decide +kernel
theorem dX1_left_0 : decode cX1_left 0 = .ok (.aload_n 0, 1) := by decide +kernel
theorem dX1_left_1 : decode cX1_left 1 = .ok (.aload_n 0, 1) := by decide +kernel
theorem dX1_left_2 : decode cX1_left 2 = .ok (.iload_n 1, 1) := by decide +kernel
theorem dX1_left_3 : decode cX1_left 3 = .ok (.invokevirtual 85, 3) := by decide +kernel
theorem dX1_left_6 : decode cX1_left 6 = .ok (.ifCond .eq 7, 3) := by decide +kernel
theorem dX1_left_9 : decode cX1_left 9 = .ok (.iconst 0, 1) := by decide +kernel
theorem dX1_left_10 : decode cX1_left 10 = .ok (.goto 4, 3) := by decide +kernel
theorem dX1_left_13 : decode cX1_left 13 = .ok (.iconst 1, 1) := by decide +kernel
theorem dX1_left_14 : decode cX1_left 14 = .ok (.putfield 58, 3) := by decide +kernel
theorem dX1_left_17 : decode cX1_left 17 = .ok (.aload_n 0, 1) := by decide +kernel
theorem dX1_left_18 : decode cX1_left 18 = .ok (.getfield 58, 3) := by decide +kernel
theorem dX1_left_21 : decode cX1_left 21 = .ok (.ifCond .le 7, 3) := by decide +kernel
theorem dX1_left_24 : decode cX1_left 24 = .ok (.iconst 0, 1) := by decide +kernel
theorem dX1_left_25 : decode cX1_left 25 = .ok (.goto 9, 3) := by decide +kernel
theorem dX1_left_28 : decode cX1_left 28 = .ok (.aload_n 0, 1) := by decide +kernel
theorem dX1_left_29 : decode cX1_left 29 = .ok (.getfield 16, 3) := by decide +kernel
theorem dX1_left_32 : decode cX1_left 32 = .ok (.iload_n 1, 1) := by decide +kernel
theorem dX1_left_33 : decode cX1_left 33 = .ok (.iaload, 1) := by decide +kernel
theorem dX1_left_34 : decode cX1_left 34 = .ok (.ireturn, 1) := by decide +kernel
theorem dX1_has_0 : decode cX1_has 0 = .ok (.aload_n 0, 1) := by decide +kernel
theorem dX1_has_1 : decode cX1_has 1 = .ok (.aload_n 0, 1) := by decide +kernel
theorem dX1_has_2 : decode cX1_has 2 = .ok (.iload_n 1, 1) := by decide +kernel
theorem dX1_has_3 : decode cX1_has 3 = .ok (.invokevirtual 81, 3) := by decide +kernel
theorem dX1_has_6 : decode cX1_has 6 = .ok (.ifCond .eq 20, 3) := by decide +kernel
theorem dX1_has_9 : decode cX1_has 9 = .ok (.iload_n 2, 1) := by decide +kernel
theorem dX1_has_10 : decode cX1_has 10 = .ok (.iconst (-1), 1) := by decide +kernel
theorem dX1_has_11 : decode cX1_has 11 = .ok (.if_icmp .eq 11, 3) := by decide +kernel
theorem dX1_has_14 : decode cX1_has 14 = .ok (.aload_n 0, 1) := by decide +kernel
theorem dX1_has_15 : decode cX1_has 15 = .ok (.iload_n 2, 1) := by decide +kernel
theorem dX1_has_16 : decode cX1_has 16 = .ok (.invokevirtual 85, 3) := by decide +kernel
theorem dX1_has_19 : decode cX1_has 19 = .ok (.ifCond .eq 7, 3) := by decide +kernel
theorem dX1_has_22 : decode cX1_has 22 = .ok (.iconst 0, 1) := by decide +kernel
theorem dX1_has_23 : decode cX1_has 23 = .ok (.goto 4, 3) := by decide +kernel
theorem dX1_has_26 : decode cX1_has 26 = .ok (.iconst 1, 1) := by decide +kernel
theorem dX1_has_27 : decode cX1_has 27 = .ok (.putfield 58, 3) := by decide +kernel
theorem dX1_has_30 : decode cX1_has 30 = .ok (.aload_n 0, 1) := by decide +kernel
theorem dX1_has_31 : decode cX1_has 31 = .ok (.getfield 58, 3) := by decide +kernel
theorem dX1_has_34 : decode cX1_has 34 = .ok (.ifCond .le 5, 3) := by decide +kernel
theorem dX1_has_37 : decode cX1_has 37 = .ok (.iconst 0, 1) := by decide +kernel
theorem dX1_has_38 : decode cX1_has 38 = .ok (.ireturn, 1) := by decide +kernel
theorem dX1_has_39 : decode cX1_has 39 = .ok (.iload_n 2, 1) := by decide +kernel
theorem dX1_has_40 : decode cX1_has 40 = .ok (.iconst (-1), 1) := by decide +kernel
theorem dX1_has_41 : decode cX1_has 41 = .ok (.if_icmp .ne 11, 3) := by decide +kernel
theorem dX1_has_44 : decode cX1_has 44 = .ok (.aload_n 0, 1) := by decide +kernel
theorem dX1_has_45 : decode cX1_has 45 = .ok (.iload_n 1, 1) := by decide +kernel
theorem dX1_has_46 : decode cX1_has 46 = .ok (.invokevirtual 88, 3) := by decide +kernel
theorem dX1_has_49 : decode cX1_has 49 = .ok (.goto 14, 3) := by decide +kernel
theorem dX1_has_52 : decode cX1_has 52 = .ok (.aload_n 0, 1) := by decide +kernel
theorem dX1_has_53 : decode cX1_has 53 = .ok (.getfield 22, 3) := by decide +kernel
theorem dX1_has_56 : decode cX1_has 56 = .ok (.bipush 12, 2) := by decide +kernel
theorem dX1_has_58 : decode cX1_has 58 = .ok (.iload_n 1, 1) := by decide +kernel
theorem dX1_has_59 : decode cX1_has 59 = .ok (.imul, 1) := by decide +kernel
theorem dX1_has_60 : decode cX1_has 60 = .ok (.iload_n 2, 1) := by decide +kernel
theorem dX1_has_61 : decode cX1_has 61 = .ok (.iadd, 1) := by decide +kernel
theorem dX1_has_62 : decode cX1_has 62 = .ok (.iaload, 1) := by decide +kernel
theorem dX1_has_63 : decode cX1_has 63 = .ok (.ireturn, 1) := by decide +kernel
theorem dX1_colour_0 : decode cX1_colour 0 = .ok (.aload_n 0, 1) := by decide +kernel
theorem dX1_colour_1 : decode cX1_colour 1 = .ok (.aload_n 0, 1) := by decide +kernel
theorem dX1_colour_2 : decode cX1_colour 2 = .ok (.iload_n 1, 1) := by decide +kernel
theorem dX1_colour_3 : decode cX1_colour 3 = .ok (.invokevirtual 81, 3) := by decide +kernel
theorem dX1_colour_6 : decode cX1_colour 6 = .ok (.ifCond .ne 7, 3) := by decide +kernel
theorem dX1_colour_9 : decode cX1_colour 9 = .ok (.iconst 1, 1) := by decide +kernel
theorem dX1_colour_10 : decode cX1_colour 10 = .ok (.goto 17, 3) := by decide +kernel
theorem dX1_colour_13 : decode cX1_colour 13 = .ok (.iload_n 2, 1) := by decide +kernel
theorem dX1_colour_14 : decode cX1_colour 14 = .ok (.iconst 0, 1) := by decide +kernel
theorem dX1_colour_15 : decode cX1_colour 15 = .ok (.iconst 2, 1) := by decide +kernel
theorem dX1_colour_16 : decode cX1_colour 16 = .ok (.invokestatic 62, 3) := by decide +kernel
theorem dX1_colour_19 : decode cX1_colour 19 = .ok (.ifCond .ne 7, 3) := by decide +kernel
theorem dX1_colour_22 : decode cX1_colour 22 = .ok (.iconst 2, 1) := by decide +kernel
theorem dX1_colour_23 : decode cX1_colour 23 = .ok (.goto 4, 3) := by decide +kernel
theorem dX1_colour_26 : decode cX1_colour 26 = .ok (.iconst 0, 1) := by decide +kernel
theorem dX1_colour_27 : decode cX1_colour 27 = .ok (.putfield 58, 3) := by decide +kernel
theorem dX1_colour_30 : decode cX1_colour 30 = .ok (.aload_n 0, 1) := by decide +kernel
theorem dX1_colour_31 : decode cX1_colour 31 = .ok (.getfield 58, 3) := by decide +kernel
theorem dX1_colour_34 : decode cX1_colour 34 = .ok (.ifCond .le 5, 3) := by decide +kernel
theorem dX1_colour_37 : decode cX1_colour 37 = .ok (.iconst 0, 1) := by decide +kernel
theorem dX1_colour_38 : decode cX1_colour 38 = .ok (.ireturn, 1) := by decide +kernel
theorem dX1_colour_39 : decode cX1_colour 39 = .ok (.aload_n 0, 1) := by decide +kernel
theorem dX1_colour_40 : decode cX1_colour 40 = .ok (.iload_n 1, 1) := by decide +kernel
theorem dX1_colour_41 : decode cX1_colour 41 = .ok (.invokevirtual 88, 3) := by decide +kernel
theorem dX1_colour_44 : decode cX1_colour 44 = .ok (.istore_n 3, 1) := by decide +kernel
theorem dX1_colour_45 : decode cX1_colour 45 = .ok (.iconst 0, 1) := by decide +kernel
theorem dX1_colour_46 : decode cX1_colour 46 = .ok (.istore 4, 2) := by decide +kernel
theorem dX1_colour_48 : decode cX1_colour 48 = .ok (.iconst 0, 1) := by decide +kernel
theorem dX1_colour_49 : decode cX1_colour 49 = .ok (.istore 5, 2) := by decide +kernel
theorem dX1_colour_51 : decode cX1_colour 51 = .ok (.iload 5, 2) := by decide +kernel
theorem dX1_colour_53 : decode cX1_colour 53 = .ok (.aload_n 0, 1) := by decide +kernel
theorem dX1_colour_54 : decode cX1_colour 54 = .ok (.getfield 66, 3) := by decide +kernel
theorem dX1_colour_57 : decode cX1_colour 57 = .ok (.if_icmp .ge 43, 3) := by decide +kernel
theorem dX1_colour_60 : decode cX1_colour 60 = .ok (.iload 4, 2) := by decide +kernel
theorem dX1_colour_62 : decode cX1_colour 62 = .ok (.aload_n 0, 1) := by decide +kernel
theorem dX1_colour_63 : decode cX1_colour 63 = .ok (.getfield 22, 3) := by decide +kernel
theorem dX1_colour_66 : decode cX1_colour 66 = .ok (.bipush 12, 2) := by decide +kernel
theorem dX1_colour_68 : decode cX1_colour 68 = .ok (.iload_n 1, 1) := by decide +kernel
theorem dX1_colour_69 : decode cX1_colour 69 = .ok (.imul, 1) := by decide +kernel
theorem dX1_colour_70 : decode cX1_colour 70 = .ok (.iload 5, 2) := by decide +kernel
theorem dX1_colour_72 : decode cX1_colour 72 = .ok (.iadd, 1) := by decide +kernel
theorem dX1_colour_73 : decode cX1_colour 73 = .ok (.iaload, 1) := by decide +kernel
theorem dX1_colour_74 : decode cX1_colour 74 = .ok (.aload_n 0, 1) := by decide +kernel
theorem dX1_colour_75 : decode cX1_colour 75 = .ok (.getfield 7, 3) := by decide +kernel
theorem dX1_colour_78 : decode cX1_colour 78 = .ok (.iconst 3, 1) := by decide +kernel
theorem dX1_colour_79 : decode cX1_colour 79 = .ok (.aload_n 0, 1) := by decide +kernel
theorem dX1_colour_80 : decode cX1_colour 80 = .ok (.getfield 13, 3) := by decide +kernel
theorem dX1_colour_83 : decode cX1_colour 83 = .ok (.iload 5, 2) := by decide +kernel
theorem dX1_colour_85 : decode cX1_colour 85 = .ok (.iaload, 1) := by decide +kernel
theorem dX1_colour_86 : decode cX1_colour 86 = .ok (.imul, 1) := by decide +kernel
theorem dX1_colour_87 : decode cX1_colour 87 = .ok (.iload_n 2, 1) := by decide +kernel
theorem dX1_colour_88 : decode cX1_colour 88 = .ok (.iadd, 1) := by decide +kernel
theorem dX1_colour_89 : decode cX1_colour 89 = .ok (.iaload, 1) := by decide +kernel
theorem dX1_colour_90 : decode cX1_colour 90 = .ok (.imul, 1) := by decide +kernel
theorem dX1_colour_91 : decode cX1_colour 91 = .ok (.iadd, 1) := by decide +kernel
theorem dX1_colour_92 : decode cX1_colour 92 = .ok (.istore 4, 2) := by decide +kernel
theorem dX1_colour_94 : decode cX1_colour 94 = .ok (.iinc 5 1, 3) := by decide +kernel
theorem dX1_colour_97 : decode cX1_colour 97 = .ok (.goto (-46), 3) := by decide +kernel
theorem dX1_colour_100 : decode cX1_colour 100 = .ok (.iload_n 3, 1) := by decide +kernel
theorem dX1_colour_101 : decode cX1_colour 101 = .ok (.ifCond .ne 7, 3) := by decide +kernel
theorem dX1_colour_104 : decode cX1_colour 104 = .ok (.iconst (-1), 1) := by decide +kernel
theorem dX1_colour_105 : decode cX1_colour 105 = .ok (.goto 7, 3) := by decide +kernel
theorem dX1_colour_108 : decode cX1_colour 108 = .ok (.iload 4, 2) := by decide +kernel
theorem dX1_colour_110 : decode cX1_colour 110 = .ok (.iload_n 3, 1) := by decide +kernel
theorem dX1_colour_111 : decode cX1_colour 111 = .ok (.idiv, 1) := by decide +kernel
theorem dX1_colour_112 : decode cX1_colour 112 = .ok (.ireturn, 1) := by decide +kernel
theorem dX1_of_0 : decode cX1_of 0 = .ok (.aload_n 0, 1) := by decide +kernel
theorem dX1_of_1 : decode cX1_of 1 = .ok (.aload_n 0, 1) := by decide +kernel
theorem dX1_of_2 : decode cX1_of 2 = .ok (.iload_n 1, 1) := by decide +kernel
theorem dX1_of_3 : decode cX1_of 3 = .ok (.invokevirtual 96, 3) := by decide +kernel
theorem dX1_of_6 : decode cX1_of 6 = .ok (.ifCond .ne 7, 3) := by decide +kernel
theorem dX1_of_9 : decode cX1_of 9 = .ok (.iconst 1, 1) := by decide +kernel
theorem dX1_of_10 : decode cX1_of 10 = .ok (.goto 18, 3) := by decide +kernel
theorem dX1_of_13 : decode cX1_of 13 = .ok (.iload_n 2, 1) := by decide +kernel
theorem dX1_of_14 : decode cX1_of 14 = .ok (.iconst 0, 1) := by decide +kernel
theorem dX1_of_15 : decode cX1_of 15 = .ok (.bipush 8, 2) := by decide +kernel
theorem dX1_of_17 : decode cX1_of 17 = .ok (.invokestatic 62, 3) := by decide +kernel
theorem dX1_of_20 : decode cX1_of 20 = .ok (.ifCond .ne 7, 3) := by decide +kernel
theorem dX1_of_23 : decode cX1_of 23 = .ok (.iconst 2, 1) := by decide +kernel
theorem dX1_of_24 : decode cX1_of 24 = .ok (.goto 4, 3) := by decide +kernel
theorem dX1_of_27 : decode cX1_of 27 = .ok (.iconst 0, 1) := by decide +kernel
theorem dX1_of_28 : decode cX1_of 28 = .ok (.putfield 58, 3) := by decide +kernel
theorem dX1_of_31 : decode cX1_of 31 = .ok (.aload_n 0, 1) := by decide +kernel
theorem dX1_of_32 : decode cX1_of 32 = .ok (.getfield 58, 3) := by decide +kernel
theorem dX1_of_35 : decode cX1_of 35 = .ok (.ifCond .le 5, 3) := by decide +kernel
theorem dX1_of_38 : decode cX1_of 38 = .ok (.iconst 0, 1) := by decide +kernel
theorem dX1_of_39 : decode cX1_of 39 = .ok (.ireturn, 1) := by decide +kernel
theorem dX1_of_40 : decode cX1_of 40 = .ok (.iload_n 2, 1) := by decide +kernel
theorem dX1_of_41 : decode cX1_of 41 = .ok (.tableswitch 79 0 5 #[39, 46, 53, 59, 65, 72], 39) := by decide +kernel
theorem dX1_of_80 : decode cX1_of 80 = .ok (.aload_n 0, 1) := by decide +kernel
theorem dX1_of_81 : decode cX1_of 81 = .ok (.getfield 25, 3) := by decide +kernel
theorem dX1_of_84 : decode cX1_of 84 = .ok (.iload_n 1, 1) := by decide +kernel
theorem dX1_of_85 : decode cX1_of 85 = .ok (.iaload, 1) := by decide +kernel
theorem dX1_of_86 : decode cX1_of 86 = .ok (.ireturn, 1) := by decide +kernel
theorem dX1_of_87 : decode cX1_of 87 = .ok (.aload_n 0, 1) := by decide +kernel
theorem dX1_of_88 : decode cX1_of 88 = .ok (.getfield 31, 3) := by decide +kernel
theorem dX1_of_91 : decode cX1_of 91 = .ok (.iload_n 1, 1) := by decide +kernel
theorem dX1_of_92 : decode cX1_of 92 = .ok (.iaload, 1) := by decide +kernel
theorem dX1_of_93 : decode cX1_of 93 = .ok (.ireturn, 1) := by decide +kernel
theorem dX1_of_94 : decode cX1_of 94 = .ok (.aload_n 0, 1) := by decide +kernel
theorem dX1_of_95 : decode cX1_of 95 = .ok (.iload_n 1, 1) := by decide +kernel
theorem dX1_of_96 : decode cX1_of 96 = .ok (.invokevirtual 109, 3) := by decide +kernel
theorem dX1_of_99 : decode cX1_of 99 = .ok (.ireturn, 1) := by decide +kernel
theorem dX1_of_100 : decode cX1_of 100 = .ok (.aload_n 0, 1) := by decide +kernel
theorem dX1_of_101 : decode cX1_of 101 = .ok (.iload_n 1, 1) := by decide +kernel
theorem dX1_of_102 : decode cX1_of 102 = .ok (.invokevirtual 103, 3) := by decide +kernel
theorem dX1_of_105 : decode cX1_of 105 = .ok (.ireturn, 1) := by decide +kernel
theorem dX1_of_106 : decode cX1_of 106 = .ok (.aload_n 0, 1) := by decide +kernel
theorem dX1_of_107 : decode cX1_of 107 = .ok (.getfield 37, 3) := by decide +kernel
theorem dX1_of_110 : decode cX1_of 110 = .ok (.iload_n 1, 1) := by decide +kernel
theorem dX1_of_111 : decode cX1_of 111 = .ok (.iaload, 1) := by decide +kernel
theorem dX1_of_112 : decode cX1_of 112 = .ok (.ireturn, 1) := by decide +kernel
theorem dX1_of_113 : decode cX1_of 113 = .ok (.aload_n 0, 1) := by decide +kernel
theorem dX1_of_114 : decode cX1_of 114 = .ok (.getfield 40, 3) := by decide +kernel
theorem dX1_of_117 : decode cX1_of 117 = .ok (.iload_n 1, 1) := by decide +kernel
theorem dX1_of_118 : decode cX1_of 118 = .ok (.iaload, 1) := by decide +kernel
theorem dX1_of_119 : decode cX1_of 119 = .ok (.ireturn, 1) := by decide +kernel
theorem dX1_of_120 : decode cX1_of 120 = .ok (.aload_n 0, 1) := by decide +kernel
theorem dX1_of_121 : decode cX1_of 121 = .ok (.iload_n 1, 1) := by decide +kernel
theorem dX1_of_122 : decode cX1_of 122 = .ok (.iload_n 2, 1) := by decide +kernel
theorem dX1_of_123 : decode cX1_of 123 = .ok (.bipush 6, 2) := by decide +kernel
theorem dX1_of_125 : decode cX1_of 125 = .ok (.isub, 1) := by decide +kernel
theorem dX1_of_126 : decode cX1_of 126 = .ok (.invokevirtual 119, 3) := by decide +kernel
theorem dX1_of_129 : decode cX1_of 129 = .ok (.ireturn, 1) := by decide +kernel
theorem dX1_layer_0 : decode cX1_layer 0 = .ok (.aload_n 0, 1) := by decide +kernel
theorem dX1_layer_1 : decode cX1_layer 1 = .ok (.aload_n 0, 1) := by decide +kernel
theorem dX1_layer_2 : decode cX1_layer 2 = .ok (.iload_n 1, 1) := by decide +kernel
theorem dX1_layer_3 : decode cX1_layer 3 = .ok (.invokevirtual 96, 3) := by decide +kernel
theorem dX1_layer_6 : decode cX1_layer 6 = .ok (.ifCond .eq 31, 3) := by decide +kernel
theorem dX1_layer_9 : decode cX1_layer 9 = .ok (.iload_n 2, 1) := by decide +kernel
theorem dX1_layer_10 : decode cX1_layer 10 = .ok (.iconst 0, 1) := by decide +kernel
theorem dX1_layer_11 : decode cX1_layer 11 = .ok (.aload_n 0, 1) := by decide +kernel
theorem dX1_layer_12 : decode cX1_layer 12 = .ok (.getfield 25, 3) := by decide +kernel
theorem dX1_layer_15 : decode cX1_layer 15 = .ok (.iload_n 1, 1) := by decide +kernel
theorem dX1_layer_16 : decode cX1_layer 16 = .ok (.iaload, 1) := by decide +kernel
theorem dX1_layer_17 : decode cX1_layer 17 = .ok (.iconst 1, 1) := by decide +kernel
theorem dX1_layer_18 : decode cX1_layer 18 = .ok (.isub, 1) := by decide +kernel
theorem dX1_layer_19 : decode cX1_layer 19 = .ok (.invokestatic 62, 3) := by decide +kernel
theorem dX1_layer_22 : decode cX1_layer 22 = .ok (.ifCond .eq 15, 3) := by decide +kernel
theorem dX1_layer_25 : decode cX1_layer 25 = .ok (.aload_n 0, 1) := by decide +kernel
theorem dX1_layer_26 : decode cX1_layer 26 = .ok (.iload_n 3, 1) := by decide +kernel
theorem dX1_layer_27 : decode cX1_layer 27 = .ok (.invokevirtual 85, 3) := by decide +kernel
theorem dX1_layer_30 : decode cX1_layer 30 = .ok (.ifCond .eq 7, 3) := by decide +kernel
theorem dX1_layer_33 : decode cX1_layer 33 = .ok (.iconst 0, 1) := by decide +kernel
theorem dX1_layer_34 : decode cX1_layer 34 = .ok (.goto 4, 3) := by decide +kernel
theorem dX1_layer_37 : decode cX1_layer 37 = .ok (.iconst 1, 1) := by decide +kernel
theorem dX1_layer_38 : decode cX1_layer 38 = .ok (.putfield 58, 3) := by decide +kernel
theorem dX1_layer_41 : decode cX1_layer 41 = .ok (.aload_n 0, 1) := by decide +kernel
theorem dX1_layer_42 : decode cX1_layer 42 = .ok (.getfield 58, 3) := by decide +kernel
theorem dX1_layer_45 : decode cX1_layer 45 = .ok (.ifCond .le 7, 3) := by decide +kernel
theorem dX1_layer_48 : decode cX1_layer 48 = .ok (.iconst 0, 1) := by decide +kernel
theorem dX1_layer_49 : decode cX1_layer 49 = .ok (.goto 15, 3) := by decide +kernel
theorem dX1_layer_52 : decode cX1_layer 52 = .ok (.aload_n 0, 1) := by decide +kernel
theorem dX1_layer_53 : decode cX1_layer 53 = .ok (.getfield 28, 3) := by decide +kernel
theorem dX1_layer_56 : decode cX1_layer 56 = .ok (.iload_n 1, 1) := by decide +kernel
theorem dX1_layer_57 : decode cX1_layer 57 = .ok (.iload_n 2, 1) := by decide +kernel
theorem dX1_layer_58 : decode cX1_layer 58 = .ok (.invokestatic 99, 3) := by decide +kernel
theorem dX1_layer_61 : decode cX1_layer 61 = .ok (.iload_n 3, 1) := by decide +kernel
theorem dX1_layer_62 : decode cX1_layer 62 = .ok (.iadd, 1) := by decide +kernel
theorem dX1_layer_63 : decode cX1_layer 63 = .ok (.iaload, 1) := by decide +kernel
theorem dX1_layer_64 : decode cX1_layer 64 = .ok (.ireturn, 1) := by decide +kernel
theorem dX1_onPictures_0 : decode cX1_onPictures 0 = .ok (.iconst 0, 1) := by decide +kernel
theorem dX1_onPictures_1 : decode cX1_onPictures 1 = .ok (.istore_n 2, 1) := by decide +kernel
theorem dX1_onPictures_2 : decode cX1_onPictures 2 = .ok (.iconst 0, 1) := by decide +kernel
theorem dX1_onPictures_3 : decode cX1_onPictures 3 = .ok (.istore_n 3, 1) := by decide +kernel
theorem dX1_onPictures_4 : decode cX1_onPictures 4 = .ok (.iload_n 3, 1) := by decide +kernel
theorem dX1_onPictures_5 : decode cX1_onPictures 5 = .ok (.bipush 96, 2) := by decide +kernel
theorem dX1_onPictures_7 : decode cX1_onPictures 7 = .ok (.if_icmp .ge 23, 3) := by decide +kernel
theorem dX1_onPictures_10 : decode cX1_onPictures 10 = .ok (.iload_n 2, 1) := by decide +kernel
theorem dX1_onPictures_11 : decode cX1_onPictures 11 = .ok (.aload_n 0, 1) := by decide +kernel
theorem dX1_onPictures_12 : decode cX1_onPictures 12 = .ok (.getfield 28, 3) := by decide +kernel
theorem dX1_onPictures_15 : decode cX1_onPictures 15 = .ok (.bipush 12, 2) := by decide +kernel
theorem dX1_onPictures_17 : decode cX1_onPictures 17 = .ok (.iload_n 3, 1) := by decide +kernel
theorem dX1_onPictures_18 : decode cX1_onPictures 18 = .ok (.imul, 1) := by decide +kernel
theorem dX1_onPictures_19 : decode cX1_onPictures 19 = .ok (.iload_n 1, 1) := by decide +kernel
theorem dX1_onPictures_20 : decode cX1_onPictures 20 = .ok (.iadd, 1) := by decide +kernel
theorem dX1_onPictures_21 : decode cX1_onPictures 21 = .ok (.iaload, 1) := by decide +kernel
theorem dX1_onPictures_22 : decode cX1_onPictures 22 = .ok (.iadd, 1) := by decide +kernel
theorem dX1_onPictures_23 : decode cX1_onPictures 23 = .ok (.istore_n 2, 1) := by decide +kernel
theorem dX1_onPictures_24 : decode cX1_onPictures 24 = .ok (.iinc 3 1, 3) := by decide +kernel
theorem dX1_onPictures_27 : decode cX1_onPictures 27 = .ok (.goto (-23), 3) := by decide +kernel
theorem dX1_onPictures_30 : decode cX1_onPictures 30 = .ok (.iload_n 2, 1) := by decide +kernel
theorem dX1_onPictures_31 : decode cX1_onPictures 31 = .ok (.ireturn, 1) := by decide +kernel
theorem dX1_inPots_0 : decode cX1_inPots 0 = .ok (.iconst 0, 1) := by decide +kernel
theorem dX1_inPots_1 : decode cX1_inPots 1 = .ok (.istore_n 2, 1) := by decide +kernel
theorem dX1_inPots_2 : decode cX1_inPots 2 = .ok (.iconst 0, 1) := by decide +kernel
theorem dX1_inPots_3 : decode cX1_inPots 3 = .ok (.istore_n 3, 1) := by decide +kernel
theorem dX1_inPots_4 : decode cX1_inPots 4 = .ok (.iload_n 3, 1) := by decide +kernel
theorem dX1_inPots_5 : decode cX1_inPots 5 = .ok (.aload_n 0, 1) := by decide +kernel
theorem dX1_inPots_6 : decode cX1_inPots 6 = .ok (.getfield 69, 3) := by decide +kernel
theorem dX1_inPots_9 : decode cX1_inPots 9 = .ok (.if_icmp .ge 23, 3) := by decide +kernel
theorem dX1_inPots_12 : decode cX1_inPots 12 = .ok (.iload_n 2, 1) := by decide +kernel
theorem dX1_inPots_13 : decode cX1_inPots 13 = .ok (.aload_n 0, 1) := by decide +kernel
theorem dX1_inPots_14 : decode cX1_inPots 14 = .ok (.getfield 22, 3) := by decide +kernel
theorem dX1_inPots_17 : decode cX1_inPots 17 = .ok (.bipush 12, 2) := by decide +kernel
theorem dX1_inPots_19 : decode cX1_inPots 19 = .ok (.iload_n 3, 1) := by decide +kernel
theorem dX1_inPots_20 : decode cX1_inPots 20 = .ok (.imul, 1) := by decide +kernel
theorem dX1_inPots_21 : decode cX1_inPots 21 = .ok (.iload_n 1, 1) := by decide +kernel
theorem dX1_inPots_22 : decode cX1_inPots 22 = .ok (.iadd, 1) := by decide +kernel
theorem dX1_inPots_23 : decode cX1_inPots 23 = .ok (.iaload, 1) := by decide +kernel
theorem dX1_inPots_24 : decode cX1_inPots 24 = .ok (.iadd, 1) := by decide +kernel
theorem dX1_inPots_25 : decode cX1_inPots 25 = .ok (.istore_n 2, 1) := by decide +kernel
theorem dX1_inPots_26 : decode cX1_inPots 26 = .ok (.iinc 3 1, 3) := by decide +kernel
theorem dX1_inPots_29 : decode cX1_inPots 29 = .ok (.goto (-25), 3) := by decide +kernel
theorem dX1_inPots_32 : decode cX1_inPots 32 = .ok (.iload_n 2, 1) := by decide +kernel
theorem dX1_inPots_33 : decode cX1_inPots 33 = .ok (.ireturn, 1) := by decide +kernel
theorem dX1_where_0 : decode cX1_where 0 = .ok (.aload_n 0, 1) := by decide +kernel
theorem dX1_where_1 : decode cX1_where 1 = .ok (.aload_n 0, 1) := by decide +kernel
theorem dX1_where_2 : decode cX1_where 2 = .ok (.iload_n 1, 1) := by decide +kernel
theorem dX1_where_3 : decode cX1_where 3 = .ok (.invokevirtual 85, 3) := by decide +kernel
theorem dX1_where_6 : decode cX1_where 6 = .ok (.ifCond .ne 7, 3) := by decide +kernel
theorem dX1_where_9 : decode cX1_where 9 = .ok (.iconst 1, 1) := by decide +kernel
theorem dX1_where_10 : decode cX1_where 10 = .ok (.goto 17, 3) := by decide +kernel
theorem dX1_where_13 : decode cX1_where 13 = .ok (.iload_n 2, 1) := by decide +kernel
theorem dX1_where_14 : decode cX1_where 14 = .ok (.iconst 0, 1) := by decide +kernel
theorem dX1_where_15 : decode cX1_where 15 = .ok (.iconst 3, 1) := by decide +kernel
theorem dX1_where_16 : decode cX1_where 16 = .ok (.invokestatic 62, 3) := by decide +kernel
theorem dX1_where_19 : decode cX1_where 19 = .ok (.ifCond .ne 7, 3) := by decide +kernel
theorem dX1_where_22 : decode cX1_where 22 = .ok (.iconst 2, 1) := by decide +kernel
theorem dX1_where_23 : decode cX1_where 23 = .ok (.goto 4, 3) := by decide +kernel
theorem dX1_where_26 : decode cX1_where 26 = .ok (.iconst 0, 1) := by decide +kernel
theorem dX1_where_27 : decode cX1_where 27 = .ok (.putfield 58, 3) := by decide +kernel
theorem dX1_where_30 : decode cX1_where 30 = .ok (.aload_n 0, 1) := by decide +kernel
theorem dX1_where_31 : decode cX1_where 31 = .ok (.getfield 58, 3) := by decide +kernel
theorem dX1_where_34 : decode cX1_where 34 = .ok (.ifCond .le 5, 3) := by decide +kernel
theorem dX1_where_37 : decode cX1_where 37 = .ok (.iconst 0, 1) := by decide +kernel
theorem dX1_where_38 : decode cX1_where 38 = .ok (.ireturn, 1) := by decide +kernel
theorem dX1_where_39 : decode cX1_where 39 = .ok (.iload_n 2, 1) := by decide +kernel
theorem dX1_where_40 : decode cX1_where 40 = .ok (.ifCond .ne 12, 3) := by decide +kernel
theorem dX1_where_43 : decode cX1_where 43 = .ok (.aload_n 0, 1) := by decide +kernel
theorem dX1_where_44 : decode cX1_where 44 = .ok (.getfield 16, 3) := by decide +kernel
theorem dX1_where_47 : decode cX1_where 47 = .ok (.iload_n 1, 1) := by decide +kernel
theorem dX1_where_48 : decode cX1_where 48 = .ok (.iaload, 1) := by decide +kernel
theorem dX1_where_49 : decode cX1_where 49 = .ok (.goto 35, 3) := by decide +kernel
theorem dX1_where_52 : decode cX1_where 52 = .ok (.iload_n 2, 1) := by decide +kernel
theorem dX1_where_53 : decode cX1_where 53 = .ok (.iconst 1, 1) := by decide +kernel
theorem dX1_where_54 : decode cX1_where 54 = .ok (.if_icmp .ne 11, 3) := by decide +kernel
theorem dX1_where_57 : decode cX1_where 57 = .ok (.aload_n 0, 1) := by decide +kernel
theorem dX1_where_58 : decode cX1_where 58 = .ok (.iload_n 1, 1) := by decide +kernel
theorem dX1_where_59 : decode cX1_where 59 = .ok (.invokevirtual 122, 3) := by decide +kernel
theorem dX1_where_62 : decode cX1_where 62 = .ok (.goto 22, 3) := by decide +kernel
theorem dX1_where_65 : decode cX1_where 65 = .ok (.iload_n 2, 1) := by decide +kernel
theorem dX1_where_66 : decode cX1_where 66 = .ok (.iconst 2, 1) := by decide +kernel
theorem dX1_where_67 : decode cX1_where 67 = .ok (.if_icmp .ne 11, 3) := by decide +kernel
theorem dX1_where_70 : decode cX1_where 70 = .ok (.aload_n 0, 1) := by decide +kernel
theorem dX1_where_71 : decode cX1_where 71 = .ok (.iload_n 1, 1) := by decide +kernel
theorem dX1_where_72 : decode cX1_where 72 = .ok (.invokevirtual 125, 3) := by decide +kernel
theorem dX1_where_75 : decode cX1_where 75 = .ok (.goto 9, 3) := by decide +kernel
theorem dX1_where_78 : decode cX1_where 78 = .ok (.aload_n 0, 1) := by decide +kernel
theorem dX1_where_79 : decode cX1_where 79 = .ok (.getfield 19, 3) := by decide +kernel
theorem dX1_where_82 : decode cX1_where 82 = .ok (.iload_n 1, 1) := by decide +kernel
theorem dX1_where_83 : decode cX1_where 83 = .ok (.iaload, 1) := by decide +kernel
theorem dX1_where_84 : decode cX1_where 84 = .ok (.ireturn, 1) := by decide +kernel
theorem dX1_far_0 : decode cX1_far 0 = .ok (.iload_n 3, 1) := by decide +kernel
theorem dX1_far_1 : decode cX1_far 1 = .ok (.aload_n 0, 1) := by decide +kernel
theorem dX1_far_2 : decode cX1_far 2 = .ok (.getfield 7, 3) := by decide +kernel
theorem dX1_far_5 : decode cX1_far 5 = .ok (.iconst 3, 1) := by decide +kernel
theorem dX1_far_6 : decode cX1_far 6 = .ok (.aload_n 0, 1) := by decide +kernel
theorem dX1_far_7 : decode cX1_far 7 = .ok (.getfield 13, 3) := by decide +kernel
theorem dX1_far_10 : decode cX1_far 10 = .ok (.iload_n 1, 1) := by decide +kernel
theorem dX1_far_11 : decode cX1_far 11 = .ok (.iaload, 1) := by decide +kernel
theorem dX1_far_12 : decode cX1_far 12 = .ok (.imul, 1) := by decide +kernel
theorem dX1_far_13 : decode cX1_far 13 = .ok (.iload 4, 2) := by decide +kernel
theorem dX1_far_15 : decode cX1_far 15 = .ok (.iadd, 1) := by decide +kernel
theorem dX1_far_16 : decode cX1_far 16 = .ok (.iaload, 1) := by decide +kernel
theorem dX1_far_17 : decode cX1_far 17 = .ok (.imul, 1) := by decide +kernel
theorem dX1_far_18 : decode cX1_far 18 = .ok (.iconst 4, 1) := by decide +kernel
theorem dX1_far_19 : decode cX1_far 19 = .ok (.iload_n 3, 1) := by decide +kernel
theorem dX1_far_20 : decode cX1_far 20 = .ok (.isub, 1) := by decide +kernel
theorem dX1_far_21 : decode cX1_far 21 = .ok (.aload_n 0, 1) := by decide +kernel
theorem dX1_far_22 : decode cX1_far 22 = .ok (.getfield 7, 3) := by decide +kernel
theorem dX1_far_25 : decode cX1_far 25 = .ok (.iconst 3, 1) := by decide +kernel
theorem dX1_far_26 : decode cX1_far 26 = .ok (.aload_n 0, 1) := by decide +kernel
theorem dX1_far_27 : decode cX1_far 27 = .ok (.getfield 13, 3) := by decide +kernel
theorem dX1_far_30 : decode cX1_far 30 = .ok (.iload_n 2, 1) := by decide +kernel
theorem dX1_far_31 : decode cX1_far 31 = .ok (.iaload, 1) := by decide +kernel
theorem dX1_far_32 : decode cX1_far 32 = .ok (.imul, 1) := by decide +kernel
theorem dX1_far_33 : decode cX1_far 33 = .ok (.iload 4, 2) := by decide +kernel
theorem dX1_far_35 : decode cX1_far 35 = .ok (.iadd, 1) := by decide +kernel
theorem dX1_far_36 : decode cX1_far 36 = .ok (.iaload, 1) := by decide +kernel
theorem dX1_far_37 : decode cX1_far 37 = .ok (.imul, 1) := by decide +kernel
theorem dX1_far_38 : decode cX1_far 38 = .ok (.iadd, 1) := by decide +kernel
theorem dX1_far_39 : decode cX1_far 39 = .ok (.iconst 4, 1) := by decide +kernel
theorem dX1_far_40 : decode cX1_far 40 = .ok (.idiv, 1) := by decide +kernel
theorem dX1_far_41 : decode cX1_far 41 = .ok (.iload 5, 2) := by decide +kernel
theorem dX1_far_43 : decode cX1_far 43 = .ok (.isub, 1) := by decide +kernel
theorem dX1_far_44 : decode cX1_far 44 = .ok (.istore 6, 2) := by decide +kernel
theorem dX1_far_46 : decode cX1_far 46 = .ok (.iload 6, 2) := by decide +kernel
theorem dX1_far_48 : decode cX1_far 48 = .ok (.iload 6, 2) := by decide +kernel
theorem dX1_far_50 : decode cX1_far 50 = .ok (.imul, 1) := by decide +kernel
theorem dX1_far_51 : decode cX1_far 51 = .ok (.ireturn, 1) := by decide +kernel
theorem dX1_recipe_0 : decode cX1_recipe 0 = .ok (.aload_n 0, 1) := by decide +kernel
theorem dX1_recipe_1 : decode cX1_recipe 1 = .ok (.iload_n 1, 1) := by decide +kernel
theorem dX1_recipe_2 : decode cX1_recipe 2 = .ok (.iload_n 2, 1) := by decide +kernel
theorem dX1_recipe_3 : decode cX1_recipe 3 = .ok (.iload_n 3, 1) := by decide +kernel
theorem dX1_recipe_4 : decode cX1_recipe 4 = .ok (.invokestatic 75, 3) := by decide +kernel
theorem dX1_recipe_7 : decode cX1_recipe 7 = .ok (.ifCond .eq 7, 3) := by decide +kernel
theorem dX1_recipe_10 : decode cX1_recipe 10 = .ok (.iconst 0, 1) := by decide +kernel
theorem dX1_recipe_11 : decode cX1_recipe 11 = .ok (.goto 4, 3) := by decide +kernel
theorem dX1_recipe_14 : decode cX1_recipe 14 = .ok (.iconst 1, 1) := by decide +kernel
theorem dX1_recipe_15 : decode cX1_recipe 15 = .ok (.putfield 58, 3) := by decide +kernel
theorem dX1_recipe_18 : decode cX1_recipe 18 = .ok (.iconst (-1), 1) := by decide +kernel
theorem dX1_recipe_19 : decode cX1_recipe 19 = .ok (.istore 4, 2) := by decide +kernel
theorem dX1_recipe_21 : decode cX1_recipe 21 = .ok (.iconst 0, 1) := by decide +kernel
theorem dX1_recipe_22 : decode cX1_recipe 22 = .ok (.istore 5, 2) := by decide +kernel
theorem dX1_recipe_24 : decode cX1_recipe 24 = .ok (.iconst 0, 1) := by decide +kernel
theorem dX1_recipe_25 : decode cX1_recipe 25 = .ok (.istore 6, 2) := by decide +kernel
theorem dX1_recipe_27 : decode cX1_recipe 27 = .ok (.iload 6, 2) := by decide +kernel
theorem dX1_recipe_29 : decode cX1_recipe 29 = .ok (.aload_n 0, 1) := by decide +kernel
theorem dX1_recipe_30 : decode cX1_recipe 30 = .ok (.getfield 66, 3) := by decide +kernel
theorem dX1_recipe_33 : decode cX1_recipe 33 = .ok (.if_icmp .ge 144, 3) := by decide +kernel
theorem dX1_recipe_36 : decode cX1_recipe 36 = .ok (.aload_n 0, 1) := by decide +kernel
theorem dX1_recipe_37 : decode cX1_recipe 37 = .ok (.getfield 58, 3) := by decide +kernel
theorem dX1_recipe_40 : decode cX1_recipe 40 = .ok (.ifCond .ne 137, 3) := by decide +kernel
theorem dX1_recipe_43 : decode cX1_recipe 43 = .ok (.iload 6, 2) := by decide +kernel
theorem dX1_recipe_45 : decode cX1_recipe 45 = .ok (.istore 7, 2) := by decide +kernel
theorem dX1_recipe_47 : decode cX1_recipe 47 = .ok (.iload 7, 2) := by decide +kernel
theorem dX1_recipe_49 : decode cX1_recipe 49 = .ok (.aload_n 0, 1) := by decide +kernel
theorem dX1_recipe_50 : decode cX1_recipe 50 = .ok (.getfield 66, 3) := by decide +kernel
theorem dX1_recipe_53 : decode cX1_recipe 53 = .ok (.if_icmp .ge 118, 3) := by decide +kernel
theorem dX1_recipe_56 : decode cX1_recipe 56 = .ok (.iconst 0, 1) := by decide +kernel
theorem dX1_recipe_57 : decode cX1_recipe 57 = .ok (.istore 8, 2) := by decide +kernel
theorem dX1_recipe_59 : decode cX1_recipe 59 = .ok (.iload 8, 2) := by decide +kernel
theorem dX1_recipe_61 : decode cX1_recipe 61 = .ok (.iconst 5, 1) := by decide +kernel
theorem dX1_recipe_62 : decode cX1_recipe 62 = .ok (.if_icmp .ge 103, 3) := by decide +kernel
theorem dX1_recipe_65 : decode cX1_recipe 65 = .ok (.aload_n 0, 1) := by decide +kernel
theorem dX1_recipe_66 : decode cX1_recipe 66 = .ok (.getfield 16, 3) := by decide +kernel
theorem dX1_recipe_69 : decode cX1_recipe 69 = .ok (.iload 6, 2) := by decide +kernel
theorem dX1_recipe_71 : decode cX1_recipe 71 = .ok (.iaload, 1) := by decide +kernel
theorem dX1_recipe_72 : decode cX1_recipe 72 = .ok (.ifCond .le 93, 3) := by decide +kernel
theorem dX1_recipe_75 : decode cX1_recipe 75 = .ok (.aload_n 0, 1) := by decide +kernel
theorem dX1_recipe_76 : decode cX1_recipe 76 = .ok (.getfield 16, 3) := by decide +kernel
theorem dX1_recipe_79 : decode cX1_recipe 79 = .ok (.iload 7, 2) := by decide +kernel
theorem dX1_recipe_81 : decode cX1_recipe 81 = .ok (.iaload, 1) := by decide +kernel
theorem dX1_recipe_82 : decode cX1_recipe 82 = .ok (.ifCond .le 83, 3) := by decide +kernel
theorem dX1_recipe_85 : decode cX1_recipe 85 = .ok (.aload_n 0, 1) := by decide +kernel
theorem dX1_recipe_86 : decode cX1_recipe 86 = .ok (.iload 6, 2) := by decide +kernel
theorem dX1_recipe_88 : decode cX1_recipe 88 = .ok (.iload 7, 2) := by decide +kernel
theorem dX1_recipe_90 : decode cX1_recipe 90 = .ok (.iload 8, 2) := by decide +kernel
theorem dX1_recipe_92 : decode cX1_recipe 92 = .ok (.iconst 0, 1) := by decide +kernel
theorem dX1_recipe_93 : decode cX1_recipe 93 = .ok (.iload_n 1, 1) := by decide +kernel
theorem dX1_recipe_94 : decode cX1_recipe 94 = .ok (.invokevirtual 128, 3) := by decide +kernel
theorem dX1_recipe_97 : decode cX1_recipe 97 = .ok (.aload_n 0, 1) := by decide +kernel
theorem dX1_recipe_98 : decode cX1_recipe 98 = .ok (.iload 6, 2) := by decide +kernel
theorem dX1_recipe_100 : decode cX1_recipe 100 = .ok (.iload 7, 2) := by decide +kernel
theorem dX1_recipe_102 : decode cX1_recipe 102 = .ok (.iload 8, 2) := by decide +kernel
theorem dX1_recipe_104 : decode cX1_recipe 104 = .ok (.iconst 1, 1) := by decide +kernel
theorem dX1_recipe_105 : decode cX1_recipe 105 = .ok (.iload_n 2, 1) := by decide +kernel
theorem dX1_recipe_106 : decode cX1_recipe 106 = .ok (.invokevirtual 128, 3) := by decide +kernel
theorem dX1_recipe_109 : decode cX1_recipe 109 = .ok (.iadd, 1) := by decide +kernel
theorem dX1_recipe_110 : decode cX1_recipe 110 = .ok (.aload_n 0, 1) := by decide +kernel
theorem dX1_recipe_111 : decode cX1_recipe 111 = .ok (.iload 6, 2) := by decide +kernel
theorem dX1_recipe_113 : decode cX1_recipe 113 = .ok (.iload 7, 2) := by decide +kernel
theorem dX1_recipe_115 : decode cX1_recipe 115 = .ok (.iload 8, 2) := by decide +kernel
theorem dX1_recipe_117 : decode cX1_recipe 117 = .ok (.iconst 2, 1) := by decide +kernel
theorem dX1_recipe_118 : decode cX1_recipe 118 = .ok (.iload_n 3, 1) := by decide +kernel
theorem dX1_recipe_119 : decode cX1_recipe 119 = .ok (.invokevirtual 128, 3) := by decide +kernel
theorem dX1_recipe_122 : decode cX1_recipe 122 = .ok (.iadd, 1) := by decide +kernel
theorem dX1_recipe_123 : decode cX1_recipe 123 = .ok (.istore 9, 2) := by decide +kernel
theorem dX1_recipe_125 : decode cX1_recipe 125 = .ok (.iload 4, 2) := by decide +kernel
theorem dX1_recipe_127 : decode cX1_recipe 127 = .ok (.iconst (-1), 1) := by decide +kernel
theorem dX1_recipe_128 : decode cX1_recipe 128 = .ok (.if_icmp .eq 10, 3) := by decide +kernel
theorem dX1_recipe_131 : decode cX1_recipe 131 = .ok (.iload 9, 2) := by decide +kernel
theorem dX1_recipe_133 : decode cX1_recipe 133 = .ok (.iload 5, 2) := by decide +kernel
theorem dX1_recipe_135 : decode cX1_recipe 135 = .ok (.if_icmp .ge 24, 3) := by decide +kernel
theorem dX1_recipe_138 : decode cX1_recipe 138 = .ok (.sipush 1000, 3) := by decide +kernel
theorem dX1_recipe_141 : decode cX1_recipe 141 = .ok (.iload 6, 2) := by decide +kernel
theorem dX1_recipe_143 : decode cX1_recipe 143 = .ok (.imul, 1) := by decide +kernel
theorem dX1_recipe_144 : decode cX1_recipe 144 = .ok (.bipush 10, 2) := by decide +kernel
theorem dX1_recipe_146 : decode cX1_recipe 146 = .ok (.iload 7, 2) := by decide +kernel
theorem dX1_recipe_148 : decode cX1_recipe 148 = .ok (.imul, 1) := by decide +kernel
theorem dX1_recipe_149 : decode cX1_recipe 149 = .ok (.iadd, 1) := by decide +kernel
theorem dX1_recipe_150 : decode cX1_recipe 150 = .ok (.iload 8, 2) := by decide +kernel
theorem dX1_recipe_152 : decode cX1_recipe 152 = .ok (.iadd, 1) := by decide +kernel
theorem dX1_recipe_153 : decode cX1_recipe 153 = .ok (.istore 4, 2) := by decide +kernel
theorem dX1_recipe_155 : decode cX1_recipe 155 = .ok (.iload 9, 2) := by decide +kernel
theorem dX1_recipe_157 : decode cX1_recipe 157 = .ok (.istore 5, 2) := by decide +kernel
theorem dX1_recipe_159 : decode cX1_recipe 159 = .ok (.iinc 8 1, 3) := by decide +kernel
theorem dX1_recipe_162 : decode cX1_recipe 162 = .ok (.goto (-103), 3) := by decide +kernel
theorem dX1_recipe_165 : decode cX1_recipe 165 = .ok (.iinc 7 1, 3) := by decide +kernel
theorem dX1_recipe_168 : decode cX1_recipe 168 = .ok (.goto (-121), 3) := by decide +kernel
theorem dX1_recipe_171 : decode cX1_recipe 171 = .ok (.iinc 6 1, 3) := by decide +kernel
theorem dX1_recipe_174 : decode cX1_recipe 174 = .ok (.goto (-147), 3) := by decide +kernel
theorem dX1_recipe_177 : decode cX1_recipe 177 = .ok (.aload_n 0, 1) := by decide +kernel
theorem dX1_recipe_178 : decode cX1_recipe 178 = .ok (.getfield 58, 3) := by decide +kernel
theorem dX1_recipe_181 : decode cX1_recipe 181 = .ok (.ifCond .le 7, 3) := by decide +kernel
theorem dX1_recipe_184 : decode cX1_recipe 184 = .ok (.iconst 0, 1) := by decide +kernel
theorem dX1_recipe_185 : decode cX1_recipe 185 = .ok (.goto 5, 3) := by decide +kernel
theorem dX1_recipe_188 : decode cX1_recipe 188 = .ok (.iload 4, 2) := by decide +kernel
theorem dX1_recipe_190 : decode cX1_recipe 190 = .ok (.ireturn, 1) := by decide +kernel
theorem dX1_paid_0 : decode cX1_paid 0 = .ok (.aload_n 0, 1) := by decide +kernel
theorem dX1_paid_1 : decode cX1_paid 1 = .ok (.iload_n 1, 1) := by decide +kernel
theorem dX1_paid_2 : decode cX1_paid 2 = .ok (.invokestatic 106, 3) := by decide +kernel
theorem dX1_paid_5 : decode cX1_paid 5 = .ok (.ifCond .eq 7, 3) := by decide +kernel
theorem dX1_paid_8 : decode cX1_paid 8 = .ok (.iconst 0, 1) := by decide +kernel
theorem dX1_paid_9 : decode cX1_paid 9 = .ok (.goto 4, 3) := by decide +kernel
theorem dX1_paid_12 : decode cX1_paid 12 = .ok (.iconst 1, 1) := by decide +kernel
theorem dX1_paid_13 : decode cX1_paid 13 = .ok (.putfield 58, 3) := by decide +kernel
theorem dX1_paid_16 : decode cX1_paid 16 = .ok (.aload_n 0, 1) := by decide +kernel
theorem dX1_paid_17 : decode cX1_paid 17 = .ok (.getfield 58, 3) := by decide +kernel
theorem dX1_paid_20 : decode cX1_paid 20 = .ok (.ifCond .le 7, 3) := by decide +kernel
theorem dX1_paid_23 : decode cX1_paid 23 = .ok (.iconst 0, 1) := by decide +kernel
theorem dX1_paid_24 : decode cX1_paid 24 = .ok (.goto 9, 3) := by decide +kernel
theorem dX1_paid_27 : decode cX1_paid 27 = .ok (.aload_n 0, 1) := by decide +kernel
theorem dX1_paid_28 : decode cX1_paid 28 = .ok (.getfield 49, 3) := by decide +kernel
theorem dX1_paid_31 : decode cX1_paid 31 = .ok (.iload_n 1, 1) := by decide +kernel
theorem dX1_paid_32 : decode cX1_paid 32 = .ok (.iaload, 1) := by decide +kernel
theorem dX1_paid_33 : decode cX1_paid 33 = .ok (.ireturn, 1) := by decide +kernel
