theorem dX9_init_0 : decode cX9_init 0 = .ok (.aload_n 0, 1) := by decide +kernel
theorem dX9_init_1 : decode cX9_init 1 = .ok (.invokespecial 3, 3) := by decide +kernel
theorem dX9_init_4 : decode cX9_init 4 = .ok (.aload_n 0, 1) := by decide +kernel
theorem dX9_init_5 : decode cX9_init 5 = .ok (.sipush 900, 3) := by decide +kernel
theorem dX9_init_8 : decode cX9_init 8 = .ok (.newarray .byte, 2) := by decide +kernel
theorem dX9_init_10 : decode cX9_init 10 = .ok (.putfield 9, 3) := by decide +kernel
theorem dX9_init_13 : decode cX9_init 13 = .ok (.return_, 1) := by decide +kernel
theorem dX6_init_0 : decode cX6_init 0 = .ok (.aload_n 0, 1) := by decide +kernel
theorem dX6_init_1 : decode cX6_init 1 = .ok (.invokespecial 3, 3) := by decide +kernel
theorem dX6_init_4 : decode cX6_init 4 = .ok (.aload_n 0, 1) := by decide +kernel
theorem dX6_init_5 : decode cX6_init 5 = .ok (.new 9, 3) := by decide +kernel
theorem dX6_init_8 : decode cX6_init 8 = .ok (.dup, 1) := by decide +kernel
theorem dX6_init_9 : decode cX6_init 9 = .ok (.invokespecial 11, 3) := by decide +kernel
theorem dX6_init_12 : decode cX6_init 12 = .ok (.putfield 12, 3) := by decide +kernel
theorem dX6_init_15 : decode cX6_init 15 = .ok (.aload_n 0, 1) := by decide +kernel
theorem dX6_init_16 : decode cX6_init 16 = .ok (.iconst (-1), 1) := by decide +kernel
theorem dX6_init_17 : decode cX6_init 17 = .ok (.putfield 18, 3) := by decide +kernel
theorem dX6_init_20 : decode cX6_init 20 = .ok (.return_, 1) := by decide +kernel
theorem dX3_init_0 : decode cX3_init 0 = .ok (.aload_n 0, 1) := by decide +kernel
theorem dX3_init_1 : decode cX3_init 1 = .ok (.invokespecial 3, 3) := by decide +kernel
theorem dX3_init_4 : decode cX3_init 4 = .ok (.aload_n 0, 1) := by decide +kernel
theorem dX3_init_5 : decode cX3_init 5 = .ok (.bipush 7, 2) := by decide +kernel
theorem dX3_init_7 : decode cX3_init 7 = .ok (.newarray .int, 2) := by decide +kernel
theorem dX3_init_9 : decode cX3_init 9 = .ok (.putfield 9, 3) := by decide +kernel
theorem dX3_init_12 : decode cX3_init 12 = .ok (.aload_n 0, 1) := by decide +kernel
theorem dX3_init_13 : decode cX3_init 13 = .ok (.bipush 7, 2) := by decide +kernel
theorem dX3_init_15 : decode cX3_init 15 = .ok (.newarray .int, 2) := by decide +kernel
theorem dX3_init_17 : decode cX3_init 17 = .ok (.putfield 15, 3) := by decide +kernel
theorem dX3_init_20 : decode cX3_init 20 = .ok (.aload_n 0, 1) := by decide +kernel
theorem dX3_init_21 : decode cX3_init 21 = .ok (.bipush 7, 2) := by decide +kernel
theorem dX3_init_23 : decode cX3_init 23 = .ok (.newarray .int, 2) := by decide +kernel
theorem dX3_init_25 : decode cX3_init 25 = .ok (.putfield 18, 3) := by decide +kernel
theorem dX3_init_28 : decode cX3_init 28 = .ok (.aload_n 0, 1) := by decide +kernel
theorem dX3_init_29 : decode cX3_init 29 = .ok (.bipush 7, 2) := by decide +kernel
theorem dX3_init_31 : decode cX3_init 31 = .ok (.newarray .int, 2) := by decide +kernel
theorem dX3_init_33 : decode cX3_init 33 = .ok (.putfield 21, 3) := by decide +kernel
theorem dX3_init_36 : decode cX3_init 36 = .ok (.aload_n 0, 1) := by decide +kernel
theorem dX3_init_37 : decode cX3_init 37 = .ok (.bipush 6, 2) := by decide +kernel
theorem dX3_init_39 : decode cX3_init 39 = .ok (.newarray .int, 2) := by decide +kernel
theorem dX3_init_41 : decode cX3_init 41 = .ok (.putfield 24, 3) := by decide +kernel
theorem dX3_init_44 : decode cX3_init 44 = .ok (.aload_n 0, 1) := by decide +kernel
theorem dX3_init_45 : decode cX3_init 45 = .ok (.bipush 6, 2) := by decide +kernel
theorem dX3_init_47 : decode cX3_init 47 = .ok (.newarray .int, 2) := by decide +kernel
theorem dX3_init_49 : decode cX3_init 49 = .ok (.putfield 27, 3) := by decide +kernel
theorem dX3_init_52 : decode cX3_init 52 = .ok (.aload_n 0, 1) := by decide +kernel
theorem dX3_init_53 : decode cX3_init 53 = .ok (.bipush 36, 2) := by decide +kernel
theorem dX3_init_55 : decode cX3_init 55 = .ok (.newarray .int, 2) := by decide +kernel
theorem dX3_init_57 : decode cX3_init 57 = .ok (.putfield 30, 3) := by decide +kernel
theorem dX3_init_60 : decode cX3_init 60 = .ok (.return_, 1) := by decide +kernel
theorem dX8_init_0 : decode cX8_init 0 = .ok (.aload_n 0, 1) := by decide +kernel
theorem dX8_init_1 : decode cX8_init 1 = .ok (.invokespecial 3, 3) := by decide +kernel
theorem dX8_init_4 : decode cX8_init 4 = .ok (.aload_n 0, 1) := by decide +kernel
theorem dX8_init_5 : decode cX8_init 5 = .ok (.new 9, 3) := by decide +kernel
theorem dX8_init_8 : decode cX8_init 8 = .ok (.dup, 1) := by decide +kernel
theorem dX8_init_9 : decode cX8_init 9 = .ok (.invokespecial 11, 3) := by decide +kernel
theorem dX8_init_12 : decode cX8_init 12 = .ok (.putfield 12, 3) := by decide +kernel
theorem dX8_init_15 : decode cX8_init 15 = .ok (.aload_n 0, 1) := by decide +kernel
theorem dX8_init_16 : decode cX8_init 16 = .ok (.bipush 60, 2) := by decide +kernel
theorem dX8_init_18 : decode cX8_init 18 = .ok (.newarray .int, 2) := by decide +kernel
theorem dX8_init_20 : decode cX8_init 20 = .ok (.putfield 18, 3) := by decide +kernel
theorem dX8_init_23 : decode cX8_init 23 = .ok (.return_, 1) := by decide +kernel
theorem dX7_init_0 : decode cX7_init 0 = .ok (.aload_n 0, 1) := by decide +kernel
theorem dX7_init_1 : decode cX7_init 1 = .ok (.invokespecial 3, 3) := by decide +kernel
theorem dX7_init_4 : decode cX7_init 4 = .ok (.aload_n 0, 1) := by decide +kernel
theorem dX7_init_5 : decode cX7_init 5 = .ok (.bipush 60, 2) := by decide +kernel
theorem dX7_init_7 : decode cX7_init 7 = .ok (.newarray .long, 2) := by decide +kernel
theorem dX7_init_9 : decode cX7_init 9 = .ok (.putfield 9, 3) := by decide +kernel
theorem dX7_init_12 : decode cX7_init 12 = .ok (.return_, 1) := by decide +kernel
theorem dX5_init_0 : decode cX5_init 0 = .ok (.aload_n 0, 1) := by decide +kernel
theorem dX5_init_1 : decode cX5_init 1 = .ok (.invokespecial 3, 3) := by decide +kernel
theorem dX5_init_4 : decode cX5_init 4 = .ok (.aload_n 0, 1) := by decide +kernel
theorem dX5_init_5 : decode cX5_init 5 = .ok (.bipush 7, 2) := by decide +kernel
theorem dX5_init_7 : decode cX5_init 7 = .ok (.newarray .int, 2) := by decide +kernel
theorem dX5_init_9 : decode cX5_init 9 = .ok (.putfield 9, 3) := by decide +kernel
theorem dX5_init_12 : decode cX5_init 12 = .ok (.aload_n 0, 1) := by decide +kernel
theorem dX5_init_13 : decode cX5_init 13 = .ok (.bipush 7, 2) := by decide +kernel
theorem dX5_init_15 : decode cX5_init 15 = .ok (.newarray .int, 2) := by decide +kernel
theorem dX5_init_17 : decode cX5_init 17 = .ok (.putfield 15, 3) := by decide +kernel
theorem dX5_init_20 : decode cX5_init 20 = .ok (.return_, 1) := by decide +kernel
theorem dX0_init_0 : decode cX0_init 0 = .ok (.aload_n 0, 1) := by decide +kernel
theorem dX0_init_1 : decode cX0_init 1 = .ok (.invokespecial 3, 3) := by decide +kernel
theorem dX0_init_4 : decode cX0_init 4 = .ok (.aload_n 0, 1) := by decide +kernel
theorem dX0_init_5 : decode cX0_init 5 = .ok (.iconst 5, 1) := by decide +kernel
theorem dX0_init_6 : decode cX0_init 6 = .ok (.anewarray 9, 3) := by decide +kernel
theorem dX0_init_9 : decode cX0_init 9 = .ok (.putfield 11, 3) := by decide +kernel
theorem dX0_init_12 : decode cX0_init 12 = .ok (.aload_n 0, 1) := by decide +kernel
theorem dX0_init_13 : decode cX0_init 13 = .ok (.iconst 5, 1) := by decide +kernel
theorem dX0_init_14 : decode cX0_init 14 = .ok (.iconst 5, 1) := by decide +kernel
theorem dX0_init_15 : decode cX0_init 15 = .ok (.multianewarray 17 2, 4) := by decide +kernel
theorem dX0_init_19 : decode cX0_init 19 = .ok (.putfield 19, 3) := by decide +kernel
theorem dX0_init_22 : decode cX0_init 22 = .ok (.aload_n 0, 1) := by decide +kernel
theorem dX0_init_23 : decode cX0_init 23 = .ok (.bipush 7, 2) := by decide +kernel
theorem dX0_init_25 : decode cX0_init 25 = .ok (.newarray .int, 2) := by decide +kernel
theorem dX0_init_27 : decode cX0_init 27 = .ok (.putfield 22, 3) := by decide +kernel
theorem dX0_init_30 : decode cX0_init 30 = .ok (.iconst 0, 1) := by decide +kernel
theorem dX0_init_31 : decode cX0_init 31 = .ok (.istore_n 1, 1) := by decide +kernel
theorem dX0_init_32 : decode cX0_init 32 = .ok (.iload_n 1, 1) := by decide +kernel
theorem dX0_init_33 : decode cX0_init 33 = .ok (.iconst 5, 1) := by decide +kernel
theorem dX0_init_34 : decode cX0_init 34 = .ok (.if_icmp .ge 22, 3) := by decide +kernel
theorem dX0_init_37 : decode cX0_init 37 = .ok (.aload_n 0, 1) := by decide +kernel
theorem dX0_init_38 : decode cX0_init 38 = .ok (.getfield 11, 3) := by decide +kernel
theorem dX0_init_41 : decode cX0_init 41 = .ok (.iload_n 1, 1) := by decide +kernel
theorem dX0_init_42 : decode cX0_init 42 = .ok (.new 9, 3) := by decide +kernel
theorem dX0_init_45 : decode cX0_init 45 = .ok (.dup, 1) := by decide +kernel
theorem dX0_init_46 : decode cX0_init 46 = .ok (.invokespecial 26, 3) := by decide +kernel
theorem dX0_init_49 : decode cX0_init 49 = .ok (.aastore, 1) := by decide +kernel
theorem dX0_init_50 : decode cX0_init 50 = .ok (.iinc 1 1, 3) := by decide +kernel
theorem dX0_init_53 : decode cX0_init 53 = .ok (.goto (-21), 3) := by decide +kernel
theorem dX0_init_56 : decode cX0_init 56 = .ok (.return_, 1) := by decide +kernel
theorem dX1_init_0 : decode cX1_init 0 = .ok (.aload_n 0, 1) := by decide +kernel
theorem dX1_init_1 : decode cX1_init 1 = .ok (.invokespecial 3, 3) := by decide +kernel
theorem dX1_init_4 : decode cX1_init 4 = .ok (.aload_n 0, 1) := by decide +kernel
theorem dX1_init_5 : decode cX1_init 5 = .ok (.bipush 98, 2) := by decide +kernel
theorem dX1_init_7 : decode cX1_init 7 = .ok (.newarray .long, 2) := by decide +kernel
theorem dX1_init_9 : decode cX1_init 9 = .ok (.putfield 11, 3) := by decide +kernel
theorem dX1_init_12 : decode cX1_init 12 = .ok (.aload_n 0, 1) := by decide +kernel
theorem dX1_init_13 : decode cX1_init 13 = .ok (.sipush 1792, 3) := by decide +kernel
theorem dX1_init_16 : decode cX1_init 16 = .ok (.newarray .int, 2) := by decide +kernel
theorem dX1_init_18 : decode cX1_init 18 = .ok (.putfield 15, 3) := by decide +kernel
theorem dX1_init_21 : decode cX1_init 21 = .ok (.aload_n 0, 1) := by decide +kernel
theorem dX1_init_22 : decode cX1_init 22 = .ok (.sipush 1792, 3) := by decide +kernel
theorem dX1_init_25 : decode cX1_init 25 = .ok (.newarray .int, 2) := by decide +kernel
theorem dX1_init_27 : decode cX1_init 27 = .ok (.putfield 19, 3) := by decide +kernel
theorem dX1_init_30 : decode cX1_init 30 = .ok (.aload_n 0, 1) := by decide +kernel
theorem dX1_init_31 : decode cX1_init 31 = .ok (.bipush 7, 2) := by decide +kernel
theorem dX1_init_33 : decode cX1_init 33 = .ok (.newarray .int, 2) := by decide +kernel
theorem dX1_init_35 : decode cX1_init 35 = .ok (.putfield 22, 3) := by decide +kernel
theorem dX1_init_38 : decode cX1_init 38 = .ok (.aload_n 0, 1) := by decide +kernel
theorem dX1_init_39 : decode cX1_init 39 = .ok (.bipush 49, 2) := by decide +kernel
theorem dX1_init_41 : decode cX1_init 41 = .ok (.newarray .int, 2) := by decide +kernel
theorem dX1_init_43 : decode cX1_init 43 = .ok (.putfield 25, 3) := by decide +kernel
theorem dX1_init_46 : decode cX1_init 46 = .ok (.aload_n 0, 1) := by decide +kernel
theorem dX1_init_47 : decode cX1_init 47 = .ok (.iconst (-1), 1) := by decide +kernel
theorem dX1_init_48 : decode cX1_init 48 = .ok (.putfield 28, 3) := by decide +kernel
theorem dX1_init_51 : decode cX1_init 51 = .ok (.return_, 1) := by decide +kernel
theorem dX2_init_0 : decode cX2_init 0 = .ok (.aload_n 0, 1) := by decide +kernel
theorem dX2_init_1 : decode cX2_init 1 = .ok (.invokespecial 3, 3) := by decide +kernel
theorem dX2_init_4 : decode cX2_init 4 = .ok (.return_, 1) := by decide +kernel
theorem dX4_init_0 : decode cX4_init 0 = .ok (.aload_n 0, 1) := by decide +kernel
theorem dX4_init_1 : decode cX4_init 1 = .ok (.invokespecial 3, 3) := by decide +kernel
theorem dX4_init_4 : decode cX4_init 4 = .ok (.aload_n 0, 1) := by decide +kernel
theorem dX4_init_5 : decode cX4_init 5 = .ok (.bipush 64, 2) := by decide +kernel
theorem dX4_init_7 : decode cX4_init 7 = .ok (.newarray .int, 2) := by decide +kernel
theorem dX4_init_9 : decode cX4_init 9 = .ok (.putfield 11, 3) := by decide +kernel
theorem dX4_init_12 : decode cX4_init 12 = .ok (.return_, 1) := by decide +kernel
theorem dX10_init_0 : decode cX10_init 0 = .ok (.aload_n 0, 1) := by decide +kernel
theorem dX10_init_1 : decode cX10_init 1 = .ok (.invokespecial 1, 3) := by decide +kernel
theorem dX10_init_4 : decode cX10_init 4 = .ok (.aload_n 0, 1) := by decide +kernel
theorem dX10_init_5 : decode cX10_init 5 = .ok (.new 7, 3) := by decide +kernel
theorem dX10_init_8 : decode cX10_init 8 = .ok (.dup, 1) := by decide +kernel
theorem dX10_init_9 : decode cX10_init 9 = .ok (.invokespecial 9, 3) := by decide +kernel
theorem dX10_init_12 : decode cX10_init 12 = .ok (.putfield 10, 3) := by decide +kernel
theorem dX10_init_15 : decode cX10_init 15 = .ok (.aload_n 0, 1) := by decide +kernel
theorem dX10_init_16 : decode cX10_init 16 = .ok (.aload_n 0, 1) := by decide +kernel
theorem dX10_init_17 : decode cX10_init 17 = .ok (.getfield 10, 3) := by decide +kernel
theorem dX10_init_20 : decode cX10_init 20 = .ok (.getfield 16, 3) := by decide +kernel
theorem dX10_init_23 : decode cX10_init 23 = .ok (.putfield 20, 3) := by decide +kernel
theorem dX10_init_26 : decode cX10_init 26 = .ok (.aload_n 0, 1) := by decide +kernel
theorem dX10_init_27 : decode cX10_init 27 = .ok (.new 21, 3) := by decide +kernel
theorem dX10_init_30 : decode cX10_init 30 = .ok (.dup, 1) := by decide +kernel
theorem dX10_init_31 : decode cX10_init 31 = .ok (.invokespecial 23, 3) := by decide +kernel
theorem dX10_init_34 : decode cX10_init 34 = .ok (.putfield 24, 3) := by decide +kernel
theorem dX10_init_37 : decode cX10_init 37 = .ok (.aload_n 0, 1) := by decide +kernel
theorem dX10_init_38 : decode cX10_init 38 = .ok (.new 28, 3) := by decide +kernel
theorem dX10_init_41 : decode cX10_init 41 = .ok (.dup, 1) := by decide +kernel
theorem dX10_init_42 : decode cX10_init 42 = .ok (.invokespecial 30, 3) := by decide +kernel
theorem dX10_init_45 : decode cX10_init 45 = .ok (.putfield 31, 3) := by decide +kernel
theorem dX10_init_48 : decode cX10_init 48 = .ok (.aload_n 0, 1) := by decide +kernel
theorem dX10_init_49 : decode cX10_init 49 = .ok (.iconst 3, 1) := by decide +kernel
theorem dX10_init_50 : decode cX10_init 50 = .ok (.anewarray 28, 3) := by decide +kernel
theorem dX10_init_53 : decode cX10_init 53 = .ok (.putfield 35, 3) := by decide +kernel
theorem dX10_init_56 : decode cX10_init 56 = .ok (.aload_n 0, 1) := by decide +kernel
theorem dX10_init_57 : decode cX10_init 57 = .ok (.iconst 4, 1) := by decide +kernel
theorem dX10_init_58 : decode cX10_init 58 = .ok (.anewarray 39, 3) := by decide +kernel
theorem dX10_init_61 : decode cX10_init 61 = .ok (.putfield 41, 3) := by decide +kernel
theorem dX10_init_64 : decode cX10_init 64 = .ok (.aload_n 0, 1) := by decide +kernel
theorem dX10_init_65 : decode cX10_init 65 = .ok (.new 45, 3) := by decide +kernel
theorem dX10_init_68 : decode cX10_init 68 = .ok (.dup, 1) := by decide +kernel
theorem dX10_init_69 : decode cX10_init 69 = .ok (.invokespecial 47, 3) := by decide +kernel
theorem dX10_init_72 : decode cX10_init 72 = .ok (.putfield 48, 3) := by decide +kernel
theorem dX10_init_75 : decode cX10_init 75 = .ok (.aload_n 0, 1) := by decide +kernel
theorem dX10_init_76 : decode cX10_init 76 = .ok (.new 45, 3) := by decide +kernel
theorem dX10_init_79 : decode cX10_init 79 = .ok (.dup, 1) := by decide +kernel
theorem dX10_init_80 : decode cX10_init 80 = .ok (.invokespecial 47, 3) := by decide +kernel
theorem dX10_init_83 : decode cX10_init 83 = .ok (.putfield 52, 3) := by decide +kernel
theorem dX10_init_86 : decode cX10_init 86 = .ok (.aload_n 0, 1) := by decide +kernel
theorem dX10_init_87 : decode cX10_init 87 = .ok (.new 55, 3) := by decide +kernel
theorem dX10_init_90 : decode cX10_init 90 = .ok (.dup, 1) := by decide +kernel
theorem dX10_init_91 : decode cX10_init 91 = .ok (.invokespecial 57, 3) := by decide +kernel
theorem dX10_init_94 : decode cX10_init 94 = .ok (.putfield 58, 3) := by decide +kernel
theorem dX10_init_97 : decode cX10_init 97 = .ok (.aload_n 0, 1) := by decide +kernel
theorem dX10_init_98 : decode cX10_init 98 = .ok (.new 62, 3) := by decide +kernel
theorem dX10_init_101 : decode cX10_init 101 = .ok (.dup, 1) := by decide +kernel
theorem dX10_init_102 : decode cX10_init 102 = .ok (.invokespecial 64, 3) := by decide +kernel
theorem dX10_init_105 : decode cX10_init 105 = .ok (.putfield 65, 3) := by decide +kernel
theorem dX10_init_108 : decode cX10_init 108 = .ok (.aload_n 0, 1) := by decide +kernel
theorem dX10_init_109 : decode cX10_init 109 = .ok (.new 69, 3) := by decide +kernel
theorem dX10_init_112 : decode cX10_init 112 = .ok (.dup, 1) := by decide +kernel
theorem dX10_init_113 : decode cX10_init 113 = .ok (.invokespecial 71, 3) := by decide +kernel
theorem dX10_init_116 : decode cX10_init 116 = .ok (.putfield 72, 3) := by decide +kernel
theorem dX10_init_119 : decode cX10_init 119 = .ok (.aload_n 0, 1) := by decide +kernel
theorem dX10_init_120 : decode cX10_init 120 = .ok (.new 76, 3) := by decide +kernel
theorem dX10_init_123 : decode cX10_init 123 = .ok (.dup, 1) := by decide +kernel
theorem dX10_init_124 : decode cX10_init 124 = .ok (.invokespecial 78, 3) := by decide +kernel
theorem dX10_init_127 : decode cX10_init 127 = .ok (.putfield 79, 3) := by decide +kernel
theorem dX10_init_130 : decode cX10_init 130 = .ok (.iconst 0, 1) := by decide +kernel
theorem dX10_init_131 : decode cX10_init 131 = .ok (.istore_n 1, 1) := by decide +kernel
theorem dX10_init_132 : decode cX10_init 132 = .ok (.iload_n 1, 1) := by decide +kernel
theorem dX10_init_133 : decode cX10_init 133 = .ok (.iconst 3, 1) := by decide +kernel
theorem dX10_init_134 : decode cX10_init 134 = .ok (.if_icmp .ge 22, 3) := by decide +kernel
theorem dX10_init_137 : decode cX10_init 137 = .ok (.aload_n 0, 1) := by decide +kernel
theorem dX10_init_138 : decode cX10_init 138 = .ok (.getfield 35, 3) := by decide +kernel
theorem dX10_init_141 : decode cX10_init 141 = .ok (.iload_n 1, 1) := by decide +kernel
theorem dX10_init_142 : decode cX10_init 142 = .ok (.new 28, 3) := by decide +kernel
theorem dX10_init_145 : decode cX10_init 145 = .ok (.dup, 1) := by decide +kernel
theorem dX10_init_146 : decode cX10_init 146 = .ok (.invokespecial 30, 3) := by decide +kernel
theorem dX10_init_149 : decode cX10_init 149 = .ok (.aastore, 1) := by decide +kernel
theorem dX10_init_150 : decode cX10_init 150 = .ok (.iinc 1 1, 3) := by decide +kernel
theorem dX10_init_153 : decode cX10_init 153 = .ok (.goto (-21), 3) := by decide +kernel
theorem dX10_init_156 : decode cX10_init 156 = .ok (.iconst 0, 1) := by decide +kernel
theorem dX10_init_157 : decode cX10_init 157 = .ok (.istore_n 1, 1) := by decide +kernel
theorem dX10_init_158 : decode cX10_init 158 = .ok (.iload_n 1, 1) := by decide +kernel
theorem dX10_init_159 : decode cX10_init 159 = .ok (.iconst 4, 1) := by decide +kernel
theorem dX10_init_160 : decode cX10_init 160 = .ok (.if_icmp .ge 22, 3) := by decide +kernel
theorem dX10_init_163 : decode cX10_init 163 = .ok (.aload_n 0, 1) := by decide +kernel
theorem dX10_init_164 : decode cX10_init 164 = .ok (.getfield 41, 3) := by decide +kernel
theorem dX10_init_167 : decode cX10_init 167 = .ok (.iload_n 1, 1) := by decide +kernel
theorem dX10_init_168 : decode cX10_init 168 = .ok (.new 39, 3) := by decide +kernel
theorem dX10_init_171 : decode cX10_init 171 = .ok (.dup, 1) := by decide +kernel
theorem dX10_init_172 : decode cX10_init 172 = .ok (.invokespecial 83, 3) := by decide +kernel
theorem dX10_init_175 : decode cX10_init 175 = .ok (.aastore, 1) := by decide +kernel
theorem dX10_init_176 : decode cX10_init 176 = .ok (.iinc 1 1, 3) := by decide +kernel
theorem dX10_init_179 : decode cX10_init 179 = .ok (.goto (-21), 3) := by decide +kernel
theorem dX10_init_182 : decode cX10_init 182 = .ok (.return_, 1) := by decide +kernel
theorem dX11_init_0 : decode cX11_init 0 = .ok (.aload_n 0, 1) := by decide +kernel
theorem dX11_init_1 : decode cX11_init 1 = .ok (.invokespecial 3, 3) := by decide +kernel
theorem dX11_init_4 : decode cX11_init 4 = .ok (.aload_n 0, 1) := by decide +kernel
theorem dX11_init_5 : decode cX11_init 5 = .ok (.sipush 144, 3) := by decide +kernel
theorem dX11_init_8 : decode cX11_init 8 = .ok (.newarray .int, 2) := by decide +kernel
theorem dX11_init_10 : decode cX11_init 10 = .ok (.putfield 9, 3) := by decide +kernel
theorem dX11_init_13 : decode cX11_init 13 = .ok (.aload_n 0, 1) := by decide +kernel
theorem dX11_init_14 : decode cX11_init 14 = .ok (.sipush 432, 3) := by decide +kernel
theorem dX11_init_17 : decode cX11_init 17 = .ok (.newarray .int, 2) := by decide +kernel
theorem dX11_init_19 : decode cX11_init 19 = .ok (.putfield 13, 3) := by decide +kernel
theorem dX11_init_22 : decode cX11_init 22 = .ok (.aload_n 0, 1) := by decide +kernel
theorem dX11_init_23 : decode cX11_init 23 = .ok (.iconst 3, 1) := by decide +kernel
theorem dX11_init_24 : decode cX11_init 24 = .ok (.newarray .boolean, 2) := by decide +kernel
theorem dX11_init_26 : decode cX11_init 26 = .ok (.putfield 16, 3) := by decide +kernel
theorem dX11_init_29 : decode cX11_init 29 = .ok (.aload_n 0, 1) := by decide +kernel
theorem dX11_init_30 : decode cX11_init 30 = .ok (.sipush 900, 3) := by decide +kernel
theorem dX11_init_33 : decode cX11_init 33 = .ok (.newarray .byte, 2) := by decide +kernel
theorem dX11_init_35 : decode cX11_init 35 = .ok (.putfield 20, 3) := by decide +kernel
theorem dX11_init_38 : decode cX11_init 38 = .ok (.aload_n 0, 1) := by decide +kernel
theorem dX11_init_39 : decode cX11_init 39 = .ok (.iconst 5, 1) := by decide +kernel
theorem dX11_init_40 : decode cX11_init 40 = .ok (.newarray .int, 2) := by decide +kernel
theorem dX11_init_42 : decode cX11_init 42 = .ok (.putfield 24, 3) := by decide +kernel
theorem dX11_init_45 : decode cX11_init 45 = .ok (.aload_n 0, 1) := by decide +kernel
theorem dX11_init_46 : decode cX11_init 46 = .ok (.iconst (-1), 1) := by decide +kernel
theorem dX11_init_47 : decode cX11_init 47 = .ok (.putfield 27, 3) := by decide +kernel
theorem dX11_init_50 : decode cX11_init 50 = .ok (.aload_n 0, 1) := by decide +kernel
theorem dX11_init_51 : decode cX11_init 51 = .ok (.sipush 144, 3) := by decide +kernel
theorem dX11_init_54 : decode cX11_init 54 = .ok (.newarray .int, 2) := by decide +kernel
theorem dX11_init_56 : decode cX11_init 56 = .ok (.putfield 31, 3) := by decide +kernel
theorem dX11_init_59 : decode cX11_init 59 = .ok (.aload_n 0, 1) := by decide +kernel
theorem dX11_init_60 : decode cX11_init 60 = .ok (.bipush 7, 2) := by decide +kernel
theorem dX11_init_62 : decode cX11_init 62 = .ok (.newarray .int, 2) := by decide +kernel
theorem dX11_init_64 : decode cX11_init 64 = .ok (.putfield 34, 3) := by decide +kernel
theorem dX11_init_67 : decode cX11_init 67 = .ok (.aload_n 0, 1) := by decide +kernel
theorem dX11_init_68 : decode cX11_init 68 = .ok (.bipush 7, 2) := by decide +kernel
theorem dX11_init_70 : decode cX11_init 70 = .ok (.newarray .int, 2) := by decide +kernel
theorem dX11_init_72 : decode cX11_init 72 = .ok (.putfield 37, 3) := by decide +kernel
theorem dX11_init_75 : decode cX11_init 75 = .ok (.aload_n 0, 1) := by decide +kernel
theorem dX11_init_76 : decode cX11_init 76 = .ok (.iconst 5, 1) := by decide +kernel
theorem dX11_init_77 : decode cX11_init 77 = .ok (.newarray .int, 2) := by decide +kernel
theorem dX11_init_79 : decode cX11_init 79 = .ok (.putfield 40, 3) := by decide +kernel
theorem dX11_init_82 : decode cX11_init 82 = .ok (.aload_n 0, 1) := by decide +kernel
theorem dX11_init_83 : decode cX11_init 83 = .ok (.iconst 5, 1) := by decide +kernel
theorem dX11_init_84 : decode cX11_init 84 = .ok (.newarray .int, 2) := by decide +kernel
theorem dX11_init_86 : decode cX11_init 86 = .ok (.putfield 43, 3) := by decide +kernel
theorem dX11_init_89 : decode cX11_init 89 = .ok (.aload_n 0, 1) := by decide +kernel
theorem dX11_init_90 : decode cX11_init 90 = .ok (.bipush 7, 2) := by decide +kernel
theorem dX11_init_92 : decode cX11_init 92 = .ok (.newarray .int, 2) := by decide +kernel
theorem dX11_init_94 : decode cX11_init 94 = .ok (.putfield 46, 3) := by decide +kernel
theorem dX11_init_97 : decode cX11_init 97 = .ok (.aload_n 0, 1) := by decide +kernel
theorem dX11_init_98 : decode cX11_init 98 = .ok (.sipush 6272, 3) := by decide +kernel
theorem dX11_init_101 : decode cX11_init 101 = .ok (.newarray .int, 2) := by decide +kernel
theorem dX11_init_103 : decode cX11_init 103 = .ok (.putfield 49, 3) := by decide +kernel
theorem dX11_init_106 : decode cX11_init 106 = .ok (.aload_n 0, 1) := by decide +kernel
theorem dX11_init_107 : decode cX11_init 107 = .ok (.sipush 6272, 3) := by decide +kernel
theorem dX11_init_110 : decode cX11_init 110 = .ok (.newarray .int, 2) := by decide +kernel
theorem dX11_init_112 : decode cX11_init 112 = .ok (.putfield 52, 3) := by decide +kernel
theorem dX11_init_115 : decode cX11_init 115 = .ok (.aload_n 0, 1) := by decide +kernel
theorem dX11_init_116 : decode cX11_init 116 = .ok (.sipush 6272, 3) := by decide +kernel
theorem dX11_init_119 : decode cX11_init 119 = .ok (.newarray .int, 2) := by decide +kernel
theorem dX11_init_121 : decode cX11_init 121 = .ok (.putfield 55, 3) := by decide +kernel
theorem dX11_init_124 : decode cX11_init 124 = .ok (.aload_n 0, 1) := by decide +kernel
theorem dX11_init_125 : decode cX11_init 125 = .ok (.bipush 64, 2) := by decide +kernel
theorem dX11_init_127 : decode cX11_init 127 = .ok (.newarray .int, 2) := by decide +kernel
theorem dX11_init_129 : decode cX11_init 129 = .ok (.putfield 58, 3) := by decide +kernel
theorem dX11_init_132 : decode cX11_init 132 = .ok (.aload_n 0, 1) := by decide +kernel
theorem dX11_init_133 : decode cX11_init 133 = .ok (.iconst 4, 1) := by decide +kernel
theorem dX11_init_134 : decode cX11_init 134 = .ok (.newarray .int, 2) := by decide +kernel
theorem dX11_init_136 : decode cX11_init 136 = .ok (.dup, 1) := by decide +kernel
theorem dX11_init_137 : decode cX11_init 137 = .ok (.iconst 0, 1) := by decide +kernel
theorem dX11_init_138 : decode cX11_init 138 = .ok (.iconst (-1), 1) := by decide +kernel
theorem dX11_init_139 : decode cX11_init 139 = .ok (.iastore, 1) := by decide +kernel
theorem dX11_init_140 : decode cX11_init 140 = .ok (.dup, 1) := by decide +kernel
theorem dX11_init_141 : decode cX11_init 141 = .ok (.iconst 1, 1) := by decide +kernel
theorem dX11_init_142 : decode cX11_init 142 = .ok (.iconst (-1), 1) := by decide +kernel
theorem dX11_init_143 : decode cX11_init 143 = .ok (.iastore, 1) := by decide +kernel
theorem dX11_init_144 : decode cX11_init 144 = .ok (.dup, 1) := by decide +kernel
theorem dX11_init_145 : decode cX11_init 145 = .ok (.iconst 2, 1) := by decide +kernel
theorem dX11_init_146 : decode cX11_init 146 = .ok (.iconst (-1), 1) := by decide +kernel
theorem dX11_init_147 : decode cX11_init 147 = .ok (.iastore, 1) := by decide +kernel
theorem dX11_init_148 : decode cX11_init 148 = .ok (.dup, 1) := by decide +kernel
theorem dX11_init_149 : decode cX11_init 149 = .ok (.iconst 3, 1) := by decide +kernel
theorem dX11_init_150 : decode cX11_init 150 = .ok (.iconst (-1), 1) := by decide +kernel
theorem dX11_init_151 : decode cX11_init 151 = .ok (.iastore, 1) := by decide +kernel
theorem dX11_init_152 : decode cX11_init 152 = .ok (.putfield 61, 3) := by decide +kernel
theorem dX11_init_155 : decode cX11_init 155 = .ok (.aload_n 0, 1) := by decide +kernel
theorem dX11_init_156 : decode cX11_init 156 = .ok (.iconst 4, 1) := by decide +kernel
theorem dX11_init_157 : decode cX11_init 157 = .ok (.newarray .int, 2) := by decide +kernel
theorem dX11_init_159 : decode cX11_init 159 = .ok (.putfield 64, 3) := by decide +kernel
theorem dX11_init_162 : decode cX11_init 162 = .ok (.aload_n 0, 1) := by decide +kernel
theorem dX11_init_163 : decode cX11_init 163 = .ok (.sipush 240, 3) := by decide +kernel
theorem dX11_init_166 : decode cX11_init 166 = .ok (.newarray .long, 2) := by decide +kernel
theorem dX11_init_168 : decode cX11_init 168 = .ok (.putfield 67, 3) := by decide +kernel
theorem dX11_init_171 : decode cX11_init 171 = .ok (.aload_n 0, 1) := by decide +kernel
theorem dX11_init_172 : decode cX11_init 172 = .ok (.bipush 60, 2) := by decide +kernel
theorem dX11_init_174 : decode cX11_init 174 = .ok (.newarray .long, 2) := by decide +kernel
theorem dX11_init_176 : decode cX11_init 176 = .ok (.putfield 71, 3) := by decide +kernel
theorem dX11_init_179 : decode cX11_init 179 = .ok (.return_, 1) := by decide +kernel
theorem dJ0_coder_7d493_0 : decode cJ0_coder_7d493 0 = .ok (.getstatic 38, 3) := by decide +kernel
theorem dJ0_coder_7d493_3 : decode cJ0_coder_7d493 3 = .ok (.ifCond .eq 10, 3) := by decide +kernel
theorem dJ0_coder_7d493_6 : decode cJ0_coder_7d493 6 = .ok (.aload_n 0, 1) := by decide +kernel
theorem dJ0_coder_7d493_7 : decode cJ0_coder_7d493 7 = .ok (.getfield 15, 3) := by decide +kernel
theorem dJ0_coder_7d493_10 : decode cJ0_coder_7d493 10 = .ok (.goto 4, 3) := by decide +kernel
theorem dJ0_coder_7d493_14 : decode cJ0_coder_7d493 14 = .ok (.ireturn, 1) := by decide +kernel
theorem dJ0_isLatin1_aae02_0 : decode cJ0_isLatin1_aae02 0 = .ok (.getstatic 38, 3) := by decide +kernel
theorem dJ0_isLatin1_aae02_3 : decode cJ0_isLatin1_aae02 3 = .ok (.ifCond .eq 14, 3) := by decide +kernel
theorem dJ0_isLatin1_aae02_6 : decode cJ0_isLatin1_aae02 6 = .ok (.aload_n 0, 1) := by decide +kernel
theorem dJ0_isLatin1_aae02_7 : decode cJ0_isLatin1_aae02 7 = .ok (.getfield 15, 3) := by decide +kernel
theorem dJ0_isLatin1_aae02_10 : decode cJ0_isLatin1_aae02 10 = .ok (.ifCond .ne 7, 3) := by decide +kernel
theorem dJ0_isLatin1_aae02_13 : decode cJ0_isLatin1_aae02 13 = .ok (.iconst 1, 1) := by decide +kernel
theorem dJ0_isLatin1_aae02_14 : decode cJ0_isLatin1_aae02 14 = .ok (.goto 4, 3) := by decide +kernel
theorem dJ0_isLatin1_aae02_18 : decode cJ0_isLatin1_aae02 18 = .ok (.ireturn, 1) := by decide +kernel
theorem dJ0_length_8abf5_0 : decode cJ0_length_8abf5 0 = .ok (.aload_n 0, 1) := by decide +kernel
theorem dJ0_length_8abf5_1 : decode cJ0_length_8abf5 1 = .ok (.getfield 9, 3) := by decide +kernel
theorem dJ0_length_8abf5_4 : decode cJ0_length_8abf5 4 = .ok (.arraylength, 1) := by decide +kernel
theorem dJ0_length_8abf5_5 : decode cJ0_length_8abf5 5 = .ok (.aload_n 0, 1) := by decide +kernel
theorem dJ0_length_8abf5_6 : decode cJ0_length_8abf5 6 = .ok (.invokevirtual 335, 3) := by decide +kernel
theorem dJ0_length_8abf5_9 : decode cJ0_length_8abf5 9 = .ok (.ishr, 1) := by decide +kernel
theorem dJ0_length_8abf5_10 : decode cJ0_length_8abf5 10 = .ok (.ireturn, 1) := by decide +kernel
theorem dJ3_checkIndex_8e157_0 : decode cJ3_checkIndex_8e157 0 = .ok (.iload_n 0, 1) := by decide +kernel
theorem dJ3_checkIndex_8e157_1 : decode cJ3_checkIndex_8e157 1 = .ok (.ifCond .lt 8, 3) := by decide +kernel
theorem dJ3_checkIndex_8e157_4 : decode cJ3_checkIndex_8e157 4 = .ok (.iload_n 0, 1) := by decide +kernel
theorem dJ3_checkIndex_8e157_5 : decode cJ3_checkIndex_8e157 5 = .ok (.iload_n 1, 1) := by decide +kernel
theorem dJ3_checkIndex_8e157_6 : decode cJ3_checkIndex_8e157 6 = .ok (.if_icmp .lt 10, 3) := by decide +kernel
theorem dJ3_checkIndex_8e157_16 : decode cJ3_checkIndex_8e157 16 = .ok (.iload_n 0, 1) := by decide +kernel
theorem dJ3_checkIndex_8e157_17 : decode cJ3_checkIndex_8e157 17 = .ok (.ireturn, 1) := by decide +kernel
theorem dJ0_checkIndex_df160_0 : decode cJ0_checkIndex_df160 0 = .ok (.iload_n 0, 1) := by decide +kernel
theorem dJ0_checkIndex_df160_1 : decode cJ0_checkIndex_df160 1 = .ok (.iload_n 1, 1) := by decide +kernel
theorem dJ0_checkIndex_df160_2 : decode cJ0_checkIndex_df160 2 = .ok (.getstatic 1053, 3) := by decide +kernel
theorem dJ0_checkIndex_df160_5 : decode cJ0_checkIndex_df160 5 = .ok (.invokestatic 1059, 3) := by decide +kernel
theorem dJ0_checkIndex_df160_8 : decode cJ0_checkIndex_df160 8 = .ok (.pop, 1) := by decide +kernel
theorem dJ0_checkIndex_df160_9 : decode cJ0_checkIndex_df160 9 = .ok (.return_, 1) := by decide +kernel
theorem dJ1_charAt_3b067_0 : decode cJ1_charAt_3b067 0 = .ok (.iload_n 1, 1) := by decide +kernel
theorem dJ1_charAt_3b067_1 : decode cJ1_charAt_3b067 1 = .ok (.aload_n 0, 1) := by decide +kernel
theorem dJ1_charAt_3b067_2 : decode cJ1_charAt_3b067 2 = .ok (.arraylength, 1) := by decide +kernel
theorem dJ1_charAt_3b067_3 : decode cJ1_charAt_3b067 3 = .ok (.invokestatic 9, 3) := by decide +kernel
theorem dJ1_charAt_3b067_6 : decode cJ1_charAt_3b067 6 = .ok (.aload_n 0, 1) := by decide +kernel
theorem dJ1_charAt_3b067_7 : decode cJ1_charAt_3b067 7 = .ok (.iload_n 1, 1) := by decide +kernel
theorem dJ1_charAt_3b067_8 : decode cJ1_charAt_3b067 8 = .ok (.baload, 1) := by decide +kernel
theorem dJ1_charAt_3b067_9 : decode cJ1_charAt_3b067 9 = .ok (.sipush 255, 3) := by decide +kernel
theorem dJ1_charAt_3b067_12 : decode cJ1_charAt_3b067 12 = .ok (.iand, 1) := by decide +kernel
theorem dJ1_charAt_3b067_13 : decode cJ1_charAt_3b067 13 = .ok (.i2c, 1) := by decide +kernel
theorem dJ1_charAt_3b067_14 : decode cJ1_charAt_3b067 14 = .ok (.ireturn, 1) := by decide +kernel
theorem dJ0_charAt_5068e_0 : decode cJ0_charAt_5068e 0 = .ok (.aload_n 0, 1) := by decide +kernel
theorem dJ0_charAt_5068e_1 : decode cJ0_charAt_5068e 1 = .ok (.invokevirtual 492, 3) := by decide +kernel
theorem dJ0_charAt_5068e_4 : decode cJ0_charAt_5068e 4 = .ok (.ifCond .eq 12, 3) := by decide +kernel
theorem dJ0_charAt_5068e_7 : decode cJ0_charAt_5068e 7 = .ok (.aload_n 0, 1) := by decide +kernel
theorem dJ0_charAt_5068e_8 : decode cJ0_charAt_5068e 8 = .ok (.getfield 9, 3) := by decide +kernel
theorem dJ0_charAt_5068e_11 : decode cJ0_charAt_5068e 11 = .ok (.iload_n 1, 1) := by decide +kernel
theorem dJ0_charAt_5068e_12 : decode cJ0_charAt_5068e 12 = .ok (.invokestatic 495, 3) := by decide +kernel
theorem dJ0_charAt_5068e_15 : decode cJ0_charAt_5068e 15 = .ok (.ireturn, 1) := by decide +kernel
theorem dJ6_bitCount_0f7a4_0 : decode cJ6_bitCount_0f7a4 0 = .ok (.iload_n 0, 1) := by decide +kernel
theorem dJ6_bitCount_0f7a4_1 : decode cJ6_bitCount_0f7a4 1 = .ok (.iload_n 0, 1) := by decide +kernel
theorem dJ6_bitCount_0f7a4_2 : decode cJ6_bitCount_0f7a4 2 = .ok (.iconst 1, 1) := by decide +kernel
theorem dJ6_bitCount_0f7a4_3 : decode cJ6_bitCount_0f7a4 3 = .ok (.iushr, 1) := by decide +kernel
theorem dJ6_bitCount_0f7a4_4 : decode cJ6_bitCount_0f7a4 4 = .ok (.ldc_w 265, 3) := by decide +kernel
theorem dJ6_bitCount_0f7a4_7 : decode cJ6_bitCount_0f7a4 7 = .ok (.iand, 1) := by decide +kernel
theorem dJ6_bitCount_0f7a4_8 : decode cJ6_bitCount_0f7a4 8 = .ok (.isub, 1) := by decide +kernel
theorem dJ6_bitCount_0f7a4_9 : decode cJ6_bitCount_0f7a4 9 = .ok (.istore_n 0, 1) := by decide +kernel
theorem dJ6_bitCount_0f7a4_10 : decode cJ6_bitCount_0f7a4 10 = .ok (.iload_n 0, 1) := by decide +kernel
theorem dJ6_bitCount_0f7a4_11 : decode cJ6_bitCount_0f7a4 11 = .ok (.ldc_w 266, 3) := by decide +kernel
theorem dJ6_bitCount_0f7a4_14 : decode cJ6_bitCount_0f7a4 14 = .ok (.iand, 1) := by decide +kernel
theorem dJ6_bitCount_0f7a4_15 : decode cJ6_bitCount_0f7a4 15 = .ok (.iload_n 0, 1) := by decide +kernel
theorem dJ6_bitCount_0f7a4_16 : decode cJ6_bitCount_0f7a4 16 = .ok (.iconst 2, 1) := by decide +kernel
theorem dJ6_bitCount_0f7a4_17 : decode cJ6_bitCount_0f7a4 17 = .ok (.iushr, 1) := by decide +kernel
theorem dJ6_bitCount_0f7a4_18 : decode cJ6_bitCount_0f7a4 18 = .ok (.ldc_w 266, 3) := by decide +kernel
theorem dJ6_bitCount_0f7a4_21 : decode cJ6_bitCount_0f7a4 21 = .ok (.iand, 1) := by decide +kernel
theorem dJ6_bitCount_0f7a4_22 : decode cJ6_bitCount_0f7a4 22 = .ok (.iadd, 1) := by decide +kernel
theorem dJ6_bitCount_0f7a4_23 : decode cJ6_bitCount_0f7a4 23 = .ok (.istore_n 0, 1) := by decide +kernel
theorem dJ6_bitCount_0f7a4_24 : decode cJ6_bitCount_0f7a4 24 = .ok (.iload_n 0, 1) := by decide +kernel
theorem dJ6_bitCount_0f7a4_25 : decode cJ6_bitCount_0f7a4 25 = .ok (.iload_n 0, 1) := by decide +kernel
theorem dJ6_bitCount_0f7a4_26 : decode cJ6_bitCount_0f7a4 26 = .ok (.iconst 4, 1) := by decide +kernel
theorem dJ6_bitCount_0f7a4_27 : decode cJ6_bitCount_0f7a4 27 = .ok (.iushr, 1) := by decide +kernel
theorem dJ6_bitCount_0f7a4_28 : decode cJ6_bitCount_0f7a4 28 = .ok (.iadd, 1) := by decide +kernel
theorem dJ6_bitCount_0f7a4_29 : decode cJ6_bitCount_0f7a4 29 = .ok (.ldc_w 267, 3) := by decide +kernel
theorem dJ6_bitCount_0f7a4_32 : decode cJ6_bitCount_0f7a4 32 = .ok (.iand, 1) := by decide +kernel
theorem dJ6_bitCount_0f7a4_33 : decode cJ6_bitCount_0f7a4 33 = .ok (.istore_n 0, 1) := by decide +kernel
theorem dJ6_bitCount_0f7a4_34 : decode cJ6_bitCount_0f7a4 34 = .ok (.iload_n 0, 1) := by decide +kernel
theorem dJ6_bitCount_0f7a4_35 : decode cJ6_bitCount_0f7a4 35 = .ok (.iload_n 0, 1) := by decide +kernel
theorem dJ6_bitCount_0f7a4_36 : decode cJ6_bitCount_0f7a4 36 = .ok (.bipush 8, 2) := by decide +kernel
theorem dJ6_bitCount_0f7a4_38 : decode cJ6_bitCount_0f7a4 38 = .ok (.iushr, 1) := by decide +kernel
theorem dJ6_bitCount_0f7a4_39 : decode cJ6_bitCount_0f7a4 39 = .ok (.iadd, 1) := by decide +kernel
theorem dJ6_bitCount_0f7a4_40 : decode cJ6_bitCount_0f7a4 40 = .ok (.istore_n 0, 1) := by decide +kernel
theorem dJ6_bitCount_0f7a4_41 : decode cJ6_bitCount_0f7a4 41 = .ok (.iload_n 0, 1) := by decide +kernel
theorem dJ6_bitCount_0f7a4_42 : decode cJ6_bitCount_0f7a4 42 = .ok (.iload_n 0, 1) := by decide +kernel
theorem dJ6_bitCount_0f7a4_43 : decode cJ6_bitCount_0f7a4 43 = .ok (.bipush 16, 2) := by decide +kernel
theorem dJ6_bitCount_0f7a4_45 : decode cJ6_bitCount_0f7a4 45 = .ok (.iushr, 1) := by decide +kernel
theorem dJ6_bitCount_0f7a4_46 : decode cJ6_bitCount_0f7a4 46 = .ok (.iadd, 1) := by decide +kernel
theorem dJ6_bitCount_0f7a4_47 : decode cJ6_bitCount_0f7a4 47 = .ok (.istore_n 0, 1) := by decide +kernel
theorem dJ6_bitCount_0f7a4_48 : decode cJ6_bitCount_0f7a4 48 = .ok (.iload_n 0, 1) := by decide +kernel
theorem dJ6_bitCount_0f7a4_49 : decode cJ6_bitCount_0f7a4 49 = .ok (.bipush 63, 2) := by decide +kernel
theorem dJ6_bitCount_0f7a4_51 : decode cJ6_bitCount_0f7a4 51 = .ok (.iand, 1) := by decide +kernel
theorem dJ6_bitCount_0f7a4_52 : decode cJ6_bitCount_0f7a4 52 = .ok (.ireturn, 1) := by decide +kernel
theorem dJ6_numberOfTrailingZeros_0f7a4_0 : decode cJ6_numberOfTrailingZeros_0f7a4 0 = .ok (.iload_n 0, 1) := by decide +kernel
theorem dJ6_numberOfTrailingZeros_0f7a4_1 : decode cJ6_numberOfTrailingZeros_0f7a4 1 = .ok (.iconst (-1), 1) := by decide +kernel
theorem dJ6_numberOfTrailingZeros_0f7a4_2 : decode cJ6_numberOfTrailingZeros_0f7a4 2 = .ok (.ixor, 1) := by decide +kernel
theorem dJ6_numberOfTrailingZeros_0f7a4_3 : decode cJ6_numberOfTrailingZeros_0f7a4 3 = .ok (.iload_n 0, 1) := by decide +kernel
theorem dJ6_numberOfTrailingZeros_0f7a4_4 : decode cJ6_numberOfTrailingZeros_0f7a4 4 = .ok (.iconst 1, 1) := by decide +kernel
theorem dJ6_numberOfTrailingZeros_0f7a4_5 : decode cJ6_numberOfTrailingZeros_0f7a4 5 = .ok (.isub, 1) := by decide +kernel
theorem dJ6_numberOfTrailingZeros_0f7a4_6 : decode cJ6_numberOfTrailingZeros_0f7a4 6 = .ok (.iand, 1) := by decide +kernel
theorem dJ6_numberOfTrailingZeros_0f7a4_7 : decode cJ6_numberOfTrailingZeros_0f7a4 7 = .ok (.istore_n 0, 1) := by decide +kernel
theorem dJ6_numberOfTrailingZeros_0f7a4_8 : decode cJ6_numberOfTrailingZeros_0f7a4 8 = .ok (.iload_n 0, 1) := by decide +kernel
theorem dJ6_numberOfTrailingZeros_0f7a4_9 : decode cJ6_numberOfTrailingZeros_0f7a4 9 = .ok (.ifCond .gt 8, 3) := by decide +kernel
theorem dJ6_numberOfTrailingZeros_0f7a4_17 : decode cJ6_numberOfTrailingZeros_0f7a4 17 = .ok (.iconst 1, 1) := by decide +kernel
theorem dJ6_numberOfTrailingZeros_0f7a4_18 : decode cJ6_numberOfTrailingZeros_0f7a4 18 = .ok (.istore_n 1, 1) := by decide +kernel
theorem dJ6_numberOfTrailingZeros_0f7a4_19 : decode cJ6_numberOfTrailingZeros_0f7a4 19 = .ok (.iload_n 0, 1) := by decide +kernel
theorem dJ6_numberOfTrailingZeros_0f7a4_20 : decode cJ6_numberOfTrailingZeros_0f7a4 20 = .ok (.ldc_w 264, 3) := by decide +kernel
theorem dJ6_numberOfTrailingZeros_0f7a4_34 : decode cJ6_numberOfTrailingZeros_0f7a4 34 = .ok (.iload_n 0, 1) := by decide +kernel
theorem dJ6_numberOfTrailingZeros_0f7a4_35 : decode cJ6_numberOfTrailingZeros_0f7a4 35 = .ok (.sipush 256, 3) := by decide +kernel
theorem dJ6_numberOfTrailingZeros_0f7a4_49 : decode cJ6_numberOfTrailingZeros_0f7a4 49 = .ok (.iload_n 0, 1) := by decide +kernel
theorem dJ6_numberOfTrailingZeros_0f7a4_50 : decode cJ6_numberOfTrailingZeros_0f7a4 50 = .ok (.bipush 16, 2) := by decide +kernel
theorem dJ6_numberOfTrailingZeros_0f7a4_62 : decode cJ6_numberOfTrailingZeros_0f7a4 62 = .ok (.iload_n 0, 1) := by decide +kernel
theorem dJ6_numberOfTrailingZeros_0f7a4_63 : decode cJ6_numberOfTrailingZeros_0f7a4 63 = .ok (.iconst 4, 1) := by decide +kernel
theorem dJ6_numberOfTrailingZeros_0f7a4_64 : decode cJ6_numberOfTrailingZeros_0f7a4 64 = .ok (.if_icmp .le 10, 3) := by decide +kernel
theorem dJ6_numberOfTrailingZeros_0f7a4_74 : decode cJ6_numberOfTrailingZeros_0f7a4 74 = .ok (.iload_n 1, 1) := by decide +kernel
theorem dJ6_numberOfTrailingZeros_0f7a4_75 : decode cJ6_numberOfTrailingZeros_0f7a4 75 = .ok (.iload_n 0, 1) := by decide +kernel
theorem dJ6_numberOfTrailingZeros_0f7a4_76 : decode cJ6_numberOfTrailingZeros_0f7a4 76 = .ok (.iconst 1, 1) := by decide +kernel
theorem dJ6_numberOfTrailingZeros_0f7a4_77 : decode cJ6_numberOfTrailingZeros_0f7a4 77 = .ok (.iushr, 1) := by decide +kernel
theorem dJ6_numberOfTrailingZeros_0f7a4_78 : decode cJ6_numberOfTrailingZeros_0f7a4 78 = .ok (.iadd, 1) := by decide +kernel
theorem dJ6_numberOfTrailingZeros_0f7a4_79 : decode cJ6_numberOfTrailingZeros_0f7a4 79 = .ok (.ireturn, 1) := by decide +kernel
theorem dJ6_numberOfTrailingZeros_0f7a4_67 : decode cJ6_numberOfTrailingZeros_0f7a4 67 = .ok (.iinc 1 2, 3) := by decide +kernel
theorem dJ6_numberOfTrailingZeros_0f7a4_70 : decode cJ6_numberOfTrailingZeros_0f7a4 70 = .ok (.iload_n 0, 1) := by decide +kernel
theorem dJ6_numberOfTrailingZeros_0f7a4_71 : decode cJ6_numberOfTrailingZeros_0f7a4 71 = .ok (.iconst 2, 1) := by decide +kernel
theorem dJ6_numberOfTrailingZeros_0f7a4_72 : decode cJ6_numberOfTrailingZeros_0f7a4 72 = .ok (.iushr, 1) := by decide +kernel
theorem dJ6_numberOfTrailingZeros_0f7a4_73 : decode cJ6_numberOfTrailingZeros_0f7a4 73 = .ok (.istore_n 0, 1) := by decide +kernel
theorem dJ6_numberOfTrailingZeros_0f7a4_52 : decode cJ6_numberOfTrailingZeros_0f7a4 52 = .ok (.if_icmp .le 10, 3) := by decide +kernel
theorem dJ6_numberOfTrailingZeros_0f7a4_55 : decode cJ6_numberOfTrailingZeros_0f7a4 55 = .ok (.iinc 1 4, 3) := by decide +kernel
theorem dJ6_numberOfTrailingZeros_0f7a4_58 : decode cJ6_numberOfTrailingZeros_0f7a4 58 = .ok (.iload_n 0, 1) := by decide +kernel
theorem dJ6_numberOfTrailingZeros_0f7a4_59 : decode cJ6_numberOfTrailingZeros_0f7a4 59 = .ok (.iconst 4, 1) := by decide +kernel
theorem dJ6_numberOfTrailingZeros_0f7a4_60 : decode cJ6_numberOfTrailingZeros_0f7a4 60 = .ok (.iushr, 1) := by decide +kernel
theorem dJ6_numberOfTrailingZeros_0f7a4_61 : decode cJ6_numberOfTrailingZeros_0f7a4 61 = .ok (.istore_n 0, 1) := by decide +kernel
theorem dJ6_numberOfTrailingZeros_0f7a4_38 : decode cJ6_numberOfTrailingZeros_0f7a4 38 = .ok (.if_icmp .le 11, 3) := by decide +kernel
theorem dJ6_numberOfTrailingZeros_0f7a4_23 : decode cJ6_numberOfTrailingZeros_0f7a4 23 = .ok (.if_icmp .le 11, 3) := by decide +kernel
theorem dJ6_numberOfTrailingZeros_0f7a4_12 : decode cJ6_numberOfTrailingZeros_0f7a4 12 = .ok (.iload_n 0, 1) := by decide +kernel
theorem dJ6_numberOfTrailingZeros_0f7a4_13 : decode cJ6_numberOfTrailingZeros_0f7a4 13 = .ok (.bipush 32, 2) := by decide +kernel
theorem dJ6_numberOfTrailingZeros_0f7a4_15 : decode cJ6_numberOfTrailingZeros_0f7a4 15 = .ok (.iand, 1) := by decide +kernel
theorem dJ6_numberOfTrailingZeros_0f7a4_16 : decode cJ6_numberOfTrailingZeros_0f7a4 16 = .ok (.ireturn, 1) := by decide +kernel
theorem dX3_limit_0 : decode cX3_limit 0 = .ok (.iload_n 0, 1) := by decide +kernel
theorem dX3_limit_1 : decode cX3_limit 1 = .ok (.lookupswitch 34 #[(0, 27), (1, 31)], 27) := by decide +kernel
theorem dX3_limit_35 : decode cX3_limit 35 = .ok (.bipush 99, 2) := by decide +kernel
theorem dX3_limit_37 : decode cX3_limit 37 = .ok (.ireturn, 1) := by decide +kernel
theorem dX3_limit_28 : decode cX3_limit 28 = .ok (.sipush 999, 3) := by decide +kernel
theorem dX3_limit_31 : decode cX3_limit 31 = .ok (.ireturn, 1) := by decide +kernel
theorem dX3_limit_32 : decode cX3_limit 32 = .ok (.bipush 100, 2) := by decide +kernel
theorem dX3_limit_34 : decode cX3_limit 34 = .ok (.ireturn, 1) := by decide +kernel
theorem dX3_hasRoom_0 : decode cX3_hasRoom 0 = .ok (.iload_n 1, 1) := by decide +kernel
theorem dX3_hasRoom_1 : decode cX3_hasRoom 1 = .ok (.ifCond .lt 15, 3) := by decide +kernel
theorem dX3_hasRoom_16 : decode cX3_hasRoom 16 = .ok (.iconst 0, 1) := by decide +kernel
theorem dX3_hasRoom_17 : decode cX3_hasRoom 17 = .ok (.ireturn, 1) := by decide +kernel
theorem dX3_hasRoom_4 : decode cX3_hasRoom 4 = .ok (.iload_n 1, 1) := by decide +kernel
theorem dX3_hasRoom_5 : decode cX3_hasRoom 5 = .ok (.aload_n 0, 1) := by decide +kernel
theorem dX3_hasRoom_6 : decode cX3_hasRoom 6 = .ok (.getfield 49, 3) := by decide +kernel
theorem dX3_hasRoom_9 : decode cX3_hasRoom 9 = .ok (.if_icmp .ge 7, 3) := by decide +kernel
theorem dX3_hasRoom_12 : decode cX3_hasRoom 12 = .ok (.iconst 1, 1) := by decide +kernel
theorem dX3_hasRoom_13 : decode cX3_hasRoom 13 = .ok (.goto 4, 3) := by decide +kernel
theorem dX3_isDoor_0 : decode cX3_isDoor 0 = .ok (.aload_n 0, 1) := by decide +kernel
theorem dX3_isDoor_1 : decode cX3_isDoor 1 = .ok (.iload_n 1, 1) := by decide +kernel
theorem dX3_isDoor_2 : decode cX3_isDoor 2 = .ok (.invokevirtual 61, 3) := by decide +kernel
theorem dX3_isDoor_5 : decode cX3_isDoor 5 = .ok (.ifCond .eq 28, 3) := by decide +kernel
theorem dX3_isDoor_33 : decode cX3_isDoor 33 = .ok (.iconst 0, 1) := by decide +kernel
theorem dX3_isDoor_34 : decode cX3_isDoor 34 = .ok (.ireturn, 1) := by decide +kernel
theorem dX3_isDoor_8 : decode cX3_isDoor 8 = .ok (.aload_n 0, 1) := by decide +kernel
theorem dX3_isDoor_9 : decode cX3_isDoor 9 = .ok (.iload_n 2, 1) := by decide +kernel
theorem dX3_isDoor_10 : decode cX3_isDoor 10 = .ok (.invokevirtual 61, 3) := by decide +kernel
theorem dX3_isDoor_13 : decode cX3_isDoor 13 = .ok (.ifCond .eq 20, 3) := by decide +kernel
theorem dX3_isDoor_16 : decode cX3_isDoor 16 = .ok (.aload_n 0, 1) := by decide +kernel
theorem dX3_isDoor_17 : decode cX3_isDoor 17 = .ok (.getfield 21, 3) := by decide +kernel
theorem dX3_isDoor_20 : decode cX3_isDoor 20 = .ok (.iload_n 1, 1) := by decide +kernel
theorem dX3_isDoor_21 : decode cX3_isDoor 21 = .ok (.iaload, 1) := by decide +kernel
theorem dX3_isDoor_22 : decode cX3_isDoor 22 = .ok (.iload_n 2, 1) := by decide +kernel
theorem dX3_isDoor_23 : decode cX3_isDoor 23 = .ok (.ishr, 1) := by decide +kernel
theorem dX3_isDoor_24 : decode cX3_isDoor 24 = .ok (.iconst 1, 1) := by decide +kernel
theorem dX3_isDoor_25 : decode cX3_isDoor 25 = .ok (.iand, 1) := by decide +kernel
theorem dX3_isDoor_26 : decode cX3_isDoor 26 = .ok (.ifCond .eq 7, 3) := by decide +kernel
theorem dX3_isDoor_29 : decode cX3_isDoor 29 = .ok (.iconst 1, 1) := by decide +kernel
theorem dX3_isDoor_30 : decode cX3_isDoor 30 = .ok (.goto 4, 3) := by decide +kernel
theorem dX3_isStep_0 : decode cX3_isStep 0 = .ok (.iload_n 1, 1) := by decide +kernel
theorem dX3_isStep_1 : decode cX3_isStep 1 = .ok (.iload_n 2, 1) := by decide +kernel
theorem dX3_isStep_2 : decode cX3_isStep 2 = .ok (.if_icmp .eq 12, 3) := by decide +kernel
theorem dX3_isStep_14 : decode cX3_isStep 14 = .ok (.iconst 1, 1) := by decide +kernel
theorem dX3_isStep_15 : decode cX3_isStep 15 = .ok (.goto 4, 3) := by decide +kernel
theorem dX3_isStep_19 : decode cX3_isStep 19 = .ok (.ireturn, 1) := by decide +kernel
theorem dX3_isStep_5 : decode cX3_isStep 5 = .ok (.aload_n 0, 1) := by decide +kernel
theorem dX3_isStep_6 : decode cX3_isStep 6 = .ok (.iload_n 1, 1) := by decide +kernel
theorem dX3_isStep_7 : decode cX3_isStep 7 = .ok (.iload_n 2, 1) := by decide +kernel
theorem dX3_isStep_8 : decode cX3_isStep 8 = .ok (.invokevirtual 65, 3) := by decide +kernel
theorem dX3_isStep_11 : decode cX3_isStep 11 = .ok (.ifCond .eq 7, 3) := by decide +kernel
theorem dX3_isStep_18 : decode cX3_isStep 18 = .ok (.iconst 0, 1) := by decide +kernel
theorem dX3_countDoors_0 : decode cX3_countDoors 0 = .ok (.iconst 0, 1) := by decide +kernel
theorem dX3_countDoors_1 : decode cX3_countDoors 1 = .ok (.istore_n 1, 1) := by decide +kernel
theorem dX3_countDoors_2 : decode cX3_countDoors 2 = .ok (.iconst 0, 1) := by decide +kernel
theorem dX3_countDoors_3 : decode cX3_countDoors 3 = .ok (.istore_n 2, 1) := by decide +kernel
theorem dX3_countDoors_4 : decode cX3_countDoors 4 = .ok (.iload_n 2, 1) := by decide +kernel
theorem dX3_countDoors_5 : decode cX3_countDoors 5 = .ok (.aload_n 0, 1) := by decide +kernel
theorem dX3_countDoors_6 : decode cX3_countDoors 6 = .ok (.getfield 49, 3) := by decide +kernel
theorem dX3_countDoors_9 : decode cX3_countDoors 9 = .ok (.if_icmp .ge 21, 3) := by decide +kernel
theorem dX3_countDoors_30 : decode cX3_countDoors 30 = .ok (.iload_n 1, 1) := by decide +kernel
theorem dX3_countDoors_31 : decode cX3_countDoors 31 = .ok (.iconst 2, 1) := by decide +kernel
theorem dX3_countDoors_32 : decode cX3_countDoors 32 = .ok (.idiv, 1) := by decide +kernel
theorem dX3_countDoors_33 : decode cX3_countDoors 33 = .ok (.ireturn, 1) := by decide +kernel
theorem dX3_countDoors_12 : decode cX3_countDoors 12 = .ok (.iload_n 1, 1) := by decide +kernel
theorem dX3_countDoors_13 : decode cX3_countDoors 13 = .ok (.aload_n 0, 1) := by decide +kernel
theorem dX3_countDoors_14 : decode cX3_countDoors 14 = .ok (.getfield 21, 3) := by decide +kernel
theorem dX3_countDoors_17 : decode cX3_countDoors 17 = .ok (.iload_n 2, 1) := by decide +kernel
theorem dX3_countDoors_18 : decode cX3_countDoors 18 = .ok (.iaload, 1) := by decide +kernel
theorem dX3_countDoors_19 : decode cX3_countDoors 19 = .ok (.invokestatic 69, 3) := by decide +kernel
theorem dX3_countDoors_22 : decode cX3_countDoors 22 = .ok (.iadd, 1) := by decide +kernel
theorem dX3_countDoors_23 : decode cX3_countDoors 23 = .ok (.istore_n 1, 1) := by decide +kernel
theorem dX3_countDoors_24 : decode cX3_countDoors 24 = .ok (.iinc 2 1, 3) := by decide +kernel
theorem dX3_countDoors_27 : decode cX3_countDoors 27 = .ok (.goto (-23), 3) := by decide +kernel
theorem dX3_allRooms_0 : decode cX3_allRooms 0 = .ok (.iconst 1, 1) := by decide +kernel
theorem dX3_allRooms_1 : decode cX3_allRooms 1 = .ok (.aload_n 0, 1) := by decide +kernel
theorem dX3_allRooms_2 : decode cX3_allRooms 2 = .ok (.getfield 49, 3) := by decide +kernel
theorem dX3_allRooms_5 : decode cX3_allRooms 5 = .ok (.ishl, 1) := by decide +kernel
theorem dX3_allRooms_6 : decode cX3_allRooms 6 = .ok (.iconst 1, 1) := by decide +kernel
theorem dX3_allRooms_7 : decode cX3_allRooms 7 = .ok (.isub, 1) := by decide +kernel
theorem dX3_allRooms_8 : decode cX3_allRooms 8 = .ok (.ireturn, 1) := by decide +kernel
theorem dX3_spread_0 : decode cX3_spread 0 = .ok (.iload_n 1, 1) := by decide +kernel
theorem dX3_spread_1 : decode cX3_spread 1 = .ok (.istore_n 2, 1) := by decide +kernel
theorem dX3_spread_2 : decode cX3_spread 2 = .ok (.iconst 0, 1) := by decide +kernel
theorem dX3_spread_3 : decode cX3_spread 3 = .ok (.istore_n 3, 1) := by decide +kernel
theorem dX3_spread_4 : decode cX3_spread 4 = .ok (.iload_n 3, 1) := by decide +kernel
theorem dX3_spread_5 : decode cX3_spread 5 = .ok (.aload_n 0, 1) := by decide +kernel
theorem dX3_spread_6 : decode cX3_spread 6 = .ok (.getfield 49, 3) := by decide +kernel
theorem dX3_spread_9 : decode cX3_spread 9 = .ok (.if_icmp .ge 26, 3) := by decide +kernel
theorem dX3_spread_35 : decode cX3_spread 35 = .ok (.iload_n 2, 1) := by decide +kernel
theorem dX3_spread_36 : decode cX3_spread 36 = .ok (.ireturn, 1) := by decide +kernel
theorem dX3_spread_12 : decode cX3_spread 12 = .ok (.iload_n 1, 1) := by decide +kernel
theorem dX3_spread_13 : decode cX3_spread 13 = .ok (.iload_n 3, 1) := by decide +kernel
theorem dX3_spread_14 : decode cX3_spread 14 = .ok (.ishr, 1) := by decide +kernel
theorem dX3_spread_15 : decode cX3_spread 15 = .ok (.iconst 1, 1) := by decide +kernel
theorem dX3_spread_16 : decode cX3_spread 16 = .ok (.iand, 1) := by decide +kernel
theorem dX3_spread_29 : decode cX3_spread 29 = .ok (.iinc 3 1, 3) := by decide +kernel
theorem dX3_spread_32 : decode cX3_spread 32 = .ok (.goto (-28), 3) := by decide +kernel
theorem dX3_spread_17 : decode cX3_spread 17 = .ok (.ifCond .eq 12, 3) := by decide +kernel
theorem dX3_spread_20 : decode cX3_spread 20 = .ok (.iload_n 2, 1) := by decide +kernel
theorem dX3_spread_21 : decode cX3_spread 21 = .ok (.aload_n 0, 1) := by decide +kernel
theorem dX3_spread_22 : decode cX3_spread 22 = .ok (.getfield 21, 3) := by decide +kernel
theorem dX3_spread_25 : decode cX3_spread 25 = .ok (.iload_n 3, 1) := by decide +kernel
theorem dX3_spread_26 : decode cX3_spread 26 = .ok (.iaload, 1) := by decide +kernel
theorem dX3_spread_27 : decode cX3_spread 27 = .ok (.ior, 1) := by decide +kernel
theorem dX3_spread_28 : decode cX3_spread 28 = .ok (.istore_n 2, 1) := by decide +kernel
theorem dX3_heard_0 : decode cX3_heard 0 = .ok (.aload_n 0, 1) := by decide +kernel
theorem dX3_heard_1 : decode cX3_heard 1 = .ok (.iload_n 1, 1) := by decide +kernel
theorem dX3_heard_2 : decode cX3_heard 2 = .ok (.invokevirtual 61, 3) := by decide +kernel
theorem dX3_heard_5 : decode cX3_heard 5 = .ok (.ifCond .eq 7, 3) := by decide +kernel
theorem dX3_heard_12 : decode cX3_heard 12 = .ok (.iconst 0, 1) := by decide +kernel
theorem dX3_heard_13 : decode cX3_heard 13 = .ok (.ireturn, 1) := by decide +kernel
theorem dX3_heard_8 : decode cX3_heard 8 = .ok (.iload_n 2, 1) := by decide +kernel
theorem dX3_heard_9 : decode cX3_heard 9 = .ok (.ifCond .ge 5, 3) := by decide +kernel
theorem dX3_heard_14 : decode cX3_heard 14 = .ok (.bipush 100, 2) := by decide +kernel
theorem dX3_heard_16 : decode cX3_heard 16 = .ok (.bipush 100, 2) := by decide +kernel
theorem dX3_heard_18 : decode cX3_heard 18 = .ok (.aload_n 0, 1) := by decide +kernel
theorem dX3_heard_19 : decode cX3_heard 19 = .ok (.getfield 15, 3) := by decide +kernel
theorem dX3_heard_22 : decode cX3_heard 22 = .ok (.iload_n 1, 1) := by decide +kernel
theorem dX3_heard_23 : decode cX3_heard 23 = .ok (.iaload, 1) := by decide +kernel
theorem dX3_heard_24 : decode cX3_heard 24 = .ok (.isub, 1) := by decide +kernel
theorem dX3_heard_25 : decode cX3_heard 25 = .ok (.iload_n 2, 1) := by decide +kernel
theorem dX3_heard_26 : decode cX3_heard 26 = .ok (.iconst 1, 1) := by decide +kernel
theorem dX3_heard_27 : decode cX3_heard 27 = .ok (.iadd, 1) := by decide +kernel
theorem dX3_heard_28 : decode cX3_heard 28 = .ok (.idiv, 1) := by decide +kernel
theorem dX3_heard_29 : decode cX3_heard 29 = .ok (.isub, 1) := by decide +kernel
theorem dX3_heard_30 : decode cX3_heard 30 = .ok (.ireturn, 1) := by decide +kernel
theorem dX3_allSits_0 : decode cX3_allSits 0 = .ok (.iconst 0, 1) := by decide +kernel
theorem dX3_allSits_1 : decode cX3_allSits 1 = .ok (.istore_n 1, 1) := by decide +kernel
theorem dX3_allSits_2 : decode cX3_allSits 2 = .ok (.iconst 0, 1) := by decide +kernel
theorem dX3_allSits_3 : decode cX3_allSits 3 = .ok (.istore_n 2, 1) := by decide +kernel
theorem dX3_allSits_4 : decode cX3_allSits 4 = .ok (.iload_n 2, 1) := by decide +kernel
theorem dX3_allSits_5 : decode cX3_allSits 5 = .ok (.aload_n 0, 1) := by decide +kernel
theorem dX3_allSits_6 : decode cX3_allSits 6 = .ok (.getfield 49, 3) := by decide +kernel
theorem dX3_allSits_9 : decode cX3_allSits 9 = .ok (.if_icmp .ge 18, 3) := by decide +kernel
theorem dX3_allSits_27 : decode cX3_allSits 27 = .ok (.iload_n 1, 1) := by decide +kernel
theorem dX3_allSits_28 : decode cX3_allSits 28 = .ok (.ireturn, 1) := by decide +kernel
theorem dX3_allSits_12 : decode cX3_allSits 12 = .ok (.iload_n 1, 1) := by decide +kernel
theorem dX3_allSits_13 : decode cX3_allSits 13 = .ok (.aload_n 0, 1) := by decide +kernel
theorem dX3_allSits_14 : decode cX3_allSits 14 = .ok (.getfield 18, 3) := by decide +kernel
theorem dX3_allSits_17 : decode cX3_allSits 17 = .ok (.iload_n 2, 1) := by decide +kernel
theorem dX3_allSits_18 : decode cX3_allSits 18 = .ok (.iaload, 1) := by decide +kernel
theorem dX3_allSits_19 : decode cX3_allSits 19 = .ok (.iadd, 1) := by decide +kernel
theorem dX3_allSits_20 : decode cX3_allSits 20 = .ok (.istore_n 1, 1) := by decide +kernel
theorem dX3_allSits_21 : decode cX3_allSits 21 = .ok (.iinc 2 1, 3) := by decide +kernel
theorem dX3_allSits_24 : decode cX3_allSits 24 = .ok (.goto (-20), 3) := by decide +kernel
theorem dX3_whoSayYes_0 : decode cX3_whoSayYes 0 = .ok (.iconst 0, 1) := by decide +kernel
theorem dX3_whoSayYes_1 : decode cX3_whoSayYes 1 = .ok (.istore_n 3, 1) := by decide +kernel
theorem dX3_whoSayYes_2 : decode cX3_whoSayYes 2 = .ok (.iconst 0, 1) := by decide +kernel
theorem dX3_whoSayYes_3 : decode cX3_whoSayYes 3 = .ok (.istore 4, 2) := by decide +kernel
theorem dX3_whoSayYes_5 : decode cX3_whoSayYes 5 = .ok (.iload 4, 2) := by decide +kernel
theorem dX3_whoSayYes_7 : decode cX3_whoSayYes 7 = .ok (.aload_n 0, 1) := by decide +kernel
theorem dX3_whoSayYes_8 : decode cX3_whoSayYes 8 = .ok (.getfield 52, 3) := by decide +kernel
theorem dX3_whoSayYes_11 : decode cX3_whoSayYes 11 = .ok (.if_icmp .ge 39, 3) := by decide +kernel
theorem dX3_whoSayYes_50 : decode cX3_whoSayYes 50 = .ok (.iload_n 3, 1) := by decide +kernel
theorem dX3_whoSayYes_51 : decode cX3_whoSayYes 51 = .ok (.ireturn, 1) := by decide +kernel
theorem dX3_whoSayYes_14 : decode cX3_whoSayYes 14 = .ok (.iload_n 1, 1) := by decide +kernel
theorem dX3_whoSayYes_15 : decode cX3_whoSayYes 15 = .ok (.iload 4, 2) := by decide +kernel
theorem dX3_whoSayYes_17 : decode cX3_whoSayYes 17 = .ok (.ishr, 1) := by decide +kernel
theorem dX3_whoSayYes_18 : decode cX3_whoSayYes 18 = .ok (.iconst 1, 1) := by decide +kernel
theorem dX3_whoSayYes_19 : decode cX3_whoSayYes 19 = .ok (.iand, 1) := by decide +kernel
theorem dX3_whoSayYes_44 : decode cX3_whoSayYes 44 = .ok (.iinc 4 1, 3) := by decide +kernel
theorem dX3_whoSayYes_47 : decode cX3_whoSayYes 47 = .ok (.goto (-42), 3) := by decide +kernel
theorem dX3_whoSayYes_20 : decode cX3_whoSayYes 20 = .ok (.ifCond .eq 24, 3) := by decide +kernel
theorem dX3_whoSayYes_23 : decode cX3_whoSayYes 23 = .ok (.aload_n 0, 1) := by decide +kernel
theorem dX3_whoSayYes_24 : decode cX3_whoSayYes 24 = .ok (.getfield 27, 3) := by decide +kernel
theorem dX3_whoSayYes_27 : decode cX3_whoSayYes 27 = .ok (.iload 4, 2) := by decide +kernel
theorem dX3_whoSayYes_29 : decode cX3_whoSayYes 29 = .ok (.iaload, 1) := by decide +kernel
theorem dX3_whoSayYes_30 : decode cX3_whoSayYes 30 = .ok (.iload_n 2, 1) := by decide +kernel
theorem dX3_whoSayYes_31 : decode cX3_whoSayYes 31 = .ok (.ishr, 1) := by decide +kernel
theorem dX3_whoSayYes_32 : decode cX3_whoSayYes 32 = .ok (.iconst 1, 1) := by decide +kernel
theorem dX3_whoSayYes_33 : decode cX3_whoSayYes 33 = .ok (.iand, 1) := by decide +kernel
theorem dX3_whoSayYes_34 : decode cX3_whoSayYes 34 = .ok (.ifCond .eq 10, 3) := by decide +kernel
theorem dX3_whoSayYes_37 : decode cX3_whoSayYes 37 = .ok (.iload_n 3, 1) := by decide +kernel
theorem dX3_whoSayYes_38 : decode cX3_whoSayYes 38 = .ok (.iconst 1, 1) := by decide +kernel
theorem dX3_whoSayYes_39 : decode cX3_whoSayYes 39 = .ok (.iload 4, 2) := by decide +kernel
theorem dX3_whoSayYes_41 : decode cX3_whoSayYes 41 = .ok (.ishl, 1) := by decide +kernel
theorem dX3_whoSayYes_42 : decode cX3_whoSayYes 42 = .ok (.ior, 1) := by decide +kernel
theorem dX3_whoSayYes_43 : decode cX3_whoSayYes 43 = .ok (.istore_n 3, 1) := by decide +kernel
theorem dX3_clear_0 : decode cX3_clear 0 = .ok (.aload_n 0, 1) := by decide +kernel
theorem dX3_clear_1 : decode cX3_clear 1 = .ok (.iconst 0, 1) := by decide +kernel
theorem dX3_clear_2 : decode cX3_clear 2 = .ok (.putfield 33, 3) := by decide +kernel
theorem dX3_clear_5 : decode cX3_clear 5 = .ok (.aload_n 0, 1) := by decide +kernel
theorem dX3_clear_6 : decode cX3_clear 6 = .ok (.iconst 0, 1) := by decide +kernel
theorem dX3_clear_7 : decode cX3_clear 7 = .ok (.putfield 37, 3) := by decide +kernel
theorem dX3_clear_10 : decode cX3_clear 10 = .ok (.aload_n 0, 1) := by decide +kernel
theorem dX3_clear_11 : decode cX3_clear 11 = .ok (.iconst 0, 1) := by decide +kernel
theorem dX3_clear_12 : decode cX3_clear 12 = .ok (.putfield 40, 3) := by decide +kernel
theorem dX3_clear_15 : decode cX3_clear 15 = .ok (.aload_n 0, 1) := by decide +kernel
theorem dX3_clear_16 : decode cX3_clear 16 = .ok (.iconst 0, 1) := by decide +kernel
theorem dX3_clear_17 : decode cX3_clear 17 = .ok (.putfield 43, 3) := by decide +kernel
theorem dX3_clear_20 : decode cX3_clear 20 = .ok (.aload_n 0, 1) := by decide +kernel
theorem dX3_clear_21 : decode cX3_clear 21 = .ok (.iconst 0, 1) := by decide +kernel
theorem dX3_clear_22 : decode cX3_clear 22 = .ok (.putfield 46, 3) := by decide +kernel
theorem dX3_clear_25 : decode cX3_clear 25 = .ok (.aload_n 0, 1) := by decide +kernel
theorem dX3_clear_26 : decode cX3_clear 26 = .ok (.iconst 0, 1) := by decide +kernel
theorem dX3_clear_27 : decode cX3_clear 27 = .ok (.putfield 49, 3) := by decide +kernel
theorem dX3_clear_30 : decode cX3_clear 30 = .ok (.aload_n 0, 1) := by decide +kernel
theorem dX3_clear_31 : decode cX3_clear 31 = .ok (.iconst 0, 1) := by decide +kernel
theorem dX3_clear_32 : decode cX3_clear 32 = .ok (.putfield 52, 3) := by decide +kernel
theorem dX3_clear_35 : decode cX3_clear 35 = .ok (.return_, 1) := by decide +kernel
theorem dX3_copyFrom_0 : decode cX3_copyFrom 0 = .ok (.aload_n 0, 1) := by decide +kernel
theorem dX3_copyFrom_1 : decode cX3_copyFrom 1 = .ok (.aload_n 1, 1) := by decide +kernel
theorem dX3_copyFrom_2 : decode cX3_copyFrom 2 = .ok (.getfield 33, 3) := by decide +kernel
theorem dX3_copyFrom_5 : decode cX3_copyFrom 5 = .ok (.putfield 33, 3) := by decide +kernel
theorem dX3_copyFrom_8 : decode cX3_copyFrom 8 = .ok (.aload_n 0, 1) := by decide +kernel
theorem dX3_copyFrom_9 : decode cX3_copyFrom 9 = .ok (.aload_n 1, 1) := by decide +kernel
theorem dX3_copyFrom_10 : decode cX3_copyFrom 10 = .ok (.getfield 37, 3) := by decide +kernel
theorem dX3_copyFrom_13 : decode cX3_copyFrom 13 = .ok (.putfield 37, 3) := by decide +kernel
theorem dX3_copyFrom_16 : decode cX3_copyFrom 16 = .ok (.aload_n 0, 1) := by decide +kernel
theorem dX3_copyFrom_17 : decode cX3_copyFrom 17 = .ok (.aload_n 1, 1) := by decide +kernel
theorem dX3_copyFrom_18 : decode cX3_copyFrom 18 = .ok (.getfield 40, 3) := by decide +kernel
theorem dX3_copyFrom_21 : decode cX3_copyFrom 21 = .ok (.putfield 40, 3) := by decide +kernel
theorem dX3_copyFrom_24 : decode cX3_copyFrom 24 = .ok (.aload_n 0, 1) := by decide +kernel
theorem dX3_copyFrom_25 : decode cX3_copyFrom 25 = .ok (.aload_n 1, 1) := by decide +kernel
theorem dX3_copyFrom_26 : decode cX3_copyFrom 26 = .ok (.getfield 43, 3) := by decide +kernel
theorem dX3_copyFrom_29 : decode cX3_copyFrom 29 = .ok (.putfield 43, 3) := by decide +kernel
theorem dX3_copyFrom_32 : decode cX3_copyFrom 32 = .ok (.aload_n 0, 1) := by decide +kernel
theorem dX3_copyFrom_33 : decode cX3_copyFrom 33 = .ok (.aload_n 1, 1) := by decide +kernel
theorem dX3_copyFrom_34 : decode cX3_copyFrom 34 = .ok (.getfield 46, 3) := by decide +kernel
theorem dX3_copyFrom_37 : decode cX3_copyFrom 37 = .ok (.putfield 46, 3) := by decide +kernel
theorem dX3_copyFrom_40 : decode cX3_copyFrom 40 = .ok (.aload_n 0, 1) := by decide +kernel
theorem dX3_copyFrom_41 : decode cX3_copyFrom 41 = .ok (.aload_n 1, 1) := by decide +kernel
theorem dX3_copyFrom_42 : decode cX3_copyFrom 42 = .ok (.getfield 49, 3) := by decide +kernel
theorem dX3_copyFrom_45 : decode cX3_copyFrom 45 = .ok (.putfield 49, 3) := by decide +kernel
theorem dX3_copyFrom_48 : decode cX3_copyFrom 48 = .ok (.aload_n 0, 1) := by decide +kernel
theorem dX3_copyFrom_49 : decode cX3_copyFrom 49 = .ok (.aload_n 1, 1) := by decide +kernel
theorem dX3_copyFrom_50 : decode cX3_copyFrom 50 = .ok (.getfield 52, 3) := by decide +kernel
theorem dX3_copyFrom_53 : decode cX3_copyFrom 53 = .ok (.putfield 52, 3) := by decide +kernel
theorem dX3_copyFrom_56 : decode cX3_copyFrom 56 = .ok (.aload_n 1, 1) := by decide +kernel
theorem dX3_copyFrom_57 : decode cX3_copyFrom 57 = .ok (.getfield 9, 3) := by decide +kernel
theorem dX3_copyFrom_60 : decode cX3_copyFrom 60 = .ok (.iconst 0, 1) := by decide +kernel
theorem dX3_copyFrom_61 : decode cX3_copyFrom 61 = .ok (.aload_n 0, 1) := by decide +kernel
theorem dX3_copyFrom_62 : decode cX3_copyFrom 62 = .ok (.getfield 9, 3) := by decide +kernel
theorem dX3_copyFrom_65 : decode cX3_copyFrom 65 = .ok (.iconst 0, 1) := by decide +kernel
theorem dX3_copyFrom_66 : decode cX3_copyFrom 66 = .ok (.bipush 7, 2) := by decide +kernel
theorem dX3_copyFrom_68 : decode cX3_copyFrom 68 = .ok (.invokestatic 55, 3) := by decide +kernel
theorem dX3_copyFrom_71 : decode cX3_copyFrom 71 = .ok (.aload_n 1, 1) := by decide +kernel
theorem dX3_copyFrom_72 : decode cX3_copyFrom 72 = .ok (.getfield 15, 3) := by decide +kernel
theorem dX3_copyFrom_75 : decode cX3_copyFrom 75 = .ok (.iconst 0, 1) := by decide +kernel
theorem dX3_copyFrom_76 : decode cX3_copyFrom 76 = .ok (.aload_n 0, 1) := by decide +kernel
theorem dX3_copyFrom_77 : decode cX3_copyFrom 77 = .ok (.getfield 15, 3) := by decide +kernel
theorem dX3_copyFrom_80 : decode cX3_copyFrom 80 = .ok (.iconst 0, 1) := by decide +kernel
theorem dX3_copyFrom_81 : decode cX3_copyFrom 81 = .ok (.bipush 7, 2) := by decide +kernel
theorem dX3_copyFrom_83 : decode cX3_copyFrom 83 = .ok (.invokestatic 55, 3) := by decide +kernel
theorem dX3_copyFrom_86 : decode cX3_copyFrom 86 = .ok (.aload_n 1, 1) := by decide +kernel
theorem dX3_copyFrom_87 : decode cX3_copyFrom 87 = .ok (.getfield 18, 3) := by decide +kernel
theorem dX3_copyFrom_90 : decode cX3_copyFrom 90 = .ok (.iconst 0, 1) := by decide +kernel
theorem dX3_copyFrom_91 : decode cX3_copyFrom 91 = .ok (.aload_n 0, 1) := by decide +kernel
theorem dX3_copyFrom_92 : decode cX3_copyFrom 92 = .ok (.getfield 18, 3) := by decide +kernel
theorem dX3_copyFrom_95 : decode cX3_copyFrom 95 = .ok (.iconst 0, 1) := by decide +kernel
theorem dX3_copyFrom_96 : decode cX3_copyFrom 96 = .ok (.bipush 7, 2) := by decide +kernel
theorem dX3_copyFrom_98 : decode cX3_copyFrom 98 = .ok (.invokestatic 55, 3) := by decide +kernel
theorem dX3_copyFrom_101 : decode cX3_copyFrom 101 = .ok (.aload_n 1, 1) := by decide +kernel
theorem dX3_copyFrom_102 : decode cX3_copyFrom 102 = .ok (.getfield 21, 3) := by decide +kernel
theorem dX3_copyFrom_105 : decode cX3_copyFrom 105 = .ok (.iconst 0, 1) := by decide +kernel
theorem dX3_copyFrom_106 : decode cX3_copyFrom 106 = .ok (.aload_n 0, 1) := by decide +kernel
theorem dX3_copyFrom_107 : decode cX3_copyFrom 107 = .ok (.getfield 21, 3) := by decide +kernel
theorem dX3_copyFrom_110 : decode cX3_copyFrom 110 = .ok (.iconst 0, 1) := by decide +kernel
theorem dX3_copyFrom_111 : decode cX3_copyFrom 111 = .ok (.bipush 7, 2) := by decide +kernel
theorem dX3_copyFrom_113 : decode cX3_copyFrom 113 = .ok (.invokestatic 55, 3) := by decide +kernel
theorem dX3_copyFrom_116 : decode cX3_copyFrom 116 = .ok (.aload_n 1, 1) := by decide +kernel
theorem dX3_copyFrom_117 : decode cX3_copyFrom 117 = .ok (.getfield 24, 3) := by decide +kernel
theorem dX3_copyFrom_120 : decode cX3_copyFrom 120 = .ok (.iconst 0, 1) := by decide +kernel
theorem dX3_copyFrom_121 : decode cX3_copyFrom 121 = .ok (.aload_n 0, 1) := by decide +kernel
theorem dX3_copyFrom_122 : decode cX3_copyFrom 122 = .ok (.getfield 24, 3) := by decide +kernel
theorem dX3_copyFrom_125 : decode cX3_copyFrom 125 = .ok (.iconst 0, 1) := by decide +kernel
theorem dX3_copyFrom_126 : decode cX3_copyFrom 126 = .ok (.bipush 6, 2) := by decide +kernel
theorem dX3_copyFrom_128 : decode cX3_copyFrom 128 = .ok (.invokestatic 55, 3) := by decide +kernel
theorem dX3_copyFrom_131 : decode cX3_copyFrom 131 = .ok (.aload_n 1, 1) := by decide +kernel
theorem dX3_copyFrom_132 : decode cX3_copyFrom 132 = .ok (.getfield 27, 3) := by decide +kernel
theorem dX3_copyFrom_135 : decode cX3_copyFrom 135 = .ok (.iconst 0, 1) := by decide +kernel
theorem dX3_copyFrom_136 : decode cX3_copyFrom 136 = .ok (.aload_n 0, 1) := by decide +kernel
theorem dX3_copyFrom_137 : decode cX3_copyFrom 137 = .ok (.getfield 27, 3) := by decide +kernel
theorem dX3_copyFrom_140 : decode cX3_copyFrom 140 = .ok (.iconst 0, 1) := by decide +kernel
theorem dX3_copyFrom_141 : decode cX3_copyFrom 141 = .ok (.bipush 6, 2) := by decide +kernel
theorem dX3_copyFrom_143 : decode cX3_copyFrom 143 = .ok (.invokestatic 55, 3) := by decide +kernel
theorem dX3_copyFrom_146 : decode cX3_copyFrom 146 = .ok (.aload_n 1, 1) := by decide +kernel
theorem dX3_copyFrom_147 : decode cX3_copyFrom 147 = .ok (.getfield 30, 3) := by decide +kernel
theorem dX3_copyFrom_150 : decode cX3_copyFrom 150 = .ok (.iconst 0, 1) := by decide +kernel
theorem dX3_copyFrom_151 : decode cX3_copyFrom 151 = .ok (.aload_n 0, 1) := by decide +kernel
theorem dX3_copyFrom_152 : decode cX3_copyFrom 152 = .ok (.getfield 30, 3) := by decide +kernel
theorem dX3_copyFrom_155 : decode cX3_copyFrom 155 = .ok (.iconst 0, 1) := by decide +kernel
theorem dX3_copyFrom_156 : decode cX3_copyFrom 156 = .ok (.bipush 36, 2) := by decide +kernel
theorem dX3_copyFrom_158 : decode cX3_copyFrom 158 = .ok (.invokestatic 55, 3) := by decide +kernel
theorem dX3_copyFrom_161 : decode cX3_copyFrom 161 = .ok (.return_, 1) := by decide +kernel
theorem dX3_addRoom_0 : decode cX3_addRoom 0 = .ok (.aload_n 0, 1) := by decide +kernel
theorem dX3_addRoom_1 : decode cX3_addRoom 1 = .ok (.getfield 49, 3) := by decide +kernel
theorem dX3_addRoom_4 : decode cX3_addRoom 4 = .ok (.bipush 7, 2) := by decide +kernel
theorem dX3_addRoom_6 : decode cX3_addRoom 6 = .ok (.if_icmp .ge 53, 3) := by decide +kernel
theorem dX3_addRoom_59 : decode cX3_addRoom 59 = .ok (.return_, 1) := by decide +kernel
theorem dX3_addRoom_9 : decode cX3_addRoom 9 = .ok (.aload_n 0, 1) := by decide +kernel
theorem dX3_addRoom_10 : decode cX3_addRoom 10 = .ok (.getfield 9, 3) := by decide +kernel
theorem dX3_addRoom_13 : decode cX3_addRoom 13 = .ok (.aload_n 0, 1) := by decide +kernel
theorem dX3_addRoom_14 : decode cX3_addRoom 14 = .ok (.getfield 49, 3) := by decide +kernel
theorem dX3_addRoom_17 : decode cX3_addRoom 17 = .ok (.iload_n 1, 1) := by decide +kernel
theorem dX3_addRoom_18 : decode cX3_addRoom 18 = .ok (.iastore, 1) := by decide +kernel
theorem dX3_addRoom_19 : decode cX3_addRoom 19 = .ok (.aload_n 0, 1) := by decide +kernel
theorem dX3_addRoom_20 : decode cX3_addRoom 20 = .ok (.getfield 15, 3) := by decide +kernel
theorem dX3_addRoom_23 : decode cX3_addRoom 23 = .ok (.aload_n 0, 1) := by decide +kernel
theorem dX3_addRoom_24 : decode cX3_addRoom 24 = .ok (.getfield 49, 3) := by decide +kernel
theorem dX3_addRoom_27 : decode cX3_addRoom 27 = .ok (.iload_n 2, 1) := by decide +kernel
theorem dX3_addRoom_28 : decode cX3_addRoom 28 = .ok (.iastore, 1) := by decide +kernel
theorem dX3_addRoom_29 : decode cX3_addRoom 29 = .ok (.aload_n 0, 1) := by decide +kernel
theorem dX3_addRoom_30 : decode cX3_addRoom 30 = .ok (.getfield 18, 3) := by decide +kernel
theorem dX3_addRoom_33 : decode cX3_addRoom 33 = .ok (.aload_n 0, 1) := by decide +kernel
theorem dX3_addRoom_34 : decode cX3_addRoom 34 = .ok (.getfield 49, 3) := by decide +kernel
theorem dX3_addRoom_37 : decode cX3_addRoom 37 = .ok (.iload_n 3, 1) := by decide +kernel
theorem dX3_addRoom_38 : decode cX3_addRoom 38 = .ok (.iastore, 1) := by decide +kernel
theorem dX3_addRoom_39 : decode cX3_addRoom 39 = .ok (.aload_n 0, 1) := by decide +kernel
theorem dX3_addRoom_40 : decode cX3_addRoom 40 = .ok (.getfield 21, 3) := by decide +kernel
theorem dX3_addRoom_43 : decode cX3_addRoom 43 = .ok (.aload_n 0, 1) := by decide +kernel
theorem dX3_addRoom_44 : decode cX3_addRoom 44 = .ok (.getfield 49, 3) := by decide +kernel
theorem dX3_addRoom_47 : decode cX3_addRoom 47 = .ok (.iconst 0, 1) := by decide +kernel
theorem dX3_addRoom_48 : decode cX3_addRoom 48 = .ok (.iastore, 1) := by decide +kernel
theorem dX3_addRoom_49 : decode cX3_addRoom 49 = .ok (.aload_n 0, 1) := by decide +kernel
theorem dX3_addRoom_50 : decode cX3_addRoom 50 = .ok (.dup, 1) := by decide +kernel
theorem dX3_addRoom_51 : decode cX3_addRoom 51 = .ok (.getfield 49, 3) := by decide +kernel
theorem dX3_addRoom_54 : decode cX3_addRoom 54 = .ok (.iconst 1, 1) := by decide +kernel
theorem dX3_addRoom_55 : decode cX3_addRoom 55 = .ok (.iadd, 1) := by decide +kernel
theorem dX3_addRoom_56 : decode cX3_addRoom 56 = .ok (.putfield 49, 3) := by decide +kernel
theorem dX3_addMan_0 : decode cX3_addMan 0 = .ok (.aload_n 0, 1) := by decide +kernel
theorem dX3_addMan_1 : decode cX3_addMan 1 = .ok (.getfield 52, 3) := by decide +kernel
theorem dX3_addMan_4 : decode cX3_addMan 4 = .ok (.bipush 6, 2) := by decide +kernel
theorem dX3_addMan_6 : decode cX3_addMan 6 = .ok (.if_icmp .ge 97, 3) := by decide +kernel
theorem dX3_addMan_103 : decode cX3_addMan 103 = .ok (.return_, 1) := by decide +kernel
theorem dX3_addMan_9 : decode cX3_addMan 9 = .ok (.aload_n 0, 1) := by decide +kernel
theorem dX3_addMan_10 : decode cX3_addMan 10 = .ok (.getfield 24, 3) := by decide +kernel
theorem dX3_addMan_13 : decode cX3_addMan 13 = .ok (.aload_n 0, 1) := by decide +kernel
theorem dX3_addMan_14 : decode cX3_addMan 14 = .ok (.getfield 52, 3) := by decide +kernel
theorem dX3_addMan_17 : decode cX3_addMan 17 = .ok (.iload_n 1, 1) := by decide +kernel
theorem dX3_addMan_18 : decode cX3_addMan 18 = .ok (.iastore, 1) := by decide +kernel
theorem dX3_addMan_19 : decode cX3_addMan 19 = .ok (.aload_n 0, 1) := by decide +kernel
theorem dX3_addMan_20 : decode cX3_addMan 20 = .ok (.getfield 27, 3) := by decide +kernel
theorem dX3_addMan_23 : decode cX3_addMan 23 = .ok (.aload_n 0, 1) := by decide +kernel
theorem dX3_addMan_24 : decode cX3_addMan 24 = .ok (.getfield 52, 3) := by decide +kernel
theorem dX3_addMan_27 : decode cX3_addMan 27 = .ok (.iload_n 2, 1) := by decide +kernel
theorem dX3_addMan_28 : decode cX3_addMan 28 = .ok (.iastore, 1) := by decide +kernel
theorem dX3_addMan_29 : decode cX3_addMan 29 = .ok (.iconst 0, 1) := by decide +kernel
theorem dX3_addMan_30 : decode cX3_addMan 30 = .ok (.istore_n 3, 1) := by decide +kernel
theorem dX3_addMan_31 : decode cX3_addMan 31 = .ok (.iload_n 3, 1) := by decide +kernel
theorem dX3_addMan_32 : decode cX3_addMan 32 = .ok (.aload_n 0, 1) := by decide +kernel
theorem dX3_addMan_33 : decode cX3_addMan 33 = .ok (.getfield 52, 3) := by decide +kernel
theorem dX3_addMan_36 : decode cX3_addMan 36 = .ok (.if_icmp .gt 39, 3) := by decide +kernel
theorem dX3_addMan_75 : decode cX3_addMan 75 = .ok (.aload_n 0, 1) := by decide +kernel
theorem dX3_addMan_76 : decode cX3_addMan 76 = .ok (.getfield 30, 3) := by decide +kernel
theorem dX3_addMan_79 : decode cX3_addMan 79 = .ok (.aload_n 0, 1) := by decide +kernel
theorem dX3_addMan_80 : decode cX3_addMan 80 = .ok (.getfield 52, 3) := by decide +kernel
theorem dX3_addMan_83 : decode cX3_addMan 83 = .ok (.bipush 6, 2) := by decide +kernel
theorem dX3_addMan_85 : decode cX3_addMan 85 = .ok (.imul, 1) := by decide +kernel
theorem dX3_addMan_86 : decode cX3_addMan 86 = .ok (.aload_n 0, 1) := by decide +kernel
theorem dX3_addMan_87 : decode cX3_addMan 87 = .ok (.getfield 52, 3) := by decide +kernel
theorem dX3_addMan_90 : decode cX3_addMan 90 = .ok (.iadd, 1) := by decide +kernel
theorem dX3_addMan_91 : decode cX3_addMan 91 = .ok (.iconst 1, 1) := by decide +kernel
theorem dX3_addMan_92 : decode cX3_addMan 92 = .ok (.iastore, 1) := by decide +kernel
theorem dX3_addMan_93 : decode cX3_addMan 93 = .ok (.aload_n 0, 1) := by decide +kernel
theorem dX3_addMan_94 : decode cX3_addMan 94 = .ok (.dup, 1) := by decide +kernel
theorem dX3_addMan_95 : decode cX3_addMan 95 = .ok (.getfield 52, 3) := by decide +kernel
theorem dX3_addMan_98 : decode cX3_addMan 98 = .ok (.iconst 1, 1) := by decide +kernel
theorem dX3_addMan_99 : decode cX3_addMan 99 = .ok (.iadd, 1) := by decide +kernel
theorem dX3_addMan_100 : decode cX3_addMan 100 = .ok (.putfield 52, 3) := by decide +kernel
theorem dX3_addMan_39 : decode cX3_addMan 39 = .ok (.aload_n 0, 1) := by decide +kernel
theorem dX3_addMan_40 : decode cX3_addMan 40 = .ok (.getfield 30, 3) := by decide +kernel
theorem dX3_addMan_43 : decode cX3_addMan 43 = .ok (.aload_n 0, 1) := by decide +kernel
theorem dX3_addMan_44 : decode cX3_addMan 44 = .ok (.getfield 52, 3) := by decide +kernel
theorem dX3_addMan_47 : decode cX3_addMan 47 = .ok (.bipush 6, 2) := by decide +kernel
theorem dX3_addMan_49 : decode cX3_addMan 49 = .ok (.imul, 1) := by decide +kernel
theorem dX3_addMan_50 : decode cX3_addMan 50 = .ok (.iload_n 3, 1) := by decide +kernel
theorem dX3_addMan_51 : decode cX3_addMan 51 = .ok (.iadd, 1) := by decide +kernel
theorem dX3_addMan_52 : decode cX3_addMan 52 = .ok (.iconst 0, 1) := by decide +kernel
theorem dX3_addMan_53 : decode cX3_addMan 53 = .ok (.iastore, 1) := by decide +kernel
theorem dX3_addMan_54 : decode cX3_addMan 54 = .ok (.aload_n 0, 1) := by decide +kernel
theorem dX3_addMan_55 : decode cX3_addMan 55 = .ok (.getfield 30, 3) := by decide +kernel
theorem dX3_addMan_58 : decode cX3_addMan 58 = .ok (.iload_n 3, 1) := by decide +kernel
theorem dX3_addMan_59 : decode cX3_addMan 59 = .ok (.bipush 6, 2) := by decide +kernel
theorem dX3_addMan_61 : decode cX3_addMan 61 = .ok (.imul, 1) := by decide +kernel
theorem dX3_addMan_62 : decode cX3_addMan 62 = .ok (.aload_n 0, 1) := by decide +kernel
theorem dX3_addMan_63 : decode cX3_addMan 63 = .ok (.getfield 52, 3) := by decide +kernel
theorem dX3_addMan_66 : decode cX3_addMan 66 = .ok (.iadd, 1) := by decide +kernel
theorem dX3_addMan_67 : decode cX3_addMan 67 = .ok (.iconst 0, 1) := by decide +kernel
theorem dX3_addMan_68 : decode cX3_addMan 68 = .ok (.iastore, 1) := by decide +kernel
theorem dX3_addMan_69 : decode cX3_addMan 69 = .ok (.iinc 3 1, 3) := by decide +kernel
theorem dX3_addMan_72 : decode cX3_addMan 72 = .ok (.goto (-41), 3) := by decide +kernel
theorem dX3_tellSlate_0 : decode cX3_tellSlate 0 = .ok (.iload_n 1, 1) := by decide +kernel
theorem dX3_tellSlate_1 : decode cX3_tellSlate 1 = .ok (.ifCond .lt 35, 3) := by decide +kernel
theorem dX3_tellSlate_36 : decode cX3_tellSlate 36 = .ok (.return_, 1) := by decide +kernel
theorem dX3_tellSlate_4 : decode cX3_tellSlate 4 = .ok (.iload_n 1, 1) := by decide +kernel
theorem dX3_tellSlate_5 : decode cX3_tellSlate 5 = .ok (.aload_n 0, 1) := by decide +kernel
theorem dX3_tellSlate_6 : decode cX3_tellSlate 6 = .ok (.getfield 52, 3) := by decide +kernel
theorem dX3_tellSlate_9 : decode cX3_tellSlate 9 = .ok (.if_icmp .ge 27, 3) := by decide +kernel
theorem dX3_tellSlate_12 : decode cX3_tellSlate 12 = .ok (.iload_n 2, 1) := by decide +kernel
theorem dX3_tellSlate_13 : decode cX3_tellSlate 13 = .ok (.ifCond .lt 23, 3) := by decide +kernel
theorem dX3_tellSlate_16 : decode cX3_tellSlate 16 = .ok (.iload_n 2, 1) := by decide +kernel
theorem dX3_tellSlate_17 : decode cX3_tellSlate 17 = .ok (.aload_n 0, 1) := by decide +kernel
theorem dX3_tellSlate_18 : decode cX3_tellSlate 18 = .ok (.getfield 52, 3) := by decide +kernel
theorem dX3_tellSlate_21 : decode cX3_tellSlate 21 = .ok (.if_icmp .ge 15, 3) := by decide +kernel
theorem dX3_tellSlate_24 : decode cX3_tellSlate 24 = .ok (.aload_n 0, 1) := by decide +kernel
theorem dX3_tellSlate_25 : decode cX3_tellSlate 25 = .ok (.getfield 30, 3) := by decide +kernel
theorem dX3_tellSlate_28 : decode cX3_tellSlate 28 = .ok (.iload_n 1, 1) := by decide +kernel
theorem dX3_tellSlate_29 : decode cX3_tellSlate 29 = .ok (.bipush 6, 2) := by decide +kernel
theorem dX3_tellSlate_31 : decode cX3_tellSlate 31 = .ok (.imul, 1) := by decide +kernel
theorem dX3_tellSlate_32 : decode cX3_tellSlate 32 = .ok (.iload_n 2, 1) := by decide +kernel
theorem dX3_tellSlate_33 : decode cX3_tellSlate 33 = .ok (.iadd, 1) := by decide +kernel
theorem dX3_tellSlate_34 : decode cX3_tellSlate 34 = .ok (.iload_n 3, 1) := by decide +kernel
theorem dX3_tellSlate_35 : decode cX3_tellSlate 35 = .ok (.iastore, 1) := by decide +kernel
theorem dX3_openDoor_0 : decode cX3_openDoor 0 = .ok (.aload_n 0, 1) := by decide +kernel
theorem dX3_openDoor_1 : decode cX3_openDoor 1 = .ok (.iload_n 1, 1) := by decide +kernel
theorem dX3_openDoor_2 : decode cX3_openDoor 2 = .ok (.invokevirtual 61, 3) := by decide +kernel
theorem dX3_openDoor_5 : decode cX3_openDoor 5 = .ok (.ifCond .eq 35, 3) := by decide +kernel
theorem dX3_openDoor_40 : decode cX3_openDoor 40 = .ok (.return_, 1) := by decide +kernel
theorem dX3_openDoor_8 : decode cX3_openDoor 8 = .ok (.aload_n 0, 1) := by decide +kernel
theorem dX3_openDoor_9 : decode cX3_openDoor 9 = .ok (.iload_n 2, 1) := by decide +kernel
theorem dX3_openDoor_10 : decode cX3_openDoor 10 = .ok (.invokevirtual 61, 3) := by decide +kernel
theorem dX3_openDoor_13 : decode cX3_openDoor 13 = .ok (.ifCond .eq 27, 3) := by decide +kernel
theorem dX3_openDoor_16 : decode cX3_openDoor 16 = .ok (.aload_n 0, 1) := by decide +kernel
theorem dX3_openDoor_17 : decode cX3_openDoor 17 = .ok (.getfield 21, 3) := by decide +kernel
theorem dX3_openDoor_20 : decode cX3_openDoor 20 = .ok (.iload_n 1, 1) := by decide +kernel
theorem dX3_openDoor_21 : decode cX3_openDoor 21 = .ok (.dup2, 1) := by decide +kernel
theorem dX3_openDoor_22 : decode cX3_openDoor 22 = .ok (.iaload, 1) := by decide +kernel
theorem dX3_openDoor_23 : decode cX3_openDoor 23 = .ok (.iconst 1, 1) := by decide +kernel
theorem dX3_openDoor_24 : decode cX3_openDoor 24 = .ok (.iload_n 2, 1) := by decide +kernel
theorem dX3_openDoor_25 : decode cX3_openDoor 25 = .ok (.ishl, 1) := by decide +kernel
theorem dX3_openDoor_26 : decode cX3_openDoor 26 = .ok (.ior, 1) := by decide +kernel
theorem dX3_openDoor_27 : decode cX3_openDoor 27 = .ok (.iastore, 1) := by decide +kernel
theorem dX3_openDoor_28 : decode cX3_openDoor 28 = .ok (.aload_n 0, 1) := by decide +kernel
theorem dX3_openDoor_29 : decode cX3_openDoor 29 = .ok (.getfield 21, 3) := by decide +kernel
theorem dX3_openDoor_32 : decode cX3_openDoor 32 = .ok (.iload_n 2, 1) := by decide +kernel
theorem dX3_openDoor_33 : decode cX3_openDoor 33 = .ok (.dup2, 1) := by decide +kernel
theorem dX3_openDoor_34 : decode cX3_openDoor 34 = .ok (.iaload, 1) := by decide +kernel
theorem dX3_openDoor_35 : decode cX3_openDoor 35 = .ok (.iconst 1, 1) := by decide +kernel
theorem dX3_openDoor_36 : decode cX3_openDoor 36 = .ok (.iload_n 1, 1) := by decide +kernel
theorem dX3_openDoor_37 : decode cX3_openDoor 37 = .ok (.ishl, 1) := by decide +kernel
theorem dX3_openDoor_38 : decode cX3_openDoor 38 = .ok (.ior, 1) := by decide +kernel
theorem dX3_openDoor_39 : decode cX3_openDoor 39 = .ok (.iastore, 1) := by decide +kernel
theorem dX3_closeDoor_0 : decode cX3_closeDoor 0 = .ok (.aload_n 0, 1) := by decide +kernel
theorem dX3_closeDoor_1 : decode cX3_closeDoor 1 = .ok (.iload_n 1, 1) := by decide +kernel
theorem dX3_closeDoor_2 : decode cX3_closeDoor 2 = .ok (.invokevirtual 61, 3) := by decide +kernel
theorem dX3_closeDoor_5 : decode cX3_closeDoor 5 = .ok (.ifCond .eq 39, 3) := by decide +kernel
theorem dX3_closeDoor_44 : decode cX3_closeDoor 44 = .ok (.return_, 1) := by decide +kernel
theorem dX3_closeDoor_8 : decode cX3_closeDoor 8 = .ok (.aload_n 0, 1) := by decide +kernel
theorem dX3_closeDoor_9 : decode cX3_closeDoor 9 = .ok (.iload_n 2, 1) := by decide +kernel
theorem dX3_closeDoor_10 : decode cX3_closeDoor 10 = .ok (.invokevirtual 61, 3) := by decide +kernel
theorem dX3_closeDoor_13 : decode cX3_closeDoor 13 = .ok (.ifCond .eq 31, 3) := by decide +kernel
theorem dX3_closeDoor_16 : decode cX3_closeDoor 16 = .ok (.aload_n 0, 1) := by decide +kernel
theorem dX3_closeDoor_17 : decode cX3_closeDoor 17 = .ok (.getfield 21, 3) := by decide +kernel
theorem dX3_closeDoor_20 : decode cX3_closeDoor 20 = .ok (.iload_n 1, 1) := by decide +kernel
theorem dX3_closeDoor_21 : decode cX3_closeDoor 21 = .ok (.dup2, 1) := by decide +kernel
theorem dX3_closeDoor_22 : decode cX3_closeDoor 22 = .ok (.iaload, 1) := by decide +kernel
theorem dX3_closeDoor_23 : decode cX3_closeDoor 23 = .ok (.iconst 1, 1) := by decide +kernel
theorem dX3_closeDoor_24 : decode cX3_closeDoor 24 = .ok (.iload_n 2, 1) := by decide +kernel
theorem dX3_closeDoor_25 : decode cX3_closeDoor 25 = .ok (.ishl, 1) := by decide +kernel
theorem dX3_closeDoor_26 : decode cX3_closeDoor 26 = .ok (.iconst (-1), 1) := by decide +kernel
theorem dX3_closeDoor_27 : decode cX3_closeDoor 27 = .ok (.ixor, 1) := by decide +kernel
theorem dX3_closeDoor_28 : decode cX3_closeDoor 28 = .ok (.iand, 1) := by decide +kernel
theorem dX3_closeDoor_29 : decode cX3_closeDoor 29 = .ok (.iastore, 1) := by decide +kernel
theorem dX3_closeDoor_30 : decode cX3_closeDoor 30 = .ok (.aload_n 0, 1) := by decide +kernel
theorem dX3_closeDoor_31 : decode cX3_closeDoor 31 = .ok (.getfield 21, 3) := by decide +kernel
theorem dX3_closeDoor_34 : decode cX3_closeDoor 34 = .ok (.iload_n 2, 1) := by decide +kernel
theorem dX3_closeDoor_35 : decode cX3_closeDoor 35 = .ok (.dup2, 1) := by decide +kernel
theorem dX3_closeDoor_36 : decode cX3_closeDoor 36 = .ok (.iaload, 1) := by decide +kernel
theorem dX3_closeDoor_37 : decode cX3_closeDoor 37 = .ok (.iconst 1, 1) := by decide +kernel
theorem dX3_closeDoor_38 : decode cX3_closeDoor 38 = .ok (.iload_n 1, 1) := by decide +kernel
theorem dX3_closeDoor_39 : decode cX3_closeDoor 39 = .ok (.ishl, 1) := by decide +kernel
theorem dX3_closeDoor_40 : decode cX3_closeDoor 40 = .ok (.iconst (-1), 1) := by decide +kernel
theorem dX3_closeDoor_41 : decode cX3_closeDoor 41 = .ok (.ixor, 1) := by decide +kernel
theorem dX3_closeDoor_42 : decode cX3_closeDoor 42 = .ok (.iand, 1) := by decide +kernel
theorem dX3_closeDoor_43 : decode cX3_closeDoor 43 = .ok (.iastore, 1) := by decide +kernel
theorem dX8_copyFrom_0 : decode cX8_copyFrom 0 = .ok (.aload_n 0, 1) := by decide +kernel
theorem dX8_copyFrom_1 : decode cX8_copyFrom 1 = .ok (.getfield 12, 3) := by decide +kernel
theorem dX8_copyFrom_4 : decode cX8_copyFrom 4 = .ok (.aload_n 1, 1) := by decide +kernel
theorem dX8_copyFrom_5 : decode cX8_copyFrom 5 = .ok (.getfield 12, 3) := by decide +kernel
theorem dX8_copyFrom_8 : decode cX8_copyFrom 8 = .ok (.invokevirtual 22, 3) := by decide +kernel
theorem dX8_copyFrom_11 : decode cX8_copyFrom 11 = .ok (.aload_n 1, 1) := by decide +kernel
theorem dX8_copyFrom_12 : decode cX8_copyFrom 12 = .ok (.getfield 18, 3) := by decide +kernel
theorem dX8_copyFrom_15 : decode cX8_copyFrom 15 = .ok (.iconst 0, 1) := by decide +kernel
theorem dX8_copyFrom_16 : decode cX8_copyFrom 16 = .ok (.aload_n 0, 1) := by decide +kernel
theorem dX8_copyFrom_17 : decode cX8_copyFrom 17 = .ok (.getfield 18, 3) := by decide +kernel
theorem dX8_copyFrom_20 : decode cX8_copyFrom 20 = .ok (.iconst 0, 1) := by decide +kernel
theorem dX8_copyFrom_21 : decode cX8_copyFrom 21 = .ok (.bipush 60, 2) := by decide +kernel
theorem dX8_copyFrom_23 : decode cX8_copyFrom 23 = .ok (.invokestatic 26, 3) := by decide +kernel
theorem dX8_copyFrom_26 : decode cX8_copyFrom 26 = .ok (.aload_n 0, 1) := by decide +kernel
theorem dX8_copyFrom_27 : decode cX8_copyFrom 27 = .ok (.aload_n 1, 1) := by decide +kernel
theorem dX8_copyFrom_28 : decode cX8_copyFrom 28 = .ok (.getfield 32, 3) := by decide +kernel
theorem dX8_copyFrom_31 : decode cX8_copyFrom 31 = .ok (.putfield 32, 3) := by decide +kernel
theorem dX8_copyFrom_34 : decode cX8_copyFrom 34 = .ok (.return_, 1) := by decide +kernel
theorem dX7_make_0 : decode cX7_make 0 = .ok (.aload_n 0, 1) := by decide +kernel
theorem dX7_make_1 : decode cX7_make 1 = .ok (.iconst 1, 1) := by decide +kernel
theorem dX7_make_2 : decode cX7_make 2 = .ok (.putfield 15, 3) := by decide +kernel
theorem dX7_make_5 : decode cX7_make 5 = .ok (.aload_n 0, 1) := by decide +kernel
theorem dX7_make_6 : decode cX7_make 6 = .ok (.iload_n 1, 1) := by decide +kernel
theorem dX7_make_7 : decode cX7_make 7 = .ok (.putfield 19, 3) := by decide +kernel
theorem dX7_make_10 : decode cX7_make 10 = .ok (.aload_n 0, 1) := by decide +kernel
theorem dX7_make_11 : decode cX7_make 11 = .ok (.iload_n 2, 1) := by decide +kernel
theorem dX7_make_12 : decode cX7_make 12 = .ok (.putfield 23, 3) := by decide +kernel
theorem dX7_make_15 : decode cX7_make 15 = .ok (.aload_n 0, 1) := by decide +kernel
theorem dX7_make_16 : decode cX7_make 16 = .ok (.getfield 9, 3) := by decide +kernel
theorem dX7_make_19 : decode cX7_make 19 = .ok (.lconst 0, 1) := by decide +kernel
theorem dX7_make_20 : decode cX7_make 20 = .ok (.invokestatic 26, 3) := by decide +kernel
theorem dX7_make_23 : decode cX7_make 23 = .ok (.return_, 1) := by decide +kernel
theorem dX7_cut_0 : decode cX7_cut 0 = .ok (.aload_n 0, 1) := by decide +kernel
theorem dX7_cut_1 : decode cX7_cut 1 = .ok (.getfield 19, 3) := by decide +kernel
theorem dX7_cut_4 : decode cX7_cut 4 = .ok (.tableswitch 42 0 2 #[28, 33, 38], 28) := by decide +kernel
theorem dX7_cut_46 : decode cX7_cut 46 = .ok (.lload_n 1, 1) := by decide +kernel
theorem dX7_cut_47 : decode cX7_cut 47 = .ok (.lreturn, 1) := by decide +kernel
theorem dX7_cut_32 : decode cX7_cut 32 = .ok (.lload_n 1, 1) := by decide +kernel
theorem dX7_cut_33 : decode cX7_cut 33 = .ok (.l2i, 1) := by decide +kernel
theorem dX7_cut_34 : decode cX7_cut 34 = .ok (.i2b, 1) := by decide +kernel
theorem dX7_cut_35 : decode cX7_cut 35 = .ok (.i2l, 1) := by decide +kernel
theorem dX7_cut_36 : decode cX7_cut 36 = .ok (.lreturn, 1) := by decide +kernel
theorem dX7_cut_37 : decode cX7_cut 37 = .ok (.lload_n 1, 1) := by decide +kernel
theorem dX7_cut_38 : decode cX7_cut 38 = .ok (.l2i, 1) := by decide +kernel
theorem dX7_cut_39 : decode cX7_cut 39 = .ok (.i2s, 1) := by decide +kernel
theorem dX7_cut_40 : decode cX7_cut 40 = .ok (.i2l, 1) := by decide +kernel
theorem dX7_cut_41 : decode cX7_cut 41 = .ok (.lreturn, 1) := by decide +kernel
theorem dX7_cut_42 : decode cX7_cut 42 = .ok (.lload_n 1, 1) := by decide +kernel
theorem dX7_cut_43 : decode cX7_cut 43 = .ok (.l2i, 1) := by decide +kernel
theorem dX7_cut_44 : decode cX7_cut 44 = .ok (.i2l, 1) := by decide +kernel
theorem dX7_cut_45 : decode cX7_cut 45 = .ok (.lreturn, 1) := by decide +kernel
theorem dX7_holds_0 : decode cX7_holds 0 = .ok (.iload_n 1, 1) := by decide +kernel
theorem dX7_holds_1 : decode cX7_holds 1 = .ok (.ifCond .lt 25, 3) := by decide +kernel
theorem dX7_holds_26 : decode cX7_holds 26 = .ok (.iconst 0, 1) := by decide +kernel
theorem dX7_holds_27 : decode cX7_holds 27 = .ok (.ireturn, 1) := by decide +kernel
theorem dX7_holds_4 : decode cX7_holds 4 = .ok (.iload_n 2, 1) := by decide +kernel
theorem dX7_holds_5 : decode cX7_holds 5 = .ok (.ifCond .lt 21, 3) := by decide +kernel
theorem dX7_holds_8 : decode cX7_holds 8 = .ok (.iload_n 1, 1) := by decide +kernel
theorem dX7_holds_9 : decode cX7_holds 9 = .ok (.i2l, 1) := by decide +kernel
theorem dX7_holds_10 : decode cX7_holds 10 = .ok (.iload_n 2, 1) := by decide +kernel
theorem dX7_holds_11 : decode cX7_holds 11 = .ok (.i2l, 1) := by decide +kernel
theorem dX7_holds_12 : decode cX7_holds 12 = .ok (.ladd, 1) := by decide +kernel
theorem dX7_holds_13 : decode cX7_holds 13 = .ok (.aload_n 0, 1) := by decide +kernel
theorem dX7_holds_14 : decode cX7_holds 14 = .ok (.getfield 23, 3) := by decide +kernel
theorem dX7_holds_17 : decode cX7_holds 17 = .ok (.i2l, 1) := by decide +kernel
theorem dX7_holds_18 : decode cX7_holds 18 = .ok (.lcmp, 1) := by decide +kernel
theorem dX7_holds_19 : decode cX7_holds 19 = .ok (.ifCond .gt 7, 3) := by decide +kernel
theorem dX7_holds_22 : decode cX7_holds 22 = .ok (.iconst 1, 1) := by decide +kernel
theorem dX7_holds_23 : decode cX7_holds 23 = .ok (.goto 4, 3) := by decide +kernel
theorem dX7_isWithin_0 : decode cX7_isWithin 0 = .ok (.iconst 0, 1) := by decide +kernel
theorem dX7_isWithin_1 : decode cX7_isWithin 1 = .ok (.istore_n 3, 1) := by decide +kernel
theorem dX7_isWithin_2 : decode cX7_isWithin 2 = .ok (.iload_n 3, 1) := by decide +kernel
theorem dX7_isWithin_3 : decode cX7_isWithin 3 = .ok (.aload_n 0, 1) := by decide +kernel
theorem dX7_isWithin_4 : decode cX7_isWithin 4 = .ok (.getfield 23, 3) := by decide +kernel
theorem dX7_isWithin_7 : decode cX7_isWithin 7 = .ok (.if_icmp .ge 35, 3) := by decide +kernel
theorem dX7_isWithin_42 : decode cX7_isWithin 42 = .ok (.iconst 1, 1) := by decide +kernel
theorem dX7_isWithin_43 : decode cX7_isWithin 43 = .ok (.ireturn, 1) := by decide +kernel
theorem dX7_isWithin_10 : decode cX7_isWithin 10 = .ok (.aload_n 0, 1) := by decide +kernel
theorem dX7_isWithin_11 : decode cX7_isWithin 11 = .ok (.getfield 9, 3) := by decide +kernel
theorem dX7_isWithin_14 : decode cX7_isWithin 14 = .ok (.iload_n 3, 1) := by decide +kernel
theorem dX7_isWithin_15 : decode cX7_isWithin 15 = .ok (.laload, 1) := by decide +kernel
theorem dX7_isWithin_16 : decode cX7_isWithin 16 = .ok (.iload_n 1, 1) := by decide +kernel
theorem dX7_isWithin_17 : decode cX7_isWithin 17 = .ok (.i2l, 1) := by decide +kernel
theorem dX7_isWithin_18 : decode cX7_isWithin 18 = .ok (.lcmp, 1) := by decide +kernel
theorem dX7_isWithin_19 : decode cX7_isWithin 19 = .ok (.ifCond .lt 15, 3) := by decide +kernel
theorem dX7_isWithin_34 : decode cX7_isWithin 34 = .ok (.iconst 0, 1) := by decide +kernel
theorem dX7_isWithin_35 : decode cX7_isWithin 35 = .ok (.ireturn, 1) := by decide +kernel
theorem dX7_isWithin_22 : decode cX7_isWithin 22 = .ok (.aload_n 0, 1) := by decide +kernel
theorem dX7_isWithin_23 : decode cX7_isWithin 23 = .ok (.getfield 9, 3) := by decide +kernel
theorem dX7_isWithin_26 : decode cX7_isWithin 26 = .ok (.iload_n 3, 1) := by decide +kernel
theorem dX7_isWithin_27 : decode cX7_isWithin 27 = .ok (.laload, 1) := by decide +kernel
theorem dX7_isWithin_28 : decode cX7_isWithin 28 = .ok (.iload_n 2, 1) := by decide +kernel
theorem dX7_isWithin_29 : decode cX7_isWithin 29 = .ok (.i2l, 1) := by decide +kernel
theorem dX7_isWithin_30 : decode cX7_isWithin 30 = .ok (.lcmp, 1) := by decide +kernel
theorem dX7_isWithin_31 : decode cX7_isWithin 31 = .ok (.ifCond .le 5, 3) := by decide +kernel
theorem dX7_isWithin_36 : decode cX7_isWithin 36 = .ok (.iinc 3 1, 3) := by decide +kernel
theorem dX7_isWithin_39 : decode cX7_isWithin 39 = .ok (.goto (-37), 3) := by decide +kernel
theorem dX7_roomAt_0 : decode cX7_roomAt 0 = .ok (.iload_n 1, 1) := by decide +kernel
theorem dX7_roomAt_1 : decode cX7_roomAt 1 = .ok (.ifCond .lt 21, 3) := by decide +kernel
theorem dX7_roomAt_22 : decode cX7_roomAt 22 = .ok (.iconst (-1), 1) := by decide +kernel
theorem dX7_roomAt_23 : decode cX7_roomAt 23 = .ok (.ireturn, 1) := by decide +kernel
theorem dX7_roomAt_4 : decode cX7_roomAt 4 = .ok (.iload_n 1, 1) := by decide +kernel
theorem dX7_roomAt_5 : decode cX7_roomAt 5 = .ok (.aload_n 0, 1) := by decide +kernel
theorem dX7_roomAt_6 : decode cX7_roomAt 6 = .ok (.getfield 23, 3) := by decide +kernel
theorem dX7_roomAt_9 : decode cX7_roomAt 9 = .ok (.if_icmp .ge 13, 3) := by decide +kernel
theorem dX7_roomAt_12 : decode cX7_roomAt 12 = .ok (.aload_n 0, 1) := by decide +kernel
theorem dX7_roomAt_13 : decode cX7_roomAt 13 = .ok (.getfield 9, 3) := by decide +kernel
theorem dX7_roomAt_16 : decode cX7_roomAt 16 = .ok (.iload_n 1, 1) := by decide +kernel
theorem dX7_roomAt_17 : decode cX7_roomAt 17 = .ok (.laload, 1) := by decide +kernel
theorem dX7_roomAt_18 : decode cX7_roomAt 18 = .ok (.l2i, 1) := by decide +kernel
theorem dX7_roomAt_19 : decode cX7_roomAt 19 = .ok (.goto 4, 3) := by decide +kernel
theorem dX7_callCount_0 : decode cX7_callCount 0 = .ok (.iconst 0, 1) := by decide +kernel
theorem dX7_callCount_1 : decode cX7_callCount 1 = .ok (.istore_n 1, 1) := by decide +kernel
theorem dX7_callCount_2 : decode cX7_callCount 2 = .ok (.iconst 0, 1) := by decide +kernel
theorem dX7_callCount_3 : decode cX7_callCount 3 = .ok (.istore_n 2, 1) := by decide +kernel
theorem dX7_callCount_4 : decode cX7_callCount 4 = .ok (.iload_n 2, 1) := by decide +kernel
theorem dX7_callCount_5 : decode cX7_callCount 5 = .ok (.aload_n 0, 1) := by decide +kernel
theorem dX7_callCount_6 : decode cX7_callCount 6 = .ok (.getfield 23, 3) := by decide +kernel
theorem dX7_callCount_9 : decode cX7_callCount 9 = .ok (.if_icmp .ge 25, 3) := by decide +kernel
theorem dX7_callCount_34 : decode cX7_callCount 34 = .ok (.iload_n 1, 1) := by decide +kernel
theorem dX7_callCount_35 : decode cX7_callCount 35 = .ok (.ireturn, 1) := by decide +kernel
theorem dX7_callCount_12 : decode cX7_callCount 12 = .ok (.aload_n 0, 1) := by decide +kernel
theorem dX7_callCount_13 : decode cX7_callCount 13 = .ok (.getfield 9, 3) := by decide +kernel
theorem dX7_callCount_16 : decode cX7_callCount 16 = .ok (.iload_n 2, 1) := by decide +kernel
theorem dX7_callCount_17 : decode cX7_callCount 17 = .ok (.laload, 1) := by decide +kernel
theorem dX7_callCount_18 : decode cX7_callCount 18 = .ok (.ldc2_w 32, 3) := by decide +kernel
theorem dX7_callCount_21 : decode cX7_callCount 21 = .ok (.lcmp, 1) := by decide +kernel
theorem dX7_callCount_28 : decode cX7_callCount 28 = .ok (.iinc 2 1, 3) := by decide +kernel
theorem dX7_callCount_31 : decode cX7_callCount 31 = .ok (.goto (-27), 3) := by decide +kernel
theorem dX7_callCount_22 : decode cX7_callCount 22 = .ok (.ifCond .eq 6, 3) := by decide +kernel
theorem dX7_callCount_25 : decode cX7_callCount 25 = .ok (.iinc 1 1, 3) := by decide +kernel
theorem dX7_countOf_0 : decode cX7_countOf 0 = .ok (.iconst 0, 1) := by decide +kernel
theorem dX7_countOf_1 : decode cX7_countOf 1 = .ok (.istore_n 3, 1) := by decide +kernel
theorem dX7_countOf_2 : decode cX7_countOf 2 = .ok (.iconst 0, 1) := by decide +kernel
theorem dX7_countOf_3 : decode cX7_countOf 3 = .ok (.istore 4, 2) := by decide +kernel
theorem dX7_countOf_5 : decode cX7_countOf 5 = .ok (.iload 4, 2) := by decide +kernel
theorem dX7_countOf_7 : decode cX7_countOf 7 = .ok (.aload_n 0, 1) := by decide +kernel
theorem dX7_countOf_8 : decode cX7_countOf 8 = .ok (.getfield 23, 3) := by decide +kernel
theorem dX7_countOf_11 : decode cX7_countOf 11 = .ok (.if_icmp .ge 50, 3) := by decide +kernel
theorem dX7_countOf_61 : decode cX7_countOf 61 = .ok (.iload_n 3, 1) := by decide +kernel
theorem dX7_countOf_62 : decode cX7_countOf 62 = .ok (.ireturn, 1) := by decide +kernel
theorem dX7_countOf_14 : decode cX7_countOf 14 = .ok (.aload_n 0, 1) := by decide +kernel
theorem dX7_countOf_15 : decode cX7_countOf 15 = .ok (.getfield 9, 3) := by decide +kernel
theorem dX7_countOf_18 : decode cX7_countOf 18 = .ok (.iload 4, 2) := by decide +kernel
theorem dX7_countOf_20 : decode cX7_countOf 20 = .ok (.laload, 1) := by decide +kernel
theorem dX7_countOf_21 : decode cX7_countOf 21 = .ok (.iload_n 1, 1) := by decide +kernel
theorem dX7_countOf_22 : decode cX7_countOf 22 = .ok (.i2l, 1) := by decide +kernel
theorem dX7_countOf_23 : decode cX7_countOf 23 = .ok (.lcmp, 1) := by decide +kernel
theorem dX7_countOf_55 : decode cX7_countOf 55 = .ok (.iinc 4 1, 3) := by decide +kernel
theorem dX7_countOf_58 : decode cX7_countOf 58 = .ok (.goto (-53), 3) := by decide +kernel
theorem dX7_countOf_24 : decode cX7_countOf 24 = .ok (.ifCond .ne 31, 3) := by decide +kernel
theorem dX7_countOf_27 : decode cX7_countOf 27 = .ok (.iload_n 2, 1) := by decide +kernel
theorem dX7_countOf_28 : decode cX7_countOf 28 = .ok (.iconst (-1), 1) := by decide +kernel
theorem dX7_countOf_52 : decode cX7_countOf 52 = .ok (.iinc 3 1, 3) := by decide +kernel
theorem dX7_countOf_29 : decode cX7_countOf 29 = .ok (.if_icmp .eq 23, 3) := by decide +kernel
theorem dX7_countOf_32 : decode cX7_countOf 32 = .ok (.iload 4, 2) := by decide +kernel
theorem dX7_countOf_34 : decode cX7_countOf 34 = .ok (.ifCond .le 21, 3) := by decide +kernel
theorem dX7_countOf_37 : decode cX7_countOf 37 = .ok (.aload_n 0, 1) := by decide +kernel
theorem dX7_countOf_38 : decode cX7_countOf 38 = .ok (.getfield 9, 3) := by decide +kernel
theorem dX7_countOf_41 : decode cX7_countOf 41 = .ok (.iload 4, 2) := by decide +kernel
theorem dX7_countOf_43 : decode cX7_countOf 43 = .ok (.iconst 1, 1) := by decide +kernel
theorem dX7_countOf_44 : decode cX7_countOf 44 = .ok (.isub, 1) := by decide +kernel
theorem dX7_countOf_45 : decode cX7_countOf 45 = .ok (.laload, 1) := by decide +kernel
theorem dX7_countOf_46 : decode cX7_countOf 46 = .ok (.iload_n 2, 1) := by decide +kernel
theorem dX7_countOf_47 : decode cX7_countOf 47 = .ok (.i2l, 1) := by decide +kernel
theorem dX7_countOf_48 : decode cX7_countOf 48 = .ok (.lcmp, 1) := by decide +kernel
theorem dX7_countOf_49 : decode cX7_countOf 49 = .ok (.ifCond .ne 6, 3) := by decide +kernel
theorem dX7_comesAgain_0 : decode cX7_comesAgain 0 = .ok (.iconst 0, 1) := by decide +kernel
theorem dX7_comesAgain_1 : decode cX7_comesAgain 1 = .ok (.istore_n 2, 1) := by decide +kernel
theorem dX7_comesAgain_2 : decode cX7_comesAgain 2 = .ok (.iload_n 1, 1) := by decide +kernel
theorem dX7_comesAgain_3 : decode cX7_comesAgain 3 = .ok (.ifCond .lt 39, 3) := by decide +kernel
theorem dX7_comesAgain_6 : decode cX7_comesAgain 6 = .ok (.iload_n 2, 1) := by decide +kernel
theorem dX7_comesAgain_7 : decode cX7_comesAgain 7 = .ok (.iload_n 1, 1) := by decide +kernel
theorem dX7_comesAgain_8 : decode cX7_comesAgain 8 = .ok (.iadd, 1) := by decide +kernel
theorem dX7_comesAgain_9 : decode cX7_comesAgain 9 = .ok (.aload_n 0, 1) := by decide +kernel
theorem dX7_comesAgain_10 : decode cX7_comesAgain 10 = .ok (.getfield 23, 3) := by decide +kernel
theorem dX7_comesAgain_13 : decode cX7_comesAgain 13 = .ok (.if_icmp .ge 29, 3) := by decide +kernel
theorem dX7_comesAgain_42 : decode cX7_comesAgain 42 = .ok (.iconst 1, 1) := by decide +kernel
theorem dX7_comesAgain_43 : decode cX7_comesAgain 43 = .ok (.ireturn, 1) := by decide +kernel
theorem dX7_comesAgain_16 : decode cX7_comesAgain 16 = .ok (.aload_n 0, 1) := by decide +kernel
theorem dX7_comesAgain_17 : decode cX7_comesAgain 17 = .ok (.getfield 9, 3) := by decide +kernel
theorem dX7_comesAgain_20 : decode cX7_comesAgain 20 = .ok (.iload_n 2, 1) := by decide +kernel
theorem dX7_comesAgain_21 : decode cX7_comesAgain 21 = .ok (.laload, 1) := by decide +kernel
theorem dX7_comesAgain_22 : decode cX7_comesAgain 22 = .ok (.aload_n 0, 1) := by decide +kernel
theorem dX7_comesAgain_23 : decode cX7_comesAgain 23 = .ok (.getfield 9, 3) := by decide +kernel
theorem dX7_comesAgain_26 : decode cX7_comesAgain 26 = .ok (.iload_n 2, 1) := by decide +kernel
theorem dX7_comesAgain_27 : decode cX7_comesAgain 27 = .ok (.iload_n 1, 1) := by decide +kernel
theorem dX7_comesAgain_28 : decode cX7_comesAgain 28 = .ok (.iadd, 1) := by decide +kernel
theorem dX7_comesAgain_29 : decode cX7_comesAgain 29 = .ok (.laload, 1) := by decide +kernel
theorem dX7_comesAgain_30 : decode cX7_comesAgain 30 = .ok (.lcmp, 1) := by decide +kernel
theorem dX7_comesAgain_31 : decode cX7_comesAgain 31 = .ok (.ifCond .eq 5, 3) := by decide +kernel
theorem dX7_comesAgain_36 : decode cX7_comesAgain 36 = .ok (.iinc 2 1, 3) := by decide +kernel
theorem dX7_comesAgain_39 : decode cX7_comesAgain 39 = .ok (.goto (-37), 3) := by decide +kernel
theorem dX7_comesAgain_34 : decode cX7_comesAgain 34 = .ok (.iconst 0, 1) := by decide +kernel
theorem dX7_comesAgain_35 : decode cX7_comesAgain 35 = .ok (.ireturn, 1) := by decide +kernel
theorem dX5_of_0 : decode cX5_of 0 = .ok (.iload_n 1, 1) := by decide +kernel
theorem dX5_of_1 : decode cX5_of 1 = .ok (.ifCond .lt 18, 3) := by decide +kernel
theorem dX5_of_19 : decode cX5_of 19 = .ok (.aload_n 0, 1) := by decide +kernel
theorem dX5_of_20 : decode cX5_of 20 = .ok (.getfield 41, 3) := by decide +kernel
theorem dX5_of_23 : decode cX5_of 23 = .ok (.ireturn, 1) := by decide +kernel
theorem dX5_of_4 : decode cX5_of 4 = .ok (.iload_n 1, 1) := by decide +kernel
theorem dX5_of_5 : decode cX5_of 5 = .ok (.bipush 7, 2) := by decide +kernel
theorem dX5_of_7 : decode cX5_of 7 = .ok (.if_icmp .ge 12, 3) := by decide +kernel
theorem dX5_of_10 : decode cX5_of 10 = .ok (.aload_n 0, 1) := by decide +kernel
theorem dX5_of_11 : decode cX5_of 11 = .ok (.getfield 9, 3) := by decide +kernel
theorem dX5_of_14 : decode cX5_of 14 = .ok (.iload_n 1, 1) := by decide +kernel
theorem dX5_of_15 : decode cX5_of 15 = .ok (.iaload, 1) := by decide +kernel
theorem dX5_of_16 : decode cX5_of 16 = .ok (.goto 7, 3) := by decide +kernel
theorem dX5_chanceOf_0 : decode cX5_chanceOf 0 = .ok (.ldc 24, 2) := by decide +kernel
theorem dX5_chanceOf_2 : decode cX5_chanceOf 2 = .ok (.aload_n 0, 1) := by decide +kernel
theorem dX5_chanceOf_3 : decode cX5_chanceOf 3 = .ok (.getfield 44, 3) := by decide +kernel
theorem dX5_chanceOf_6 : decode cX5_chanceOf 6 = .ok (.isub, 1) := by decide +kernel
theorem dX5_chanceOf_7 : decode cX5_chanceOf 7 = .ok (.istore_n 2, 1) := by decide +kernel
theorem dX5_chanceOf_8 : decode cX5_chanceOf 8 = .ok (.iload_n 2, 1) := by decide +kernel
theorem dX5_chanceOf_9 : decode cX5_chanceOf 9 = .ok (.ifCond .gt 7, 3) := by decide +kernel
theorem dX5_chanceOf_16 : decode cX5_chanceOf 16 = .ok (.iload_n 1, 1) := by decide +kernel
theorem dX5_chanceOf_17 : decode cX5_chanceOf 17 = .ok (.i2l, 1) := by decide +kernel
theorem dX5_chanceOf_18 : decode cX5_chanceOf 18 = .ok (.ldc2_w 53, 3) := by decide +kernel
theorem dX5_chanceOf_21 : decode cX5_chanceOf 21 = .ok (.lmul, 1) := by decide +kernel
theorem dX5_chanceOf_22 : decode cX5_chanceOf 22 = .ok (.iload_n 2, 1) := by decide +kernel
theorem dX5_chanceOf_23 : decode cX5_chanceOf 23 = .ok (.i2l, 1) := by decide +kernel
theorem dX5_chanceOf_24 : decode cX5_chanceOf 24 = .ok (.ldiv, 1) := by decide +kernel
theorem dX5_chanceOf_25 : decode cX5_chanceOf 25 = .ok (.l2i, 1) := by decide +kernel
theorem dX5_chanceOf_26 : decode cX5_chanceOf 26 = .ok (.ireturn, 1) := by decide +kernel
theorem dX5_chanceOf_12 : decode cX5_chanceOf 12 = .ok (.iconst 0, 1) := by decide +kernel
theorem dX5_chanceOf_13 : decode cX5_chanceOf 13 = .ok (.goto 13, 3) := by decide +kernel
theorem dX5_chanceHere_0 : decode cX5_chanceHere 0 = .ok (.aload_n 0, 1) := by decide +kernel
theorem dX5_chanceHere_1 : decode cX5_chanceHere 1 = .ok (.ldc 24, 2) := by decide +kernel
theorem dX5_chanceHere_3 : decode cX5_chanceHere 3 = .ok (.aload_n 0, 1) := by decide +kernel
theorem dX5_chanceHere_4 : decode cX5_chanceHere 4 = .ok (.getfield 44, 3) := by decide +kernel
theorem dX5_chanceHere_7 : decode cX5_chanceHere 7 = .ok (.isub, 1) := by decide +kernel
theorem dX5_chanceHere_8 : decode cX5_chanceHere 8 = .ok (.aload_n 0, 1) := by decide +kernel
theorem dX5_chanceHere_9 : decode cX5_chanceHere 9 = .ok (.getfield 41, 3) := by decide +kernel
theorem dX5_chanceHere_12 : decode cX5_chanceHere 12 = .ok (.isub, 1) := by decide +kernel
theorem dX5_chanceHere_13 : decode cX5_chanceHere 13 = .ok (.invokevirtual 55, 3) := by decide +kernel
theorem dX5_chanceHere_16 : decode cX5_chanceHere 16 = .ok (.ireturn, 1) := by decide +kernel
theorem dX5_audible_0 : decode cX5_audible 0 = .ok (.iload_n 2, 1) := by decide +kernel
theorem dX5_audible_1 : decode cX5_audible 1 = .ok (.ifCond .lt 28, 3) := by decide +kernel
theorem dX5_audible_29 : decode cX5_audible 29 = .ok (.iconst 0, 1) := by decide +kernel
theorem dX5_audible_30 : decode cX5_audible 30 = .ok (.ireturn, 1) := by decide +kernel
theorem dX5_audible_4 : decode cX5_audible 4 = .ok (.iload_n 2, 1) := by decide +kernel
theorem dX5_audible_5 : decode cX5_audible 5 = .ok (.bipush 7, 2) := by decide +kernel
theorem dX5_audible_7 : decode cX5_audible 7 = .ok (.if_icmp .ge 22, 3) := by decide +kernel
theorem dX5_audible_10 : decode cX5_audible 10 = .ok (.aload_n 0, 1) := by decide +kernel
theorem dX5_audible_11 : decode cX5_audible 11 = .ok (.getfield 9, 3) := by decide +kernel
theorem dX5_audible_14 : decode cX5_audible 14 = .ok (.iload_n 2, 1) := by decide +kernel
theorem dX5_audible_15 : decode cX5_audible 15 = .ok (.iaload, 1) := by decide +kernel
theorem dX5_audible_16 : decode cX5_audible 16 = .ok (.aload_n 1, 1) := by decide +kernel
theorem dX5_audible_17 : decode cX5_audible 17 = .ok (.iload_n 2, 1) := by decide +kernel
theorem dX5_audible_18 : decode cX5_audible 18 = .ok (.iload_n 3, 1) := by decide +kernel
theorem dX5_audible_19 : decode cX5_audible 19 = .ok (.invokevirtual 59, 3) := by decide +kernel
theorem dX5_audible_22 : decode cX5_audible 22 = .ok (.imul, 1) := by decide +kernel
theorem dX5_audible_23 : decode cX5_audible 23 = .ok (.bipush 100, 2) := by decide +kernel
theorem dX5_audible_25 : decode cX5_audible 25 = .ok (.idiv, 1) := by decide +kernel
theorem dX5_audible_26 : decode cX5_audible 26 = .ok (.goto 4, 3) := by decide +kernel
theorem dX5_copyFrom_0 : decode cX5_copyFrom 0 = .ok (.aload_n 1, 1) := by decide +kernel
theorem dX5_copyFrom_1 : decode cX5_copyFrom 1 = .ok (.getfield 9, 3) := by decide +kernel
theorem dX5_copyFrom_4 : decode cX5_copyFrom 4 = .ok (.iconst 0, 1) := by decide +kernel
theorem dX5_copyFrom_5 : decode cX5_copyFrom 5 = .ok (.aload_n 0, 1) := by decide +kernel
theorem dX5_copyFrom_6 : decode cX5_copyFrom 6 = .ok (.getfield 9, 3) := by decide +kernel
theorem dX5_copyFrom_9 : decode cX5_copyFrom 9 = .ok (.iconst 0, 1) := by decide +kernel
theorem dX5_copyFrom_10 : decode cX5_copyFrom 10 = .ok (.bipush 7, 2) := by decide +kernel
theorem dX5_copyFrom_12 : decode cX5_copyFrom 12 = .ok (.invokestatic 47, 3) := by decide +kernel
