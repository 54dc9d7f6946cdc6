theorem dX11_tell_78 : decode cX11_tell 78 = .ok (.aload_n 0, 1) := by decide +kernel
theorem dX11_tell_79 : decode cX11_tell 79 = .ok (.getfield 9, 3) := by decide +kernel
theorem dX11_tell_82 : decode cX11_tell 82 = .ok (.bipush 8, 2) := by decide +kernel
theorem dX11_tell_84 : decode cX11_tell 84 = .ok (.iconst 4, 1) := by decide +kernel
theorem dX11_tell_85 : decode cX11_tell 85 = .ok (.iload_n 1, 1) := by decide +kernel
theorem dX11_tell_86 : decode cX11_tell 86 = .ok (.imul, 1) := by decide +kernel
theorem dX11_tell_87 : decode cX11_tell 87 = .ok (.iadd, 1) := by decide +kernel
theorem dX11_tell_88 : decode cX11_tell 88 = .ok (.iload_n 2, 1) := by decide +kernel
theorem dX11_tell_89 : decode cX11_tell 89 = .ok (.iadd, 1) := by decide +kernel
theorem dX11_tell_90 : decode cX11_tell 90 = .ok (.iload_n 3, 1) := by decide +kernel
theorem dX11_tell_91 : decode cX11_tell 91 = .ok (.iastore, 1) := by decide +kernel
theorem dX11_tell_92 : decode cX11_tell 92 = .ok (.iload 4, 2) := by decide +kernel
theorem dX11_tell_94 : decode cX11_tell 94 = .ok (.ireturn, 1) := by decide +kernel
theorem dX11_tell_67 : decode cX11_tell 67 = .ok (.bipush (-5), 2) := by decide +kernel
theorem dX11_tell_69 : decode cX11_tell 69 = .ok (.ireturn, 1) := by decide +kernel
theorem dX11_tell_25 : decode cX11_tell 25 = .ok (.ifCond .ne 9, 3) := by decide +kernel
theorem dX11_tell_34 : decode cX11_tell 34 = .ok (.iload_n 2, 1) := by decide +kernel
theorem dX11_tell_35 : decode cX11_tell 35 = .ok (.iconst 1, 1) := by decide +kernel
theorem dX11_tell_36 : decode cX11_tell 36 = .ok (.if_icmp .ne 9, 3) := by decide +kernel
theorem dX11_tell_45 : decode cX11_tell 45 = .ok (.ldc2_w 454, 3) := by decide +kernel
theorem dX11_tell_39 : decode cX11_tell 39 = .ok (.ldc2_w 452, 3) := by decide +kernel
theorem dX11_tell_42 : decode cX11_tell 42 = .ok (.goto 6, 3) := by decide +kernel
theorem dX11_tell_28 : decode cX11_tell 28 = .ok (.ldc2_w 450, 3) := by decide +kernel
theorem dX11_tell_31 : decode cX11_tell 31 = .ok (.goto 17, 3) := by decide +kernel
theorem dX11_door_0 : decode cX11_door 0 = .ok (.bipush 8, 2) := by decide +kernel
theorem dX11_door_2 : decode cX11_door 2 = .ok (.iconst 4, 1) := by decide +kernel
theorem dX11_door_3 : decode cX11_door 3 = .ok (.iload_n 1, 1) := by decide +kernel
theorem dX11_door_4 : decode cX11_door 4 = .ok (.imul, 1) := by decide +kernel
theorem dX11_door_5 : decode cX11_door 5 = .ok (.iadd, 1) := by decide +kernel
theorem dX11_door_6 : decode cX11_door 6 = .ok (.iconst 3, 1) := by decide +kernel
theorem dX11_door_7 : decode cX11_door 7 = .ok (.iadd, 1) := by decide +kernel
theorem dX11_door_8 : decode cX11_door 8 = .ok (.istore 4, 2) := by decide +kernel
theorem dX11_door_10 : decode cX11_door 10 = .ok (.aload_n 0, 1) := by decide +kernel
theorem dX11_door_11 : decode cX11_door 11 = .ok (.getfield 9, 3) := by decide +kernel
theorem dX11_door_14 : decode cX11_door 14 = .ok (.iload 4, 2) := by decide +kernel
theorem dX11_door_16 : decode cX11_door 16 = .ok (.aload_n 0, 1) := by decide +kernel
theorem dX11_door_17 : decode cX11_door 17 = .ok (.getfield 9, 3) := by decide +kernel
theorem dX11_door_20 : decode cX11_door 20 = .ok (.iload 4, 2) := by decide +kernel
theorem dX11_door_22 : decode cX11_door 22 = .ok (.iaload, 1) := by decide +kernel
theorem dX11_door_23 : decode cX11_door 23 = .ok (.iconst 1, 1) := by decide +kernel
theorem dX11_door_24 : decode cX11_door 24 = .ok (.iload_n 2, 1) := by decide +kernel
theorem dX11_door_25 : decode cX11_door 25 = .ok (.ishl, 1) := by decide +kernel
theorem dX11_door_26 : decode cX11_door 26 = .ok (.iconst (-1), 1) := by decide +kernel
theorem dX11_door_27 : decode cX11_door 27 = .ok (.ixor, 1) := by decide +kernel
theorem dX11_door_28 : decode cX11_door 28 = .ok (.iand, 1) := by decide +kernel
theorem dX11_door_29 : decode cX11_door 29 = .ok (.iload_n 3, 1) := by decide +kernel
theorem dX11_door_30 : decode cX11_door 30 = .ok (.iload_n 2, 1) := by decide +kernel
theorem dX11_door_31 : decode cX11_door 31 = .ok (.ishl, 1) := by decide +kernel
theorem dX11_door_32 : decode cX11_door 32 = .ok (.ior, 1) := by decide +kernel
theorem dX11_door_33 : decode cX11_door 33 = .ok (.iastore, 1) := by decide +kernel
theorem dX11_door_34 : decode cX11_door 34 = .ok (.return_, 1) := by decide +kernel
theorem dX11_shut_0 : decode cX11_shut 0 = .ok (.aload_n 0, 1) := by decide +kernel
theorem dX11_shut_1 : decode cX11_shut 1 = .ok (.iload_n 1, 1) := by decide +kernel
theorem dX11_shut_2 : decode cX11_shut 2 = .ok (.i2l, 1) := by decide +kernel
theorem dX11_shut_3 : decode cX11_shut 3 = .ok (.invokevirtual 89, 3) := by decide +kernel
theorem dX11_shut_6 : decode cX11_shut 6 = .ok (.ifCond .eq 27, 3) := by decide +kernel
theorem dX11_shut_33 : decode cX11_shut 33 = .ok (.bipush (-2), 2) := by decide +kernel
theorem dX11_shut_35 : decode cX11_shut 35 = .ok (.ireturn, 1) := by decide +kernel
theorem dX11_shut_9 : decode cX11_shut 9 = .ok (.aload_n 0, 1) := by decide +kernel
theorem dX11_shut_10 : decode cX11_shut 10 = .ok (.iload_n 2, 1) := by decide +kernel
theorem dX11_shut_11 : decode cX11_shut 11 = .ok (.i2l, 1) := by decide +kernel
theorem dX11_shut_12 : decode cX11_shut 12 = .ok (.invokevirtual 89, 3) := by decide +kernel
theorem dX11_shut_15 : decode cX11_shut 15 = .ok (.ifCond .eq 18, 3) := by decide +kernel
theorem dX11_shut_18 : decode cX11_shut 18 = .ok (.iload_n 1, 1) := by decide +kernel
theorem dX11_shut_19 : decode cX11_shut 19 = .ok (.iload_n 2, 1) := by decide +kernel
theorem dX11_shut_20 : decode cX11_shut 20 = .ok (.if_icmp .eq 13, 3) := by decide +kernel
theorem dX11_shut_23 : decode cX11_shut 23 = .ok (.iload_n 3, 1) := by decide +kernel
theorem dX11_shut_24 : decode cX11_shut 24 = .ok (.i2l, 1) := by decide +kernel
theorem dX11_shut_25 : decode cX11_shut 25 = .ok (.lconst 0, 1) := by decide +kernel
theorem dX11_shut_26 : decode cX11_shut 26 = .ok (.lconst 1, 1) := by decide +kernel
theorem dX11_shut_27 : decode cX11_shut 27 = .ok (.invokestatic 79, 3) := by decide +kernel
theorem dX11_shut_30 : decode cX11_shut 30 = .ok (.ifCond .ne 6, 3) := by decide +kernel
theorem dX11_shut_36 : decode cX11_shut 36 = .ok (.aload_n 0, 1) := by decide +kernel
theorem dX11_shut_37 : decode cX11_shut 37 = .ok (.getfield 9, 3) := by decide +kernel
theorem dX11_shut_40 : decode cX11_shut 40 = .ok (.bipush 7, 2) := by decide +kernel
theorem dX11_shut_42 : decode cX11_shut 42 = .ok (.iaload, 1) := by decide +kernel
theorem dX11_shut_43 : decode cX11_shut 43 = .ok (.ifCond .le 6, 3) := by decide +kernel
theorem dX11_shut_49 : decode cX11_shut 49 = .ok (.aload_n 0, 1) := by decide +kernel
theorem dX11_shut_50 : decode cX11_shut 50 = .ok (.iload_n 1, 1) := by decide +kernel
theorem dX11_shut_51 : decode cX11_shut 51 = .ok (.iconst 3, 1) := by decide +kernel
theorem dX11_shut_52 : decode cX11_shut 52 = .ok (.invokevirtual 227, 3) := by decide +kernel
theorem dX11_shut_55 : decode cX11_shut 55 = .ok (.iload_n 2, 1) := by decide +kernel
theorem dX11_shut_56 : decode cX11_shut 56 = .ok (.invokestatic 258, 3) := by decide +kernel
theorem dX11_shut_59 : decode cX11_shut 59 = .ok (.istore 4, 2) := by decide +kernel
theorem dX11_shut_61 : decode cX11_shut 61 = .ok (.aload_n 0, 1) := by decide +kernel
theorem dX11_shut_62 : decode cX11_shut 62 = .ok (.iload_n 1, 1) := by decide +kernel
theorem dX11_shut_63 : decode cX11_shut 63 = .ok (.iload_n 2, 1) := by decide +kernel
theorem dX11_shut_64 : decode cX11_shut 64 = .ok (.iload_n 3, 1) := by decide +kernel
theorem dX11_shut_65 : decode cX11_shut 65 = .ok (.invokevirtual 456, 3) := by decide +kernel
theorem dX11_shut_68 : decode cX11_shut 68 = .ok (.aload_n 0, 1) := by decide +kernel
theorem dX11_shut_69 : decode cX11_shut 69 = .ok (.iload_n 2, 1) := by decide +kernel
theorem dX11_shut_70 : decode cX11_shut 70 = .ok (.iload_n 1, 1) := by decide +kernel
theorem dX11_shut_71 : decode cX11_shut 71 = .ok (.iload_n 3, 1) := by decide +kernel
theorem dX11_shut_72 : decode cX11_shut 72 = .ok (.invokevirtual 456, 3) := by decide +kernel
theorem dX11_shut_75 : decode cX11_shut 75 = .ok (.iload 4, 2) := by decide +kernel
theorem dX11_shut_77 : decode cX11_shut 77 = .ok (.ireturn, 1) := by decide +kernel
theorem dX11_shut_46 : decode cX11_shut 46 = .ok (.bipush (-5), 2) := by decide +kernel
theorem dX11_shut_48 : decode cX11_shut 48 = .ok (.ireturn, 1) := by decide +kernel
theorem dX11_count_0 : decode cX11_count 0 = .ok (.iconst 0, 1) := by decide +kernel
theorem dX11_count_1 : decode cX11_count 1 = .ok (.istore_n 2, 1) := by decide +kernel
theorem dX11_count_2 : decode cX11_count 2 = .ok (.iload_n 1, 1) := by decide +kernel
theorem dX11_count_3 : decode cX11_count 3 = .ok (.tableswitch 176 0 7 #[45, 52, 86, 93, 122, 130, 135, 143], 45) := by decide +kernel
theorem dX11_count_179 : decode cX11_count 179 = .ok (.iconst (-1), 1) := by decide +kernel
theorem dX11_count_180 : decode cX11_count 180 = .ok (.ireturn, 1) := by decide +kernel
theorem dX11_count_48 : decode cX11_count 48 = .ok (.aload_n 0, 1) := by decide +kernel
theorem dX11_count_49 : decode cX11_count 49 = .ok (.getfield 9, 3) := by decide +kernel
theorem dX11_count_52 : decode cX11_count 52 = .ok (.iconst 4, 1) := by decide +kernel
theorem dX11_count_53 : decode cX11_count 53 = .ok (.iaload, 1) := by decide +kernel
theorem dX11_count_54 : decode cX11_count 54 = .ok (.ireturn, 1) := by decide +kernel
theorem dX11_count_55 : decode cX11_count 55 = .ok (.iconst 0, 1) := by decide +kernel
theorem dX11_count_56 : decode cX11_count 56 = .ok (.istore_n 3, 1) := by decide +kernel
theorem dX11_count_57 : decode cX11_count 57 = .ok (.iload_n 3, 1) := by decide +kernel
theorem dX11_count_58 : decode cX11_count 58 = .ok (.aload_n 0, 1) := by decide +kernel
theorem dX11_count_59 : decode cX11_count 59 = .ok (.getfield 9, 3) := by decide +kernel
theorem dX11_count_62 : decode cX11_count 62 = .ok (.iconst 4, 1) := by decide +kernel
theorem dX11_count_63 : decode cX11_count 63 = .ok (.iaload, 1) := by decide +kernel
theorem dX11_count_64 : decode cX11_count 64 = .ok (.if_icmp .ge 21, 3) := by decide +kernel
theorem dX11_count_85 : decode cX11_count 85 = .ok (.iload_n 2, 1) := by decide +kernel
theorem dX11_count_86 : decode cX11_count 86 = .ok (.iconst 2, 1) := by decide +kernel
theorem dX11_count_87 : decode cX11_count 87 = .ok (.idiv, 1) := by decide +kernel
theorem dX11_count_88 : decode cX11_count 88 = .ok (.ireturn, 1) := by decide +kernel
theorem dX11_count_67 : decode cX11_count 67 = .ok (.iload_n 2, 1) := by decide +kernel
theorem dX11_count_68 : decode cX11_count 68 = .ok (.aload_n 0, 1) := by decide +kernel
theorem dX11_count_69 : decode cX11_count 69 = .ok (.iload_n 3, 1) := by decide +kernel
theorem dX11_count_70 : decode cX11_count 70 = .ok (.iconst 3, 1) := by decide +kernel
theorem dX11_count_71 : decode cX11_count 71 = .ok (.invokevirtual 227, 3) := by decide +kernel
theorem dX11_count_74 : decode cX11_count 74 = .ok (.invokestatic 255, 3) := by decide +kernel
theorem dX11_count_77 : decode cX11_count 77 = .ok (.iadd, 1) := by decide +kernel
theorem dX11_count_78 : decode cX11_count 78 = .ok (.istore_n 2, 1) := by decide +kernel
theorem dX11_count_79 : decode cX11_count 79 = .ok (.iinc 3 1, 3) := by decide +kernel
theorem dX11_count_82 : decode cX11_count 82 = .ok (.goto (-25), 3) := by decide +kernel
theorem dX11_count_89 : decode cX11_count 89 = .ok (.aload_n 0, 1) := by decide +kernel
theorem dX11_count_90 : decode cX11_count 90 = .ok (.getfield 9, 3) := by decide +kernel
theorem dX11_count_93 : decode cX11_count 93 = .ok (.iconst 5, 1) := by decide +kernel
theorem dX11_count_94 : decode cX11_count 94 = .ok (.iaload, 1) := by decide +kernel
theorem dX11_count_95 : decode cX11_count 95 = .ok (.ireturn, 1) := by decide +kernel
theorem dX11_count_96 : decode cX11_count 96 = .ok (.iconst 0, 1) := by decide +kernel
theorem dX11_count_97 : decode cX11_count 97 = .ok (.istore_n 3, 1) := by decide +kernel
theorem dX11_count_98 : decode cX11_count 98 = .ok (.iload_n 3, 1) := by decide +kernel
theorem dX11_count_99 : decode cX11_count 99 = .ok (.aload_n 0, 1) := by decide +kernel
theorem dX11_count_100 : decode cX11_count 100 = .ok (.getfield 9, 3) := by decide +kernel
theorem dX11_count_103 : decode cX11_count 103 = .ok (.iconst 4, 1) := by decide +kernel
theorem dX11_count_104 : decode cX11_count 104 = .ok (.iaload, 1) := by decide +kernel
theorem dX11_count_105 : decode cX11_count 105 = .ok (.if_icmp .ge 18, 3) := by decide +kernel
theorem dX11_count_123 : decode cX11_count 123 = .ok (.iload_n 2, 1) := by decide +kernel
theorem dX11_count_124 : decode cX11_count 124 = .ok (.ireturn, 1) := by decide +kernel
theorem dX11_count_108 : decode cX11_count 108 = .ok (.iload_n 2, 1) := by decide +kernel
theorem dX11_count_109 : decode cX11_count 109 = .ok (.aload_n 0, 1) := by decide +kernel
theorem dX11_count_110 : decode cX11_count 110 = .ok (.iload_n 3, 1) := by decide +kernel
theorem dX11_count_111 : decode cX11_count 111 = .ok (.iconst 0, 1) := by decide +kernel
theorem dX11_count_112 : decode cX11_count 112 = .ok (.invokevirtual 227, 3) := by decide +kernel
theorem dX11_count_115 : decode cX11_count 115 = .ok (.iadd, 1) := by decide +kernel
theorem dX11_count_116 : decode cX11_count 116 = .ok (.istore_n 2, 1) := by decide +kernel
theorem dX11_count_117 : decode cX11_count 117 = .ok (.iinc 3 1, 3) := by decide +kernel
theorem dX11_count_120 : decode cX11_count 120 = .ok (.goto (-22), 3) := by decide +kernel
theorem dX11_count_125 : decode cX11_count 125 = .ok (.aload_n 0, 1) := by decide +kernel
theorem dX11_count_126 : decode cX11_count 126 = .ok (.getfield 9, 3) := by decide +kernel
theorem dX11_count_129 : decode cX11_count 129 = .ok (.bipush 6, 2) := by decide +kernel
theorem dX11_count_131 : decode cX11_count 131 = .ok (.iaload, 1) := by decide +kernel
theorem dX11_count_132 : decode cX11_count 132 = .ok (.ireturn, 1) := by decide +kernel
theorem dX11_count_133 : decode cX11_count 133 = .ok (.aload_n 0, 1) := by decide +kernel
theorem dX11_count_134 : decode cX11_count 134 = .ok (.getfield 93, 3) := by decide +kernel
theorem dX11_count_137 : decode cX11_count 137 = .ok (.ireturn, 1) := by decide +kernel
theorem dX11_count_138 : decode cX11_count 138 = .ok (.aload_n 0, 1) := by decide +kernel
theorem dX11_count_139 : decode cX11_count 139 = .ok (.getfield 9, 3) := by decide +kernel
theorem dX11_count_142 : decode cX11_count 142 = .ok (.bipush 7, 2) := by decide +kernel
theorem dX11_count_144 : decode cX11_count 144 = .ok (.iaload, 1) := by decide +kernel
theorem dX11_count_145 : decode cX11_count 145 = .ok (.ireturn, 1) := by decide +kernel
theorem dX11_count_146 : decode cX11_count 146 = .ok (.iconst 0, 1) := by decide +kernel
theorem dX11_count_147 : decode cX11_count 147 = .ok (.istore_n 3, 1) := by decide +kernel
theorem dX11_count_148 : decode cX11_count 148 = .ok (.iload_n 3, 1) := by decide +kernel
theorem dX11_count_149 : decode cX11_count 149 = .ok (.iconst 4, 1) := by decide +kernel
theorem dX11_count_150 : decode cX11_count 150 = .ok (.if_icmp .ge 27, 3) := by decide +kernel
theorem dX11_count_177 : decode cX11_count 177 = .ok (.iload_n 2, 1) := by decide +kernel
theorem dX11_count_178 : decode cX11_count 178 = .ok (.ireturn, 1) := by decide +kernel
theorem dX11_count_153 : decode cX11_count 153 = .ok (.iload_n 2, 1) := by decide +kernel
theorem dX11_count_154 : decode cX11_count 154 = .ok (.aload_n 0, 1) := by decide +kernel
theorem dX11_count_155 : decode cX11_count 155 = .ok (.getfield 61, 3) := by decide +kernel
theorem dX11_count_158 : decode cX11_count 158 = .ok (.iload_n 3, 1) := by decide +kernel
theorem dX11_count_159 : decode cX11_count 159 = .ok (.iaload, 1) := by decide +kernel
theorem dX11_count_160 : decode cX11_count 160 = .ok (.iconst (-1), 1) := by decide +kernel
theorem dX11_count_169 : decode cX11_count 169 = .ok (.iadd, 1) := by decide +kernel
theorem dX11_count_170 : decode cX11_count 170 = .ok (.istore_n 2, 1) := by decide +kernel
theorem dX11_count_171 : decode cX11_count 171 = .ok (.iinc 3 1, 3) := by decide +kernel
theorem dX11_count_174 : decode cX11_count 174 = .ok (.goto (-26), 3) := by decide +kernel
theorem dX11_count_161 : decode cX11_count 161 = .ok (.if_icmp .ne 7, 3) := by decide +kernel
theorem dX11_count_168 : decode cX11_count 168 = .ok (.iconst 1, 1) := by decide +kernel
theorem dX11_count_164 : decode cX11_count 164 = .ok (.iconst 0, 1) := by decide +kernel
theorem dX11_count_165 : decode cX11_count 165 = .ok (.goto 4, 3) := by decide +kernel
theorem dX11_isSlot_0 : decode cX11_isSlot 0 = .ok (.iload_n 0, 1) := by decide +kernel
theorem dX11_isSlot_1 : decode cX11_isSlot 1 = .ok (.i2l, 1) := by decide +kernel
theorem dX11_isSlot_2 : decode cX11_isSlot 2 = .ok (.lconst 0, 1) := by decide +kernel
theorem dX11_isSlot_3 : decode cX11_isSlot 3 = .ok (.ldc2_w 225, 3) := by decide +kernel
theorem dX11_isSlot_6 : decode cX11_isSlot 6 = .ok (.invokestatic 79, 3) := by decide +kernel
theorem dX11_isSlot_9 : decode cX11_isSlot 9 = .ok (.ireturn, 1) := by decide +kernel
theorem dX11_cut_0 : decode cX11_cut 0 = .ok (.bipush 64, 2) := by decide +kernel
theorem dX11_cut_2 : decode cX11_cut 2 = .ok (.bipush 8, 2) := by decide +kernel
theorem dX11_cut_4 : decode cX11_cut 4 = .ok (.iload_n 2, 1) := by decide +kernel
theorem dX11_cut_5 : decode cX11_cut 5 = .ok (.ishl, 1) := by decide +kernel
theorem dX11_cut_6 : decode cX11_cut 6 = .ok (.isub, 1) := by decide +kernel
theorem dX11_cut_7 : decode cX11_cut 7 = .ok (.istore_n 3, 1) := by decide +kernel
theorem dX11_cut_8 : decode cX11_cut 8 = .ok (.lload_n 0, 1) := by decide +kernel
theorem dX11_cut_9 : decode cX11_cut 9 = .ok (.iload_n 3, 1) := by decide +kernel
theorem dX11_cut_10 : decode cX11_cut 10 = .ok (.lshl, 1) := by decide +kernel
theorem dX11_cut_11 : decode cX11_cut 11 = .ok (.iload_n 3, 1) := by decide +kernel
theorem dX11_cut_12 : decode cX11_cut 12 = .ok (.lshr, 1) := by decide +kernel
theorem dX11_cut_13 : decode cX11_cut 13 = .ok (.lreturn, 1) := by decide +kernel
theorem dX11_row_0 : decode cX11_row 0 = .ok (.iload_n 1, 1) := by decide +kernel
theorem dX11_row_1 : decode cX11_row 1 = .ok (.invokestatic 290, 3) := by decide +kernel
theorem dX11_row_4 : decode cX11_row 4 = .ok (.ifCond .eq 21, 3) := by decide +kernel
theorem dX11_row_25 : decode cX11_row 25 = .ok (.bipush (-2), 2) := by decide +kernel
theorem dX11_row_27 : decode cX11_row 27 = .ok (.ireturn, 1) := by decide +kernel
theorem dX11_row_7 : decode cX11_row 7 = .ok (.iload_n 2, 1) := by decide +kernel
theorem dX11_row_8 : decode cX11_row 8 = .ok (.i2l, 1) := by decide +kernel
theorem dX11_row_9 : decode cX11_row 9 = .ok (.lconst 0, 1) := by decide +kernel
theorem dX11_row_10 : decode cX11_row 10 = .ok (.ldc2_w 225, 3) := by decide +kernel
theorem dX11_row_13 : decode cX11_row 13 = .ok (.invokestatic 79, 3) := by decide +kernel
theorem dX11_row_16 : decode cX11_row 16 = .ok (.ifCond .eq 9, 3) := by decide +kernel
theorem dX11_row_19 : decode cX11_row 19 = .ok (.iload_n 3, 1) := by decide +kernel
theorem dX11_row_20 : decode cX11_row 20 = .ok (.bipush 60, 2) := by decide +kernel
theorem dX11_row_22 : decode cX11_row 22 = .ok (.if_icmp .le 6, 3) := by decide +kernel
theorem dX11_row_28 : decode cX11_row 28 = .ok (.iload_n 3, 1) := by decide +kernel
theorem dX11_row_29 : decode cX11_row 29 = .ok (.ifCond .ge 6, 3) := by decide +kernel
theorem dX11_row_35 : decode cX11_row 35 = .ok (.aload_n 0, 1) := by decide +kernel
theorem dX11_row_36 : decode cX11_row 36 = .ok (.getfield 61, 3) := by decide +kernel
theorem dX11_row_39 : decode cX11_row 39 = .ok (.iload_n 1, 1) := by decide +kernel
theorem dX11_row_40 : decode cX11_row 40 = .ok (.iload_n 3, 1) := by decide +kernel
theorem dX11_row_41 : decode cX11_row 41 = .ok (.iastore, 1) := by decide +kernel
theorem dX11_row_42 : decode cX11_row 42 = .ok (.aload_n 0, 1) := by decide +kernel
theorem dX11_row_43 : decode cX11_row 43 = .ok (.getfield 64, 3) := by decide +kernel
theorem dX11_row_46 : decode cX11_row 46 = .ok (.iload_n 1, 1) := by decide +kernel
theorem dX11_row_47 : decode cX11_row 47 = .ok (.iload_n 2, 1) := by decide +kernel
theorem dX11_row_48 : decode cX11_row 48 = .ok (.iastore, 1) := by decide +kernel
theorem dX11_row_49 : decode cX11_row 49 = .ok (.iconst 0, 1) := by decide +kernel
theorem dX11_row_50 : decode cX11_row 50 = .ok (.istore 4, 2) := by decide +kernel
theorem dX11_row_52 : decode cX11_row 52 = .ok (.iload 4, 2) := by decide +kernel
theorem dX11_row_54 : decode cX11_row 54 = .ok (.bipush 60, 2) := by decide +kernel
theorem dX11_row_56 : decode cX11_row 56 = .ok (.if_icmp .ge 22, 3) := by decide +kernel
theorem dX11_row_78 : decode cX11_row 78 = .ok (.iconst 0, 1) := by decide +kernel
theorem dX11_row_79 : decode cX11_row 79 = .ok (.ireturn, 1) := by decide +kernel
theorem dX11_row_59 : decode cX11_row 59 = .ok (.aload_n 0, 1) := by decide +kernel
theorem dX11_row_60 : decode cX11_row 60 = .ok (.getfield 67, 3) := by decide +kernel
theorem dX11_row_63 : decode cX11_row 63 = .ok (.bipush 60, 2) := by decide +kernel
theorem dX11_row_65 : decode cX11_row 65 = .ok (.iload_n 1, 1) := by decide +kernel
theorem dX11_row_66 : decode cX11_row 66 = .ok (.imul, 1) := by decide +kernel
theorem dX11_row_67 : decode cX11_row 67 = .ok (.iload 4, 2) := by decide +kernel
theorem dX11_row_69 : decode cX11_row 69 = .ok (.iadd, 1) := by decide +kernel
theorem dX11_row_70 : decode cX11_row 70 = .ok (.lconst 0, 1) := by decide +kernel
theorem dX11_row_71 : decode cX11_row 71 = .ok (.lastore, 1) := by decide +kernel
theorem dX11_row_72 : decode cX11_row 72 = .ok (.iinc 4 1, 3) := by decide +kernel
theorem dX11_row_75 : decode cX11_row 75 = .ok (.goto (-23), 3) := by decide +kernel
theorem dX11_row_32 : decode cX11_row 32 = .ok (.bipush (-3), 2) := by decide +kernel
theorem dX11_row_34 : decode cX11_row 34 = .ok (.ireturn, 1) := by decide +kernel
theorem dX11_write_0 : decode cX11_write 0 = .ok (.iload_n 1, 1) := by decide +kernel
theorem dX11_write_1 : decode cX11_write 1 = .ok (.invokestatic 290, 3) := by decide +kernel
theorem dX11_write_4 : decode cX11_write 4 = .ok (.ifCond .ne 6, 3) := by decide +kernel
theorem dX11_write_10 : decode cX11_write 10 = .ok (.aload_n 0, 1) := by decide +kernel
theorem dX11_write_11 : decode cX11_write 11 = .ok (.getfield 61, 3) := by decide +kernel
theorem dX11_write_14 : decode cX11_write 14 = .ok (.iload_n 1, 1) := by decide +kernel
theorem dX11_write_15 : decode cX11_write 15 = .ok (.iaload, 1) := by decide +kernel
theorem dX11_write_16 : decode cX11_write 16 = .ok (.iconst (-1), 1) := by decide +kernel
theorem dX11_write_17 : decode cX11_write 17 = .ok (.if_icmp .ne 6, 3) := by decide +kernel
theorem dX11_write_23 : decode cX11_write 23 = .ok (.iload_n 2, 1) := by decide +kernel
theorem dX11_write_24 : decode cX11_write 24 = .ok (.i2l, 1) := by decide +kernel
theorem dX11_write_25 : decode cX11_write 25 = .ok (.lconst 0, 1) := by decide +kernel
theorem dX11_write_26 : decode cX11_write 26 = .ok (.aload_n 0, 1) := by decide +kernel
theorem dX11_write_27 : decode cX11_write 27 = .ok (.getfield 61, 3) := by decide +kernel
theorem dX11_write_30 : decode cX11_write 30 = .ok (.iload_n 1, 1) := by decide +kernel
theorem dX11_write_31 : decode cX11_write 31 = .ok (.iaload, 1) := by decide +kernel
theorem dX11_write_32 : decode cX11_write 32 = .ok (.iconst 1, 1) := by decide +kernel
theorem dX11_write_33 : decode cX11_write 33 = .ok (.isub, 1) := by decide +kernel
theorem dX11_write_34 : decode cX11_write 34 = .ok (.i2l, 1) := by decide +kernel
theorem dX11_write_35 : decode cX11_write 35 = .ok (.invokestatic 79, 3) := by decide +kernel
theorem dX11_write_38 : decode cX11_write 38 = .ok (.ifCond .ne 6, 3) := by decide +kernel
theorem dX11_write_44 : decode cX11_write 44 = .ok (.aload_n 0, 1) := by decide +kernel
theorem dX11_write_45 : decode cX11_write 45 = .ok (.getfield 67, 3) := by decide +kernel
theorem dX11_write_48 : decode cX11_write 48 = .ok (.bipush 60, 2) := by decide +kernel
theorem dX11_write_50 : decode cX11_write 50 = .ok (.iload_n 1, 1) := by decide +kernel
theorem dX11_write_51 : decode cX11_write 51 = .ok (.imul, 1) := by decide +kernel
theorem dX11_write_52 : decode cX11_write 52 = .ok (.iload_n 2, 1) := by decide +kernel
theorem dX11_write_53 : decode cX11_write 53 = .ok (.iadd, 1) := by decide +kernel
theorem dX11_write_54 : decode cX11_write 54 = .ok (.lload_n 3, 1) := by decide +kernel
theorem dX11_write_55 : decode cX11_write 55 = .ok (.aload_n 0, 1) := by decide +kernel
theorem dX11_write_56 : decode cX11_write 56 = .ok (.getfield 64, 3) := by decide +kernel
theorem dX11_write_59 : decode cX11_write 59 = .ok (.iload_n 1, 1) := by decide +kernel
theorem dX11_write_60 : decode cX11_write 60 = .ok (.iaload, 1) := by decide +kernel
theorem dX11_write_61 : decode cX11_write 61 = .ok (.invokestatic 458, 3) := by decide +kernel
theorem dX11_write_64 : decode cX11_write 64 = .ok (.lastore, 1) := by decide +kernel
theorem dX11_write_65 : decode cX11_write 65 = .ok (.iconst 0, 1) := by decide +kernel
theorem dX11_write_66 : decode cX11_write 66 = .ok (.ireturn, 1) := by decide +kernel
theorem dX11_write_41 : decode cX11_write 41 = .ok (.bipush (-7), 2) := by decide +kernel
theorem dX11_write_43 : decode cX11_write 43 = .ok (.ireturn, 1) := by decide +kernel
theorem dX11_write_20 : decode cX11_write 20 = .ok (.bipush (-6), 2) := by decide +kernel
theorem dX11_write_22 : decode cX11_write 22 = .ok (.ireturn, 1) := by decide +kernel
theorem dX11_write_7 : decode cX11_write 7 = .ok (.bipush (-2), 2) := by decide +kernel
theorem dX11_write_9 : decode cX11_write 9 = .ok (.ireturn, 1) := by decide +kernel
theorem dX11_paste_0 : decode cX11_paste 0 = .ok (.iload_n 1, 1) := by decide +kernel
theorem dX11_paste_1 : decode cX11_paste 1 = .ok (.invokestatic 290, 3) := by decide +kernel
theorem dX11_paste_4 : decode cX11_paste 4 = .ok (.ifCond .eq 10, 3) := by decide +kernel
theorem dX11_paste_14 : decode cX11_paste 14 = .ok (.bipush (-2), 2) := by decide +kernel
theorem dX11_paste_16 : decode cX11_paste 16 = .ok (.ireturn, 1) := by decide +kernel
theorem dX11_paste_7 : decode cX11_paste 7 = .ok (.iload_n 3, 1) := by decide +kernel
theorem dX11_paste_8 : decode cX11_paste 8 = .ok (.invokestatic 290, 3) := by decide +kernel
theorem dX11_paste_11 : decode cX11_paste 11 = .ok (.ifCond .ne 6, 3) := by decide +kernel
theorem dX11_paste_17 : decode cX11_paste 17 = .ok (.aload_n 0, 1) := by decide +kernel
theorem dX11_paste_18 : decode cX11_paste 18 = .ok (.getfield 61, 3) := by decide +kernel
theorem dX11_paste_21 : decode cX11_paste 21 = .ok (.iload_n 1, 1) := by decide +kernel
theorem dX11_paste_22 : decode cX11_paste 22 = .ok (.iaload, 1) := by decide +kernel
theorem dX11_paste_23 : decode cX11_paste 23 = .ok (.iconst (-1), 1) := by decide +kernel
theorem dX11_paste_24 : decode cX11_paste 24 = .ok (.if_icmp .eq 13, 3) := by decide +kernel
theorem dX11_paste_37 : decode cX11_paste 37 = .ok (.bipush (-6), 2) := by decide +kernel
theorem dX11_paste_39 : decode cX11_paste 39 = .ok (.ireturn, 1) := by decide +kernel
theorem dX11_paste_27 : decode cX11_paste 27 = .ok (.aload_n 0, 1) := by decide +kernel
theorem dX11_paste_28 : decode cX11_paste 28 = .ok (.getfield 61, 3) := by decide +kernel
theorem dX11_paste_31 : decode cX11_paste 31 = .ok (.iload_n 3, 1) := by decide +kernel
theorem dX11_paste_32 : decode cX11_paste 32 = .ok (.iaload, 1) := by decide +kernel
theorem dX11_paste_33 : decode cX11_paste 33 = .ok (.iconst (-1), 1) := by decide +kernel
theorem dX11_paste_34 : decode cX11_paste 34 = .ok (.if_icmp .ne 6, 3) := by decide +kernel
theorem dX11_paste_40 : decode cX11_paste 40 = .ok (.aload_n 0, 1) := by decide +kernel
theorem dX11_paste_41 : decode cX11_paste 41 = .ok (.getfield 64, 3) := by decide +kernel
theorem dX11_paste_44 : decode cX11_paste 44 = .ok (.iload_n 1, 1) := by decide +kernel
theorem dX11_paste_45 : decode cX11_paste 45 = .ok (.iaload, 1) := by decide +kernel
theorem dX11_paste_46 : decode cX11_paste 46 = .ok (.aload_n 0, 1) := by decide +kernel
theorem dX11_paste_47 : decode cX11_paste 47 = .ok (.getfield 64, 3) := by decide +kernel
theorem dX11_paste_50 : decode cX11_paste 50 = .ok (.iload_n 3, 1) := by decide +kernel
theorem dX11_paste_51 : decode cX11_paste 51 = .ok (.iaload, 1) := by decide +kernel
theorem dX11_paste_52 : decode cX11_paste 52 = .ok (.if_icmp .eq 6, 3) := by decide +kernel
theorem dX11_paste_58 : decode cX11_paste 58 = .ok (.iload_n 2, 1) := by decide +kernel
theorem dX11_paste_59 : decode cX11_paste 59 = .ok (.ifCond .lt 48, 3) := by decide +kernel
theorem dX11_paste_107 : decode cX11_paste 107 = .ok (.bipush (-7), 2) := by decide +kernel
theorem dX11_paste_109 : decode cX11_paste 109 = .ok (.ireturn, 1) := by decide +kernel
theorem dX11_paste_62 : decode cX11_paste 62 = .ok (.iload 4, 2) := by decide +kernel
theorem dX11_paste_64 : decode cX11_paste 64 = .ok (.ifCond .lt 43, 3) := by decide +kernel
theorem dX11_paste_67 : decode cX11_paste 67 = .ok (.iload 5, 2) := by decide +kernel
theorem dX11_paste_69 : decode cX11_paste 69 = .ok (.ifCond .lt 38, 3) := by decide +kernel
theorem dX11_paste_72 : decode cX11_paste 72 = .ok (.iload_n 2, 1) := by decide +kernel
theorem dX11_paste_73 : decode cX11_paste 73 = .ok (.i2l, 1) := by decide +kernel
theorem dX11_paste_74 : decode cX11_paste 74 = .ok (.iload 5, 2) := by decide +kernel
theorem dX11_paste_76 : decode cX11_paste 76 = .ok (.i2l, 1) := by decide +kernel
theorem dX11_paste_77 : decode cX11_paste 77 = .ok (.ladd, 1) := by decide +kernel
theorem dX11_paste_78 : decode cX11_paste 78 = .ok (.aload_n 0, 1) := by decide +kernel
theorem dX11_paste_79 : decode cX11_paste 79 = .ok (.getfield 61, 3) := by decide +kernel
theorem dX11_paste_82 : decode cX11_paste 82 = .ok (.iload_n 1, 1) := by decide +kernel
theorem dX11_paste_83 : decode cX11_paste 83 = .ok (.iaload, 1) := by decide +kernel
theorem dX11_paste_84 : decode cX11_paste 84 = .ok (.i2l, 1) := by decide +kernel
theorem dX11_paste_85 : decode cX11_paste 85 = .ok (.lcmp, 1) := by decide +kernel
theorem dX11_paste_86 : decode cX11_paste 86 = .ok (.ifCond .gt 21, 3) := by decide +kernel
theorem dX11_paste_89 : decode cX11_paste 89 = .ok (.iload 4, 2) := by decide +kernel
theorem dX11_paste_91 : decode cX11_paste 91 = .ok (.i2l, 1) := by decide +kernel
theorem dX11_paste_92 : decode cX11_paste 92 = .ok (.iload 5, 2) := by decide +kernel
theorem dX11_paste_94 : decode cX11_paste 94 = .ok (.i2l, 1) := by decide +kernel
theorem dX11_paste_95 : decode cX11_paste 95 = .ok (.ladd, 1) := by decide +kernel
theorem dX11_paste_96 : decode cX11_paste 96 = .ok (.aload_n 0, 1) := by decide +kernel
theorem dX11_paste_97 : decode cX11_paste 97 = .ok (.getfield 61, 3) := by decide +kernel
theorem dX11_paste_100 : decode cX11_paste 100 = .ok (.iload_n 3, 1) := by decide +kernel
theorem dX11_paste_101 : decode cX11_paste 101 = .ok (.iaload, 1) := by decide +kernel
theorem dX11_paste_102 : decode cX11_paste 102 = .ok (.i2l, 1) := by decide +kernel
theorem dX11_paste_103 : decode cX11_paste 103 = .ok (.lcmp, 1) := by decide +kernel
theorem dX11_paste_104 : decode cX11_paste 104 = .ok (.ifCond .le 6, 3) := by decide +kernel
theorem dX11_paste_110 : decode cX11_paste 110 = .ok (.iconst 0, 1) := by decide +kernel
theorem dX11_paste_111 : decode cX11_paste 111 = .ok (.istore 6, 2) := by decide +kernel
theorem dX11_paste_113 : decode cX11_paste 113 = .ok (.iload 6, 2) := by decide +kernel
theorem dX11_paste_115 : decode cX11_paste 115 = .ok (.iload 5, 2) := by decide +kernel
theorem dX11_paste_117 : decode cX11_paste 117 = .ok (.if_icmp .ge 30, 3) := by decide +kernel
theorem dX11_paste_147 : decode cX11_paste 147 = .ok (.iconst 0, 1) := by decide +kernel
theorem dX11_paste_148 : decode cX11_paste 148 = .ok (.istore 6, 2) := by decide +kernel
theorem dX11_paste_150 : decode cX11_paste 150 = .ok (.iload 6, 2) := by decide +kernel
theorem dX11_paste_152 : decode cX11_paste 152 = .ok (.iload 5, 2) := by decide +kernel
theorem dX11_paste_154 : decode cX11_paste 154 = .ok (.if_icmp .ge 31, 3) := by decide +kernel
theorem dX11_paste_185 : decode cX11_paste 185 = .ok (.iconst 0, 1) := by decide +kernel
theorem dX11_paste_186 : decode cX11_paste 186 = .ok (.ireturn, 1) := by decide +kernel
theorem dX11_paste_157 : decode cX11_paste 157 = .ok (.aload_n 0, 1) := by decide +kernel
theorem dX11_paste_158 : decode cX11_paste 158 = .ok (.getfield 67, 3) := by decide +kernel
theorem dX11_paste_161 : decode cX11_paste 161 = .ok (.bipush 60, 2) := by decide +kernel
theorem dX11_paste_163 : decode cX11_paste 163 = .ok (.iload_n 3, 1) := by decide +kernel
theorem dX11_paste_164 : decode cX11_paste 164 = .ok (.imul, 1) := by decide +kernel
theorem dX11_paste_165 : decode cX11_paste 165 = .ok (.iload 4, 2) := by decide +kernel
theorem dX11_paste_167 : decode cX11_paste 167 = .ok (.iadd, 1) := by decide +kernel
theorem dX11_paste_168 : decode cX11_paste 168 = .ok (.iload 6, 2) := by decide +kernel
theorem dX11_paste_170 : decode cX11_paste 170 = .ok (.iadd, 1) := by decide +kernel
theorem dX11_paste_171 : decode cX11_paste 171 = .ok (.aload_n 0, 1) := by decide +kernel
theorem dX11_paste_172 : decode cX11_paste 172 = .ok (.getfield 71, 3) := by decide +kernel
theorem dX11_paste_175 : decode cX11_paste 175 = .ok (.iload 6, 2) := by decide +kernel
theorem dX11_paste_177 : decode cX11_paste 177 = .ok (.laload, 1) := by decide +kernel
theorem dX11_paste_178 : decode cX11_paste 178 = .ok (.lastore, 1) := by decide +kernel
theorem dX11_paste_179 : decode cX11_paste 179 = .ok (.iinc 6 1, 3) := by decide +kernel
theorem dX11_paste_182 : decode cX11_paste 182 = .ok (.goto (-32), 3) := by decide +kernel
theorem dX11_paste_120 : decode cX11_paste 120 = .ok (.aload_n 0, 1) := by decide +kernel
theorem dX11_paste_121 : decode cX11_paste 121 = .ok (.getfield 71, 3) := by decide +kernel
theorem dX11_paste_124 : decode cX11_paste 124 = .ok (.iload 6, 2) := by decide +kernel
theorem dX11_paste_126 : decode cX11_paste 126 = .ok (.aload_n 0, 1) := by decide +kernel
theorem dX11_paste_127 : decode cX11_paste 127 = .ok (.getfield 67, 3) := by decide +kernel
theorem dX11_paste_130 : decode cX11_paste 130 = .ok (.bipush 60, 2) := by decide +kernel
theorem dX11_paste_132 : decode cX11_paste 132 = .ok (.iload_n 1, 1) := by decide +kernel
theorem dX11_paste_133 : decode cX11_paste 133 = .ok (.imul, 1) := by decide +kernel
theorem dX11_paste_134 : decode cX11_paste 134 = .ok (.iload_n 2, 1) := by decide +kernel
theorem dX11_paste_135 : decode cX11_paste 135 = .ok (.iadd, 1) := by decide +kernel
theorem dX11_paste_136 : decode cX11_paste 136 = .ok (.iload 6, 2) := by decide +kernel
theorem dX11_paste_138 : decode cX11_paste 138 = .ok (.iadd, 1) := by decide +kernel
theorem dX11_paste_139 : decode cX11_paste 139 = .ok (.laload, 1) := by decide +kernel
theorem dX11_paste_140 : decode cX11_paste 140 = .ok (.lastore, 1) := by decide +kernel
theorem dX11_paste_141 : decode cX11_paste 141 = .ok (.iinc 6 1, 3) := by decide +kernel
theorem dX11_paste_144 : decode cX11_paste 144 = .ok (.goto (-31), 3) := by decide +kernel
theorem dX11_paste_55 : decode cX11_paste 55 = .ok (.bipush (-8), 2) := by decide +kernel
theorem dX11_paste_57 : decode cX11_paste 57 = .ok (.ireturn, 1) := by decide +kernel
theorem dX11_asksRound_0 : decode cX11_asksRound 0 = .ok (.iload_n 1, 1) := by decide +kernel
theorem dX11_asksRound_1 : decode cX11_asksRound 1 = .ok (.invokestatic 290, 3) := by decide +kernel
theorem dX11_asksRound_4 : decode cX11_asksRound 4 = .ok (.ifCond .eq 14, 3) := by decide +kernel
theorem dX11_asksRound_18 : decode cX11_asksRound 18 = .ok (.bipush (-2), 2) := by decide +kernel
theorem dX11_asksRound_20 : decode cX11_asksRound 20 = .ok (.ireturn, 1) := by decide +kernel
theorem dX11_asksRound_7 : decode cX11_asksRound 7 = .ok (.aload_n 0, 1) := by decide +kernel
theorem dX11_asksRound_8 : decode cX11_asksRound 8 = .ok (.invokevirtual 83, 3) := by decide +kernel
theorem dX11_asksRound_11 : decode cX11_asksRound 11 = .ok (.ifCond .eq 7, 3) := by decide +kernel
theorem dX11_asksRound_14 : decode cX11_asksRound 14 = .ok (.iload_n 2, 1) := by decide +kernel
theorem dX11_asksRound_15 : decode cX11_asksRound 15 = .ok (.ifCond .ne 6, 3) := by decide +kernel
theorem dX11_asksRound_21 : decode cX11_asksRound 21 = .ok (.aload_n 0, 1) := by decide +kernel
theorem dX11_asksRound_22 : decode cX11_asksRound 22 = .ok (.getfield 61, 3) := by decide +kernel
theorem dX11_asksRound_25 : decode cX11_asksRound 25 = .ok (.iload_n 1, 1) := by decide +kernel
theorem dX11_asksRound_26 : decode cX11_asksRound 26 = .ok (.iaload, 1) := by decide +kernel
theorem dX11_asksRound_27 : decode cX11_asksRound 27 = .ok (.iconst (-1), 1) := by decide +kernel
theorem dX11_asksRound_28 : decode cX11_asksRound 28 = .ok (.if_icmp .ne 6, 3) := by decide +kernel
theorem dX11_asksRound_34 : decode cX11_asksRound 34 = .ok (.iconst 0, 1) := by decide +kernel
theorem dX11_asksRound_35 : decode cX11_asksRound 35 = .ok (.istore_n 3, 1) := by decide +kernel
theorem dX11_asksRound_36 : decode cX11_asksRound 36 = .ok (.iload_n 3, 1) := by decide +kernel
theorem dX11_asksRound_37 : decode cX11_asksRound 37 = .ok (.aload_n 0, 1) := by decide +kernel
theorem dX11_asksRound_38 : decode cX11_asksRound 38 = .ok (.getfield 61, 3) := by decide +kernel
theorem dX11_asksRound_41 : decode cX11_asksRound 41 = .ok (.iload_n 1, 1) := by decide +kernel
theorem dX11_asksRound_42 : decode cX11_asksRound 42 = .ok (.iaload, 1) := by decide +kernel
theorem dX11_asksRound_43 : decode cX11_asksRound 43 = .ok (.if_icmp .ge 25, 3) := by decide +kernel
theorem dX11_asksRound_68 : decode cX11_asksRound 68 = .ok (.iconst 0, 1) := by decide +kernel
theorem dX11_asksRound_69 : decode cX11_asksRound 69 = .ok (.ireturn, 1) := by decide +kernel
theorem dX11_asksRound_46 : decode cX11_asksRound 46 = .ok (.aload_n 0, 1) := by decide +kernel
theorem dX11_asksRound_47 : decode cX11_asksRound 47 = .ok (.aload_n 0, 1) := by decide +kernel
theorem dX11_asksRound_48 : decode cX11_asksRound 48 = .ok (.iload_n 1, 1) := by decide +kernel
theorem dX11_asksRound_49 : decode cX11_asksRound 49 = .ok (.iload_n 3, 1) := by decide +kernel
theorem dX11_asksRound_50 : decode cX11_asksRound 50 = .ok (.invokevirtual 286, 3) := by decide +kernel
theorem dX11_asksRound_53 : decode cX11_asksRound 53 = .ok (.invokevirtual 275, 3) := by decide +kernel
theorem dX11_asksRound_56 : decode cX11_asksRound 56 = .ok (.ifCond .ne 6, 3) := by decide +kernel
theorem dX11_asksRound_62 : decode cX11_asksRound 62 = .ok (.iinc 3 1, 3) := by decide +kernel
theorem dX11_asksRound_65 : decode cX11_asksRound 65 = .ok (.goto (-29), 3) := by decide +kernel
theorem dX11_asksRound_59 : decode cX11_asksRound 59 = .ok (.bipush (-2), 2) := by decide +kernel
theorem dX11_asksRound_61 : decode cX11_asksRound 61 = .ok (.ireturn, 1) := by decide +kernel
theorem dX11_asksRound_31 : decode cX11_asksRound 31 = .ok (.bipush (-6), 2) := by decide +kernel
theorem dX11_asksRound_33 : decode cX11_asksRound 33 = .ok (.ireturn, 1) := by decide +kernel
theorem dX11_round_0 : decode cX11_round 0 = .ok (.aload_n 0, 1) := by decide +kernel
theorem dX11_round_1 : decode cX11_round 1 = .ok (.iload_n 1, 1) := by decide +kernel
theorem dX11_round_2 : decode cX11_round 2 = .ok (.iconst 1, 1) := by decide +kernel
theorem dX11_round_3 : decode cX11_round 3 = .ok (.invokevirtual 303, 3) := by decide +kernel
theorem dX11_round_6 : decode cX11_round 6 = .ok (.istore_n 2, 1) := by decide +kernel
theorem dX11_round_7 : decode cX11_round 7 = .ok (.iload_n 2, 1) := by decide +kernel
theorem dX11_round_8 : decode cX11_round 8 = .ok (.ifCond .ge 7, 3) := by decide +kernel
theorem dX11_round_15 : decode cX11_round 15 = .ok (.aload_n 0, 1) := by decide +kernel
theorem dX11_round_16 : decode cX11_round 16 = .ok (.iload_n 1, 1) := by decide +kernel
theorem dX11_round_17 : decode cX11_round 17 = .ok (.aload_n 0, 1) := by decide +kernel
theorem dX11_round_18 : decode cX11_round 18 = .ok (.getfield 61, 3) := by decide +kernel
theorem dX11_round_21 : decode cX11_round 21 = .ok (.iload_n 1, 1) := by decide +kernel
theorem dX11_round_22 : decode cX11_round 22 = .ok (.iaload, 1) := by decide +kernel
theorem dX11_round_23 : decode cX11_round 23 = .ok (.iconst 0, 1) := by decide +kernel
theorem dX11_round_24 : decode cX11_round 24 = .ok (.invokevirtual 296, 3) := by decide +kernel
theorem dX11_round_27 : decode cX11_round 27 = .ok (.ireturn, 1) := by decide +kernel
theorem dX11_round_11 : decode cX11_round 11 = .ok (.iload_n 2, 1) := by decide +kernel
theorem dX11_round_12 : decode cX11_round 12 = .ok (.goto 15, 3) := by decide +kernel
theorem dX11_behind_0 : decode cX11_behind 0 = .ok (.aload_n 0, 1) := by decide +kernel
theorem dX11_behind_1 : decode cX11_behind 1 = .ok (.iload_n 1, 1) := by decide +kernel
theorem dX11_behind_2 : decode cX11_behind 2 = .ok (.aload_n 0, 1) := by decide +kernel
theorem dX11_behind_3 : decode cX11_behind 3 = .ok (.iload_n 2, 1) := by decide +kernel
theorem dX11_behind_4 : decode cX11_behind 4 = .ok (.i2l, 1) := by decide +kernel
theorem dX11_behind_5 : decode cX11_behind 5 = .ok (.invokevirtual 89, 3) := by decide +kernel
theorem dX11_behind_8 : decode cX11_behind 8 = .ok (.invokevirtual 303, 3) := by decide +kernel
theorem dX11_behind_11 : decode cX11_behind 11 = .ok (.istore_n 3, 1) := by decide +kernel
theorem dX11_behind_12 : decode cX11_behind 12 = .ok (.iload_n 3, 1) := by decide +kernel
theorem dX11_behind_13 : decode cX11_behind 13 = .ok (.ifCond .ge 5, 3) := by decide +kernel
theorem dX11_behind_18 : decode cX11_behind 18 = .ok (.aload_n 0, 1) := by decide +kernel
theorem dX11_behind_19 : decode cX11_behind 19 = .ok (.iload_n 1, 1) := by decide +kernel
theorem dX11_behind_20 : decode cX11_behind 20 = .ok (.aload_n 0, 1) := by decide +kernel
theorem dX11_behind_21 : decode cX11_behind 21 = .ok (.getfield 61, 3) := by decide +kernel
theorem dX11_behind_24 : decode cX11_behind 24 = .ok (.iload_n 1, 1) := by decide +kernel
theorem dX11_behind_25 : decode cX11_behind 25 = .ok (.iaload, 1) := by decide +kernel
theorem dX11_behind_26 : decode cX11_behind 26 = .ok (.iconst 0, 1) := by decide +kernel
theorem dX11_behind_27 : decode cX11_behind 27 = .ok (.invokevirtual 296, 3) := by decide +kernel
theorem dX11_behind_30 : decode cX11_behind 30 = .ok (.pop, 1) := by decide +kernel
theorem dX11_behind_31 : decode cX11_behind 31 = .ok (.aload_n 0, 1) := by decide +kernel
theorem dX11_behind_32 : decode cX11_behind 32 = .ok (.getfield 34, 3) := by decide +kernel
theorem dX11_behind_35 : decode cX11_behind 35 = .ok (.iload_n 2, 1) := by decide +kernel
theorem dX11_behind_36 : decode cX11_behind 36 = .ok (.iaload, 1) := by decide +kernel
theorem dX11_behind_37 : decode cX11_behind 37 = .ok (.ireturn, 1) := by decide +kernel
theorem dX11_behind_16 : decode cX11_behind 16 = .ok (.iload_n 3, 1) := by decide +kernel
theorem dX11_behind_17 : decode cX11_behind 17 = .ok (.ireturn, 1) := by decide +kernel
theorem dX11_disturbs_0 : decode cX11_disturbs 0 = .ok (.aload_n 0, 1) := by decide +kernel
theorem dX11_disturbs_1 : decode cX11_disturbs 1 = .ok (.iload_n 1, 1) := by decide +kernel
theorem dX11_disturbs_2 : decode cX11_disturbs 2 = .ok (.iconst 1, 1) := by decide +kernel
theorem dX11_disturbs_3 : decode cX11_disturbs 3 = .ok (.invokevirtual 303, 3) := by decide +kernel
theorem dX11_disturbs_6 : decode cX11_disturbs 6 = .ok (.istore_n 2, 1) := by decide +kernel
theorem dX11_disturbs_7 : decode cX11_disturbs 7 = .ok (.iload_n 2, 1) := by decide +kernel
theorem dX11_disturbs_8 : decode cX11_disturbs 8 = .ok (.ifCond .ge 5, 3) := by decide +kernel
theorem dX11_disturbs_13 : decode cX11_disturbs 13 = .ok (.iconst 0, 1) := by decide +kernel
theorem dX11_disturbs_14 : decode cX11_disturbs 14 = .ok (.istore_n 3, 1) := by decide +kernel
theorem dX11_disturbs_15 : decode cX11_disturbs 15 = .ok (.iconst 0, 1) := by decide +kernel
theorem dX11_disturbs_16 : decode cX11_disturbs 16 = .ok (.istore 4, 2) := by decide +kernel
theorem dX11_disturbs_18 : decode cX11_disturbs 18 = .ok (.iload 4, 2) := by decide +kernel
theorem dX11_disturbs_20 : decode cX11_disturbs 20 = .ok (.aload_n 0, 1) := by decide +kernel
theorem dX11_disturbs_21 : decode cX11_disturbs 21 = .ok (.getfield 61, 3) := by decide +kernel
theorem dX11_disturbs_24 : decode cX11_disturbs 24 = .ok (.iload_n 1, 1) := by decide +kernel
theorem dX11_disturbs_25 : decode cX11_disturbs 25 = .ok (.iaload, 1) := by decide +kernel
theorem dX11_disturbs_26 : decode cX11_disturbs 26 = .ok (.if_icmp .ge 39, 3) := by decide +kernel
theorem dX11_disturbs_65 : decode cX11_disturbs 65 = .ok (.iload_n 3, 1) := by decide +kernel
theorem dX11_disturbs_66 : decode cX11_disturbs 66 = .ok (.ireturn, 1) := by decide +kernel
theorem dX11_disturbs_29 : decode cX11_disturbs 29 = .ok (.iload_n 3, 1) := by decide +kernel
theorem dX11_disturbs_30 : decode cX11_disturbs 30 = .ok (.aload_n 0, 1) := by decide +kernel
theorem dX11_disturbs_31 : decode cX11_disturbs 31 = .ok (.iload_n 1, 1) := by decide +kernel
theorem dX11_disturbs_32 : decode cX11_disturbs 32 = .ok (.iload 4, 2) := by decide +kernel
theorem dX11_disturbs_34 : decode cX11_disturbs 34 = .ok (.invokevirtual 293, 3) := by decide +kernel
theorem dX11_disturbs_37 : decode cX11_disturbs 37 = .ok (.iconst (-1), 1) := by decide +kernel
theorem dX11_disturbs_57 : decode cX11_disturbs 57 = .ok (.iadd, 1) := by decide +kernel
theorem dX11_disturbs_58 : decode cX11_disturbs 58 = .ok (.istore_n 3, 1) := by decide +kernel
theorem dX11_disturbs_59 : decode cX11_disturbs 59 = .ok (.iinc 4 1, 3) := by decide +kernel
theorem dX11_disturbs_62 : decode cX11_disturbs 62 = .ok (.goto (-44), 3) := by decide +kernel
theorem dX11_disturbs_38 : decode cX11_disturbs 38 = .ok (.if_icmp .ne 7, 3) := by decide +kernel
theorem dX11_disturbs_45 : decode cX11_disturbs 45 = .ok (.aload_n 0, 1) := by decide +kernel
theorem dX11_disturbs_46 : decode cX11_disturbs 46 = .ok (.aload_n 0, 1) := by decide +kernel
theorem dX11_disturbs_47 : decode cX11_disturbs 47 = .ok (.iload_n 1, 1) := by decide +kernel
theorem dX11_disturbs_48 : decode cX11_disturbs 48 = .ok (.iload 4, 2) := by decide +kernel
theorem dX11_disturbs_50 : decode cX11_disturbs 50 = .ok (.invokevirtual 293, 3) := by decide +kernel
theorem dX11_disturbs_53 : decode cX11_disturbs 53 = .ok (.iconst 0, 1) := by decide +kernel
theorem dX11_disturbs_54 : decode cX11_disturbs 54 = .ok (.invokevirtual 227, 3) := by decide +kernel
theorem dX11_disturbs_41 : decode cX11_disturbs 41 = .ok (.iconst 0, 1) := by decide +kernel
theorem dX11_disturbs_42 : decode cX11_disturbs 42 = .ok (.goto 15, 3) := by decide +kernel
theorem dX11_disturbs_11 : decode cX11_disturbs 11 = .ok (.iload_n 2, 1) := by decide +kernel
theorem dX11_disturbs_12 : decode cX11_disturbs 12 = .ok (.ireturn, 1) := by decide +kernel
theorem dX11_gain_0 : decode cX11_gain 0 = .ok (.aload_n 0, 1) := by decide +kernel
theorem dX11_gain_1 : decode cX11_gain 1 = .ok (.iload_n 1, 1) := by decide +kernel
theorem dX11_gain_2 : decode cX11_gain 2 = .ok (.iconst 1, 1) := by decide +kernel
theorem dX11_gain_3 : decode cX11_gain 3 = .ok (.invokevirtual 303, 3) := by decide +kernel
theorem dX11_gain_6 : decode cX11_gain 6 = .ok (.istore_n 2, 1) := by decide +kernel
theorem dX11_gain_7 : decode cX11_gain 7 = .ok (.iload_n 2, 1) := by decide +kernel
theorem dX11_gain_8 : decode cX11_gain 8 = .ok (.bipush (-2), 2) := by decide +kernel
theorem dX11_gain_10 : decode cX11_gain 10 = .ok (.if_icmp .ne 9, 3) := by decide +kernel
theorem dX11_gain_19 : decode cX11_gain 19 = .ok (.iload_n 2, 1) := by decide +kernel
theorem dX11_gain_20 : decode cX11_gain 20 = .ok (.bipush (-6), 2) := by decide +kernel
theorem dX11_gain_22 : decode cX11_gain 22 = .ok (.if_icmp .ne 9, 3) := by decide +kernel
theorem dX11_gain_31 : decode cX11_gain 31 = .ok (.aload_n 0, 1) := by decide +kernel
theorem dX11_gain_32 : decode cX11_gain 32 = .ok (.iload_n 1, 1) := by decide +kernel
theorem dX11_gain_33 : decode cX11_gain 33 = .ok (.aload_n 0, 1) := by decide +kernel
theorem dX11_gain_34 : decode cX11_gain 34 = .ok (.getfield 61, 3) := by decide +kernel
theorem dX11_gain_37 : decode cX11_gain 37 = .ok (.iload_n 1, 1) := by decide +kernel
theorem dX11_gain_38 : decode cX11_gain 38 = .ok (.iaload, 1) := by decide +kernel
theorem dX11_gain_39 : decode cX11_gain 39 = .ok (.iconst 0, 1) := by decide +kernel
theorem dX11_gain_40 : decode cX11_gain 40 = .ok (.invokevirtual 309, 3) := by decide +kernel
theorem dX11_gain_43 : decode cX11_gain 43 = .ok (.ireturn, 1) := by decide +kernel
theorem dX11_gain_25 : decode cX11_gain 25 = .ok (.ldc_w 308, 3) := by decide +kernel
theorem dX11_gain_28 : decode cX11_gain 28 = .ok (.goto 15, 3) := by decide +kernel
theorem dX11_gain_13 : decode cX11_gain 13 = .ok (.ldc_w 307, 3) := by decide +kernel
theorem dX11_gain_16 : decode cX11_gain 16 = .ok (.goto 27, 3) := by decide +kernel
theorem dX11_stop_0 : decode cX11_stop 0 = .ok (.aload_n 0, 1) := by decide +kernel
theorem dX11_stop_1 : decode cX11_stop 1 = .ok (.iload_n 1, 1) := by decide +kernel
theorem dX11_stop_2 : decode cX11_stop 2 = .ok (.iconst 1, 1) := by decide +kernel
theorem dX11_stop_3 : decode cX11_stop 3 = .ok (.invokevirtual 303, 3) := by decide +kernel
theorem dX11_stop_6 : decode cX11_stop 6 = .ok (.istore_n 2, 1) := by decide +kernel
theorem dX11_stop_7 : decode cX11_stop 7 = .ok (.iload_n 2, 1) := by decide +kernel
theorem dX11_stop_8 : decode cX11_stop 8 = .ok (.ifCond .ge 5, 3) := by decide +kernel
theorem dX11_stop_13 : decode cX11_stop 13 = .ok (.iconst 0, 1) := by decide +kernel
theorem dX11_stop_14 : decode cX11_stop 14 = .ok (.istore_n 3, 1) := by decide +kernel
theorem dX11_stop_15 : decode cX11_stop 15 = .ok (.iconst 1, 1) := by decide +kernel
theorem dX11_stop_16 : decode cX11_stop 16 = .ok (.istore 4, 2) := by decide +kernel
theorem dX11_stop_18 : decode cX11_stop 18 = .ok (.iload 4, 2) := by decide +kernel
theorem dX11_stop_20 : decode cX11_stop 20 = .ok (.aload_n 0, 1) := by decide +kernel
theorem dX11_stop_21 : decode cX11_stop 21 = .ok (.getfield 61, 3) := by decide +kernel
theorem dX11_stop_24 : decode cX11_stop 24 = .ok (.iload_n 1, 1) := by decide +kernel
theorem dX11_stop_25 : decode cX11_stop 25 = .ok (.iaload, 1) := by decide +kernel
theorem dX11_stop_26 : decode cX11_stop 26 = .ok (.if_icmp .gt 34, 3) := by decide +kernel
theorem dX11_stop_60 : decode cX11_stop 60 = .ok (.iload_n 3, 1) := by decide +kernel
theorem dX11_stop_61 : decode cX11_stop 61 = .ok (.ireturn, 1) := by decide +kernel
theorem dX11_stop_29 : decode cX11_stop 29 = .ok (.aload_n 0, 1) := by decide +kernel
theorem dX11_stop_30 : decode cX11_stop 30 = .ok (.iload_n 1, 1) := by decide +kernel
theorem dX11_stop_31 : decode cX11_stop 31 = .ok (.iload 4, 2) := by decide +kernel
theorem dX11_stop_33 : decode cX11_stop 33 = .ok (.iconst 0, 1) := by decide +kernel
theorem dX11_stop_34 : decode cX11_stop 34 = .ok (.invokevirtual 309, 3) := by decide +kernel
theorem dX11_stop_37 : decode cX11_stop 37 = .ok (.aload_n 0, 1) := by decide +kernel
theorem dX11_stop_38 : decode cX11_stop 38 = .ok (.iload_n 1, 1) := by decide +kernel
theorem dX11_stop_39 : decode cX11_stop 39 = .ok (.iload_n 3, 1) := by decide +kernel
theorem dX11_stop_40 : decode cX11_stop 40 = .ok (.iconst 0, 1) := by decide +kernel
theorem dX11_stop_41 : decode cX11_stop 41 = .ok (.invokevirtual 309, 3) := by decide +kernel
theorem dX11_stop_53 : decode cX11_stop 53 = .ok (.istore_n 3, 1) := by decide +kernel
theorem dX11_stop_54 : decode cX11_stop 54 = .ok (.iinc 4 1, 3) := by decide +kernel
theorem dX11_stop_57 : decode cX11_stop 57 = .ok (.goto (-39), 3) := by decide +kernel
theorem dX11_stop_44 : decode cX11_stop 44 = .ok (.if_icmp .le 8, 3) := by decide +kernel
theorem dX11_stop_52 : decode cX11_stop 52 = .ok (.iload_n 3, 1) := by decide +kernel
theorem dX11_stop_47 : decode cX11_stop 47 = .ok (.iload 4, 2) := by decide +kernel
theorem dX11_stop_49 : decode cX11_stop 49 = .ok (.goto 4, 3) := by decide +kernel
theorem dX11_stop_11 : decode cX11_stop 11 = .ok (.iload_n 2, 1) := by decide +kernel
theorem dX11_stop_12 : decode cX11_stop 12 = .ok (.ireturn, 1) := by decide +kernel
theorem dX11_doubt_0 : decode cX11_doubt 0 = .ok (.aload_n 0, 1) := by decide +kernel
theorem dX11_doubt_1 : decode cX11_doubt 1 = .ok (.iload_n 1, 1) := by decide +kernel
theorem dX11_doubt_2 : decode cX11_doubt 2 = .ok (.iload_n 2, 1) := by decide +kernel
theorem dX11_doubt_3 : decode cX11_doubt 3 = .ok (.i2l, 1) := by decide +kernel
theorem dX11_doubt_4 : decode cX11_doubt 4 = .ok (.lconst 0, 1) := by decide +kernel
theorem dX11_doubt_5 : decode cX11_doubt 5 = .ok (.ldc2_w 273, 3) := by decide +kernel
theorem dX11_doubt_8 : decode cX11_doubt 8 = .ok (.invokestatic 79, 3) := by decide +kernel
theorem dX11_doubt_11 : decode cX11_doubt 11 = .ok (.invokevirtual 303, 3) := by decide +kernel
theorem dX11_doubt_14 : decode cX11_doubt 14 = .ok (.istore_n 3, 1) := by decide +kernel
theorem dX11_doubt_15 : decode cX11_doubt 15 = .ok (.iload_n 3, 1) := by decide +kernel
theorem dX11_doubt_16 : decode cX11_doubt 16 = .ok (.ifCond .ge 5, 3) := by decide +kernel
theorem dX11_doubt_21 : decode cX11_doubt 21 = .ok (.aload_n 0, 1) := by decide +kernel
theorem dX11_doubt_22 : decode cX11_doubt 22 = .ok (.invokevirtual 278, 3) := by decide +kernel
theorem dX11_doubt_25 : decode cX11_doubt 25 = .ok (.iconst 0, 1) := by decide +kernel
theorem dX11_doubt_26 : decode cX11_doubt 26 = .ok (.istore 4, 2) := by decide +kernel
theorem dX11_doubt_28 : decode cX11_doubt 28 = .ok (.iload 4, 2) := by decide +kernel
theorem dX11_doubt_30 : decode cX11_doubt 30 = .ok (.aload_n 0, 1) := by decide +kernel
theorem dX11_doubt_31 : decode cX11_doubt 31 = .ok (.getfield 61, 3) := by decide +kernel
theorem dX11_doubt_34 : decode cX11_doubt 34 = .ok (.iload_n 1, 1) := by decide +kernel
theorem dX11_doubt_35 : decode cX11_doubt 35 = .ok (.iaload, 1) := by decide +kernel
theorem dX11_doubt_36 : decode cX11_doubt 36 = .ok (.if_icmp .ge 42, 3) := by decide +kernel
theorem dX11_doubt_78 : decode cX11_doubt 78 = .ok (.iconst (-1), 1) := by decide +kernel
theorem dX11_doubt_79 : decode cX11_doubt 79 = .ok (.ireturn, 1) := by decide +kernel
theorem dX11_doubt_39 : decode cX11_doubt 39 = .ok (.aload_n 0, 1) := by decide +kernel
theorem dX11_doubt_40 : decode cX11_doubt 40 = .ok (.aload_n 0, 1) := by decide +kernel
theorem dX11_doubt_41 : decode cX11_doubt 41 = .ok (.invokevirtual 270, 3) := by decide +kernel
theorem dX11_doubt_44 : decode cX11_doubt 44 = .ok (.invokevirtual 281, 3) := by decide +kernel
theorem dX11_doubt_47 : decode cX11_doubt 47 = .ok (.iload_n 2, 1) := by decide +kernel
theorem dX11_doubt_48 : decode cX11_doubt 48 = .ok (.if_icmp .ge 6, 3) := by decide +kernel
theorem dX11_doubt_54 : decode cX11_doubt 54 = .ok (.aload_n 0, 1) := by decide +kernel
theorem dX11_doubt_55 : decode cX11_doubt 55 = .ok (.aload_n 0, 1) := by decide +kernel
theorem dX11_doubt_56 : decode cX11_doubt 56 = .ok (.iload_n 1, 1) := by decide +kernel
theorem dX11_doubt_57 : decode cX11_doubt 57 = .ok (.iload 4, 2) := by decide +kernel
theorem dX11_doubt_59 : decode cX11_doubt 59 = .ok (.invokevirtual 293, 3) := by decide +kernel
theorem dX11_doubt_62 : decode cX11_doubt 62 = .ok (.iconst 0, 1) := by decide +kernel
theorem dX11_doubt_63 : decode cX11_doubt 63 = .ok (.invokevirtual 264, 3) := by decide +kernel
theorem dX11_doubt_66 : decode cX11_doubt 66 = .ok (.pop, 1) := by decide +kernel
theorem dX11_doubt_67 : decode cX11_doubt 67 = .ok (.aload_n 0, 1) := by decide +kernel
theorem dX11_doubt_68 : decode cX11_doubt 68 = .ok (.iconst (-1), 1) := by decide +kernel
theorem dX11_doubt_69 : decode cX11_doubt 69 = .ok (.invokevirtual 267, 3) := by decide +kernel
theorem dX11_doubt_72 : decode cX11_doubt 72 = .ok (.iinc 4 1, 3) := by decide +kernel
theorem dX11_doubt_75 : decode cX11_doubt 75 = .ok (.goto (-47), 3) := by decide +kernel
theorem dX11_doubt_51 : decode cX11_doubt 51 = .ok (.iload 4, 2) := by decide +kernel
theorem dX11_doubt_53 : decode cX11_doubt 53 = .ok (.ireturn, 1) := by decide +kernel
theorem dX11_doubt_19 : decode cX11_doubt 19 = .ok (.iload_n 3, 1) := by decide +kernel
theorem dX11_doubt_20 : decode cX11_doubt 20 = .ok (.ireturn, 1) := by decide +kernel
theorem dX11_walks_0 : decode cX11_walks 0 = .ok (.aload_n 0, 1) := by decide +kernel
theorem dX11_walks_1 : decode cX11_walks 1 = .ok (.iload_n 1, 1) := by decide +kernel
theorem dX11_walks_2 : decode cX11_walks 2 = .ok (.aload_n 0, 1) := by decide +kernel
theorem dX11_walks_3 : decode cX11_walks 3 = .ok (.iload_n 2, 1) := by decide +kernel
theorem dX11_walks_4 : decode cX11_walks 4 = .ok (.i2l, 1) := by decide +kernel
theorem dX11_walks_5 : decode cX11_walks 5 = .ok (.invokevirtual 89, 3) := by decide +kernel
theorem dX11_walks_8 : decode cX11_walks 8 = .ok (.invokevirtual 303, 3) := by decide +kernel
theorem dX11_walks_11 : decode cX11_walks 11 = .ok (.istore_n 3, 1) := by decide +kernel
theorem dX11_walks_12 : decode cX11_walks 12 = .ok (.iload_n 3, 1) := by decide +kernel
theorem dX11_walks_13 : decode cX11_walks 13 = .ok (.ifCond .ge 7, 3) := by decide +kernel
theorem dX11_walks_20 : decode cX11_walks 20 = .ok (.aload_n 0, 1) := by decide +kernel
theorem dX11_walks_21 : decode cX11_walks 21 = .ok (.iload_n 1, 1) := by decide +kernel
theorem dX11_walks_22 : decode cX11_walks 22 = .ok (.iload_n 2, 1) := by decide +kernel
theorem dX11_walks_23 : decode cX11_walks 23 = .ok (.invokevirtual 316, 3) := by decide +kernel
theorem dX11_walks_26 : decode cX11_walks 26 = .ok (.ifCond .eq 7, 3) := by decide +kernel
theorem dX11_walks_33 : decode cX11_walks 33 = .ok (.iconst 0, 1) := by decide +kernel
theorem dX11_walks_34 : decode cX11_walks 34 = .ok (.ireturn, 1) := by decide +kernel
theorem dX11_walks_29 : decode cX11_walks 29 = .ok (.iconst 1, 1) := by decide +kernel
theorem dX11_walks_30 : decode cX11_walks 30 = .ok (.goto 4, 3) := by decide +kernel
theorem dX11_walks_16 : decode cX11_walks 16 = .ok (.iload_n 3, 1) := by decide +kernel
theorem dX11_walks_17 : decode cX11_walks 17 = .ok (.goto 17, 3) := by decide +kernel
theorem dX11_penny_0 : decode cX11_penny 0 = .ok (.aload_n 0, 1) := by decide +kernel
theorem dX11_penny_1 : decode cX11_penny 1 = .ok (.iload_n 1, 1) := by decide +kernel
theorem dX11_penny_2 : decode cX11_penny 2 = .ok (.iconst 1, 1) := by decide +kernel
theorem dX11_penny_3 : decode cX11_penny 3 = .ok (.invokevirtual 303, 3) := by decide +kernel
theorem dX11_penny_6 : decode cX11_penny 6 = .ok (.istore_n 2, 1) := by decide +kernel
theorem dX11_penny_7 : decode cX11_penny 7 = .ok (.iload_n 2, 1) := by decide +kernel
theorem dX11_penny_8 : decode cX11_penny 8 = .ok (.ifCond .ge 5, 3) := by decide +kernel
theorem dX11_penny_13 : decode cX11_penny 13 = .ok (.iconst 0, 1) := by decide +kernel
theorem dX11_penny_14 : decode cX11_penny 14 = .ok (.istore_n 3, 1) := by decide +kernel
theorem dX11_penny_15 : decode cX11_penny 15 = .ok (.iconst 0, 1) := by decide +kernel
theorem dX11_penny_16 : decode cX11_penny 16 = .ok (.istore 4, 2) := by decide +kernel
theorem dX11_penny_18 : decode cX11_penny 18 = .ok (.iload 4, 2) := by decide +kernel
theorem dX11_penny_20 : decode cX11_penny 20 = .ok (.aload_n 0, 1) := by decide +kernel
theorem dX11_penny_21 : decode cX11_penny 21 = .ok (.getfield 61, 3) := by decide +kernel
theorem dX11_penny_24 : decode cX11_penny 24 = .ok (.iload_n 1, 1) := by decide +kernel
theorem dX11_penny_25 : decode cX11_penny 25 = .ok (.iaload, 1) := by decide +kernel
theorem dX11_penny_26 : decode cX11_penny 26 = .ok (.if_icmp .ge 28, 3) := by decide +kernel
theorem dX11_penny_54 : decode cX11_penny 54 = .ok (.iconst 0, 1) := by decide +kernel
theorem dX11_penny_55 : decode cX11_penny 55 = .ok (.istore 4, 2) := by decide +kernel
theorem dX11_penny_57 : decode cX11_penny 57 = .ok (.aload_n 0, 1) := by decide +kernel
theorem dX11_penny_58 : decode cX11_penny 58 = .ok (.iload_n 1, 1) := by decide +kernel
theorem dX11_penny_59 : decode cX11_penny 59 = .ok (.aload_n 0, 1) := by decide +kernel
theorem dX11_penny_60 : decode cX11_penny 60 = .ok (.getfield 61, 3) := by decide +kernel
theorem dX11_penny_63 : decode cX11_penny 63 = .ok (.iload_n 1, 1) := by decide +kernel
theorem dX11_penny_64 : decode cX11_penny 64 = .ok (.iaload, 1) := by decide +kernel
theorem dX11_penny_65 : decode cX11_penny 65 = .ok (.iconst 0, 1) := by decide +kernel
theorem dX11_penny_66 : decode cX11_penny 66 = .ok (.invokevirtual 309, 3) := by decide +kernel
theorem dX11_penny_69 : decode cX11_penny 69 = .ok (.istore 5, 2) := by decide +kernel
theorem dX11_penny_71 : decode cX11_penny 71 = .ok (.iconst 1, 1) := by decide +kernel
theorem dX11_penny_72 : decode cX11_penny 72 = .ok (.istore 6, 2) := by decide +kernel
theorem dX11_penny_74 : decode cX11_penny 74 = .ok (.iload 6, 2) := by decide +kernel
theorem dX11_penny_76 : decode cX11_penny 76 = .ok (.bipush 9, 2) := by decide +kernel
theorem dX11_penny_78 : decode cX11_penny 78 = .ok (.if_icmp .gt 47, 3) := by decide +kernel
theorem dX11_penny_125 : decode cX11_penny 125 = .ok (.iload 4, 2) := by decide +kernel
theorem dX11_penny_127 : decode cX11_penny 127 = .ok (.ireturn, 1) := by decide +kernel
theorem dX11_penny_81 : decode cX11_penny 81 = .ok (.aload_n 0, 1) := by decide +kernel
theorem dX11_penny_82 : decode cX11_penny 82 = .ok (.iload_n 1, 1) := by decide +kernel
theorem dX11_penny_83 : decode cX11_penny 83 = .ok (.aload_n 0, 1) := by decide +kernel
theorem dX11_penny_84 : decode cX11_penny 84 = .ok (.getfield 61, 3) := by decide +kernel
theorem dX11_penny_87 : decode cX11_penny 87 = .ok (.iload_n 1, 1) := by decide +kernel
theorem dX11_penny_88 : decode cX11_penny 88 = .ok (.iaload, 1) := by decide +kernel
theorem dX11_penny_89 : decode cX11_penny 89 = .ok (.iload 6, 2) := by decide +kernel
theorem dX11_penny_91 : decode cX11_penny 91 = .ok (.invokevirtual 309, 3) := by decide +kernel
theorem dX11_penny_94 : decode cX11_penny 94 = .ok (.iload 6, 2) := by decide +kernel
theorem dX11_penny_96 : decode cX11_penny 96 = .ok (.iload_n 3, 1) := by decide +kernel
theorem dX11_penny_97 : decode cX11_penny 97 = .ok (.imul, 1) := by decide +kernel
theorem dX11_penny_98 : decode cX11_penny 98 = .ok (.isub, 1) := by decide +kernel
theorem dX11_penny_99 : decode cX11_penny 99 = .ok (.istore 7, 2) := by decide +kernel
theorem dX11_penny_101 : decode cX11_penny 101 = .ok (.iload 7, 2) := by decide +kernel
theorem dX11_penny_103 : decode cX11_penny 103 = .ok (.iload 5, 2) := by decide +kernel
theorem dX11_penny_119 : decode cX11_penny 119 = .ok (.iinc 6 1, 3) := by decide +kernel
theorem dX11_penny_122 : decode cX11_penny 122 = .ok (.goto (-48), 3) := by decide +kernel
theorem dX11_penny_105 : decode cX11_penny 105 = .ok (.if_icmp .gt 6, 3) := by decide +kernel
theorem dX11_penny_111 : decode cX11_penny 111 = .ok (.iload 7, 2) := by decide +kernel
theorem dX11_penny_113 : decode cX11_penny 113 = .ok (.istore 5, 2) := by decide +kernel
theorem dX11_penny_115 : decode cX11_penny 115 = .ok (.iload 6, 2) := by decide +kernel
theorem dX11_penny_117 : decode cX11_penny 117 = .ok (.istore 4, 2) := by decide +kernel
theorem dX11_penny_108 : decode cX11_penny 108 = .ok (.goto 11, 3) := by decide +kernel
theorem dX11_penny_29 : decode cX11_penny 29 = .ok (.iload_n 3, 1) := by decide +kernel
theorem dX11_penny_30 : decode cX11_penny 30 = .ok (.aload_n 0, 1) := by decide +kernel
theorem dX11_penny_31 : decode cX11_penny 31 = .ok (.iload_n 1, 1) := by decide +kernel
theorem dX11_penny_32 : decode cX11_penny 32 = .ok (.iload 4, 2) := by decide +kernel
theorem dX11_penny_34 : decode cX11_penny 34 = .ok (.invokevirtual 293, 3) := by decide +kernel
theorem dX11_penny_37 : decode cX11_penny 37 = .ok (.iconst (-1), 1) := by decide +kernel
theorem dX11_penny_46 : decode cX11_penny 46 = .ok (.iadd, 1) := by decide +kernel
theorem dX11_penny_47 : decode cX11_penny 47 = .ok (.istore_n 3, 1) := by decide +kernel
theorem dX11_penny_48 : decode cX11_penny 48 = .ok (.iinc 4 1, 3) := by decide +kernel
theorem dX11_penny_51 : decode cX11_penny 51 = .ok (.goto (-33), 3) := by decide +kernel
theorem dX11_penny_38 : decode cX11_penny 38 = .ok (.if_icmp .ne 7, 3) := by decide +kernel
theorem dX11_penny_45 : decode cX11_penny 45 = .ok (.iconst 1, 1) := by decide +kernel
theorem dX11_penny_41 : decode cX11_penny 41 = .ok (.iconst 0, 1) := by decide +kernel
theorem dX11_penny_42 : decode cX11_penny 42 = .ok (.goto 4, 3) := by decide +kernel
theorem dX11_penny_11 : decode cX11_penny 11 = .ok (.iload_n 2, 1) := by decide +kernel
theorem dX11_penny_12 : decode cX11_penny 12 = .ok (.ireturn, 1) := by decide +kernel
theorem dX11_hangs_0 : decode cX11_hangs 0 = .ok (.aload_n 0, 1) := by decide +kernel
theorem dX11_hangs_1 : decode cX11_hangs 1 = .ok (.iload_n 1, 1) := by decide +kernel
theorem dX11_hangs_2 : decode cX11_hangs 2 = .ok (.iconst 1, 1) := by decide +kernel
theorem dX11_hangs_3 : decode cX11_hangs 3 = .ok (.invokevirtual 303, 3) := by decide +kernel
theorem dX11_hangs_6 : decode cX11_hangs 6 = .ok (.istore_n 2, 1) := by decide +kernel
theorem dX11_hangs_7 : decode cX11_hangs 7 = .ok (.iload_n 2, 1) := by decide +kernel
theorem dX11_hangs_8 : decode cX11_hangs 8 = .ok (.ifCond .ge 5, 3) := by decide +kernel
theorem dX11_hangs_13 : decode cX11_hangs 13 = .ok (.aload_n 0, 1) := by decide +kernel
theorem dX11_hangs_14 : decode cX11_hangs 14 = .ok (.invokevirtual 278, 3) := by decide +kernel
theorem dX11_hangs_17 : decode cX11_hangs 17 = .ok (.iconst 0, 1) := by decide +kernel
theorem dX11_hangs_18 : decode cX11_hangs 18 = .ok (.istore_n 3, 1) := by decide +kernel
theorem dX11_hangs_19 : decode cX11_hangs 19 = .ok (.iload_n 3, 1) := by decide +kernel
theorem dX11_hangs_20 : decode cX11_hangs 20 = .ok (.aload_n 0, 1) := by decide +kernel
theorem dX11_hangs_21 : decode cX11_hangs 21 = .ok (.getfield 61, 3) := by decide +kernel
theorem dX11_hangs_24 : decode cX11_hangs 24 = .ok (.iload_n 1, 1) := by decide +kernel
theorem dX11_hangs_25 : decode cX11_hangs 25 = .ok (.iaload, 1) := by decide +kernel
theorem dX11_hangs_26 : decode cX11_hangs 26 = .ok (.if_icmp .ge 40, 3) := by decide +kernel
theorem dX11_hangs_66 : decode cX11_hangs 66 = .ok (.iconst (-1), 1) := by decide +kernel
theorem dX11_hangs_67 : decode cX11_hangs 67 = .ok (.ireturn, 1) := by decide +kernel
theorem dX11_hangs_29 : decode cX11_hangs 29 = .ok (.aload_n 0, 1) := by decide +kernel
theorem dX11_hangs_30 : decode cX11_hangs 30 = .ok (.aload_n 0, 1) := by decide +kernel
theorem dX11_hangs_31 : decode cX11_hangs 31 = .ok (.aload_n 0, 1) := by decide +kernel
theorem dX11_hangs_32 : decode cX11_hangs 32 = .ok (.iload_n 1, 1) := by decide +kernel
theorem dX11_hangs_33 : decode cX11_hangs 33 = .ok (.iload_n 3, 1) := by decide +kernel
theorem dX11_hangs_34 : decode cX11_hangs 34 = .ok (.invokevirtual 293, 3) := by decide +kernel
theorem dX11_hangs_37 : decode cX11_hangs 37 = .ok (.iconst 0, 1) := by decide +kernel
theorem dX11_hangs_38 : decode cX11_hangs 38 = .ok (.invokevirtual 264, 3) := by decide +kernel
theorem dX11_hangs_41 : decode cX11_hangs 41 = .ok (.invokevirtual 300, 3) := by decide +kernel
theorem dX11_hangs_44 : decode cX11_hangs 44 = .ok (.aload_n 0, 1) := by decide +kernel
theorem dX11_hangs_45 : decode cX11_hangs 45 = .ok (.getfield 9, 3) := by decide +kernel
theorem dX11_hangs_48 : decode cX11_hangs 48 = .ok (.iconst 3, 1) := by decide +kernel
theorem dX11_hangs_49 : decode cX11_hangs 49 = .ok (.iaload, 1) := by decide +kernel
theorem dX11_hangs_50 : decode cX11_hangs 50 = .ok (.if_icmp .ge 5, 3) := by decide +kernel
theorem dX11_hangs_55 : decode cX11_hangs 55 = .ok (.aload_n 0, 1) := by decide +kernel
theorem dX11_hangs_56 : decode cX11_hangs 56 = .ok (.iconst (-1), 1) := by decide +kernel
theorem dX11_hangs_57 : decode cX11_hangs 57 = .ok (.invokevirtual 267, 3) := by decide +kernel
theorem dX11_hangs_60 : decode cX11_hangs 60 = .ok (.iinc 3 1, 3) := by decide +kernel
theorem dX11_hangs_63 : decode cX11_hangs 63 = .ok (.goto (-44), 3) := by decide +kernel
theorem dX11_hangs_53 : decode cX11_hangs 53 = .ok (.iload_n 3, 1) := by decide +kernel
theorem dX11_hangs_54 : decode cX11_hangs 54 = .ok (.ireturn, 1) := by decide +kernel
theorem dX11_hangs_11 : decode cX11_hangs 11 = .ok (.iload_n 2, 1) := by decide +kernel
theorem dX11_hangs_12 : decode cX11_hangs 12 = .ok (.ireturn, 1) := by decide +kernel
theorem dX11_slips_0 : decode cX11_slips 0 = .ok (.aload_n 0, 1) := by decide +kernel
theorem dX11_slips_1 : decode cX11_slips 1 = .ok (.iload_n 1, 1) := by decide +kernel
theorem dX11_slips_2 : decode cX11_slips 2 = .ok (.aload_n 0, 1) := by decide +kernel
theorem dX11_slips_3 : decode cX11_slips 3 = .ok (.iload_n 2, 1) := by decide +kernel
theorem dX11_slips_4 : decode cX11_slips 4 = .ok (.i2l, 1) := by decide +kernel
theorem dX11_slips_5 : decode cX11_slips 5 = .ok (.invokevirtual 89, 3) := by decide +kernel
theorem dX11_slips_8 : decode cX11_slips 8 = .ok (.invokevirtual 303, 3) := by decide +kernel
theorem dX11_slips_11 : decode cX11_slips 11 = .ok (.istore_n 3, 1) := by decide +kernel
theorem dX11_slips_12 : decode cX11_slips 12 = .ok (.iload_n 3, 1) := by decide +kernel
theorem dX11_slips_13 : decode cX11_slips 13 = .ok (.ifCond .ge 5, 3) := by decide +kernel
theorem dX11_slips_18 : decode cX11_slips 18 = .ok (.aload_n 0, 1) := by decide +kernel
theorem dX11_slips_19 : decode cX11_slips 19 = .ok (.iload_n 1, 1) := by decide +kernel
theorem dX11_slips_20 : decode cX11_slips 20 = .ok (.iload_n 2, 1) := by decide +kernel
theorem dX11_slips_21 : decode cX11_slips 21 = .ok (.invokevirtual 316, 3) := by decide +kernel
theorem dX11_slips_24 : decode cX11_slips 24 = .ok (.ifCond .ne 6, 3) := by decide +kernel
theorem dX11_slips_30 : decode cX11_slips 30 = .ok (.aload_n 0, 1) := by decide +kernel
theorem dX11_slips_31 : decode cX11_slips 31 = .ok (.invokevirtual 337, 3) := by decide +kernel
theorem dX11_slips_34 : decode cX11_slips 34 = .ok (.iconst 1, 1) := by decide +kernel
theorem dX11_slips_35 : decode cX11_slips 35 = .ok (.iload_n 2, 1) := by decide +kernel
theorem dX11_slips_36 : decode cX11_slips 36 = .ok (.ishl, 1) := by decide +kernel
theorem dX11_slips_37 : decode cX11_slips 37 = .ok (.iconst (-1), 1) := by decide +kernel
theorem dX11_slips_38 : decode cX11_slips 38 = .ok (.ixor, 1) := by decide +kernel
theorem dX11_slips_39 : decode cX11_slips 39 = .ok (.iand, 1) := by decide +kernel
theorem dX11_slips_40 : decode cX11_slips 40 = .ok (.istore 4, 2) := by decide +kernel
theorem dX11_slips_42 : decode cX11_slips 42 = .ok (.iload_n 2, 1) := by decide +kernel
theorem dX11_slips_43 : decode cX11_slips 43 = .ok (.istore 5, 2) := by decide +kernel
theorem dX11_slips_45 : decode cX11_slips 45 = .ok (.iconst 0, 1) := by decide +kernel
theorem dX11_slips_46 : decode cX11_slips 46 = .ok (.istore 6, 2) := by decide +kernel
theorem dX11_slips_48 : decode cX11_slips 48 = .ok (.iload 6, 2) := by decide +kernel
theorem dX11_slips_50 : decode cX11_slips 50 = .ok (.aload_n 0, 1) := by decide +kernel
theorem dX11_slips_51 : decode cX11_slips 51 = .ok (.getfield 61, 3) := by decide +kernel
theorem dX11_slips_54 : decode cX11_slips 54 = .ok (.iload_n 1, 1) := by decide +kernel
theorem dX11_slips_55 : decode cX11_slips 55 = .ok (.iaload, 1) := by decide +kernel
theorem dX11_slips_56 : decode cX11_slips 56 = .ok (.if_icmp .ge 49, 3) := by decide +kernel
theorem dX11_slips_105 : decode cX11_slips 105 = .ok (.iload 4, 2) := by decide +kernel
theorem dX11_slips_107 : decode cX11_slips 107 = .ok (.ireturn, 1) := by decide +kernel
theorem dX11_slips_59 : decode cX11_slips 59 = .ok (.aload_n 0, 1) := by decide +kernel
theorem dX11_slips_60 : decode cX11_slips 60 = .ok (.iload_n 1, 1) := by decide +kernel
theorem dX11_slips_61 : decode cX11_slips 61 = .ok (.iload 6, 2) := by decide +kernel
theorem dX11_slips_63 : decode cX11_slips 63 = .ok (.invokevirtual 293, 3) := by decide +kernel
theorem dX11_slips_66 : decode cX11_slips 66 = .ok (.iconst (-1), 1) := by decide +kernel
theorem dX11_slips_82 : decode cX11_slips 82 = .ok (.istore 5, 2) := by decide +kernel
theorem dX11_slips_84 : decode cX11_slips 84 = .ok (.aload_n 0, 1) := by decide +kernel
theorem dX11_slips_85 : decode cX11_slips 85 = .ok (.iload 4, 2) := by decide +kernel
theorem dX11_slips_87 : decode cX11_slips 87 = .ok (.invokevirtual 330, 3) := by decide +kernel
theorem dX11_slips_90 : decode cX11_slips 90 = .ok (.iconst 1, 1) := by decide +kernel
theorem dX11_slips_91 : decode cX11_slips 91 = .ok (.iload 5, 2) := by decide +kernel
theorem dX11_slips_93 : decode cX11_slips 93 = .ok (.ishl, 1) := by decide +kernel
theorem dX11_slips_94 : decode cX11_slips 94 = .ok (.iconst (-1), 1) := by decide +kernel
theorem dX11_slips_95 : decode cX11_slips 95 = .ok (.ixor, 1) := by decide +kernel
theorem dX11_slips_96 : decode cX11_slips 96 = .ok (.iand, 1) := by decide +kernel
theorem dX11_slips_97 : decode cX11_slips 97 = .ok (.istore 4, 2) := by decide +kernel
theorem dX11_slips_99 : decode cX11_slips 99 = .ok (.iinc 6 1, 3) := by decide +kernel
theorem dX11_slips_102 : decode cX11_slips 102 = .ok (.goto (-54), 3) := by decide +kernel
theorem dX11_slips_67 : decode cX11_slips 67 = .ok (.if_icmp .ne 8, 3) := by decide +kernel
theorem dX11_slips_75 : decode cX11_slips 75 = .ok (.aload_n 0, 1) := by decide +kernel
theorem dX11_slips_76 : decode cX11_slips 76 = .ok (.iload_n 1, 1) := by decide +kernel
theorem dX11_slips_77 : decode cX11_slips 77 = .ok (.iload 6, 2) := by decide +kernel
theorem dX11_slips_79 : decode cX11_slips 79 = .ok (.invokevirtual 293, 3) := by decide +kernel
theorem dX11_slips_70 : decode cX11_slips 70 = .ok (.iload 5, 2) := by decide +kernel
theorem dX11_slips_72 : decode cX11_slips 72 = .ok (.goto 10, 3) := by decide +kernel
theorem dX11_slips_27 : decode cX11_slips 27 = .ok (.bipush (-5), 2) := by decide +kernel
theorem dX11_slips_29 : decode cX11_slips 29 = .ok (.ireturn, 1) := by decide +kernel
theorem dX11_slips_16 : decode cX11_slips 16 = .ok (.iload_n 3, 1) := by decide +kernel
theorem dX11_slips_17 : decode cX11_slips 17 = .ok (.ireturn, 1) := by decide +kernel
theorem dX11_boys_0 : decode cX11_boys 0 = .ok (.aload_n 0, 1) := by decide +kernel
theorem dX11_boys_1 : decode cX11_boys 1 = .ok (.getfield 9, 3) := by decide +kernel
theorem dX11_boys_4 : decode cX11_boys 4 = .ok (.iconst 4, 1) := by decide +kernel
theorem dX11_boys_5 : decode cX11_boys 5 = .ok (.iaload, 1) := by decide +kernel
theorem dX11_boys_6 : decode cX11_boys 6 = .ok (.ifCond .ne 6, 3) := by decide +kernel
theorem dX11_boys_12 : decode cX11_boys 12 = .ok (.iconst 0, 1) := by decide +kernel
theorem dX11_boys_13 : decode cX11_boys 13 = .ok (.istore_n 1, 1) := by decide +kernel
theorem dX11_boys_14 : decode cX11_boys 14 = .ok (.iload_n 1, 1) := by decide +kernel
theorem dX11_boys_15 : decode cX11_boys 15 = .ok (.aload_n 0, 1) := by decide +kernel
theorem dX11_boys_16 : decode cX11_boys 16 = .ok (.getfield 9, 3) := by decide +kernel
theorem dX11_boys_19 : decode cX11_boys 19 = .ok (.iconst 4, 1) := by decide +kernel
theorem dX11_boys_20 : decode cX11_boys 20 = .ok (.iaload, 1) := by decide +kernel
theorem dX11_boys_21 : decode cX11_boys 21 = .ok (.if_icmp .ge 22, 3) := by decide +kernel
theorem dX11_boys_43 : decode cX11_boys 43 = .ok (.aload_n 0, 1) := by decide +kernel
theorem dX11_boys_44 : decode cX11_boys 44 = .ok (.invokevirtual 363, 3) := by decide +kernel
theorem dX11_boys_47 : decode cX11_boys 47 = .ok (.ifCond .le 7, 3) := by decide +kernel
theorem dX11_boys_54 : decode cX11_boys 54 = .ok (.iconst 3, 1) := by decide +kernel
theorem dX11_boys_55 : decode cX11_boys 55 = .ok (.ireturn, 1) := by decide +kernel
theorem dX11_boys_50 : decode cX11_boys 50 = .ok (.iconst 2, 1) := by decide +kernel
theorem dX11_boys_51 : decode cX11_boys 51 = .ok (.goto 4, 3) := by decide +kernel
theorem dX11_boys_24 : decode cX11_boys 24 = .ok (.aload_n 0, 1) := by decide +kernel
theorem dX11_boys_25 : decode cX11_boys 25 = .ok (.iload_n 1, 1) := by decide +kernel
theorem dX11_boys_26 : decode cX11_boys 26 = .ok (.iload_n 1, 1) := by decide +kernel
theorem dX11_boys_27 : decode cX11_boys 27 = .ok (.iconst 1, 1) := by decide +kernel
theorem dX11_boys_28 : decode cX11_boys 28 = .ok (.invokevirtual 356, 3) := by decide +kernel
theorem dX11_boys_31 : decode cX11_boys 31 = .ok (.iconst (-1), 1) := by decide +kernel
theorem dX11_boys_32 : decode cX11_boys 32 = .ok (.if_icmp .eq 5, 3) := by decide +kernel
theorem dX11_boys_37 : decode cX11_boys 37 = .ok (.iinc 1 1, 3) := by decide +kernel
theorem dX11_boys_40 : decode cX11_boys 40 = .ok (.goto (-26), 3) := by decide +kernel
theorem dX11_boys_35 : decode cX11_boys 35 = .ok (.iconst 1, 1) := by decide +kernel
theorem dX11_boys_36 : decode cX11_boys 36 = .ok (.ireturn, 1) := by decide +kernel
theorem dX11_boys_9 : decode cX11_boys 9 = .ok (.bipush (-2), 2) := by decide +kernel
theorem dX11_boys_11 : decode cX11_boys 11 = .ok (.ireturn, 1) := by decide +kernel
theorem dX11_asksHabit_0 : decode cX11_asksHabit 0 = .ok (.iload_n 1, 1) := by decide +kernel
theorem dX11_asksHabit_1 : decode cX11_asksHabit 1 = .ok (.invokestatic 290, 3) := by decide +kernel
theorem dX11_asksHabit_4 : decode cX11_asksHabit 4 = .ok (.ifCond .eq 14, 3) := by decide +kernel
theorem dX11_asksHabit_18 : decode cX11_asksHabit 18 = .ok (.bipush (-2), 2) := by decide +kernel
theorem dX11_asksHabit_20 : decode cX11_asksHabit 20 = .ok (.ireturn, 1) := by decide +kernel
theorem dX11_asksHabit_7 : decode cX11_asksHabit 7 = .ok (.aload_n 0, 1) := by decide +kernel
theorem dX11_asksHabit_8 : decode cX11_asksHabit 8 = .ok (.invokevirtual 83, 3) := by decide +kernel
theorem dX11_asksHabit_11 : decode cX11_asksHabit 11 = .ok (.ifCond .eq 7, 3) := by decide +kernel
theorem dX11_asksHabit_14 : decode cX11_asksHabit 14 = .ok (.iload_n 2, 1) := by decide +kernel
theorem dX11_asksHabit_15 : decode cX11_asksHabit 15 = .ok (.ifCond .ne 6, 3) := by decide +kernel
theorem dX11_asksHabit_21 : decode cX11_asksHabit 21 = .ok (.aload_n 0, 1) := by decide +kernel
theorem dX11_asksHabit_22 : decode cX11_asksHabit 22 = .ok (.getfield 61, 3) := by decide +kernel
theorem dX11_asksHabit_25 : decode cX11_asksHabit 25 = .ok (.iload_n 1, 1) := by decide +kernel
theorem dX11_asksHabit_26 : decode cX11_asksHabit 26 = .ok (.iaload, 1) := by decide +kernel
theorem dX11_asksHabit_27 : decode cX11_asksHabit 27 = .ok (.iconst (-1), 1) := by decide +kernel
theorem dX11_asksHabit_28 : decode cX11_asksHabit 28 = .ok (.if_icmp .ne 6, 3) := by decide +kernel
theorem dX11_asksHabit_34 : decode cX11_asksHabit 34 = .ok (.iconst 0, 1) := by decide +kernel
theorem dX11_asksHabit_35 : decode cX11_asksHabit 35 = .ok (.istore_n 3, 1) := by decide +kernel
theorem dX11_asksHabit_36 : decode cX11_asksHabit 36 = .ok (.iload_n 3, 1) := by decide +kernel
theorem dX11_asksHabit_37 : decode cX11_asksHabit 37 = .ok (.aload_n 0, 1) := by decide +kernel
theorem dX11_asksHabit_38 : decode cX11_asksHabit 38 = .ok (.getfield 61, 3) := by decide +kernel
theorem dX11_asksHabit_41 : decode cX11_asksHabit 41 = .ok (.iload_n 1, 1) := by decide +kernel
theorem dX11_asksHabit_42 : decode cX11_asksHabit 42 = .ok (.iaload, 1) := by decide +kernel
theorem dX11_asksHabit_43 : decode cX11_asksHabit 43 = .ok (.if_icmp .ge 25, 3) := by decide +kernel
theorem dX11_asksHabit_68 : decode cX11_asksHabit 68 = .ok (.iconst 0, 1) := by decide +kernel
theorem dX11_asksHabit_69 : decode cX11_asksHabit 69 = .ok (.ireturn, 1) := by decide +kernel
theorem dX11_asksHabit_46 : decode cX11_asksHabit 46 = .ok (.aload_n 0, 1) := by decide +kernel
theorem dX11_asksHabit_47 : decode cX11_asksHabit 47 = .ok (.aload_n 0, 1) := by decide +kernel
theorem dX11_asksHabit_48 : decode cX11_asksHabit 48 = .ok (.iload_n 1, 1) := by decide +kernel
theorem dX11_asksHabit_49 : decode cX11_asksHabit 49 = .ok (.iload_n 3, 1) := by decide +kernel
theorem dX11_asksHabit_50 : decode cX11_asksHabit 50 = .ok (.invokevirtual 286, 3) := by decide +kernel
theorem dX11_asksHabit_53 : decode cX11_asksHabit 53 = .ok (.invokevirtual 89, 3) := by decide +kernel
theorem dX11_asksHabit_56 : decode cX11_asksHabit 56 = .ok (.ifCond .ne 6, 3) := by decide +kernel
theorem dX11_asksHabit_62 : decode cX11_asksHabit 62 = .ok (.iinc 3 1, 3) := by decide +kernel
theorem dX11_asksHabit_65 : decode cX11_asksHabit 65 = .ok (.goto (-29), 3) := by decide +kernel
theorem dX11_asksHabit_59 : decode cX11_asksHabit 59 = .ok (.bipush (-2), 2) := by decide +kernel
theorem dX11_asksHabit_61 : decode cX11_asksHabit 61 = .ok (.ireturn, 1) := by decide +kernel
theorem dX11_asksHabit_31 : decode cX11_asksHabit 31 = .ok (.bipush (-6), 2) := by decide +kernel
theorem dX11_asksHabit_33 : decode cX11_asksHabit 33 = .ok (.ireturn, 1) := by decide +kernel
theorem dX11_habit_0 : decode cX11_habit 0 = .ok (.aload_n 0, 1) := by decide +kernel
theorem dX11_habit_1 : decode cX11_habit 1 = .ok (.iload_n 1, 1) := by decide +kernel
theorem dX11_habit_2 : decode cX11_habit 2 = .ok (.iconst 1, 1) := by decide +kernel
theorem dX11_habit_3 : decode cX11_habit 3 = .ok (.invokevirtual 406, 3) := by decide +kernel
theorem dX11_habit_6 : decode cX11_habit 6 = .ok (.istore_n 2, 1) := by decide +kernel
theorem dX11_habit_7 : decode cX11_habit 7 = .ok (.iload_n 2, 1) := by decide +kernel
theorem dX11_habit_8 : decode cX11_habit 8 = .ok (.ifCond .ge 7, 3) := by decide +kernel
theorem dX11_habit_15 : decode cX11_habit 15 = .ok (.aload_n 0, 1) := by decide +kernel
theorem dX11_habit_16 : decode cX11_habit 16 = .ok (.iload_n 1, 1) := by decide +kernel
theorem dX11_habit_17 : decode cX11_habit 17 = .ok (.iconst (-1), 1) := by decide +kernel
theorem dX11_habit_18 : decode cX11_habit 18 = .ok (.invokevirtual 409, 3) := by decide +kernel
theorem dX11_habit_21 : decode cX11_habit 21 = .ok (.ireturn, 1) := by decide +kernel
theorem dX11_habit_11 : decode cX11_habit 11 = .ok (.iload_n 2, 1) := by decide +kernel
theorem dX11_habit_12 : decode cX11_habit 12 = .ok (.goto 9, 3) := by decide +kernel
theorem dX11_follows_0 : decode cX11_follows 0 = .ok (.aload_n 0, 1) := by decide +kernel
theorem dX11_follows_1 : decode cX11_follows 1 = .ok (.iload_n 1, 1) := by decide +kernel
theorem dX11_follows_2 : decode cX11_follows 2 = .ok (.aload_n 0, 1) := by decide +kernel
theorem dX11_follows_3 : decode cX11_follows 3 = .ok (.iload_n 2, 1) := by decide +kernel
theorem dX11_follows_4 : decode cX11_follows 4 = .ok (.i2l, 1) := by decide +kernel
theorem dX11_follows_5 : decode cX11_follows 5 = .ok (.invokevirtual 89, 3) := by decide +kernel
theorem dX11_follows_8 : decode cX11_follows 8 = .ok (.invokevirtual 406, 3) := by decide +kernel
theorem dX11_follows_11 : decode cX11_follows 11 = .ok (.istore_n 3, 1) := by decide +kernel
theorem dX11_follows_12 : decode cX11_follows 12 = .ok (.iload_n 3, 1) := by decide +kernel
theorem dX11_follows_13 : decode cX11_follows 13 = .ok (.ifCond .ge 7, 3) := by decide +kernel
theorem dX11_follows_20 : decode cX11_follows 20 = .ok (.aload_n 0, 1) := by decide +kernel
theorem dX11_follows_21 : decode cX11_follows 21 = .ok (.iload_n 1, 1) := by decide +kernel
theorem dX11_follows_22 : decode cX11_follows 22 = .ok (.iload_n 2, 1) := by decide +kernel
theorem dX11_follows_23 : decode cX11_follows 23 = .ok (.invokevirtual 409, 3) := by decide +kernel
theorem dX11_follows_26 : decode cX11_follows 26 = .ok (.ireturn, 1) := by decide +kernel
theorem dX11_follows_16 : decode cX11_follows 16 = .ok (.iload_n 3, 1) := by decide +kernel
theorem dX11_follows_17 : decode cX11_follows 17 = .ok (.goto 9, 3) := by decide +kernel
theorem dX11_period_0 : decode cX11_period 0 = .ok (.aload_n 0, 1) := by decide +kernel
theorem dX11_period_1 : decode cX11_period 1 = .ok (.iload_n 1, 1) := by decide +kernel
theorem dX11_period_2 : decode cX11_period 2 = .ok (.iconst 1, 1) := by decide +kernel
theorem dX11_period_3 : decode cX11_period 3 = .ok (.invokevirtual 406, 3) := by decide +kernel
theorem dX11_period_6 : decode cX11_period 6 = .ok (.istore_n 2, 1) := by decide +kernel
theorem dX11_period_7 : decode cX11_period 7 = .ok (.iload_n 2, 1) := by decide +kernel
theorem dX11_period_8 : decode cX11_period 8 = .ok (.ifCond .ge 5, 3) := by decide +kernel
theorem dX11_period_13 : decode cX11_period 13 = .ok (.iconst 1, 1) := by decide +kernel
theorem dX11_period_14 : decode cX11_period 14 = .ok (.istore_n 3, 1) := by decide +kernel
theorem dX11_period_15 : decode cX11_period 15 = .ok (.iload_n 3, 1) := by decide +kernel
theorem dX11_period_16 : decode cX11_period 16 = .ok (.aload_n 0, 1) := by decide +kernel
theorem dX11_period_17 : decode cX11_period 17 = .ok (.getfield 61, 3) := by decide +kernel
theorem dX11_period_20 : decode cX11_period 20 = .ok (.iload_n 1, 1) := by decide +kernel
theorem dX11_period_21 : decode cX11_period 21 = .ok (.iaload, 1) := by decide +kernel
theorem dX11_period_22 : decode cX11_period 22 = .ok (.if_icmp .gt 70, 3) := by decide +kernel
theorem dX11_period_92 : decode cX11_period 92 = .ok (.iconst (-1), 1) := by decide +kernel
theorem dX11_period_93 : decode cX11_period 93 = .ok (.ireturn, 1) := by decide +kernel
theorem dX11_period_25 : decode cX11_period 25 = .ok (.iconst 1, 1) := by decide +kernel
theorem dX11_period_26 : decode cX11_period 26 = .ok (.istore 4, 2) := by decide +kernel
theorem dX11_period_28 : decode cX11_period 28 = .ok (.iload_n 3, 1) := by decide +kernel
theorem dX11_period_29 : decode cX11_period 29 = .ok (.istore 5, 2) := by decide +kernel
theorem dX11_period_31 : decode cX11_period 31 = .ok (.iload 5, 2) := by decide +kernel
theorem dX11_period_33 : decode cX11_period 33 = .ok (.aload_n 0, 1) := by decide +kernel
theorem dX11_period_34 : decode cX11_period 34 = .ok (.getfield 61, 3) := by decide +kernel
theorem dX11_period_37 : decode cX11_period 37 = .ok (.iload_n 1, 1) := by decide +kernel
theorem dX11_period_38 : decode cX11_period 38 = .ok (.iaload, 1) := by decide +kernel
theorem dX11_period_79 : decode cX11_period 79 = .ok (.iload 4, 2) := by decide +kernel
theorem dX11_period_81 : decode cX11_period 81 = .ok (.ifCond .eq 5, 3) := by decide +kernel
theorem dX11_period_86 : decode cX11_period 86 = .ok (.iinc 3 1, 3) := by decide +kernel
theorem dX11_period_89 : decode cX11_period 89 = .ok (.goto (-74), 3) := by decide +kernel
theorem dX11_period_84 : decode cX11_period 84 = .ok (.iload_n 3, 1) := by decide +kernel
theorem dX11_period_85 : decode cX11_period 85 = .ok (.ireturn, 1) := by decide +kernel
theorem dX11_period_39 : decode cX11_period 39 = .ok (.if_icmp .ge 40, 3) := by decide +kernel
theorem dX11_period_42 : decode cX11_period 42 = .ok (.iload 4, 2) := by decide +kernel
theorem dX11_period_44 : decode cX11_period 44 = .ok (.ifCond .eq 35, 3) := by decide +kernel
theorem dX11_period_47 : decode cX11_period 47 = .ok (.aload_n 0, 1) := by decide +kernel
theorem dX11_period_48 : decode cX11_period 48 = .ok (.iload_n 1, 1) := by decide +kernel
theorem dX11_period_49 : decode cX11_period 49 = .ok (.iload 5, 2) := by decide +kernel
theorem dX11_period_51 : decode cX11_period 51 = .ok (.invokevirtual 293, 3) := by decide +kernel
theorem dX11_period_54 : decode cX11_period 54 = .ok (.aload_n 0, 1) := by decide +kernel
theorem dX11_period_55 : decode cX11_period 55 = .ok (.iload_n 1, 1) := by decide +kernel
theorem dX11_period_56 : decode cX11_period 56 = .ok (.iload 5, 2) := by decide +kernel
theorem dX11_period_58 : decode cX11_period 58 = .ok (.iload_n 3, 1) := by decide +kernel
theorem dX11_period_59 : decode cX11_period 59 = .ok (.isub, 1) := by decide +kernel
theorem dX11_period_60 : decode cX11_period 60 = .ok (.invokevirtual 293, 3) := by decide +kernel
theorem dX11_period_71 : decode cX11_period 71 = .ok (.istore 4, 2) := by decide +kernel
theorem dX11_period_73 : decode cX11_period 73 = .ok (.iinc 5 1, 3) := by decide +kernel
theorem dX11_period_76 : decode cX11_period 76 = .ok (.goto (-45), 3) := by decide +kernel
theorem dX11_period_63 : decode cX11_period 63 = .ok (.if_icmp .ne 7, 3) := by decide +kernel
theorem dX11_period_70 : decode cX11_period 70 = .ok (.iconst 0, 1) := by decide +kernel
theorem dX11_period_66 : decode cX11_period 66 = .ok (.iconst 1, 1) := by decide +kernel
theorem dX11_period_67 : decode cX11_period 67 = .ok (.goto 4, 3) := by decide +kernel
theorem dX11_period_11 : decode cX11_period 11 = .ok (.iload_n 2, 1) := by decide +kernel
theorem dX11_period_12 : decode cX11_period 12 = .ok (.ireturn, 1) := by decide +kernel
theorem dX11_drawn_0 : decode cX11_drawn 0 = .ok (.aload_n 0, 1) := by decide +kernel
theorem dX11_drawn_1 : decode cX11_drawn 1 = .ok (.iload_n 2, 1) := by decide +kernel
theorem dX11_drawn_2 : decode cX11_drawn 2 = .ok (.iload_n 1, 1) := by decide +kernel
theorem dX11_drawn_3 : decode cX11_drawn 3 = .ok (.invokestatic 441, 3) := by decide +kernel
theorem dX11_drawn_24 : decode cX11_drawn 24 = .ok (.invokevirtual 303, 3) := by decide +kernel
theorem dX11_drawn_27 : decode cX11_drawn 27 = .ok (.istore 4, 2) := by decide +kernel
theorem dX11_drawn_29 : decode cX11_drawn 29 = .ok (.iload 4, 2) := by decide +kernel
theorem dX11_drawn_31 : decode cX11_drawn 31 = .ok (.ifCond .ge 6, 3) := by decide +kernel
theorem dX11_drawn_37 : decode cX11_drawn 37 = .ok (.aload_n 0, 1) := by decide +kernel
theorem dX11_drawn_38 : decode cX11_drawn 38 = .ok (.iload_n 1, 1) := by decide +kernel
theorem dX11_drawn_39 : decode cX11_drawn 39 = .ok (.i2l, 1) := by decide +kernel
theorem dX11_drawn_40 : decode cX11_drawn 40 = .ok (.iload_n 2, 1) := by decide +kernel
theorem dX11_drawn_41 : decode cX11_drawn 41 = .ok (.invokevirtual 444, 3) := by decide +kernel
theorem dX11_drawn_44 : decode cX11_drawn 44 = .ok (.iload_n 3, 1) := by decide +kernel
theorem dX11_drawn_45 : decode cX11_drawn 45 = .ok (.ifCond .ne 10, 3) := by decide +kernel
theorem dX11_drawn_55 : decode cX11_drawn 55 = .ok (.aload_n 0, 1) := by decide +kernel
theorem dX11_drawn_56 : decode cX11_drawn 56 = .ok (.getfield 433, 3) := by decide +kernel
theorem dX11_drawn_59 : decode cX11_drawn 59 = .ok (.ireturn, 1) := by decide +kernel
theorem dX11_drawn_48 : decode cX11_drawn 48 = .ok (.aload_n 0, 1) := by decide +kernel
theorem dX11_drawn_49 : decode cX11_drawn 49 = .ok (.getfield 427, 3) := by decide +kernel
theorem dX11_drawn_52 : decode cX11_drawn 52 = .ok (.goto 7, 3) := by decide +kernel
theorem dX11_drawn_34 : decode cX11_drawn 34 = .ok (.iload 4, 2) := by decide +kernel
theorem dX11_drawn_36 : decode cX11_drawn 36 = .ok (.ireturn, 1) := by decide +kernel
theorem dX11_drawn_23 : decode cX11_drawn 23 = .ok (.iconst 0, 1) := by decide +kernel
theorem dX11_drawn_6 : decode cX11_drawn 6 = .ok (.ifCond .eq 17, 3) := by decide +kernel
theorem dX11_drawn_9 : decode cX11_drawn 9 = .ok (.iload_n 3, 1) := by decide +kernel
theorem dX11_drawn_10 : decode cX11_drawn 10 = .ok (.i2l, 1) := by decide +kernel
theorem dX11_drawn_11 : decode cX11_drawn 11 = .ok (.lconst 0, 1) := by decide +kernel
theorem dX11_drawn_12 : decode cX11_drawn 12 = .ok (.lconst 1, 1) := by decide +kernel
theorem dX11_drawn_13 : decode cX11_drawn 13 = .ok (.invokestatic 79, 3) := by decide +kernel
theorem dX11_drawn_16 : decode cX11_drawn 16 = .ok (.ifCond .eq 7, 3) := by decide +kernel
theorem dX11_drawn_19 : decode cX11_drawn 19 = .ok (.iconst 1, 1) := by decide +kernel
theorem dX11_drawn_20 : decode cX11_drawn 20 = .ok (.goto 4, 3) := by decide +kernel
theorem dX11_lot_0 : decode cX11_lot 0 = .ok (.aload_n 0, 1) := by decide +kernel
theorem dX11_lot_1 : decode cX11_lot 1 = .ok (.iload_n 2, 1) := by decide +kernel
theorem dX11_lot_2 : decode cX11_lot 2 = .ok (.iload_n 1, 1) := by decide +kernel
theorem dX11_lot_3 : decode cX11_lot 3 = .ok (.invokestatic 441, 3) := by decide +kernel
theorem dX11_lot_26 : decode cX11_lot 26 = .ok (.invokevirtual 303, 3) := by decide +kernel
theorem dX11_lot_29 : decode cX11_lot 29 = .ok (.istore 4, 2) := by decide +kernel
theorem dX11_lot_31 : decode cX11_lot 31 = .ok (.iload 4, 2) := by decide +kernel
theorem dX11_lot_33 : decode cX11_lot 33 = .ok (.ifCond .ge 6, 3) := by decide +kernel
theorem dX11_lot_39 : decode cX11_lot 39 = .ok (.iconst 0, 1) := by decide +kernel
theorem dX11_lot_40 : decode cX11_lot 40 = .ok (.istore 5, 2) := by decide +kernel
theorem dX11_lot_42 : decode cX11_lot 42 = .ok (.iconst 0, 1) := by decide +kernel
theorem dX11_lot_43 : decode cX11_lot 43 = .ok (.istore 6, 2) := by decide +kernel
theorem dX11_lot_45 : decode cX11_lot 45 = .ok (.iload 6, 2) := by decide +kernel
theorem dX11_lot_47 : decode cX11_lot 47 = .ok (.iload_n 3, 1) := by decide +kernel
theorem dX11_lot_48 : decode cX11_lot 48 = .ok (.if_icmp .ge 38, 3) := by decide +kernel
theorem dX11_lot_86 : decode cX11_lot 86 = .ok (.iload 5, 2) := by decide +kernel
theorem dX11_lot_88 : decode cX11_lot 88 = .ok (.ireturn, 1) := by decide +kernel
theorem dX11_lot_51 : decode cX11_lot 51 = .ok (.aload_n 0, 1) := by decide +kernel
theorem dX11_lot_52 : decode cX11_lot 52 = .ok (.iload_n 1, 1) := by decide +kernel
theorem dX11_lot_53 : decode cX11_lot 53 = .ok (.i2l, 1) := by decide +kernel
theorem dX11_lot_54 : decode cX11_lot 54 = .ok (.iload 6, 2) := by decide +kernel
theorem dX11_lot_56 : decode cX11_lot 56 = .ok (.i2l, 1) := by decide +kernel
theorem dX11_lot_57 : decode cX11_lot 57 = .ok (.ladd, 1) := by decide +kernel
theorem dX11_lot_58 : decode cX11_lot 58 = .ok (.iload_n 2, 1) := by decide +kernel
theorem dX11_lot_59 : decode cX11_lot 59 = .ok (.invokevirtual 444, 3) := by decide +kernel
theorem dX11_lot_62 : decode cX11_lot 62 = .ok (.iload 5, 2) := by decide +kernel
theorem dX11_lot_64 : decode cX11_lot 64 = .ok (.aload_n 0, 1) := by decide +kernel
theorem dX11_lot_65 : decode cX11_lot 65 = .ok (.getfield 427, 3) := by decide +kernel
theorem dX11_lot_68 : decode cX11_lot 68 = .ok (.iconst (-1), 1) := by decide +kernel
theorem dX11_lot_77 : decode cX11_lot 77 = .ok (.iadd, 1) := by decide +kernel
theorem dX11_lot_78 : decode cX11_lot 78 = .ok (.istore 5, 2) := by decide +kernel
theorem dX11_lot_80 : decode cX11_lot 80 = .ok (.iinc 6 1, 3) := by decide +kernel
theorem dX11_lot_83 : decode cX11_lot 83 = .ok (.goto (-38), 3) := by decide +kernel
theorem dX11_lot_69 : decode cX11_lot 69 = .ok (.if_icmp .ne 7, 3) := by decide +kernel
theorem dX11_lot_76 : decode cX11_lot 76 = .ok (.iconst 1, 1) := by decide +kernel
theorem dX11_lot_72 : decode cX11_lot 72 = .ok (.iconst 0, 1) := by decide +kernel
theorem dX11_lot_73 : decode cX11_lot 73 = .ok (.goto 4, 3) := by decide +kernel
theorem dX11_lot_36 : decode cX11_lot 36 = .ok (.iload 4, 2) := by decide +kernel
theorem dX11_lot_38 : decode cX11_lot 38 = .ok (.ireturn, 1) := by decide +kernel
theorem dX11_lot_25 : decode cX11_lot 25 = .ok (.iconst 0, 1) := by decide +kernel
theorem dX11_lot_6 : decode cX11_lot 6 = .ok (.ifCond .eq 19, 3) := by decide +kernel
theorem dX11_lot_9 : decode cX11_lot 9 = .ok (.iload_n 3, 1) := by decide +kernel
theorem dX11_lot_10 : decode cX11_lot 10 = .ok (.i2l, 1) := by decide +kernel
theorem dX11_lot_11 : decode cX11_lot 11 = .ok (.lconst 1, 1) := by decide +kernel
theorem dX11_lot_12 : decode cX11_lot 12 = .ok (.ldc2_w 448, 3) := by decide +kernel
theorem dX11_lot_15 : decode cX11_lot 15 = .ok (.invokestatic 79, 3) := by decide +kernel
theorem dX11_lot_18 : decode cX11_lot 18 = .ok (.ifCond .eq 7, 3) := by decide +kernel
theorem dX11_lot_21 : decode cX11_lot 21 = .ok (.iconst 1, 1) := by decide +kernel
theorem dX11_lot_22 : decode cX11_lot 22 = .ok (.goto 4, 3) := by decide +kernel
theorem dX11_advance_0 : decode cX11_advance 0 = .ok (.aload_n 0, 1) := by decide +kernel
theorem dX11_advance_1 : decode cX11_advance 1 = .ok (.aload_n 0, 1) := by decide +kernel
theorem dX11_advance_2 : decode cX11_advance 2 = .ok (.getfield 99, 3) := by decide +kernel
theorem dX11_advance_5 : decode cX11_advance 5 = .ok (.invokevirtual 102, 3) := by decide +kernel
theorem dX11_advance_8 : decode cX11_advance 8 = .ok (.bipush 32, 2) := by decide +kernel
theorem dX11_advance_26 : decode cX11_advance 26 = .ok (.aload_n 0, 1) := by decide +kernel
theorem dX11_advance_27 : decode cX11_advance 27 = .ok (.dup, 1) := by decide +kernel
theorem dX11_advance_28 : decode cX11_advance 28 = .ok (.getfield 99, 3) := by decide +kernel
theorem dX11_advance_31 : decode cX11_advance 31 = .ok (.iconst 1, 1) := by decide +kernel
theorem dX11_advance_32 : decode cX11_advance 32 = .ok (.iadd, 1) := by decide +kernel
theorem dX11_advance_33 : decode cX11_advance 33 = .ok (.putfield 99, 3) := by decide +kernel
theorem dX11_advance_36 : decode cX11_advance 36 = .ok (.goto (-36), 3) := by decide +kernel
theorem dX11_advance_10 : decode cX11_advance 10 = .ok (.if_icmp .eq 16, 3) := by decide +kernel
theorem dX11_advance_13 : decode cX11_advance 13 = .ok (.aload_n 0, 1) := by decide +kernel
theorem dX11_advance_14 : decode cX11_advance 14 = .ok (.aload_n 0, 1) := by decide +kernel
theorem dX11_advance_15 : decode cX11_advance 15 = .ok (.getfield 99, 3) := by decide +kernel
theorem dX11_advance_18 : decode cX11_advance 18 = .ok (.invokevirtual 102, 3) := by decide +kernel
theorem dX11_advance_21 : decode cX11_advance 21 = .ok (.bipush 10, 2) := by decide +kernel
theorem dX11_advance_23 : decode cX11_advance 23 = .ok (.if_icmp .ne 16, 3) := by decide +kernel
theorem dX11_advance_39 : decode cX11_advance 39 = .ok (.aload_n 0, 1) := by decide +kernel
theorem dX11_advance_40 : decode cX11_advance 40 = .ok (.aload_n 0, 1) := by decide +kernel
theorem dX11_advance_41 : decode cX11_advance 41 = .ok (.getfield 99, 3) := by decide +kernel
theorem dX11_advance_44 : decode cX11_advance 44 = .ok (.putfield 106, 3) := by decide +kernel
theorem dX11_advance_47 : decode cX11_advance 47 = .ok (.aload_n 0, 1) := by decide +kernel
theorem dX11_advance_48 : decode cX11_advance 48 = .ok (.aload_n 0, 1) := by decide +kernel
theorem dX11_advance_49 : decode cX11_advance 49 = .ok (.getfield 99, 3) := by decide +kernel
theorem dX11_advance_52 : decode cX11_advance 52 = .ok (.invokevirtual 102, 3) := by decide +kernel
theorem dX11_advance_55 : decode cX11_advance 55 = .ok (.istore_n 1, 1) := by decide +kernel
theorem dX11_advance_56 : decode cX11_advance 56 = .ok (.iload_n 1, 1) := by decide +kernel
theorem dX11_advance_57 : decode cX11_advance 57 = .ok (.iconst (-1), 1) := by decide +kernel
theorem dX11_advance_58 : decode cX11_advance 58 = .ok (.if_icmp .ne 11, 3) := by decide +kernel
theorem dX11_advance_69 : decode cX11_advance 69 = .ok (.iload_n 1, 1) := by decide +kernel
theorem dX11_advance_70 : decode cX11_advance 70 = .ok (.i2l, 1) := by decide +kernel
theorem dX11_advance_71 : decode cX11_advance 71 = .ok (.ldc2_w 112, 3) := by decide +kernel
theorem dX11_advance_74 : decode cX11_advance 74 = .ok (.ldc2_w 114, 3) := by decide +kernel
theorem dX11_advance_77 : decode cX11_advance 77 = .ok (.invokestatic 79, 3) := by decide +kernel
theorem dX11_advance_80 : decode cX11_advance 80 = .ok (.ifCond .eq 45, 3) := by decide +kernel
theorem dX11_advance_125 : decode cX11_advance 125 = .ok (.iload_n 1, 1) := by decide +kernel
theorem dX11_advance_126 : decode cX11_advance 126 = .ok (.i2l, 1) := by decide +kernel
theorem dX11_advance_127 : decode cX11_advance 127 = .ok (.ldc2_w 116, 3) := by decide +kernel
theorem dX11_advance_130 : decode cX11_advance 130 = .ok (.ldc2_w 118, 3) := by decide +kernel
theorem dX11_advance_133 : decode cX11_advance 133 = .ok (.invokestatic 79, 3) := by decide +kernel
theorem dX11_advance_136 : decode cX11_advance 136 = .ok (.ifCond .eq 78, 3) := by decide +kernel
theorem dX11_advance_214 : decode cX11_advance 214 = .ok (.aload_n 0, 1) := by decide +kernel
theorem dX11_advance_215 : decode cX11_advance 215 = .ok (.iload_n 1, 1) := by decide +kernel
theorem dX11_advance_216 : decode cX11_advance 216 = .ok (.bipush 59, 2) := by decide +kernel
theorem dX11_advance_226 : decode cX11_advance 226 = .ok (.putfield 109, 3) := by decide +kernel
theorem dX11_advance_229 : decode cX11_advance 229 = .ok (.aload_n 0, 1) := by decide +kernel
theorem dX11_advance_230 : decode cX11_advance 230 = .ok (.dup, 1) := by decide +kernel
theorem dX11_advance_231 : decode cX11_advance 231 = .ok (.getfield 99, 3) := by decide +kernel
theorem dX11_advance_234 : decode cX11_advance 234 = .ok (.iconst 1, 1) := by decide +kernel
theorem dX11_advance_235 : decode cX11_advance 235 = .ok (.iadd, 1) := by decide +kernel
theorem dX11_advance_236 : decode cX11_advance 236 = .ok (.putfield 99, 3) := by decide +kernel
theorem dX11_advance_239 : decode cX11_advance 239 = .ok (.return_, 1) := by decide +kernel
theorem dX11_advance_218 : decode cX11_advance 218 = .ok (.if_icmp .ne 7, 3) := by decide +kernel
theorem dX11_advance_225 : decode cX11_advance 225 = .ok (.iconst 4, 1) := by decide +kernel
theorem dX11_advance_221 : decode cX11_advance 221 = .ok (.iconst 3, 1) := by decide +kernel
theorem dX11_advance_222 : decode cX11_advance 222 = .ok (.goto 4, 3) := by decide +kernel
theorem dX11_advance_139 : decode cX11_advance 139 = .ok (.aload_n 0, 1) := by decide +kernel
theorem dX11_advance_140 : decode cX11_advance 140 = .ok (.iconst 0, 1) := by decide +kernel
theorem dX11_advance_141 : decode cX11_advance 141 = .ok (.putfield 120, 3) := by decide +kernel
theorem dX11_advance_144 : decode cX11_advance 144 = .ok (.aload_n 0, 1) := by decide +kernel
theorem dX11_advance_145 : decode cX11_advance 145 = .ok (.aload_n 0, 1) := by decide +kernel
theorem dX11_advance_146 : decode cX11_advance 146 = .ok (.getfield 99, 3) := by decide +kernel
theorem dX11_advance_149 : decode cX11_advance 149 = .ok (.invokevirtual 102, 3) := by decide +kernel
theorem dX11_advance_152 : decode cX11_advance 152 = .ok (.i2l, 1) := by decide +kernel
theorem dX11_advance_153 : decode cX11_advance 153 = .ok (.ldc2_w 116, 3) := by decide +kernel
theorem dX11_advance_156 : decode cX11_advance 156 = .ok (.ldc2_w 118, 3) := by decide +kernel
theorem dX11_advance_159 : decode cX11_advance 159 = .ok (.invokestatic 79, 3) := by decide +kernel
theorem dX11_advance_162 : decode cX11_advance 162 = .ok (.ifCond .eq 44, 3) := by decide +kernel
theorem dX11_advance_206 : decode cX11_advance 206 = .ok (.aload_n 0, 1) := by decide +kernel
theorem dX11_advance_207 : decode cX11_advance 207 = .ok (.iconst 2, 1) := by decide +kernel
theorem dX11_advance_208 : decode cX11_advance 208 = .ok (.putfield 109, 3) := by decide +kernel
theorem dX11_advance_211 : decode cX11_advance 211 = .ok (.goto 28, 3) := by decide +kernel
theorem dX11_advance_165 : decode cX11_advance 165 = .ok (.aload_n 0, 1) := by decide +kernel
theorem dX11_advance_166 : decode cX11_advance 166 = .ok (.ldc 123, 2) := by decide +kernel
theorem dX11_advance_168 : decode cX11_advance 168 = .ok (.bipush 10, 2) := by decide +kernel
theorem dX11_advance_170 : decode cX11_advance 170 = .ok (.aload_n 0, 1) := by decide +kernel
theorem dX11_advance_171 : decode cX11_advance 171 = .ok (.getfield 120, 3) := by decide +kernel
theorem dX11_advance_174 : decode cX11_advance 174 = .ok (.imul, 1) := by decide +kernel
theorem dX11_advance_175 : decode cX11_advance 175 = .ok (.aload_n 0, 1) := by decide +kernel
theorem dX11_advance_176 : decode cX11_advance 176 = .ok (.aload_n 0, 1) := by decide +kernel
theorem dX11_advance_177 : decode cX11_advance 177 = .ok (.getfield 99, 3) := by decide +kernel
theorem dX11_advance_180 : decode cX11_advance 180 = .ok (.invokevirtual 102, 3) := by decide +kernel
theorem dX11_advance_183 : decode cX11_advance 183 = .ok (.iadd, 1) := by decide +kernel
theorem dX11_advance_184 : decode cX11_advance 184 = .ok (.bipush 48, 2) := by decide +kernel
theorem dX11_advance_186 : decode cX11_advance 186 = .ok (.isub, 1) := by decide +kernel
theorem dX11_advance_187 : decode cX11_advance 187 = .ok (.invokestatic 124, 3) := by decide +kernel
theorem dX11_advance_190 : decode cX11_advance 190 = .ok (.putfield 120, 3) := by decide +kernel
theorem dX11_advance_193 : decode cX11_advance 193 = .ok (.aload_n 0, 1) := by decide +kernel
theorem dX11_advance_194 : decode cX11_advance 194 = .ok (.dup, 1) := by decide +kernel
theorem dX11_advance_195 : decode cX11_advance 195 = .ok (.getfield 99, 3) := by decide +kernel
theorem dX11_advance_198 : decode cX11_advance 198 = .ok (.iconst 1, 1) := by decide +kernel
theorem dX11_advance_199 : decode cX11_advance 199 = .ok (.iadd, 1) := by decide +kernel
theorem dX11_advance_200 : decode cX11_advance 200 = .ok (.putfield 99, 3) := by decide +kernel
theorem dX11_advance_203 : decode cX11_advance 203 = .ok (.goto (-59), 3) := by decide +kernel
theorem dX11_advance_83 : decode cX11_advance 83 = .ok (.aload_n 0, 1) := by decide +kernel
theorem dX11_advance_84 : decode cX11_advance 84 = .ok (.aload_n 0, 1) := by decide +kernel
theorem dX11_advance_85 : decode cX11_advance 85 = .ok (.getfield 99, 3) := by decide +kernel
theorem dX11_advance_88 : decode cX11_advance 88 = .ok (.invokevirtual 102, 3) := by decide +kernel
theorem dX11_advance_91 : decode cX11_advance 91 = .ok (.i2l, 1) := by decide +kernel
theorem dX11_advance_92 : decode cX11_advance 92 = .ok (.ldc2_w 112, 3) := by decide +kernel
theorem dX11_advance_95 : decode cX11_advance 95 = .ok (.ldc2_w 114, 3) := by decide +kernel
theorem dX11_advance_98 : decode cX11_advance 98 = .ok (.invokestatic 79, 3) := by decide +kernel
theorem dX11_advance_101 : decode cX11_advance 101 = .ok (.ifCond .eq 16, 3) := by decide +kernel
theorem dX11_advance_117 : decode cX11_advance 117 = .ok (.aload_n 0, 1) := by decide +kernel
theorem dX11_advance_118 : decode cX11_advance 118 = .ok (.iconst 1, 1) := by decide +kernel
theorem dX11_advance_119 : decode cX11_advance 119 = .ok (.putfield 109, 3) := by decide +kernel
theorem dX11_advance_122 : decode cX11_advance 122 = .ok (.goto 117, 3) := by decide +kernel
theorem dX11_advance_104 : decode cX11_advance 104 = .ok (.aload_n 0, 1) := by decide +kernel
theorem dX11_advance_105 : decode cX11_advance 105 = .ok (.dup, 1) := by decide +kernel
theorem dX11_advance_106 : decode cX11_advance 106 = .ok (.getfield 99, 3) := by decide +kernel
theorem dX11_advance_109 : decode cX11_advance 109 = .ok (.iconst 1, 1) := by decide +kernel
theorem dX11_advance_110 : decode cX11_advance 110 = .ok (.iadd, 1) := by decide +kernel
theorem dX11_advance_111 : decode cX11_advance 111 = .ok (.putfield 99, 3) := by decide +kernel
theorem dX11_advance_114 : decode cX11_advance 114 = .ok (.goto (-31), 3) := by decide +kernel
theorem dX11_advance_61 : decode cX11_advance 61 = .ok (.aload_n 0, 1) := by decide +kernel
theorem dX11_advance_62 : decode cX11_advance 62 = .ok (.iconst 0, 1) := by decide +kernel
theorem dX11_advance_63 : decode cX11_advance 63 = .ok (.putfield 109, 3) := by decide +kernel
theorem dX11_advance_66 : decode cX11_advance 66 = .ok (.goto 173, 3) := by decide +kernel
theorem dX11_is_0 : decode cX11_is 0 = .ok (.aload_n 0, 1) := by decide +kernel
theorem dX11_is_1 : decode cX11_is 1 = .ok (.invokevirtual 133, 3) := by decide +kernel
