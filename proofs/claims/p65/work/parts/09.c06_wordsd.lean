theorem dX11_desk_43 : decode cX11_desk 43 = .ok (.iload 4, 2) := by decide +kernel
theorem dX11_desk_45 : decode cX11_desk 45 = .ok (.iload_n 1, 1) := by decide +kernel
theorem dX11_desk_46 : decode cX11_desk 46 = .ok (.invokevirtual 343, 3) := by decide +kernel
theorem dX11_desk_49 : decode cX11_desk 49 = .ok (.istore 5, 2) := by decide +kernel
theorem dX11_desk_51 : decode cX11_desk 51 = .ok (.iload 5, 2) := by decide +kernel
theorem dX11_desk_53 : decode cX11_desk 53 = .ok (.iload_n 3, 1) := by decide +kernel
theorem dX11_desk_66 : decode cX11_desk 66 = .ok (.iinc 4 1, 3) := by decide +kernel
theorem dX11_desk_69 : decode cX11_desk 69 = .ok (.goto (-38), 3) := by decide +kernel
theorem dX11_desk_54 : decode cX11_desk 54 = .ok (.if_icmp .gt 6, 3) := by decide +kernel
theorem dX11_desk_60 : decode cX11_desk 60 = .ok (.iload 5, 2) := by decide +kernel
theorem dX11_desk_62 : decode cX11_desk 62 = .ok (.istore_n 3, 1) := by decide +kernel
theorem dX11_desk_63 : decode cX11_desk 63 = .ok (.iload 4, 2) := by decide +kernel
theorem dX11_desk_65 : decode cX11_desk 65 = .ok (.istore_n 2, 1) := by decide +kernel
theorem dX11_desk_57 : decode cX11_desk 57 = .ok (.goto 9, 3) := by decide +kernel
theorem dX11_state_0 : decode cX11_state 0 = .ok (.bipush 7, 2) := by decide +kernel
theorem dX11_state_2 : decode cX11_state 2 = .ok (.iload_n 0, 1) := by decide +kernel
theorem dX11_state_3 : decode cX11_state 3 = .ok (.imul, 1) := by decide +kernel
theorem dX11_state_4 : decode cX11_state 4 = .ok (.iload_n 1, 1) := by decide +kernel
theorem dX11_state_5 : decode cX11_state 5 = .ok (.iadd, 1) := by decide +kernel
theorem dX11_state_6 : decode cX11_state 6 = .ok (.sipush 128, 3) := by decide +kernel
theorem dX11_state_9 : decode cX11_state 9 = .ok (.imul, 1) := by decide +kernel
theorem dX11_state_10 : decode cX11_state 10 = .ok (.iload_n 2, 1) := by decide +kernel
theorem dX11_state_11 : decode cX11_state 11 = .ok (.iadd, 1) := by decide +kernel
theorem dX11_state_12 : decode cX11_state 12 = .ok (.ireturn, 1) := by decide +kernel
theorem dX11_meet_0 : decode cX11_meet 0 = .ok (.aload_n 0, 1) := by decide +kernel
theorem dX11_meet_1 : decode cX11_meet 1 = .ok (.getfield 52, 3) := by decide +kernel
theorem dX11_meet_4 : decode cX11_meet 4 = .ok (.iload_n 1, 1) := by decide +kernel
theorem dX11_meet_5 : decode cX11_meet 5 = .ok (.iaload, 1) := by decide +kernel
theorem dX11_meet_6 : decode cX11_meet 6 = .ok (.iconst (-1), 1) := by decide +kernel
theorem dX11_meet_7 : decode cX11_meet 7 = .ok (.if_icmp .eq 4, 3) := by decide +kernel
theorem dX11_meet_11 : decode cX11_meet 11 = .ok (.aload_n 0, 1) := by decide +kernel
theorem dX11_meet_12 : decode cX11_meet 12 = .ok (.getfield 52, 3) := by decide +kernel
theorem dX11_meet_15 : decode cX11_meet 15 = .ok (.iload_n 1, 1) := by decide +kernel
theorem dX11_meet_16 : decode cX11_meet 16 = .ok (.iload_n 2, 1) := by decide +kernel
theorem dX11_meet_17 : decode cX11_meet 17 = .ok (.iastore, 1) := by decide +kernel
theorem dX11_meet_18 : decode cX11_meet 18 = .ok (.aload_n 0, 1) := by decide +kernel
theorem dX11_meet_19 : decode cX11_meet 19 = .ok (.getfield 55, 3) := by decide +kernel
theorem dX11_meet_22 : decode cX11_meet 22 = .ok (.iload_n 1, 1) := by decide +kernel
theorem dX11_meet_23 : decode cX11_meet 23 = .ok (.iload_n 3, 1) := by decide +kernel
theorem dX11_meet_24 : decode cX11_meet 24 = .ok (.iastore, 1) := by decide +kernel
theorem dX11_meet_25 : decode cX11_meet 25 = .ok (.aload_n 0, 1) := by decide +kernel
theorem dX11_meet_26 : decode cX11_meet 26 = .ok (.getfield 49, 3) := by decide +kernel
theorem dX11_meet_29 : decode cX11_meet 29 = .ok (.aload_n 0, 1) := by decide +kernel
theorem dX11_meet_30 : decode cX11_meet 30 = .ok (.getfield 346, 3) := by decide +kernel
theorem dX11_meet_33 : decode cX11_meet 33 = .ok (.iload_n 1, 1) := by decide +kernel
theorem dX11_meet_34 : decode cX11_meet 34 = .ok (.iastore, 1) := by decide +kernel
theorem dX11_meet_35 : decode cX11_meet 35 = .ok (.aload_n 0, 1) := by decide +kernel
theorem dX11_meet_36 : decode cX11_meet 36 = .ok (.dup, 1) := by decide +kernel
theorem dX11_meet_37 : decode cX11_meet 37 = .ok (.getfield 346, 3) := by decide +kernel
theorem dX11_meet_40 : decode cX11_meet 40 = .ok (.iconst 1, 1) := by decide +kernel
theorem dX11_meet_41 : decode cX11_meet 41 = .ok (.iadd, 1) := by decide +kernel
theorem dX11_meet_42 : decode cX11_meet 42 = .ok (.putfield 346, 3) := by decide +kernel
theorem dX11_meet_45 : decode cX11_meet 45 = .ok (.return_, 1) := by decide +kernel
theorem dX11_meet_10 : decode cX11_meet 10 = .ok (.return_, 1) := by decide +kernel
theorem dX11_chase_0 : decode cX11_chase 0 = .ok (.iconst 0, 1) := by decide +kernel
theorem dX11_chase_1 : decode cX11_chase 1 = .ok (.istore 4, 2) := by decide +kernel
theorem dX11_chase_3 : decode cX11_chase 3 = .ok (.iload 4, 2) := by decide +kernel
theorem dX11_chase_5 : decode cX11_chase 5 = .ok (.sipush 6272, 3) := by decide +kernel
theorem dX11_chase_8 : decode cX11_chase 8 = .ok (.if_icmp .ge 17, 3) := by decide +kernel
theorem dX11_chase_25 : decode cX11_chase 25 = .ok (.aload_n 0, 1) := by decide +kernel
theorem dX11_chase_26 : decode cX11_chase 26 = .ok (.iconst 0, 1) := by decide +kernel
theorem dX11_chase_27 : decode cX11_chase 27 = .ok (.putfield 346, 3) := by decide +kernel
theorem dX11_chase_30 : decode cX11_chase 30 = .ok (.aload_n 0, 1) := by decide +kernel
theorem dX11_chase_31 : decode cX11_chase 31 = .ok (.iload_n 1, 1) := by decide +kernel
theorem dX11_chase_32 : decode cX11_chase 32 = .ok (.iload_n 2, 1) := by decide +kernel
theorem dX11_chase_33 : decode cX11_chase 33 = .ok (.aload_n 0, 1) := by decide +kernel
theorem dX11_chase_34 : decode cX11_chase 34 = .ok (.invokevirtual 337, 3) := by decide +kernel
theorem dX11_chase_37 : decode cX11_chase 37 = .ok (.iconst 1, 1) := by decide +kernel
theorem dX11_chase_38 : decode cX11_chase 38 = .ok (.iload_n 1, 1) := by decide +kernel
theorem dX11_chase_39 : decode cX11_chase 39 = .ok (.ishl, 1) := by decide +kernel
theorem dX11_chase_40 : decode cX11_chase 40 = .ok (.iconst (-1), 1) := by decide +kernel
theorem dX11_chase_41 : decode cX11_chase 41 = .ok (.ixor, 1) := by decide +kernel
theorem dX11_chase_42 : decode cX11_chase 42 = .ok (.iand, 1) := by decide +kernel
theorem dX11_chase_43 : decode cX11_chase 43 = .ok (.iconst 1, 1) := by decide +kernel
theorem dX11_chase_44 : decode cX11_chase 44 = .ok (.iload_n 2, 1) := by decide +kernel
theorem dX11_chase_45 : decode cX11_chase 45 = .ok (.ishl, 1) := by decide +kernel
theorem dX11_chase_46 : decode cX11_chase 46 = .ok (.iconst (-1), 1) := by decide +kernel
theorem dX11_chase_47 : decode cX11_chase 47 = .ok (.ixor, 1) := by decide +kernel
theorem dX11_chase_48 : decode cX11_chase 48 = .ok (.iand, 1) := by decide +kernel
theorem dX11_chase_49 : decode cX11_chase 49 = .ok (.invokestatic 349, 3) := by decide +kernel
theorem dX11_chase_52 : decode cX11_chase 52 = .ok (.iconst 0, 1) := by decide +kernel
theorem dX11_chase_53 : decode cX11_chase 53 = .ok (.iconst (-1), 1) := by decide +kernel
theorem dX11_chase_54 : decode cX11_chase 54 = .ok (.invokevirtual 352, 3) := by decide +kernel
theorem dX11_chase_57 : decode cX11_chase 57 = .ok (.iconst 0, 1) := by decide +kernel
theorem dX11_chase_58 : decode cX11_chase 58 = .ok (.istore 4, 2) := by decide +kernel
theorem dX11_chase_60 : decode cX11_chase 60 = .ok (.iload 4, 2) := by decide +kernel
theorem dX11_chase_62 : decode cX11_chase 62 = .ok (.aload_n 0, 1) := by decide +kernel
theorem dX11_chase_63 : decode cX11_chase 63 = .ok (.getfield 346, 3) := by decide +kernel
theorem dX11_chase_66 : decode cX11_chase 66 = .ok (.if_icmp .ge 177, 3) := by decide +kernel
theorem dX11_chase_243 : decode cX11_chase 243 = .ok (.iconst (-1), 1) := by decide +kernel
theorem dX11_chase_244 : decode cX11_chase 244 = .ok (.ireturn, 1) := by decide +kernel
theorem dX11_chase_69 : decode cX11_chase 69 = .ok (.aload_n 0, 1) := by decide +kernel
theorem dX11_chase_70 : decode cX11_chase 70 = .ok (.getfield 49, 3) := by decide +kernel
theorem dX11_chase_73 : decode cX11_chase 73 = .ok (.iload 4, 2) := by decide +kernel
theorem dX11_chase_75 : decode cX11_chase 75 = .ok (.iaload, 1) := by decide +kernel
theorem dX11_chase_76 : decode cX11_chase 76 = .ok (.istore 5, 2) := by decide +kernel
theorem dX11_chase_78 : decode cX11_chase 78 = .ok (.iload 5, 2) := by decide +kernel
theorem dX11_chase_80 : decode cX11_chase 80 = .ok (.sipush 128, 3) := by decide +kernel
theorem dX11_chase_83 : decode cX11_chase 83 = .ok (.irem, 1) := by decide +kernel
theorem dX11_chase_84 : decode cX11_chase 84 = .ok (.ifCond .ne 6, 3) := by decide +kernel
theorem dX11_chase_90 : decode cX11_chase 90 = .ok (.iload 5, 2) := by decide +kernel
theorem dX11_chase_92 : decode cX11_chase 92 = .ok (.sipush 128, 3) := by decide +kernel
theorem dX11_chase_95 : decode cX11_chase 95 = .ok (.idiv, 1) := by decide +kernel
theorem dX11_chase_96 : decode cX11_chase 96 = .ok (.bipush 7, 2) := by decide +kernel
theorem dX11_chase_98 : decode cX11_chase 98 = .ok (.idiv, 1) := by decide +kernel
theorem dX11_chase_99 : decode cX11_chase 99 = .ok (.istore 6, 2) := by decide +kernel
theorem dX11_chase_101 : decode cX11_chase 101 = .ok (.iload 5, 2) := by decide +kernel
theorem dX11_chase_103 : decode cX11_chase 103 = .ok (.sipush 128, 3) := by decide +kernel
theorem dX11_chase_106 : decode cX11_chase 106 = .ok (.idiv, 1) := by decide +kernel
theorem dX11_chase_107 : decode cX11_chase 107 = .ok (.bipush 7, 2) := by decide +kernel
theorem dX11_chase_109 : decode cX11_chase 109 = .ok (.irem, 1) := by decide +kernel
theorem dX11_chase_110 : decode cX11_chase 110 = .ok (.istore 7, 2) := by decide +kernel
theorem dX11_chase_112 : decode cX11_chase 112 = .ok (.iconst 0, 1) := by decide +kernel
theorem dX11_chase_113 : decode cX11_chase 113 = .ok (.istore 8, 2) := by decide +kernel
theorem dX11_chase_115 : decode cX11_chase 115 = .ok (.iload 8, 2) := by decide +kernel
theorem dX11_chase_117 : decode cX11_chase 117 = .ok (.aload_n 0, 1) := by decide +kernel
theorem dX11_chase_118 : decode cX11_chase 118 = .ok (.getfield 9, 3) := by decide +kernel
theorem dX11_chase_121 : decode cX11_chase 121 = .ok (.iconst 4, 1) := by decide +kernel
theorem dX11_chase_122 : decode cX11_chase 122 = .ok (.iaload, 1) := by decide +kernel
theorem dX11_chase_123 : decode cX11_chase 123 = .ok (.if_icmp .ge 114, 3) := by decide +kernel
theorem dX11_chase_237 : decode cX11_chase 237 = .ok (.iinc 4 1, 3) := by decide +kernel
theorem dX11_chase_240 : decode cX11_chase 240 = .ok (.goto (-180), 3) := by decide +kernel
theorem dX11_chase_126 : decode cX11_chase 126 = .ok (.aload_n 0, 1) := by decide +kernel
theorem dX11_chase_127 : decode cX11_chase 127 = .ok (.iload 6, 2) := by decide +kernel
theorem dX11_chase_129 : decode cX11_chase 129 = .ok (.iload 8, 2) := by decide +kernel
theorem dX11_chase_131 : decode cX11_chase 131 = .ok (.invokevirtual 312, 3) := by decide +kernel
theorem dX11_chase_231 : decode cX11_chase 231 = .ok (.iinc 8 1, 3) := by decide +kernel
theorem dX11_chase_234 : decode cX11_chase 234 = .ok (.goto (-119), 3) := by decide +kernel
theorem dX11_chase_134 : decode cX11_chase 134 = .ok (.ifCond .ne 6, 3) := by decide +kernel
theorem dX11_chase_140 : decode cX11_chase 140 = .ok (.iconst 0, 1) := by decide +kernel
theorem dX11_chase_141 : decode cX11_chase 141 = .ok (.istore 9, 2) := by decide +kernel
theorem dX11_chase_143 : decode cX11_chase 143 = .ok (.iload 9, 2) := by decide +kernel
theorem dX11_chase_145 : decode cX11_chase 145 = .ok (.aload_n 0, 1) := by decide +kernel
theorem dX11_chase_146 : decode cX11_chase 146 = .ok (.getfield 9, 3) := by decide +kernel
theorem dX11_chase_149 : decode cX11_chase 149 = .ok (.iconst 4, 1) := by decide +kernel
theorem dX11_chase_150 : decode cX11_chase 150 = .ok (.iaload, 1) := by decide +kernel
theorem dX11_chase_151 : decode cX11_chase 151 = .ok (.if_icmp .ge 80, 3) := by decide +kernel
theorem dX11_chase_154 : decode cX11_chase 154 = .ok (.iload_n 3, 1) := by decide +kernel
theorem dX11_chase_225 : decode cX11_chase 225 = .ok (.iinc 9 1, 3) := by decide +kernel
theorem dX11_chase_228 : decode cX11_chase 228 = .ok (.goto (-85), 3) := by decide +kernel
theorem dX11_chase_179 : decode cX11_chase 179 = .ok (.aload_n 0, 1) := by decide +kernel
theorem dX11_chase_180 : decode cX11_chase 180 = .ok (.iload 8, 2) := by decide +kernel
theorem dX11_chase_182 : decode cX11_chase 182 = .ok (.iload 9, 2) := by decide +kernel
theorem dX11_chase_184 : decode cX11_chase 184 = .ok (.aload_n 0, 1) := by decide +kernel
theorem dX11_chase_185 : decode cX11_chase 185 = .ok (.iload 5, 2) := by decide +kernel
theorem dX11_chase_187 : decode cX11_chase 187 = .ok (.sipush 128, 3) := by decide +kernel
theorem dX11_chase_190 : decode cX11_chase 190 = .ok (.irem, 1) := by decide +kernel
theorem dX11_chase_191 : decode cX11_chase 191 = .ok (.invokevirtual 330, 3) := by decide +kernel
theorem dX11_chase_194 : decode cX11_chase 194 = .ok (.iconst 1, 1) := by decide +kernel
theorem dX11_chase_195 : decode cX11_chase 195 = .ok (.iload 8, 2) := by decide +kernel
theorem dX11_chase_197 : decode cX11_chase 197 = .ok (.ishl, 1) := by decide +kernel
theorem dX11_chase_198 : decode cX11_chase 198 = .ok (.iconst (-1), 1) := by decide +kernel
theorem dX11_chase_199 : decode cX11_chase 199 = .ok (.ixor, 1) := by decide +kernel
theorem dX11_chase_200 : decode cX11_chase 200 = .ok (.iand, 1) := by decide +kernel
theorem dX11_chase_201 : decode cX11_chase 201 = .ok (.iconst 1, 1) := by decide +kernel
theorem dX11_chase_202 : decode cX11_chase 202 = .ok (.iload 9, 2) := by decide +kernel
theorem dX11_chase_204 : decode cX11_chase 204 = .ok (.ishl, 1) := by decide +kernel
theorem dX11_chase_205 : decode cX11_chase 205 = .ok (.iconst (-1), 1) := by decide +kernel
theorem dX11_chase_206 : decode cX11_chase 206 = .ok (.ixor, 1) := by decide +kernel
theorem dX11_chase_207 : decode cX11_chase 207 = .ok (.iand, 1) := by decide +kernel
theorem dX11_chase_208 : decode cX11_chase 208 = .ok (.invokestatic 349, 3) := by decide +kernel
theorem dX11_chase_211 : decode cX11_chase 211 = .ok (.aload_n 0, 1) := by decide +kernel
theorem dX11_chase_212 : decode cX11_chase 212 = .ok (.getfield 52, 3) := by decide +kernel
theorem dX11_chase_215 : decode cX11_chase 215 = .ok (.iload 5, 2) := by decide +kernel
theorem dX11_chase_217 : decode cX11_chase 217 = .ok (.iaload, 1) := by decide +kernel
theorem dX11_chase_218 : decode cX11_chase 218 = .ok (.iconst 1, 1) := by decide +kernel
theorem dX11_chase_219 : decode cX11_chase 219 = .ok (.iadd, 1) := by decide +kernel
theorem dX11_chase_220 : decode cX11_chase 220 = .ok (.iload 5, 2) := by decide +kernel
theorem dX11_chase_222 : decode cX11_chase 222 = .ok (.invokevirtual 352, 3) := by decide +kernel
theorem dX11_chase_155 : decode cX11_chase 155 = .ok (.ifCond .eq 13, 3) := by decide +kernel
theorem dX11_chase_168 : decode cX11_chase 168 = .ok (.aload_n 0, 1) := by decide +kernel
theorem dX11_chase_169 : decode cX11_chase 169 = .ok (.iload 7, 2) := by decide +kernel
theorem dX11_chase_171 : decode cX11_chase 171 = .ok (.iload 9, 2) := by decide +kernel
theorem dX11_chase_173 : decode cX11_chase 173 = .ok (.invokevirtual 312, 3) := by decide +kernel
theorem dX11_chase_176 : decode cX11_chase 176 = .ok (.ifCond .eq 49, 3) := by decide +kernel
theorem dX11_chase_158 : decode cX11_chase 158 = .ok (.iload 9, 2) := by decide +kernel
theorem dX11_chase_160 : decode cX11_chase 160 = .ok (.iload 8, 2) := by decide +kernel
theorem dX11_chase_162 : decode cX11_chase 162 = .ok (.if_icmp .ne 63, 3) := by decide +kernel
theorem dX11_chase_165 : decode cX11_chase 165 = .ok (.goto 14, 3) := by decide +kernel
theorem dX11_chase_137 : decode cX11_chase 137 = .ok (.goto 94, 3) := by decide +kernel
theorem dX11_chase_87 : decode cX11_chase 87 = .ok (.iload 5, 2) := by decide +kernel
theorem dX11_chase_89 : decode cX11_chase 89 = .ok (.ireturn, 1) := by decide +kernel
theorem dX11_chase_11 : decode cX11_chase 11 = .ok (.aload_n 0, 1) := by decide +kernel
theorem dX11_chase_12 : decode cX11_chase 12 = .ok (.getfield 52, 3) := by decide +kernel
theorem dX11_chase_15 : decode cX11_chase 15 = .ok (.iload 4, 2) := by decide +kernel
theorem dX11_chase_17 : decode cX11_chase 17 = .ok (.iconst (-1), 1) := by decide +kernel
theorem dX11_chase_18 : decode cX11_chase 18 = .ok (.iastore, 1) := by decide +kernel
theorem dX11_chase_19 : decode cX11_chase 19 = .ok (.iinc 4 1, 3) := by decide +kernel
theorem dX11_chase_22 : decode cX11_chase 22 = .ok (.goto (-19), 3) := by decide +kernel
theorem dX11_farTo_0 : decode cX11_farTo 0 = .ok (.iload_n 1, 1) := by decide +kernel
theorem dX11_farTo_1 : decode cX11_farTo 1 = .ok (.iconst (-1), 1) := by decide +kernel
theorem dX11_farTo_2 : decode cX11_farTo 2 = .ok (.if_icmp .ne 7, 3) := by decide +kernel
theorem dX11_farTo_9 : decode cX11_farTo 9 = .ok (.aload_n 0, 1) := by decide +kernel
theorem dX11_farTo_10 : decode cX11_farTo 10 = .ok (.getfield 52, 3) := by decide +kernel
theorem dX11_farTo_13 : decode cX11_farTo 13 = .ok (.iload_n 1, 1) := by decide +kernel
theorem dX11_farTo_14 : decode cX11_farTo 14 = .ok (.iaload, 1) := by decide +kernel
theorem dX11_farTo_15 : decode cX11_farTo 15 = .ok (.ireturn, 1) := by decide +kernel
theorem dX11_farTo_5 : decode cX11_farTo 5 = .ok (.iconst (-1), 1) := by decide +kernel
theorem dX11_farTo_6 : decode cX11_farTo 6 = .ok (.goto 9, 3) := by decide +kernel
theorem dX11_one_0 : decode cX11_one 0 = .ok (.aload_n 0, 1) := by decide +kernel
theorem dX11_one_1 : decode cX11_one 1 = .ok (.iload_n 1, 1) := by decide +kernel
theorem dX11_one_2 : decode cX11_one 2 = .ok (.i2l, 1) := by decide +kernel
theorem dX11_one_3 : decode cX11_one 3 = .ok (.invokevirtual 89, 3) := by decide +kernel
theorem dX11_one_6 : decode cX11_one 6 = .ok (.ifCond .eq 17, 3) := by decide +kernel
theorem dX11_one_23 : decode cX11_one 23 = .ok (.bipush (-2), 2) := by decide +kernel
theorem dX11_one_25 : decode cX11_one 25 = .ok (.ireturn, 1) := by decide +kernel
theorem dX11_one_9 : decode cX11_one 9 = .ok (.aload_n 0, 1) := by decide +kernel
theorem dX11_one_10 : decode cX11_one 10 = .ok (.aload_n 0, 1) := by decide +kernel
theorem dX11_one_11 : decode cX11_one 11 = .ok (.iload_n 1, 1) := by decide +kernel
theorem dX11_one_12 : decode cX11_one 12 = .ok (.iload_n 1, 1) := by decide +kernel
theorem dX11_one_13 : decode cX11_one 13 = .ok (.iconst 1, 1) := by decide +kernel
theorem dX11_one_14 : decode cX11_one 14 = .ok (.invokevirtual 356, 3) := by decide +kernel
theorem dX11_one_17 : decode cX11_one 17 = .ok (.invokevirtual 360, 3) := by decide +kernel
theorem dX11_one_20 : decode cX11_one 20 = .ok (.goto 5, 3) := by decide +kernel
theorem dX11_two_0 : decode cX11_two 0 = .ok (.aload_n 0, 1) := by decide +kernel
theorem dX11_two_1 : decode cX11_two 1 = .ok (.iload_n 1, 1) := by decide +kernel
theorem dX11_two_2 : decode cX11_two 2 = .ok (.i2l, 1) := by decide +kernel
theorem dX11_two_3 : decode cX11_two 3 = .ok (.invokevirtual 89, 3) := by decide +kernel
theorem dX11_two_6 : decode cX11_two 6 = .ok (.ifCond .eq 26, 3) := by decide +kernel
theorem dX11_two_32 : decode cX11_two 32 = .ok (.bipush (-2), 2) := by decide +kernel
theorem dX11_two_34 : decode cX11_two 34 = .ok (.ireturn, 1) := by decide +kernel
theorem dX11_two_9 : decode cX11_two 9 = .ok (.aload_n 0, 1) := by decide +kernel
theorem dX11_two_10 : decode cX11_two 10 = .ok (.iload_n 2, 1) := by decide +kernel
theorem dX11_two_11 : decode cX11_two 11 = .ok (.i2l, 1) := by decide +kernel
theorem dX11_two_12 : decode cX11_two 12 = .ok (.invokevirtual 89, 3) := by decide +kernel
theorem dX11_two_15 : decode cX11_two 15 = .ok (.ifCond .eq 17, 3) := by decide +kernel
theorem dX11_two_18 : decode cX11_two 18 = .ok (.aload_n 0, 1) := by decide +kernel
theorem dX11_two_19 : decode cX11_two 19 = .ok (.aload_n 0, 1) := by decide +kernel
theorem dX11_two_20 : decode cX11_two 20 = .ok (.iload_n 1, 1) := by decide +kernel
theorem dX11_two_21 : decode cX11_two 21 = .ok (.iload_n 2, 1) := by decide +kernel
theorem dX11_two_22 : decode cX11_two 22 = .ok (.iconst 0, 1) := by decide +kernel
theorem dX11_two_23 : decode cX11_two 23 = .ok (.invokevirtual 356, 3) := by decide +kernel
theorem dX11_two_26 : decode cX11_two 26 = .ok (.invokevirtual 360, 3) := by decide +kernel
theorem dX11_two_29 : decode cX11_two 29 = .ok (.goto 5, 3) := by decide +kernel
theorem dX11_way_0 : decode cX11_way 0 = .ok (.aload_n 0, 1) := by decide +kernel
theorem dX11_way_1 : decode cX11_way 1 = .ok (.iload_n 1, 1) := by decide +kernel
theorem dX11_way_2 : decode cX11_way 2 = .ok (.i2l, 1) := by decide +kernel
theorem dX11_way_3 : decode cX11_way 3 = .ok (.invokevirtual 89, 3) := by decide +kernel
theorem dX11_way_6 : decode cX11_way 6 = .ok (.ifCond .eq 22, 3) := by decide +kernel
theorem dX11_way_28 : decode cX11_way 28 = .ok (.bipush (-2), 2) := by decide +kernel
theorem dX11_way_30 : decode cX11_way 30 = .ok (.ireturn, 1) := by decide +kernel
theorem dX11_way_9 : decode cX11_way 9 = .ok (.aload_n 0, 1) := by decide +kernel
theorem dX11_way_10 : decode cX11_way 10 = .ok (.iload_n 2, 1) := by decide +kernel
theorem dX11_way_11 : decode cX11_way 11 = .ok (.i2l, 1) := by decide +kernel
theorem dX11_way_12 : decode cX11_way 12 = .ok (.invokevirtual 89, 3) := by decide +kernel
theorem dX11_way_15 : decode cX11_way 15 = .ok (.ifCond .eq 13, 3) := by decide +kernel
theorem dX11_way_18 : decode cX11_way 18 = .ok (.iload_n 3, 1) := by decide +kernel
theorem dX11_way_19 : decode cX11_way 19 = .ok (.i2l, 1) := by decide +kernel
theorem dX11_way_20 : decode cX11_way 20 = .ok (.lconst 0, 1) := by decide +kernel
theorem dX11_way_21 : decode cX11_way 21 = .ok (.lconst 1, 1) := by decide +kernel
theorem dX11_way_22 : decode cX11_way 22 = .ok (.invokestatic 79, 3) := by decide +kernel
theorem dX11_way_25 : decode cX11_way 25 = .ok (.ifCond .ne 6, 3) := by decide +kernel
theorem dX11_way_31 : decode cX11_way 31 = .ok (.aload_n 0, 1) := by decide +kernel
theorem dX11_way_32 : decode cX11_way 32 = .ok (.iload_n 1, 1) := by decide +kernel
theorem dX11_way_33 : decode cX11_way 33 = .ok (.iload_n 2, 1) := by decide +kernel
theorem dX11_way_34 : decode cX11_way 34 = .ok (.iconst 0, 1) := by decide +kernel
theorem dX11_way_35 : decode cX11_way 35 = .ok (.invokevirtual 356, 3) := by decide +kernel
theorem dX11_way_38 : decode cX11_way 38 = .ok (.istore 5, 2) := by decide +kernel
theorem dX11_way_40 : decode cX11_way 40 = .ok (.iload 5, 2) := by decide +kernel
theorem dX11_way_42 : decode cX11_way 42 = .ok (.iconst (-1), 1) := by decide +kernel
theorem dX11_way_43 : decode cX11_way 43 = .ok (.if_icmp .eq 23, 3) := by decide +kernel
theorem dX11_way_66 : decode cX11_way 66 = .ok (.iconst (-1), 1) := by decide +kernel
theorem dX11_way_67 : decode cX11_way 67 = .ok (.ireturn, 1) := by decide +kernel
theorem dX11_way_46 : decode cX11_way 46 = .ok (.iload 4, 2) := by decide +kernel
theorem dX11_way_48 : decode cX11_way 48 = .ok (.i2l, 1) := by decide +kernel
theorem dX11_way_49 : decode cX11_way 49 = .ok (.lconst 0, 1) := by decide +kernel
theorem dX11_way_50 : decode cX11_way 50 = .ok (.aload_n 0, 1) := by decide +kernel
theorem dX11_way_51 : decode cX11_way 51 = .ok (.getfield 52, 3) := by decide +kernel
theorem dX11_way_54 : decode cX11_way 54 = .ok (.iload 5, 2) := by decide +kernel
theorem dX11_way_56 : decode cX11_way 56 = .ok (.iaload, 1) := by decide +kernel
theorem dX11_way_57 : decode cX11_way 57 = .ok (.iconst 1, 1) := by decide +kernel
theorem dX11_way_58 : decode cX11_way 58 = .ok (.isub, 1) := by decide +kernel
theorem dX11_way_59 : decode cX11_way 59 = .ok (.i2l, 1) := by decide +kernel
theorem dX11_way_60 : decode cX11_way 60 = .ok (.invokestatic 79, 3) := by decide +kernel
theorem dX11_way_63 : decode cX11_way 63 = .ok (.ifCond .ne 5, 3) := by decide +kernel
theorem dX11_way_68 : decode cX11_way 68 = .ok (.aload_n 0, 1) := by decide +kernel
theorem dX11_way_69 : decode cX11_way 69 = .ok (.getfield 52, 3) := by decide +kernel
theorem dX11_way_72 : decode cX11_way 72 = .ok (.iload 5, 2) := by decide +kernel
theorem dX11_way_74 : decode cX11_way 74 = .ok (.iaload, 1) := by decide +kernel
theorem dX11_way_75 : decode cX11_way 75 = .ok (.iload 4, 2) := by decide +kernel
theorem dX11_way_77 : decode cX11_way 77 = .ok (.iconst 1, 1) := by decide +kernel
theorem dX11_way_78 : decode cX11_way 78 = .ok (.iadd, 1) := by decide +kernel
theorem dX11_way_79 : decode cX11_way 79 = .ok (.if_icmp .le 15, 3) := by decide +kernel
theorem dX11_way_94 : decode cX11_way 94 = .ok (.iload_n 3, 1) := by decide +kernel
theorem dX11_way_95 : decode cX11_way 95 = .ok (.ifCond .ne 15, 3) := by decide +kernel
theorem dX11_way_110 : decode cX11_way 110 = .ok (.iload 5, 2) := by decide +kernel
theorem dX11_way_112 : decode cX11_way 112 = .ok (.sipush 128, 3) := by decide +kernel
theorem dX11_way_115 : decode cX11_way 115 = .ok (.idiv, 1) := by decide +kernel
theorem dX11_way_116 : decode cX11_way 116 = .ok (.bipush 7, 2) := by decide +kernel
theorem dX11_way_118 : decode cX11_way 118 = .ok (.irem, 1) := by decide +kernel
theorem dX11_way_119 : decode cX11_way 119 = .ok (.ireturn, 1) := by decide +kernel
theorem dX11_way_98 : decode cX11_way 98 = .ok (.iload 5, 2) := by decide +kernel
theorem dX11_way_100 : decode cX11_way 100 = .ok (.sipush 128, 3) := by decide +kernel
theorem dX11_way_103 : decode cX11_way 103 = .ok (.idiv, 1) := by decide +kernel
theorem dX11_way_104 : decode cX11_way 104 = .ok (.bipush 7, 2) := by decide +kernel
theorem dX11_way_106 : decode cX11_way 106 = .ok (.idiv, 1) := by decide +kernel
theorem dX11_way_107 : decode cX11_way 107 = .ok (.goto 12, 3) := by decide +kernel
theorem dX11_way_82 : decode cX11_way 82 = .ok (.aload_n 0, 1) := by decide +kernel
theorem dX11_way_83 : decode cX11_way 83 = .ok (.getfield 55, 3) := by decide +kernel
theorem dX11_way_86 : decode cX11_way 86 = .ok (.iload 5, 2) := by decide +kernel
theorem dX11_way_88 : decode cX11_way 88 = .ok (.iaload, 1) := by decide +kernel
theorem dX11_way_89 : decode cX11_way 89 = .ok (.istore 5, 2) := by decide +kernel
theorem dX11_way_91 : decode cX11_way 91 = .ok (.goto (-23), 3) := by decide +kernel
theorem dX11_pairs_0 : decode cX11_pairs 0 = .ok (.aload_n 0, 1) := by decide +kernel
theorem dX11_pairs_1 : decode cX11_pairs 1 = .ok (.getfield 9, 3) := by decide +kernel
theorem dX11_pairs_4 : decode cX11_pairs 4 = .ok (.iconst 4, 1) := by decide +kernel
theorem dX11_pairs_5 : decode cX11_pairs 5 = .ok (.iaload, 1) := by decide +kernel
theorem dX11_pairs_6 : decode cX11_pairs 6 = .ok (.ifCond .ne 6, 3) := by decide +kernel
theorem dX11_pairs_12 : decode cX11_pairs 12 = .ok (.iconst 0, 1) := by decide +kernel
theorem dX11_pairs_13 : decode cX11_pairs 13 = .ok (.istore_n 1, 1) := by decide +kernel
theorem dX11_pairs_14 : decode cX11_pairs 14 = .ok (.iconst 0, 1) := by decide +kernel
theorem dX11_pairs_15 : decode cX11_pairs 15 = .ok (.istore_n 2, 1) := by decide +kernel
theorem dX11_pairs_16 : decode cX11_pairs 16 = .ok (.iload_n 2, 1) := by decide +kernel
theorem dX11_pairs_17 : decode cX11_pairs 17 = .ok (.aload_n 0, 1) := by decide +kernel
theorem dX11_pairs_18 : decode cX11_pairs 18 = .ok (.getfield 9, 3) := by decide +kernel
theorem dX11_pairs_21 : decode cX11_pairs 21 = .ok (.iconst 4, 1) := by decide +kernel
theorem dX11_pairs_22 : decode cX11_pairs 22 = .ok (.iaload, 1) := by decide +kernel
theorem dX11_pairs_23 : decode cX11_pairs 23 = .ok (.if_icmp .ge 46, 3) := by decide +kernel
theorem dX11_pairs_69 : decode cX11_pairs 69 = .ok (.iload_n 1, 1) := by decide +kernel
theorem dX11_pairs_70 : decode cX11_pairs 70 = .ok (.ireturn, 1) := by decide +kernel
theorem dX11_pairs_26 : decode cX11_pairs 26 = .ok (.iload_n 2, 1) := by decide +kernel
theorem dX11_pairs_27 : decode cX11_pairs 27 = .ok (.istore_n 3, 1) := by decide +kernel
theorem dX11_pairs_28 : decode cX11_pairs 28 = .ok (.iload_n 3, 1) := by decide +kernel
theorem dX11_pairs_29 : decode cX11_pairs 29 = .ok (.aload_n 0, 1) := by decide +kernel
theorem dX11_pairs_30 : decode cX11_pairs 30 = .ok (.getfield 9, 3) := by decide +kernel
theorem dX11_pairs_33 : decode cX11_pairs 33 = .ok (.iconst 4, 1) := by decide +kernel
theorem dX11_pairs_34 : decode cX11_pairs 34 = .ok (.iaload, 1) := by decide +kernel
theorem dX11_pairs_35 : decode cX11_pairs 35 = .ok (.if_icmp .ge 28, 3) := by decide +kernel
theorem dX11_pairs_63 : decode cX11_pairs 63 = .ok (.iinc 2 1, 3) := by decide +kernel
theorem dX11_pairs_66 : decode cX11_pairs 66 = .ok (.goto (-50), 3) := by decide +kernel
theorem dX11_pairs_38 : decode cX11_pairs 38 = .ok (.iload_n 1, 1) := by decide +kernel
theorem dX11_pairs_39 : decode cX11_pairs 39 = .ok (.aload_n 0, 1) := by decide +kernel
theorem dX11_pairs_40 : decode cX11_pairs 40 = .ok (.iload_n 2, 1) := by decide +kernel
theorem dX11_pairs_41 : decode cX11_pairs 41 = .ok (.iload_n 3, 1) := by decide +kernel
theorem dX11_pairs_42 : decode cX11_pairs 42 = .ok (.iconst 0, 1) := by decide +kernel
theorem dX11_pairs_43 : decode cX11_pairs 43 = .ok (.invokevirtual 356, 3) := by decide +kernel
theorem dX11_pairs_46 : decode cX11_pairs 46 = .ok (.iconst (-1), 1) := by decide +kernel
theorem dX11_pairs_55 : decode cX11_pairs 55 = .ok (.iadd, 1) := by decide +kernel
theorem dX11_pairs_56 : decode cX11_pairs 56 = .ok (.istore_n 1, 1) := by decide +kernel
theorem dX11_pairs_57 : decode cX11_pairs 57 = .ok (.iinc 3 1, 3) := by decide +kernel
theorem dX11_pairs_60 : decode cX11_pairs 60 = .ok (.goto (-32), 3) := by decide +kernel
theorem dX11_pairs_47 : decode cX11_pairs 47 = .ok (.if_icmp .eq 7, 3) := by decide +kernel
theorem dX11_pairs_54 : decode cX11_pairs 54 = .ok (.iconst 0, 1) := by decide +kernel
theorem dX11_pairs_50 : decode cX11_pairs 50 = .ok (.iconst 1, 1) := by decide +kernel
theorem dX11_pairs_51 : decode cX11_pairs 51 = .ok (.goto 4, 3) := by decide +kernel
theorem dX11_pairs_9 : decode cX11_pairs 9 = .ok (.bipush (-2), 2) := by decide +kernel
theorem dX11_pairs_11 : decode cX11_pairs 11 = .ok (.ireturn, 1) := by decide +kernel
theorem dX11_saying_0 : decode cX11_saying 0 = .ok (.iconst 0, 1) := by decide +kernel
theorem dX11_saying_1 : decode cX11_saying 1 = .ok (.istore_n 3, 1) := by decide +kernel
theorem dX11_saying_2 : decode cX11_saying 2 = .ok (.iconst 0, 1) := by decide +kernel
theorem dX11_saying_3 : decode cX11_saying 3 = .ok (.istore 4, 2) := by decide +kernel
theorem dX11_saying_5 : decode cX11_saying 5 = .ok (.iload 4, 2) := by decide +kernel
theorem dX11_saying_7 : decode cX11_saying 7 = .ok (.aload_n 0, 1) := by decide +kernel
theorem dX11_saying_8 : decode cX11_saying 8 = .ok (.getfield 9, 3) := by decide +kernel
theorem dX11_saying_11 : decode cX11_saying 11 = .ok (.iconst 5, 1) := by decide +kernel
theorem dX11_saying_12 : decode cX11_saying 12 = .ok (.iaload, 1) := by decide +kernel
theorem dX11_saying_13 : decode cX11_saying 13 = .ok (.if_icmp .ge 45, 3) := by decide +kernel
theorem dX11_saying_58 : decode cX11_saying 58 = .ok (.iload_n 3, 1) := by decide +kernel
theorem dX11_saying_59 : decode cX11_saying 59 = .ok (.ireturn, 1) := by decide +kernel
theorem dX11_saying_16 : decode cX11_saying 16 = .ok (.iload_n 3, 1) := by decide +kernel
theorem dX11_saying_17 : decode cX11_saying 17 = .ok (.iload_n 1, 1) := by decide +kernel
theorem dX11_saying_18 : decode cX11_saying 18 = .ok (.iload 4, 2) := by decide +kernel
theorem dX11_saying_20 : decode cX11_saying 20 = .ok (.invokestatic 258, 3) := by decide +kernel
theorem dX11_saying_23 : decode cX11_saying 23 = .ok (.iconst 1, 1) := by decide +kernel
theorem dX11_saying_50 : decode cX11_saying 50 = .ok (.ior, 1) := by decide +kernel
theorem dX11_saying_51 : decode cX11_saying 51 = .ok (.istore_n 3, 1) := by decide +kernel
theorem dX11_saying_52 : decode cX11_saying 52 = .ok (.iinc 4 1, 3) := by decide +kernel
theorem dX11_saying_55 : decode cX11_saying 55 = .ok (.goto (-50), 3) := by decide +kernel
theorem dX11_saying_49 : decode cX11_saying 49 = .ok (.iconst 0, 1) := by decide +kernel
theorem dX11_saying_24 : decode cX11_saying 24 = .ok (.if_icmp .ne 25, 3) := by decide +kernel
theorem dX11_saying_27 : decode cX11_saying 27 = .ok (.aload_n 0, 1) := by decide +kernel
theorem dX11_saying_28 : decode cX11_saying 28 = .ok (.iload 4, 2) := by decide +kernel
theorem dX11_saying_30 : decode cX11_saying 30 = .ok (.iconst 1, 1) := by decide +kernel
theorem dX11_saying_31 : decode cX11_saying 31 = .ok (.invokevirtual 234, 3) := by decide +kernel
theorem dX11_saying_34 : decode cX11_saying 34 = .ok (.iload_n 2, 1) := by decide +kernel
theorem dX11_saying_35 : decode cX11_saying 35 = .ok (.invokestatic 258, 3) := by decide +kernel
theorem dX11_saying_38 : decode cX11_saying 38 = .ok (.iconst 1, 1) := by decide +kernel
theorem dX11_saying_39 : decode cX11_saying 39 = .ok (.if_icmp .ne 10, 3) := by decide +kernel
theorem dX11_saying_42 : decode cX11_saying 42 = .ok (.iconst 1, 1) := by decide +kernel
theorem dX11_saying_43 : decode cX11_saying 43 = .ok (.iload 4, 2) := by decide +kernel
theorem dX11_saying_45 : decode cX11_saying 45 = .ok (.ishl, 1) := by decide +kernel
theorem dX11_saying_46 : decode cX11_saying 46 = .ok (.goto 4, 3) := by decide +kernel
theorem dX11_askedBy_0 : decode cX11_askedBy 0 = .ok (.aload_n 0, 1) := by decide +kernel
theorem dX11_askedBy_1 : decode cX11_askedBy 1 = .ok (.iload_n 1, 1) := by decide +kernel
theorem dX11_askedBy_2 : decode cX11_askedBy 2 = .ok (.iload_n 2, 1) := by decide +kernel
theorem dX11_askedBy_3 : decode cX11_askedBy 3 = .ok (.invokevirtual 366, 3) := by decide +kernel
theorem dX11_askedBy_6 : decode cX11_askedBy 6 = .ok (.istore_n 3, 1) := by decide +kernel
theorem dX11_askedBy_7 : decode cX11_askedBy 7 = .ok (.iload_n 3, 1) := by decide +kernel
theorem dX11_askedBy_8 : decode cX11_askedBy 8 = .ok (.ifCond .eq 8, 3) := by decide +kernel
theorem dX11_askedBy_16 : decode cX11_askedBy 16 = .ok (.ldc_w 333, 3) := by decide +kernel
theorem dX11_askedBy_19 : decode cX11_askedBy 19 = .ok (.goto 24, 3) := by decide +kernel
theorem dX11_askedBy_43 : decode cX11_askedBy 43 = .ok (.ireturn, 1) := by decide +kernel
theorem dX11_askedBy_11 : decode cX11_askedBy 11 = .ok (.iload_n 3, 1) := by decide +kernel
theorem dX11_askedBy_12 : decode cX11_askedBy 12 = .ok (.iload_n 1, 1) := by decide +kernel
theorem dX11_askedBy_13 : decode cX11_askedBy 13 = .ok (.if_icmp .ne 9, 3) := by decide +kernel
theorem dX11_askedBy_22 : decode cX11_askedBy 22 = .ok (.iconst 1, 1) := by decide +kernel
theorem dX11_askedBy_23 : decode cX11_askedBy 23 = .ok (.aload_n 0, 1) := by decide +kernel
theorem dX11_askedBy_24 : decode cX11_askedBy 24 = .ok (.getfield 58, 3) := by decide +kernel
theorem dX11_askedBy_27 : decode cX11_askedBy 27 = .ok (.iload_n 3, 1) := by decide +kernel
theorem dX11_askedBy_28 : decode cX11_askedBy 28 = .ok (.iaload, 1) := by decide +kernel
theorem dX11_askedBy_29 : decode cX11_askedBy 29 = .ok (.aload_n 0, 1) := by decide +kernel
theorem dX11_askedBy_30 : decode cX11_askedBy 30 = .ok (.getfield 58, 3) := by decide +kernel
theorem dX11_askedBy_33 : decode cX11_askedBy 33 = .ok (.iload_n 1, 1) := by decide +kernel
theorem dX11_askedBy_34 : decode cX11_askedBy 34 = .ok (.iload_n 3, 1) := by decide +kernel
theorem dX11_askedBy_35 : decode cX11_askedBy 35 = .ok (.iconst (-1), 1) := by decide +kernel
theorem dX11_askedBy_36 : decode cX11_askedBy 36 = .ok (.ixor, 1) := by decide +kernel
theorem dX11_askedBy_37 : decode cX11_askedBy 37 = .ok (.iand, 1) := by decide +kernel
theorem dX11_askedBy_38 : decode cX11_askedBy 38 = .ok (.iaload, 1) := by decide +kernel
theorem dX11_askedBy_39 : decode cX11_askedBy 39 = .ok (.invokestatic 369, 3) := by decide +kernel
theorem dX11_askedBy_42 : decode cX11_askedBy 42 = .ok (.iadd, 1) := by decide +kernel
theorem dX11_fillAsked_0 : decode cX11_fillAsked 0 = .ok (.iconst 0, 1) := by decide +kernel
theorem dX11_fillAsked_1 : decode cX11_fillAsked 1 = .ok (.istore_n 1, 1) := by decide +kernel
theorem dX11_fillAsked_2 : decode cX11_fillAsked 2 = .ok (.iload_n 1, 1) := by decide +kernel
theorem dX11_fillAsked_3 : decode cX11_fillAsked 3 = .ok (.iconst 1, 1) := by decide +kernel
theorem dX11_fillAsked_4 : decode cX11_fillAsked 4 = .ok (.aload_n 0, 1) := by decide +kernel
theorem dX11_fillAsked_5 : decode cX11_fillAsked 5 = .ok (.getfield 9, 3) := by decide +kernel
theorem dX11_fillAsked_8 : decode cX11_fillAsked 8 = .ok (.iconst 5, 1) := by decide +kernel
theorem dX11_fillAsked_9 : decode cX11_fillAsked 9 = .ok (.iaload, 1) := by decide +kernel
theorem dX11_fillAsked_10 : decode cX11_fillAsked 10 = .ok (.ishl, 1) := by decide +kernel
theorem dX11_fillAsked_11 : decode cX11_fillAsked 11 = .ok (.if_icmp .ge 61, 3) := by decide +kernel
theorem dX11_fillAsked_72 : decode cX11_fillAsked 72 = .ok (.return_, 1) := by decide +kernel
theorem dX11_fillAsked_14 : decode cX11_fillAsked 14 = .ok (.iload_n 1, 1) := by decide +kernel
theorem dX11_fillAsked_15 : decode cX11_fillAsked 15 = .ok (.invokestatic 255, 3) := by decide +kernel
theorem dX11_fillAsked_18 : decode cX11_fillAsked 18 = .ok (.iconst 1, 1) := by decide +kernel
theorem dX11_fillAsked_29 : decode cX11_fillAsked 29 = .ok (.istore_n 2, 1) := by decide +kernel
theorem dX11_fillAsked_30 : decode cX11_fillAsked 30 = .ok (.iconst 0, 1) := by decide +kernel
theorem dX11_fillAsked_31 : decode cX11_fillAsked 31 = .ok (.istore_n 3, 1) := by decide +kernel
theorem dX11_fillAsked_32 : decode cX11_fillAsked 32 = .ok (.iload_n 3, 1) := by decide +kernel
theorem dX11_fillAsked_33 : decode cX11_fillAsked 33 = .ok (.bipush 6, 2) := by decide +kernel
theorem dX11_fillAsked_59 : decode cX11_fillAsked 59 = .ok (.aload_n 0, 1) := by decide +kernel
theorem dX11_fillAsked_60 : decode cX11_fillAsked 60 = .ok (.getfield 58, 3) := by decide +kernel
theorem dX11_fillAsked_63 : decode cX11_fillAsked 63 = .ok (.iload_n 1, 1) := by decide +kernel
theorem dX11_fillAsked_64 : decode cX11_fillAsked 64 = .ok (.iload_n 2, 1) := by decide +kernel
theorem dX11_fillAsked_65 : decode cX11_fillAsked 65 = .ok (.iastore, 1) := by decide +kernel
theorem dX11_fillAsked_66 : decode cX11_fillAsked 66 = .ok (.iinc 1 1, 3) := by decide +kernel
theorem dX11_fillAsked_69 : decode cX11_fillAsked 69 = .ok (.goto (-67), 3) := by decide +kernel
theorem dX11_fillAsked_35 : decode cX11_fillAsked 35 = .ok (.if_icmp .ge 24, 3) := by decide +kernel
theorem dX11_fillAsked_38 : decode cX11_fillAsked 38 = .ok (.iload_n 2, 1) := by decide +kernel
theorem dX11_fillAsked_39 : decode cX11_fillAsked 39 = .ok (.ifCond .le 20, 3) := by decide +kernel
theorem dX11_fillAsked_42 : decode cX11_fillAsked 42 = .ok (.iload_n 2, 1) := by decide +kernel
theorem dX11_fillAsked_43 : decode cX11_fillAsked 43 = .ok (.aload_n 0, 1) := by decide +kernel
theorem dX11_fillAsked_44 : decode cX11_fillAsked 44 = .ok (.iload_n 1, 1) := by decide +kernel
theorem dX11_fillAsked_45 : decode cX11_fillAsked 45 = .ok (.iload_n 3, 1) := by decide +kernel
theorem dX11_fillAsked_46 : decode cX11_fillAsked 46 = .ok (.invokevirtual 372, 3) := by decide +kernel
theorem dX11_fillAsked_49 : decode cX11_fillAsked 49 = .ok (.invokestatic 124, 3) := by decide +kernel
theorem dX11_fillAsked_52 : decode cX11_fillAsked 52 = .ok (.istore_n 2, 1) := by decide +kernel
theorem dX11_fillAsked_53 : decode cX11_fillAsked 53 = .ok (.iinc 3 1, 3) := by decide +kernel
theorem dX11_fillAsked_56 : decode cX11_fillAsked 56 = .ok (.goto (-24), 3) := by decide +kernel
theorem dX11_fillAsked_19 : decode cX11_fillAsked 19 = .ok (.if_icmp .gt 7, 3) := by decide +kernel
theorem dX11_fillAsked_26 : decode cX11_fillAsked 26 = .ok (.ldc_w 333, 3) := by decide +kernel
theorem dX11_fillAsked_22 : decode cX11_fillAsked 22 = .ok (.iconst 0, 1) := by decide +kernel
theorem dX11_fillAsked_23 : decode cX11_fillAsked 23 = .ok (.goto 6, 3) := by decide +kernel
theorem dX11_which_0 : decode cX11_which 0 = .ok (.aload_n 0, 1) := by decide +kernel
theorem dX11_which_1 : decode cX11_which 1 = .ok (.iload_n 1, 1) := by decide +kernel
theorem dX11_which_2 : decode cX11_which 2 = .ok (.invokevirtual 375, 3) := by decide +kernel
theorem dX11_which_5 : decode cX11_which 5 = .ok (.ifCond .ne 6, 3) := by decide +kernel
theorem dX11_which_11 : decode cX11_which 11 = .ok (.aload_n 0, 1) := by decide +kernel
theorem dX11_which_12 : decode cX11_which 12 = .ok (.invokevirtual 378, 3) := by decide +kernel
theorem dX11_which_15 : decode cX11_which 15 = .ok (.aload_n 0, 1) := by decide +kernel
theorem dX11_which_16 : decode cX11_which 16 = .ok (.getfield 58, 3) := by decide +kernel
theorem dX11_which_19 : decode cX11_which 19 = .ok (.iload_n 1, 1) := by decide +kernel
theorem dX11_which_20 : decode cX11_which 20 = .ok (.iaload, 1) := by decide +kernel
theorem dX11_which_21 : decode cX11_which 21 = .ok (.ldc_w 333, 3) := by decide +kernel
theorem dX11_which_24 : decode cX11_which 24 = .ok (.if_icmp .lt 7, 3) := by decide +kernel
theorem dX11_which_31 : decode cX11_which 31 = .ok (.aload_n 0, 1) := by decide +kernel
theorem dX11_which_32 : decode cX11_which 32 = .ok (.getfield 58, 3) := by decide +kernel
theorem dX11_which_35 : decode cX11_which 35 = .ok (.iload_n 1, 1) := by decide +kernel
theorem dX11_which_36 : decode cX11_which 36 = .ok (.iaload, 1) := by decide +kernel
theorem dX11_which_37 : decode cX11_which 37 = .ok (.ireturn, 1) := by decide +kernel
theorem dX11_which_27 : decode cX11_which 27 = .ok (.iconst (-1), 1) := by decide +kernel
theorem dX11_which_28 : decode cX11_which 28 = .ok (.goto 9, 3) := by decide +kernel
theorem dX11_which_8 : decode cX11_which 8 = .ok (.bipush (-2), 2) := by decide +kernel
theorem dX11_which_10 : decode cX11_which 10 = .ok (.ireturn, 1) := by decide +kernel
theorem dX11_question_0 : decode cX11_question 0 = .ok (.aload_n 0, 1) := by decide +kernel
theorem dX11_question_1 : decode cX11_question 1 = .ok (.iload_n 1, 1) := by decide +kernel
theorem dX11_question_2 : decode cX11_question 2 = .ok (.invokevirtual 375, 3) := by decide +kernel
theorem dX11_question_5 : decode cX11_question 5 = .ok (.ifCond .ne 6, 3) := by decide +kernel
theorem dX11_question_11 : decode cX11_question 11 = .ok (.aload_n 0, 1) := by decide +kernel
theorem dX11_question_12 : decode cX11_question 12 = .ok (.invokevirtual 378, 3) := by decide +kernel
theorem dX11_question_15 : decode cX11_question 15 = .ok (.aload_n 0, 1) := by decide +kernel
theorem dX11_question_16 : decode cX11_question 16 = .ok (.getfield 58, 3) := by decide +kernel
theorem dX11_question_19 : decode cX11_question 19 = .ok (.iload_n 1, 1) := by decide +kernel
theorem dX11_question_20 : decode cX11_question 20 = .ok (.iaload, 1) := by decide +kernel
theorem dX11_question_21 : decode cX11_question 21 = .ok (.ifCond .eq 15, 3) := by decide +kernel
theorem dX11_question_36 : decode cX11_question 36 = .ok (.iconst (-1), 1) := by decide +kernel
theorem dX11_question_37 : decode cX11_question 37 = .ok (.ireturn, 1) := by decide +kernel
theorem dX11_question_24 : decode cX11_question 24 = .ok (.aload_n 0, 1) := by decide +kernel
theorem dX11_question_25 : decode cX11_question 25 = .ok (.getfield 58, 3) := by decide +kernel
theorem dX11_question_28 : decode cX11_question 28 = .ok (.iload_n 1, 1) := by decide +kernel
theorem dX11_question_29 : decode cX11_question 29 = .ok (.iaload, 1) := by decide +kernel
theorem dX11_question_30 : decode cX11_question 30 = .ok (.ldc_w 333, 3) := by decide +kernel
theorem dX11_question_33 : decode cX11_question 33 = .ok (.if_icmp .lt 5, 3) := by decide +kernel
theorem dX11_question_38 : decode cX11_question 38 = .ok (.iconst 0, 1) := by decide +kernel
theorem dX11_question_39 : decode cX11_question 39 = .ok (.istore_n 2, 1) := by decide +kernel
theorem dX11_question_40 : decode cX11_question 40 = .ok (.aload_n 0, 1) := by decide +kernel
theorem dX11_question_41 : decode cX11_question 41 = .ok (.iload_n 1, 1) := by decide +kernel
theorem dX11_question_42 : decode cX11_question 42 = .ok (.iload_n 2, 1) := by decide +kernel
theorem dX11_question_43 : decode cX11_question 43 = .ok (.invokevirtual 372, 3) := by decide +kernel
theorem dX11_question_46 : decode cX11_question 46 = .ok (.aload_n 0, 1) := by decide +kernel
theorem dX11_question_47 : decode cX11_question 47 = .ok (.getfield 58, 3) := by decide +kernel
theorem dX11_question_50 : decode cX11_question 50 = .ok (.iload_n 1, 1) := by decide +kernel
theorem dX11_question_51 : decode cX11_question 51 = .ok (.iaload, 1) := by decide +kernel
theorem dX11_question_52 : decode cX11_question 52 = .ok (.if_icmp .eq 9, 3) := by decide +kernel
theorem dX11_question_61 : decode cX11_question 61 = .ok (.iload_n 2, 1) := by decide +kernel
theorem dX11_question_62 : decode cX11_question 62 = .ok (.ireturn, 1) := by decide +kernel
theorem dX11_question_55 : decode cX11_question 55 = .ok (.iinc 2 1, 3) := by decide +kernel
theorem dX11_question_58 : decode cX11_question 58 = .ok (.goto (-18), 3) := by decide +kernel
theorem dX11_question_8 : decode cX11_question 8 = .ok (.bipush (-2), 2) := by decide +kernel
theorem dX11_question_10 : decode cX11_question 10 = .ok (.ireturn, 1) := by decide +kernel
theorem dX11_yes_0 : decode cX11_yes 0 = .ok (.aload_n 0, 1) := by decide +kernel
theorem dX11_yes_1 : decode cX11_yes 1 = .ok (.iload_n 1, 1) := by decide +kernel
theorem dX11_yes_2 : decode cX11_yes 2 = .ok (.invokevirtual 375, 3) := by decide +kernel
theorem dX11_yes_5 : decode cX11_yes 5 = .ok (.ifCond .eq 24, 3) := by decide +kernel
theorem dX11_yes_29 : decode cX11_yes 29 = .ok (.bipush (-2), 2) := by decide +kernel
theorem dX11_yes_31 : decode cX11_yes 31 = .ok (.ireturn, 1) := by decide +kernel
theorem dX11_yes_8 : decode cX11_yes 8 = .ok (.iload_n 2, 1) := by decide +kernel
theorem dX11_yes_9 : decode cX11_yes 9 = .ok (.i2l, 1) := by decide +kernel
theorem dX11_yes_10 : decode cX11_yes 10 = .ok (.lconst 0, 1) := by decide +kernel
theorem dX11_yes_11 : decode cX11_yes 11 = .ok (.ldc2_w 325, 3) := by decide +kernel
theorem dX11_yes_14 : decode cX11_yes 14 = .ok (.invokestatic 79, 3) := by decide +kernel
theorem dX11_yes_17 : decode cX11_yes 17 = .ok (.ifCond .eq 12, 3) := by decide +kernel
theorem dX11_yes_20 : decode cX11_yes 20 = .ok (.aload_n 0, 1) := by decide +kernel
theorem dX11_yes_21 : decode cX11_yes 21 = .ok (.iload_n 1, 1) := by decide +kernel
theorem dX11_yes_22 : decode cX11_yes 22 = .ok (.iload_n 2, 1) := by decide +kernel
theorem dX11_yes_23 : decode cX11_yes 23 = .ok (.invokevirtual 366, 3) := by decide +kernel
theorem dX11_yes_26 : decode cX11_yes 26 = .ok (.goto 5, 3) := by decide +kernel
theorem dX11_tellsApart_0 : decode cX11_tellsApart 0 = .ok (.iconst 0, 1) := by decide +kernel
theorem dX11_tellsApart_1 : decode cX11_tellsApart 1 = .ok (.istore_n 3, 1) := by decide +kernel
theorem dX11_tellsApart_2 : decode cX11_tellsApart 2 = .ok (.iload_n 3, 1) := by decide +kernel
theorem dX11_tellsApart_3 : decode cX11_tellsApart 3 = .ok (.aload_n 0, 1) := by decide +kernel
theorem dX11_tellsApart_4 : decode cX11_tellsApart 4 = .ok (.getfield 9, 3) := by decide +kernel
theorem dX11_tellsApart_7 : decode cX11_tellsApart 7 = .ok (.iconst 5, 1) := by decide +kernel
theorem dX11_tellsApart_8 : decode cX11_tellsApart 8 = .ok (.iaload, 1) := by decide +kernel
theorem dX11_tellsApart_9 : decode cX11_tellsApart 9 = .ok (.if_icmp .ge 64, 3) := by decide +kernel
theorem dX11_tellsApart_73 : decode cX11_tellsApart 73 = .ok (.iconst 1, 1) := by decide +kernel
theorem dX11_tellsApart_74 : decode cX11_tellsApart 74 = .ok (.ireturn, 1) := by decide +kernel
theorem dX11_tellsApart_12 : decode cX11_tellsApart 12 = .ok (.iconst 0, 1) := by decide +kernel
theorem dX11_tellsApart_13 : decode cX11_tellsApart 13 = .ok (.istore 4, 2) := by decide +kernel
theorem dX11_tellsApart_15 : decode cX11_tellsApart 15 = .ok (.iload 4, 2) := by decide +kernel
theorem dX11_tellsApart_17 : decode cX11_tellsApart 17 = .ok (.iload_n 3, 1) := by decide +kernel
theorem dX11_tellsApart_18 : decode cX11_tellsApart 18 = .ok (.if_icmp .ge 49, 3) := by decide +kernel
theorem dX11_tellsApart_67 : decode cX11_tellsApart 67 = .ok (.iinc 3 1, 3) := by decide +kernel
theorem dX11_tellsApart_70 : decode cX11_tellsApart 70 = .ok (.goto (-68), 3) := by decide +kernel
theorem dX11_tellsApart_21 : decode cX11_tellsApart 21 = .ok (.iload_n 1, 1) := by decide +kernel
theorem dX11_tellsApart_22 : decode cX11_tellsApart 22 = .ok (.iload_n 3, 1) := by decide +kernel
theorem dX11_tellsApart_23 : decode cX11_tellsApart 23 = .ok (.invokestatic 258, 3) := by decide +kernel
theorem dX11_tellsApart_26 : decode cX11_tellsApart 26 = .ok (.iconst 1, 1) := by decide +kernel
theorem dX11_tellsApart_61 : decode cX11_tellsApart 61 = .ok (.iinc 4 1, 3) := by decide +kernel
theorem dX11_tellsApart_64 : decode cX11_tellsApart 64 = .ok (.goto (-49), 3) := by decide +kernel
theorem dX11_tellsApart_27 : decode cX11_tellsApart 27 = .ok (.if_icmp .ne 34, 3) := by decide +kernel
theorem dX11_tellsApart_30 : decode cX11_tellsApart 30 = .ok (.iload_n 1, 1) := by decide +kernel
theorem dX11_tellsApart_31 : decode cX11_tellsApart 31 = .ok (.iload 4, 2) := by decide +kernel
theorem dX11_tellsApart_33 : decode cX11_tellsApart 33 = .ok (.invokestatic 258, 3) := by decide +kernel
theorem dX11_tellsApart_36 : decode cX11_tellsApart 36 = .ok (.iconst 1, 1) := by decide +kernel
theorem dX11_tellsApart_37 : decode cX11_tellsApart 37 = .ok (.if_icmp .ne 24, 3) := by decide +kernel
theorem dX11_tellsApart_40 : decode cX11_tellsApart 40 = .ok (.aload_n 0, 1) := by decide +kernel
theorem dX11_tellsApart_41 : decode cX11_tellsApart 41 = .ok (.iload_n 3, 1) := by decide +kernel
theorem dX11_tellsApart_42 : decode cX11_tellsApart 42 = .ok (.iconst 1, 1) := by decide +kernel
theorem dX11_tellsApart_43 : decode cX11_tellsApart 43 = .ok (.invokevirtual 234, 3) := by decide +kernel
theorem dX11_tellsApart_46 : decode cX11_tellsApart 46 = .ok (.aload_n 0, 1) := by decide +kernel
theorem dX11_tellsApart_47 : decode cX11_tellsApart 47 = .ok (.iload 4, 2) := by decide +kernel
theorem dX11_tellsApart_49 : decode cX11_tellsApart 49 = .ok (.iconst 1, 1) := by decide +kernel
theorem dX11_tellsApart_50 : decode cX11_tellsApart 50 = .ok (.invokevirtual 234, 3) := by decide +kernel
theorem dX11_tellsApart_53 : decode cX11_tellsApart 53 = .ok (.ixor, 1) := by decide +kernel
theorem dX11_tellsApart_54 : decode cX11_tellsApart 54 = .ok (.iload_n 2, 1) := by decide +kernel
theorem dX11_tellsApart_55 : decode cX11_tellsApart 55 = .ok (.iand, 1) := by decide +kernel
theorem dX11_tellsApart_56 : decode cX11_tellsApart 56 = .ok (.ifCond .ne 5, 3) := by decide +kernel
theorem dX11_tellsApart_59 : decode cX11_tellsApart 59 = .ok (.iconst 0, 1) := by decide +kernel
theorem dX11_tellsApart_60 : decode cX11_tellsApart 60 = .ok (.ireturn, 1) := by decide +kernel
theorem dX11_list_0 : decode cX11_list 0 = .ok (.aload_n 0, 1) := by decide +kernel
theorem dX11_list_1 : decode cX11_list 1 = .ok (.iload_n 1, 1) := by decide +kernel
theorem dX11_list_2 : decode cX11_list 2 = .ok (.invokevirtual 375, 3) := by decide +kernel
theorem dX11_list_5 : decode cX11_list 5 = .ok (.ifCond .ne 6, 3) := by decide +kernel
theorem dX11_list_11 : decode cX11_list 11 = .ok (.iconst (-1), 1) := by decide +kernel
theorem dX11_list_12 : decode cX11_list 12 = .ok (.istore_n 2, 1) := by decide +kernel
theorem dX11_list_13 : decode cX11_list 13 = .ok (.iconst 0, 1) := by decide +kernel
theorem dX11_list_14 : decode cX11_list 14 = .ok (.istore_n 3, 1) := by decide +kernel
theorem dX11_list_15 : decode cX11_list 15 = .ok (.iload_n 3, 1) := by decide +kernel
theorem dX11_list_16 : decode cX11_list 16 = .ok (.bipush 64, 2) := by decide +kernel
theorem dX11_list_18 : decode cX11_list 18 = .ok (.if_icmp .ge 40, 3) := by decide +kernel
theorem dX11_list_58 : decode cX11_list 58 = .ok (.iload_n 2, 1) := by decide +kernel
theorem dX11_list_59 : decode cX11_list 59 = .ok (.ireturn, 1) := by decide +kernel
theorem dX11_list_21 : decode cX11_list 21 = .ok (.iload_n 2, 1) := by decide +kernel
theorem dX11_list_22 : decode cX11_list 22 = .ok (.iconst (-1), 1) := by decide +kernel
theorem dX11_list_51 : decode cX11_list 51 = .ok (.istore_n 2, 1) := by decide +kernel
theorem dX11_list_52 : decode cX11_list 52 = .ok (.iinc 3 1, 3) := by decide +kernel
theorem dX11_list_55 : decode cX11_list 55 = .ok (.goto (-40), 3) := by decide +kernel
theorem dX11_list_50 : decode cX11_list 50 = .ok (.iload_n 2, 1) := by decide +kernel
theorem dX11_list_37 : decode cX11_list 37 = .ok (.aload_n 0, 1) := by decide +kernel
theorem dX11_list_38 : decode cX11_list 38 = .ok (.iload_n 1, 1) := by decide +kernel
theorem dX11_list_39 : decode cX11_list 39 = .ok (.iload_n 3, 1) := by decide +kernel
theorem dX11_list_40 : decode cX11_list 40 = .ok (.invokevirtual 381, 3) := by decide +kernel
theorem dX11_list_43 : decode cX11_list 43 = .ok (.ifCond .eq 7, 3) := by decide +kernel
theorem dX11_list_46 : decode cX11_list 46 = .ok (.iload_n 3, 1) := by decide +kernel
theorem dX11_list_47 : decode cX11_list 47 = .ok (.goto 4, 3) := by decide +kernel
theorem dX11_list_23 : decode cX11_list 23 = .ok (.if_icmp .eq 14, 3) := by decide +kernel
theorem dX11_list_26 : decode cX11_list 26 = .ok (.iload_n 3, 1) := by decide +kernel
theorem dX11_list_27 : decode cX11_list 27 = .ok (.invokestatic 255, 3) := by decide +kernel
theorem dX11_list_30 : decode cX11_list 30 = .ok (.iload_n 2, 1) := by decide +kernel
theorem dX11_list_31 : decode cX11_list 31 = .ok (.invokestatic 255, 3) := by decide +kernel
theorem dX11_list_34 : decode cX11_list 34 = .ok (.if_icmp .ge 16, 3) := by decide +kernel
theorem dX11_list_8 : decode cX11_list 8 = .ok (.bipush (-2), 2) := by decide +kernel
theorem dX11_list_10 : decode cX11_list 10 = .ok (.ireturn, 1) := by decide +kernel
theorem dX11_divisor_0 : decode cX11_divisor 0 = .ok (.lload_n 0, 1) := by decide +kernel
theorem dX11_divisor_1 : decode cX11_divisor 1 = .ok (.lstore 4, 2) := by decide +kernel
theorem dX11_divisor_3 : decode cX11_divisor 3 = .ok (.lload_n 2, 1) := by decide +kernel
theorem dX11_divisor_4 : decode cX11_divisor 4 = .ok (.lstore 6, 2) := by decide +kernel
theorem dX11_divisor_6 : decode cX11_divisor 6 = .ok (.lload 6, 2) := by decide +kernel
theorem dX11_divisor_8 : decode cX11_divisor 8 = .ok (.lconst 0, 1) := by decide +kernel
theorem dX11_divisor_9 : decode cX11_divisor 9 = .ok (.lcmp, 1) := by decide +kernel
theorem dX11_divisor_10 : decode cX11_divisor 10 = .ok (.ifCond .eq 21, 3) := by decide +kernel
theorem dX11_divisor_31 : decode cX11_divisor 31 = .ok (.lload 4, 2) := by decide +kernel
theorem dX11_divisor_33 : decode cX11_divisor 33 = .ok (.lreturn, 1) := by decide +kernel
theorem dX11_divisor_13 : decode cX11_divisor 13 = .ok (.lload 4, 2) := by decide +kernel
theorem dX11_divisor_15 : decode cX11_divisor 15 = .ok (.lload 6, 2) := by decide +kernel
theorem dX11_divisor_17 : decode cX11_divisor 17 = .ok (.lrem, 1) := by decide +kernel
theorem dX11_divisor_18 : decode cX11_divisor 18 = .ok (.lstore 8, 2) := by decide +kernel
theorem dX11_divisor_20 : decode cX11_divisor 20 = .ok (.lload 6, 2) := by decide +kernel
theorem dX11_divisor_22 : decode cX11_divisor 22 = .ok (.lstore 4, 2) := by decide +kernel
theorem dX11_divisor_24 : decode cX11_divisor 24 = .ok (.lload 8, 2) := by decide +kernel
theorem dX11_divisor_26 : decode cX11_divisor 26 = .ok (.lstore 6, 2) := by decide +kernel
theorem dX11_divisor_28 : decode cX11_divisor 28 = .ok (.goto (-22), 3) := by decide +kernel
theorem dX11_part_0 : decode cX11_part 0 = .ok (.iload 4, 2) := by decide +kernel
theorem dX11_part_2 : decode cX11_part 2 = .ok (.ifCond .ne 7, 3) := by decide +kernel
theorem dX11_part_9 : decode cX11_part 9 = .ok (.lload_n 2, 1) := by decide +kernel
theorem dX11_part_10 : decode cX11_part 10 = .ok (.lload_n 0, 1) := by decide +kernel
theorem dX11_part_11 : decode cX11_part 11 = .ok (.lload_n 2, 1) := by decide +kernel
theorem dX11_part_12 : decode cX11_part 12 = .ok (.invokestatic 384, 3) := by decide +kernel
theorem dX11_part_15 : decode cX11_part 15 = .ok (.ldiv, 1) := by decide +kernel
theorem dX11_part_16 : decode cX11_part 16 = .ok (.lreturn, 1) := by decide +kernel
theorem dX11_part_5 : decode cX11_part 5 = .ok (.lload_n 0, 1) := by decide +kernel
theorem dX11_part_6 : decode cX11_part 6 = .ok (.goto 4, 3) := by decide +kernel
theorem dX11_meant_0 : decode cX11_meant 0 = .ok (.aload_n 0, 1) := by decide +kernel
theorem dX11_meant_1 : decode cX11_meant 1 = .ok (.iload_n 1, 1) := by decide +kernel
theorem dX11_meant_2 : decode cX11_meant 2 = .ok (.invokevirtual 375, 3) := by decide +kernel
theorem dX11_meant_5 : decode cX11_meant 5 = .ok (.ifCond .eq 21, 3) := by decide +kernel
theorem dX11_meant_26 : decode cX11_meant 26 = .ok (.bipush (-2), 2) := by decide +kernel
theorem dX11_meant_28 : decode cX11_meant 28 = .ok (.ireturn, 1) := by decide +kernel
theorem dX11_meant_8 : decode cX11_meant 8 = .ok (.aload_n 0, 1) := by decide +kernel
theorem dX11_meant_9 : decode cX11_meant 9 = .ok (.iload_n 2, 1) := by decide +kernel
theorem dX11_meant_10 : decode cX11_meant 10 = .ok (.invokevirtual 230, 3) := by decide +kernel
theorem dX11_meant_13 : decode cX11_meant 13 = .ok (.ifCond .eq 13, 3) := by decide +kernel
theorem dX11_meant_16 : decode cX11_meant 16 = .ok (.iload_n 3, 1) := by decide +kernel
theorem dX11_meant_17 : decode cX11_meant 17 = .ok (.i2l, 1) := by decide +kernel
theorem dX11_meant_18 : decode cX11_meant 18 = .ok (.lconst 0, 1) := by decide +kernel
theorem dX11_meant_19 : decode cX11_meant 19 = .ok (.lconst 1, 1) := by decide +kernel
theorem dX11_meant_20 : decode cX11_meant 20 = .ok (.invokestatic 79, 3) := by decide +kernel
theorem dX11_meant_23 : decode cX11_meant 23 = .ok (.ifCond .ne 6, 3) := by decide +kernel
theorem dX11_meant_29 : decode cX11_meant 29 = .ok (.iconst 0, 1) := by decide +kernel
theorem dX11_meant_30 : decode cX11_meant 30 = .ok (.istore 4, 2) := by decide +kernel
theorem dX11_meant_32 : decode cX11_meant 32 = .ok (.iconst 0, 1) := by decide +kernel
theorem dX11_meant_33 : decode cX11_meant 33 = .ok (.istore 5, 2) := by decide +kernel
theorem dX11_meant_35 : decode cX11_meant 35 = .ok (.iload 5, 2) := by decide +kernel
theorem dX11_meant_37 : decode cX11_meant 37 = .ok (.aload_n 0, 1) := by decide +kernel
theorem dX11_meant_38 : decode cX11_meant 38 = .ok (.getfield 9, 3) := by decide +kernel
theorem dX11_meant_41 : decode cX11_meant 41 = .ok (.iconst 5, 1) := by decide +kernel
theorem dX11_meant_42 : decode cX11_meant 42 = .ok (.iaload, 1) := by decide +kernel
theorem dX11_meant_43 : decode cX11_meant 43 = .ok (.if_icmp .ge 28, 3) := by decide +kernel
theorem dX11_meant_71 : decode cX11_meant 71 = .ok (.iload_n 1, 1) := by decide +kernel
theorem dX11_meant_72 : decode cX11_meant 72 = .ok (.iload_n 2, 1) := by decide +kernel
theorem dX11_meant_73 : decode cX11_meant 73 = .ok (.invokestatic 258, 3) := by decide +kernel
theorem dX11_meant_76 : decode cX11_meant 76 = .ok (.aload_n 0, 1) := by decide +kernel
theorem dX11_meant_77 : decode cX11_meant 77 = .ok (.iload_n 2, 1) := by decide +kernel
theorem dX11_meant_78 : decode cX11_meant 78 = .ok (.iconst 0, 1) := by decide +kernel
theorem dX11_meant_79 : decode cX11_meant 79 = .ok (.invokevirtual 234, 3) := by decide +kernel
theorem dX11_meant_82 : decode cX11_meant 82 = .ok (.imul, 1) := by decide +kernel
theorem dX11_meant_83 : decode cX11_meant 83 = .ok (.i2l, 1) := by decide +kernel
theorem dX11_meant_84 : decode cX11_meant 84 = .ok (.iload 4, 2) := by decide +kernel
theorem dX11_meant_86 : decode cX11_meant 86 = .ok (.i2l, 1) := by decide +kernel
theorem dX11_meant_87 : decode cX11_meant 87 = .ok (.iload_n 3, 1) := by decide +kernel
theorem dX11_meant_88 : decode cX11_meant 88 = .ok (.invokestatic 388, 3) := by decide +kernel
theorem dX11_meant_91 : decode cX11_meant 91 = .ok (.l2i, 1) := by decide +kernel
theorem dX11_meant_92 : decode cX11_meant 92 = .ok (.ireturn, 1) := by decide +kernel
theorem dX11_meant_46 : decode cX11_meant 46 = .ok (.iload 4, 2) := by decide +kernel
theorem dX11_meant_48 : decode cX11_meant 48 = .ok (.iload_n 1, 1) := by decide +kernel
theorem dX11_meant_49 : decode cX11_meant 49 = .ok (.iload 5, 2) := by decide +kernel
theorem dX11_meant_51 : decode cX11_meant 51 = .ok (.invokestatic 258, 3) := by decide +kernel
theorem dX11_meant_54 : decode cX11_meant 54 = .ok (.aload_n 0, 1) := by decide +kernel
theorem dX11_meant_55 : decode cX11_meant 55 = .ok (.iload 5, 2) := by decide +kernel
theorem dX11_meant_57 : decode cX11_meant 57 = .ok (.iconst 0, 1) := by decide +kernel
theorem dX11_meant_58 : decode cX11_meant 58 = .ok (.invokevirtual 234, 3) := by decide +kernel
theorem dX11_meant_61 : decode cX11_meant 61 = .ok (.imul, 1) := by decide +kernel
theorem dX11_meant_62 : decode cX11_meant 62 = .ok (.iadd, 1) := by decide +kernel
theorem dX11_meant_63 : decode cX11_meant 63 = .ok (.istore 4, 2) := by decide +kernel
theorem dX11_meant_65 : decode cX11_meant 65 = .ok (.iinc 5 1, 3) := by decide +kernel
theorem dX11_meant_68 : decode cX11_meant 68 = .ok (.goto (-33), 3) := by decide +kernel
theorem dX11_slateAll_0 : decode cX11_slateAll 0 = .ok (.lconst 0, 1) := by decide +kernel
theorem dX11_slateAll_1 : decode cX11_slateAll 1 = .ok (.lstore_n 2, 1) := by decide +kernel
theorem dX11_slateAll_2 : decode cX11_slateAll 2 = .ok (.iconst 0, 1) := by decide +kernel
theorem dX11_slateAll_3 : decode cX11_slateAll 3 = .ok (.istore 4, 2) := by decide +kernel
theorem dX11_slateAll_5 : decode cX11_slateAll 5 = .ok (.iload 4, 2) := by decide +kernel
theorem dX11_slateAll_7 : decode cX11_slateAll 7 = .ok (.aload_n 0, 1) := by decide +kernel
theorem dX11_slateAll_8 : decode cX11_slateAll 8 = .ok (.getfield 9, 3) := by decide +kernel
theorem dX11_slateAll_11 : decode cX11_slateAll 11 = .ok (.iconst 5, 1) := by decide +kernel
theorem dX11_slateAll_12 : decode cX11_slateAll 12 = .ok (.iaload, 1) := by decide +kernel
theorem dX11_slateAll_13 : decode cX11_slateAll 13 = .ok (.if_icmp .ge 22, 3) := by decide +kernel
theorem dX11_slateAll_35 : decode cX11_slateAll 35 = .ok (.lload_n 2, 1) := by decide +kernel
theorem dX11_slateAll_36 : decode cX11_slateAll 36 = .ok (.lconst 0, 1) := by decide +kernel
theorem dX11_slateAll_37 : decode cX11_slateAll 37 = .ok (.lcmp, 1) := by decide +kernel
theorem dX11_slateAll_38 : decode cX11_slateAll 38 = .ok (.ifCond .ne 7, 3) := by decide +kernel
theorem dX11_slateAll_45 : decode cX11_slateAll 45 = .ok (.lload_n 2, 1) := by decide +kernel
theorem dX11_slateAll_46 : decode cX11_slateAll 46 = .ok (.lreturn, 1) := by decide +kernel
theorem dX11_slateAll_41 : decode cX11_slateAll 41 = .ok (.lconst 1, 1) := by decide +kernel
theorem dX11_slateAll_42 : decode cX11_slateAll 42 = .ok (.goto 4, 3) := by decide +kernel
theorem dX11_slateAll_16 : decode cX11_slateAll 16 = .ok (.lload_n 2, 1) := by decide +kernel
theorem dX11_slateAll_17 : decode cX11_slateAll 17 = .ok (.aload_n 0, 1) := by decide +kernel
theorem dX11_slateAll_18 : decode cX11_slateAll 18 = .ok (.iload_n 1, 1) := by decide +kernel
theorem dX11_slateAll_19 : decode cX11_slateAll 19 = .ok (.iconst 2, 1) := by decide +kernel
theorem dX11_slateAll_20 : decode cX11_slateAll 20 = .ok (.iload 4, 2) := by decide +kernel
theorem dX11_slateAll_22 : decode cX11_slateAll 22 = .ok (.iadd, 1) := by decide +kernel
theorem dX11_slateAll_23 : decode cX11_slateAll 23 = .ok (.invokevirtual 234, 3) := by decide +kernel
theorem dX11_slateAll_26 : decode cX11_slateAll 26 = .ok (.i2l, 1) := by decide +kernel
theorem dX11_slateAll_27 : decode cX11_slateAll 27 = .ok (.ladd, 1) := by decide +kernel
theorem dX11_slateAll_28 : decode cX11_slateAll 28 = .ok (.lstore_n 2, 1) := by decide +kernel
theorem dX11_slateAll_29 : decode cX11_slateAll 29 = .ok (.iinc 4 1, 3) := by decide +kernel
theorem dX11_slateAll_32 : decode cX11_slateAll 32 = .ok (.goto (-27), 3) := by decide +kernel
theorem dX11_slateOf_0 : decode cX11_slateOf 0 = .ok (.lconst 0, 1) := by decide +kernel
theorem dX11_slateOf_1 : decode cX11_slateOf 1 = .ok (.lstore_n 3, 1) := by decide +kernel
theorem dX11_slateOf_2 : decode cX11_slateOf 2 = .ok (.iconst 0, 1) := by decide +kernel
theorem dX11_slateOf_3 : decode cX11_slateOf 3 = .ok (.istore 5, 2) := by decide +kernel
theorem dX11_slateOf_5 : decode cX11_slateOf 5 = .ok (.iload 5, 2) := by decide +kernel
theorem dX11_slateOf_7 : decode cX11_slateOf 7 = .ok (.aload_n 0, 1) := by decide +kernel
theorem dX11_slateOf_8 : decode cX11_slateOf 8 = .ok (.getfield 9, 3) := by decide +kernel
theorem dX11_slateOf_11 : decode cX11_slateOf 11 = .ok (.iconst 5, 1) := by decide +kernel
theorem dX11_slateOf_12 : decode cX11_slateOf 12 = .ok (.iaload, 1) := by decide +kernel
theorem dX11_slateOf_13 : decode cX11_slateOf 13 = .ok (.if_icmp .ge 22, 3) := by decide +kernel
theorem dX11_slateOf_35 : decode cX11_slateOf 35 = .ok (.lload_n 3, 1) := by decide +kernel
theorem dX11_slateOf_36 : decode cX11_slateOf 36 = .ok (.lconst 0, 1) := by decide +kernel
theorem dX11_slateOf_37 : decode cX11_slateOf 37 = .ok (.lcmp, 1) := by decide +kernel
theorem dX11_slateOf_38 : decode cX11_slateOf 38 = .ok (.ifCond .ne 16, 3) := by decide +kernel
theorem dX11_slateOf_54 : decode cX11_slateOf 54 = .ok (.aload_n 0, 1) := by decide +kernel
theorem dX11_slateOf_55 : decode cX11_slateOf 55 = .ok (.iload_n 1, 1) := by decide +kernel
theorem dX11_slateOf_56 : decode cX11_slateOf 56 = .ok (.iconst 2, 1) := by decide +kernel
theorem dX11_slateOf_57 : decode cX11_slateOf 57 = .ok (.iload_n 2, 1) := by decide +kernel
theorem dX11_slateOf_58 : decode cX11_slateOf 58 = .ok (.iadd, 1) := by decide +kernel
theorem dX11_slateOf_59 : decode cX11_slateOf 59 = .ok (.invokevirtual 234, 3) := by decide +kernel
theorem dX11_slateOf_62 : decode cX11_slateOf 62 = .ok (.i2l, 1) := by decide +kernel
theorem dX11_slateOf_63 : decode cX11_slateOf 63 = .ok (.lreturn, 1) := by decide +kernel
theorem dX11_slateOf_41 : decode cX11_slateOf 41 = .ok (.iload_n 1, 1) := by decide +kernel
theorem dX11_slateOf_42 : decode cX11_slateOf 42 = .ok (.iload_n 2, 1) := by decide +kernel
theorem dX11_slateOf_43 : decode cX11_slateOf 43 = .ok (.if_icmp .ne 7, 3) := by decide +kernel
theorem dX11_slateOf_50 : decode cX11_slateOf 50 = .ok (.lconst 0, 1) := by decide +kernel
theorem dX11_slateOf_51 : decode cX11_slateOf 51 = .ok (.goto 12, 3) := by decide +kernel
theorem dX11_slateOf_46 : decode cX11_slateOf 46 = .ok (.lconst 1, 1) := by decide +kernel
theorem dX11_slateOf_47 : decode cX11_slateOf 47 = .ok (.goto 16, 3) := by decide +kernel
theorem dX11_slateOf_16 : decode cX11_slateOf 16 = .ok (.lload_n 3, 1) := by decide +kernel
theorem dX11_slateOf_17 : decode cX11_slateOf 17 = .ok (.aload_n 0, 1) := by decide +kernel
theorem dX11_slateOf_18 : decode cX11_slateOf 18 = .ok (.iload_n 1, 1) := by decide +kernel
theorem dX11_slateOf_19 : decode cX11_slateOf 19 = .ok (.iconst 2, 1) := by decide +kernel
theorem dX11_slateOf_20 : decode cX11_slateOf 20 = .ok (.iload 5, 2) := by decide +kernel
theorem dX11_slateOf_22 : decode cX11_slateOf 22 = .ok (.iadd, 1) := by decide +kernel
theorem dX11_slateOf_23 : decode cX11_slateOf 23 = .ok (.invokevirtual 234, 3) := by decide +kernel
theorem dX11_slateOf_26 : decode cX11_slateOf 26 = .ok (.i2l, 1) := by decide +kernel
theorem dX11_slateOf_27 : decode cX11_slateOf 27 = .ok (.ladd, 1) := by decide +kernel
theorem dX11_slateOf_28 : decode cX11_slateOf 28 = .ok (.lstore_n 3, 1) := by decide +kernel
theorem dX11_slateOf_29 : decode cX11_slateOf 29 = .ok (.iinc 5 1, 3) := by decide +kernel
theorem dX11_slateOf_32 : decode cX11_slateOf 32 = .ok (.goto (-27), 3) := by decide +kernel
theorem dX11_likelyRead_0 : decode cX11_likelyRead 0 = .ok (.aload_n 0, 1) := by decide +kernel
theorem dX11_likelyRead_1 : decode cX11_likelyRead 1 = .ok (.iload_n 1, 1) := by decide +kernel
theorem dX11_likelyRead_2 : decode cX11_likelyRead 2 = .ok (.iconst 0, 1) := by decide +kernel
theorem dX11_likelyRead_3 : decode cX11_likelyRead 3 = .ok (.invokevirtual 234, 3) := by decide +kernel
theorem dX11_likelyRead_6 : decode cX11_likelyRead 6 = .ok (.i2l, 1) := by decide +kernel
theorem dX11_likelyRead_7 : decode cX11_likelyRead 7 = .ok (.aload_n 0, 1) := by decide +kernel
theorem dX11_likelyRead_8 : decode cX11_likelyRead 8 = .ok (.iload_n 1, 1) := by decide +kernel
theorem dX11_likelyRead_9 : decode cX11_likelyRead 9 = .ok (.iload_n 2, 1) := by decide +kernel
theorem dX11_likelyRead_10 : decode cX11_likelyRead 10 = .ok (.invokevirtual 391, 3) := by decide +kernel
theorem dX11_likelyRead_13 : decode cX11_likelyRead 13 = .ok (.lmul, 1) := by decide +kernel
theorem dX11_likelyRead_14 : decode cX11_likelyRead 14 = .ok (.lstore_n 3, 1) := by decide +kernel
theorem dX11_likelyRead_15 : decode cX11_likelyRead 15 = .ok (.iconst 0, 1) := by decide +kernel
theorem dX11_likelyRead_16 : decode cX11_likelyRead 16 = .ok (.istore 5, 2) := by decide +kernel
theorem dX11_likelyRead_18 : decode cX11_likelyRead 18 = .ok (.iload 5, 2) := by decide +kernel
theorem dX11_likelyRead_20 : decode cX11_likelyRead 20 = .ok (.aload_n 0, 1) := by decide +kernel
theorem dX11_likelyRead_21 : decode cX11_likelyRead 21 = .ok (.getfield 9, 3) := by decide +kernel
theorem dX11_likelyRead_24 : decode cX11_likelyRead 24 = .ok (.iconst 5, 1) := by decide +kernel
theorem dX11_likelyRead_25 : decode cX11_likelyRead 25 = .ok (.iaload, 1) := by decide +kernel
theorem dX11_likelyRead_26 : decode cX11_likelyRead 26 = .ok (.if_icmp .ge 28, 3) := by decide +kernel
theorem dX11_likelyRead_54 : decode cX11_likelyRead 54 = .ok (.lload_n 3, 1) := by decide +kernel
theorem dX11_likelyRead_55 : decode cX11_likelyRead 55 = .ok (.lreturn, 1) := by decide +kernel
theorem dX11_likelyRead_29 : decode cX11_likelyRead 29 = .ok (.lload_n 3, 1) := by decide +kernel
theorem dX11_likelyRead_30 : decode cX11_likelyRead 30 = .ok (.iload 5, 2) := by decide +kernel
theorem dX11_likelyRead_32 : decode cX11_likelyRead 32 = .ok (.iload_n 1, 1) := by decide +kernel
theorem dX11_likelyRead_46 : decode cX11_likelyRead 46 = .ok (.lmul, 1) := by decide +kernel
theorem dX11_likelyRead_47 : decode cX11_likelyRead 47 = .ok (.lstore_n 3, 1) := by decide +kernel
theorem dX11_likelyRead_48 : decode cX11_likelyRead 48 = .ok (.iinc 5 1, 3) := by decide +kernel
theorem dX11_likelyRead_51 : decode cX11_likelyRead 51 = .ok (.goto (-33), 3) := by decide +kernel
theorem dX11_likelyRead_33 : decode cX11_likelyRead 33 = .ok (.if_icmp .ne 7, 3) := by decide +kernel
theorem dX11_likelyRead_40 : decode cX11_likelyRead 40 = .ok (.aload_n 0, 1) := by decide +kernel
theorem dX11_likelyRead_41 : decode cX11_likelyRead 41 = .ok (.iload 5, 2) := by decide +kernel
theorem dX11_likelyRead_43 : decode cX11_likelyRead 43 = .ok (.invokevirtual 394, 3) := by decide +kernel
theorem dX11_likelyRead_36 : decode cX11_likelyRead 36 = .ok (.lconst 1, 1) := by decide +kernel
theorem dX11_likelyRead_37 : decode cX11_likelyRead 37 = .ok (.goto 9, 3) := by decide +kernel
theorem dX11_allRead_0 : decode cX11_allRead 0 = .ok (.lconst 0, 1) := by decide +kernel
theorem dX11_allRead_1 : decode cX11_allRead 1 = .ok (.lstore_n 2, 1) := by decide +kernel
theorem dX11_allRead_2 : decode cX11_allRead 2 = .ok (.iconst 0, 1) := by decide +kernel
theorem dX11_allRead_3 : decode cX11_allRead 3 = .ok (.istore 4, 2) := by decide +kernel
theorem dX11_allRead_5 : decode cX11_allRead 5 = .ok (.iload 4, 2) := by decide +kernel
theorem dX11_allRead_7 : decode cX11_allRead 7 = .ok (.aload_n 0, 1) := by decide +kernel
theorem dX11_allRead_8 : decode cX11_allRead 8 = .ok (.getfield 9, 3) := by decide +kernel
theorem dX11_allRead_11 : decode cX11_allRead 11 = .ok (.iconst 5, 1) := by decide +kernel
theorem dX11_allRead_12 : decode cX11_allRead 12 = .ok (.iaload, 1) := by decide +kernel
theorem dX11_allRead_13 : decode cX11_allRead 13 = .ok (.if_icmp .ge 19, 3) := by decide +kernel
theorem dX11_allRead_32 : decode cX11_allRead 32 = .ok (.lload_n 2, 1) := by decide +kernel
theorem dX11_allRead_33 : decode cX11_allRead 33 = .ok (.lreturn, 1) := by decide +kernel
theorem dX11_allRead_16 : decode cX11_allRead 16 = .ok (.lload_n 2, 1) := by decide +kernel
theorem dX11_allRead_17 : decode cX11_allRead 17 = .ok (.aload_n 0, 1) := by decide +kernel
theorem dX11_allRead_18 : decode cX11_allRead 18 = .ok (.iload 4, 2) := by decide +kernel
theorem dX11_allRead_20 : decode cX11_allRead 20 = .ok (.iload_n 1, 1) := by decide +kernel
theorem dX11_allRead_21 : decode cX11_allRead 21 = .ok (.invokevirtual 398, 3) := by decide +kernel
theorem dX11_allRead_24 : decode cX11_allRead 24 = .ok (.ladd, 1) := by decide +kernel
theorem dX11_allRead_25 : decode cX11_allRead 25 = .ok (.lstore_n 2, 1) := by decide +kernel
theorem dX11_allRead_26 : decode cX11_allRead 26 = .ok (.iinc 4 1, 3) := by decide +kernel
theorem dX11_allRead_29 : decode cX11_allRead 29 = .ok (.goto (-24), 3) := by decide +kernel
theorem dX11_read_0 : decode cX11_read 0 = .ok (.aload_n 0, 1) := by decide +kernel
theorem dX11_read_1 : decode cX11_read 1 = .ok (.iload_n 1, 1) := by decide +kernel
theorem dX11_read_2 : decode cX11_read 2 = .ok (.invokevirtual 230, 3) := by decide +kernel
theorem dX11_read_5 : decode cX11_read 5 = .ok (.ifCond .eq 21, 3) := by decide +kernel
theorem dX11_read_26 : decode cX11_read 26 = .ok (.ldc2_w 401, 3) := by decide +kernel
theorem dX11_read_29 : decode cX11_read 29 = .ok (.lreturn, 1) := by decide +kernel
theorem dX11_read_8 : decode cX11_read 8 = .ok (.aload_n 0, 1) := by decide +kernel
theorem dX11_read_9 : decode cX11_read 9 = .ok (.iload_n 2, 1) := by decide +kernel
theorem dX11_read_10 : decode cX11_read 10 = .ok (.invokevirtual 230, 3) := by decide +kernel
theorem dX11_read_13 : decode cX11_read 13 = .ok (.ifCond .eq 13, 3) := by decide +kernel
theorem dX11_read_16 : decode cX11_read 16 = .ok (.iload_n 3, 1) := by decide +kernel
theorem dX11_read_17 : decode cX11_read 17 = .ok (.i2l, 1) := by decide +kernel
theorem dX11_read_18 : decode cX11_read 18 = .ok (.lconst 0, 1) := by decide +kernel
theorem dX11_read_19 : decode cX11_read 19 = .ok (.lconst 1, 1) := by decide +kernel
theorem dX11_read_20 : decode cX11_read 20 = .ok (.invokestatic 79, 3) := by decide +kernel
theorem dX11_read_23 : decode cX11_read 23 = .ok (.ifCond .ne 7, 3) := by decide +kernel
theorem dX11_read_30 : decode cX11_read 30 = .ok (.aload_n 0, 1) := by decide +kernel
theorem dX11_read_31 : decode cX11_read 31 = .ok (.iload_n 2, 1) := by decide +kernel
theorem dX11_read_32 : decode cX11_read 32 = .ok (.invokevirtual 403, 3) := by decide +kernel
theorem dX11_read_35 : decode cX11_read 35 = .ok (.lconst 0, 1) := by decide +kernel
theorem dX11_read_36 : decode cX11_read 36 = .ok (.lcmp, 1) := by decide +kernel
theorem dX11_read_37 : decode cX11_read 37 = .ok (.ifCond .ne 8, 3) := by decide +kernel
theorem dX11_read_45 : decode cX11_read 45 = .ok (.aload_n 0, 1) := by decide +kernel
theorem dX11_read_46 : decode cX11_read 46 = .ok (.iload_n 1, 1) := by decide +kernel
theorem dX11_read_47 : decode cX11_read 47 = .ok (.iload_n 2, 1) := by decide +kernel
theorem dX11_read_48 : decode cX11_read 48 = .ok (.invokevirtual 398, 3) := by decide +kernel
theorem dX11_read_51 : decode cX11_read 51 = .ok (.aload_n 0, 1) := by decide +kernel
theorem dX11_read_52 : decode cX11_read 52 = .ok (.iload_n 2, 1) := by decide +kernel
theorem dX11_read_53 : decode cX11_read 53 = .ok (.invokevirtual 403, 3) := by decide +kernel
theorem dX11_read_56 : decode cX11_read 56 = .ok (.iload_n 3, 1) := by decide +kernel
theorem dX11_read_57 : decode cX11_read 57 = .ok (.invokestatic 388, 3) := by decide +kernel
theorem dX11_read_60 : decode cX11_read 60 = .ok (.lreturn, 1) := by decide +kernel
theorem dX11_read_40 : decode cX11_read 40 = .ok (.iload_n 3, 1) := by decide +kernel
theorem dX11_read_41 : decode cX11_read 41 = .ok (.i2l, 1) := by decide +kernel
theorem dX11_read_42 : decode cX11_read 42 = .ok (.goto 18, 3) := by decide +kernel
theorem dX11_guess_0 : decode cX11_guess 0 = .ok (.aload_n 0, 1) := by decide +kernel
theorem dX11_guess_1 : decode cX11_guess 1 = .ok (.iload_n 1, 1) := by decide +kernel
theorem dX11_guess_2 : decode cX11_guess 2 = .ok (.invokevirtual 230, 3) := by decide +kernel
theorem dX11_guess_5 : decode cX11_guess 5 = .ok (.ifCond .ne 6, 3) := by decide +kernel
theorem dX11_guess_11 : decode cX11_guess 11 = .ok (.aload_n 0, 1) := by decide +kernel
theorem dX11_guess_12 : decode cX11_guess 12 = .ok (.iload_n 1, 1) := by decide +kernel
theorem dX11_guess_13 : decode cX11_guess 13 = .ok (.invokevirtual 403, 3) := by decide +kernel
theorem dX11_guess_16 : decode cX11_guess 16 = .ok (.lconst 0, 1) := by decide +kernel
theorem dX11_guess_17 : decode cX11_guess 17 = .ok (.lcmp, 1) := by decide +kernel
theorem dX11_guess_18 : decode cX11_guess 18 = .ok (.ifCond .ne 5, 3) := by decide +kernel
theorem dX11_guess_23 : decode cX11_guess 23 = .ok (.iconst 0, 1) := by decide +kernel
theorem dX11_guess_24 : decode cX11_guess 24 = .ok (.istore_n 2, 1) := by decide +kernel
theorem dX11_guess_25 : decode cX11_guess 25 = .ok (.iconst 1, 1) := by decide +kernel
theorem dX11_guess_26 : decode cX11_guess 26 = .ok (.istore_n 3, 1) := by decide +kernel
theorem dX11_guess_27 : decode cX11_guess 27 = .ok (.iload_n 3, 1) := by decide +kernel
theorem dX11_guess_28 : decode cX11_guess 28 = .ok (.aload_n 0, 1) := by decide +kernel
theorem dX11_guess_29 : decode cX11_guess 29 = .ok (.getfield 9, 3) := by decide +kernel
theorem dX11_guess_32 : decode cX11_guess 32 = .ok (.iconst 5, 1) := by decide +kernel
theorem dX11_guess_33 : decode cX11_guess 33 = .ok (.iaload, 1) := by decide +kernel
theorem dX11_guess_34 : decode cX11_guess 34 = .ok (.if_icmp .ge 31, 3) := by decide +kernel
theorem dX11_guess_65 : decode cX11_guess 65 = .ok (.iload_n 2, 1) := by decide +kernel
theorem dX11_guess_66 : decode cX11_guess 66 = .ok (.ireturn, 1) := by decide +kernel
theorem dX11_guess_37 : decode cX11_guess 37 = .ok (.aload_n 0, 1) := by decide +kernel
theorem dX11_guess_38 : decode cX11_guess 38 = .ok (.iload_n 3, 1) := by decide +kernel
theorem dX11_guess_39 : decode cX11_guess 39 = .ok (.iload_n 1, 1) := by decide +kernel
theorem dX11_guess_40 : decode cX11_guess 40 = .ok (.invokevirtual 398, 3) := by decide +kernel
theorem dX11_guess_43 : decode cX11_guess 43 = .ok (.aload_n 0, 1) := by decide +kernel
theorem dX11_guess_44 : decode cX11_guess 44 = .ok (.iload_n 2, 1) := by decide +kernel
theorem dX11_guess_45 : decode cX11_guess 45 = .ok (.iload_n 1, 1) := by decide +kernel
theorem dX11_guess_46 : decode cX11_guess 46 = .ok (.invokevirtual 398, 3) := by decide +kernel
theorem dX11_guess_49 : decode cX11_guess 49 = .ok (.lcmp, 1) := by decide +kernel
theorem dX11_guess_58 : decode cX11_guess 58 = .ok (.istore_n 2, 1) := by decide +kernel
theorem dX11_guess_59 : decode cX11_guess 59 = .ok (.iinc 3 1, 3) := by decide +kernel
theorem dX11_guess_62 : decode cX11_guess 62 = .ok (.goto (-35), 3) := by decide +kernel
theorem dX11_guess_50 : decode cX11_guess 50 = .ok (.ifCond .le 7, 3) := by decide +kernel
theorem dX11_guess_57 : decode cX11_guess 57 = .ok (.iload_n 2, 1) := by decide +kernel
theorem dX11_guess_53 : decode cX11_guess 53 = .ok (.iload_n 3, 1) := by decide +kernel
theorem dX11_guess_54 : decode cX11_guess 54 = .ok (.goto 4, 3) := by decide +kernel
theorem dX11_guess_21 : decode cX11_guess 21 = .ok (.iconst (-1), 1) := by decide +kernel
theorem dX11_guess_22 : decode cX11_guess 22 = .ok (.ireturn, 1) := by decide +kernel
theorem dX11_guess_8 : decode cX11_guess 8 = .ok (.bipush (-2), 2) := by decide +kernel
theorem dX11_guess_10 : decode cX11_guess 10 = .ok (.ireturn, 1) := by decide +kernel
theorem dX11_right_0 : decode cX11_right 0 = .ok (.aload_n 0, 1) := by decide +kernel
theorem dX11_right_1 : decode cX11_right 1 = .ok (.getfield 9, 3) := by decide +kernel
theorem dX11_right_4 : decode cX11_right 4 = .ok (.iconst 5, 1) := by decide +kernel
theorem dX11_right_5 : decode cX11_right 5 = .ok (.iaload, 1) := by decide +kernel
theorem dX11_right_6 : decode cX11_right 6 = .ok (.ifCond .eq 13, 3) := by decide +kernel
theorem dX11_right_19 : decode cX11_right 19 = .ok (.ldc2_w 401, 3) := by decide +kernel
theorem dX11_right_22 : decode cX11_right 22 = .ok (.lreturn, 1) := by decide +kernel
theorem dX11_right_9 : decode cX11_right 9 = .ok (.iload_n 1, 1) := by decide +kernel
theorem dX11_right_10 : decode cX11_right 10 = .ok (.i2l, 1) := by decide +kernel
theorem dX11_right_11 : decode cX11_right 11 = .ok (.lconst 0, 1) := by decide +kernel
theorem dX11_right_12 : decode cX11_right 12 = .ok (.lconst 1, 1) := by decide +kernel
theorem dX11_right_13 : decode cX11_right 13 = .ok (.invokestatic 79, 3) := by decide +kernel
theorem dX11_right_16 : decode cX11_right 16 = .ok (.ifCond .ne 7, 3) := by decide +kernel
theorem dX11_right_23 : decode cX11_right 23 = .ok (.lconst 0, 1) := by decide +kernel
theorem dX11_right_24 : decode cX11_right 24 = .ok (.lstore_n 2, 1) := by decide +kernel
theorem dX11_right_25 : decode cX11_right 25 = .ok (.lconst 0, 1) := by decide +kernel
theorem dX11_right_26 : decode cX11_right 26 = .ok (.lstore 4, 2) := by decide +kernel
theorem dX11_right_28 : decode cX11_right 28 = .ok (.iconst 0, 1) := by decide +kernel
theorem dX11_right_29 : decode cX11_right 29 = .ok (.istore 6, 2) := by decide +kernel
theorem dX11_right_31 : decode cX11_right 31 = .ok (.iload 6, 2) := by decide +kernel
theorem dX11_right_33 : decode cX11_right 33 = .ok (.aload_n 0, 1) := by decide +kernel
theorem dX11_right_34 : decode cX11_right 34 = .ok (.getfield 9, 3) := by decide +kernel
theorem dX11_right_37 : decode cX11_right 37 = .ok (.iconst 5, 1) := by decide +kernel
theorem dX11_right_38 : decode cX11_right 38 = .ok (.iaload, 1) := by decide +kernel
theorem dX11_right_39 : decode cX11_right 39 = .ok (.if_icmp .ge 53, 3) := by decide +kernel
theorem dX11_right_92 : decode cX11_right 92 = .ok (.lload_n 2, 1) := by decide +kernel
theorem dX11_right_93 : decode cX11_right 93 = .ok (.lload 4, 2) := by decide +kernel
theorem dX11_right_95 : decode cX11_right 95 = .ok (.iload_n 1, 1) := by decide +kernel
theorem dX11_right_96 : decode cX11_right 96 = .ok (.invokestatic 388, 3) := by decide +kernel
theorem dX11_right_99 : decode cX11_right 99 = .ok (.lreturn, 1) := by decide +kernel
theorem dX11_right_42 : decode cX11_right 42 = .ok (.lload_n 2, 1) := by decide +kernel
theorem dX11_right_43 : decode cX11_right 43 = .ok (.aload_n 0, 1) := by decide +kernel
theorem dX11_right_44 : decode cX11_right 44 = .ok (.iload 6, 2) := by decide +kernel
theorem dX11_right_46 : decode cX11_right 46 = .ok (.iload 6, 2) := by decide +kernel
theorem dX11_right_48 : decode cX11_right 48 = .ok (.invokevirtual 398, 3) := by decide +kernel
theorem dX11_right_51 : decode cX11_right 51 = .ok (.ladd, 1) := by decide +kernel
theorem dX11_right_52 : decode cX11_right 52 = .ok (.lstore_n 2, 1) := by decide +kernel
theorem dX11_right_53 : decode cX11_right 53 = .ok (.iconst 0, 1) := by decide +kernel
theorem dX11_right_54 : decode cX11_right 54 = .ok (.istore 7, 2) := by decide +kernel
theorem dX11_right_56 : decode cX11_right 56 = .ok (.iload 7, 2) := by decide +kernel
theorem dX11_right_58 : decode cX11_right 58 = .ok (.aload_n 0, 1) := by decide +kernel
theorem dX11_right_59 : decode cX11_right 59 = .ok (.getfield 9, 3) := by decide +kernel
theorem dX11_right_62 : decode cX11_right 62 = .ok (.iconst 5, 1) := by decide +kernel
theorem dX11_right_63 : decode cX11_right 63 = .ok (.iaload, 1) := by decide +kernel
theorem dX11_right_64 : decode cX11_right 64 = .ok (.if_icmp .ge 22, 3) := by decide +kernel
theorem dX11_right_86 : decode cX11_right 86 = .ok (.iinc 6 1, 3) := by decide +kernel
theorem dX11_right_89 : decode cX11_right 89 = .ok (.goto (-58), 3) := by decide +kernel
theorem dX11_right_67 : decode cX11_right 67 = .ok (.lload 4, 2) := by decide +kernel
theorem dX11_right_69 : decode cX11_right 69 = .ok (.aload_n 0, 1) := by decide +kernel
theorem dX11_right_70 : decode cX11_right 70 = .ok (.iload 6, 2) := by decide +kernel
theorem dX11_right_72 : decode cX11_right 72 = .ok (.iload 7, 2) := by decide +kernel
theorem dX11_right_74 : decode cX11_right 74 = .ok (.invokevirtual 398, 3) := by decide +kernel
theorem dX11_right_77 : decode cX11_right 77 = .ok (.ladd, 1) := by decide +kernel
theorem dX11_right_78 : decode cX11_right 78 = .ok (.lstore 4, 2) := by decide +kernel
theorem dX11_right_80 : decode cX11_right 80 = .ok (.iinc 7 1, 3) := by decide +kernel
theorem dX11_right_83 : decode cX11_right 83 = .ok (.goto (-27), 3) := by decide +kernel
theorem dX11_oftenest_0 : decode cX11_oftenest 0 = .ok (.iconst (-1), 1) := by decide +kernel
theorem dX11_oftenest_1 : decode cX11_oftenest 1 = .ok (.istore_n 3, 1) := by decide +kernel
theorem dX11_oftenest_2 : decode cX11_oftenest 2 = .ok (.iconst 0, 1) := by decide +kernel
theorem dX11_oftenest_3 : decode cX11_oftenest 3 = .ok (.istore 4, 2) := by decide +kernel
theorem dX11_oftenest_5 : decode cX11_oftenest 5 = .ok (.iconst 0, 1) := by decide +kernel
theorem dX11_oftenest_6 : decode cX11_oftenest 6 = .ok (.istore 5, 2) := by decide +kernel
theorem dX11_oftenest_8 : decode cX11_oftenest 8 = .ok (.iload 5, 2) := by decide +kernel
theorem dX11_oftenest_10 : decode cX11_oftenest 10 = .ok (.aload_n 0, 1) := by decide +kernel
theorem dX11_oftenest_11 : decode cX11_oftenest 11 = .ok (.getfield 9, 3) := by decide +kernel
theorem dX11_oftenest_14 : decode cX11_oftenest 14 = .ok (.iconst 4, 1) := by decide +kernel
theorem dX11_oftenest_15 : decode cX11_oftenest 15 = .ok (.iaload, 1) := by decide +kernel
theorem dX11_oftenest_16 : decode cX11_oftenest 16 = .ok (.if_icmp .ge 98, 3) := by decide +kernel
theorem dX11_oftenest_114 : decode cX11_oftenest 114 = .ok (.iload_n 3, 1) := by decide +kernel
theorem dX11_oftenest_115 : decode cX11_oftenest 115 = .ok (.ireturn, 1) := by decide +kernel
theorem dX11_oftenest_19 : decode cX11_oftenest 19 = .ok (.iconst 0, 1) := by decide +kernel
theorem dX11_oftenest_20 : decode cX11_oftenest 20 = .ok (.istore 6, 2) := by decide +kernel
theorem dX11_oftenest_22 : decode cX11_oftenest 22 = .ok (.iload_n 2, 1) := by decide +kernel
theorem dX11_oftenest_23 : decode cX11_oftenest 23 = .ok (.iconst (-1), 1) := by decide +kernel
theorem dX11_oftenest_32 : decode cX11_oftenest 32 = .ok (.istore 7, 2) := by decide +kernel
theorem dX11_oftenest_34 : decode cX11_oftenest 34 = .ok (.iload 7, 2) := by decide +kernel
theorem dX11_oftenest_36 : decode cX11_oftenest 36 = .ok (.aload_n 0, 1) := by decide +kernel
theorem dX11_oftenest_37 : decode cX11_oftenest 37 = .ok (.getfield 61, 3) := by decide +kernel
theorem dX11_oftenest_40 : decode cX11_oftenest 40 = .ok (.iload_n 1, 1) := by decide +kernel
theorem dX11_oftenest_41 : decode cX11_oftenest 41 = .ok (.iaload, 1) := by decide +kernel
theorem dX11_oftenest_42 : decode cX11_oftenest 42 = .ok (.if_icmp .ge 49, 3) := by decide +kernel
theorem dX11_oftenest_91 : decode cX11_oftenest 91 = .ok (.iload 6, 2) := by decide +kernel
theorem dX11_oftenest_93 : decode cX11_oftenest 93 = .ok (.iload 4, 2) := by decide +kernel
theorem dX11_oftenest_108 : decode cX11_oftenest 108 = .ok (.iinc 5 1, 3) := by decide +kernel
theorem dX11_oftenest_111 : decode cX11_oftenest 111 = .ok (.goto (-103), 3) := by decide +kernel
theorem dX11_oftenest_95 : decode cX11_oftenest 95 = .ok (.if_icmp .gt 6, 3) := by decide +kernel
theorem dX11_oftenest_101 : decode cX11_oftenest 101 = .ok (.iload 6, 2) := by decide +kernel
theorem dX11_oftenest_103 : decode cX11_oftenest 103 = .ok (.istore 4, 2) := by decide +kernel
theorem dX11_oftenest_105 : decode cX11_oftenest 105 = .ok (.iload 5, 2) := by decide +kernel
theorem dX11_oftenest_107 : decode cX11_oftenest 107 = .ok (.istore_n 3, 1) := by decide +kernel
theorem dX11_oftenest_98 : decode cX11_oftenest 98 = .ok (.goto 10, 3) := by decide +kernel
theorem dX11_oftenest_45 : decode cX11_oftenest 45 = .ok (.iload 6, 2) := by decide +kernel
theorem dX11_oftenest_47 : decode cX11_oftenest 47 = .ok (.aload_n 0, 1) := by decide +kernel
theorem dX11_oftenest_48 : decode cX11_oftenest 48 = .ok (.iload_n 1, 1) := by decide +kernel
theorem dX11_oftenest_49 : decode cX11_oftenest 49 = .ok (.iload 7, 2) := by decide +kernel
theorem dX11_oftenest_51 : decode cX11_oftenest 51 = .ok (.invokevirtual 293, 3) := by decide +kernel
theorem dX11_oftenest_54 : decode cX11_oftenest 54 = .ok (.iload 5, 2) := by decide +kernel
theorem dX11_oftenest_82 : decode cX11_oftenest 82 = .ok (.iadd, 1) := by decide +kernel
theorem dX11_oftenest_83 : decode cX11_oftenest 83 = .ok (.istore 6, 2) := by decide +kernel
theorem dX11_oftenest_85 : decode cX11_oftenest 85 = .ok (.iinc 7 1, 3) := by decide +kernel
theorem dX11_oftenest_88 : decode cX11_oftenest 88 = .ok (.goto (-54), 3) := by decide +kernel
theorem dX11_oftenest_81 : decode cX11_oftenest 81 = .ok (.iconst 0, 1) := by decide +kernel
theorem dX11_oftenest_56 : decode cX11_oftenest 56 = .ok (.if_icmp .ne 25, 3) := by decide +kernel
theorem dX11_oftenest_59 : decode cX11_oftenest 59 = .ok (.iload_n 2, 1) := by decide +kernel
theorem dX11_oftenest_60 : decode cX11_oftenest 60 = .ok (.iconst (-1), 1) := by decide +kernel
theorem dX11_oftenest_77 : decode cX11_oftenest 77 = .ok (.iconst 1, 1) := by decide +kernel
theorem dX11_oftenest_78 : decode cX11_oftenest 78 = .ok (.goto 4, 3) := by decide +kernel
theorem dX11_oftenest_61 : decode cX11_oftenest 61 = .ok (.if_icmp .eq 16, 3) := by decide +kernel
theorem dX11_oftenest_64 : decode cX11_oftenest 64 = .ok (.aload_n 0, 1) := by decide +kernel
theorem dX11_oftenest_65 : decode cX11_oftenest 65 = .ok (.iload_n 1, 1) := by decide +kernel
theorem dX11_oftenest_66 : decode cX11_oftenest 66 = .ok (.iload 7, 2) := by decide +kernel
theorem dX11_oftenest_68 : decode cX11_oftenest 68 = .ok (.iconst 1, 1) := by decide +kernel
theorem dX11_oftenest_69 : decode cX11_oftenest 69 = .ok (.isub, 1) := by decide +kernel
theorem dX11_oftenest_70 : decode cX11_oftenest 70 = .ok (.invokevirtual 293, 3) := by decide +kernel
theorem dX11_oftenest_73 : decode cX11_oftenest 73 = .ok (.iload_n 2, 1) := by decide +kernel
theorem dX11_oftenest_74 : decode cX11_oftenest 74 = .ok (.if_icmp .ne 7, 3) := by decide +kernel
theorem dX11_oftenest_24 : decode cX11_oftenest 24 = .ok (.if_icmp .ne 7, 3) := by decide +kernel
theorem dX11_oftenest_31 : decode cX11_oftenest 31 = .ok (.iconst 1, 1) := by decide +kernel
theorem dX11_oftenest_27 : decode cX11_oftenest 27 = .ok (.iconst 0, 1) := by decide +kernel
theorem dX11_oftenest_28 : decode cX11_oftenest 28 = .ok (.goto 4, 3) := by decide +kernel
theorem dX11_draw_0 : decode cX11_draw 0 = .ok (.aload_n 0, 1) := by decide +kernel
theorem dX11_draw_1 : decode cX11_draw 1 = .ok (.ldc2_w 412, 3) := by decide +kernel
theorem dX11_draw_4 : decode cX11_draw 4 = .ok (.aload_n 0, 1) := by decide +kernel
theorem dX11_draw_5 : decode cX11_draw 5 = .ok (.getfield 414, 3) := by decide +kernel
theorem dX11_draw_8 : decode cX11_draw 8 = .ok (.lmul, 1) := by decide +kernel
theorem dX11_draw_9 : decode cX11_draw 9 = .ok (.ldc2_w 418, 3) := by decide +kernel
theorem dX11_draw_12 : decode cX11_draw 12 = .ok (.ladd, 1) := by decide +kernel
theorem dX11_draw_13 : decode cX11_draw 13 = .ok (.ldc2_w 420, 3) := by decide +kernel
theorem dX11_draw_16 : decode cX11_draw 16 = .ok (.lrem, 1) := by decide +kernel
theorem dX11_draw_17 : decode cX11_draw 17 = .ok (.putfield 414, 3) := by decide +kernel
theorem dX11_draw_20 : decode cX11_draw 20 = .ok (.aload_n 0, 1) := by decide +kernel
theorem dX11_draw_21 : decode cX11_draw 21 = .ok (.getfield 414, 3) := by decide +kernel
theorem dX11_draw_24 : decode cX11_draw 24 = .ok (.ldc2_w 422, 3) := by decide +kernel
theorem dX11_draw_27 : decode cX11_draw 27 = .ok (.ldiv, 1) := by decide +kernel
theorem dX11_draw_28 : decode cX11_draw 28 = .ok (.iload_n 1, 1) := by decide +kernel
theorem dX11_draw_29 : decode cX11_draw 29 = .ok (.i2l, 1) := by decide +kernel
theorem dX11_draw_30 : decode cX11_draw 30 = .ok (.lrem, 1) := by decide +kernel
theorem dX11_draw_31 : decode cX11_draw 31 = .ok (.l2i, 1) := by decide +kernel
theorem dX11_draw_32 : decode cX11_draw 32 = .ok (.ireturn, 1) := by decide +kernel
theorem dX11_firstRoom_0 : decode cX11_firstRoom 0 = .ok (.aload_n 0, 1) := by decide +kernel
theorem dX11_firstRoom_1 : decode cX11_firstRoom 1 = .ok (.bipush 100, 2) := by decide +kernel
theorem dX11_firstRoom_3 : decode cX11_firstRoom 3 = .ok (.invokevirtual 424, 3) := by decide +kernel
theorem dX11_firstRoom_6 : decode cX11_firstRoom 6 = .ok (.aload_n 0, 1) := by decide +kernel
theorem dX11_firstRoom_7 : decode cX11_firstRoom 7 = .ok (.getfield 9, 3) := by decide +kernel
theorem dX11_firstRoom_10 : decode cX11_firstRoom 10 = .ok (.iconst 1, 1) := by decide +kernel
theorem dX11_firstRoom_11 : decode cX11_firstRoom 11 = .ok (.iaload, 1) := by decide +kernel
theorem dX11_firstRoom_12 : decode cX11_firstRoom 12 = .ok (.if_icmp .ge 10, 3) := by decide +kernel
theorem dX11_firstRoom_22 : decode cX11_firstRoom 22 = .ok (.iconst (-1), 1) := by decide +kernel
theorem dX11_firstRoom_23 : decode cX11_firstRoom 23 = .ok (.ireturn, 1) := by decide +kernel
theorem dX11_firstRoom_15 : decode cX11_firstRoom 15 = .ok (.aload_n 0, 1) := by decide +kernel
theorem dX11_firstRoom_16 : decode cX11_firstRoom 16 = .ok (.invokevirtual 242, 3) := by decide +kernel
theorem dX11_firstRoom_19 : decode cX11_firstRoom 19 = .ok (.ifCond .ne 5, 3) := by decide +kernel
theorem dX11_firstRoom_24 : decode cX11_firstRoom 24 = .ok (.aload_n 0, 1) := by decide +kernel
theorem dX11_firstRoom_25 : decode cX11_firstRoom 25 = .ok (.aload_n 0, 1) := by decide +kernel
theorem dX11_firstRoom_26 : decode cX11_firstRoom 26 = .ok (.invokevirtual 242, 3) := by decide +kernel
theorem dX11_firstRoom_29 : decode cX11_firstRoom 29 = .ok (.invokevirtual 424, 3) := by decide +kernel
theorem dX11_firstRoom_32 : decode cX11_firstRoom 32 = .ok (.istore_n 1, 1) := by decide +kernel
theorem dX11_firstRoom_33 : decode cX11_firstRoom 33 = .ok (.iconst 0, 1) := by decide +kernel
theorem dX11_firstRoom_34 : decode cX11_firstRoom 34 = .ok (.istore_n 2, 1) := by decide +kernel
theorem dX11_firstRoom_35 : decode cX11_firstRoom 35 = .ok (.aload_n 0, 1) := by decide +kernel
theorem dX11_firstRoom_36 : decode cX11_firstRoom 36 = .ok (.iconst 0, 1) := by decide +kernel
theorem dX11_firstRoom_37 : decode cX11_firstRoom 37 = .ok (.iconst 2, 1) := by decide +kernel
theorem dX11_firstRoom_38 : decode cX11_firstRoom 38 = .ok (.invokevirtual 227, 3) := by decide +kernel
theorem dX11_firstRoom_41 : decode cX11_firstRoom 41 = .ok (.istore_n 3, 1) := by decide +kernel
theorem dX11_firstRoom_42 : decode cX11_firstRoom 42 = .ok (.iload_n 3, 1) := by decide +kernel
theorem dX11_firstRoom_43 : decode cX11_firstRoom 43 = .ok (.iload_n 1, 1) := by decide +kernel
theorem dX11_firstRoom_44 : decode cX11_firstRoom 44 = .ok (.if_icmp .gt 18, 3) := by decide +kernel
theorem dX11_firstRoom_62 : decode cX11_firstRoom 62 = .ok (.iload_n 2, 1) := by decide +kernel
theorem dX11_firstRoom_63 : decode cX11_firstRoom 63 = .ok (.ireturn, 1) := by decide +kernel
theorem dX11_firstRoom_47 : decode cX11_firstRoom 47 = .ok (.iinc 2 1, 3) := by decide +kernel
theorem dX11_firstRoom_50 : decode cX11_firstRoom 50 = .ok (.iload_n 3, 1) := by decide +kernel
theorem dX11_firstRoom_51 : decode cX11_firstRoom 51 = .ok (.aload_n 0, 1) := by decide +kernel
theorem dX11_firstRoom_52 : decode cX11_firstRoom 52 = .ok (.iload_n 2, 1) := by decide +kernel
theorem dX11_firstRoom_53 : decode cX11_firstRoom 53 = .ok (.iconst 2, 1) := by decide +kernel
theorem dX11_firstRoom_54 : decode cX11_firstRoom 54 = .ok (.invokevirtual 227, 3) := by decide +kernel
theorem dX11_firstRoom_57 : decode cX11_firstRoom 57 = .ok (.iadd, 1) := by decide +kernel
theorem dX11_firstRoom_58 : decode cX11_firstRoom 58 = .ok (.istore_n 3, 1) := by decide +kernel
theorem dX11_firstRoom_59 : decode cX11_firstRoom 59 = .ok (.goto (-17), 3) := by decide +kernel
theorem dX11_doorFrom_0 : decode cX11_doorFrom 0 = .ok (.iload_n 2, 1) := by decide +kernel
theorem dX11_doorFrom_1 : decode cX11_doorFrom 1 = .ok (.istore_n 3, 1) := by decide +kernel
theorem dX11_doorFrom_2 : decode cX11_doorFrom 2 = .ok (.iconst 0, 1) := by decide +kernel
theorem dX11_doorFrom_3 : decode cX11_doorFrom 3 = .ok (.istore 4, 2) := by decide +kernel
theorem dX11_doorFrom_5 : decode cX11_doorFrom 5 = .ok (.iload 4, 2) := by decide +kernel
theorem dX11_doorFrom_7 : decode cX11_doorFrom 7 = .ok (.aload_n 0, 1) := by decide +kernel
theorem dX11_doorFrom_8 : decode cX11_doorFrom 8 = .ok (.getfield 9, 3) := by decide +kernel
theorem dX11_doorFrom_11 : decode cX11_doorFrom 11 = .ok (.iconst 4, 1) := by decide +kernel
theorem dX11_doorFrom_12 : decode cX11_doorFrom 12 = .ok (.iaload, 1) := by decide +kernel
theorem dX11_doorFrom_13 : decode cX11_doorFrom 13 = .ok (.if_icmp .ge 36, 3) := by decide +kernel
theorem dX11_doorFrom_49 : decode cX11_doorFrom 49 = .ok (.iconst (-1), 1) := by decide +kernel
theorem dX11_doorFrom_50 : decode cX11_doorFrom 50 = .ok (.ireturn, 1) := by decide +kernel
theorem dX11_doorFrom_16 : decode cX11_doorFrom 16 = .ok (.aload_n 0, 1) := by decide +kernel
theorem dX11_doorFrom_17 : decode cX11_doorFrom 17 = .ok (.iload_n 1, 1) := by decide +kernel
theorem dX11_doorFrom_18 : decode cX11_doorFrom 18 = .ok (.iconst 3, 1) := by decide +kernel
theorem dX11_doorFrom_19 : decode cX11_doorFrom 19 = .ok (.invokevirtual 227, 3) := by decide +kernel
theorem dX11_doorFrom_22 : decode cX11_doorFrom 22 = .ok (.iload 4, 2) := by decide +kernel
theorem dX11_doorFrom_24 : decode cX11_doorFrom 24 = .ok (.invokestatic 258, 3) := by decide +kernel
theorem dX11_doorFrom_43 : decode cX11_doorFrom 43 = .ok (.iinc 4 1, 3) := by decide +kernel
theorem dX11_doorFrom_46 : decode cX11_doorFrom 46 = .ok (.goto (-41), 3) := by decide +kernel
theorem dX11_doorFrom_27 : decode cX11_doorFrom 27 = .ok (.ifCond .ne 6, 3) := by decide +kernel
theorem dX11_doorFrom_33 : decode cX11_doorFrom 33 = .ok (.iload_n 3, 1) := by decide +kernel
theorem dX11_doorFrom_34 : decode cX11_doorFrom 34 = .ok (.ifCond .ne 6, 3) := by decide +kernel
theorem dX11_doorFrom_40 : decode cX11_doorFrom 40 = .ok (.iinc 3 (-1), 3) := by decide +kernel
theorem dX11_doorFrom_37 : decode cX11_doorFrom 37 = .ok (.iload 4, 2) := by decide +kernel
theorem dX11_doorFrom_39 : decode cX11_doorFrom 39 = .ok (.ireturn, 1) := by decide +kernel
theorem dX11_doorFrom_30 : decode cX11_doorFrom 30 = .ok (.goto 13, 3) := by decide +kernel
theorem dX11_goEvening_0 : decode cX11_goEvening 0 = .ok (.aload_n 0, 1) := by decide +kernel
theorem dX11_goEvening_1 : decode cX11_goEvening 1 = .ok (.lload_n 1, 1) := by decide +kernel
theorem dX11_goEvening_2 : decode cX11_goEvening 2 = .ok (.putfield 414, 3) := by decide +kernel
theorem dX11_goEvening_5 : decode cX11_goEvening 5 = .ok (.aload_n 0, 1) := by decide +kernel
theorem dX11_goEvening_6 : decode cX11_goEvening 6 = .ok (.iconst (-1), 1) := by decide +kernel
theorem dX11_goEvening_7 : decode cX11_goEvening 7 = .ok (.putfield 427, 3) := by decide +kernel
theorem dX11_goEvening_10 : decode cX11_goEvening 10 = .ok (.aload_n 0, 1) := by decide +kernel
theorem dX11_goEvening_11 : decode cX11_goEvening 11 = .ok (.aload_n 0, 1) := by decide +kernel
theorem dX11_goEvening_12 : decode cX11_goEvening 12 = .ok (.invokevirtual 430, 3) := by decide +kernel
theorem dX11_goEvening_15 : decode cX11_goEvening 15 = .ok (.putfield 433, 3) := by decide +kernel
theorem dX11_goEvening_18 : decode cX11_goEvening 18 = .ok (.iconst 0, 1) := by decide +kernel
theorem dX11_goEvening_19 : decode cX11_goEvening 19 = .ok (.istore 4, 2) := by decide +kernel
theorem dX11_goEvening_21 : decode cX11_goEvening 21 = .ok (.iload 4, 2) := by decide +kernel
theorem dX11_goEvening_23 : decode cX11_goEvening 23 = .ok (.aload_n 0, 1) := by decide +kernel
theorem dX11_goEvening_24 : decode cX11_goEvening 24 = .ok (.getfield 61, 3) := by decide +kernel
theorem dX11_goEvening_27 : decode cX11_goEvening 27 = .ok (.iload_n 3, 1) := by decide +kernel
theorem dX11_goEvening_28 : decode cX11_goEvening 28 = .ok (.iaload, 1) := by decide +kernel
theorem dX11_goEvening_29 : decode cX11_goEvening 29 = .ok (.if_icmp .ge 108, 3) := by decide +kernel
theorem dX11_goEvening_137 : decode cX11_goEvening 137 = .ok (.return_, 1) := by decide +kernel
theorem dX11_goEvening_32 : decode cX11_goEvening 32 = .ok (.aload_n 0, 1) := by decide +kernel
theorem dX11_goEvening_33 : decode cX11_goEvening 33 = .ok (.getfield 433, 3) := by decide +kernel
theorem dX11_goEvening_36 : decode cX11_goEvening 36 = .ok (.iconst (-1), 1) := by decide +kernel
theorem dX11_goEvening_37 : decode cX11_goEvening 37 = .ok (.if_icmp .eq 100, 3) := by decide +kernel
theorem dX11_goEvening_40 : decode cX11_goEvening 40 = .ok (.aload_n 0, 1) := by decide +kernel
theorem dX11_goEvening_41 : decode cX11_goEvening 41 = .ok (.iload_n 3, 1) := by decide +kernel
theorem dX11_goEvening_42 : decode cX11_goEvening 42 = .ok (.iload 4, 2) := by decide +kernel
theorem dX11_goEvening_44 : decode cX11_goEvening 44 = .ok (.invokevirtual 293, 3) := by decide +kernel
theorem dX11_goEvening_47 : decode cX11_goEvening 47 = .ok (.aload_n 0, 1) := by decide +kernel
theorem dX11_goEvening_48 : decode cX11_goEvening 48 = .ok (.getfield 433, 3) := by decide +kernel
theorem dX11_goEvening_79 : decode cX11_goEvening 79 = .ok (.aload_n 0, 1) := by decide +kernel
theorem dX11_goEvening_80 : decode cX11_goEvening 80 = .ok (.aload_n 0, 1) := by decide +kernel
theorem dX11_goEvening_81 : decode cX11_goEvening 81 = .ok (.getfield 433, 3) := by decide +kernel
theorem dX11_goEvening_84 : decode cX11_goEvening 84 = .ok (.iconst 3, 1) := by decide +kernel
theorem dX11_goEvening_85 : decode cX11_goEvening 85 = .ok (.invokevirtual 227, 3) := by decide +kernel
theorem dX11_goEvening_88 : decode cX11_goEvening 88 = .ok (.invokestatic 255, 3) := by decide +kernel
theorem dX11_goEvening_91 : decode cX11_goEvening 91 = .ok (.istore 5, 2) := by decide +kernel
theorem dX11_goEvening_93 : decode cX11_goEvening 93 = .ok (.iload 5, 2) := by decide +kernel
theorem dX11_goEvening_131 : decode cX11_goEvening 131 = .ok (.iinc 4 1, 3) := by decide +kernel
theorem dX11_goEvening_134 : decode cX11_goEvening 134 = .ok (.goto (-113), 3) := by decide +kernel
theorem dX11_goEvening_95 : decode cX11_goEvening 95 = .ok (.ifCond .le 36, 3) := by decide +kernel
theorem dX11_goEvening_98 : decode cX11_goEvening 98 = .ok (.aload_n 0, 1) := by decide +kernel
theorem dX11_goEvening_99 : decode cX11_goEvening 99 = .ok (.bipush 100, 2) := by decide +kernel
theorem dX11_goEvening_101 : decode cX11_goEvening 101 = .ok (.invokevirtual 424, 3) := by decide +kernel
theorem dX11_goEvening_104 : decode cX11_goEvening 104 = .ok (.aload_n 0, 1) := by decide +kernel
theorem dX11_goEvening_105 : decode cX11_goEvening 105 = .ok (.getfield 9, 3) := by decide +kernel
theorem dX11_goEvening_108 : decode cX11_goEvening 108 = .ok (.iconst 0, 1) := by decide +kernel
theorem dX11_goEvening_109 : decode cX11_goEvening 109 = .ok (.iaload, 1) := by decide +kernel
theorem dX11_goEvening_110 : decode cX11_goEvening 110 = .ok (.if_icmp .ge 21, 3) := by decide +kernel
theorem dX11_goEvening_113 : decode cX11_goEvening 113 = .ok (.aload_n 0, 1) := by decide +kernel
theorem dX11_goEvening_114 : decode cX11_goEvening 114 = .ok (.aload_n 0, 1) := by decide +kernel
theorem dX11_goEvening_115 : decode cX11_goEvening 115 = .ok (.aload_n 0, 1) := by decide +kernel
theorem dX11_goEvening_116 : decode cX11_goEvening 116 = .ok (.getfield 433, 3) := by decide +kernel
theorem dX11_goEvening_119 : decode cX11_goEvening 119 = .ok (.aload_n 0, 1) := by decide +kernel
theorem dX11_goEvening_120 : decode cX11_goEvening 120 = .ok (.iload 5, 2) := by decide +kernel
theorem dX11_goEvening_122 : decode cX11_goEvening 122 = .ok (.invokevirtual 424, 3) := by decide +kernel
theorem dX11_goEvening_125 : decode cX11_goEvening 125 = .ok (.invokevirtual 436, 3) := by decide +kernel
theorem dX11_goEvening_128 : decode cX11_goEvening 128 = .ok (.putfield 433, 3) := by decide +kernel
theorem dX11_goEvening_51 : decode cX11_goEvening 51 = .ok (.if_icmp .ne 28, 3) := by decide +kernel
theorem dX11_goEvening_54 : decode cX11_goEvening 54 = .ok (.aload_n 0, 1) := by decide +kernel
theorem dX11_goEvening_55 : decode cX11_goEvening 55 = .ok (.bipush 100, 2) := by decide +kernel
theorem dX11_goEvening_57 : decode cX11_goEvening 57 = .ok (.invokevirtual 424, 3) := by decide +kernel
theorem dX11_goEvening_60 : decode cX11_goEvening 60 = .ok (.aload_n 0, 1) := by decide +kernel
theorem dX11_goEvening_61 : decode cX11_goEvening 61 = .ok (.aload_n 0, 1) := by decide +kernel
theorem dX11_goEvening_62 : decode cX11_goEvening 62 = .ok (.getfield 433, 3) := by decide +kernel
theorem dX11_goEvening_65 : decode cX11_goEvening 65 = .ok (.iconst 1, 1) := by decide +kernel
theorem dX11_goEvening_66 : decode cX11_goEvening 66 = .ok (.invokevirtual 227, 3) := by decide +kernel
theorem dX11_goEvening_69 : decode cX11_goEvening 69 = .ok (.if_icmp .ge 10, 3) := by decide +kernel
theorem dX11_goEvening_72 : decode cX11_goEvening 72 = .ok (.aload_n 0, 1) := by decide +kernel
theorem dX11_goEvening_73 : decode cX11_goEvening 73 = .ok (.iload 4, 2) := by decide +kernel
theorem dX11_goEvening_75 : decode cX11_goEvening 75 = .ok (.putfield 427, 3) := by decide +kernel
theorem dX11_goEvening_78 : decode cX11_goEvening 78 = .ok (.return_, 1) := by decide +kernel
theorem dX11_isSeed_0 : decode cX11_isSeed 0 = .ok (.iload_n 0, 1) := by decide +kernel
theorem dX11_isSeed_1 : decode cX11_isSeed 1 = .ok (.i2l, 1) := by decide +kernel
theorem dX11_isSeed_2 : decode cX11_isSeed 2 = .ok (.lconst 0, 1) := by decide +kernel
theorem dX11_isSeed_3 : decode cX11_isSeed 3 = .ok (.ldc2_w 439, 3) := by decide +kernel
theorem dX11_isSeed_6 : decode cX11_isSeed 6 = .ok (.invokestatic 79, 3) := by decide +kernel
theorem dX11_isSeed_9 : decode cX11_isSeed 9 = .ok (.ireturn, 1) := by decide +kernel
theorem dX11_tell_0 : decode cX11_tell 0 = .ok (.aload_n 0, 1) := by decide +kernel
theorem dX11_tell_1 : decode cX11_tell 1 = .ok (.iload_n 1, 1) := by decide +kernel
theorem dX11_tell_2 : decode cX11_tell 2 = .ok (.i2l, 1) := by decide +kernel
theorem dX11_tell_3 : decode cX11_tell 3 = .ok (.invokevirtual 89, 3) := by decide +kernel
theorem dX11_tell_6 : decode cX11_tell 6 = .ok (.ifCond .eq 48, 3) := by decide +kernel
theorem dX11_tell_54 : decode cX11_tell 54 = .ok (.bipush (-2), 2) := by decide +kernel
theorem dX11_tell_56 : decode cX11_tell 56 = .ok (.ireturn, 1) := by decide +kernel
theorem dX11_tell_9 : decode cX11_tell 9 = .ok (.iload_n 2, 1) := by decide +kernel
theorem dX11_tell_10 : decode cX11_tell 10 = .ok (.i2l, 1) := by decide +kernel
theorem dX11_tell_11 : decode cX11_tell 11 = .ok (.lconst 0, 1) := by decide +kernel
theorem dX11_tell_12 : decode cX11_tell 12 = .ok (.ldc2_w 77, 3) := by decide +kernel
theorem dX11_tell_15 : decode cX11_tell 15 = .ok (.invokestatic 79, 3) := by decide +kernel
theorem dX11_tell_18 : decode cX11_tell 18 = .ok (.ifCond .eq 36, 3) := by decide +kernel
theorem dX11_tell_21 : decode cX11_tell 21 = .ok (.iload_n 3, 1) := by decide +kernel
theorem dX11_tell_22 : decode cX11_tell 22 = .ok (.i2l, 1) := by decide +kernel
theorem dX11_tell_23 : decode cX11_tell 23 = .ok (.lconst 0, 1) := by decide +kernel
theorem dX11_tell_24 : decode cX11_tell 24 = .ok (.iload_n 2, 1) := by decide +kernel
theorem dX11_tell_48 : decode cX11_tell 48 = .ok (.invokestatic 79, 3) := by decide +kernel
theorem dX11_tell_51 : decode cX11_tell 51 = .ok (.ifCond .ne 6, 3) := by decide +kernel
theorem dX11_tell_57 : decode cX11_tell 57 = .ok (.aload_n 0, 1) := by decide +kernel
theorem dX11_tell_58 : decode cX11_tell 58 = .ok (.getfield 9, 3) := by decide +kernel
theorem dX11_tell_61 : decode cX11_tell 61 = .ok (.bipush 7, 2) := by decide +kernel
theorem dX11_tell_63 : decode cX11_tell 63 = .ok (.iaload, 1) := by decide +kernel
theorem dX11_tell_64 : decode cX11_tell 64 = .ok (.ifCond .le 6, 3) := by decide +kernel
theorem dX11_tell_70 : decode cX11_tell 70 = .ok (.aload_n 0, 1) := by decide +kernel
theorem dX11_tell_71 : decode cX11_tell 71 = .ok (.iload_n 1, 1) := by decide +kernel
theorem dX11_tell_72 : decode cX11_tell 72 = .ok (.iload_n 2, 1) := by decide +kernel
theorem dX11_tell_73 : decode cX11_tell 73 = .ok (.invokevirtual 227, 3) := by decide +kernel
theorem dX11_tell_76 : decode cX11_tell 76 = .ok (.istore 4, 2) := by decide +kernel
