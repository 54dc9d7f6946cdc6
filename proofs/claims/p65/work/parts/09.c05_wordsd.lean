theorem dX11_allSits_3 : decode cX11_allSits 3 = .ok (.istore_n 2, 1) := by decide +kernel
theorem dX11_allSits_4 : decode cX11_allSits 4 = .ok (.iload_n 2, 1) := by decide +kernel
theorem dX11_allSits_5 : decode cX11_allSits 5 = .ok (.aload_n 0, 1) := by decide +kernel
theorem dX11_allSits_6 : decode cX11_allSits 6 = .ok (.getfield 9, 3) := by decide +kernel
theorem dX11_allSits_9 : decode cX11_allSits 9 = .ok (.iconst 4, 1) := by decide +kernel
theorem dX11_allSits_10 : decode cX11_allSits 10 = .ok (.iaload, 1) := by decide +kernel
theorem dX11_allSits_11 : decode cX11_allSits 11 = .ok (.if_icmp .ge 18, 3) := by decide +kernel
theorem dX11_allSits_29 : decode cX11_allSits 29 = .ok (.iload_n 1, 1) := by decide +kernel
theorem dX11_allSits_30 : decode cX11_allSits 30 = .ok (.ireturn, 1) := by decide +kernel
theorem dX11_allSits_14 : decode cX11_allSits 14 = .ok (.iload_n 1, 1) := by decide +kernel
theorem dX11_allSits_15 : decode cX11_allSits 15 = .ok (.aload_n 0, 1) := by decide +kernel
theorem dX11_allSits_16 : decode cX11_allSits 16 = .ok (.iload_n 2, 1) := by decide +kernel
theorem dX11_allSits_17 : decode cX11_allSits 17 = .ok (.iconst 2, 1) := by decide +kernel
theorem dX11_allSits_18 : decode cX11_allSits 18 = .ok (.invokevirtual 227, 3) := by decide +kernel
theorem dX11_allSits_21 : decode cX11_allSits 21 = .ok (.iadd, 1) := by decide +kernel
theorem dX11_allSits_22 : decode cX11_allSits 22 = .ok (.istore_n 1, 1) := by decide +kernel
theorem dX11_allSits_23 : decode cX11_allSits 23 = .ok (.iinc 2 1, 3) := by decide +kernel
theorem dX11_allSits_26 : decode cX11_allSits 26 = .ok (.goto (-22), 3) := by decide +kernel
theorem dX11_beAtFirst_0 : decode cX11_beAtFirst 0 = .ok (.aload_n 0, 1) := by decide +kernel
theorem dX11_beAtFirst_1 : decode cX11_beAtFirst 1 = .ok (.invokevirtual 242, 3) := by decide +kernel
theorem dX11_beAtFirst_4 : decode cX11_beAtFirst 4 = .ok (.istore_n 1, 1) := by decide +kernel
theorem dX11_beAtFirst_5 : decode cX11_beAtFirst 5 = .ok (.aload_n 0, 1) := by decide +kernel
theorem dX11_beAtFirst_6 : decode cX11_beAtFirst 6 = .ok (.ldc 245, 2) := by decide +kernel
theorem dX11_beAtFirst_8 : decode cX11_beAtFirst 8 = .ok (.putfield 246, 3) := by decide +kernel
theorem dX11_beAtFirst_11 : decode cX11_beAtFirst 11 = .ok (.aload_n 0, 1) := by decide +kernel
theorem dX11_beAtFirst_12 : decode cX11_beAtFirst 12 = .ok (.iconst 0, 1) := by decide +kernel
theorem dX11_beAtFirst_13 : decode cX11_beAtFirst 13 = .ok (.putfield 249, 3) := by decide +kernel
theorem dX11_beAtFirst_16 : decode cX11_beAtFirst 16 = .ok (.iconst 0, 1) := by decide +kernel
theorem dX11_beAtFirst_17 : decode cX11_beAtFirst 17 = .ok (.istore_n 2, 1) := by decide +kernel
theorem dX11_beAtFirst_18 : decode cX11_beAtFirst 18 = .ok (.iload_n 2, 1) := by decide +kernel
theorem dX11_beAtFirst_19 : decode cX11_beAtFirst 19 = .ok (.bipush 7, 2) := by decide +kernel
theorem dX11_beAtFirst_21 : decode cX11_beAtFirst 21 = .ok (.if_icmp .ge 67, 3) := by decide +kernel
theorem dX11_beAtFirst_88 : decode cX11_beAtFirst 88 = .ok (.return_, 1) := by decide +kernel
theorem dX11_beAtFirst_24 : decode cX11_beAtFirst 24 = .ok (.aload_n 0, 1) := by decide +kernel
theorem dX11_beAtFirst_25 : decode cX11_beAtFirst 25 = .ok (.getfield 34, 3) := by decide +kernel
theorem dX11_beAtFirst_28 : decode cX11_beAtFirst 28 = .ok (.iload_n 2, 1) := by decide +kernel
theorem dX11_beAtFirst_29 : decode cX11_beAtFirst 29 = .ok (.iload_n 2, 1) := by decide +kernel
theorem dX11_beAtFirst_30 : decode cX11_beAtFirst 30 = .ok (.aload_n 0, 1) := by decide +kernel
theorem dX11_beAtFirst_31 : decode cX11_beAtFirst 31 = .ok (.getfield 9, 3) := by decide +kernel
theorem dX11_beAtFirst_34 : decode cX11_beAtFirst 34 = .ok (.iconst 4, 1) := by decide +kernel
theorem dX11_beAtFirst_35 : decode cX11_beAtFirst 35 = .ok (.iaload, 1) := by decide +kernel
theorem dX11_beAtFirst_66 : decode cX11_beAtFirst 66 = .ok (.iastore, 1) := by decide +kernel
theorem dX11_beAtFirst_67 : decode cX11_beAtFirst 67 = .ok (.aload_n 0, 1) := by decide +kernel
theorem dX11_beAtFirst_68 : decode cX11_beAtFirst 68 = .ok (.dup, 1) := by decide +kernel
theorem dX11_beAtFirst_69 : decode cX11_beAtFirst 69 = .ok (.getfield 246, 3) := by decide +kernel
theorem dX11_beAtFirst_72 : decode cX11_beAtFirst 72 = .ok (.aload_n 0, 1) := by decide +kernel
theorem dX11_beAtFirst_73 : decode cX11_beAtFirst 73 = .ok (.getfield 34, 3) := by decide +kernel
theorem dX11_beAtFirst_76 : decode cX11_beAtFirst 76 = .ok (.iload_n 2, 1) := by decide +kernel
theorem dX11_beAtFirst_77 : decode cX11_beAtFirst 77 = .ok (.iaload, 1) := by decide +kernel
theorem dX11_beAtFirst_78 : decode cX11_beAtFirst 78 = .ok (.isub, 1) := by decide +kernel
theorem dX11_beAtFirst_79 : decode cX11_beAtFirst 79 = .ok (.putfield 246, 3) := by decide +kernel
theorem dX11_beAtFirst_82 : decode cX11_beAtFirst 82 = .ok (.iinc 2 1, 3) := by decide +kernel
theorem dX11_beAtFirst_85 : decode cX11_beAtFirst 85 = .ok (.goto (-67), 3) := by decide +kernel
theorem dX11_beAtFirst_65 : decode cX11_beAtFirst 65 = .ok (.iconst 0, 1) := by decide +kernel
theorem dX11_beAtFirst_36 : decode cX11_beAtFirst 36 = .ok (.if_icmp .ge 29, 3) := by decide +kernel
theorem dX11_beAtFirst_39 : decode cX11_beAtFirst 39 = .ok (.iload_n 1, 1) := by decide +kernel
theorem dX11_beAtFirst_40 : decode cX11_beAtFirst 40 = .ok (.ifCond .le 25, 3) := by decide +kernel
theorem dX11_beAtFirst_43 : decode cX11_beAtFirst 43 = .ok (.aload_n 0, 1) := by decide +kernel
theorem dX11_beAtFirst_44 : decode cX11_beAtFirst 44 = .ok (.getfield 9, 3) := by decide +kernel
theorem dX11_beAtFirst_47 : decode cX11_beAtFirst 47 = .ok (.iconst 1, 1) := by decide +kernel
theorem dX11_beAtFirst_48 : decode cX11_beAtFirst 48 = .ok (.iaload, 1) := by decide +kernel
theorem dX11_beAtFirst_49 : decode cX11_beAtFirst 49 = .ok (.sipush 10000, 3) := by decide +kernel
theorem dX11_beAtFirst_52 : decode cX11_beAtFirst 52 = .ok (.imul, 1) := by decide +kernel
theorem dX11_beAtFirst_53 : decode cX11_beAtFirst 53 = .ok (.aload_n 0, 1) := by decide +kernel
theorem dX11_beAtFirst_54 : decode cX11_beAtFirst 54 = .ok (.iload_n 2, 1) := by decide +kernel
theorem dX11_beAtFirst_55 : decode cX11_beAtFirst 55 = .ok (.iconst 2, 1) := by decide +kernel
theorem dX11_beAtFirst_56 : decode cX11_beAtFirst 56 = .ok (.invokevirtual 227, 3) := by decide +kernel
theorem dX11_beAtFirst_59 : decode cX11_beAtFirst 59 = .ok (.imul, 1) := by decide +kernel
theorem dX11_beAtFirst_60 : decode cX11_beAtFirst 60 = .ok (.iload_n 1, 1) := by decide +kernel
theorem dX11_beAtFirst_61 : decode cX11_beAtFirst 61 = .ok (.idiv, 1) := by decide +kernel
theorem dX11_beAtFirst_62 : decode cX11_beAtFirst 62 = .ok (.goto 4, 3) := by decide +kernel
theorem dX11_wouldFind_0 : decode cX11_wouldFind 0 = .ok (.aload_n 0, 1) := by decide +kernel
theorem dX11_wouldFind_1 : decode cX11_wouldFind 1 = .ok (.getfield 34, 3) := by decide +kernel
theorem dX11_wouldFind_4 : decode cX11_wouldFind 4 = .ok (.iload_n 1, 1) := by decide +kernel
theorem dX11_wouldFind_5 : decode cX11_wouldFind 5 = .ok (.iaload, 1) := by decide +kernel
theorem dX11_wouldFind_6 : decode cX11_wouldFind 6 = .ok (.aload_n 0, 1) := by decide +kernel
theorem dX11_wouldFind_7 : decode cX11_wouldFind 7 = .ok (.iload_n 1, 1) := by decide +kernel
theorem dX11_wouldFind_8 : decode cX11_wouldFind 8 = .ok (.iload_n 2, 1) := by decide +kernel
theorem dX11_wouldFind_9 : decode cX11_wouldFind 9 = .ok (.invokevirtual 239, 3) := by decide +kernel
theorem dX11_wouldFind_12 : decode cX11_wouldFind 12 = .ok (.imul, 1) := by decide +kernel
theorem dX11_wouldFind_13 : decode cX11_wouldFind 13 = .ok (.bipush 100, 2) := by decide +kernel
theorem dX11_wouldFind_15 : decode cX11_wouldFind 15 = .ok (.idiv, 1) := by decide +kernel
theorem dX11_wouldFind_16 : decode cX11_wouldFind 16 = .ok (.ireturn, 1) := by decide +kernel
theorem dX11_callIn_0 : decode cX11_callIn 0 = .ok (.iload_n 1, 1) := by decide +kernel
theorem dX11_callIn_1 : decode cX11_callIn 1 = .ok (.iconst (-1), 1) := by decide +kernel
theorem dX11_callIn_2 : decode cX11_callIn 2 = .ok (.if_icmp .ne 5, 3) := by decide +kernel
theorem dX11_callIn_7 : decode cX11_callIn 7 = .ok (.aload_n 0, 1) := by decide +kernel
theorem dX11_callIn_8 : decode cX11_callIn 8 = .ok (.iload_n 1, 1) := by decide +kernel
theorem dX11_callIn_9 : decode cX11_callIn 9 = .ok (.iload_n 2, 1) := by decide +kernel
theorem dX11_callIn_10 : decode cX11_callIn 10 = .ok (.invokevirtual 252, 3) := by decide +kernel
theorem dX11_callIn_13 : decode cX11_callIn 13 = .ok (.istore_n 3, 1) := by decide +kernel
theorem dX11_callIn_14 : decode cX11_callIn 14 = .ok (.aload_n 0, 1) := by decide +kernel
theorem dX11_callIn_15 : decode cX11_callIn 15 = .ok (.getfield 34, 3) := by decide +kernel
theorem dX11_callIn_18 : decode cX11_callIn 18 = .ok (.iload_n 1, 1) := by decide +kernel
theorem dX11_callIn_19 : decode cX11_callIn 19 = .ok (.dup2, 1) := by decide +kernel
theorem dX11_callIn_20 : decode cX11_callIn 20 = .ok (.iaload, 1) := by decide +kernel
theorem dX11_callIn_21 : decode cX11_callIn 21 = .ok (.iload_n 3, 1) := by decide +kernel
theorem dX11_callIn_22 : decode cX11_callIn 22 = .ok (.isub, 1) := by decide +kernel
theorem dX11_callIn_23 : decode cX11_callIn 23 = .ok (.iastore, 1) := by decide +kernel
theorem dX11_callIn_24 : decode cX11_callIn 24 = .ok (.aload_n 0, 1) := by decide +kernel
theorem dX11_callIn_25 : decode cX11_callIn 25 = .ok (.dup, 1) := by decide +kernel
theorem dX11_callIn_26 : decode cX11_callIn 26 = .ok (.getfield 249, 3) := by decide +kernel
theorem dX11_callIn_29 : decode cX11_callIn 29 = .ok (.iload_n 3, 1) := by decide +kernel
theorem dX11_callIn_30 : decode cX11_callIn 30 = .ok (.iadd, 1) := by decide +kernel
theorem dX11_callIn_31 : decode cX11_callIn 31 = .ok (.putfield 249, 3) := by decide +kernel
theorem dX11_callIn_34 : decode cX11_callIn 34 = .ok (.iload_n 3, 1) := by decide +kernel
theorem dX11_callIn_35 : decode cX11_callIn 35 = .ok (.ireturn, 1) := by decide +kernel
theorem dX11_callIn_5 : decode cX11_callIn 5 = .ok (.iconst 0, 1) := by decide +kernel
theorem dX11_callIn_6 : decode cX11_callIn 6 = .ok (.ireturn, 1) := by decide +kernel
theorem dX11_goMinute_0 : decode cX11_goMinute 0 = .ok (.iconst 0, 1) := by decide +kernel
theorem dX11_goMinute_1 : decode cX11_goMinute 1 = .ok (.istore_n 2, 1) := by decide +kernel
theorem dX11_goMinute_2 : decode cX11_goMinute 2 = .ok (.iload_n 2, 1) := by decide +kernel
theorem dX11_goMinute_3 : decode cX11_goMinute 3 = .ok (.bipush 7, 2) := by decide +kernel
theorem dX11_goMinute_5 : decode cX11_goMinute 5 = .ok (.if_icmp .ge 16, 3) := by decide +kernel
theorem dX11_goMinute_21 : decode cX11_goMinute 21 = .ok (.iconst 0, 1) := by decide +kernel
theorem dX11_goMinute_22 : decode cX11_goMinute 22 = .ok (.istore_n 2, 1) := by decide +kernel
theorem dX11_goMinute_23 : decode cX11_goMinute 23 = .ok (.iload_n 2, 1) := by decide +kernel
theorem dX11_goMinute_24 : decode cX11_goMinute 24 = .ok (.aload_n 0, 1) := by decide +kernel
theorem dX11_goMinute_25 : decode cX11_goMinute 25 = .ok (.getfield 9, 3) := by decide +kernel
theorem dX11_goMinute_28 : decode cX11_goMinute 28 = .ok (.iconst 4, 1) := by decide +kernel
theorem dX11_goMinute_29 : decode cX11_goMinute 29 = .ok (.iaload, 1) := by decide +kernel
theorem dX11_goMinute_30 : decode cX11_goMinute 30 = .ok (.if_icmp .ge 108, 3) := by decide +kernel
theorem dX11_goMinute_138 : decode cX11_goMinute 138 = .ok (.iconst 0, 1) := by decide +kernel
theorem dX11_goMinute_139 : decode cX11_goMinute 139 = .ok (.istore_n 2, 1) := by decide +kernel
theorem dX11_goMinute_140 : decode cX11_goMinute 140 = .ok (.iload_n 2, 1) := by decide +kernel
theorem dX11_goMinute_141 : decode cX11_goMinute 141 = .ok (.bipush 7, 2) := by decide +kernel
theorem dX11_goMinute_143 : decode cX11_goMinute 143 = .ok (.if_icmp .ge 24, 3) := by decide +kernel
theorem dX11_goMinute_167 : decode cX11_goMinute 167 = .ok (.return_, 1) := by decide +kernel
theorem dX11_goMinute_146 : decode cX11_goMinute 146 = .ok (.aload_n 0, 1) := by decide +kernel
theorem dX11_goMinute_147 : decode cX11_goMinute 147 = .ok (.getfield 34, 3) := by decide +kernel
theorem dX11_goMinute_150 : decode cX11_goMinute 150 = .ok (.iload_n 2, 1) := by decide +kernel
theorem dX11_goMinute_151 : decode cX11_goMinute 151 = .ok (.dup2, 1) := by decide +kernel
theorem dX11_goMinute_152 : decode cX11_goMinute 152 = .ok (.iaload, 1) := by decide +kernel
theorem dX11_goMinute_153 : decode cX11_goMinute 153 = .ok (.aload_n 0, 1) := by decide +kernel
theorem dX11_goMinute_154 : decode cX11_goMinute 154 = .ok (.getfield 37, 3) := by decide +kernel
theorem dX11_goMinute_157 : decode cX11_goMinute 157 = .ok (.iload_n 2, 1) := by decide +kernel
theorem dX11_goMinute_158 : decode cX11_goMinute 158 = .ok (.iaload, 1) := by decide +kernel
theorem dX11_goMinute_159 : decode cX11_goMinute 159 = .ok (.iadd, 1) := by decide +kernel
theorem dX11_goMinute_160 : decode cX11_goMinute 160 = .ok (.iastore, 1) := by decide +kernel
theorem dX11_goMinute_161 : decode cX11_goMinute 161 = .ok (.iinc 2 1, 3) := by decide +kernel
theorem dX11_goMinute_164 : decode cX11_goMinute 164 = .ok (.goto (-24), 3) := by decide +kernel
theorem dX11_goMinute_33 : decode cX11_goMinute 33 = .ok (.aload_n 0, 1) := by decide +kernel
theorem dX11_goMinute_34 : decode cX11_goMinute 34 = .ok (.iload_n 2, 1) := by decide +kernel
theorem dX11_goMinute_35 : decode cX11_goMinute 35 = .ok (.iconst 3, 1) := by decide +kernel
theorem dX11_goMinute_36 : decode cX11_goMinute 36 = .ok (.invokevirtual 227, 3) := by decide +kernel
theorem dX11_goMinute_39 : decode cX11_goMinute 39 = .ok (.invokestatic 255, 3) := by decide +kernel
theorem dX11_goMinute_42 : decode cX11_goMinute 42 = .ok (.istore_n 3, 1) := by decide +kernel
theorem dX11_goMinute_43 : decode cX11_goMinute 43 = .ok (.iload_n 3, 1) := by decide +kernel
theorem dX11_goMinute_132 : decode cX11_goMinute 132 = .ok (.iinc 2 1, 3) := by decide +kernel
theorem dX11_goMinute_135 : decode cX11_goMinute 135 = .ok (.goto (-112), 3) := by decide +kernel
theorem dX11_goMinute_44 : decode cX11_goMinute 44 = .ok (.ifCond .eq 88, 3) := by decide +kernel
theorem dX11_goMinute_47 : decode cX11_goMinute 47 = .ok (.iload_n 2, 1) := by decide +kernel
theorem dX11_goMinute_48 : decode cX11_goMinute 48 = .ok (.iload_n 1, 1) := by decide +kernel
theorem dX11_goMinute_49 : decode cX11_goMinute 49 = .ok (.if_icmp .ne 6, 3) := by decide +kernel
theorem dX11_goMinute_55 : decode cX11_goMinute 55 = .ok (.aload_n 0, 1) := by decide +kernel
theorem dX11_goMinute_56 : decode cX11_goMinute 56 = .ok (.getfield 34, 3) := by decide +kernel
theorem dX11_goMinute_59 : decode cX11_goMinute 59 = .ok (.iload_n 2, 1) := by decide +kernel
theorem dX11_goMinute_60 : decode cX11_goMinute 60 = .ok (.iaload, 1) := by decide +kernel
theorem dX11_goMinute_61 : decode cX11_goMinute 61 = .ok (.aload_n 0, 1) := by decide +kernel
theorem dX11_goMinute_62 : decode cX11_goMinute 62 = .ok (.getfield 9, 3) := by decide +kernel
theorem dX11_goMinute_65 : decode cX11_goMinute 65 = .ok (.iconst 0, 1) := by decide +kernel
theorem dX11_goMinute_66 : decode cX11_goMinute 66 = .ok (.iaload, 1) := by decide +kernel
theorem dX11_goMinute_67 : decode cX11_goMinute 67 = .ok (.imul, 1) := by decide +kernel
theorem dX11_goMinute_68 : decode cX11_goMinute 68 = .ok (.bipush 100, 2) := by decide +kernel
theorem dX11_goMinute_70 : decode cX11_goMinute 70 = .ok (.idiv, 1) := by decide +kernel
theorem dX11_goMinute_71 : decode cX11_goMinute 71 = .ok (.iload_n 3, 1) := by decide +kernel
theorem dX11_goMinute_72 : decode cX11_goMinute 72 = .ok (.idiv, 1) := by decide +kernel
theorem dX11_goMinute_73 : decode cX11_goMinute 73 = .ok (.istore 4, 2) := by decide +kernel
theorem dX11_goMinute_75 : decode cX11_goMinute 75 = .ok (.aload_n 0, 1) := by decide +kernel
theorem dX11_goMinute_76 : decode cX11_goMinute 76 = .ok (.getfield 37, 3) := by decide +kernel
theorem dX11_goMinute_79 : decode cX11_goMinute 79 = .ok (.iload_n 2, 1) := by decide +kernel
theorem dX11_goMinute_80 : decode cX11_goMinute 80 = .ok (.dup2, 1) := by decide +kernel
theorem dX11_goMinute_81 : decode cX11_goMinute 81 = .ok (.iaload, 1) := by decide +kernel
theorem dX11_goMinute_82 : decode cX11_goMinute 82 = .ok (.iload 4, 2) := by decide +kernel
theorem dX11_goMinute_84 : decode cX11_goMinute 84 = .ok (.iload_n 3, 1) := by decide +kernel
theorem dX11_goMinute_85 : decode cX11_goMinute 85 = .ok (.imul, 1) := by decide +kernel
theorem dX11_goMinute_86 : decode cX11_goMinute 86 = .ok (.isub, 1) := by decide +kernel
theorem dX11_goMinute_87 : decode cX11_goMinute 87 = .ok (.iastore, 1) := by decide +kernel
theorem dX11_goMinute_88 : decode cX11_goMinute 88 = .ok (.iconst 0, 1) := by decide +kernel
theorem dX11_goMinute_89 : decode cX11_goMinute 89 = .ok (.istore 5, 2) := by decide +kernel
theorem dX11_goMinute_91 : decode cX11_goMinute 91 = .ok (.iload 5, 2) := by decide +kernel
theorem dX11_goMinute_93 : decode cX11_goMinute 93 = .ok (.aload_n 0, 1) := by decide +kernel
theorem dX11_goMinute_94 : decode cX11_goMinute 94 = .ok (.getfield 9, 3) := by decide +kernel
theorem dX11_goMinute_97 : decode cX11_goMinute 97 = .ok (.iconst 4, 1) := by decide +kernel
theorem dX11_goMinute_98 : decode cX11_goMinute 98 = .ok (.iaload, 1) := by decide +kernel
theorem dX11_goMinute_99 : decode cX11_goMinute 99 = .ok (.if_icmp .ge 33, 3) := by decide +kernel
theorem dX11_goMinute_102 : decode cX11_goMinute 102 = .ok (.aload_n 0, 1) := by decide +kernel
theorem dX11_goMinute_103 : decode cX11_goMinute 103 = .ok (.getfield 37, 3) := by decide +kernel
theorem dX11_goMinute_106 : decode cX11_goMinute 106 = .ok (.iload 5, 2) := by decide +kernel
theorem dX11_goMinute_108 : decode cX11_goMinute 108 = .ok (.dup2, 1) := by decide +kernel
theorem dX11_goMinute_109 : decode cX11_goMinute 109 = .ok (.iaload, 1) := by decide +kernel
theorem dX11_goMinute_110 : decode cX11_goMinute 110 = .ok (.aload_n 0, 1) := by decide +kernel
theorem dX11_goMinute_111 : decode cX11_goMinute 111 = .ok (.iload_n 2, 1) := by decide +kernel
theorem dX11_goMinute_112 : decode cX11_goMinute 112 = .ok (.iconst 3, 1) := by decide +kernel
theorem dX11_goMinute_113 : decode cX11_goMinute 113 = .ok (.invokevirtual 227, 3) := by decide +kernel
theorem dX11_goMinute_116 : decode cX11_goMinute 116 = .ok (.iload 5, 2) := by decide +kernel
theorem dX11_goMinute_118 : decode cX11_goMinute 118 = .ok (.invokestatic 258, 3) := by decide +kernel
theorem dX11_goMinute_121 : decode cX11_goMinute 121 = .ok (.iload 4, 2) := by decide +kernel
theorem dX11_goMinute_123 : decode cX11_goMinute 123 = .ok (.imul, 1) := by decide +kernel
theorem dX11_goMinute_124 : decode cX11_goMinute 124 = .ok (.iadd, 1) := by decide +kernel
theorem dX11_goMinute_125 : decode cX11_goMinute 125 = .ok (.iastore, 1) := by decide +kernel
theorem dX11_goMinute_126 : decode cX11_goMinute 126 = .ok (.iinc 5 1, 3) := by decide +kernel
theorem dX11_goMinute_129 : decode cX11_goMinute 129 = .ok (.goto (-38), 3) := by decide +kernel
theorem dX11_goMinute_52 : decode cX11_goMinute 52 = .ok (.goto 80, 3) := by decide +kernel
theorem dX11_goMinute_8 : decode cX11_goMinute 8 = .ok (.aload_n 0, 1) := by decide +kernel
theorem dX11_goMinute_9 : decode cX11_goMinute 9 = .ok (.getfield 37, 3) := by decide +kernel
theorem dX11_goMinute_12 : decode cX11_goMinute 12 = .ok (.iload_n 2, 1) := by decide +kernel
theorem dX11_goMinute_13 : decode cX11_goMinute 13 = .ok (.iconst 0, 1) := by decide +kernel
theorem dX11_goMinute_14 : decode cX11_goMinute 14 = .ok (.iastore, 1) := by decide +kernel
theorem dX11_goMinute_15 : decode cX11_goMinute 15 = .ok (.iinc 2 1, 3) := by decide +kernel
theorem dX11_goMinute_18 : decode cX11_goMinute 18 = .ok (.goto (-16), 3) := by decide +kernel
theorem dX11_asItIs_0 : decode cX11_asItIs 0 = .ok (.aload_n 0, 1) := by decide +kernel
theorem dX11_asItIs_1 : decode cX11_asItIs 1 = .ok (.invokevirtual 261, 3) := by decide +kernel
theorem dX11_asItIs_4 : decode cX11_asItIs 4 = .ok (.iconst 0, 1) := by decide +kernel
theorem dX11_asItIs_5 : decode cX11_asItIs 5 = .ok (.istore_n 1, 1) := by decide +kernel
theorem dX11_asItIs_6 : decode cX11_asItIs 6 = .ok (.iload_n 1, 1) := by decide +kernel
theorem dX11_asItIs_7 : decode cX11_asItIs 7 = .ok (.aload_n 0, 1) := by decide +kernel
theorem dX11_asItIs_8 : decode cX11_asItIs 8 = .ok (.getfield 9, 3) := by decide +kernel
theorem dX11_asItIs_11 : decode cX11_asItIs 11 = .ok (.bipush 7, 2) := by decide +kernel
theorem dX11_asItIs_13 : decode cX11_asItIs 13 = .ok (.iaload, 1) := by decide +kernel
theorem dX11_asItIs_14 : decode cX11_asItIs 14 = .ok (.if_icmp .ge 29, 3) := by decide +kernel
theorem dX11_asItIs_43 : decode cX11_asItIs 43 = .ok (.return_, 1) := by decide +kernel
theorem dX11_asItIs_17 : decode cX11_asItIs 17 = .ok (.aload_n 0, 1) := by decide +kernel
theorem dX11_asItIs_18 : decode cX11_asItIs 18 = .ok (.aload_n 0, 1) := by decide +kernel
theorem dX11_asItIs_19 : decode cX11_asItIs 19 = .ok (.getfield 9, 3) := by decide +kernel
theorem dX11_asItIs_22 : decode cX11_asItIs 22 = .ok (.bipush 84, 2) := by decide +kernel
theorem dX11_asItIs_24 : decode cX11_asItIs 24 = .ok (.iload_n 1, 1) := by decide +kernel
theorem dX11_asItIs_25 : decode cX11_asItIs 25 = .ok (.iadd, 1) := by decide +kernel
theorem dX11_asItIs_26 : decode cX11_asItIs 26 = .ok (.iaload, 1) := by decide +kernel
theorem dX11_asItIs_27 : decode cX11_asItIs 27 = .ok (.iconst 0, 1) := by decide +kernel
theorem dX11_asItIs_28 : decode cX11_asItIs 28 = .ok (.invokevirtual 264, 3) := by decide +kernel
theorem dX11_asItIs_31 : decode cX11_asItIs 31 = .ok (.pop, 1) := by decide +kernel
theorem dX11_asItIs_32 : decode cX11_asItIs 32 = .ok (.aload_n 0, 1) := by decide +kernel
theorem dX11_asItIs_33 : decode cX11_asItIs 33 = .ok (.iconst (-1), 1) := by decide +kernel
theorem dX11_asItIs_34 : decode cX11_asItIs 34 = .ok (.invokevirtual 267, 3) := by decide +kernel
theorem dX11_asItIs_37 : decode cX11_asItIs 37 = .ok (.iinc 1 1, 3) := by decide +kernel
theorem dX11_asItIs_40 : decode cX11_asItIs 40 = .ok (.goto (-34), 3) := by decide +kernel
theorem dX11_inHouse_0 : decode cX11_inHouse 0 = .ok (.iconst 0, 1) := by decide +kernel
theorem dX11_inHouse_1 : decode cX11_inHouse 1 = .ok (.istore_n 1, 1) := by decide +kernel
theorem dX11_inHouse_2 : decode cX11_inHouse 2 = .ok (.iconst 0, 1) := by decide +kernel
theorem dX11_inHouse_3 : decode cX11_inHouse 3 = .ok (.istore_n 2, 1) := by decide +kernel
theorem dX11_inHouse_4 : decode cX11_inHouse 4 = .ok (.iload_n 2, 1) := by decide +kernel
theorem dX11_inHouse_5 : decode cX11_inHouse 5 = .ok (.aload_n 0, 1) := by decide +kernel
theorem dX11_inHouse_6 : decode cX11_inHouse 6 = .ok (.getfield 9, 3) := by decide +kernel
theorem dX11_inHouse_9 : decode cX11_inHouse 9 = .ok (.iconst 4, 1) := by decide +kernel
theorem dX11_inHouse_10 : decode cX11_inHouse 10 = .ok (.iaload, 1) := by decide +kernel
theorem dX11_inHouse_11 : decode cX11_inHouse 11 = .ok (.if_icmp .ge 18, 3) := by decide +kernel
theorem dX11_inHouse_29 : decode cX11_inHouse 29 = .ok (.iload_n 1, 1) := by decide +kernel
theorem dX11_inHouse_30 : decode cX11_inHouse 30 = .ok (.ireturn, 1) := by decide +kernel
theorem dX11_inHouse_14 : decode cX11_inHouse 14 = .ok (.iload_n 1, 1) := by decide +kernel
theorem dX11_inHouse_15 : decode cX11_inHouse 15 = .ok (.aload_n 0, 1) := by decide +kernel
theorem dX11_inHouse_16 : decode cX11_inHouse 16 = .ok (.getfield 34, 3) := by decide +kernel
theorem dX11_inHouse_19 : decode cX11_inHouse 19 = .ok (.iload_n 2, 1) := by decide +kernel
theorem dX11_inHouse_20 : decode cX11_inHouse 20 = .ok (.iaload, 1) := by decide +kernel
theorem dX11_inHouse_21 : decode cX11_inHouse 21 = .ok (.iadd, 1) := by decide +kernel
theorem dX11_inHouse_22 : decode cX11_inHouse 22 = .ok (.istore_n 1, 1) := by decide +kernel
theorem dX11_inHouse_23 : decode cX11_inHouse 23 = .ok (.iinc 2 1, 3) := by decide +kernel
theorem dX11_inHouse_26 : decode cX11_inHouse 26 = .ok (.goto (-22), 3) := by decide +kernel
theorem dX11_inMillion_0 : decode cX11_inMillion 0 = .ok (.aload_n 0, 1) := by decide +kernel
theorem dX11_inMillion_1 : decode cX11_inMillion 1 = .ok (.invokevirtual 270, 3) := by decide +kernel
theorem dX11_inMillion_4 : decode cX11_inMillion 4 = .ok (.aload_n 0, 1) := by decide +kernel
theorem dX11_inMillion_5 : decode cX11_inMillion 5 = .ok (.getfield 246, 3) := by decide +kernel
theorem dX11_inMillion_8 : decode cX11_inMillion 8 = .ok (.iadd, 1) := by decide +kernel
theorem dX11_inMillion_9 : decode cX11_inMillion 9 = .ok (.istore_n 2, 1) := by decide +kernel
theorem dX11_inMillion_10 : decode cX11_inMillion 10 = .ok (.iload_n 2, 1) := by decide +kernel
theorem dX11_inMillion_11 : decode cX11_inMillion 11 = .ok (.ifCond .ne 7, 3) := by decide +kernel
theorem dX11_inMillion_18 : decode cX11_inMillion 18 = .ok (.iload_n 1, 1) := by decide +kernel
theorem dX11_inMillion_19 : decode cX11_inMillion 19 = .ok (.i2l, 1) := by decide +kernel
theorem dX11_inMillion_20 : decode cX11_inMillion 20 = .ok (.ldc2_w 273, 3) := by decide +kernel
theorem dX11_inMillion_23 : decode cX11_inMillion 23 = .ok (.lmul, 1) := by decide +kernel
theorem dX11_inMillion_24 : decode cX11_inMillion 24 = .ok (.iload_n 2, 1) := by decide +kernel
theorem dX11_inMillion_25 : decode cX11_inMillion 25 = .ok (.i2l, 1) := by decide +kernel
theorem dX11_inMillion_26 : decode cX11_inMillion 26 = .ok (.ldiv, 1) := by decide +kernel
theorem dX11_inMillion_27 : decode cX11_inMillion 27 = .ok (.l2i, 1) := by decide +kernel
theorem dX11_inMillion_28 : decode cX11_inMillion 28 = .ok (.ireturn, 1) := by decide +kernel
theorem dX11_inMillion_14 : decode cX11_inMillion 14 = .ok (.iconst 0, 1) := by decide +kernel
theorem dX11_inMillion_15 : decode cX11_inMillion 15 = .ok (.goto 13, 3) := by decide +kernel
theorem dX11_parts_0 : decode cX11_parts 0 = .ok (.aload_n 0, 1) := by decide +kernel
theorem dX11_parts_1 : decode cX11_parts 1 = .ok (.iload_n 1, 1) := by decide +kernel
theorem dX11_parts_2 : decode cX11_parts 2 = .ok (.i2l, 1) := by decide +kernel
theorem dX11_parts_3 : decode cX11_parts 3 = .ok (.invokevirtual 275, 3) := by decide +kernel
theorem dX11_parts_6 : decode cX11_parts 6 = .ok (.ifCond .ne 6, 3) := by decide +kernel
theorem dX11_parts_12 : decode cX11_parts 12 = .ok (.aload_n 0, 1) := by decide +kernel
theorem dX11_parts_13 : decode cX11_parts 13 = .ok (.invokevirtual 278, 3) := by decide +kernel
theorem dX11_parts_16 : decode cX11_parts 16 = .ok (.iload_n 1, 1) := by decide +kernel
theorem dX11_parts_17 : decode cX11_parts 17 = .ok (.iconst (-1), 1) := by decide +kernel
theorem dX11_parts_18 : decode cX11_parts 18 = .ok (.if_icmp .ne 10, 3) := by decide +kernel
theorem dX11_parts_28 : decode cX11_parts 28 = .ok (.aload_n 0, 1) := by decide +kernel
theorem dX11_parts_29 : decode cX11_parts 29 = .ok (.getfield 34, 3) := by decide +kernel
theorem dX11_parts_32 : decode cX11_parts 32 = .ok (.iload_n 1, 1) := by decide +kernel
theorem dX11_parts_33 : decode cX11_parts 33 = .ok (.iaload, 1) := by decide +kernel
theorem dX11_parts_34 : decode cX11_parts 34 = .ok (.ireturn, 1) := by decide +kernel
theorem dX11_parts_21 : decode cX11_parts 21 = .ok (.aload_n 0, 1) := by decide +kernel
theorem dX11_parts_22 : decode cX11_parts 22 = .ok (.getfield 246, 3) := by decide +kernel
theorem dX11_parts_25 : decode cX11_parts 25 = .ok (.goto 9, 3) := by decide +kernel
theorem dX11_parts_9 : decode cX11_parts 9 = .ok (.bipush (-2), 2) := by decide +kernel
theorem dX11_parts_11 : decode cX11_parts 11 = .ok (.ireturn, 1) := by decide +kernel
theorem dX11_found_0 : decode cX11_found 0 = .ok (.aload_n 0, 1) := by decide +kernel
theorem dX11_found_1 : decode cX11_found 1 = .ok (.invokevirtual 83, 3) := by decide +kernel
theorem dX11_found_4 : decode cX11_found 4 = .ok (.ifCond .ne 6, 3) := by decide +kernel
theorem dX11_found_10 : decode cX11_found 10 = .ok (.aload_n 0, 1) := by decide +kernel
theorem dX11_found_11 : decode cX11_found 11 = .ok (.invokevirtual 278, 3) := by decide +kernel
theorem dX11_found_14 : decode cX11_found 14 = .ok (.aload_n 0, 1) := by decide +kernel
theorem dX11_found_15 : decode cX11_found 15 = .ok (.getfield 249, 3) := by decide +kernel
theorem dX11_found_18 : decode cX11_found 18 = .ok (.ireturn, 1) := by decide +kernel
theorem dX11_found_7 : decode cX11_found 7 = .ok (.bipush (-2), 2) := by decide +kernel
theorem dX11_found_9 : decode cX11_found 9 = .ok (.ireturn, 1) := by decide +kernel
theorem dX11_likely_0 : decode cX11_likely 0 = .ok (.aload_n 0, 1) := by decide +kernel
theorem dX11_likely_1 : decode cX11_likely 1 = .ok (.invokevirtual 83, 3) := by decide +kernel
theorem dX11_likely_4 : decode cX11_likely 4 = .ok (.ifCond .ne 6, 3) := by decide +kernel
theorem dX11_likely_10 : decode cX11_likely 10 = .ok (.aload_n 0, 1) := by decide +kernel
theorem dX11_likely_11 : decode cX11_likely 11 = .ok (.invokevirtual 278, 3) := by decide +kernel
theorem dX11_likely_14 : decode cX11_likely 14 = .ok (.iconst (-1), 1) := by decide +kernel
theorem dX11_likely_15 : decode cX11_likely 15 = .ok (.istore_n 1, 1) := by decide +kernel
theorem dX11_likely_16 : decode cX11_likely 16 = .ok (.iconst 0, 1) := by decide +kernel
theorem dX11_likely_17 : decode cX11_likely 17 = .ok (.istore_n 2, 1) := by decide +kernel
theorem dX11_likely_18 : decode cX11_likely 18 = .ok (.iload_n 2, 1) := by decide +kernel
theorem dX11_likely_19 : decode cX11_likely 19 = .ok (.aload_n 0, 1) := by decide +kernel
theorem dX11_likely_20 : decode cX11_likely 20 = .ok (.getfield 9, 3) := by decide +kernel
theorem dX11_likely_23 : decode cX11_likely 23 = .ok (.iconst 4, 1) := by decide +kernel
theorem dX11_likely_24 : decode cX11_likely 24 = .ok (.iaload, 1) := by decide +kernel
theorem dX11_likely_25 : decode cX11_likely 25 = .ok (.if_icmp .ge 35, 3) := by decide +kernel
theorem dX11_likely_60 : decode cX11_likely 60 = .ok (.iload_n 1, 1) := by decide +kernel
theorem dX11_likely_61 : decode cX11_likely 61 = .ok (.ireturn, 1) := by decide +kernel
theorem dX11_likely_28 : decode cX11_likely 28 = .ok (.iload_n 1, 1) := by decide +kernel
theorem dX11_likely_29 : decode cX11_likely 29 = .ok (.iconst (-1), 1) := by decide +kernel
theorem dX11_likely_53 : decode cX11_likely 53 = .ok (.istore_n 1, 1) := by decide +kernel
theorem dX11_likely_54 : decode cX11_likely 54 = .ok (.iinc 2 1, 3) := by decide +kernel
theorem dX11_likely_57 : decode cX11_likely 57 = .ok (.goto (-39), 3) := by decide +kernel
theorem dX11_likely_48 : decode cX11_likely 48 = .ok (.iload_n 2, 1) := by decide +kernel
theorem dX11_likely_49 : decode cX11_likely 49 = .ok (.goto 4, 3) := by decide +kernel
theorem dX11_likely_30 : decode cX11_likely 30 = .ok (.if_icmp .eq 18, 3) := by decide +kernel
theorem dX11_likely_33 : decode cX11_likely 33 = .ok (.aload_n 0, 1) := by decide +kernel
theorem dX11_likely_34 : decode cX11_likely 34 = .ok (.getfield 34, 3) := by decide +kernel
theorem dX11_likely_37 : decode cX11_likely 37 = .ok (.iload_n 2, 1) := by decide +kernel
theorem dX11_likely_38 : decode cX11_likely 38 = .ok (.iaload, 1) := by decide +kernel
theorem dX11_likely_39 : decode cX11_likely 39 = .ok (.aload_n 0, 1) := by decide +kernel
theorem dX11_likely_40 : decode cX11_likely 40 = .ok (.getfield 34, 3) := by decide +kernel
theorem dX11_likely_43 : decode cX11_likely 43 = .ok (.iload_n 1, 1) := by decide +kernel
theorem dX11_likely_44 : decode cX11_likely 44 = .ok (.iaload, 1) := by decide +kernel
theorem dX11_likely_45 : decode cX11_likely 45 = .ok (.if_icmp .le 7, 3) := by decide +kernel
theorem dX11_likely_52 : decode cX11_likely 52 = .ok (.iload_n 1, 1) := by decide +kernel
theorem dX11_likely_7 : decode cX11_likely 7 = .ok (.bipush (-2), 2) := by decide +kernel
theorem dX11_likely_9 : decode cX11_likely 9 = .ok (.ireturn, 1) := by decide +kernel
theorem dX11_here_0 : decode cX11_here 0 = .ok (.aload_n 0, 1) := by decide +kernel
theorem dX11_here_1 : decode cX11_here 1 = .ok (.invokevirtual 83, 3) := by decide +kernel
theorem dX11_here_4 : decode cX11_here 4 = .ok (.ifCond .ne 6, 3) := by decide +kernel
theorem dX11_here_10 : decode cX11_here 10 = .ok (.aload_n 0, 1) := by decide +kernel
theorem dX11_here_11 : decode cX11_here 11 = .ok (.invokevirtual 278, 3) := by decide +kernel
theorem dX11_here_14 : decode cX11_here 14 = .ok (.aload_n 0, 1) := by decide +kernel
theorem dX11_here_15 : decode cX11_here 15 = .ok (.aload_n 0, 1) := by decide +kernel
theorem dX11_here_16 : decode cX11_here 16 = .ok (.invokevirtual 270, 3) := by decide +kernel
theorem dX11_here_19 : decode cX11_here 19 = .ok (.invokevirtual 281, 3) := by decide +kernel
theorem dX11_here_22 : decode cX11_here 22 = .ok (.ireturn, 1) := by decide +kernel
theorem dX11_here_7 : decode cX11_here 7 = .ok (.bipush (-2), 2) := by decide +kernel
theorem dX11_here_9 : decode cX11_here 9 = .ok (.ireturn, 1) := by decide +kernel
theorem dX11_chance_0 : decode cX11_chance 0 = .ok (.aload_n 0, 1) := by decide +kernel
theorem dX11_chance_1 : decode cX11_chance 1 = .ok (.iload_n 1, 1) := by decide +kernel
theorem dX11_chance_2 : decode cX11_chance 2 = .ok (.i2l, 1) := by decide +kernel
theorem dX11_chance_3 : decode cX11_chance 3 = .ok (.invokevirtual 275, 3) := by decide +kernel
theorem dX11_chance_6 : decode cX11_chance 6 = .ok (.ifCond .ne 6, 3) := by decide +kernel
theorem dX11_chance_12 : decode cX11_chance 12 = .ok (.aload_n 0, 1) := by decide +kernel
theorem dX11_chance_13 : decode cX11_chance 13 = .ok (.invokevirtual 278, 3) := by decide +kernel
theorem dX11_chance_16 : decode cX11_chance 16 = .ok (.aload_n 0, 1) := by decide +kernel
theorem dX11_chance_17 : decode cX11_chance 17 = .ok (.iload_n 1, 1) := by decide +kernel
theorem dX11_chance_18 : decode cX11_chance 18 = .ok (.iconst (-1), 1) := by decide +kernel
theorem dX11_chance_19 : decode cX11_chance 19 = .ok (.if_icmp .ne 10, 3) := by decide +kernel
theorem dX11_chance_29 : decode cX11_chance 29 = .ok (.aload_n 0, 1) := by decide +kernel
theorem dX11_chance_30 : decode cX11_chance 30 = .ok (.getfield 34, 3) := by decide +kernel
theorem dX11_chance_33 : decode cX11_chance 33 = .ok (.iload_n 1, 1) := by decide +kernel
theorem dX11_chance_34 : decode cX11_chance 34 = .ok (.iaload, 1) := by decide +kernel
theorem dX11_chance_35 : decode cX11_chance 35 = .ok (.invokevirtual 281, 3) := by decide +kernel
theorem dX11_chance_38 : decode cX11_chance 38 = .ok (.ireturn, 1) := by decide +kernel
theorem dX11_chance_22 : decode cX11_chance 22 = .ok (.aload_n 0, 1) := by decide +kernel
theorem dX11_chance_23 : decode cX11_chance 23 = .ok (.getfield 246, 3) := by decide +kernel
theorem dX11_chance_26 : decode cX11_chance 26 = .ok (.goto 9, 3) := by decide +kernel
theorem dX11_chance_9 : decode cX11_chance 9 = .ok (.bipush (-2), 2) := by decide +kernel
theorem dX11_chance_11 : decode cX11_chance 11 = .ok (.ireturn, 1) := by decide +kernel
theorem dX11_call_0 : decode cX11_call 0 = .ok (.aload_n 0, 1) := by decide +kernel
theorem dX11_call_1 : decode cX11_call 1 = .ok (.iload_n 1, 1) := by decide +kernel
theorem dX11_call_2 : decode cX11_call 2 = .ok (.i2l, 1) := by decide +kernel
theorem dX11_call_3 : decode cX11_call 3 = .ok (.invokevirtual 275, 3) := by decide +kernel
theorem dX11_call_6 : decode cX11_call 6 = .ok (.ifCond .ne 6, 3) := by decide +kernel
theorem dX11_call_12 : decode cX11_call 12 = .ok (.aload_n 0, 1) := by decide +kernel
theorem dX11_call_13 : decode cX11_call 13 = .ok (.getfield 9, 3) := by decide +kernel
theorem dX11_call_16 : decode cX11_call 16 = .ok (.bipush 7, 2) := by decide +kernel
theorem dX11_call_18 : decode cX11_call 18 = .ok (.iaload, 1) := by decide +kernel
theorem dX11_call_19 : decode cX11_call 19 = .ok (.bipush 60, 2) := by decide +kernel
theorem dX11_call_21 : decode cX11_call 21 = .ok (.if_icmp .ne 6, 3) := by decide +kernel
theorem dX11_call_27 : decode cX11_call 27 = .ok (.aload_n 0, 1) := by decide +kernel
theorem dX11_call_28 : decode cX11_call 28 = .ok (.invokevirtual 278, 3) := by decide +kernel
theorem dX11_call_31 : decode cX11_call 31 = .ok (.aload_n 0, 1) := by decide +kernel
theorem dX11_call_32 : decode cX11_call 32 = .ok (.getfield 9, 3) := by decide +kernel
theorem dX11_call_35 : decode cX11_call 35 = .ok (.bipush 84, 2) := by decide +kernel
theorem dX11_call_37 : decode cX11_call 37 = .ok (.aload_n 0, 1) := by decide +kernel
theorem dX11_call_38 : decode cX11_call 38 = .ok (.getfield 9, 3) := by decide +kernel
theorem dX11_call_41 : decode cX11_call 41 = .ok (.bipush 7, 2) := by decide +kernel
theorem dX11_call_43 : decode cX11_call 43 = .ok (.iaload, 1) := by decide +kernel
theorem dX11_call_44 : decode cX11_call 44 = .ok (.iadd, 1) := by decide +kernel
theorem dX11_call_45 : decode cX11_call 45 = .ok (.iload_n 1, 1) := by decide +kernel
theorem dX11_call_46 : decode cX11_call 46 = .ok (.iastore, 1) := by decide +kernel
theorem dX11_call_47 : decode cX11_call 47 = .ok (.aload_n 0, 1) := by decide +kernel
theorem dX11_call_48 : decode cX11_call 48 = .ok (.getfield 9, 3) := by decide +kernel
theorem dX11_call_51 : decode cX11_call 51 = .ok (.bipush 7, 2) := by decide +kernel
theorem dX11_call_53 : decode cX11_call 53 = .ok (.dup2, 1) := by decide +kernel
theorem dX11_call_54 : decode cX11_call 54 = .ok (.iaload, 1) := by decide +kernel
theorem dX11_call_55 : decode cX11_call 55 = .ok (.iconst 1, 1) := by decide +kernel
theorem dX11_call_56 : decode cX11_call 56 = .ok (.iadd, 1) := by decide +kernel
theorem dX11_call_57 : decode cX11_call 57 = .ok (.iastore, 1) := by decide +kernel
theorem dX11_call_58 : decode cX11_call 58 = .ok (.aload_n 0, 1) := by decide +kernel
theorem dX11_call_59 : decode cX11_call 59 = .ok (.iload_n 1, 1) := by decide +kernel
theorem dX11_call_60 : decode cX11_call 60 = .ok (.iconst 0, 1) := by decide +kernel
theorem dX11_call_61 : decode cX11_call 61 = .ok (.invokevirtual 264, 3) := by decide +kernel
theorem dX11_call_64 : decode cX11_call 64 = .ok (.ireturn, 1) := by decide +kernel
theorem dX11_call_24 : decode cX11_call 24 = .ok (.bipush (-5), 2) := by decide +kernel
theorem dX11_call_26 : decode cX11_call 26 = .ok (.ireturn, 1) := by decide +kernel
theorem dX11_call_9 : decode cX11_call 9 = .ok (.bipush (-2), 2) := by decide +kernel
theorem dX11_call_11 : decode cX11_call 11 = .ok (.ireturn, 1) := by decide +kernel
theorem dX11_undo_0 : decode cX11_undo 0 = .ok (.aload_n 0, 1) := by decide +kernel
theorem dX11_undo_1 : decode cX11_undo 1 = .ok (.invokevirtual 83, 3) := by decide +kernel
theorem dX11_undo_4 : decode cX11_undo 4 = .ok (.ifCond .ne 6, 3) := by decide +kernel
theorem dX11_undo_10 : decode cX11_undo 10 = .ok (.aload_n 0, 1) := by decide +kernel
theorem dX11_undo_11 : decode cX11_undo 11 = .ok (.getfield 9, 3) := by decide +kernel
theorem dX11_undo_14 : decode cX11_undo 14 = .ok (.bipush 7, 2) := by decide +kernel
theorem dX11_undo_16 : decode cX11_undo 16 = .ok (.iaload, 1) := by decide +kernel
theorem dX11_undo_17 : decode cX11_undo 17 = .ok (.ifCond .ne 6, 3) := by decide +kernel
theorem dX11_undo_23 : decode cX11_undo 23 = .ok (.aload_n 0, 1) := by decide +kernel
theorem dX11_undo_24 : decode cX11_undo 24 = .ok (.getfield 9, 3) := by decide +kernel
theorem dX11_undo_27 : decode cX11_undo 27 = .ok (.bipush 7, 2) := by decide +kernel
theorem dX11_undo_29 : decode cX11_undo 29 = .ok (.dup2, 1) := by decide +kernel
theorem dX11_undo_30 : decode cX11_undo 30 = .ok (.iaload, 1) := by decide +kernel
theorem dX11_undo_31 : decode cX11_undo 31 = .ok (.iconst 1, 1) := by decide +kernel
theorem dX11_undo_32 : decode cX11_undo 32 = .ok (.isub, 1) := by decide +kernel
theorem dX11_undo_33 : decode cX11_undo 33 = .ok (.iastore, 1) := by decide +kernel
theorem dX11_undo_34 : decode cX11_undo 34 = .ok (.aload_n 0, 1) := by decide +kernel
theorem dX11_undo_35 : decode cX11_undo 35 = .ok (.getfield 9, 3) := by decide +kernel
theorem dX11_undo_38 : decode cX11_undo 38 = .ok (.bipush 7, 2) := by decide +kernel
theorem dX11_undo_40 : decode cX11_undo 40 = .ok (.iaload, 1) := by decide +kernel
theorem dX11_undo_41 : decode cX11_undo 41 = .ok (.ireturn, 1) := by decide +kernel
theorem dX11_undo_20 : decode cX11_undo 20 = .ok (.bipush (-5), 2) := by decide +kernel
theorem dX11_undo_22 : decode cX11_undo 22 = .ok (.ireturn, 1) := by decide +kernel
theorem dX11_undo_7 : decode cX11_undo 7 = .ok (.bipush (-2), 2) := by decide +kernel
theorem dX11_undo_9 : decode cX11_undo 9 = .ok (.ireturn, 1) := by decide +kernel
theorem dX11_anew_0 : decode cX11_anew 0 = .ok (.aload_n 0, 1) := by decide +kernel
theorem dX11_anew_1 : decode cX11_anew 1 = .ok (.invokevirtual 83, 3) := by decide +kernel
theorem dX11_anew_4 : decode cX11_anew 4 = .ok (.ifCond .ne 6, 3) := by decide +kernel
theorem dX11_anew_10 : decode cX11_anew 10 = .ok (.aload_n 0, 1) := by decide +kernel
theorem dX11_anew_11 : decode cX11_anew 11 = .ok (.getfield 9, 3) := by decide +kernel
theorem dX11_anew_14 : decode cX11_anew 14 = .ok (.bipush 7, 2) := by decide +kernel
theorem dX11_anew_16 : decode cX11_anew 16 = .ok (.iaload, 1) := by decide +kernel
theorem dX11_anew_17 : decode cX11_anew 17 = .ok (.istore_n 1, 1) := by decide +kernel
theorem dX11_anew_18 : decode cX11_anew 18 = .ok (.aload_n 0, 1) := by decide +kernel
theorem dX11_anew_19 : decode cX11_anew 19 = .ok (.getfield 9, 3) := by decide +kernel
theorem dX11_anew_22 : decode cX11_anew 22 = .ok (.bipush 7, 2) := by decide +kernel
theorem dX11_anew_24 : decode cX11_anew 24 = .ok (.iconst 0, 1) := by decide +kernel
theorem dX11_anew_25 : decode cX11_anew 25 = .ok (.iastore, 1) := by decide +kernel
theorem dX11_anew_26 : decode cX11_anew 26 = .ok (.iload_n 1, 1) := by decide +kernel
theorem dX11_anew_27 : decode cX11_anew 27 = .ok (.ireturn, 1) := by decide +kernel
theorem dX11_anew_7 : decode cX11_anew 7 = .ok (.bipush (-2), 2) := by decide +kernel
theorem dX11_anew_9 : decode cX11_anew 9 = .ok (.ireturn, 1) := by decide +kernel
theorem dX11_later_0 : decode cX11_later 0 = .ok (.aload_n 0, 1) := by decide +kernel
theorem dX11_later_1 : decode cX11_later 1 = .ok (.iload_n 1, 1) := by decide +kernel
theorem dX11_later_2 : decode cX11_later 2 = .ok (.i2l, 1) := by decide +kernel
theorem dX11_later_3 : decode cX11_later 3 = .ok (.invokevirtual 275, 3) := by decide +kernel
theorem dX11_later_6 : decode cX11_later 6 = .ok (.ifCond .eq 15, 3) := by decide +kernel
theorem dX11_later_21 : decode cX11_later 21 = .ok (.bipush (-2), 2) := by decide +kernel
theorem dX11_later_23 : decode cX11_later 23 = .ok (.ireturn, 1) := by decide +kernel
theorem dX11_later_9 : decode cX11_later 9 = .ok (.iload_n 2, 1) := by decide +kernel
theorem dX11_later_10 : decode cX11_later 10 = .ok (.i2l, 1) := by decide +kernel
theorem dX11_later_11 : decode cX11_later 11 = .ok (.lconst 0, 1) := by decide +kernel
theorem dX11_later_12 : decode cX11_later 12 = .ok (.ldc2_w 284, 3) := by decide +kernel
theorem dX11_later_15 : decode cX11_later 15 = .ok (.invokestatic 79, 3) := by decide +kernel
theorem dX11_later_18 : decode cX11_later 18 = .ok (.ifCond .ne 6, 3) := by decide +kernel
theorem dX11_later_24 : decode cX11_later 24 = .ok (.aload_n 0, 1) := by decide +kernel
theorem dX11_later_25 : decode cX11_later 25 = .ok (.invokevirtual 278, 3) := by decide +kernel
theorem dX11_later_28 : decode cX11_later 28 = .ok (.iconst 0, 1) := by decide +kernel
theorem dX11_later_29 : decode cX11_later 29 = .ok (.istore_n 3, 1) := by decide +kernel
theorem dX11_later_30 : decode cX11_later 30 = .ok (.iload_n 3, 1) := by decide +kernel
theorem dX11_later_31 : decode cX11_later 31 = .ok (.iload_n 2, 1) := by decide +kernel
theorem dX11_later_32 : decode cX11_later 32 = .ok (.if_icmp .ge 14, 3) := by decide +kernel
theorem dX11_later_46 : decode cX11_later 46 = .ok (.iload_n 1, 1) := by decide +kernel
theorem dX11_later_47 : decode cX11_later 47 = .ok (.iconst (-1), 1) := by decide +kernel
theorem dX11_later_48 : decode cX11_later 48 = .ok (.if_icmp .ne 10, 3) := by decide +kernel
theorem dX11_later_58 : decode cX11_later 58 = .ok (.aload_n 0, 1) := by decide +kernel
theorem dX11_later_59 : decode cX11_later 59 = .ok (.getfield 34, 3) := by decide +kernel
theorem dX11_later_62 : decode cX11_later 62 = .ok (.iload_n 1, 1) := by decide +kernel
theorem dX11_later_63 : decode cX11_later 63 = .ok (.iaload, 1) := by decide +kernel
theorem dX11_later_64 : decode cX11_later 64 = .ok (.ireturn, 1) := by decide +kernel
theorem dX11_later_51 : decode cX11_later 51 = .ok (.aload_n 0, 1) := by decide +kernel
theorem dX11_later_52 : decode cX11_later 52 = .ok (.getfield 246, 3) := by decide +kernel
theorem dX11_later_55 : decode cX11_later 55 = .ok (.goto 9, 3) := by decide +kernel
theorem dX11_later_35 : decode cX11_later 35 = .ok (.aload_n 0, 1) := by decide +kernel
theorem dX11_later_36 : decode cX11_later 36 = .ok (.iconst (-1), 1) := by decide +kernel
theorem dX11_later_37 : decode cX11_later 37 = .ok (.invokevirtual 267, 3) := by decide +kernel
theorem dX11_later_40 : decode cX11_later 40 = .ok (.iinc 3 1, 3) := by decide +kernel
theorem dX11_later_43 : decode cX11_later 43 = .ok (.goto (-13), 3) := by decide +kernel
theorem dX11_numberAt_0 : decode cX11_numberAt 0 = .ok (.aload_n 0, 1) := by decide +kernel
theorem dX11_numberAt_1 : decode cX11_numberAt 1 = .ok (.getfield 67, 3) := by decide +kernel
theorem dX11_numberAt_4 : decode cX11_numberAt 4 = .ok (.bipush 60, 2) := by decide +kernel
theorem dX11_numberAt_6 : decode cX11_numberAt 6 = .ok (.iload_n 1, 1) := by decide +kernel
theorem dX11_numberAt_7 : decode cX11_numberAt 7 = .ok (.imul, 1) := by decide +kernel
theorem dX11_numberAt_8 : decode cX11_numberAt 8 = .ok (.iload_n 2, 1) := by decide +kernel
theorem dX11_numberAt_9 : decode cX11_numberAt 9 = .ok (.iadd, 1) := by decide +kernel
theorem dX11_numberAt_10 : decode cX11_numberAt 10 = .ok (.laload, 1) := by decide +kernel
theorem dX11_numberAt_11 : decode cX11_numberAt 11 = .ok (.lreturn, 1) := by decide +kernel
theorem dX11_roomAt_0 : decode cX11_roomAt 0 = .ok (.aload_n 0, 1) := by decide +kernel
theorem dX11_roomAt_1 : decode cX11_roomAt 1 = .ok (.iload_n 1, 1) := by decide +kernel
theorem dX11_roomAt_2 : decode cX11_roomAt 2 = .ok (.iload_n 2, 1) := by decide +kernel
theorem dX11_roomAt_3 : decode cX11_roomAt 3 = .ok (.invokevirtual 286, 3) := by decide +kernel
theorem dX11_roomAt_6 : decode cX11_roomAt 6 = .ok (.l2i, 1) := by decide +kernel
theorem dX11_roomAt_7 : decode cX11_roomAt 7 = .ok (.ireturn, 1) := by decide +kernel
theorem dX11_goRound_0 : decode cX11_goRound 0 = .ok (.aload_n 0, 1) := by decide +kernel
theorem dX11_goRound_1 : decode cX11_goRound 1 = .ok (.invokevirtual 278, 3) := by decide +kernel
theorem dX11_goRound_4 : decode cX11_goRound 4 = .ok (.iconst 0, 1) := by decide +kernel
theorem dX11_goRound_5 : decode cX11_goRound 5 = .ok (.istore 4, 2) := by decide +kernel
theorem dX11_goRound_7 : decode cX11_goRound 7 = .ok (.iconst 0, 1) := by decide +kernel
theorem dX11_goRound_8 : decode cX11_goRound 8 = .ok (.istore 5, 2) := by decide +kernel
theorem dX11_goRound_10 : decode cX11_goRound 10 = .ok (.iload 5, 2) := by decide +kernel
theorem dX11_goRound_12 : decode cX11_goRound 12 = .ok (.iload_n 2, 1) := by decide +kernel
theorem dX11_goRound_13 : decode cX11_goRound 13 = .ok (.if_icmp .ge 31, 3) := by decide +kernel
theorem dX11_goRound_44 : decode cX11_goRound 44 = .ok (.iload 4, 2) := by decide +kernel
theorem dX11_goRound_46 : decode cX11_goRound 46 = .ok (.ireturn, 1) := by decide +kernel
theorem dX11_goRound_16 : decode cX11_goRound 16 = .ok (.iload 4, 2) := by decide +kernel
theorem dX11_goRound_18 : decode cX11_goRound 18 = .ok (.aload_n 0, 1) := by decide +kernel
theorem dX11_goRound_19 : decode cX11_goRound 19 = .ok (.aload_n 0, 1) := by decide +kernel
theorem dX11_goRound_20 : decode cX11_goRound 20 = .ok (.iload_n 1, 1) := by decide +kernel
theorem dX11_goRound_21 : decode cX11_goRound 21 = .ok (.iload 5, 2) := by decide +kernel
theorem dX11_goRound_23 : decode cX11_goRound 23 = .ok (.invokevirtual 293, 3) := by decide +kernel
theorem dX11_goRound_26 : decode cX11_goRound 26 = .ok (.iload_n 3, 1) := by decide +kernel
theorem dX11_goRound_27 : decode cX11_goRound 27 = .ok (.invokevirtual 264, 3) := by decide +kernel
theorem dX11_goRound_30 : decode cX11_goRound 30 = .ok (.iadd, 1) := by decide +kernel
theorem dX11_goRound_31 : decode cX11_goRound 31 = .ok (.istore 4, 2) := by decide +kernel
theorem dX11_goRound_33 : decode cX11_goRound 33 = .ok (.aload_n 0, 1) := by decide +kernel
theorem dX11_goRound_34 : decode cX11_goRound 34 = .ok (.iconst (-1), 1) := by decide +kernel
theorem dX11_goRound_35 : decode cX11_goRound 35 = .ok (.invokevirtual 267, 3) := by decide +kernel
theorem dX11_goRound_38 : decode cX11_goRound 38 = .ok (.iinc 5 1, 3) := by decide +kernel
theorem dX11_goRound_41 : decode cX11_goRound 41 = .ok (.goto (-31), 3) := by decide +kernel
theorem dX11_worthOf_0 : decode cX11_worthOf 0 = .ok (.aload_n 0, 1) := by decide +kernel
theorem dX11_worthOf_1 : decode cX11_worthOf 1 = .ok (.getfield 9, 3) := by decide +kernel
theorem dX11_worthOf_4 : decode cX11_worthOf 4 = .ok (.iconst 2, 1) := by decide +kernel
theorem dX11_worthOf_5 : decode cX11_worthOf 5 = .ok (.iaload, 1) := by decide +kernel
theorem dX11_worthOf_6 : decode cX11_worthOf 6 = .ok (.i2l, 1) := by decide +kernel
theorem dX11_worthOf_7 : decode cX11_worthOf 7 = .ok (.iload_n 1, 1) := by decide +kernel
theorem dX11_worthOf_8 : decode cX11_worthOf 8 = .ok (.i2l, 1) := by decide +kernel
theorem dX11_worthOf_9 : decode cX11_worthOf 9 = .ok (.lmul, 1) := by decide +kernel
theorem dX11_worthOf_10 : decode cX11_worthOf 10 = .ok (.ldc2_w 273, 3) := by decide +kernel
theorem dX11_worthOf_13 : decode cX11_worthOf 13 = .ok (.ldiv, 1) := by decide +kernel
theorem dX11_worthOf_14 : decode cX11_worthOf 14 = .ok (.l2i, 1) := by decide +kernel
theorem dX11_worthOf_15 : decode cX11_worthOf 15 = .ok (.ireturn, 1) := by decide +kernel
theorem dX11_gainOf_0 : decode cX11_gainOf 0 = .ok (.aload_n 0, 1) := by decide +kernel
theorem dX11_gainOf_1 : decode cX11_gainOf 1 = .ok (.aload_n 0, 1) := by decide +kernel
theorem dX11_gainOf_2 : decode cX11_gainOf 2 = .ok (.iload_n 1, 1) := by decide +kernel
theorem dX11_gainOf_3 : decode cX11_gainOf 3 = .ok (.iload_n 2, 1) := by decide +kernel
theorem dX11_gainOf_4 : decode cX11_gainOf 4 = .ok (.iload_n 3, 1) := by decide +kernel
theorem dX11_gainOf_5 : decode cX11_gainOf 5 = .ok (.invokevirtual 296, 3) := by decide +kernel
theorem dX11_gainOf_8 : decode cX11_gainOf 8 = .ok (.invokevirtual 300, 3) := by decide +kernel
theorem dX11_gainOf_11 : decode cX11_gainOf 11 = .ok (.aload_n 0, 1) := by decide +kernel
theorem dX11_gainOf_12 : decode cX11_gainOf 12 = .ok (.getfield 9, 3) := by decide +kernel
theorem dX11_gainOf_15 : decode cX11_gainOf 15 = .ok (.iconst 3, 1) := by decide +kernel
theorem dX11_gainOf_16 : decode cX11_gainOf 16 = .ok (.iaload, 1) := by decide +kernel
theorem dX11_gainOf_17 : decode cX11_gainOf 17 = .ok (.iload_n 2, 1) := by decide +kernel
theorem dX11_gainOf_18 : decode cX11_gainOf 18 = .ok (.imul, 1) := by decide +kernel
theorem dX11_gainOf_19 : decode cX11_gainOf 19 = .ok (.isub, 1) := by decide +kernel
theorem dX11_gainOf_20 : decode cX11_gainOf 20 = .ok (.ireturn, 1) := by decide +kernel
theorem dX11_goesTo_0 : decode cX11_goesTo 0 = .ok (.iload_n 1, 1) := by decide +kernel
theorem dX11_goesTo_1 : decode cX11_goesTo 1 = .ok (.iload_n 2, 1) := by decide +kernel
theorem dX11_goesTo_2 : decode cX11_goesTo 2 = .ok (.if_icmp .eq 17, 3) := by decide +kernel
theorem dX11_goesTo_19 : decode cX11_goesTo 19 = .ok (.iconst 1, 1) := by decide +kernel
theorem dX11_goesTo_20 : decode cX11_goesTo 20 = .ok (.goto 4, 3) := by decide +kernel
theorem dX11_goesTo_24 : decode cX11_goesTo 24 = .ok (.ireturn, 1) := by decide +kernel
theorem dX11_goesTo_5 : decode cX11_goesTo 5 = .ok (.aload_n 0, 1) := by decide +kernel
theorem dX11_goesTo_6 : decode cX11_goesTo 6 = .ok (.iload_n 1, 1) := by decide +kernel
theorem dX11_goesTo_7 : decode cX11_goesTo 7 = .ok (.iconst 3, 1) := by decide +kernel
theorem dX11_goesTo_8 : decode cX11_goesTo 8 = .ok (.invokevirtual 227, 3) := by decide +kernel
theorem dX11_goesTo_11 : decode cX11_goesTo 11 = .ok (.iload_n 2, 1) := by decide +kernel
theorem dX11_goesTo_12 : decode cX11_goesTo 12 = .ok (.invokestatic 258, 3) := by decide +kernel
theorem dX11_goesTo_15 : decode cX11_goesTo 15 = .ok (.iconst 1, 1) := by decide +kernel
theorem dX11_goesTo_16 : decode cX11_goesTo 16 = .ok (.if_icmp .ne 7, 3) := by decide +kernel
theorem dX11_goesTo_23 : decode cX11_goesTo 23 = .ok (.iconst 0, 1) := by decide +kernel
theorem dX11_canWalk_0 : decode cX11_canWalk 0 = .ok (.iload_n 2, 1) := by decide +kernel
theorem dX11_canWalk_1 : decode cX11_canWalk 1 = .ok (.istore_n 3, 1) := by decide +kernel
theorem dX11_canWalk_2 : decode cX11_canWalk 2 = .ok (.iconst 0, 1) := by decide +kernel
theorem dX11_canWalk_3 : decode cX11_canWalk 3 = .ok (.istore 4, 2) := by decide +kernel
theorem dX11_canWalk_5 : decode cX11_canWalk 5 = .ok (.iload 4, 2) := by decide +kernel
theorem dX11_canWalk_7 : decode cX11_canWalk 7 = .ok (.aload_n 0, 1) := by decide +kernel
theorem dX11_canWalk_8 : decode cX11_canWalk 8 = .ok (.getfield 61, 3) := by decide +kernel
theorem dX11_canWalk_11 : decode cX11_canWalk 11 = .ok (.iload_n 1, 1) := by decide +kernel
theorem dX11_canWalk_12 : decode cX11_canWalk 12 = .ok (.iaload, 1) := by decide +kernel
theorem dX11_canWalk_13 : decode cX11_canWalk 13 = .ok (.if_icmp .ge 48, 3) := by decide +kernel
theorem dX11_canWalk_61 : decode cX11_canWalk 61 = .ok (.iconst 1, 1) := by decide +kernel
theorem dX11_canWalk_62 : decode cX11_canWalk 62 = .ok (.ireturn, 1) := by decide +kernel
theorem dX11_canWalk_16 : decode cX11_canWalk 16 = .ok (.aload_n 0, 1) := by decide +kernel
theorem dX11_canWalk_17 : decode cX11_canWalk 17 = .ok (.iload_n 1, 1) := by decide +kernel
theorem dX11_canWalk_18 : decode cX11_canWalk 18 = .ok (.iload 4, 2) := by decide +kernel
theorem dX11_canWalk_20 : decode cX11_canWalk 20 = .ok (.invokevirtual 293, 3) := by decide +kernel
theorem dX11_canWalk_23 : decode cX11_canWalk 23 = .ok (.iconst (-1), 1) := by decide +kernel
theorem dX11_canWalk_38 : decode cX11_canWalk 38 = .ok (.istore 5, 2) := by decide +kernel
theorem dX11_canWalk_40 : decode cX11_canWalk 40 = .ok (.aload_n 0, 1) := by decide +kernel
theorem dX11_canWalk_41 : decode cX11_canWalk 41 = .ok (.iload_n 3, 1) := by decide +kernel
theorem dX11_canWalk_42 : decode cX11_canWalk 42 = .ok (.iload 5, 2) := by decide +kernel
theorem dX11_canWalk_44 : decode cX11_canWalk 44 = .ok (.invokevirtual 312, 3) := by decide +kernel
theorem dX11_canWalk_47 : decode cX11_canWalk 47 = .ok (.ifCond .ne 5, 3) := by decide +kernel
theorem dX11_canWalk_52 : decode cX11_canWalk 52 = .ok (.iload 5, 2) := by decide +kernel
theorem dX11_canWalk_54 : decode cX11_canWalk 54 = .ok (.istore_n 3, 1) := by decide +kernel
theorem dX11_canWalk_55 : decode cX11_canWalk 55 = .ok (.iinc 4 1, 3) := by decide +kernel
theorem dX11_canWalk_58 : decode cX11_canWalk 58 = .ok (.goto (-53), 3) := by decide +kernel
theorem dX11_canWalk_50 : decode cX11_canWalk 50 = .ok (.iconst 0, 1) := by decide +kernel
theorem dX11_canWalk_51 : decode cX11_canWalk 51 = .ok (.ireturn, 1) := by decide +kernel
theorem dX11_canWalk_24 : decode cX11_canWalk 24 = .ok (.if_icmp .ne 7, 3) := by decide +kernel
theorem dX11_canWalk_31 : decode cX11_canWalk 31 = .ok (.aload_n 0, 1) := by decide +kernel
theorem dX11_canWalk_32 : decode cX11_canWalk 32 = .ok (.iload_n 1, 1) := by decide +kernel
theorem dX11_canWalk_33 : decode cX11_canWalk 33 = .ok (.iload 4, 2) := by decide +kernel
theorem dX11_canWalk_35 : decode cX11_canWalk 35 = .ok (.invokevirtual 293, 3) := by decide +kernel
theorem dX11_canWalk_27 : decode cX11_canWalk 27 = .ok (.iload_n 3, 1) := by decide +kernel
theorem dX11_canWalk_28 : decode cX11_canWalk 28 = .ok (.goto 10, 3) := by decide +kernel
theorem dX11_nextWay_0 : decode cX11_nextWay 0 = .ok (.iload_n 1, 1) := by decide +kernel
theorem dX11_nextWay_1 : decode cX11_nextWay 1 = .ok (.iconst 1, 1) := by decide +kernel
theorem dX11_nextWay_2 : decode cX11_nextWay 2 = .ok (.isub, 1) := by decide +kernel
theorem dX11_nextWay_3 : decode cX11_nextWay 3 = .ok (.istore_n 2, 1) := by decide +kernel
theorem dX11_nextWay_4 : decode cX11_nextWay 4 = .ok (.iload_n 2, 1) := by decide +kernel
theorem dX11_nextWay_5 : decode cX11_nextWay 5 = .ok (.ifCond .lt 43, 3) := by decide +kernel
theorem dX11_nextWay_48 : decode cX11_nextWay 48 = .ok (.iconst 0, 1) := by decide +kernel
theorem dX11_nextWay_49 : decode cX11_nextWay 49 = .ok (.ireturn, 1) := by decide +kernel
theorem dX11_nextWay_8 : decode cX11_nextWay 8 = .ok (.aload_n 0, 1) := by decide +kernel
theorem dX11_nextWay_9 : decode cX11_nextWay 9 = .ok (.getfield 40, 3) := by decide +kernel
theorem dX11_nextWay_12 : decode cX11_nextWay 12 = .ok (.iload_n 2, 1) := by decide +kernel
theorem dX11_nextWay_13 : decode cX11_nextWay 13 = .ok (.dup2, 1) := by decide +kernel
theorem dX11_nextWay_14 : decode cX11_nextWay 14 = .ok (.iaload, 1) := by decide +kernel
theorem dX11_nextWay_15 : decode cX11_nextWay 15 = .ok (.iconst 1, 1) := by decide +kernel
theorem dX11_nextWay_16 : decode cX11_nextWay 16 = .ok (.iadd, 1) := by decide +kernel
theorem dX11_nextWay_17 : decode cX11_nextWay 17 = .ok (.iastore, 1) := by decide +kernel
theorem dX11_nextWay_18 : decode cX11_nextWay 18 = .ok (.aload_n 0, 1) := by decide +kernel
theorem dX11_nextWay_19 : decode cX11_nextWay 19 = .ok (.getfield 40, 3) := by decide +kernel
theorem dX11_nextWay_22 : decode cX11_nextWay 22 = .ok (.iload_n 2, 1) := by decide +kernel
theorem dX11_nextWay_23 : decode cX11_nextWay 23 = .ok (.iaload, 1) := by decide +kernel
theorem dX11_nextWay_24 : decode cX11_nextWay 24 = .ok (.aload_n 0, 1) := by decide +kernel
theorem dX11_nextWay_25 : decode cX11_nextWay 25 = .ok (.getfield 9, 3) := by decide +kernel
theorem dX11_nextWay_28 : decode cX11_nextWay 28 = .ok (.iconst 4, 1) := by decide +kernel
theorem dX11_nextWay_29 : decode cX11_nextWay 29 = .ok (.iaload, 1) := by decide +kernel
theorem dX11_nextWay_30 : decode cX11_nextWay 30 = .ok (.if_icmp .ge 5, 3) := by decide +kernel
theorem dX11_nextWay_35 : decode cX11_nextWay 35 = .ok (.aload_n 0, 1) := by decide +kernel
theorem dX11_nextWay_36 : decode cX11_nextWay 36 = .ok (.getfield 40, 3) := by decide +kernel
theorem dX11_nextWay_39 : decode cX11_nextWay 39 = .ok (.iload_n 2, 1) := by decide +kernel
theorem dX11_nextWay_40 : decode cX11_nextWay 40 = .ok (.iconst 0, 1) := by decide +kernel
theorem dX11_nextWay_41 : decode cX11_nextWay 41 = .ok (.iastore, 1) := by decide +kernel
theorem dX11_nextWay_42 : decode cX11_nextWay 42 = .ok (.iinc 2 (-1), 3) := by decide +kernel
theorem dX11_nextWay_45 : decode cX11_nextWay 45 = .ok (.goto (-41), 3) := by decide +kernel
theorem dX11_nextWay_33 : decode cX11_nextWay 33 = .ok (.iconst 1, 1) := by decide +kernel
theorem dX11_nextWay_34 : decode cX11_nextWay 34 = .ok (.ireturn, 1) := by decide +kernel
theorem dX11_isWay_0 : decode cX11_isWay 0 = .ok (.iload_n 1, 1) := by decide +kernel
theorem dX11_isWay_1 : decode cX11_isWay 1 = .ok (.istore_n 3, 1) := by decide +kernel
theorem dX11_isWay_2 : decode cX11_isWay 2 = .ok (.iconst 0, 1) := by decide +kernel
theorem dX11_isWay_3 : decode cX11_isWay 3 = .ok (.istore 4, 2) := by decide +kernel
theorem dX11_isWay_5 : decode cX11_isWay 5 = .ok (.iload 4, 2) := by decide +kernel
theorem dX11_isWay_7 : decode cX11_isWay 7 = .ok (.iload_n 2, 1) := by decide +kernel
theorem dX11_isWay_8 : decode cX11_isWay 8 = .ok (.if_icmp .ge 34, 3) := by decide +kernel
theorem dX11_isWay_42 : decode cX11_isWay 42 = .ok (.iconst 1, 1) := by decide +kernel
theorem dX11_isWay_43 : decode cX11_isWay 43 = .ok (.ireturn, 1) := by decide +kernel
theorem dX11_isWay_11 : decode cX11_isWay 11 = .ok (.aload_n 0, 1) := by decide +kernel
theorem dX11_isWay_12 : decode cX11_isWay 12 = .ok (.iload_n 3, 1) := by decide +kernel
theorem dX11_isWay_13 : decode cX11_isWay 13 = .ok (.aload_n 0, 1) := by decide +kernel
theorem dX11_isWay_14 : decode cX11_isWay 14 = .ok (.getfield 40, 3) := by decide +kernel
theorem dX11_isWay_17 : decode cX11_isWay 17 = .ok (.iload 4, 2) := by decide +kernel
theorem dX11_isWay_19 : decode cX11_isWay 19 = .ok (.iaload, 1) := by decide +kernel
theorem dX11_isWay_20 : decode cX11_isWay 20 = .ok (.invokevirtual 312, 3) := by decide +kernel
theorem dX11_isWay_23 : decode cX11_isWay 23 = .ok (.ifCond .ne 5, 3) := by decide +kernel
theorem dX11_isWay_28 : decode cX11_isWay 28 = .ok (.aload_n 0, 1) := by decide +kernel
theorem dX11_isWay_29 : decode cX11_isWay 29 = .ok (.getfield 40, 3) := by decide +kernel
theorem dX11_isWay_32 : decode cX11_isWay 32 = .ok (.iload 4, 2) := by decide +kernel
theorem dX11_isWay_34 : decode cX11_isWay 34 = .ok (.iaload, 1) := by decide +kernel
theorem dX11_isWay_35 : decode cX11_isWay 35 = .ok (.istore_n 3, 1) := by decide +kernel
theorem dX11_isWay_36 : decode cX11_isWay 36 = .ok (.iinc 4 1, 3) := by decide +kernel
theorem dX11_isWay_39 : decode cX11_isWay 39 = .ok (.goto (-34), 3) := by decide +kernel
theorem dX11_isWay_26 : decode cX11_isWay 26 = .ok (.iconst 0, 1) := by decide +kernel
theorem dX11_isWay_27 : decode cX11_isWay 27 = .ok (.ireturn, 1) := by decide +kernel
theorem dX11_bestFrom_0 : decode cX11_bestFrom 0 = .ok (.aload_n 0, 1) := by decide +kernel
theorem dX11_bestFrom_1 : decode cX11_bestFrom 1 = .ok (.invokevirtual 278, 3) := by decide +kernel
theorem dX11_bestFrom_4 : decode cX11_bestFrom 4 = .ok (.iconst 0, 1) := by decide +kernel
theorem dX11_bestFrom_5 : decode cX11_bestFrom 5 = .ok (.istore_n 3, 1) := by decide +kernel
theorem dX11_bestFrom_6 : decode cX11_bestFrom 6 = .ok (.iload_n 3, 1) := by decide +kernel
theorem dX11_bestFrom_7 : decode cX11_bestFrom 7 = .ok (.bipush 7, 2) := by decide +kernel
theorem dX11_bestFrom_9 : decode cX11_bestFrom 9 = .ok (.if_icmp .ge 21, 3) := by decide +kernel
theorem dX11_bestFrom_30 : decode cX11_bestFrom 30 = .ok (.iconst 0, 1) := by decide +kernel
theorem dX11_bestFrom_31 : decode cX11_bestFrom 31 = .ok (.istore_n 3, 1) := by decide +kernel
theorem dX11_bestFrom_32 : decode cX11_bestFrom 32 = .ok (.iload_n 3, 1) := by decide +kernel
theorem dX11_bestFrom_33 : decode cX11_bestFrom 33 = .ok (.iconst 5, 1) := by decide +kernel
theorem dX11_bestFrom_34 : decode cX11_bestFrom 34 = .ok (.if_icmp .ge 16, 3) := by decide +kernel
theorem dX11_bestFrom_50 : decode cX11_bestFrom 50 = .ok (.iconst (-1), 1) := by decide +kernel
theorem dX11_bestFrom_51 : decode cX11_bestFrom 51 = .ok (.istore_n 3, 1) := by decide +kernel
theorem dX11_bestFrom_52 : decode cX11_bestFrom 52 = .ok (.aload_n 0, 1) := by decide +kernel
theorem dX11_bestFrom_53 : decode cX11_bestFrom 53 = .ok (.iload_n 1, 1) := by decide +kernel
theorem dX11_bestFrom_54 : decode cX11_bestFrom 54 = .ok (.iload_n 2, 1) := by decide +kernel
theorem dX11_bestFrom_55 : decode cX11_bestFrom 55 = .ok (.invokevirtual 319, 3) := by decide +kernel
theorem dX11_bestFrom_175 : decode cX11_bestFrom 175 = .ok (.aload_n 0, 1) := by decide +kernel
theorem dX11_bestFrom_176 : decode cX11_bestFrom 176 = .ok (.iload_n 2, 1) := by decide +kernel
theorem dX11_bestFrom_177 : decode cX11_bestFrom 177 = .ok (.invokevirtual 322, 3) := by decide +kernel
theorem dX11_bestFrom_180 : decode cX11_bestFrom 180 = .ok (.ifCond .ne (-128), 3) := by decide +kernel
theorem dX11_bestFrom_183 : decode cX11_bestFrom 183 = .ok (.iload_n 3, 1) := by decide +kernel
theorem dX11_bestFrom_184 : decode cX11_bestFrom 184 = .ok (.ireturn, 1) := by decide +kernel
theorem dX11_bestFrom_58 : decode cX11_bestFrom 58 = .ok (.ifCond .ne 6, 3) := by decide +kernel
theorem dX11_bestFrom_64 : decode cX11_bestFrom 64 = .ok (.iconst 0, 1) := by decide +kernel
theorem dX11_bestFrom_65 : decode cX11_bestFrom 65 = .ok (.istore 4, 2) := by decide +kernel
theorem dX11_bestFrom_67 : decode cX11_bestFrom 67 = .ok (.iload 4, 2) := by decide +kernel
theorem dX11_bestFrom_69 : decode cX11_bestFrom 69 = .ok (.bipush 7, 2) := by decide +kernel
theorem dX11_bestFrom_71 : decode cX11_bestFrom 71 = .ok (.if_icmp .ge 23, 3) := by decide +kernel
theorem dX11_bestFrom_94 : decode cX11_bestFrom 94 = .ok (.iconst 0, 1) := by decide +kernel
theorem dX11_bestFrom_95 : decode cX11_bestFrom 95 = .ok (.istore 4, 2) := by decide +kernel
theorem dX11_bestFrom_97 : decode cX11_bestFrom 97 = .ok (.iconst 0, 1) := by decide +kernel
theorem dX11_bestFrom_98 : decode cX11_bestFrom 98 = .ok (.istore 5, 2) := by decide +kernel
theorem dX11_bestFrom_100 : decode cX11_bestFrom 100 = .ok (.iload 5, 2) := by decide +kernel
theorem dX11_bestFrom_102 : decode cX11_bestFrom 102 = .ok (.iload_n 2, 1) := by decide +kernel
theorem dX11_bestFrom_103 : decode cX11_bestFrom 103 = .ok (.if_icmp .ge 31, 3) := by decide +kernel
theorem dX11_bestFrom_134 : decode cX11_bestFrom 134 = .ok (.iload 4, 2) := by decide +kernel
theorem dX11_bestFrom_136 : decode cX11_bestFrom 136 = .ok (.iload_n 3, 1) := by decide +kernel
theorem dX11_bestFrom_137 : decode cX11_bestFrom 137 = .ok (.if_icmp .gt 6, 3) := by decide +kernel
theorem dX11_bestFrom_143 : decode cX11_bestFrom 143 = .ok (.iload 4, 2) := by decide +kernel
theorem dX11_bestFrom_145 : decode cX11_bestFrom 145 = .ok (.istore_n 3, 1) := by decide +kernel
theorem dX11_bestFrom_146 : decode cX11_bestFrom 146 = .ok (.iconst 0, 1) := by decide +kernel
theorem dX11_bestFrom_147 : decode cX11_bestFrom 147 = .ok (.istore 5, 2) := by decide +kernel
theorem dX11_bestFrom_149 : decode cX11_bestFrom 149 = .ok (.iload 5, 2) := by decide +kernel
theorem dX11_bestFrom_151 : decode cX11_bestFrom 151 = .ok (.iload_n 2, 1) := by decide +kernel
theorem dX11_bestFrom_152 : decode cX11_bestFrom 152 = .ok (.if_icmp .ge 23, 3) := by decide +kernel
theorem dX11_bestFrom_155 : decode cX11_bestFrom 155 = .ok (.aload_n 0, 1) := by decide +kernel
theorem dX11_bestFrom_156 : decode cX11_bestFrom 156 = .ok (.getfield 43, 3) := by decide +kernel
theorem dX11_bestFrom_159 : decode cX11_bestFrom 159 = .ok (.iload 5, 2) := by decide +kernel
theorem dX11_bestFrom_161 : decode cX11_bestFrom 161 = .ok (.aload_n 0, 1) := by decide +kernel
theorem dX11_bestFrom_162 : decode cX11_bestFrom 162 = .ok (.getfield 40, 3) := by decide +kernel
theorem dX11_bestFrom_165 : decode cX11_bestFrom 165 = .ok (.iload 5, 2) := by decide +kernel
theorem dX11_bestFrom_167 : decode cX11_bestFrom 167 = .ok (.iaload, 1) := by decide +kernel
theorem dX11_bestFrom_168 : decode cX11_bestFrom 168 = .ok (.iastore, 1) := by decide +kernel
theorem dX11_bestFrom_169 : decode cX11_bestFrom 169 = .ok (.iinc 5 1, 3) := by decide +kernel
theorem dX11_bestFrom_172 : decode cX11_bestFrom 172 = .ok (.goto (-23), 3) := by decide +kernel
theorem dX11_bestFrom_140 : decode cX11_bestFrom 140 = .ok (.goto 35, 3) := by decide +kernel
theorem dX11_bestFrom_106 : decode cX11_bestFrom 106 = .ok (.iload 4, 2) := by decide +kernel
theorem dX11_bestFrom_108 : decode cX11_bestFrom 108 = .ok (.aload_n 0, 1) := by decide +kernel
theorem dX11_bestFrom_109 : decode cX11_bestFrom 109 = .ok (.aload_n 0, 1) := by decide +kernel
theorem dX11_bestFrom_110 : decode cX11_bestFrom 110 = .ok (.getfield 40, 3) := by decide +kernel
theorem dX11_bestFrom_113 : decode cX11_bestFrom 113 = .ok (.iload 5, 2) := by decide +kernel
theorem dX11_bestFrom_115 : decode cX11_bestFrom 115 = .ok (.iaload, 1) := by decide +kernel
theorem dX11_bestFrom_116 : decode cX11_bestFrom 116 = .ok (.iconst 0, 1) := by decide +kernel
theorem dX11_bestFrom_117 : decode cX11_bestFrom 117 = .ok (.invokevirtual 264, 3) := by decide +kernel
theorem dX11_bestFrom_120 : decode cX11_bestFrom 120 = .ok (.iadd, 1) := by decide +kernel
theorem dX11_bestFrom_121 : decode cX11_bestFrom 121 = .ok (.istore 4, 2) := by decide +kernel
theorem dX11_bestFrom_123 : decode cX11_bestFrom 123 = .ok (.aload_n 0, 1) := by decide +kernel
theorem dX11_bestFrom_124 : decode cX11_bestFrom 124 = .ok (.iconst (-1), 1) := by decide +kernel
theorem dX11_bestFrom_125 : decode cX11_bestFrom 125 = .ok (.invokevirtual 267, 3) := by decide +kernel
theorem dX11_bestFrom_128 : decode cX11_bestFrom 128 = .ok (.iinc 5 1, 3) := by decide +kernel
theorem dX11_bestFrom_131 : decode cX11_bestFrom 131 = .ok (.goto (-31), 3) := by decide +kernel
theorem dX11_bestFrom_74 : decode cX11_bestFrom 74 = .ok (.aload_n 0, 1) := by decide +kernel
theorem dX11_bestFrom_75 : decode cX11_bestFrom 75 = .ok (.getfield 34, 3) := by decide +kernel
theorem dX11_bestFrom_78 : decode cX11_bestFrom 78 = .ok (.iload 4, 2) := by decide +kernel
theorem dX11_bestFrom_80 : decode cX11_bestFrom 80 = .ok (.aload_n 0, 1) := by decide +kernel
theorem dX11_bestFrom_81 : decode cX11_bestFrom 81 = .ok (.getfield 46, 3) := by decide +kernel
theorem dX11_bestFrom_84 : decode cX11_bestFrom 84 = .ok (.iload 4, 2) := by decide +kernel
theorem dX11_bestFrom_86 : decode cX11_bestFrom 86 = .ok (.iaload, 1) := by decide +kernel
theorem dX11_bestFrom_87 : decode cX11_bestFrom 87 = .ok (.iastore, 1) := by decide +kernel
theorem dX11_bestFrom_88 : decode cX11_bestFrom 88 = .ok (.iinc 4 1, 3) := by decide +kernel
theorem dX11_bestFrom_91 : decode cX11_bestFrom 91 = .ok (.goto (-24), 3) := by decide +kernel
theorem dX11_bestFrom_61 : decode cX11_bestFrom 61 = .ok (.goto 114, 3) := by decide +kernel
theorem dX11_bestFrom_37 : decode cX11_bestFrom 37 = .ok (.aload_n 0, 1) := by decide +kernel
theorem dX11_bestFrom_38 : decode cX11_bestFrom 38 = .ok (.getfield 40, 3) := by decide +kernel
theorem dX11_bestFrom_41 : decode cX11_bestFrom 41 = .ok (.iload_n 3, 1) := by decide +kernel
theorem dX11_bestFrom_42 : decode cX11_bestFrom 42 = .ok (.iconst 0, 1) := by decide +kernel
theorem dX11_bestFrom_43 : decode cX11_bestFrom 43 = .ok (.iastore, 1) := by decide +kernel
theorem dX11_bestFrom_44 : decode cX11_bestFrom 44 = .ok (.iinc 3 1, 3) := by decide +kernel
theorem dX11_bestFrom_47 : decode cX11_bestFrom 47 = .ok (.goto (-15), 3) := by decide +kernel
theorem dX11_bestFrom_12 : decode cX11_bestFrom 12 = .ok (.aload_n 0, 1) := by decide +kernel
theorem dX11_bestFrom_13 : decode cX11_bestFrom 13 = .ok (.getfield 46, 3) := by decide +kernel
theorem dX11_bestFrom_16 : decode cX11_bestFrom 16 = .ok (.iload_n 3, 1) := by decide +kernel
theorem dX11_bestFrom_17 : decode cX11_bestFrom 17 = .ok (.aload_n 0, 1) := by decide +kernel
theorem dX11_bestFrom_18 : decode cX11_bestFrom 18 = .ok (.getfield 34, 3) := by decide +kernel
theorem dX11_bestFrom_21 : decode cX11_bestFrom 21 = .ok (.iload_n 3, 1) := by decide +kernel
theorem dX11_bestFrom_22 : decode cX11_bestFrom 22 = .ok (.iaload, 1) := by decide +kernel
theorem dX11_bestFrom_23 : decode cX11_bestFrom 23 = .ok (.iastore, 1) := by decide +kernel
theorem dX11_bestFrom_24 : decode cX11_bestFrom 24 = .ok (.iinc 3 1, 3) := by decide +kernel
theorem dX11_bestFrom_27 : decode cX11_bestFrom 27 = .ok (.goto (-21), 3) := by decide +kernel
theorem dX11_best_0 : decode cX11_best 0 = .ok (.aload_n 0, 1) := by decide +kernel
theorem dX11_best_1 : decode cX11_best 1 = .ok (.iload_n 1, 1) := by decide +kernel
theorem dX11_best_2 : decode cX11_best 2 = .ok (.i2l, 1) := by decide +kernel
theorem dX11_best_3 : decode cX11_best 3 = .ok (.invokevirtual 89, 3) := by decide +kernel
theorem dX11_best_6 : decode cX11_best 6 = .ok (.ifCond .eq 24, 3) := by decide +kernel
theorem dX11_best_30 : decode cX11_best 30 = .ok (.bipush (-2), 2) := by decide +kernel
theorem dX11_best_32 : decode cX11_best 32 = .ok (.ireturn, 1) := by decide +kernel
theorem dX11_best_9 : decode cX11_best 9 = .ok (.iload_n 2, 1) := by decide +kernel
theorem dX11_best_10 : decode cX11_best 10 = .ok (.i2l, 1) := by decide +kernel
theorem dX11_best_11 : decode cX11_best 11 = .ok (.lconst 0, 1) := by decide +kernel
theorem dX11_best_12 : decode cX11_best 12 = .ok (.ldc2_w 325, 3) := by decide +kernel
theorem dX11_best_15 : decode cX11_best 15 = .ok (.invokestatic 79, 3) := by decide +kernel
theorem dX11_best_18 : decode cX11_best 18 = .ok (.ifCond .eq 12, 3) := by decide +kernel
theorem dX11_best_21 : decode cX11_best 21 = .ok (.aload_n 0, 1) := by decide +kernel
theorem dX11_best_22 : decode cX11_best 22 = .ok (.iload_n 1, 1) := by decide +kernel
theorem dX11_best_23 : decode cX11_best 23 = .ok (.iload_n 2, 1) := by decide +kernel
theorem dX11_best_24 : decode cX11_best 24 = .ok (.invokevirtual 327, 3) := by decide +kernel
theorem dX11_best_27 : decode cX11_best 27 = .ok (.goto 5, 3) := by decide +kernel
theorem dX11_goes_0 : decode cX11_goes 0 = .ok (.aload_n 0, 1) := by decide +kernel
theorem dX11_goes_1 : decode cX11_goes 1 = .ok (.iload_n 1, 1) := by decide +kernel
theorem dX11_goes_2 : decode cX11_goes 2 = .ok (.i2l, 1) := by decide +kernel
theorem dX11_goes_3 : decode cX11_goes 3 = .ok (.invokevirtual 89, 3) := by decide +kernel
theorem dX11_goes_6 : decode cX11_goes 6 = .ok (.ifCond .eq 15, 3) := by decide +kernel
theorem dX11_goes_21 : decode cX11_goes 21 = .ok (.bipush (-2), 2) := by decide +kernel
theorem dX11_goes_23 : decode cX11_goes 23 = .ok (.ireturn, 1) := by decide +kernel
theorem dX11_goes_9 : decode cX11_goes 9 = .ok (.iload_n 2, 1) := by decide +kernel
theorem dX11_goes_10 : decode cX11_goes 10 = .ok (.i2l, 1) := by decide +kernel
theorem dX11_goes_11 : decode cX11_goes 11 = .ok (.lconst 0, 1) := by decide +kernel
theorem dX11_goes_12 : decode cX11_goes 12 = .ok (.ldc2_w 325, 3) := by decide +kernel
theorem dX11_goes_15 : decode cX11_goes 15 = .ok (.invokestatic 79, 3) := by decide +kernel
theorem dX11_goes_18 : decode cX11_goes 18 = .ok (.ifCond .ne 6, 3) := by decide +kernel
theorem dX11_goes_24 : decode cX11_goes 24 = .ok (.aload_n 0, 1) := by decide +kernel
theorem dX11_goes_25 : decode cX11_goes 25 = .ok (.iload_n 1, 1) := by decide +kernel
theorem dX11_goes_26 : decode cX11_goes 26 = .ok (.iload_n 2, 1) := by decide +kernel
theorem dX11_goes_27 : decode cX11_goes 27 = .ok (.invokevirtual 327, 3) := by decide +kernel
theorem dX11_goes_30 : decode cX11_goes 30 = .ok (.pop, 1) := by decide +kernel
theorem dX11_goes_31 : decode cX11_goes 31 = .ok (.iload_n 3, 1) := by decide +kernel
theorem dX11_goes_32 : decode cX11_goes 32 = .ok (.i2l, 1) := by decide +kernel
theorem dX11_goes_33 : decode cX11_goes 33 = .ok (.lconst 0, 1) := by decide +kernel
theorem dX11_goes_34 : decode cX11_goes 34 = .ok (.iload_n 2, 1) := by decide +kernel
theorem dX11_goes_35 : decode cX11_goes 35 = .ok (.iconst 1, 1) := by decide +kernel
theorem dX11_goes_36 : decode cX11_goes 36 = .ok (.isub, 1) := by decide +kernel
theorem dX11_goes_37 : decode cX11_goes 37 = .ok (.i2l, 1) := by decide +kernel
theorem dX11_goes_38 : decode cX11_goes 38 = .ok (.invokestatic 79, 3) := by decide +kernel
theorem dX11_goes_41 : decode cX11_goes 41 = .ok (.ifCond .eq 12, 3) := by decide +kernel
theorem dX11_goes_53 : decode cX11_goes 53 = .ok (.iconst (-1), 1) := by decide +kernel
theorem dX11_goes_54 : decode cX11_goes 54 = .ok (.ireturn, 1) := by decide +kernel
theorem dX11_goes_44 : decode cX11_goes 44 = .ok (.aload_n 0, 1) := by decide +kernel
theorem dX11_goes_45 : decode cX11_goes 45 = .ok (.getfield 43, 3) := by decide +kernel
theorem dX11_goes_48 : decode cX11_goes 48 = .ok (.iload_n 3, 1) := by decide +kernel
theorem dX11_goes_49 : decode cX11_goes 49 = .ok (.iaload, 1) := by decide +kernel
theorem dX11_goes_50 : decode cX11_goes 50 = .ok (.goto 4, 3) := by decide +kernel
theorem dX11_begins_0 : decode cX11_begins 0 = .ok (.iload_n 1, 1) := by decide +kernel
theorem dX11_begins_1 : decode cX11_begins 1 = .ok (.i2l, 1) := by decide +kernel
theorem dX11_begins_2 : decode cX11_begins 2 = .ok (.lconst 0, 1) := by decide +kernel
theorem dX11_begins_3 : decode cX11_begins 3 = .ok (.ldc2_w 325, 3) := by decide +kernel
theorem dX11_begins_6 : decode cX11_begins 6 = .ok (.invokestatic 79, 3) := by decide +kernel
theorem dX11_begins_9 : decode cX11_begins 9 = .ok (.ifCond .eq 12, 3) := by decide +kernel
theorem dX11_begins_21 : decode cX11_begins 21 = .ok (.bipush (-2), 2) := by decide +kernel
theorem dX11_begins_23 : decode cX11_begins 23 = .ok (.ireturn, 1) := by decide +kernel
theorem dX11_begins_12 : decode cX11_begins 12 = .ok (.aload_n 0, 1) := by decide +kernel
theorem dX11_begins_13 : decode cX11_begins 13 = .ok (.getfield 9, 3) := by decide +kernel
theorem dX11_begins_16 : decode cX11_begins 16 = .ok (.iconst 4, 1) := by decide +kernel
theorem dX11_begins_17 : decode cX11_begins 17 = .ok (.iaload, 1) := by decide +kernel
theorem dX11_begins_18 : decode cX11_begins 18 = .ok (.ifCond .ne 6, 3) := by decide +kernel
theorem dX11_begins_24 : decode cX11_begins 24 = .ok (.iconst (-1), 1) := by decide +kernel
theorem dX11_begins_25 : decode cX11_begins 25 = .ok (.istore_n 2, 1) := by decide +kernel
theorem dX11_begins_26 : decode cX11_begins 26 = .ok (.iconst (-1), 1) := by decide +kernel
theorem dX11_begins_27 : decode cX11_begins 27 = .ok (.istore_n 3, 1) := by decide +kernel
theorem dX11_begins_28 : decode cX11_begins 28 = .ok (.iconst 0, 1) := by decide +kernel
theorem dX11_begins_29 : decode cX11_begins 29 = .ok (.istore 4, 2) := by decide +kernel
theorem dX11_begins_31 : decode cX11_begins 31 = .ok (.iload 4, 2) := by decide +kernel
theorem dX11_begins_33 : decode cX11_begins 33 = .ok (.aload_n 0, 1) := by decide +kernel
theorem dX11_begins_34 : decode cX11_begins 34 = .ok (.getfield 9, 3) := by decide +kernel
theorem dX11_begins_37 : decode cX11_begins 37 = .ok (.iconst 4, 1) := by decide +kernel
theorem dX11_begins_38 : decode cX11_begins 38 = .ok (.iaload, 1) := by decide +kernel
theorem dX11_begins_39 : decode cX11_begins 39 = .ok (.if_icmp .ge 33, 3) := by decide +kernel
theorem dX11_begins_72 : decode cX11_begins 72 = .ok (.iload_n 2, 1) := by decide +kernel
theorem dX11_begins_73 : decode cX11_begins 73 = .ok (.ireturn, 1) := by decide +kernel
theorem dX11_begins_42 : decode cX11_begins 42 = .ok (.aload_n 0, 1) := by decide +kernel
theorem dX11_begins_43 : decode cX11_begins 43 = .ok (.iload 4, 2) := by decide +kernel
theorem dX11_begins_45 : decode cX11_begins 45 = .ok (.iload_n 1, 1) := by decide +kernel
theorem dX11_begins_46 : decode cX11_begins 46 = .ok (.invokevirtual 327, 3) := by decide +kernel
theorem dX11_begins_49 : decode cX11_begins 49 = .ok (.istore 5, 2) := by decide +kernel
theorem dX11_begins_51 : decode cX11_begins 51 = .ok (.iload 5, 2) := by decide +kernel
theorem dX11_begins_53 : decode cX11_begins 53 = .ok (.iload_n 3, 1) := by decide +kernel
theorem dX11_begins_66 : decode cX11_begins 66 = .ok (.iinc 4 1, 3) := by decide +kernel
theorem dX11_begins_69 : decode cX11_begins 69 = .ok (.goto (-38), 3) := by decide +kernel
theorem dX11_begins_54 : decode cX11_begins 54 = .ok (.if_icmp .gt 6, 3) := by decide +kernel
theorem dX11_begins_60 : decode cX11_begins 60 = .ok (.iload 5, 2) := by decide +kernel
theorem dX11_begins_62 : decode cX11_begins 62 = .ok (.istore_n 3, 1) := by decide +kernel
theorem dX11_begins_63 : decode cX11_begins 63 = .ok (.iload 4, 2) := by decide +kernel
theorem dX11_begins_65 : decode cX11_begins 65 = .ok (.istore_n 2, 1) := by decide +kernel
theorem dX11_begins_57 : decode cX11_begins 57 = .ok (.goto 9, 3) := by decide +kernel
theorem dX11_soon_0 : decode cX11_soon 0 = .ok (.aload_n 0, 1) := by decide +kernel
theorem dX11_soon_1 : decode cX11_soon 1 = .ok (.iload_n 1, 1) := by decide +kernel
theorem dX11_soon_2 : decode cX11_soon 2 = .ok (.i2l, 1) := by decide +kernel
theorem dX11_soon_3 : decode cX11_soon 3 = .ok (.invokevirtual 89, 3) := by decide +kernel
theorem dX11_soon_6 : decode cX11_soon 6 = .ok (.ifCond .eq 15, 3) := by decide +kernel
theorem dX11_soon_21 : decode cX11_soon 21 = .ok (.bipush (-2), 2) := by decide +kernel
theorem dX11_soon_23 : decode cX11_soon 23 = .ok (.ireturn, 1) := by decide +kernel
theorem dX11_soon_9 : decode cX11_soon 9 = .ok (.iload_n 2, 1) := by decide +kernel
theorem dX11_soon_10 : decode cX11_soon 10 = .ok (.i2l, 1) := by decide +kernel
theorem dX11_soon_11 : decode cX11_soon 11 = .ok (.lconst 0, 1) := by decide +kernel
theorem dX11_soon_12 : decode cX11_soon 12 = .ok (.ldc2_w 273, 3) := by decide +kernel
theorem dX11_soon_15 : decode cX11_soon 15 = .ok (.invokestatic 79, 3) := by decide +kernel
theorem dX11_soon_18 : decode cX11_soon 18 = .ok (.ifCond .ne 6, 3) := by decide +kernel
theorem dX11_soon_24 : decode cX11_soon 24 = .ok (.iconst 0, 1) := by decide +kernel
theorem dX11_soon_25 : decode cX11_soon 25 = .ok (.istore_n 3, 1) := by decide +kernel
theorem dX11_soon_26 : decode cX11_soon 26 = .ok (.iload_n 3, 1) := by decide +kernel
theorem dX11_soon_27 : decode cX11_soon 27 = .ok (.iconst 5, 1) := by decide +kernel
theorem dX11_soon_28 : decode cX11_soon 28 = .ok (.if_icmp .gt 21, 3) := by decide +kernel
theorem dX11_soon_49 : decode cX11_soon 49 = .ok (.iconst (-1), 1) := by decide +kernel
theorem dX11_soon_50 : decode cX11_soon 50 = .ok (.ireturn, 1) := by decide +kernel
theorem dX11_soon_31 : decode cX11_soon 31 = .ok (.aload_n 0, 1) := by decide +kernel
theorem dX11_soon_32 : decode cX11_soon 32 = .ok (.iload_n 1, 1) := by decide +kernel
theorem dX11_soon_33 : decode cX11_soon 33 = .ok (.iload_n 3, 1) := by decide +kernel
theorem dX11_soon_34 : decode cX11_soon 34 = .ok (.invokevirtual 327, 3) := by decide +kernel
theorem dX11_soon_37 : decode cX11_soon 37 = .ok (.iload_n 2, 1) := by decide +kernel
theorem dX11_soon_38 : decode cX11_soon 38 = .ok (.if_icmp .lt 5, 3) := by decide +kernel
theorem dX11_soon_43 : decode cX11_soon 43 = .ok (.iinc 3 1, 3) := by decide +kernel
theorem dX11_soon_46 : decode cX11_soon 46 = .ok (.goto (-20), 3) := by decide +kernel
theorem dX11_soon_41 : decode cX11_soon 41 = .ok (.iload_n 3, 1) := by decide +kernel
theorem dX11_soon_42 : decode cX11_soon 42 = .ok (.ireturn, 1) := by decide +kernel
theorem dX11_wider_0 : decode cX11_wider 0 = .ok (.iload_n 1, 1) := by decide +kernel
theorem dX11_wider_1 : decode cX11_wider 1 = .ok (.istore_n 2, 1) := by decide +kernel
theorem dX11_wider_2 : decode cX11_wider 2 = .ok (.iconst 0, 1) := by decide +kernel
theorem dX11_wider_3 : decode cX11_wider 3 = .ok (.istore_n 3, 1) := by decide +kernel
theorem dX11_wider_4 : decode cX11_wider 4 = .ok (.iload_n 3, 1) := by decide +kernel
theorem dX11_wider_5 : decode cX11_wider 5 = .ok (.aload_n 0, 1) := by decide +kernel
theorem dX11_wider_6 : decode cX11_wider 6 = .ok (.getfield 9, 3) := by decide +kernel
theorem dX11_wider_9 : decode cX11_wider 9 = .ok (.iconst 4, 1) := by decide +kernel
theorem dX11_wider_10 : decode cX11_wider 10 = .ok (.iaload, 1) := by decide +kernel
theorem dX11_wider_11 : decode cX11_wider 11 = .ok (.if_icmp .ge 31, 3) := by decide +kernel
theorem dX11_wider_42 : decode cX11_wider 42 = .ok (.iload_n 2, 1) := by decide +kernel
theorem dX11_wider_43 : decode cX11_wider 43 = .ok (.ireturn, 1) := by decide +kernel
theorem dX11_wider_14 : decode cX11_wider 14 = .ok (.iload_n 2, 1) := by decide +kernel
theorem dX11_wider_15 : decode cX11_wider 15 = .ok (.iload_n 1, 1) := by decide +kernel
theorem dX11_wider_16 : decode cX11_wider 16 = .ok (.iload_n 3, 1) := by decide +kernel
theorem dX11_wider_17 : decode cX11_wider 17 = .ok (.invokestatic 258, 3) := by decide +kernel
theorem dX11_wider_20 : decode cX11_wider 20 = .ok (.iconst 1, 1) := by decide +kernel
theorem dX11_wider_34 : decode cX11_wider 34 = .ok (.ior, 1) := by decide +kernel
theorem dX11_wider_35 : decode cX11_wider 35 = .ok (.istore_n 2, 1) := by decide +kernel
theorem dX11_wider_36 : decode cX11_wider 36 = .ok (.iinc 3 1, 3) := by decide +kernel
theorem dX11_wider_39 : decode cX11_wider 39 = .ok (.goto (-35), 3) := by decide +kernel
theorem dX11_wider_21 : decode cX11_wider 21 = .ok (.if_icmp .ne 12, 3) := by decide +kernel
theorem dX11_wider_33 : decode cX11_wider 33 = .ok (.iconst 0, 1) := by decide +kernel
theorem dX11_wider_24 : decode cX11_wider 24 = .ok (.aload_n 0, 1) := by decide +kernel
theorem dX11_wider_25 : decode cX11_wider 25 = .ok (.iload_n 3, 1) := by decide +kernel
theorem dX11_wider_26 : decode cX11_wider 26 = .ok (.iconst 3, 1) := by decide +kernel
theorem dX11_wider_27 : decode cX11_wider 27 = .ok (.invokevirtual 227, 3) := by decide +kernel
theorem dX11_wider_30 : decode cX11_wider 30 = .ok (.goto 4, 3) := by decide +kernel
theorem dX11_far_0 : decode cX11_far 0 = .ok (.aload_n 0, 1) := by decide +kernel
theorem dX11_far_1 : decode cX11_far 1 = .ok (.iload_n 1, 1) := by decide +kernel
theorem dX11_far_2 : decode cX11_far 2 = .ok (.i2l, 1) := by decide +kernel
theorem dX11_far_3 : decode cX11_far 3 = .ok (.invokevirtual 89, 3) := by decide +kernel
theorem dX11_far_6 : decode cX11_far 6 = .ok (.ifCond .eq 12, 3) := by decide +kernel
theorem dX11_far_18 : decode cX11_far 18 = .ok (.bipush (-2), 2) := by decide +kernel
theorem dX11_far_20 : decode cX11_far 20 = .ok (.ireturn, 1) := by decide +kernel
theorem dX11_far_9 : decode cX11_far 9 = .ok (.aload_n 0, 1) := by decide +kernel
theorem dX11_far_10 : decode cX11_far 10 = .ok (.iload_n 2, 1) := by decide +kernel
theorem dX11_far_11 : decode cX11_far 11 = .ok (.i2l, 1) := by decide +kernel
theorem dX11_far_12 : decode cX11_far 12 = .ok (.invokevirtual 89, 3) := by decide +kernel
theorem dX11_far_15 : decode cX11_far 15 = .ok (.ifCond .ne 6, 3) := by decide +kernel
theorem dX11_far_21 : decode cX11_far 21 = .ok (.iconst 1, 1) := by decide +kernel
theorem dX11_far_22 : decode cX11_far 22 = .ok (.iload_n 1, 1) := by decide +kernel
theorem dX11_far_23 : decode cX11_far 23 = .ok (.ishl, 1) := by decide +kernel
theorem dX11_far_24 : decode cX11_far 24 = .ok (.istore_n 3, 1) := by decide +kernel
theorem dX11_far_25 : decode cX11_far 25 = .ok (.iconst 0, 1) := by decide +kernel
theorem dX11_far_26 : decode cX11_far 26 = .ok (.istore 4, 2) := by decide +kernel
theorem dX11_far_28 : decode cX11_far 28 = .ok (.iload 4, 2) := by decide +kernel
theorem dX11_far_30 : decode cX11_far 30 = .ok (.bipush 7, 2) := by decide +kernel
theorem dX11_far_32 : decode cX11_far 32 = .ok (.if_icmp .ge 27, 3) := by decide +kernel
theorem dX11_far_59 : decode cX11_far 59 = .ok (.iconst (-1), 1) := by decide +kernel
theorem dX11_far_60 : decode cX11_far 60 = .ok (.ireturn, 1) := by decide +kernel
theorem dX11_far_35 : decode cX11_far 35 = .ok (.iload_n 3, 1) := by decide +kernel
theorem dX11_far_36 : decode cX11_far 36 = .ok (.iload_n 2, 1) := by decide +kernel
theorem dX11_far_37 : decode cX11_far 37 = .ok (.invokestatic 258, 3) := by decide +kernel
theorem dX11_far_40 : decode cX11_far 40 = .ok (.iconst 1, 1) := by decide +kernel
theorem dX11_far_41 : decode cX11_far 41 = .ok (.if_icmp .ne 6, 3) := by decide +kernel
theorem dX11_far_47 : decode cX11_far 47 = .ok (.aload_n 0, 1) := by decide +kernel
theorem dX11_far_48 : decode cX11_far 48 = .ok (.iload_n 3, 1) := by decide +kernel
theorem dX11_far_49 : decode cX11_far 49 = .ok (.invokevirtual 330, 3) := by decide +kernel
theorem dX11_far_52 : decode cX11_far 52 = .ok (.istore_n 3, 1) := by decide +kernel
theorem dX11_far_53 : decode cX11_far 53 = .ok (.iinc 4 1, 3) := by decide +kernel
theorem dX11_far_56 : decode cX11_far 56 = .ok (.goto (-28), 3) := by decide +kernel
theorem dX11_far_44 : decode cX11_far 44 = .ok (.iload 4, 2) := by decide +kernel
theorem dX11_far_46 : decode cX11_far 46 = .ok (.ireturn, 1) := by decide +kernel
theorem dX11_rest_0 : decode cX11_rest 0 = .ok (.aload_n 0, 1) := by decide +kernel
theorem dX11_rest_1 : decode cX11_rest 1 = .ok (.invokevirtual 83, 3) := by decide +kernel
theorem dX11_rest_4 : decode cX11_rest 4 = .ok (.ifCond .ne 6, 3) := by decide +kernel
theorem dX11_rest_10 : decode cX11_rest 10 = .ok (.aload_n 0, 1) := by decide +kernel
theorem dX11_rest_11 : decode cX11_rest 11 = .ok (.invokevirtual 278, 3) := by decide +kernel
theorem dX11_rest_14 : decode cX11_rest 14 = .ok (.iconst 0, 1) := by decide +kernel
theorem dX11_rest_15 : decode cX11_rest 15 = .ok (.istore_n 1, 1) := by decide +kernel
theorem dX11_rest_16 : decode cX11_rest 16 = .ok (.iload_n 1, 1) := by decide +kernel
theorem dX11_rest_17 : decode cX11_rest 17 = .ok (.sipush 200, 3) := by decide +kernel
theorem dX11_rest_20 : decode cX11_rest 20 = .ok (.if_icmp .gt 55, 3) := by decide +kernel
theorem dX11_rest_75 : decode cX11_rest 75 = .ok (.iconst (-1), 1) := by decide +kernel
theorem dX11_rest_76 : decode cX11_rest 76 = .ok (.ireturn, 1) := by decide +kernel
theorem dX11_rest_23 : decode cX11_rest 23 = .ok (.aload_n 0, 1) := by decide +kernel
theorem dX11_rest_24 : decode cX11_rest 24 = .ok (.iconst (-1), 1) := by decide +kernel
theorem dX11_rest_25 : decode cX11_rest 25 = .ok (.invokevirtual 267, 3) := by decide +kernel
theorem dX11_rest_28 : decode cX11_rest 28 = .ok (.iconst 1, 1) := by decide +kernel
theorem dX11_rest_29 : decode cX11_rest 29 = .ok (.istore_n 2, 1) := by decide +kernel
theorem dX11_rest_30 : decode cX11_rest 30 = .ok (.iconst 0, 1) := by decide +kernel
theorem dX11_rest_31 : decode cX11_rest 31 = .ok (.istore_n 3, 1) := by decide +kernel
theorem dX11_rest_32 : decode cX11_rest 32 = .ok (.iload_n 3, 1) := by decide +kernel
theorem dX11_rest_33 : decode cX11_rest 33 = .ok (.bipush 7, 2) := by decide +kernel
theorem dX11_rest_63 : decode cX11_rest 63 = .ok (.iload_n 2, 1) := by decide +kernel
theorem dX11_rest_64 : decode cX11_rest 64 = .ok (.ifCond .eq 5, 3) := by decide +kernel
theorem dX11_rest_69 : decode cX11_rest 69 = .ok (.iinc 1 1, 3) := by decide +kernel
theorem dX11_rest_72 : decode cX11_rest 72 = .ok (.goto (-56), 3) := by decide +kernel
theorem dX11_rest_67 : decode cX11_rest 67 = .ok (.iload_n 1, 1) := by decide +kernel
theorem dX11_rest_68 : decode cX11_rest 68 = .ok (.ireturn, 1) := by decide +kernel
theorem dX11_rest_35 : decode cX11_rest 35 = .ok (.if_icmp .ge 28, 3) := by decide +kernel
theorem dX11_rest_38 : decode cX11_rest 38 = .ok (.iload_n 2, 1) := by decide +kernel
theorem dX11_rest_39 : decode cX11_rest 39 = .ok (.ifCond .eq 24, 3) := by decide +kernel
theorem dX11_rest_42 : decode cX11_rest 42 = .ok (.aload_n 0, 1) := by decide +kernel
theorem dX11_rest_43 : decode cX11_rest 43 = .ok (.getfield 37, 3) := by decide +kernel
theorem dX11_rest_46 : decode cX11_rest 46 = .ok (.iload_n 3, 1) := by decide +kernel
theorem dX11_rest_47 : decode cX11_rest 47 = .ok (.iaload, 1) := by decide +kernel
theorem dX11_rest_56 : decode cX11_rest 56 = .ok (.istore_n 2, 1) := by decide +kernel
theorem dX11_rest_57 : decode cX11_rest 57 = .ok (.iinc 3 1, 3) := by decide +kernel
theorem dX11_rest_60 : decode cX11_rest 60 = .ok (.goto (-28), 3) := by decide +kernel
theorem dX11_rest_48 : decode cX11_rest 48 = .ok (.ifCond .ne 7, 3) := by decide +kernel
theorem dX11_rest_55 : decode cX11_rest 55 = .ok (.iconst 0, 1) := by decide +kernel
theorem dX11_rest_51 : decode cX11_rest 51 = .ok (.iconst 1, 1) := by decide +kernel
theorem dX11_rest_52 : decode cX11_rest 52 = .ok (.goto 4, 3) := by decide +kernel
theorem dX11_rest_7 : decode cX11_rest 7 = .ok (.bipush (-2), 2) := by decide +kernel
theorem dX11_rest_9 : decode cX11_rest 9 = .ok (.ireturn, 1) := by decide +kernel
theorem dX11_trumpet_0 : decode cX11_trumpet 0 = .ok (.aload_n 0, 1) := by decide +kernel
theorem dX11_trumpet_1 : decode cX11_trumpet 1 = .ok (.invokevirtual 83, 3) := by decide +kernel
theorem dX11_trumpet_4 : decode cX11_trumpet 4 = .ok (.ifCond .ne 6, 3) := by decide +kernel
theorem dX11_trumpet_10 : decode cX11_trumpet 10 = .ok (.aload_n 0, 1) := by decide +kernel
theorem dX11_trumpet_11 : decode cX11_trumpet 11 = .ok (.invokevirtual 278, 3) := by decide +kernel
theorem dX11_trumpet_14 : decode cX11_trumpet 14 = .ok (.iconst 0, 1) := by decide +kernel
theorem dX11_trumpet_15 : decode cX11_trumpet 15 = .ok (.istore_n 1, 1) := by decide +kernel
theorem dX11_trumpet_16 : decode cX11_trumpet 16 = .ok (.iconst 0, 1) := by decide +kernel
theorem dX11_trumpet_17 : decode cX11_trumpet 17 = .ok (.istore_n 2, 1) := by decide +kernel
theorem dX11_trumpet_18 : decode cX11_trumpet 18 = .ok (.iload_n 2, 1) := by decide +kernel
theorem dX11_trumpet_19 : decode cX11_trumpet 19 = .ok (.aload_n 0, 1) := by decide +kernel
theorem dX11_trumpet_20 : decode cX11_trumpet 20 = .ok (.getfield 9, 3) := by decide +kernel
theorem dX11_trumpet_23 : decode cX11_trumpet 23 = .ok (.iconst 4, 1) := by decide +kernel
theorem dX11_trumpet_24 : decode cX11_trumpet 24 = .ok (.iaload, 1) := by decide +kernel
theorem dX11_trumpet_25 : decode cX11_trumpet 25 = .ok (.if_icmp .ge 18, 3) := by decide +kernel
theorem dX11_trumpet_43 : decode cX11_trumpet 43 = .ok (.iload_n 1, 1) := by decide +kernel
theorem dX11_trumpet_44 : decode cX11_trumpet 44 = .ok (.ireturn, 1) := by decide +kernel
theorem dX11_trumpet_28 : decode cX11_trumpet 28 = .ok (.iload_n 1, 1) := by decide +kernel
theorem dX11_trumpet_29 : decode cX11_trumpet 29 = .ok (.aload_n 0, 1) := by decide +kernel
theorem dX11_trumpet_30 : decode cX11_trumpet 30 = .ok (.iload_n 2, 1) := by decide +kernel
theorem dX11_trumpet_31 : decode cX11_trumpet 31 = .ok (.iconst 0, 1) := by decide +kernel
theorem dX11_trumpet_32 : decode cX11_trumpet 32 = .ok (.invokevirtual 252, 3) := by decide +kernel
theorem dX11_trumpet_35 : decode cX11_trumpet 35 = .ok (.iadd, 1) := by decide +kernel
theorem dX11_trumpet_36 : decode cX11_trumpet 36 = .ok (.istore_n 1, 1) := by decide +kernel
theorem dX11_trumpet_37 : decode cX11_trumpet 37 = .ok (.iinc 2 1, 3) := by decide +kernel
theorem dX11_trumpet_40 : decode cX11_trumpet 40 = .ok (.goto (-22), 3) := by decide +kernel
theorem dX11_trumpet_7 : decode cX11_trumpet 7 = .ok (.bipush (-2), 2) := by decide +kernel
theorem dX11_trumpet_9 : decode cX11_trumpet 9 = .ok (.ireturn, 1) := by decide +kernel
theorem dX11_quietBy_0 : decode cX11_quietBy 0 = .ok (.aload_n 0, 1) := by decide +kernel
theorem dX11_quietBy_1 : decode cX11_quietBy 1 = .ok (.invokevirtual 278, 3) := by decide +kernel
theorem dX11_quietBy_4 : decode cX11_quietBy 4 = .ok (.aload_n 0, 1) := by decide +kernel
theorem dX11_quietBy_5 : decode cX11_quietBy 5 = .ok (.ldc_w 333, 3) := by decide +kernel
theorem dX11_quietBy_8 : decode cX11_quietBy 8 = .ok (.putfield 334, 3) := by decide +kernel
theorem dX11_quietBy_11 : decode cX11_quietBy 11 = .ok (.iconst (-1), 1) := by decide +kernel
theorem dX11_quietBy_12 : decode cX11_quietBy 12 = .ok (.istore_n 2, 1) := by decide +kernel
theorem dX11_quietBy_13 : decode cX11_quietBy 13 = .ok (.iconst 0, 1) := by decide +kernel
theorem dX11_quietBy_14 : decode cX11_quietBy 14 = .ok (.istore_n 3, 1) := by decide +kernel
theorem dX11_quietBy_15 : decode cX11_quietBy 15 = .ok (.iload_n 3, 1) := by decide +kernel
theorem dX11_quietBy_16 : decode cX11_quietBy 16 = .ok (.aload_n 0, 1) := by decide +kernel
theorem dX11_quietBy_17 : decode cX11_quietBy 17 = .ok (.invokevirtual 337, 3) := by decide +kernel
theorem dX11_quietBy_20 : decode cX11_quietBy 20 = .ok (.if_icmp .gt 99, 3) := by decide +kernel
theorem dX11_quietBy_119 : decode cX11_quietBy 119 = .ok (.iload_n 2, 1) := by decide +kernel
theorem dX11_quietBy_120 : decode cX11_quietBy 120 = .ok (.ireturn, 1) := by decide +kernel
theorem dX11_quietBy_23 : decode cX11_quietBy 23 = .ok (.iconst 0, 1) := by decide +kernel
theorem dX11_quietBy_24 : decode cX11_quietBy 24 = .ok (.istore 4, 2) := by decide +kernel
theorem dX11_quietBy_26 : decode cX11_quietBy 26 = .ok (.iconst 0, 1) := by decide +kernel
theorem dX11_quietBy_27 : decode cX11_quietBy 27 = .ok (.istore 5, 2) := by decide +kernel
theorem dX11_quietBy_29 : decode cX11_quietBy 29 = .ok (.iconst 0, 1) := by decide +kernel
theorem dX11_quietBy_30 : decode cX11_quietBy 30 = .ok (.istore 6, 2) := by decide +kernel
theorem dX11_quietBy_32 : decode cX11_quietBy 32 = .ok (.iload 6, 2) := by decide +kernel
theorem dX11_quietBy_34 : decode cX11_quietBy 34 = .ok (.aload_n 0, 1) := by decide +kernel
theorem dX11_quietBy_35 : decode cX11_quietBy 35 = .ok (.getfield 9, 3) := by decide +kernel
theorem dX11_quietBy_38 : decode cX11_quietBy 38 = .ok (.iconst 4, 1) := by decide +kernel
theorem dX11_quietBy_39 : decode cX11_quietBy 39 = .ok (.iaload, 1) := by decide +kernel
theorem dX11_quietBy_40 : decode cX11_quietBy 40 = .ok (.if_icmp .ge 47, 3) := by decide +kernel
theorem dX11_quietBy_87 : decode cX11_quietBy 87 = .ok (.iload 4, 2) := by decide +kernel
theorem dX11_quietBy_89 : decode cX11_quietBy 89 = .ok (.iload_n 1, 1) := by decide +kernel
theorem dX11_quietBy_113 : decode cX11_quietBy 113 = .ok (.iinc 3 1, 3) := by decide +kernel
theorem dX11_quietBy_116 : decode cX11_quietBy 116 = .ok (.goto (-101), 3) := by decide +kernel
theorem dX11_quietBy_90 : decode cX11_quietBy 90 = .ok (.if_icmp .lt 23, 3) := by decide +kernel
theorem dX11_quietBy_93 : decode cX11_quietBy 93 = .ok (.iload 5, 2) := by decide +kernel
theorem dX11_quietBy_95 : decode cX11_quietBy 95 = .ok (.aload_n 0, 1) := by decide +kernel
theorem dX11_quietBy_96 : decode cX11_quietBy 96 = .ok (.getfield 334, 3) := by decide +kernel
theorem dX11_quietBy_99 : decode cX11_quietBy 99 = .ok (.if_icmp .lt 6, 3) := by decide +kernel
theorem dX11_quietBy_105 : decode cX11_quietBy 105 = .ok (.aload_n 0, 1) := by decide +kernel
theorem dX11_quietBy_106 : decode cX11_quietBy 106 = .ok (.iload 5, 2) := by decide +kernel
theorem dX11_quietBy_108 : decode cX11_quietBy 108 = .ok (.putfield 334, 3) := by decide +kernel
theorem dX11_quietBy_111 : decode cX11_quietBy 111 = .ok (.iload_n 3, 1) := by decide +kernel
theorem dX11_quietBy_112 : decode cX11_quietBy 112 = .ok (.istore_n 2, 1) := by decide +kernel
theorem dX11_quietBy_102 : decode cX11_quietBy 102 = .ok (.goto 11, 3) := by decide +kernel
theorem dX11_quietBy_43 : decode cX11_quietBy 43 = .ok (.iload 4, 2) := by decide +kernel
theorem dX11_quietBy_45 : decode cX11_quietBy 45 = .ok (.iload_n 3, 1) := by decide +kernel
theorem dX11_quietBy_46 : decode cX11_quietBy 46 = .ok (.iload 6, 2) := by decide +kernel
theorem dX11_quietBy_48 : decode cX11_quietBy 48 = .ok (.invokestatic 258, 3) := by decide +kernel
theorem dX11_quietBy_51 : decode cX11_quietBy 51 = .ok (.aload_n 0, 1) := by decide +kernel
theorem dX11_quietBy_52 : decode cX11_quietBy 52 = .ok (.iload 6, 2) := by decide +kernel
theorem dX11_quietBy_54 : decode cX11_quietBy 54 = .ok (.iconst 0, 1) := by decide +kernel
theorem dX11_quietBy_55 : decode cX11_quietBy 55 = .ok (.invokevirtual 252, 3) := by decide +kernel
theorem dX11_quietBy_58 : decode cX11_quietBy 58 = .ok (.imul, 1) := by decide +kernel
theorem dX11_quietBy_59 : decode cX11_quietBy 59 = .ok (.iadd, 1) := by decide +kernel
theorem dX11_quietBy_60 : decode cX11_quietBy 60 = .ok (.istore 4, 2) := by decide +kernel
theorem dX11_quietBy_62 : decode cX11_quietBy 62 = .ok (.iload 5, 2) := by decide +kernel
theorem dX11_quietBy_64 : decode cX11_quietBy 64 = .ok (.iload_n 3, 1) := by decide +kernel
theorem dX11_quietBy_65 : decode cX11_quietBy 65 = .ok (.iload 6, 2) := by decide +kernel
theorem dX11_quietBy_67 : decode cX11_quietBy 67 = .ok (.invokestatic 258, 3) := by decide +kernel
theorem dX11_quietBy_70 : decode cX11_quietBy 70 = .ok (.aload_n 0, 1) := by decide +kernel
theorem dX11_quietBy_71 : decode cX11_quietBy 71 = .ok (.iload 6, 2) := by decide +kernel
theorem dX11_quietBy_73 : decode cX11_quietBy 73 = .ok (.iconst 0, 1) := by decide +kernel
theorem dX11_quietBy_74 : decode cX11_quietBy 74 = .ok (.invokevirtual 227, 3) := by decide +kernel
theorem dX11_quietBy_77 : decode cX11_quietBy 77 = .ok (.imul, 1) := by decide +kernel
theorem dX11_quietBy_78 : decode cX11_quietBy 78 = .ok (.iadd, 1) := by decide +kernel
theorem dX11_quietBy_79 : decode cX11_quietBy 79 = .ok (.istore 5, 2) := by decide +kernel
theorem dX11_quietBy_81 : decode cX11_quietBy 81 = .ok (.iinc 6 1, 3) := by decide +kernel
theorem dX11_quietBy_84 : decode cX11_quietBy 84 = .ok (.goto (-52), 3) := by decide +kernel
theorem dX11_quiet_0 : decode cX11_quiet 0 = .ok (.aload_n 0, 1) := by decide +kernel
theorem dX11_quiet_1 : decode cX11_quiet 1 = .ok (.invokevirtual 83, 3) := by decide +kernel
theorem dX11_quiet_4 : decode cX11_quiet 4 = .ok (.ifCond .eq 15, 3) := by decide +kernel
theorem dX11_quiet_19 : decode cX11_quiet 19 = .ok (.bipush (-2), 2) := by decide +kernel
theorem dX11_quiet_21 : decode cX11_quiet 21 = .ok (.ireturn, 1) := by decide +kernel
theorem dX11_quiet_7 : decode cX11_quiet 7 = .ok (.iload_n 1, 1) := by decide +kernel
theorem dX11_quiet_8 : decode cX11_quiet 8 = .ok (.i2l, 1) := by decide +kernel
theorem dX11_quiet_9 : decode cX11_quiet 9 = .ok (.lconst 0, 1) := by decide +kernel
theorem dX11_quiet_10 : decode cX11_quiet 10 = .ok (.ldc2_w 273, 3) := by decide +kernel
theorem dX11_quiet_13 : decode cX11_quiet 13 = .ok (.invokestatic 79, 3) := by decide +kernel
theorem dX11_quiet_16 : decode cX11_quiet 16 = .ok (.ifCond .ne 6, 3) := by decide +kernel
theorem dX11_quiet_22 : decode cX11_quiet 22 = .ok (.aload_n 0, 1) := by decide +kernel
theorem dX11_quiet_23 : decode cX11_quiet 23 = .ok (.iload_n 1, 1) := by decide +kernel
theorem dX11_quiet_24 : decode cX11_quiet 24 = .ok (.invokevirtual 340, 3) := by decide +kernel
theorem dX11_quiet_27 : decode cX11_quiet 27 = .ok (.iconst (-1), 1) := by decide +kernel
theorem dX11_quiet_28 : decode cX11_quiet 28 = .ok (.if_icmp .ne 7, 3) := by decide +kernel
theorem dX11_quiet_35 : decode cX11_quiet 35 = .ok (.aload_n 0, 1) := by decide +kernel
theorem dX11_quiet_36 : decode cX11_quiet 36 = .ok (.getfield 334, 3) := by decide +kernel
theorem dX11_quiet_39 : decode cX11_quiet 39 = .ok (.ireturn, 1) := by decide +kernel
theorem dX11_quiet_31 : decode cX11_quiet 31 = .ok (.iconst (-1), 1) := by decide +kernel
theorem dX11_quiet_32 : decode cX11_quiet 32 = .ok (.goto 7, 3) := by decide +kernel
theorem dX11_quietly_0 : decode cX11_quietly 0 = .ok (.aload_n 0, 1) := by decide +kernel
theorem dX11_quietly_1 : decode cX11_quietly 1 = .ok (.invokevirtual 83, 3) := by decide +kernel
theorem dX11_quietly_4 : decode cX11_quietly 4 = .ok (.ifCond .eq 23, 3) := by decide +kernel
theorem dX11_quietly_27 : decode cX11_quietly 27 = .ok (.bipush (-2), 2) := by decide +kernel
theorem dX11_quietly_29 : decode cX11_quietly 29 = .ok (.ireturn, 1) := by decide +kernel
theorem dX11_quietly_7 : decode cX11_quietly 7 = .ok (.iload_n 1, 1) := by decide +kernel
theorem dX11_quietly_8 : decode cX11_quietly 8 = .ok (.i2l, 1) := by decide +kernel
theorem dX11_quietly_9 : decode cX11_quietly 9 = .ok (.lconst 0, 1) := by decide +kernel
theorem dX11_quietly_10 : decode cX11_quietly 10 = .ok (.ldc2_w 273, 3) := by decide +kernel
theorem dX11_quietly_13 : decode cX11_quietly 13 = .ok (.invokestatic 79, 3) := by decide +kernel
theorem dX11_quietly_16 : decode cX11_quietly 16 = .ok (.ifCond .eq 11, 3) := by decide +kernel
theorem dX11_quietly_19 : decode cX11_quietly 19 = .ok (.aload_n 0, 1) := by decide +kernel
theorem dX11_quietly_20 : decode cX11_quietly 20 = .ok (.iload_n 1, 1) := by decide +kernel
theorem dX11_quietly_21 : decode cX11_quietly 21 = .ok (.invokevirtual 340, 3) := by decide +kernel
theorem dX11_quietly_24 : decode cX11_quietly 24 = .ok (.goto 5, 3) := by decide +kernel
theorem dX11_cardIn_0 : decode cX11_cardIn 0 = .ok (.aload_n 0, 1) := by decide +kernel
theorem dX11_cardIn_1 : decode cX11_cardIn 1 = .ok (.invokevirtual 278, 3) := by decide +kernel
theorem dX11_cardIn_4 : decode cX11_cardIn 4 = .ok (.iconst 0, 1) := by decide +kernel
theorem dX11_cardIn_5 : decode cX11_cardIn 5 = .ok (.istore_n 3, 1) := by decide +kernel
theorem dX11_cardIn_6 : decode cX11_cardIn 6 = .ok (.iload_n 3, 1) := by decide +kernel
theorem dX11_cardIn_7 : decode cX11_cardIn 7 = .ok (.iload_n 2, 1) := by decide +kernel
theorem dX11_cardIn_8 : decode cX11_cardIn 8 = .ok (.if_icmp .ge 14, 3) := by decide +kernel
theorem dX11_cardIn_22 : decode cX11_cardIn 22 = .ok (.aload_n 0, 1) := by decide +kernel
theorem dX11_cardIn_23 : decode cX11_cardIn 23 = .ok (.getfield 34, 3) := by decide +kernel
theorem dX11_cardIn_26 : decode cX11_cardIn 26 = .ok (.iload_n 1, 1) := by decide +kernel
theorem dX11_cardIn_27 : decode cX11_cardIn 27 = .ok (.iaload, 1) := by decide +kernel
theorem dX11_cardIn_28 : decode cX11_cardIn 28 = .ok (.ireturn, 1) := by decide +kernel
theorem dX11_cardIn_11 : decode cX11_cardIn 11 = .ok (.aload_n 0, 1) := by decide +kernel
theorem dX11_cardIn_12 : decode cX11_cardIn 12 = .ok (.iload_n 1, 1) := by decide +kernel
theorem dX11_cardIn_13 : decode cX11_cardIn 13 = .ok (.invokevirtual 267, 3) := by decide +kernel
theorem dX11_cardIn_16 : decode cX11_cardIn 16 = .ok (.iinc 3 1, 3) := by decide +kernel
theorem dX11_cardIn_19 : decode cX11_cardIn 19 = .ok (.goto (-13), 3) := by decide +kernel
theorem dX11_card_0 : decode cX11_card 0 = .ok (.aload_n 0, 1) := by decide +kernel
theorem dX11_card_1 : decode cX11_card 1 = .ok (.iload_n 1, 1) := by decide +kernel
theorem dX11_card_2 : decode cX11_card 2 = .ok (.i2l, 1) := by decide +kernel
theorem dX11_card_3 : decode cX11_card 3 = .ok (.invokevirtual 89, 3) := by decide +kernel
theorem dX11_card_6 : decode cX11_card 6 = .ok (.ifCond .eq 24, 3) := by decide +kernel
theorem dX11_card_30 : decode cX11_card 30 = .ok (.bipush (-2), 2) := by decide +kernel
theorem dX11_card_32 : decode cX11_card 32 = .ok (.ireturn, 1) := by decide +kernel
theorem dX11_card_9 : decode cX11_card 9 = .ok (.iload_n 2, 1) := by decide +kernel
theorem dX11_card_10 : decode cX11_card 10 = .ok (.i2l, 1) := by decide +kernel
theorem dX11_card_11 : decode cX11_card 11 = .ok (.lconst 0, 1) := by decide +kernel
theorem dX11_card_12 : decode cX11_card 12 = .ok (.ldc2_w 284, 3) := by decide +kernel
theorem dX11_card_15 : decode cX11_card 15 = .ok (.invokestatic 79, 3) := by decide +kernel
theorem dX11_card_18 : decode cX11_card 18 = .ok (.ifCond .eq 12, 3) := by decide +kernel
theorem dX11_card_21 : decode cX11_card 21 = .ok (.aload_n 0, 1) := by decide +kernel
theorem dX11_card_22 : decode cX11_card 22 = .ok (.iload_n 1, 1) := by decide +kernel
theorem dX11_card_23 : decode cX11_card 23 = .ok (.iload_n 2, 1) := by decide +kernel
theorem dX11_card_24 : decode cX11_card 24 = .ok (.invokevirtual 343, 3) := by decide +kernel
theorem dX11_card_27 : decode cX11_card 27 = .ok (.goto 5, 3) := by decide +kernel
theorem dX11_desk_0 : decode cX11_desk 0 = .ok (.aload_n 0, 1) := by decide +kernel
theorem dX11_desk_1 : decode cX11_desk 1 = .ok (.getfield 9, 3) := by decide +kernel
theorem dX11_desk_4 : decode cX11_desk 4 = .ok (.iconst 4, 1) := by decide +kernel
theorem dX11_desk_5 : decode cX11_desk 5 = .ok (.iaload, 1) := by decide +kernel
theorem dX11_desk_6 : decode cX11_desk 6 = .ok (.ifCond .eq 15, 3) := by decide +kernel
theorem dX11_desk_21 : decode cX11_desk 21 = .ok (.bipush (-2), 2) := by decide +kernel
theorem dX11_desk_23 : decode cX11_desk 23 = .ok (.ireturn, 1) := by decide +kernel
theorem dX11_desk_9 : decode cX11_desk 9 = .ok (.iload_n 1, 1) := by decide +kernel
theorem dX11_desk_10 : decode cX11_desk 10 = .ok (.i2l, 1) := by decide +kernel
theorem dX11_desk_11 : decode cX11_desk 11 = .ok (.lconst 0, 1) := by decide +kernel
theorem dX11_desk_12 : decode cX11_desk 12 = .ok (.ldc2_w 284, 3) := by decide +kernel
theorem dX11_desk_15 : decode cX11_desk 15 = .ok (.invokestatic 79, 3) := by decide +kernel
theorem dX11_desk_18 : decode cX11_desk 18 = .ok (.ifCond .ne 6, 3) := by decide +kernel
theorem dX11_desk_24 : decode cX11_desk 24 = .ok (.iconst (-1), 1) := by decide +kernel
theorem dX11_desk_25 : decode cX11_desk 25 = .ok (.istore_n 2, 1) := by decide +kernel
theorem dX11_desk_26 : decode cX11_desk 26 = .ok (.iconst (-1), 1) := by decide +kernel
theorem dX11_desk_27 : decode cX11_desk 27 = .ok (.istore_n 3, 1) := by decide +kernel
theorem dX11_desk_28 : decode cX11_desk 28 = .ok (.iconst 0, 1) := by decide +kernel
theorem dX11_desk_29 : decode cX11_desk 29 = .ok (.istore 4, 2) := by decide +kernel
theorem dX11_desk_31 : decode cX11_desk 31 = .ok (.iload 4, 2) := by decide +kernel
theorem dX11_desk_33 : decode cX11_desk 33 = .ok (.aload_n 0, 1) := by decide +kernel
theorem dX11_desk_34 : decode cX11_desk 34 = .ok (.getfield 9, 3) := by decide +kernel
theorem dX11_desk_37 : decode cX11_desk 37 = .ok (.iconst 4, 1) := by decide +kernel
theorem dX11_desk_38 : decode cX11_desk 38 = .ok (.iaload, 1) := by decide +kernel
theorem dX11_desk_39 : decode cX11_desk 39 = .ok (.if_icmp .ge 33, 3) := by decide +kernel
theorem dX11_desk_72 : decode cX11_desk 72 = .ok (.iload_n 2, 1) := by decide +kernel
theorem dX11_desk_73 : decode cX11_desk 73 = .ok (.ireturn, 1) := by decide +kernel
theorem dX11_desk_42 : decode cX11_desk 42 = .ok (.aload_n 0, 1) := by decide +kernel
