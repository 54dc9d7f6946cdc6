theorem dX11_readLine_40 : decode cX11_readLine 40 = .ok (.bipush 100, 2) := by decide +kernel
theorem dX11_readLine_42 : decode cX11_readLine 42 = .ok (.invokevirtual 169, 3) := by decide +kernel
theorem dX11_readLine_45 : decode cX11_readLine 45 = .ok (.iastore, 1) := by decide +kernel
theorem dX11_readLine_46 : decode cX11_readLine 46 = .ok (.aload_n 0, 1) := by decide +kernel
theorem dX11_readLine_47 : decode cX11_readLine 47 = .ok (.getfield 31, 3) := by decide +kernel
theorem dX11_readLine_50 : decode cX11_readLine 50 = .ok (.iconst 2, 1) := by decide +kernel
theorem dX11_readLine_51 : decode cX11_readLine 51 = .ok (.aload_n 0, 1) := by decide +kernel
theorem dX11_readLine_52 : decode cX11_readLine 52 = .ok (.ldc 215, 2) := by decide +kernel
theorem dX11_readLine_54 : decode cX11_readLine 54 = .ok (.iconst 0, 1) := by decide +kernel
theorem dX11_readLine_55 : decode cX11_readLine 55 = .ok (.sipush 999, 3) := by decide +kernel
theorem dX11_readLine_58 : decode cX11_readLine 58 = .ok (.invokevirtual 169, 3) := by decide +kernel
theorem dX11_readLine_61 : decode cX11_readLine 61 = .ok (.iastore, 1) := by decide +kernel
theorem dX11_readLine_62 : decode cX11_readLine 62 = .ok (.aload_n 0, 1) := by decide +kernel
theorem dX11_readLine_63 : decode cX11_readLine 63 = .ok (.getfield 31, 3) := by decide +kernel
theorem dX11_readLine_66 : decode cX11_readLine 66 = .ok (.iconst 3, 1) := by decide +kernel
theorem dX11_readLine_67 : decode cX11_readLine 67 = .ok (.aload_n 0, 1) := by decide +kernel
theorem dX11_readLine_68 : decode cX11_readLine 68 = .ok (.ldc 217, 2) := by decide +kernel
theorem dX11_readLine_70 : decode cX11_readLine 70 = .ok (.iconst 0, 1) := by decide +kernel
theorem dX11_readLine_71 : decode cX11_readLine 71 = .ok (.sipush 999, 3) := by decide +kernel
theorem dX11_readLine_74 : decode cX11_readLine 74 = .ok (.invokevirtual 169, 3) := by decide +kernel
theorem dX11_readLine_77 : decode cX11_readLine 77 = .ok (.iastore, 1) := by decide +kernel
theorem dX11_readLine_78 : decode cX11_readLine 78 = .ok (.goto 7, 3) := by decide +kernel
theorem dX11_house_0 : decode cX11_house 0 = .ok (.aload_n 0, 1) := by decide +kernel
theorem dX11_house_1 : decode cX11_house 1 = .ok (.aload_n 0, 1) := by decide +kernel
theorem dX11_house_2 : decode cX11_house 2 = .ok (.getfield 93, 3) := by decide +kernel
theorem dX11_house_5 : decode cX11_house 5 = .ok (.putfield 96, 3) := by decide +kernel
theorem dX11_house_8 : decode cX11_house 8 = .ok (.aload_n 0, 1) := by decide +kernel
theorem dX11_house_9 : decode cX11_house 9 = .ok (.iconst 0, 1) := by decide +kernel
theorem dX11_house_10 : decode cX11_house 10 = .ok (.putfield 93, 3) := by decide +kernel
theorem dX11_house_13 : decode cX11_house 13 = .ok (.aload_n 0, 1) := by decide +kernel
theorem dX11_house_14 : decode cX11_house 14 = .ok (.iconst 0, 1) := by decide +kernel
theorem dX11_house_15 : decode cX11_house 15 = .ok (.putfield 99, 3) := by decide +kernel
theorem dX11_house_18 : decode cX11_house 18 = .ok (.aload_n 0, 1) := by decide +kernel
theorem dX11_house_19 : decode cX11_house 19 = .ok (.iconst 0, 1) := by decide +kernel
theorem dX11_house_20 : decode cX11_house 20 = .ok (.putfield 130, 3) := by decide +kernel
theorem dX11_house_23 : decode cX11_house 23 = .ok (.aload_n 0, 1) := by decide +kernel
theorem dX11_house_24 : decode cX11_house 24 = .ok (.iconst (-1), 1) := by decide +kernel
theorem dX11_house_25 : decode cX11_house 25 = .ok (.putfield 27, 3) := by decide +kernel
theorem dX11_house_28 : decode cX11_house 28 = .ok (.iconst 0, 1) := by decide +kernel
theorem dX11_house_29 : decode cX11_house 29 = .ok (.istore_n 1, 1) := by decide +kernel
theorem dX11_house_30 : decode cX11_house 30 = .ok (.iload_n 1, 1) := by decide +kernel
theorem dX11_house_31 : decode cX11_house 31 = .ok (.sipush 144, 3) := by decide +kernel
theorem dX11_house_34 : decode cX11_house 34 = .ok (.if_icmp .ge 16, 3) := by decide +kernel
theorem dX11_house_50 : decode cX11_house 50 = .ok (.aload_n 0, 1) := by decide +kernel
theorem dX11_house_51 : decode cX11_house 51 = .ok (.invokevirtual 150, 3) := by decide +kernel
theorem dX11_house_54 : decode cX11_house 54 = .ok (.aload_n 0, 1) := by decide +kernel
theorem dX11_house_55 : decode cX11_house 55 = .ok (.invokevirtual 133, 3) := by decide +kernel
theorem dX11_house_75 : decode cX11_house 75 = .ok (.aload_n 0, 1) := by decide +kernel
theorem dX11_house_76 : decode cX11_house 76 = .ok (.invokevirtual 133, 3) := by decide +kernel
theorem dX11_house_79 : decode cX11_house 79 = .ok (.ifCond .ne 6, 3) := by decide +kernel
theorem dX11_house_85 : decode cX11_house 85 = .ok (.iconst 0, 1) := by decide +kernel
theorem dX11_house_86 : decode cX11_house 86 = .ok (.istore_n 1, 1) := by decide +kernel
theorem dX11_house_87 : decode cX11_house 87 = .ok (.iload_n 1, 1) := by decide +kernel
theorem dX11_house_88 : decode cX11_house 88 = .ok (.sipush 144, 3) := by decide +kernel
theorem dX11_house_91 : decode cX11_house 91 = .ok (.if_icmp .ge 21, 3) := by decide +kernel
theorem dX11_house_112 : decode cX11_house 112 = .ok (.aload_n 0, 1) := by decide +kernel
theorem dX11_house_113 : decode cX11_house 113 = .ok (.getfield 9, 3) := by decide +kernel
theorem dX11_house_116 : decode cX11_house 116 = .ok (.bipush 6, 2) := by decide +kernel
theorem dX11_house_118 : decode cX11_house 118 = .ok (.iaload, 1) := by decide +kernel
theorem dX11_house_119 : decode cX11_house 119 = .ok (.ireturn, 1) := by decide +kernel
theorem dX11_house_94 : decode cX11_house 94 = .ok (.aload_n 0, 1) := by decide +kernel
theorem dX11_house_95 : decode cX11_house 95 = .ok (.getfield 9, 3) := by decide +kernel
theorem dX11_house_98 : decode cX11_house 98 = .ok (.iload_n 1, 1) := by decide +kernel
theorem dX11_house_99 : decode cX11_house 99 = .ok (.aload_n 0, 1) := by decide +kernel
theorem dX11_house_100 : decode cX11_house 100 = .ok (.getfield 31, 3) := by decide +kernel
theorem dX11_house_103 : decode cX11_house 103 = .ok (.iload_n 1, 1) := by decide +kernel
theorem dX11_house_104 : decode cX11_house 104 = .ok (.iaload, 1) := by decide +kernel
theorem dX11_house_105 : decode cX11_house 105 = .ok (.iastore, 1) := by decide +kernel
theorem dX11_house_106 : decode cX11_house 106 = .ok (.iinc 1 1, 3) := by decide +kernel
theorem dX11_house_109 : decode cX11_house 109 = .ok (.goto (-22), 3) := by decide +kernel
theorem dX11_house_82 : decode cX11_house 82 = .ok (.bipush (-4), 2) := by decide +kernel
theorem dX11_house_84 : decode cX11_house 84 = .ok (.ireturn, 1) := by decide +kernel
theorem dX11_house_58 : decode cX11_house 58 = .ok (.ifCond .eq 17, 3) := by decide +kernel
theorem dX11_house_61 : decode cX11_house 61 = .ok (.aload_n 0, 1) := by decide +kernel
theorem dX11_house_62 : decode cX11_house 62 = .ok (.getfield 109, 3) := by decide +kernel
theorem dX11_house_65 : decode cX11_house 65 = .ok (.ifCond .eq 10, 3) := by decide +kernel
theorem dX11_house_68 : decode cX11_house 68 = .ok (.aload_n 0, 1) := by decide +kernel
theorem dX11_house_69 : decode cX11_house 69 = .ok (.invokevirtual 222, 3) := by decide +kernel
theorem dX11_house_72 : decode cX11_house 72 = .ok (.goto (-18), 3) := by decide +kernel
theorem dX11_house_37 : decode cX11_house 37 = .ok (.aload_n 0, 1) := by decide +kernel
theorem dX11_house_38 : decode cX11_house 38 = .ok (.getfield 31, 3) := by decide +kernel
theorem dX11_house_41 : decode cX11_house 41 = .ok (.iload_n 1, 1) := by decide +kernel
theorem dX11_house_42 : decode cX11_house 42 = .ok (.iconst 0, 1) := by decide +kernel
theorem dX11_house_43 : decode cX11_house 43 = .ok (.iastore, 1) := by decide +kernel
theorem dX11_house_44 : decode cX11_house 44 = .ok (.iinc 1 1, 3) := by decide +kernel
theorem dX11_house_47 : decode cX11_house 47 = .ok (.goto (-17), 3) := by decide +kernel
