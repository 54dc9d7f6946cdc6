theorem db396 : (decode cX11_part 0 = .ok (.iload 4, 2)) ∧ (decode cX11_part 2 = .ok (.ifCond .ne 7, 3)) ∧ (decode cX11_part 9 = .ok (.lload_n 2, 1)) ∧ (decode cX11_part 10 = .ok (.lload_n 0, 1)) ∧ (decode cX11_part 11 = .ok (.lload_n 2, 1)) ∧ (decode cX11_part 12 = .ok (.invokestatic 384, 3)) ∧ (decode cX11_part 15 = .ok (.ldiv, 1)) ∧ (decode cX11_part 16 = .ok (.lreturn, 1)) ∧ (decode cX11_part 5 = .ok (.lload_n 0, 1)) ∧ (decode cX11_part 6 = .ok (.goto 4, 3)) := by decide +kernel
theorem dX11_part_0 : decode cX11_part 0 = .ok (.iload 4, 2) := db396.1
theorem dX11_part_2 : decode cX11_part 2 = .ok (.ifCond .ne 7, 3) := db396.2.1
theorem dX11_part_9 : decode cX11_part 9 = .ok (.lload_n 2, 1) := db396.2.2.1
theorem dX11_part_10 : decode cX11_part 10 = .ok (.lload_n 0, 1) := db396.2.2.2.1
theorem dX11_part_11 : decode cX11_part 11 = .ok (.lload_n 2, 1) := db396.2.2.2.2.1
theorem dX11_part_12 : decode cX11_part 12 = .ok (.invokestatic 384, 3) := db396.2.2.2.2.2.1
theorem dX11_part_15 : decode cX11_part 15 = .ok (.ldiv, 1) := db396.2.2.2.2.2.2.1
theorem dX11_part_16 : decode cX11_part 16 = .ok (.lreturn, 1) := db396.2.2.2.2.2.2.2.1
theorem dX11_part_5 : decode cX11_part 5 = .ok (.lload_n 0, 1) := db396.2.2.2.2.2.2.2.2.1
theorem dX11_part_6 : decode cX11_part 6 = .ok (.goto 4, 3) := db396.2.2.2.2.2.2.2.2.2
theorem db397 : (decode cX11_parts 0 = .ok (.aload_n 0, 1)) ∧ (decode cX11_parts 1 = .ok (.iload_n 1, 1)) ∧ (decode cX11_parts 2 = .ok (.i2l, 1)) ∧ (decode cX11_parts 3 = .ok (.invokevirtual 275, 3)) ∧ (decode cX11_parts 6 = .ok (.ifCond .ne 6, 3)) ∧ (decode cX11_parts 12 = .ok (.aload_n 0, 1)) ∧ (decode cX11_parts 13 = .ok (.invokevirtual 278, 3)) ∧ (decode cX11_parts 16 = .ok (.iload_n 1, 1)) ∧ (decode cX11_parts 17 = .ok (.iconst (-1), 1)) ∧ (decode cX11_parts 18 = .ok (.if_icmp .ne 10, 3)) ∧ (decode cX11_parts 28 = .ok (.aload_n 0, 1)) ∧ (decode cX11_parts 29 = .ok (.getfield 34, 3)) ∧ (decode cX11_parts 32 = .ok (.iload_n 1, 1)) ∧ (decode cX11_parts 33 = .ok (.iaload, 1)) ∧ (decode cX11_parts 34 = .ok (.ireturn, 1)) ∧ (decode cX11_parts 21 = .ok (.aload_n 0, 1)) ∧ (decode cX11_parts 22 = .ok (.getfield 246, 3)) ∧ (decode cX11_parts 25 = .ok (.goto 9, 3)) ∧ (decode cX11_parts 9 = .ok (.bipush (-2), 2)) ∧ (decode cX11_parts 11 = .ok (.ireturn, 1)) := by decide +kernel
theorem dX11_parts_0 : decode cX11_parts 0 = .ok (.aload_n 0, 1) := db397.1
theorem dX11_parts_1 : decode cX11_parts 1 = .ok (.iload_n 1, 1) := db397.2.1
theorem dX11_parts_2 : decode cX11_parts 2 = .ok (.i2l, 1) := db397.2.2.1
theorem dX11_parts_3 : decode cX11_parts 3 = .ok (.invokevirtual 275, 3) := db397.2.2.2.1
theorem dX11_parts_6 : decode cX11_parts 6 = .ok (.ifCond .ne 6, 3) := db397.2.2.2.2.1
theorem dX11_parts_12 : decode cX11_parts 12 = .ok (.aload_n 0, 1) := db397.2.2.2.2.2.1
theorem dX11_parts_13 : decode cX11_parts 13 = .ok (.invokevirtual 278, 3) := db397.2.2.2.2.2.2.1
theorem dX11_parts_16 : decode cX11_parts 16 = .ok (.iload_n 1, 1) := db397.2.2.2.2.2.2.2.1
theorem dX11_parts_17 : decode cX11_parts 17 = .ok (.iconst (-1), 1) := db397.2.2.2.2.2.2.2.2.1
theorem dX11_parts_18 : decode cX11_parts 18 = .ok (.if_icmp .ne 10, 3) := db397.2.2.2.2.2.2.2.2.2.1
theorem dX11_parts_28 : decode cX11_parts 28 = .ok (.aload_n 0, 1) := db397.2.2.2.2.2.2.2.2.2.2.1
theorem dX11_parts_29 : decode cX11_parts 29 = .ok (.getfield 34, 3) := db397.2.2.2.2.2.2.2.2.2.2.2.1
theorem dX11_parts_32 : decode cX11_parts 32 = .ok (.iload_n 1, 1) := db397.2.2.2.2.2.2.2.2.2.2.2.2.1
theorem dX11_parts_33 : decode cX11_parts 33 = .ok (.iaload, 1) := db397.2.2.2.2.2.2.2.2.2.2.2.2.2.1
theorem dX11_parts_34 : decode cX11_parts 34 = .ok (.ireturn, 1) := db397.2.2.2.2.2.2.2.2.2.2.2.2.2.2.1
theorem dX11_parts_21 : decode cX11_parts 21 = .ok (.aload_n 0, 1) := db397.2.2.2.2.2.2.2.2.2.2.2.2.2.2.2.1
theorem dX11_parts_22 : decode cX11_parts 22 = .ok (.getfield 246, 3) := db397.2.2.2.2.2.2.2.2.2.2.2.2.2.2.2.2.1
theorem dX11_parts_25 : decode cX11_parts 25 = .ok (.goto 9, 3) := db397.2.2.2.2.2.2.2.2.2.2.2.2.2.2.2.2.2.1
theorem dX11_parts_9 : decode cX11_parts 9 = .ok (.bipush (-2), 2) := db397.2.2.2.2.2.2.2.2.2.2.2.2.2.2.2.2.2.2.1
theorem dX11_parts_11 : decode cX11_parts 11 = .ok (.ireturn, 1) := db397.2.2.2.2.2.2.2.2.2.2.2.2.2.2.2.2.2.2.2
theorem db398 : (decode cX11_paste 0 = .ok (.iload_n 1, 1)) ∧ (decode cX11_paste 1 = .ok (.invokestatic 290, 3)) ∧ (decode cX11_paste 4 = .ok (.ifCond .eq 10, 3)) ∧ (decode cX11_paste 14 = .ok (.bipush (-2), 2)) ∧ (decode cX11_paste 16 = .ok (.ireturn, 1)) ∧ (decode cX11_paste 7 = .ok (.iload_n 3, 1)) ∧ (decode cX11_paste 8 = .ok (.invokestatic 290, 3)) ∧ (decode cX11_paste 11 = .ok (.ifCond .ne 6, 3)) ∧ (decode cX11_paste 17 = .ok (.aload_n 0, 1)) ∧ (decode cX11_paste 18 = .ok (.getfield 61, 3)) ∧ (decode cX11_paste 21 = .ok (.iload_n 1, 1)) ∧ (decode cX11_paste 22 = .ok (.iaload, 1)) ∧ (decode cX11_paste 23 = .ok (.iconst (-1), 1)) ∧ (decode cX11_paste 24 = .ok (.if_icmp .eq 13, 3)) ∧ (decode cX11_paste 37 = .ok (.bipush (-6), 2)) ∧ (decode cX11_paste 39 = .ok (.ireturn, 1)) ∧ (decode cX11_paste 27 = .ok (.aload_n 0, 1)) ∧ (decode cX11_paste 28 = .ok (.getfield 61, 3)) ∧ (decode cX11_paste 31 = .ok (.iload_n 3, 1)) ∧ (decode cX11_paste 32 = .ok (.iaload, 1)) ∧ (decode cX11_paste 33 = .ok (.iconst (-1), 1)) ∧ (decode cX11_paste 34 = .ok (.if_icmp .ne 6, 3)) ∧ (decode cX11_paste 40 = .ok (.aload_n 0, 1)) ∧ (decode cX11_paste 41 = .ok (.getfield 64, 3)) := by decide +kernel
theorem dX11_paste_0 : decode cX11_paste 0 = .ok (.iload_n 1, 1) := db398.1
theorem dX11_paste_1 : decode cX11_paste 1 = .ok (.invokestatic 290, 3) := db398.2.1
theorem dX11_paste_4 : decode cX11_paste 4 = .ok (.ifCond .eq 10, 3) := db398.2.2.1
theorem dX11_paste_14 : decode cX11_paste 14 = .ok (.bipush (-2), 2) := db398.2.2.2.1
theorem dX11_paste_16 : decode cX11_paste 16 = .ok (.ireturn, 1) := db398.2.2.2.2.1
theorem dX11_paste_7 : decode cX11_paste 7 = .ok (.iload_n 3, 1) := db398.2.2.2.2.2.1
theorem dX11_paste_8 : decode cX11_paste 8 = .ok (.invokestatic 290, 3) := db398.2.2.2.2.2.2.1
theorem dX11_paste_11 : decode cX11_paste 11 = .ok (.ifCond .ne 6, 3) := db398.2.2.2.2.2.2.2.1
theorem dX11_paste_17 : decode cX11_paste 17 = .ok (.aload_n 0, 1) := db398.2.2.2.2.2.2.2.2.1
theorem dX11_paste_18 : decode cX11_paste 18 = .ok (.getfield 61, 3) := db398.2.2.2.2.2.2.2.2.2.1
theorem dX11_paste_21 : decode cX11_paste 21 = .ok (.iload_n 1, 1) := db398.2.2.2.2.2.2.2.2.2.2.1
theorem dX11_paste_22 : decode cX11_paste 22 = .ok (.iaload, 1) := db398.2.2.2.2.2.2.2.2.2.2.2.1
theorem dX11_paste_23 : decode cX11_paste 23 = .ok (.iconst (-1), 1) := db398.2.2.2.2.2.2.2.2.2.2.2.2.1
theorem dX11_paste_24 : decode cX11_paste 24 = .ok (.if_icmp .eq 13, 3) := db398.2.2.2.2.2.2.2.2.2.2.2.2.2.1
theorem dX11_paste_37 : decode cX11_paste 37 = .ok (.bipush (-6), 2) := db398.2.2.2.2.2.2.2.2.2.2.2.2.2.2.1
theorem dX11_paste_39 : decode cX11_paste 39 = .ok (.ireturn, 1) := db398.2.2.2.2.2.2.2.2.2.2.2.2.2.2.2.1
theorem dX11_paste_27 : decode cX11_paste 27 = .ok (.aload_n 0, 1) := db398.2.2.2.2.2.2.2.2.2.2.2.2.2.2.2.2.1
theorem dX11_paste_28 : decode cX11_paste 28 = .ok (.getfield 61, 3) := db398.2.2.2.2.2.2.2.2.2.2.2.2.2.2.2.2.2.1
theorem dX11_paste_31 : decode cX11_paste 31 = .ok (.iload_n 3, 1) := db398.2.2.2.2.2.2.2.2.2.2.2.2.2.2.2.2.2.2.1
theorem dX11_paste_32 : decode cX11_paste 32 = .ok (.iaload, 1) := db398.2.2.2.2.2.2.2.2.2.2.2.2.2.2.2.2.2.2.2.1
theorem dX11_paste_33 : decode cX11_paste 33 = .ok (.iconst (-1), 1) := db398.2.2.2.2.2.2.2.2.2.2.2.2.2.2.2.2.2.2.2.2.1
theorem dX11_paste_34 : decode cX11_paste 34 = .ok (.if_icmp .ne 6, 3) := db398.2.2.2.2.2.2.2.2.2.2.2.2.2.2.2.2.2.2.2.2.2.1
theorem dX11_paste_40 : decode cX11_paste 40 = .ok (.aload_n 0, 1) := db398.2.2.2.2.2.2.2.2.2.2.2.2.2.2.2.2.2.2.2.2.2.2.1
theorem dX11_paste_41 : decode cX11_paste 41 = .ok (.getfield 64, 3) := db398.2.2.2.2.2.2.2.2.2.2.2.2.2.2.2.2.2.2.2.2.2.2.2
theorem db399 : (decode cX11_paste 44 = .ok (.iload_n 1, 1)) ∧ (decode cX11_paste 45 = .ok (.iaload, 1)) ∧ (decode cX11_paste 46 = .ok (.aload_n 0, 1)) ∧ (decode cX11_paste 47 = .ok (.getfield 64, 3)) ∧ (decode cX11_paste 50 = .ok (.iload_n 3, 1)) ∧ (decode cX11_paste 51 = .ok (.iaload, 1)) ∧ (decode cX11_paste 52 = .ok (.if_icmp .eq 6, 3)) ∧ (decode cX11_paste 58 = .ok (.iload_n 2, 1)) ∧ (decode cX11_paste 59 = .ok (.ifCond .lt 48, 3)) ∧ (decode cX11_paste 107 = .ok (.bipush (-7), 2)) ∧ (decode cX11_paste 109 = .ok (.ireturn, 1)) ∧ (decode cX11_paste 62 = .ok (.iload 4, 2)) ∧ (decode cX11_paste 64 = .ok (.ifCond .lt 43, 3)) ∧ (decode cX11_paste 67 = .ok (.iload 5, 2)) ∧ (decode cX11_paste 69 = .ok (.ifCond .lt 38, 3)) ∧ (decode cX11_paste 72 = .ok (.iload_n 2, 1)) ∧ (decode cX11_paste 73 = .ok (.i2l, 1)) ∧ (decode cX11_paste 74 = .ok (.iload 5, 2)) ∧ (decode cX11_paste 76 = .ok (.i2l, 1)) ∧ (decode cX11_paste 77 = .ok (.ladd, 1)) ∧ (decode cX11_paste 78 = .ok (.aload_n 0, 1)) ∧ (decode cX11_paste 79 = .ok (.getfield 61, 3)) ∧ (decode cX11_paste 82 = .ok (.iload_n 1, 1)) ∧ (decode cX11_paste 83 = .ok (.iaload, 1)) := by decide +kernel
theorem dX11_paste_44 : decode cX11_paste 44 = .ok (.iload_n 1, 1) := db399.1
theorem dX11_paste_45 : decode cX11_paste 45 = .ok (.iaload, 1) := db399.2.1
theorem dX11_paste_46 : decode cX11_paste 46 = .ok (.aload_n 0, 1) := db399.2.2.1
theorem dX11_paste_47 : decode cX11_paste 47 = .ok (.getfield 64, 3) := db399.2.2.2.1
theorem dX11_paste_50 : decode cX11_paste 50 = .ok (.iload_n 3, 1) := db399.2.2.2.2.1
theorem dX11_paste_51 : decode cX11_paste 51 = .ok (.iaload, 1) := db399.2.2.2.2.2.1
theorem dX11_paste_52 : decode cX11_paste 52 = .ok (.if_icmp .eq 6, 3) := db399.2.2.2.2.2.2.1
theorem dX11_paste_58 : decode cX11_paste 58 = .ok (.iload_n 2, 1) := db399.2.2.2.2.2.2.2.1
theorem dX11_paste_59 : decode cX11_paste 59 = .ok (.ifCond .lt 48, 3) := db399.2.2.2.2.2.2.2.2.1
theorem dX11_paste_107 : decode cX11_paste 107 = .ok (.bipush (-7), 2) := db399.2.2.2.2.2.2.2.2.2.1
theorem dX11_paste_109 : decode cX11_paste 109 = .ok (.ireturn, 1) := db399.2.2.2.2.2.2.2.2.2.2.1
theorem dX11_paste_62 : decode cX11_paste 62 = .ok (.iload 4, 2) := db399.2.2.2.2.2.2.2.2.2.2.2.1
theorem dX11_paste_64 : decode cX11_paste 64 = .ok (.ifCond .lt 43, 3) := db399.2.2.2.2.2.2.2.2.2.2.2.2.1
theorem dX11_paste_67 : decode cX11_paste 67 = .ok (.iload 5, 2) := db399.2.2.2.2.2.2.2.2.2.2.2.2.2.1
theorem dX11_paste_69 : decode cX11_paste 69 = .ok (.ifCond .lt 38, 3) := db399.2.2.2.2.2.2.2.2.2.2.2.2.2.2.1
theorem dX11_paste_72 : decode cX11_paste 72 = .ok (.iload_n 2, 1) := db399.2.2.2.2.2.2.2.2.2.2.2.2.2.2.2.1
theorem dX11_paste_73 : decode cX11_paste 73 = .ok (.i2l, 1) := db399.2.2.2.2.2.2.2.2.2.2.2.2.2.2.2.2.1
theorem dX11_paste_74 : decode cX11_paste 74 = .ok (.iload 5, 2) := db399.2.2.2.2.2.2.2.2.2.2.2.2.2.2.2.2.2.1
theorem dX11_paste_76 : decode cX11_paste 76 = .ok (.i2l, 1) := db399.2.2.2.2.2.2.2.2.2.2.2.2.2.2.2.2.2.2.1
theorem dX11_paste_77 : decode cX11_paste 77 = .ok (.ladd, 1) := db399.2.2.2.2.2.2.2.2.2.2.2.2.2.2.2.2.2.2.2.1
theorem dX11_paste_78 : decode cX11_paste 78 = .ok (.aload_n 0, 1) := db399.2.2.2.2.2.2.2.2.2.2.2.2.2.2.2.2.2.2.2.2.1
theorem dX11_paste_79 : decode cX11_paste 79 = .ok (.getfield 61, 3) := db399.2.2.2.2.2.2.2.2.2.2.2.2.2.2.2.2.2.2.2.2.2.1
theorem dX11_paste_82 : decode cX11_paste 82 = .ok (.iload_n 1, 1) := db399.2.2.2.2.2.2.2.2.2.2.2.2.2.2.2.2.2.2.2.2.2.2.1
theorem dX11_paste_83 : decode cX11_paste 83 = .ok (.iaload, 1) := db399.2.2.2.2.2.2.2.2.2.2.2.2.2.2.2.2.2.2.2.2.2.2.2
theorem db400 : (decode cX11_paste 84 = .ok (.i2l, 1)) ∧ (decode cX11_paste 85 = .ok (.lcmp, 1)) ∧ (decode cX11_paste 86 = .ok (.ifCond .gt 21, 3)) ∧ (decode cX11_paste 89 = .ok (.iload 4, 2)) ∧ (decode cX11_paste 91 = .ok (.i2l, 1)) ∧ (decode cX11_paste 92 = .ok (.iload 5, 2)) ∧ (decode cX11_paste 94 = .ok (.i2l, 1)) ∧ (decode cX11_paste 95 = .ok (.ladd, 1)) ∧ (decode cX11_paste 96 = .ok (.aload_n 0, 1)) ∧ (decode cX11_paste 97 = .ok (.getfield 61, 3)) ∧ (decode cX11_paste 100 = .ok (.iload_n 3, 1)) ∧ (decode cX11_paste 101 = .ok (.iaload, 1)) ∧ (decode cX11_paste 102 = .ok (.i2l, 1)) ∧ (decode cX11_paste 103 = .ok (.lcmp, 1)) ∧ (decode cX11_paste 104 = .ok (.ifCond .le 6, 3)) ∧ (decode cX11_paste 110 = .ok (.iconst 0, 1)) ∧ (decode cX11_paste 111 = .ok (.istore 6, 2)) ∧ (decode cX11_paste 113 = .ok (.iload 6, 2)) ∧ (decode cX11_paste 115 = .ok (.iload 5, 2)) ∧ (decode cX11_paste 117 = .ok (.if_icmp .ge 30, 3)) ∧ (decode cX11_paste 147 = .ok (.iconst 0, 1)) ∧ (decode cX11_paste 148 = .ok (.istore 6, 2)) ∧ (decode cX11_paste 150 = .ok (.iload 6, 2)) ∧ (decode cX11_paste 152 = .ok (.iload 5, 2)) := by decide +kernel
theorem dX11_paste_84 : decode cX11_paste 84 = .ok (.i2l, 1) := db400.1
theorem dX11_paste_85 : decode cX11_paste 85 = .ok (.lcmp, 1) := db400.2.1
theorem dX11_paste_86 : decode cX11_paste 86 = .ok (.ifCond .gt 21, 3) := db400.2.2.1
theorem dX11_paste_89 : decode cX11_paste 89 = .ok (.iload 4, 2) := db400.2.2.2.1
theorem dX11_paste_91 : decode cX11_paste 91 = .ok (.i2l, 1) := db400.2.2.2.2.1
theorem dX11_paste_92 : decode cX11_paste 92 = .ok (.iload 5, 2) := db400.2.2.2.2.2.1
theorem dX11_paste_94 : decode cX11_paste 94 = .ok (.i2l, 1) := db400.2.2.2.2.2.2.1
theorem dX11_paste_95 : decode cX11_paste 95 = .ok (.ladd, 1) := db400.2.2.2.2.2.2.2.1
theorem dX11_paste_96 : decode cX11_paste 96 = .ok (.aload_n 0, 1) := db400.2.2.2.2.2.2.2.2.1
theorem dX11_paste_97 : decode cX11_paste 97 = .ok (.getfield 61, 3) := db400.2.2.2.2.2.2.2.2.2.1
theorem dX11_paste_100 : decode cX11_paste 100 = .ok (.iload_n 3, 1) := db400.2.2.2.2.2.2.2.2.2.2.1
theorem dX11_paste_101 : decode cX11_paste 101 = .ok (.iaload, 1) := db400.2.2.2.2.2.2.2.2.2.2.2.1
theorem dX11_paste_102 : decode cX11_paste 102 = .ok (.i2l, 1) := db400.2.2.2.2.2.2.2.2.2.2.2.2.1
theorem dX11_paste_103 : decode cX11_paste 103 = .ok (.lcmp, 1) := db400.2.2.2.2.2.2.2.2.2.2.2.2.2.1
theorem dX11_paste_104 : decode cX11_paste 104 = .ok (.ifCond .le 6, 3) := db400.2.2.2.2.2.2.2.2.2.2.2.2.2.2.1
theorem dX11_paste_110 : decode cX11_paste 110 = .ok (.iconst 0, 1) := db400.2.2.2.2.2.2.2.2.2.2.2.2.2.2.2.1
theorem dX11_paste_111 : decode cX11_paste 111 = .ok (.istore 6, 2) := db400.2.2.2.2.2.2.2.2.2.2.2.2.2.2.2.2.1
theorem dX11_paste_113 : decode cX11_paste 113 = .ok (.iload 6, 2) := db400.2.2.2.2.2.2.2.2.2.2.2.2.2.2.2.2.2.1
theorem dX11_paste_115 : decode cX11_paste 115 = .ok (.iload 5, 2) := db400.2.2.2.2.2.2.2.2.2.2.2.2.2.2.2.2.2.2.1
theorem dX11_paste_117 : decode cX11_paste 117 = .ok (.if_icmp .ge 30, 3) := db400.2.2.2.2.2.2.2.2.2.2.2.2.2.2.2.2.2.2.2.1
theorem dX11_paste_147 : decode cX11_paste 147 = .ok (.iconst 0, 1) := db400.2.2.2.2.2.2.2.2.2.2.2.2.2.2.2.2.2.2.2.2.1
theorem dX11_paste_148 : decode cX11_paste 148 = .ok (.istore 6, 2) := db400.2.2.2.2.2.2.2.2.2.2.2.2.2.2.2.2.2.2.2.2.2.1
theorem dX11_paste_150 : decode cX11_paste 150 = .ok (.iload 6, 2) := db400.2.2.2.2.2.2.2.2.2.2.2.2.2.2.2.2.2.2.2.2.2.2.1
theorem dX11_paste_152 : decode cX11_paste 152 = .ok (.iload 5, 2) := db400.2.2.2.2.2.2.2.2.2.2.2.2.2.2.2.2.2.2.2.2.2.2.2
theorem db401 : (decode cX11_paste 154 = .ok (.if_icmp .ge 31, 3)) ∧ (decode cX11_paste 185 = .ok (.iconst 0, 1)) ∧ (decode cX11_paste 186 = .ok (.ireturn, 1)) ∧ (decode cX11_paste 157 = .ok (.aload_n 0, 1)) ∧ (decode cX11_paste 158 = .ok (.getfield 67, 3)) ∧ (decode cX11_paste 161 = .ok (.bipush 60, 2)) ∧ (decode cX11_paste 163 = .ok (.iload_n 3, 1)) ∧ (decode cX11_paste 164 = .ok (.imul, 1)) ∧ (decode cX11_paste 165 = .ok (.iload 4, 2)) ∧ (decode cX11_paste 167 = .ok (.iadd, 1)) ∧ (decode cX11_paste 168 = .ok (.iload 6, 2)) ∧ (decode cX11_paste 170 = .ok (.iadd, 1)) ∧ (decode cX11_paste 171 = .ok (.aload_n 0, 1)) ∧ (decode cX11_paste 172 = .ok (.getfield 71, 3)) ∧ (decode cX11_paste 175 = .ok (.iload 6, 2)) ∧ (decode cX11_paste 177 = .ok (.laload, 1)) ∧ (decode cX11_paste 178 = .ok (.lastore, 1)) ∧ (decode cX11_paste 179 = .ok (.iinc 6 1, 3)) ∧ (decode cX11_paste 182 = .ok (.goto (-32), 3)) ∧ (decode cX11_paste 120 = .ok (.aload_n 0, 1)) ∧ (decode cX11_paste 121 = .ok (.getfield 71, 3)) ∧ (decode cX11_paste 124 = .ok (.iload 6, 2)) ∧ (decode cX11_paste 126 = .ok (.aload_n 0, 1)) ∧ (decode cX11_paste 127 = .ok (.getfield 67, 3)) := by decide +kernel
theorem dX11_paste_154 : decode cX11_paste 154 = .ok (.if_icmp .ge 31, 3) := db401.1
theorem dX11_paste_185 : decode cX11_paste 185 = .ok (.iconst 0, 1) := db401.2.1
theorem dX11_paste_186 : decode cX11_paste 186 = .ok (.ireturn, 1) := db401.2.2.1
theorem dX11_paste_157 : decode cX11_paste 157 = .ok (.aload_n 0, 1) := db401.2.2.2.1
theorem dX11_paste_158 : decode cX11_paste 158 = .ok (.getfield 67, 3) := db401.2.2.2.2.1
theorem dX11_paste_161 : decode cX11_paste 161 = .ok (.bipush 60, 2) := db401.2.2.2.2.2.1
theorem dX11_paste_163 : decode cX11_paste 163 = .ok (.iload_n 3, 1) := db401.2.2.2.2.2.2.1
theorem dX11_paste_164 : decode cX11_paste 164 = .ok (.imul, 1) := db401.2.2.2.2.2.2.2.1
theorem dX11_paste_165 : decode cX11_paste 165 = .ok (.iload 4, 2) := db401.2.2.2.2.2.2.2.2.1
theorem dX11_paste_167 : decode cX11_paste 167 = .ok (.iadd, 1) := db401.2.2.2.2.2.2.2.2.2.1
theorem dX11_paste_168 : decode cX11_paste 168 = .ok (.iload 6, 2) := db401.2.2.2.2.2.2.2.2.2.2.1
theorem dX11_paste_170 : decode cX11_paste 170 = .ok (.iadd, 1) := db401.2.2.2.2.2.2.2.2.2.2.2.1
theorem dX11_paste_171 : decode cX11_paste 171 = .ok (.aload_n 0, 1) := db401.2.2.2.2.2.2.2.2.2.2.2.2.1
theorem dX11_paste_172 : decode cX11_paste 172 = .ok (.getfield 71, 3) := db401.2.2.2.2.2.2.2.2.2.2.2.2.2.1
theorem dX11_paste_175 : decode cX11_paste 175 = .ok (.iload 6, 2) := db401.2.2.2.2.2.2.2.2.2.2.2.2.2.2.1
theorem dX11_paste_177 : decode cX11_paste 177 = .ok (.laload, 1) := db401.2.2.2.2.2.2.2.2.2.2.2.2.2.2.2.1
theorem dX11_paste_178 : decode cX11_paste 178 = .ok (.lastore, 1) := db401.2.2.2.2.2.2.2.2.2.2.2.2.2.2.2.2.1
theorem dX11_paste_179 : decode cX11_paste 179 = .ok (.iinc 6 1, 3) := db401.2.2.2.2.2.2.2.2.2.2.2.2.2.2.2.2.2.1
theorem dX11_paste_182 : decode cX11_paste 182 = .ok (.goto (-32), 3) := db401.2.2.2.2.2.2.2.2.2.2.2.2.2.2.2.2.2.2.1
theorem dX11_paste_120 : decode cX11_paste 120 = .ok (.aload_n 0, 1) := db401.2.2.2.2.2.2.2.2.2.2.2.2.2.2.2.2.2.2.2.1
theorem dX11_paste_121 : decode cX11_paste 121 = .ok (.getfield 71, 3) := db401.2.2.2.2.2.2.2.2.2.2.2.2.2.2.2.2.2.2.2.2.1
theorem dX11_paste_124 : decode cX11_paste 124 = .ok (.iload 6, 2) := db401.2.2.2.2.2.2.2.2.2.2.2.2.2.2.2.2.2.2.2.2.2.1
theorem dX11_paste_126 : decode cX11_paste 126 = .ok (.aload_n 0, 1) := db401.2.2.2.2.2.2.2.2.2.2.2.2.2.2.2.2.2.2.2.2.2.2.1
theorem dX11_paste_127 : decode cX11_paste 127 = .ok (.getfield 67, 3) := db401.2.2.2.2.2.2.2.2.2.2.2.2.2.2.2.2.2.2.2.2.2.2.2
theorem db402 : (decode cX11_paste 130 = .ok (.bipush 60, 2)) ∧ (decode cX11_paste 132 = .ok (.iload_n 1, 1)) ∧ (decode cX11_paste 133 = .ok (.imul, 1)) ∧ (decode cX11_paste 134 = .ok (.iload_n 2, 1)) ∧ (decode cX11_paste 135 = .ok (.iadd, 1)) ∧ (decode cX11_paste 136 = .ok (.iload 6, 2)) ∧ (decode cX11_paste 138 = .ok (.iadd, 1)) ∧ (decode cX11_paste 139 = .ok (.laload, 1)) ∧ (decode cX11_paste 140 = .ok (.lastore, 1)) ∧ (decode cX11_paste 141 = .ok (.iinc 6 1, 3)) ∧ (decode cX11_paste 144 = .ok (.goto (-31), 3)) ∧ (decode cX11_paste 55 = .ok (.bipush (-8), 2)) ∧ (decode cX11_paste 57 = .ok (.ireturn, 1)) := by decide +kernel
theorem dX11_paste_130 : decode cX11_paste 130 = .ok (.bipush 60, 2) := db402.1
theorem dX11_paste_132 : decode cX11_paste 132 = .ok (.iload_n 1, 1) := db402.2.1
theorem dX11_paste_133 : decode cX11_paste 133 = .ok (.imul, 1) := db402.2.2.1
theorem dX11_paste_134 : decode cX11_paste 134 = .ok (.iload_n 2, 1) := db402.2.2.2.1
theorem dX11_paste_135 : decode cX11_paste 135 = .ok (.iadd, 1) := db402.2.2.2.2.1
theorem dX11_paste_136 : decode cX11_paste 136 = .ok (.iload 6, 2) := db402.2.2.2.2.2.1
theorem dX11_paste_138 : decode cX11_paste 138 = .ok (.iadd, 1) := db402.2.2.2.2.2.2.1
theorem dX11_paste_139 : decode cX11_paste 139 = .ok (.laload, 1) := db402.2.2.2.2.2.2.2.1
theorem dX11_paste_140 : decode cX11_paste 140 = .ok (.lastore, 1) := db402.2.2.2.2.2.2.2.2.1
theorem dX11_paste_141 : decode cX11_paste 141 = .ok (.iinc 6 1, 3) := db402.2.2.2.2.2.2.2.2.2.1
theorem dX11_paste_144 : decode cX11_paste 144 = .ok (.goto (-31), 3) := db402.2.2.2.2.2.2.2.2.2.2.1
theorem dX11_paste_55 : decode cX11_paste 55 = .ok (.bipush (-8), 2) := db402.2.2.2.2.2.2.2.2.2.2.2.1
theorem dX11_paste_57 : decode cX11_paste 57 = .ok (.ireturn, 1) := db402.2.2.2.2.2.2.2.2.2.2.2.2
theorem db403 : (decode cX11_penny 0 = .ok (.aload_n 0, 1)) ∧ (decode cX11_penny 1 = .ok (.iload_n 1, 1)) ∧ (decode cX11_penny 2 = .ok (.iconst 1, 1)) ∧ (decode cX11_penny 3 = .ok (.invokevirtual 303, 3)) ∧ (decode cX11_penny 6 = .ok (.istore_n 2, 1)) ∧ (decode cX11_penny 7 = .ok (.iload_n 2, 1)) ∧ (decode cX11_penny 8 = .ok (.ifCond .ge 5, 3)) ∧ (decode cX11_penny 13 = .ok (.iconst 0, 1)) ∧ (decode cX11_penny 14 = .ok (.istore_n 3, 1)) ∧ (decode cX11_penny 15 = .ok (.iconst 0, 1)) ∧ (decode cX11_penny 16 = .ok (.istore 4, 2)) ∧ (decode cX11_penny 18 = .ok (.iload 4, 2)) ∧ (decode cX11_penny 20 = .ok (.aload_n 0, 1)) ∧ (decode cX11_penny 21 = .ok (.getfield 61, 3)) ∧ (decode cX11_penny 24 = .ok (.iload_n 1, 1)) ∧ (decode cX11_penny 25 = .ok (.iaload, 1)) ∧ (decode cX11_penny 26 = .ok (.if_icmp .ge 28, 3)) ∧ (decode cX11_penny 54 = .ok (.iconst 0, 1)) ∧ (decode cX11_penny 55 = .ok (.istore 4, 2)) ∧ (decode cX11_penny 57 = .ok (.aload_n 0, 1)) ∧ (decode cX11_penny 58 = .ok (.iload_n 1, 1)) ∧ (decode cX11_penny 59 = .ok (.aload_n 0, 1)) ∧ (decode cX11_penny 60 = .ok (.getfield 61, 3)) ∧ (decode cX11_penny 63 = .ok (.iload_n 1, 1)) := by decide +kernel
theorem dX11_penny_0 : decode cX11_penny 0 = .ok (.aload_n 0, 1) := db403.1
theorem dX11_penny_1 : decode cX11_penny 1 = .ok (.iload_n 1, 1) := db403.2.1
theorem dX11_penny_2 : decode cX11_penny 2 = .ok (.iconst 1, 1) := db403.2.2.1
theorem dX11_penny_3 : decode cX11_penny 3 = .ok (.invokevirtual 303, 3) := db403.2.2.2.1
theorem dX11_penny_6 : decode cX11_penny 6 = .ok (.istore_n 2, 1) := db403.2.2.2.2.1
theorem dX11_penny_7 : decode cX11_penny 7 = .ok (.iload_n 2, 1) := db403.2.2.2.2.2.1
theorem dX11_penny_8 : decode cX11_penny 8 = .ok (.ifCond .ge 5, 3) := db403.2.2.2.2.2.2.1
theorem dX11_penny_13 : decode cX11_penny 13 = .ok (.iconst 0, 1) := db403.2.2.2.2.2.2.2.1
theorem dX11_penny_14 : decode cX11_penny 14 = .ok (.istore_n 3, 1) := db403.2.2.2.2.2.2.2.2.1
theorem dX11_penny_15 : decode cX11_penny 15 = .ok (.iconst 0, 1) := db403.2.2.2.2.2.2.2.2.2.1
theorem dX11_penny_16 : decode cX11_penny 16 = .ok (.istore 4, 2) := db403.2.2.2.2.2.2.2.2.2.2.1
theorem dX11_penny_18 : decode cX11_penny 18 = .ok (.iload 4, 2) := db403.2.2.2.2.2.2.2.2.2.2.2.1
theorem dX11_penny_20 : decode cX11_penny 20 = .ok (.aload_n 0, 1) := db403.2.2.2.2.2.2.2.2.2.2.2.2.1
theorem dX11_penny_21 : decode cX11_penny 21 = .ok (.getfield 61, 3) := db403.2.2.2.2.2.2.2.2.2.2.2.2.2.1
theorem dX11_penny_24 : decode cX11_penny 24 = .ok (.iload_n 1, 1) := db403.2.2.2.2.2.2.2.2.2.2.2.2.2.2.1
theorem dX11_penny_25 : decode cX11_penny 25 = .ok (.iaload, 1) := db403.2.2.2.2.2.2.2.2.2.2.2.2.2.2.2.1
theorem dX11_penny_26 : decode cX11_penny 26 = .ok (.if_icmp .ge 28, 3) := db403.2.2.2.2.2.2.2.2.2.2.2.2.2.2.2.2.1
theorem dX11_penny_54 : decode cX11_penny 54 = .ok (.iconst 0, 1) := db403.2.2.2.2.2.2.2.2.2.2.2.2.2.2.2.2.2.1
theorem dX11_penny_55 : decode cX11_penny 55 = .ok (.istore 4, 2) := db403.2.2.2.2.2.2.2.2.2.2.2.2.2.2.2.2.2.2.1
theorem dX11_penny_57 : decode cX11_penny 57 = .ok (.aload_n 0, 1) := db403.2.2.2.2.2.2.2.2.2.2.2.2.2.2.2.2.2.2.2.1
theorem dX11_penny_58 : decode cX11_penny 58 = .ok (.iload_n 1, 1) := db403.2.2.2.2.2.2.2.2.2.2.2.2.2.2.2.2.2.2.2.2.1
theorem dX11_penny_59 : decode cX11_penny 59 = .ok (.aload_n 0, 1) := db403.2.2.2.2.2.2.2.2.2.2.2.2.2.2.2.2.2.2.2.2.2.1
theorem dX11_penny_60 : decode cX11_penny 60 = .ok (.getfield 61, 3) := db403.2.2.2.2.2.2.2.2.2.2.2.2.2.2.2.2.2.2.2.2.2.2.1
theorem dX11_penny_63 : decode cX11_penny 63 = .ok (.iload_n 1, 1) := db403.2.2.2.2.2.2.2.2.2.2.2.2.2.2.2.2.2.2.2.2.2.2.2
theorem db404 : (decode cX11_penny 64 = .ok (.iaload, 1)) ∧ (decode cX11_penny 65 = .ok (.iconst 0, 1)) ∧ (decode cX11_penny 66 = .ok (.invokevirtual 309, 3)) ∧ (decode cX11_penny 69 = .ok (.istore 5, 2)) ∧ (decode cX11_penny 71 = .ok (.iconst 1, 1)) ∧ (decode cX11_penny 72 = .ok (.istore 6, 2)) ∧ (decode cX11_penny 74 = .ok (.iload 6, 2)) ∧ (decode cX11_penny 76 = .ok (.bipush 9, 2)) ∧ (decode cX11_penny 78 = .ok (.if_icmp .gt 47, 3)) ∧ (decode cX11_penny 125 = .ok (.iload 4, 2)) ∧ (decode cX11_penny 127 = .ok (.ireturn, 1)) ∧ (decode cX11_penny 81 = .ok (.aload_n 0, 1)) ∧ (decode cX11_penny 82 = .ok (.iload_n 1, 1)) ∧ (decode cX11_penny 83 = .ok (.aload_n 0, 1)) ∧ (decode cX11_penny 84 = .ok (.getfield 61, 3)) ∧ (decode cX11_penny 87 = .ok (.iload_n 1, 1)) ∧ (decode cX11_penny 88 = .ok (.iaload, 1)) ∧ (decode cX11_penny 89 = .ok (.iload 6, 2)) ∧ (decode cX11_penny 91 = .ok (.invokevirtual 309, 3)) ∧ (decode cX11_penny 94 = .ok (.iload 6, 2)) ∧ (decode cX11_penny 96 = .ok (.iload_n 3, 1)) ∧ (decode cX11_penny 97 = .ok (.imul, 1)) ∧ (decode cX11_penny 98 = .ok (.isub, 1)) ∧ (decode cX11_penny 99 = .ok (.istore 7, 2)) := by decide +kernel
theorem dX11_penny_64 : decode cX11_penny 64 = .ok (.iaload, 1) := db404.1
theorem dX11_penny_65 : decode cX11_penny 65 = .ok (.iconst 0, 1) := db404.2.1
theorem dX11_penny_66 : decode cX11_penny 66 = .ok (.invokevirtual 309, 3) := db404.2.2.1
theorem dX11_penny_69 : decode cX11_penny 69 = .ok (.istore 5, 2) := db404.2.2.2.1
theorem dX11_penny_71 : decode cX11_penny 71 = .ok (.iconst 1, 1) := db404.2.2.2.2.1
theorem dX11_penny_72 : decode cX11_penny 72 = .ok (.istore 6, 2) := db404.2.2.2.2.2.1
theorem dX11_penny_74 : decode cX11_penny 74 = .ok (.iload 6, 2) := db404.2.2.2.2.2.2.1
theorem dX11_penny_76 : decode cX11_penny 76 = .ok (.bipush 9, 2) := db404.2.2.2.2.2.2.2.1
theorem dX11_penny_78 : decode cX11_penny 78 = .ok (.if_icmp .gt 47, 3) := db404.2.2.2.2.2.2.2.2.1
theorem dX11_penny_125 : decode cX11_penny 125 = .ok (.iload 4, 2) := db404.2.2.2.2.2.2.2.2.2.1
theorem dX11_penny_127 : decode cX11_penny 127 = .ok (.ireturn, 1) := db404.2.2.2.2.2.2.2.2.2.2.1
theorem dX11_penny_81 : decode cX11_penny 81 = .ok (.aload_n 0, 1) := db404.2.2.2.2.2.2.2.2.2.2.2.1
theorem dX11_penny_82 : decode cX11_penny 82 = .ok (.iload_n 1, 1) := db404.2.2.2.2.2.2.2.2.2.2.2.2.1
theorem dX11_penny_83 : decode cX11_penny 83 = .ok (.aload_n 0, 1) := db404.2.2.2.2.2.2.2.2.2.2.2.2.2.1
theorem dX11_penny_84 : decode cX11_penny 84 = .ok (.getfield 61, 3) := db404.2.2.2.2.2.2.2.2.2.2.2.2.2.2.1
theorem dX11_penny_87 : decode cX11_penny 87 = .ok (.iload_n 1, 1) := db404.2.2.2.2.2.2.2.2.2.2.2.2.2.2.2.1
theorem dX11_penny_88 : decode cX11_penny 88 = .ok (.iaload, 1) := db404.2.2.2.2.2.2.2.2.2.2.2.2.2.2.2.2.1
theorem dX11_penny_89 : decode cX11_penny 89 = .ok (.iload 6, 2) := db404.2.2.2.2.2.2.2.2.2.2.2.2.2.2.2.2.2.1
theorem dX11_penny_91 : decode cX11_penny 91 = .ok (.invokevirtual 309, 3) := db404.2.2.2.2.2.2.2.2.2.2.2.2.2.2.2.2.2.2.1
theorem dX11_penny_94 : decode cX11_penny 94 = .ok (.iload 6, 2) := db404.2.2.2.2.2.2.2.2.2.2.2.2.2.2.2.2.2.2.2.1
theorem dX11_penny_96 : decode cX11_penny 96 = .ok (.iload_n 3, 1) := db404.2.2.2.2.2.2.2.2.2.2.2.2.2.2.2.2.2.2.2.2.1
theorem dX11_penny_97 : decode cX11_penny 97 = .ok (.imul, 1) := db404.2.2.2.2.2.2.2.2.2.2.2.2.2.2.2.2.2.2.2.2.2.1
theorem dX11_penny_98 : decode cX11_penny 98 = .ok (.isub, 1) := db404.2.2.2.2.2.2.2.2.2.2.2.2.2.2.2.2.2.2.2.2.2.2.1
theorem dX11_penny_99 : decode cX11_penny 99 = .ok (.istore 7, 2) := db404.2.2.2.2.2.2.2.2.2.2.2.2.2.2.2.2.2.2.2.2.2.2.2
theorem db405 : (decode cX11_penny 101 = .ok (.iload 7, 2)) ∧ (decode cX11_penny 103 = .ok (.iload 5, 2)) ∧ (decode cX11_penny 119 = .ok (.iinc 6 1, 3)) ∧ (decode cX11_penny 122 = .ok (.goto (-48), 3)) ∧ (decode cX11_penny 105 = .ok (.if_icmp .gt 6, 3)) ∧ (decode cX11_penny 111 = .ok (.iload 7, 2)) ∧ (decode cX11_penny 113 = .ok (.istore 5, 2)) ∧ (decode cX11_penny 115 = .ok (.iload 6, 2)) ∧ (decode cX11_penny 117 = .ok (.istore 4, 2)) ∧ (decode cX11_penny 108 = .ok (.goto 11, 3)) ∧ (decode cX11_penny 29 = .ok (.iload_n 3, 1)) ∧ (decode cX11_penny 30 = .ok (.aload_n 0, 1)) ∧ (decode cX11_penny 31 = .ok (.iload_n 1, 1)) ∧ (decode cX11_penny 32 = .ok (.iload 4, 2)) ∧ (decode cX11_penny 34 = .ok (.invokevirtual 293, 3)) ∧ (decode cX11_penny 37 = .ok (.iconst (-1), 1)) ∧ (decode cX11_penny 46 = .ok (.iadd, 1)) ∧ (decode cX11_penny 47 = .ok (.istore_n 3, 1)) ∧ (decode cX11_penny 48 = .ok (.iinc 4 1, 3)) ∧ (decode cX11_penny 51 = .ok (.goto (-33), 3)) ∧ (decode cX11_penny 38 = .ok (.if_icmp .ne 7, 3)) ∧ (decode cX11_penny 45 = .ok (.iconst 1, 1)) ∧ (decode cX11_penny 41 = .ok (.iconst 0, 1)) ∧ (decode cX11_penny 42 = .ok (.goto 4, 3)) := by decide +kernel
theorem dX11_penny_101 : decode cX11_penny 101 = .ok (.iload 7, 2) := db405.1
theorem dX11_penny_103 : decode cX11_penny 103 = .ok (.iload 5, 2) := db405.2.1
theorem dX11_penny_119 : decode cX11_penny 119 = .ok (.iinc 6 1, 3) := db405.2.2.1
theorem dX11_penny_122 : decode cX11_penny 122 = .ok (.goto (-48), 3) := db405.2.2.2.1
theorem dX11_penny_105 : decode cX11_penny 105 = .ok (.if_icmp .gt 6, 3) := db405.2.2.2.2.1
theorem dX11_penny_111 : decode cX11_penny 111 = .ok (.iload 7, 2) := db405.2.2.2.2.2.1
theorem dX11_penny_113 : decode cX11_penny 113 = .ok (.istore 5, 2) := db405.2.2.2.2.2.2.1
theorem dX11_penny_115 : decode cX11_penny 115 = .ok (.iload 6, 2) := db405.2.2.2.2.2.2.2.1
theorem dX11_penny_117 : decode cX11_penny 117 = .ok (.istore 4, 2) := db405.2.2.2.2.2.2.2.2.1
theorem dX11_penny_108 : decode cX11_penny 108 = .ok (.goto 11, 3) := db405.2.2.2.2.2.2.2.2.2.1
theorem dX11_penny_29 : decode cX11_penny 29 = .ok (.iload_n 3, 1) := db405.2.2.2.2.2.2.2.2.2.2.1
theorem dX11_penny_30 : decode cX11_penny 30 = .ok (.aload_n 0, 1) := db405.2.2.2.2.2.2.2.2.2.2.2.1
theorem dX11_penny_31 : decode cX11_penny 31 = .ok (.iload_n 1, 1) := db405.2.2.2.2.2.2.2.2.2.2.2.2.1
theorem dX11_penny_32 : decode cX11_penny 32 = .ok (.iload 4, 2) := db405.2.2.2.2.2.2.2.2.2.2.2.2.2.1
theorem dX11_penny_34 : decode cX11_penny 34 = .ok (.invokevirtual 293, 3) := db405.2.2.2.2.2.2.2.2.2.2.2.2.2.2.1
theorem dX11_penny_37 : decode cX11_penny 37 = .ok (.iconst (-1), 1) := db405.2.2.2.2.2.2.2.2.2.2.2.2.2.2.2.1
theorem dX11_penny_46 : decode cX11_penny 46 = .ok (.iadd, 1) := db405.2.2.2.2.2.2.2.2.2.2.2.2.2.2.2.2.1
theorem dX11_penny_47 : decode cX11_penny 47 = .ok (.istore_n 3, 1) := db405.2.2.2.2.2.2.2.2.2.2.2.2.2.2.2.2.2.1
theorem dX11_penny_48 : decode cX11_penny 48 = .ok (.iinc 4 1, 3) := db405.2.2.2.2.2.2.2.2.2.2.2.2.2.2.2.2.2.2.1
theorem dX11_penny_51 : decode cX11_penny 51 = .ok (.goto (-33), 3) := db405.2.2.2.2.2.2.2.2.2.2.2.2.2.2.2.2.2.2.2.1
theorem dX11_penny_38 : decode cX11_penny 38 = .ok (.if_icmp .ne 7, 3) := db405.2.2.2.2.2.2.2.2.2.2.2.2.2.2.2.2.2.2.2.2.1
theorem dX11_penny_45 : decode cX11_penny 45 = .ok (.iconst 1, 1) := db405.2.2.2.2.2.2.2.2.2.2.2.2.2.2.2.2.2.2.2.2.2.1
theorem dX11_penny_41 : decode cX11_penny 41 = .ok (.iconst 0, 1) := db405.2.2.2.2.2.2.2.2.2.2.2.2.2.2.2.2.2.2.2.2.2.2.1
theorem dX11_penny_42 : decode cX11_penny 42 = .ok (.goto 4, 3) := db405.2.2.2.2.2.2.2.2.2.2.2.2.2.2.2.2.2.2.2.2.2.2.2
theorem db406 : (decode cX11_penny 11 = .ok (.iload_n 2, 1)) ∧ (decode cX11_penny 12 = .ok (.ireturn, 1)) := by decide +kernel
theorem dX11_penny_11 : decode cX11_penny 11 = .ok (.iload_n 2, 1) := db406.1
theorem dX11_penny_12 : decode cX11_penny 12 = .ok (.ireturn, 1) := db406.2
theorem db407 : (decode cX11_period 0 = .ok (.aload_n 0, 1)) ∧ (decode cX11_period 1 = .ok (.iload_n 1, 1)) ∧ (decode cX11_period 2 = .ok (.iconst 1, 1)) ∧ (decode cX11_period 3 = .ok (.invokevirtual 406, 3)) ∧ (decode cX11_period 6 = .ok (.istore_n 2, 1)) ∧ (decode cX11_period 7 = .ok (.iload_n 2, 1)) ∧ (decode cX11_period 8 = .ok (.ifCond .ge 5, 3)) ∧ (decode cX11_period 13 = .ok (.iconst 1, 1)) ∧ (decode cX11_period 14 = .ok (.istore_n 3, 1)) ∧ (decode cX11_period 15 = .ok (.iload_n 3, 1)) ∧ (decode cX11_period 16 = .ok (.aload_n 0, 1)) ∧ (decode cX11_period 17 = .ok (.getfield 61, 3)) ∧ (decode cX11_period 20 = .ok (.iload_n 1, 1)) ∧ (decode cX11_period 21 = .ok (.iaload, 1)) ∧ (decode cX11_period 22 = .ok (.if_icmp .gt 70, 3)) ∧ (decode cX11_period 92 = .ok (.iconst (-1), 1)) ∧ (decode cX11_period 93 = .ok (.ireturn, 1)) ∧ (decode cX11_period 25 = .ok (.iconst 1, 1)) ∧ (decode cX11_period 26 = .ok (.istore 4, 2)) ∧ (decode cX11_period 28 = .ok (.iload_n 3, 1)) ∧ (decode cX11_period 29 = .ok (.istore 5, 2)) ∧ (decode cX11_period 31 = .ok (.iload 5, 2)) ∧ (decode cX11_period 33 = .ok (.aload_n 0, 1)) ∧ (decode cX11_period 34 = .ok (.getfield 61, 3)) := by decide +kernel
theorem dX11_period_0 : decode cX11_period 0 = .ok (.aload_n 0, 1) := db407.1
theorem dX11_period_1 : decode cX11_period 1 = .ok (.iload_n 1, 1) := db407.2.1
theorem dX11_period_2 : decode cX11_period 2 = .ok (.iconst 1, 1) := db407.2.2.1
theorem dX11_period_3 : decode cX11_period 3 = .ok (.invokevirtual 406, 3) := db407.2.2.2.1
theorem dX11_period_6 : decode cX11_period 6 = .ok (.istore_n 2, 1) := db407.2.2.2.2.1
theorem dX11_period_7 : decode cX11_period 7 = .ok (.iload_n 2, 1) := db407.2.2.2.2.2.1
theorem dX11_period_8 : decode cX11_period 8 = .ok (.ifCond .ge 5, 3) := db407.2.2.2.2.2.2.1
theorem dX11_period_13 : decode cX11_period 13 = .ok (.iconst 1, 1) := db407.2.2.2.2.2.2.2.1
theorem dX11_period_14 : decode cX11_period 14 = .ok (.istore_n 3, 1) := db407.2.2.2.2.2.2.2.2.1
theorem dX11_period_15 : decode cX11_period 15 = .ok (.iload_n 3, 1) := db407.2.2.2.2.2.2.2.2.2.1
theorem dX11_period_16 : decode cX11_period 16 = .ok (.aload_n 0, 1) := db407.2.2.2.2.2.2.2.2.2.2.1
theorem dX11_period_17 : decode cX11_period 17 = .ok (.getfield 61, 3) := db407.2.2.2.2.2.2.2.2.2.2.2.1
theorem dX11_period_20 : decode cX11_period 20 = .ok (.iload_n 1, 1) := db407.2.2.2.2.2.2.2.2.2.2.2.2.1
theorem dX11_period_21 : decode cX11_period 21 = .ok (.iaload, 1) := db407.2.2.2.2.2.2.2.2.2.2.2.2.2.1
theorem dX11_period_22 : decode cX11_period 22 = .ok (.if_icmp .gt 70, 3) := db407.2.2.2.2.2.2.2.2.2.2.2.2.2.2.1
theorem dX11_period_92 : decode cX11_period 92 = .ok (.iconst (-1), 1) := db407.2.2.2.2.2.2.2.2.2.2.2.2.2.2.2.1
theorem dX11_period_93 : decode cX11_period 93 = .ok (.ireturn, 1) := db407.2.2.2.2.2.2.2.2.2.2.2.2.2.2.2.2.1
theorem dX11_period_25 : decode cX11_period 25 = .ok (.iconst 1, 1) := db407.2.2.2.2.2.2.2.2.2.2.2.2.2.2.2.2.2.1
theorem dX11_period_26 : decode cX11_period 26 = .ok (.istore 4, 2) := db407.2.2.2.2.2.2.2.2.2.2.2.2.2.2.2.2.2.2.1
theorem dX11_period_28 : decode cX11_period 28 = .ok (.iload_n 3, 1) := db407.2.2.2.2.2.2.2.2.2.2.2.2.2.2.2.2.2.2.2.1
theorem dX11_period_29 : decode cX11_period 29 = .ok (.istore 5, 2) := db407.2.2.2.2.2.2.2.2.2.2.2.2.2.2.2.2.2.2.2.2.1
theorem dX11_period_31 : decode cX11_period 31 = .ok (.iload 5, 2) := db407.2.2.2.2.2.2.2.2.2.2.2.2.2.2.2.2.2.2.2.2.2.1
theorem dX11_period_33 : decode cX11_period 33 = .ok (.aload_n 0, 1) := db407.2.2.2.2.2.2.2.2.2.2.2.2.2.2.2.2.2.2.2.2.2.2.1
theorem dX11_period_34 : decode cX11_period 34 = .ok (.getfield 61, 3) := db407.2.2.2.2.2.2.2.2.2.2.2.2.2.2.2.2.2.2.2.2.2.2.2
theorem db408 : (decode cX11_period 37 = .ok (.iload_n 1, 1)) ∧ (decode cX11_period 38 = .ok (.iaload, 1)) ∧ (decode cX11_period 79 = .ok (.iload 4, 2)) ∧ (decode cX11_period 81 = .ok (.ifCond .eq 5, 3)) ∧ (decode cX11_period 86 = .ok (.iinc 3 1, 3)) ∧ (decode cX11_period 89 = .ok (.goto (-74), 3)) ∧ (decode cX11_period 84 = .ok (.iload_n 3, 1)) ∧ (decode cX11_period 85 = .ok (.ireturn, 1)) ∧ (decode cX11_period 39 = .ok (.if_icmp .ge 40, 3)) ∧ (decode cX11_period 42 = .ok (.iload 4, 2)) ∧ (decode cX11_period 44 = .ok (.ifCond .eq 35, 3)) ∧ (decode cX11_period 47 = .ok (.aload_n 0, 1)) ∧ (decode cX11_period 48 = .ok (.iload_n 1, 1)) ∧ (decode cX11_period 49 = .ok (.iload 5, 2)) ∧ (decode cX11_period 51 = .ok (.invokevirtual 293, 3)) ∧ (decode cX11_period 54 = .ok (.aload_n 0, 1)) ∧ (decode cX11_period 55 = .ok (.iload_n 1, 1)) ∧ (decode cX11_period 56 = .ok (.iload 5, 2)) ∧ (decode cX11_period 58 = .ok (.iload_n 3, 1)) ∧ (decode cX11_period 59 = .ok (.isub, 1)) ∧ (decode cX11_period 60 = .ok (.invokevirtual 293, 3)) ∧ (decode cX11_period 71 = .ok (.istore 4, 2)) ∧ (decode cX11_period 73 = .ok (.iinc 5 1, 3)) ∧ (decode cX11_period 76 = .ok (.goto (-45), 3)) := by decide +kernel
theorem dX11_period_37 : decode cX11_period 37 = .ok (.iload_n 1, 1) := db408.1
theorem dX11_period_38 : decode cX11_period 38 = .ok (.iaload, 1) := db408.2.1
theorem dX11_period_79 : decode cX11_period 79 = .ok (.iload 4, 2) := db408.2.2.1
theorem dX11_period_81 : decode cX11_period 81 = .ok (.ifCond .eq 5, 3) := db408.2.2.2.1
theorem dX11_period_86 : decode cX11_period 86 = .ok (.iinc 3 1, 3) := db408.2.2.2.2.1
theorem dX11_period_89 : decode cX11_period 89 = .ok (.goto (-74), 3) := db408.2.2.2.2.2.1
theorem dX11_period_84 : decode cX11_period 84 = .ok (.iload_n 3, 1) := db408.2.2.2.2.2.2.1
theorem dX11_period_85 : decode cX11_period 85 = .ok (.ireturn, 1) := db408.2.2.2.2.2.2.2.1
theorem dX11_period_39 : decode cX11_period 39 = .ok (.if_icmp .ge 40, 3) := db408.2.2.2.2.2.2.2.2.1
theorem dX11_period_42 : decode cX11_period 42 = .ok (.iload 4, 2) := db408.2.2.2.2.2.2.2.2.2.1
theorem dX11_period_44 : decode cX11_period 44 = .ok (.ifCond .eq 35, 3) := db408.2.2.2.2.2.2.2.2.2.2.1
theorem dX11_period_47 : decode cX11_period 47 = .ok (.aload_n 0, 1) := db408.2.2.2.2.2.2.2.2.2.2.2.1
theorem dX11_period_48 : decode cX11_period 48 = .ok (.iload_n 1, 1) := db408.2.2.2.2.2.2.2.2.2.2.2.2.1
theorem dX11_period_49 : decode cX11_period 49 = .ok (.iload 5, 2) := db408.2.2.2.2.2.2.2.2.2.2.2.2.2.1
theorem dX11_period_51 : decode cX11_period 51 = .ok (.invokevirtual 293, 3) := db408.2.2.2.2.2.2.2.2.2.2.2.2.2.2.1
theorem dX11_period_54 : decode cX11_period 54 = .ok (.aload_n 0, 1) := db408.2.2.2.2.2.2.2.2.2.2.2.2.2.2.2.1
theorem dX11_period_55 : decode cX11_period 55 = .ok (.iload_n 1, 1) := db408.2.2.2.2.2.2.2.2.2.2.2.2.2.2.2.2.1
theorem dX11_period_56 : decode cX11_period 56 = .ok (.iload 5, 2) := db408.2.2.2.2.2.2.2.2.2.2.2.2.2.2.2.2.2.1
theorem dX11_period_58 : decode cX11_period 58 = .ok (.iload_n 3, 1) := db408.2.2.2.2.2.2.2.2.2.2.2.2.2.2.2.2.2.2.1
theorem dX11_period_59 : decode cX11_period 59 = .ok (.isub, 1) := db408.2.2.2.2.2.2.2.2.2.2.2.2.2.2.2.2.2.2.2.1
theorem dX11_period_60 : decode cX11_period 60 = .ok (.invokevirtual 293, 3) := db408.2.2.2.2.2.2.2.2.2.2.2.2.2.2.2.2.2.2.2.2.1
theorem dX11_period_71 : decode cX11_period 71 = .ok (.istore 4, 2) := db408.2.2.2.2.2.2.2.2.2.2.2.2.2.2.2.2.2.2.2.2.2.1
theorem dX11_period_73 : decode cX11_period 73 = .ok (.iinc 5 1, 3) := db408.2.2.2.2.2.2.2.2.2.2.2.2.2.2.2.2.2.2.2.2.2.2.1
theorem dX11_period_76 : decode cX11_period 76 = .ok (.goto (-45), 3) := db408.2.2.2.2.2.2.2.2.2.2.2.2.2.2.2.2.2.2.2.2.2.2.2
theorem db409 : (decode cX11_period 63 = .ok (.if_icmp .ne 7, 3)) ∧ (decode cX11_period 70 = .ok (.iconst 0, 1)) ∧ (decode cX11_period 66 = .ok (.iconst 1, 1)) ∧ (decode cX11_period 67 = .ok (.goto 4, 3)) ∧ (decode cX11_period 11 = .ok (.iload_n 2, 1)) ∧ (decode cX11_period 12 = .ok (.ireturn, 1)) := by decide +kernel
theorem dX11_period_63 : decode cX11_period 63 = .ok (.if_icmp .ne 7, 3) := db409.1
theorem dX11_period_70 : decode cX11_period 70 = .ok (.iconst 0, 1) := db409.2.1
theorem dX11_period_66 : decode cX11_period 66 = .ok (.iconst 1, 1) := db409.2.2.1
theorem dX11_period_67 : decode cX11_period 67 = .ok (.goto 4, 3) := db409.2.2.2.1
theorem dX11_period_11 : decode cX11_period 11 = .ok (.iload_n 2, 1) := db409.2.2.2.2.1
theorem dX11_period_12 : decode cX11_period 12 = .ok (.ireturn, 1) := db409.2.2.2.2.2
theorem db410 : (decode cX11_question 0 = .ok (.aload_n 0, 1)) ∧ (decode cX11_question 1 = .ok (.iload_n 1, 1)) ∧ (decode cX11_question 2 = .ok (.invokevirtual 375, 3)) ∧ (decode cX11_question 5 = .ok (.ifCond .ne 6, 3)) ∧ (decode cX11_question 11 = .ok (.aload_n 0, 1)) ∧ (decode cX11_question 12 = .ok (.invokevirtual 378, 3)) ∧ (decode cX11_question 15 = .ok (.aload_n 0, 1)) ∧ (decode cX11_question 16 = .ok (.getfield 58, 3)) ∧ (decode cX11_question 19 = .ok (.iload_n 1, 1)) ∧ (decode cX11_question 20 = .ok (.iaload, 1)) ∧ (decode cX11_question 21 = .ok (.ifCond .eq 15, 3)) ∧ (decode cX11_question 36 = .ok (.iconst (-1), 1)) ∧ (decode cX11_question 37 = .ok (.ireturn, 1)) ∧ (decode cX11_question 24 = .ok (.aload_n 0, 1)) ∧ (decode cX11_question 25 = .ok (.getfield 58, 3)) ∧ (decode cX11_question 28 = .ok (.iload_n 1, 1)) ∧ (decode cX11_question 29 = .ok (.iaload, 1)) ∧ (decode cX11_question 30 = .ok (.ldc_w 333, 3)) ∧ (decode cX11_question 33 = .ok (.if_icmp .lt 5, 3)) ∧ (decode cX11_question 38 = .ok (.iconst 0, 1)) ∧ (decode cX11_question 39 = .ok (.istore_n 2, 1)) ∧ (decode cX11_question 40 = .ok (.aload_n 0, 1)) ∧ (decode cX11_question 41 = .ok (.iload_n 1, 1)) ∧ (decode cX11_question 42 = .ok (.iload_n 2, 1)) := by decide +kernel
theorem dX11_question_0 : decode cX11_question 0 = .ok (.aload_n 0, 1) := db410.1
theorem dX11_question_1 : decode cX11_question 1 = .ok (.iload_n 1, 1) := db410.2.1
theorem dX11_question_2 : decode cX11_question 2 = .ok (.invokevirtual 375, 3) := db410.2.2.1
theorem dX11_question_5 : decode cX11_question 5 = .ok (.ifCond .ne 6, 3) := db410.2.2.2.1
theorem dX11_question_11 : decode cX11_question 11 = .ok (.aload_n 0, 1) := db410.2.2.2.2.1
theorem dX11_question_12 : decode cX11_question 12 = .ok (.invokevirtual 378, 3) := db410.2.2.2.2.2.1
theorem dX11_question_15 : decode cX11_question 15 = .ok (.aload_n 0, 1) := db410.2.2.2.2.2.2.1
theorem dX11_question_16 : decode cX11_question 16 = .ok (.getfield 58, 3) := db410.2.2.2.2.2.2.2.1
theorem dX11_question_19 : decode cX11_question 19 = .ok (.iload_n 1, 1) := db410.2.2.2.2.2.2.2.2.1
theorem dX11_question_20 : decode cX11_question 20 = .ok (.iaload, 1) := db410.2.2.2.2.2.2.2.2.2.1
theorem dX11_question_21 : decode cX11_question 21 = .ok (.ifCond .eq 15, 3) := db410.2.2.2.2.2.2.2.2.2.2.1
theorem dX11_question_36 : decode cX11_question 36 = .ok (.iconst (-1), 1) := db410.2.2.2.2.2.2.2.2.2.2.2.1
theorem dX11_question_37 : decode cX11_question 37 = .ok (.ireturn, 1) := db410.2.2.2.2.2.2.2.2.2.2.2.2.1
theorem dX11_question_24 : decode cX11_question 24 = .ok (.aload_n 0, 1) := db410.2.2.2.2.2.2.2.2.2.2.2.2.2.1
theorem dX11_question_25 : decode cX11_question 25 = .ok (.getfield 58, 3) := db410.2.2.2.2.2.2.2.2.2.2.2.2.2.2.1
theorem dX11_question_28 : decode cX11_question 28 = .ok (.iload_n 1, 1) := db410.2.2.2.2.2.2.2.2.2.2.2.2.2.2.2.1
theorem dX11_question_29 : decode cX11_question 29 = .ok (.iaload, 1) := db410.2.2.2.2.2.2.2.2.2.2.2.2.2.2.2.2.1
theorem dX11_question_30 : decode cX11_question 30 = .ok (.ldc_w 333, 3) := db410.2.2.2.2.2.2.2.2.2.2.2.2.2.2.2.2.2.1
theorem dX11_question_33 : decode cX11_question 33 = .ok (.if_icmp .lt 5, 3) := db410.2.2.2.2.2.2.2.2.2.2.2.2.2.2.2.2.2.2.1
theorem dX11_question_38 : decode cX11_question 38 = .ok (.iconst 0, 1) := db410.2.2.2.2.2.2.2.2.2.2.2.2.2.2.2.2.2.2.2.1
theorem dX11_question_39 : decode cX11_question 39 = .ok (.istore_n 2, 1) := db410.2.2.2.2.2.2.2.2.2.2.2.2.2.2.2.2.2.2.2.2.1
theorem dX11_question_40 : decode cX11_question 40 = .ok (.aload_n 0, 1) := db410.2.2.2.2.2.2.2.2.2.2.2.2.2.2.2.2.2.2.2.2.2.1
theorem dX11_question_41 : decode cX11_question 41 = .ok (.iload_n 1, 1) := db410.2.2.2.2.2.2.2.2.2.2.2.2.2.2.2.2.2.2.2.2.2.2.1
theorem dX11_question_42 : decode cX11_question 42 = .ok (.iload_n 2, 1) := db410.2.2.2.2.2.2.2.2.2.2.2.2.2.2.2.2.2.2.2.2.2.2.2
theorem db411 : (decode cX11_question 43 = .ok (.invokevirtual 372, 3)) ∧ (decode cX11_question 46 = .ok (.aload_n 0, 1)) ∧ (decode cX11_question 47 = .ok (.getfield 58, 3)) ∧ (decode cX11_question 50 = .ok (.iload_n 1, 1)) ∧ (decode cX11_question 51 = .ok (.iaload, 1)) ∧ (decode cX11_question 52 = .ok (.if_icmp .eq 9, 3)) ∧ (decode cX11_question 61 = .ok (.iload_n 2, 1)) ∧ (decode cX11_question 62 = .ok (.ireturn, 1)) ∧ (decode cX11_question 55 = .ok (.iinc 2 1, 3)) ∧ (decode cX11_question 58 = .ok (.goto (-18), 3)) ∧ (decode cX11_question 8 = .ok (.bipush (-2), 2)) ∧ (decode cX11_question 10 = .ok (.ireturn, 1)) := by decide +kernel
theorem dX11_question_43 : decode cX11_question 43 = .ok (.invokevirtual 372, 3) := db411.1
theorem dX11_question_46 : decode cX11_question 46 = .ok (.aload_n 0, 1) := db411.2.1
theorem dX11_question_47 : decode cX11_question 47 = .ok (.getfield 58, 3) := db411.2.2.1
theorem dX11_question_50 : decode cX11_question 50 = .ok (.iload_n 1, 1) := db411.2.2.2.1
theorem dX11_question_51 : decode cX11_question 51 = .ok (.iaload, 1) := db411.2.2.2.2.1
theorem dX11_question_52 : decode cX11_question 52 = .ok (.if_icmp .eq 9, 3) := db411.2.2.2.2.2.1
theorem dX11_question_61 : decode cX11_question 61 = .ok (.iload_n 2, 1) := db411.2.2.2.2.2.2.1
theorem dX11_question_62 : decode cX11_question 62 = .ok (.ireturn, 1) := db411.2.2.2.2.2.2.2.1
theorem dX11_question_55 : decode cX11_question 55 = .ok (.iinc 2 1, 3) := db411.2.2.2.2.2.2.2.2.1
theorem dX11_question_58 : decode cX11_question 58 = .ok (.goto (-18), 3) := db411.2.2.2.2.2.2.2.2.2.1
theorem dX11_question_8 : decode cX11_question 8 = .ok (.bipush (-2), 2) := db411.2.2.2.2.2.2.2.2.2.2.1
theorem dX11_question_10 : decode cX11_question 10 = .ok (.ireturn, 1) := db411.2.2.2.2.2.2.2.2.2.2.2
theorem db412 : (decode cX11_quiet 0 = .ok (.aload_n 0, 1)) ∧ (decode cX11_quiet 1 = .ok (.invokevirtual 83, 3)) ∧ (decode cX11_quiet 4 = .ok (.ifCond .eq 15, 3)) ∧ (decode cX11_quiet 19 = .ok (.bipush (-2), 2)) ∧ (decode cX11_quiet 21 = .ok (.ireturn, 1)) ∧ (decode cX11_quiet 7 = .ok (.iload_n 1, 1)) ∧ (decode cX11_quiet 8 = .ok (.i2l, 1)) ∧ (decode cX11_quiet 9 = .ok (.lconst 0, 1)) ∧ (decode cX11_quiet 10 = .ok (.ldc2_w 273, 3)) ∧ (decode cX11_quiet 13 = .ok (.invokestatic 79, 3)) ∧ (decode cX11_quiet 16 = .ok (.ifCond .ne 6, 3)) ∧ (decode cX11_quiet 22 = .ok (.aload_n 0, 1)) ∧ (decode cX11_quiet 23 = .ok (.iload_n 1, 1)) ∧ (decode cX11_quiet 24 = .ok (.invokevirtual 340, 3)) ∧ (decode cX11_quiet 27 = .ok (.iconst (-1), 1)) ∧ (decode cX11_quiet 28 = .ok (.if_icmp .ne 7, 3)) ∧ (decode cX11_quiet 35 = .ok (.aload_n 0, 1)) ∧ (decode cX11_quiet 36 = .ok (.getfield 334, 3)) ∧ (decode cX11_quiet 39 = .ok (.ireturn, 1)) ∧ (decode cX11_quiet 31 = .ok (.iconst (-1), 1)) ∧ (decode cX11_quiet 32 = .ok (.goto 7, 3)) := by decide +kernel
theorem dX11_quiet_0 : decode cX11_quiet 0 = .ok (.aload_n 0, 1) := db412.1
theorem dX11_quiet_1 : decode cX11_quiet 1 = .ok (.invokevirtual 83, 3) := db412.2.1
theorem dX11_quiet_4 : decode cX11_quiet 4 = .ok (.ifCond .eq 15, 3) := db412.2.2.1
theorem dX11_quiet_19 : decode cX11_quiet 19 = .ok (.bipush (-2), 2) := db412.2.2.2.1
theorem dX11_quiet_21 : decode cX11_quiet 21 = .ok (.ireturn, 1) := db412.2.2.2.2.1
theorem dX11_quiet_7 : decode cX11_quiet 7 = .ok (.iload_n 1, 1) := db412.2.2.2.2.2.1
theorem dX11_quiet_8 : decode cX11_quiet 8 = .ok (.i2l, 1) := db412.2.2.2.2.2.2.1
theorem dX11_quiet_9 : decode cX11_quiet 9 = .ok (.lconst 0, 1) := db412.2.2.2.2.2.2.2.1
theorem dX11_quiet_10 : decode cX11_quiet 10 = .ok (.ldc2_w 273, 3) := db412.2.2.2.2.2.2.2.2.1
theorem dX11_quiet_13 : decode cX11_quiet 13 = .ok (.invokestatic 79, 3) := db412.2.2.2.2.2.2.2.2.2.1
theorem dX11_quiet_16 : decode cX11_quiet 16 = .ok (.ifCond .ne 6, 3) := db412.2.2.2.2.2.2.2.2.2.2.1
theorem dX11_quiet_22 : decode cX11_quiet 22 = .ok (.aload_n 0, 1) := db412.2.2.2.2.2.2.2.2.2.2.2.1
theorem dX11_quiet_23 : decode cX11_quiet 23 = .ok (.iload_n 1, 1) := db412.2.2.2.2.2.2.2.2.2.2.2.2.1
theorem dX11_quiet_24 : decode cX11_quiet 24 = .ok (.invokevirtual 340, 3) := db412.2.2.2.2.2.2.2.2.2.2.2.2.2.1
theorem dX11_quiet_27 : decode cX11_quiet 27 = .ok (.iconst (-1), 1) := db412.2.2.2.2.2.2.2.2.2.2.2.2.2.2.1
theorem dX11_quiet_28 : decode cX11_quiet 28 = .ok (.if_icmp .ne 7, 3) := db412.2.2.2.2.2.2.2.2.2.2.2.2.2.2.2.1
theorem dX11_quiet_35 : decode cX11_quiet 35 = .ok (.aload_n 0, 1) := db412.2.2.2.2.2.2.2.2.2.2.2.2.2.2.2.2.1
theorem dX11_quiet_36 : decode cX11_quiet 36 = .ok (.getfield 334, 3) := db412.2.2.2.2.2.2.2.2.2.2.2.2.2.2.2.2.2.1
theorem dX11_quiet_39 : decode cX11_quiet 39 = .ok (.ireturn, 1) := db412.2.2.2.2.2.2.2.2.2.2.2.2.2.2.2.2.2.2.1
theorem dX11_quiet_31 : decode cX11_quiet 31 = .ok (.iconst (-1), 1) := db412.2.2.2.2.2.2.2.2.2.2.2.2.2.2.2.2.2.2.2.1
theorem dX11_quiet_32 : decode cX11_quiet 32 = .ok (.goto 7, 3) := db412.2.2.2.2.2.2.2.2.2.2.2.2.2.2.2.2.2.2.2.2
theorem db413 : (decode cX11_quietBy 0 = .ok (.aload_n 0, 1)) ∧ (decode cX11_quietBy 1 = .ok (.invokevirtual 278, 3)) ∧ (decode cX11_quietBy 4 = .ok (.aload_n 0, 1)) ∧ (decode cX11_quietBy 5 = .ok (.ldc_w 333, 3)) ∧ (decode cX11_quietBy 8 = .ok (.putfield 334, 3)) ∧ (decode cX11_quietBy 11 = .ok (.iconst (-1), 1)) ∧ (decode cX11_quietBy 12 = .ok (.istore_n 2, 1)) ∧ (decode cX11_quietBy 13 = .ok (.iconst 0, 1)) ∧ (decode cX11_quietBy 14 = .ok (.istore_n 3, 1)) ∧ (decode cX11_quietBy 15 = .ok (.iload_n 3, 1)) ∧ (decode cX11_quietBy 16 = .ok (.aload_n 0, 1)) ∧ (decode cX11_quietBy 17 = .ok (.invokevirtual 337, 3)) ∧ (decode cX11_quietBy 20 = .ok (.if_icmp .gt 99, 3)) ∧ (decode cX11_quietBy 119 = .ok (.iload_n 2, 1)) ∧ (decode cX11_quietBy 120 = .ok (.ireturn, 1)) ∧ (decode cX11_quietBy 23 = .ok (.iconst 0, 1)) ∧ (decode cX11_quietBy 24 = .ok (.istore 4, 2)) ∧ (decode cX11_quietBy 26 = .ok (.iconst 0, 1)) ∧ (decode cX11_quietBy 27 = .ok (.istore 5, 2)) ∧ (decode cX11_quietBy 29 = .ok (.iconst 0, 1)) ∧ (decode cX11_quietBy 30 = .ok (.istore 6, 2)) ∧ (decode cX11_quietBy 32 = .ok (.iload 6, 2)) ∧ (decode cX11_quietBy 34 = .ok (.aload_n 0, 1)) ∧ (decode cX11_quietBy 35 = .ok (.getfield 9, 3)) := by decide +kernel
theorem dX11_quietBy_0 : decode cX11_quietBy 0 = .ok (.aload_n 0, 1) := db413.1
theorem dX11_quietBy_1 : decode cX11_quietBy 1 = .ok (.invokevirtual 278, 3) := db413.2.1
theorem dX11_quietBy_4 : decode cX11_quietBy 4 = .ok (.aload_n 0, 1) := db413.2.2.1
theorem dX11_quietBy_5 : decode cX11_quietBy 5 = .ok (.ldc_w 333, 3) := db413.2.2.2.1
theorem dX11_quietBy_8 : decode cX11_quietBy 8 = .ok (.putfield 334, 3) := db413.2.2.2.2.1
theorem dX11_quietBy_11 : decode cX11_quietBy 11 = .ok (.iconst (-1), 1) := db413.2.2.2.2.2.1
theorem dX11_quietBy_12 : decode cX11_quietBy 12 = .ok (.istore_n 2, 1) := db413.2.2.2.2.2.2.1
theorem dX11_quietBy_13 : decode cX11_quietBy 13 = .ok (.iconst 0, 1) := db413.2.2.2.2.2.2.2.1
theorem dX11_quietBy_14 : decode cX11_quietBy 14 = .ok (.istore_n 3, 1) := db413.2.2.2.2.2.2.2.2.1
theorem dX11_quietBy_15 : decode cX11_quietBy 15 = .ok (.iload_n 3, 1) := db413.2.2.2.2.2.2.2.2.2.1
theorem dX11_quietBy_16 : decode cX11_quietBy 16 = .ok (.aload_n 0, 1) := db413.2.2.2.2.2.2.2.2.2.2.1
theorem dX11_quietBy_17 : decode cX11_quietBy 17 = .ok (.invokevirtual 337, 3) := db413.2.2.2.2.2.2.2.2.2.2.2.1
theorem dX11_quietBy_20 : decode cX11_quietBy 20 = .ok (.if_icmp .gt 99, 3) := db413.2.2.2.2.2.2.2.2.2.2.2.2.1
theorem dX11_quietBy_119 : decode cX11_quietBy 119 = .ok (.iload_n 2, 1) := db413.2.2.2.2.2.2.2.2.2.2.2.2.2.1
theorem dX11_quietBy_120 : decode cX11_quietBy 120 = .ok (.ireturn, 1) := db413.2.2.2.2.2.2.2.2.2.2.2.2.2.2.1
theorem dX11_quietBy_23 : decode cX11_quietBy 23 = .ok (.iconst 0, 1) := db413.2.2.2.2.2.2.2.2.2.2.2.2.2.2.2.1
theorem dX11_quietBy_24 : decode cX11_quietBy 24 = .ok (.istore 4, 2) := db413.2.2.2.2.2.2.2.2.2.2.2.2.2.2.2.2.1
theorem dX11_quietBy_26 : decode cX11_quietBy 26 = .ok (.iconst 0, 1) := db413.2.2.2.2.2.2.2.2.2.2.2.2.2.2.2.2.2.1
theorem dX11_quietBy_27 : decode cX11_quietBy 27 = .ok (.istore 5, 2) := db413.2.2.2.2.2.2.2.2.2.2.2.2.2.2.2.2.2.2.1
theorem dX11_quietBy_29 : decode cX11_quietBy 29 = .ok (.iconst 0, 1) := db413.2.2.2.2.2.2.2.2.2.2.2.2.2.2.2.2.2.2.2.1
theorem dX11_quietBy_30 : decode cX11_quietBy 30 = .ok (.istore 6, 2) := db413.2.2.2.2.2.2.2.2.2.2.2.2.2.2.2.2.2.2.2.2.1
theorem dX11_quietBy_32 : decode cX11_quietBy 32 = .ok (.iload 6, 2) := db413.2.2.2.2.2.2.2.2.2.2.2.2.2.2.2.2.2.2.2.2.2.1
theorem dX11_quietBy_34 : decode cX11_quietBy 34 = .ok (.aload_n 0, 1) := db413.2.2.2.2.2.2.2.2.2.2.2.2.2.2.2.2.2.2.2.2.2.2.1
theorem dX11_quietBy_35 : decode cX11_quietBy 35 = .ok (.getfield 9, 3) := db413.2.2.2.2.2.2.2.2.2.2.2.2.2.2.2.2.2.2.2.2.2.2.2
theorem db414 : (decode cX11_quietBy 38 = .ok (.iconst 4, 1)) ∧ (decode cX11_quietBy 39 = .ok (.iaload, 1)) ∧ (decode cX11_quietBy 40 = .ok (.if_icmp .ge 47, 3)) ∧ (decode cX11_quietBy 87 = .ok (.iload 4, 2)) ∧ (decode cX11_quietBy 89 = .ok (.iload_n 1, 1)) ∧ (decode cX11_quietBy 113 = .ok (.iinc 3 1, 3)) ∧ (decode cX11_quietBy 116 = .ok (.goto (-101), 3)) ∧ (decode cX11_quietBy 90 = .ok (.if_icmp .lt 23, 3)) ∧ (decode cX11_quietBy 93 = .ok (.iload 5, 2)) ∧ (decode cX11_quietBy 95 = .ok (.aload_n 0, 1)) ∧ (decode cX11_quietBy 96 = .ok (.getfield 334, 3)) ∧ (decode cX11_quietBy 99 = .ok (.if_icmp .lt 6, 3)) ∧ (decode cX11_quietBy 105 = .ok (.aload_n 0, 1)) ∧ (decode cX11_quietBy 106 = .ok (.iload 5, 2)) ∧ (decode cX11_quietBy 108 = .ok (.putfield 334, 3)) ∧ (decode cX11_quietBy 111 = .ok (.iload_n 3, 1)) ∧ (decode cX11_quietBy 112 = .ok (.istore_n 2, 1)) ∧ (decode cX11_quietBy 102 = .ok (.goto 11, 3)) ∧ (decode cX11_quietBy 43 = .ok (.iload 4, 2)) ∧ (decode cX11_quietBy 45 = .ok (.iload_n 3, 1)) ∧ (decode cX11_quietBy 46 = .ok (.iload 6, 2)) ∧ (decode cX11_quietBy 48 = .ok (.invokestatic 258, 3)) ∧ (decode cX11_quietBy 51 = .ok (.aload_n 0, 1)) ∧ (decode cX11_quietBy 52 = .ok (.iload 6, 2)) := by decide +kernel
theorem dX11_quietBy_38 : decode cX11_quietBy 38 = .ok (.iconst 4, 1) := db414.1
theorem dX11_quietBy_39 : decode cX11_quietBy 39 = .ok (.iaload, 1) := db414.2.1
theorem dX11_quietBy_40 : decode cX11_quietBy 40 = .ok (.if_icmp .ge 47, 3) := db414.2.2.1
theorem dX11_quietBy_87 : decode cX11_quietBy 87 = .ok (.iload 4, 2) := db414.2.2.2.1
theorem dX11_quietBy_89 : decode cX11_quietBy 89 = .ok (.iload_n 1, 1) := db414.2.2.2.2.1
theorem dX11_quietBy_113 : decode cX11_quietBy 113 = .ok (.iinc 3 1, 3) := db414.2.2.2.2.2.1
theorem dX11_quietBy_116 : decode cX11_quietBy 116 = .ok (.goto (-101), 3) := db414.2.2.2.2.2.2.1
theorem dX11_quietBy_90 : decode cX11_quietBy 90 = .ok (.if_icmp .lt 23, 3) := db414.2.2.2.2.2.2.2.1
theorem dX11_quietBy_93 : decode cX11_quietBy 93 = .ok (.iload 5, 2) := db414.2.2.2.2.2.2.2.2.1
theorem dX11_quietBy_95 : decode cX11_quietBy 95 = .ok (.aload_n 0, 1) := db414.2.2.2.2.2.2.2.2.2.1
theorem dX11_quietBy_96 : decode cX11_quietBy 96 = .ok (.getfield 334, 3) := db414.2.2.2.2.2.2.2.2.2.2.1
theorem dX11_quietBy_99 : decode cX11_quietBy 99 = .ok (.if_icmp .lt 6, 3) := db414.2.2.2.2.2.2.2.2.2.2.2.1
theorem dX11_quietBy_105 : decode cX11_quietBy 105 = .ok (.aload_n 0, 1) := db414.2.2.2.2.2.2.2.2.2.2.2.2.1
theorem dX11_quietBy_106 : decode cX11_quietBy 106 = .ok (.iload 5, 2) := db414.2.2.2.2.2.2.2.2.2.2.2.2.2.1
theorem dX11_quietBy_108 : decode cX11_quietBy 108 = .ok (.putfield 334, 3) := db414.2.2.2.2.2.2.2.2.2.2.2.2.2.2.1
theorem dX11_quietBy_111 : decode cX11_quietBy 111 = .ok (.iload_n 3, 1) := db414.2.2.2.2.2.2.2.2.2.2.2.2.2.2.2.1
theorem dX11_quietBy_112 : decode cX11_quietBy 112 = .ok (.istore_n 2, 1) := db414.2.2.2.2.2.2.2.2.2.2.2.2.2.2.2.2.1
theorem dX11_quietBy_102 : decode cX11_quietBy 102 = .ok (.goto 11, 3) := db414.2.2.2.2.2.2.2.2.2.2.2.2.2.2.2.2.2.1
theorem dX11_quietBy_43 : decode cX11_quietBy 43 = .ok (.iload 4, 2) := db414.2.2.2.2.2.2.2.2.2.2.2.2.2.2.2.2.2.2.1
theorem dX11_quietBy_45 : decode cX11_quietBy 45 = .ok (.iload_n 3, 1) := db414.2.2.2.2.2.2.2.2.2.2.2.2.2.2.2.2.2.2.2.1
theorem dX11_quietBy_46 : decode cX11_quietBy 46 = .ok (.iload 6, 2) := db414.2.2.2.2.2.2.2.2.2.2.2.2.2.2.2.2.2.2.2.2.1
theorem dX11_quietBy_48 : decode cX11_quietBy 48 = .ok (.invokestatic 258, 3) := db414.2.2.2.2.2.2.2.2.2.2.2.2.2.2.2.2.2.2.2.2.2.1
theorem dX11_quietBy_51 : decode cX11_quietBy 51 = .ok (.aload_n 0, 1) := db414.2.2.2.2.2.2.2.2.2.2.2.2.2.2.2.2.2.2.2.2.2.2.1
theorem dX11_quietBy_52 : decode cX11_quietBy 52 = .ok (.iload 6, 2) := db414.2.2.2.2.2.2.2.2.2.2.2.2.2.2.2.2.2.2.2.2.2.2.2
theorem db415 : (decode cX11_quietBy 54 = .ok (.iconst 0, 1)) ∧ (decode cX11_quietBy 55 = .ok (.invokevirtual 252, 3)) ∧ (decode cX11_quietBy 58 = .ok (.imul, 1)) ∧ (decode cX11_quietBy 59 = .ok (.iadd, 1)) ∧ (decode cX11_quietBy 60 = .ok (.istore 4, 2)) ∧ (decode cX11_quietBy 62 = .ok (.iload 5, 2)) ∧ (decode cX11_quietBy 64 = .ok (.iload_n 3, 1)) ∧ (decode cX11_quietBy 65 = .ok (.iload 6, 2)) ∧ (decode cX11_quietBy 67 = .ok (.invokestatic 258, 3)) ∧ (decode cX11_quietBy 70 = .ok (.aload_n 0, 1)) ∧ (decode cX11_quietBy 71 = .ok (.iload 6, 2)) ∧ (decode cX11_quietBy 73 = .ok (.iconst 0, 1)) ∧ (decode cX11_quietBy 74 = .ok (.invokevirtual 227, 3)) ∧ (decode cX11_quietBy 77 = .ok (.imul, 1)) ∧ (decode cX11_quietBy 78 = .ok (.iadd, 1)) ∧ (decode cX11_quietBy 79 = .ok (.istore 5, 2)) ∧ (decode cX11_quietBy 81 = .ok (.iinc 6 1, 3)) ∧ (decode cX11_quietBy 84 = .ok (.goto (-52), 3)) := by decide +kernel
theorem dX11_quietBy_54 : decode cX11_quietBy 54 = .ok (.iconst 0, 1) := db415.1
theorem dX11_quietBy_55 : decode cX11_quietBy 55 = .ok (.invokevirtual 252, 3) := db415.2.1
theorem dX11_quietBy_58 : decode cX11_quietBy 58 = .ok (.imul, 1) := db415.2.2.1
theorem dX11_quietBy_59 : decode cX11_quietBy 59 = .ok (.iadd, 1) := db415.2.2.2.1
theorem dX11_quietBy_60 : decode cX11_quietBy 60 = .ok (.istore 4, 2) := db415.2.2.2.2.1
theorem dX11_quietBy_62 : decode cX11_quietBy 62 = .ok (.iload 5, 2) := db415.2.2.2.2.2.1
theorem dX11_quietBy_64 : decode cX11_quietBy 64 = .ok (.iload_n 3, 1) := db415.2.2.2.2.2.2.1
theorem dX11_quietBy_65 : decode cX11_quietBy 65 = .ok (.iload 6, 2) := db415.2.2.2.2.2.2.2.1
theorem dX11_quietBy_67 : decode cX11_quietBy 67 = .ok (.invokestatic 258, 3) := db415.2.2.2.2.2.2.2.2.1
theorem dX11_quietBy_70 : decode cX11_quietBy 70 = .ok (.aload_n 0, 1) := db415.2.2.2.2.2.2.2.2.2.1
theorem dX11_quietBy_71 : decode cX11_quietBy 71 = .ok (.iload 6, 2) := db415.2.2.2.2.2.2.2.2.2.2.1
theorem dX11_quietBy_73 : decode cX11_quietBy 73 = .ok (.iconst 0, 1) := db415.2.2.2.2.2.2.2.2.2.2.2.1
theorem dX11_quietBy_74 : decode cX11_quietBy 74 = .ok (.invokevirtual 227, 3) := db415.2.2.2.2.2.2.2.2.2.2.2.2.1
theorem dX11_quietBy_77 : decode cX11_quietBy 77 = .ok (.imul, 1) := db415.2.2.2.2.2.2.2.2.2.2.2.2.2.1
theorem dX11_quietBy_78 : decode cX11_quietBy 78 = .ok (.iadd, 1) := db415.2.2.2.2.2.2.2.2.2.2.2.2.2.2.1
theorem dX11_quietBy_79 : decode cX11_quietBy 79 = .ok (.istore 5, 2) := db415.2.2.2.2.2.2.2.2.2.2.2.2.2.2.2.1
theorem dX11_quietBy_81 : decode cX11_quietBy 81 = .ok (.iinc 6 1, 3) := db415.2.2.2.2.2.2.2.2.2.2.2.2.2.2.2.2.1
theorem dX11_quietBy_84 : decode cX11_quietBy 84 = .ok (.goto (-52), 3) := db415.2.2.2.2.2.2.2.2.2.2.2.2.2.2.2.2.2
theorem db416 : (decode cX11_quietly 0 = .ok (.aload_n 0, 1)) ∧ (decode cX11_quietly 1 = .ok (.invokevirtual 83, 3)) ∧ (decode cX11_quietly 4 = .ok (.ifCond .eq 23, 3)) ∧ (decode cX11_quietly 27 = .ok (.bipush (-2), 2)) ∧ (decode cX11_quietly 29 = .ok (.ireturn, 1)) ∧ (decode cX11_quietly 7 = .ok (.iload_n 1, 1)) ∧ (decode cX11_quietly 8 = .ok (.i2l, 1)) ∧ (decode cX11_quietly 9 = .ok (.lconst 0, 1)) ∧ (decode cX11_quietly 10 = .ok (.ldc2_w 273, 3)) ∧ (decode cX11_quietly 13 = .ok (.invokestatic 79, 3)) ∧ (decode cX11_quietly 16 = .ok (.ifCond .eq 11, 3)) ∧ (decode cX11_quietly 19 = .ok (.aload_n 0, 1)) ∧ (decode cX11_quietly 20 = .ok (.iload_n 1, 1)) ∧ (decode cX11_quietly 21 = .ok (.invokevirtual 340, 3)) ∧ (decode cX11_quietly 24 = .ok (.goto 5, 3)) := by decide +kernel
theorem dX11_quietly_0 : decode cX11_quietly 0 = .ok (.aload_n 0, 1) := db416.1
theorem dX11_quietly_1 : decode cX11_quietly 1 = .ok (.invokevirtual 83, 3) := db416.2.1
theorem dX11_quietly_4 : decode cX11_quietly 4 = .ok (.ifCond .eq 23, 3) := db416.2.2.1
theorem dX11_quietly_27 : decode cX11_quietly 27 = .ok (.bipush (-2), 2) := db416.2.2.2.1
theorem dX11_quietly_29 : decode cX11_quietly 29 = .ok (.ireturn, 1) := db416.2.2.2.2.1
theorem dX11_quietly_7 : decode cX11_quietly 7 = .ok (.iload_n 1, 1) := db416.2.2.2.2.2.1
theorem dX11_quietly_8 : decode cX11_quietly 8 = .ok (.i2l, 1) := db416.2.2.2.2.2.2.1
theorem dX11_quietly_9 : decode cX11_quietly 9 = .ok (.lconst 0, 1) := db416.2.2.2.2.2.2.2.1
theorem dX11_quietly_10 : decode cX11_quietly 10 = .ok (.ldc2_w 273, 3) := db416.2.2.2.2.2.2.2.2.1
theorem dX11_quietly_13 : decode cX11_quietly 13 = .ok (.invokestatic 79, 3) := db416.2.2.2.2.2.2.2.2.2.1
theorem dX11_quietly_16 : decode cX11_quietly 16 = .ok (.ifCond .eq 11, 3) := db416.2.2.2.2.2.2.2.2.2.2.1
theorem dX11_quietly_19 : decode cX11_quietly 19 = .ok (.aload_n 0, 1) := db416.2.2.2.2.2.2.2.2.2.2.2.1
theorem dX11_quietly_20 : decode cX11_quietly 20 = .ok (.iload_n 1, 1) := db416.2.2.2.2.2.2.2.2.2.2.2.2.1
theorem dX11_quietly_21 : decode cX11_quietly 21 = .ok (.invokevirtual 340, 3) := db416.2.2.2.2.2.2.2.2.2.2.2.2.2.1
theorem dX11_quietly_24 : decode cX11_quietly 24 = .ok (.goto 5, 3) := db416.2.2.2.2.2.2.2.2.2.2.2.2.2.2
theorem db417 : (decode cX11_read 0 = .ok (.aload_n 0, 1)) ∧ (decode cX11_read 1 = .ok (.iload_n 1, 1)) ∧ (decode cX11_read 2 = .ok (.invokevirtual 230, 3)) ∧ (decode cX11_read 5 = .ok (.ifCond .eq 21, 3)) ∧ (decode cX11_read 26 = .ok (.ldc2_w 401, 3)) ∧ (decode cX11_read 29 = .ok (.lreturn, 1)) ∧ (decode cX11_read 8 = .ok (.aload_n 0, 1)) ∧ (decode cX11_read 9 = .ok (.iload_n 2, 1)) ∧ (decode cX11_read 10 = .ok (.invokevirtual 230, 3)) ∧ (decode cX11_read 13 = .ok (.ifCond .eq 13, 3)) ∧ (decode cX11_read 16 = .ok (.iload_n 3, 1)) ∧ (decode cX11_read 17 = .ok (.i2l, 1)) ∧ (decode cX11_read 18 = .ok (.lconst 0, 1)) ∧ (decode cX11_read 19 = .ok (.lconst 1, 1)) ∧ (decode cX11_read 20 = .ok (.invokestatic 79, 3)) ∧ (decode cX11_read 23 = .ok (.ifCond .ne 7, 3)) ∧ (decode cX11_read 30 = .ok (.aload_n 0, 1)) ∧ (decode cX11_read 31 = .ok (.iload_n 2, 1)) ∧ (decode cX11_read 32 = .ok (.invokevirtual 403, 3)) ∧ (decode cX11_read 35 = .ok (.lconst 0, 1)) ∧ (decode cX11_read 36 = .ok (.lcmp, 1)) ∧ (decode cX11_read 37 = .ok (.ifCond .ne 8, 3)) ∧ (decode cX11_read 45 = .ok (.aload_n 0, 1)) ∧ (decode cX11_read 46 = .ok (.iload_n 1, 1)) := by decide +kernel
theorem dX11_read_0 : decode cX11_read 0 = .ok (.aload_n 0, 1) := db417.1
theorem dX11_read_1 : decode cX11_read 1 = .ok (.iload_n 1, 1) := db417.2.1
theorem dX11_read_2 : decode cX11_read 2 = .ok (.invokevirtual 230, 3) := db417.2.2.1
theorem dX11_read_5 : decode cX11_read 5 = .ok (.ifCond .eq 21, 3) := db417.2.2.2.1
theorem dX11_read_26 : decode cX11_read 26 = .ok (.ldc2_w 401, 3) := db417.2.2.2.2.1
theorem dX11_read_29 : decode cX11_read 29 = .ok (.lreturn, 1) := db417.2.2.2.2.2.1
theorem dX11_read_8 : decode cX11_read 8 = .ok (.aload_n 0, 1) := db417.2.2.2.2.2.2.1
theorem dX11_read_9 : decode cX11_read 9 = .ok (.iload_n 2, 1) := db417.2.2.2.2.2.2.2.1
theorem dX11_read_10 : decode cX11_read 10 = .ok (.invokevirtual 230, 3) := db417.2.2.2.2.2.2.2.2.1
theorem dX11_read_13 : decode cX11_read 13 = .ok (.ifCond .eq 13, 3) := db417.2.2.2.2.2.2.2.2.2.1
theorem dX11_read_16 : decode cX11_read 16 = .ok (.iload_n 3, 1) := db417.2.2.2.2.2.2.2.2.2.2.1
theorem dX11_read_17 : decode cX11_read 17 = .ok (.i2l, 1) := db417.2.2.2.2.2.2.2.2.2.2.2.1
theorem dX11_read_18 : decode cX11_read 18 = .ok (.lconst 0, 1) := db417.2.2.2.2.2.2.2.2.2.2.2.2.1
theorem dX11_read_19 : decode cX11_read 19 = .ok (.lconst 1, 1) := db417.2.2.2.2.2.2.2.2.2.2.2.2.2.1
theorem dX11_read_20 : decode cX11_read 20 = .ok (.invokestatic 79, 3) := db417.2.2.2.2.2.2.2.2.2.2.2.2.2.2.1
theorem dX11_read_23 : decode cX11_read 23 = .ok (.ifCond .ne 7, 3) := db417.2.2.2.2.2.2.2.2.2.2.2.2.2.2.2.1
theorem dX11_read_30 : decode cX11_read 30 = .ok (.aload_n 0, 1) := db417.2.2.2.2.2.2.2.2.2.2.2.2.2.2.2.2.1
theorem dX11_read_31 : decode cX11_read 31 = .ok (.iload_n 2, 1) := db417.2.2.2.2.2.2.2.2.2.2.2.2.2.2.2.2.2.1
theorem dX11_read_32 : decode cX11_read 32 = .ok (.invokevirtual 403, 3) := db417.2.2.2.2.2.2.2.2.2.2.2.2.2.2.2.2.2.2.1
theorem dX11_read_35 : decode cX11_read 35 = .ok (.lconst 0, 1) := db417.2.2.2.2.2.2.2.2.2.2.2.2.2.2.2.2.2.2.2.1
theorem dX11_read_36 : decode cX11_read 36 = .ok (.lcmp, 1) := db417.2.2.2.2.2.2.2.2.2.2.2.2.2.2.2.2.2.2.2.2.1
theorem dX11_read_37 : decode cX11_read 37 = .ok (.ifCond .ne 8, 3) := db417.2.2.2.2.2.2.2.2.2.2.2.2.2.2.2.2.2.2.2.2.2.1
theorem dX11_read_45 : decode cX11_read 45 = .ok (.aload_n 0, 1) := db417.2.2.2.2.2.2.2.2.2.2.2.2.2.2.2.2.2.2.2.2.2.2.1
theorem dX11_read_46 : decode cX11_read 46 = .ok (.iload_n 1, 1) := db417.2.2.2.2.2.2.2.2.2.2.2.2.2.2.2.2.2.2.2.2.2.2.2
theorem db418 : (decode cX11_read 47 = .ok (.iload_n 2, 1)) ∧ (decode cX11_read 48 = .ok (.invokevirtual 398, 3)) ∧ (decode cX11_read 51 = .ok (.aload_n 0, 1)) ∧ (decode cX11_read 52 = .ok (.iload_n 2, 1)) ∧ (decode cX11_read 53 = .ok (.invokevirtual 403, 3)) ∧ (decode cX11_read 56 = .ok (.iload_n 3, 1)) ∧ (decode cX11_read 57 = .ok (.invokestatic 388, 3)) ∧ (decode cX11_read 60 = .ok (.lreturn, 1)) ∧ (decode cX11_read 40 = .ok (.iload_n 3, 1)) ∧ (decode cX11_read 41 = .ok (.i2l, 1)) ∧ (decode cX11_read 42 = .ok (.goto 18, 3)) := by decide +kernel
theorem dX11_read_47 : decode cX11_read 47 = .ok (.iload_n 2, 1) := db418.1
theorem dX11_read_48 : decode cX11_read 48 = .ok (.invokevirtual 398, 3) := db418.2.1
theorem dX11_read_51 : decode cX11_read 51 = .ok (.aload_n 0, 1) := db418.2.2.1
theorem dX11_read_52 : decode cX11_read 52 = .ok (.iload_n 2, 1) := db418.2.2.2.1
theorem dX11_read_53 : decode cX11_read 53 = .ok (.invokevirtual 403, 3) := db418.2.2.2.2.1
theorem dX11_read_56 : decode cX11_read 56 = .ok (.iload_n 3, 1) := db418.2.2.2.2.2.1
theorem dX11_read_57 : decode cX11_read 57 = .ok (.invokestatic 388, 3) := db418.2.2.2.2.2.2.1
theorem dX11_read_60 : decode cX11_read 60 = .ok (.lreturn, 1) := db418.2.2.2.2.2.2.2.1
theorem dX11_read_40 : decode cX11_read 40 = .ok (.iload_n 3, 1) := db418.2.2.2.2.2.2.2.2.1
theorem dX11_read_41 : decode cX11_read 41 = .ok (.i2l, 1) := db418.2.2.2.2.2.2.2.2.2.1
theorem dX11_read_42 : decode cX11_read 42 = .ok (.goto 18, 3) := db418.2.2.2.2.2.2.2.2.2.2
theorem db419 : (decode cX11_readDoor 0 = .ok (.aload_n 0, 1)) ∧ (decode cX11_readDoor 1 = .ok (.invokevirtual 177, 3)) ∧ (decode cX11_readDoor 4 = .ok (.istore_n 1, 1)) ∧ (decode cX11_readDoor 5 = .ok (.aload_n 0, 1)) ∧ (decode cX11_readDoor 6 = .ok (.invokevirtual 133, 3)) ∧ (decode cX11_readDoor 33 = .ok (.aload_n 0, 1)) ∧ (decode cX11_readDoor 34 = .ok (.invokevirtual 177, 3)) ∧ (decode cX11_readDoor 37 = .ok (.istore_n 2, 1)) ∧ (decode cX11_readDoor 38 = .ok (.aload_n 0, 1)) ∧ (decode cX11_readDoor 39 = .ok (.invokevirtual 133, 3)) ∧ (decode cX11_readDoor 42 = .ok (.ifCond .ne 4, 3)) ∧ (decode cX11_readDoor 46 = .ok (.aload_n 0, 1)) ∧ (decode cX11_readDoor 47 = .ok (.getfield 31, 3)) ∧ (decode cX11_readDoor 50 = .ok (.bipush 8, 2)) ∧ (decode cX11_readDoor 52 = .ok (.iconst 4, 1)) ∧ (decode cX11_readDoor 53 = .ok (.iload_n 1, 1)) ∧ (decode cX11_readDoor 54 = .ok (.imul, 1)) ∧ (decode cX11_readDoor 55 = .ok (.iadd, 1)) ∧ (decode cX11_readDoor 56 = .ok (.iconst 3, 1)) ∧ (decode cX11_readDoor 57 = .ok (.iadd, 1)) ∧ (decode cX11_readDoor 58 = .ok (.dup2, 1)) ∧ (decode cX11_readDoor 59 = .ok (.iaload, 1)) ∧ (decode cX11_readDoor 60 = .ok (.iconst 1, 1)) ∧ (decode cX11_readDoor 61 = .ok (.iload_n 2, 1)) := by decide +kernel
theorem dX11_readDoor_0 : decode cX11_readDoor 0 = .ok (.aload_n 0, 1) := db419.1
theorem dX11_readDoor_1 : decode cX11_readDoor 1 = .ok (.invokevirtual 177, 3) := db419.2.1
theorem dX11_readDoor_4 : decode cX11_readDoor 4 = .ok (.istore_n 1, 1) := db419.2.2.1
theorem dX11_readDoor_5 : decode cX11_readDoor 5 = .ok (.aload_n 0, 1) := db419.2.2.2.1
theorem dX11_readDoor_6 : decode cX11_readDoor 6 = .ok (.invokevirtual 133, 3) := db419.2.2.2.2.1
theorem dX11_readDoor_33 : decode cX11_readDoor 33 = .ok (.aload_n 0, 1) := db419.2.2.2.2.2.1
theorem dX11_readDoor_34 : decode cX11_readDoor 34 = .ok (.invokevirtual 177, 3) := db419.2.2.2.2.2.2.1
theorem dX11_readDoor_37 : decode cX11_readDoor 37 = .ok (.istore_n 2, 1) := db419.2.2.2.2.2.2.2.1
theorem dX11_readDoor_38 : decode cX11_readDoor 38 = .ok (.aload_n 0, 1) := db419.2.2.2.2.2.2.2.2.1
theorem dX11_readDoor_39 : decode cX11_readDoor 39 = .ok (.invokevirtual 133, 3) := db419.2.2.2.2.2.2.2.2.2.1
theorem dX11_readDoor_42 : decode cX11_readDoor 42 = .ok (.ifCond .ne 4, 3) := db419.2.2.2.2.2.2.2.2.2.2.1
theorem dX11_readDoor_46 : decode cX11_readDoor 46 = .ok (.aload_n 0, 1) := db419.2.2.2.2.2.2.2.2.2.2.2.1
theorem dX11_readDoor_47 : decode cX11_readDoor 47 = .ok (.getfield 31, 3) := db419.2.2.2.2.2.2.2.2.2.2.2.2.1
theorem dX11_readDoor_50 : decode cX11_readDoor 50 = .ok (.bipush 8, 2) := db419.2.2.2.2.2.2.2.2.2.2.2.2.2.1
theorem dX11_readDoor_52 : decode cX11_readDoor 52 = .ok (.iconst 4, 1) := db419.2.2.2.2.2.2.2.2.2.2.2.2.2.2.1
theorem dX11_readDoor_53 : decode cX11_readDoor 53 = .ok (.iload_n 1, 1) := db419.2.2.2.2.2.2.2.2.2.2.2.2.2.2.2.1
theorem dX11_readDoor_54 : decode cX11_readDoor 54 = .ok (.imul, 1) := db419.2.2.2.2.2.2.2.2.2.2.2.2.2.2.2.2.1
theorem dX11_readDoor_55 : decode cX11_readDoor 55 = .ok (.iadd, 1) := db419.2.2.2.2.2.2.2.2.2.2.2.2.2.2.2.2.2.1
theorem dX11_readDoor_56 : decode cX11_readDoor 56 = .ok (.iconst 3, 1) := db419.2.2.2.2.2.2.2.2.2.2.2.2.2.2.2.2.2.2.1
theorem dX11_readDoor_57 : decode cX11_readDoor 57 = .ok (.iadd, 1) := db419.2.2.2.2.2.2.2.2.2.2.2.2.2.2.2.2.2.2.2.1
theorem dX11_readDoor_58 : decode cX11_readDoor 58 = .ok (.dup2, 1) := db419.2.2.2.2.2.2.2.2.2.2.2.2.2.2.2.2.2.2.2.2.1
theorem dX11_readDoor_59 : decode cX11_readDoor 59 = .ok (.iaload, 1) := db419.2.2.2.2.2.2.2.2.2.2.2.2.2.2.2.2.2.2.2.2.2.1
theorem dX11_readDoor_60 : decode cX11_readDoor 60 = .ok (.iconst 1, 1) := db419.2.2.2.2.2.2.2.2.2.2.2.2.2.2.2.2.2.2.2.2.2.2.1
theorem dX11_readDoor_61 : decode cX11_readDoor 61 = .ok (.iload_n 2, 1) := db419.2.2.2.2.2.2.2.2.2.2.2.2.2.2.2.2.2.2.2.2.2.2.2
theorem db420 : (decode cX11_readDoor 62 = .ok (.ishl, 1)) ∧ (decode cX11_readDoor 63 = .ok (.ior, 1)) ∧ (decode cX11_readDoor 64 = .ok (.iastore, 1)) ∧ (decode cX11_readDoor 65 = .ok (.aload_n 0, 1)) ∧ (decode cX11_readDoor 66 = .ok (.getfield 31, 3)) ∧ (decode cX11_readDoor 69 = .ok (.bipush 8, 2)) ∧ (decode cX11_readDoor 71 = .ok (.iconst 4, 1)) ∧ (decode cX11_readDoor 72 = .ok (.iload_n 2, 1)) ∧ (decode cX11_readDoor 73 = .ok (.imul, 1)) ∧ (decode cX11_readDoor 74 = .ok (.iadd, 1)) ∧ (decode cX11_readDoor 75 = .ok (.iconst 3, 1)) ∧ (decode cX11_readDoor 76 = .ok (.iadd, 1)) ∧ (decode cX11_readDoor 77 = .ok (.dup2, 1)) ∧ (decode cX11_readDoor 78 = .ok (.iaload, 1)) ∧ (decode cX11_readDoor 79 = .ok (.iconst 1, 1)) ∧ (decode cX11_readDoor 80 = .ok (.iload_n 1, 1)) ∧ (decode cX11_readDoor 81 = .ok (.ishl, 1)) ∧ (decode cX11_readDoor 82 = .ok (.ior, 1)) ∧ (decode cX11_readDoor 83 = .ok (.iastore, 1)) ∧ (decode cX11_readDoor 84 = .ok (.return_, 1)) ∧ (decode cX11_readDoor 45 = .ok (.return_, 1)) ∧ (decode cX11_readDoor 9 = .ok (.ifCond .eq 24, 3)) ∧ (decode cX11_readDoor 12 = .ok (.aload_n 0, 1)) ∧ (decode cX11_readDoor 13 = .ok (.getfield 109, 3)) := by decide +kernel
theorem dX11_readDoor_62 : decode cX11_readDoor 62 = .ok (.ishl, 1) := db420.1
theorem dX11_readDoor_63 : decode cX11_readDoor 63 = .ok (.ior, 1) := db420.2.1
theorem dX11_readDoor_64 : decode cX11_readDoor 64 = .ok (.iastore, 1) := db420.2.2.1
theorem dX11_readDoor_65 : decode cX11_readDoor 65 = .ok (.aload_n 0, 1) := db420.2.2.2.1
theorem dX11_readDoor_66 : decode cX11_readDoor 66 = .ok (.getfield 31, 3) := db420.2.2.2.2.1
theorem dX11_readDoor_69 : decode cX11_readDoor 69 = .ok (.bipush 8, 2) := db420.2.2.2.2.2.1
theorem dX11_readDoor_71 : decode cX11_readDoor 71 = .ok (.iconst 4, 1) := db420.2.2.2.2.2.2.1
theorem dX11_readDoor_72 : decode cX11_readDoor 72 = .ok (.iload_n 2, 1) := db420.2.2.2.2.2.2.2.1
theorem dX11_readDoor_73 : decode cX11_readDoor 73 = .ok (.imul, 1) := db420.2.2.2.2.2.2.2.2.1
theorem dX11_readDoor_74 : decode cX11_readDoor 74 = .ok (.iadd, 1) := db420.2.2.2.2.2.2.2.2.2.1
theorem dX11_readDoor_75 : decode cX11_readDoor 75 = .ok (.iconst 3, 1) := db420.2.2.2.2.2.2.2.2.2.2.1
theorem dX11_readDoor_76 : decode cX11_readDoor 76 = .ok (.iadd, 1) := db420.2.2.2.2.2.2.2.2.2.2.2.1
theorem dX11_readDoor_77 : decode cX11_readDoor 77 = .ok (.dup2, 1) := db420.2.2.2.2.2.2.2.2.2.2.2.2.1
theorem dX11_readDoor_78 : decode cX11_readDoor 78 = .ok (.iaload, 1) := db420.2.2.2.2.2.2.2.2.2.2.2.2.2.1
theorem dX11_readDoor_79 : decode cX11_readDoor 79 = .ok (.iconst 1, 1) := db420.2.2.2.2.2.2.2.2.2.2.2.2.2.2.1
theorem dX11_readDoor_80 : decode cX11_readDoor 80 = .ok (.iload_n 1, 1) := db420.2.2.2.2.2.2.2.2.2.2.2.2.2.2.2.1
theorem dX11_readDoor_81 : decode cX11_readDoor 81 = .ok (.ishl, 1) := db420.2.2.2.2.2.2.2.2.2.2.2.2.2.2.2.2.1
theorem dX11_readDoor_82 : decode cX11_readDoor 82 = .ok (.ior, 1) := db420.2.2.2.2.2.2.2.2.2.2.2.2.2.2.2.2.2.1
theorem dX11_readDoor_83 : decode cX11_readDoor 83 = .ok (.iastore, 1) := db420.2.2.2.2.2.2.2.2.2.2.2.2.2.2.2.2.2.2.1
theorem dX11_readDoor_84 : decode cX11_readDoor 84 = .ok (.return_, 1) := db420.2.2.2.2.2.2.2.2.2.2.2.2.2.2.2.2.2.2.2.1
theorem dX11_readDoor_45 : decode cX11_readDoor 45 = .ok (.return_, 1) := db420.2.2.2.2.2.2.2.2.2.2.2.2.2.2.2.2.2.2.2.2.1
theorem dX11_readDoor_9 : decode cX11_readDoor 9 = .ok (.ifCond .eq 24, 3) := db420.2.2.2.2.2.2.2.2.2.2.2.2.2.2.2.2.2.2.2.2.2.1
theorem dX11_readDoor_12 : decode cX11_readDoor 12 = .ok (.aload_n 0, 1) := db420.2.2.2.2.2.2.2.2.2.2.2.2.2.2.2.2.2.2.2.2.2.2.1
theorem dX11_readDoor_13 : decode cX11_readDoor 13 = .ok (.getfield 109, 3) := db420.2.2.2.2.2.2.2.2.2.2.2.2.2.2.2.2.2.2.2.2.2.2.2
theorem db421 : (decode cX11_readDoor 16 = .ok (.iconst 2, 1)) ∧ (decode cX11_readDoor 17 = .ok (.if_icmp .ne 16, 3)) ∧ (decode cX11_readDoor 20 = .ok (.aload_n 0, 1)) ∧ (decode cX11_readDoor 21 = .ok (.getfield 120, 3)) ∧ (decode cX11_readDoor 24 = .ok (.iload_n 1, 1)) ∧ (decode cX11_readDoor 25 = .ok (.if_icmp .ne 8, 3)) ∧ (decode cX11_readDoor 28 = .ok (.aload_n 0, 1)) ∧ (decode cX11_readDoor 29 = .ok (.iconst 2, 1)) ∧ (decode cX11_readDoor 30 = .ok (.invokevirtual 156, 3)) := by decide +kernel
theorem dX11_readDoor_16 : decode cX11_readDoor 16 = .ok (.iconst 2, 1) := db421.1
theorem dX11_readDoor_17 : decode cX11_readDoor 17 = .ok (.if_icmp .ne 16, 3) := db421.2.1
theorem dX11_readDoor_20 : decode cX11_readDoor 20 = .ok (.aload_n 0, 1) := db421.2.2.1
theorem dX11_readDoor_21 : decode cX11_readDoor 21 = .ok (.getfield 120, 3) := db421.2.2.2.1
theorem dX11_readDoor_24 : decode cX11_readDoor 24 = .ok (.iload_n 1, 1) := db421.2.2.2.2.1
theorem dX11_readDoor_25 : decode cX11_readDoor 25 = .ok (.if_icmp .ne 8, 3) := db421.2.2.2.2.2.1
theorem dX11_readDoor_28 : decode cX11_readDoor 28 = .ok (.aload_n 0, 1) := db421.2.2.2.2.2.2.1
theorem dX11_readDoor_29 : decode cX11_readDoor 29 = .ok (.iconst 2, 1) := db421.2.2.2.2.2.2.2.1
theorem dX11_readDoor_30 : decode cX11_readDoor 30 = .ok (.invokevirtual 156, 3) := db421.2.2.2.2.2.2.2.2
theorem db422 : (decode cX11_readLine 0 = .ok (.aload_n 0, 1)) ∧ (decode cX11_readLine 1 = .ok (.getfield 31, 3)) ∧ (decode cX11_readLine 4 = .ok (.bipush 6, 2)) ∧ (decode cX11_readLine 6 = .ok (.iaload, 1)) ∧ (decode cX11_readLine 85 = .ok (.aload_n 0, 1)) ∧ (decode cX11_readLine 86 = .ok (.invokevirtual 133, 3)) ∧ (decode cX11_readLine 105 = .ok (.aload_n 0, 1)) ∧ (decode cX11_readLine 106 = .ok (.invokevirtual 133, 3)) ∧ (decode cX11_readLine 116 = .ok (.aload_n 0, 1)) ∧ (decode cX11_readLine 117 = .ok (.getfield 31, 3)) ∧ (decode cX11_readLine 120 = .ok (.bipush 6, 2)) ∧ (decode cX11_readLine 122 = .ok (.dup2, 1)) ∧ (decode cX11_readLine 123 = .ok (.iaload, 1)) ∧ (decode cX11_readLine 124 = .ok (.iconst 1, 1)) ∧ (decode cX11_readLine 125 = .ok (.iadd, 1)) ∧ (decode cX11_readLine 126 = .ok (.iastore, 1)) ∧ (decode cX11_readLine 127 = .ok (.return_, 1)) ∧ (decode cX11_readLine 109 = .ok (.ifCond .eq 7, 3)) ∧ (decode cX11_readLine 112 = .ok (.aload_n 0, 1)) ∧ (decode cX11_readLine 113 = .ok (.invokevirtual 150, 3)) ∧ (decode cX11_readLine 89 = .ok (.ifCond .eq 16, 3)) ∧ (decode cX11_readLine 92 = .ok (.aload_n 0, 1)) ∧ (decode cX11_readLine 93 = .ok (.getfield 109, 3)) ∧ (decode cX11_readLine 96 = .ok (.iconst 3, 1)) := by decide +kernel
theorem dX11_readLine_0 : decode cX11_readLine 0 = .ok (.aload_n 0, 1) := db422.1
theorem dX11_readLine_1 : decode cX11_readLine 1 = .ok (.getfield 31, 3) := db422.2.1
theorem dX11_readLine_4 : decode cX11_readLine 4 = .ok (.bipush 6, 2) := db422.2.2.1
theorem dX11_readLine_6 : decode cX11_readLine 6 = .ok (.iaload, 1) := db422.2.2.2.1
theorem dX11_readLine_85 : decode cX11_readLine 85 = .ok (.aload_n 0, 1) := db422.2.2.2.2.1
theorem dX11_readLine_86 : decode cX11_readLine 86 = .ok (.invokevirtual 133, 3) := db422.2.2.2.2.2.1
theorem dX11_readLine_105 : decode cX11_readLine 105 = .ok (.aload_n 0, 1) := db422.2.2.2.2.2.2.1
theorem dX11_readLine_106 : decode cX11_readLine 106 = .ok (.invokevirtual 133, 3) := db422.2.2.2.2.2.2.2.1
theorem dX11_readLine_116 : decode cX11_readLine 116 = .ok (.aload_n 0, 1) := db422.2.2.2.2.2.2.2.2.1
theorem dX11_readLine_117 : decode cX11_readLine 117 = .ok (.getfield 31, 3) := db422.2.2.2.2.2.2.2.2.2.1
theorem dX11_readLine_120 : decode cX11_readLine 120 = .ok (.bipush 6, 2) := db422.2.2.2.2.2.2.2.2.2.2.1
theorem dX11_readLine_122 : decode cX11_readLine 122 = .ok (.dup2, 1) := db422.2.2.2.2.2.2.2.2.2.2.2.1
theorem dX11_readLine_123 : decode cX11_readLine 123 = .ok (.iaload, 1) := db422.2.2.2.2.2.2.2.2.2.2.2.2.1
theorem dX11_readLine_124 : decode cX11_readLine 124 = .ok (.iconst 1, 1) := db422.2.2.2.2.2.2.2.2.2.2.2.2.2.1
theorem dX11_readLine_125 : decode cX11_readLine 125 = .ok (.iadd, 1) := db422.2.2.2.2.2.2.2.2.2.2.2.2.2.2.1
theorem dX11_readLine_126 : decode cX11_readLine 126 = .ok (.iastore, 1) := db422.2.2.2.2.2.2.2.2.2.2.2.2.2.2.2.1
theorem dX11_readLine_127 : decode cX11_readLine 127 = .ok (.return_, 1) := db422.2.2.2.2.2.2.2.2.2.2.2.2.2.2.2.2.1
theorem dX11_readLine_109 : decode cX11_readLine 109 = .ok (.ifCond .eq 7, 3) := db422.2.2.2.2.2.2.2.2.2.2.2.2.2.2.2.2.2.1
theorem dX11_readLine_112 : decode cX11_readLine 112 = .ok (.aload_n 0, 1) := db422.2.2.2.2.2.2.2.2.2.2.2.2.2.2.2.2.2.2.1
theorem dX11_readLine_113 : decode cX11_readLine 113 = .ok (.invokevirtual 150, 3) := db422.2.2.2.2.2.2.2.2.2.2.2.2.2.2.2.2.2.2.2.1
theorem dX11_readLine_89 : decode cX11_readLine 89 = .ok (.ifCond .eq 16, 3) := db422.2.2.2.2.2.2.2.2.2.2.2.2.2.2.2.2.2.2.2.2.1
theorem dX11_readLine_92 : decode cX11_readLine 92 = .ok (.aload_n 0, 1) := db422.2.2.2.2.2.2.2.2.2.2.2.2.2.2.2.2.2.2.2.2.2.1
theorem dX11_readLine_93 : decode cX11_readLine 93 = .ok (.getfield 109, 3) := db422.2.2.2.2.2.2.2.2.2.2.2.2.2.2.2.2.2.2.2.2.2.2.1
theorem dX11_readLine_96 : decode cX11_readLine 96 = .ok (.iconst 3, 1) := db422.2.2.2.2.2.2.2.2.2.2.2.2.2.2.2.2.2.2.2.2.2.2.2
theorem db423 : (decode cX11_readLine 97 = .ok (.if_icmp .eq 8, 3)) ∧ (decode cX11_readLine 100 = .ok (.aload_n 0, 1)) ∧ (decode cX11_readLine 101 = .ok (.iconst 1, 1)) ∧ (decode cX11_readLine 102 = .ok (.invokevirtual 156, 3)) ∧ (decode cX11_readLine 7 = .ok (.ifCond .ne 74, 3)) ∧ (decode cX11_readLine 81 = .ok (.aload_n 0, 1)) ∧ (decode cX11_readLine 82 = .ok (.invokevirtual 219, 3)) ∧ (decode cX11_readLine 10 = .ok (.aload_n 0, 1)) ∧ (decode cX11_readLine 11 = .ok (.ldc 209, 2)) ∧ (decode cX11_readLine 13 = .ok (.invokevirtual 160, 3)) ∧ (decode cX11_readLine 16 = .ok (.aload_n 0, 1)) ∧ (decode cX11_readLine 17 = .ok (.getfield 31, 3)) ∧ (decode cX11_readLine 20 = .ok (.iconst 0, 1)) ∧ (decode cX11_readLine 21 = .ok (.aload_n 0, 1)) ∧ (decode cX11_readLine 22 = .ok (.ldc 211, 2)) ∧ (decode cX11_readLine 24 = .ok (.iconst 0, 1)) ∧ (decode cX11_readLine 25 = .ok (.bipush 100, 2)) ∧ (decode cX11_readLine 27 = .ok (.invokevirtual 169, 3)) ∧ (decode cX11_readLine 30 = .ok (.iastore, 1)) ∧ (decode cX11_readLine 31 = .ok (.aload_n 0, 1)) ∧ (decode cX11_readLine 32 = .ok (.getfield 31, 3)) ∧ (decode cX11_readLine 35 = .ok (.iconst 1, 1)) ∧ (decode cX11_readLine 36 = .ok (.aload_n 0, 1)) ∧ (decode cX11_readLine 37 = .ok (.ldc 213, 2)) := by decide +kernel
theorem dX11_readLine_97 : decode cX11_readLine 97 = .ok (.if_icmp .eq 8, 3) := db423.1
theorem dX11_readLine_100 : decode cX11_readLine 100 = .ok (.aload_n 0, 1) := db423.2.1
theorem dX11_readLine_101 : decode cX11_readLine 101 = .ok (.iconst 1, 1) := db423.2.2.1
theorem dX11_readLine_102 : decode cX11_readLine 102 = .ok (.invokevirtual 156, 3) := db423.2.2.2.1
theorem dX11_readLine_7 : decode cX11_readLine 7 = .ok (.ifCond .ne 74, 3) := db423.2.2.2.2.1
theorem dX11_readLine_81 : decode cX11_readLine 81 = .ok (.aload_n 0, 1) := db423.2.2.2.2.2.1
theorem dX11_readLine_82 : decode cX11_readLine 82 = .ok (.invokevirtual 219, 3) := db423.2.2.2.2.2.2.1
theorem dX11_readLine_10 : decode cX11_readLine 10 = .ok (.aload_n 0, 1) := db423.2.2.2.2.2.2.2.1
theorem dX11_readLine_11 : decode cX11_readLine 11 = .ok (.ldc 209, 2) := db423.2.2.2.2.2.2.2.2.1
theorem dX11_readLine_13 : decode cX11_readLine 13 = .ok (.invokevirtual 160, 3) := db423.2.2.2.2.2.2.2.2.2.1
theorem dX11_readLine_16 : decode cX11_readLine 16 = .ok (.aload_n 0, 1) := db423.2.2.2.2.2.2.2.2.2.2.1
theorem dX11_readLine_17 : decode cX11_readLine 17 = .ok (.getfield 31, 3) := db423.2.2.2.2.2.2.2.2.2.2.2.1
theorem dX11_readLine_20 : decode cX11_readLine 20 = .ok (.iconst 0, 1) := db423.2.2.2.2.2.2.2.2.2.2.2.2.1
theorem dX11_readLine_21 : decode cX11_readLine 21 = .ok (.aload_n 0, 1) := db423.2.2.2.2.2.2.2.2.2.2.2.2.2.1
theorem dX11_readLine_22 : decode cX11_readLine 22 = .ok (.ldc 211, 2) := db423.2.2.2.2.2.2.2.2.2.2.2.2.2.2.1
theorem dX11_readLine_24 : decode cX11_readLine 24 = .ok (.iconst 0, 1) := db423.2.2.2.2.2.2.2.2.2.2.2.2.2.2.2.1
theorem dX11_readLine_25 : decode cX11_readLine 25 = .ok (.bipush 100, 2) := db423.2.2.2.2.2.2.2.2.2.2.2.2.2.2.2.2.1
theorem dX11_readLine_27 : decode cX11_readLine 27 = .ok (.invokevirtual 169, 3) := db423.2.2.2.2.2.2.2.2.2.2.2.2.2.2.2.2.2.1
theorem dX11_readLine_30 : decode cX11_readLine 30 = .ok (.iastore, 1) := db423.2.2.2.2.2.2.2.2.2.2.2.2.2.2.2.2.2.2.1
theorem dX11_readLine_31 : decode cX11_readLine 31 = .ok (.aload_n 0, 1) := db423.2.2.2.2.2.2.2.2.2.2.2.2.2.2.2.2.2.2.2.1
theorem dX11_readLine_32 : decode cX11_readLine 32 = .ok (.getfield 31, 3) := db423.2.2.2.2.2.2.2.2.2.2.2.2.2.2.2.2.2.2.2.2.1
theorem dX11_readLine_35 : decode cX11_readLine 35 = .ok (.iconst 1, 1) := db423.2.2.2.2.2.2.2.2.2.2.2.2.2.2.2.2.2.2.2.2.2.1
theorem dX11_readLine_36 : decode cX11_readLine 36 = .ok (.aload_n 0, 1) := db423.2.2.2.2.2.2.2.2.2.2.2.2.2.2.2.2.2.2.2.2.2.2.1
theorem dX11_readLine_37 : decode cX11_readLine 37 = .ok (.ldc 213, 2) := db423.2.2.2.2.2.2.2.2.2.2.2.2.2.2.2.2.2.2.2.2.2.2.2
theorem db424 : (decode cX11_readLine 39 = .ok (.iconst 0, 1)) ∧ (decode cX11_readLine 40 = .ok (.bipush 100, 2)) ∧ (decode cX11_readLine 42 = .ok (.invokevirtual 169, 3)) ∧ (decode cX11_readLine 45 = .ok (.iastore, 1)) ∧ (decode cX11_readLine 46 = .ok (.aload_n 0, 1)) ∧ (decode cX11_readLine 47 = .ok (.getfield 31, 3)) ∧ (decode cX11_readLine 50 = .ok (.iconst 2, 1)) ∧ (decode cX11_readLine 51 = .ok (.aload_n 0, 1)) ∧ (decode cX11_readLine 52 = .ok (.ldc 215, 2)) ∧ (decode cX11_readLine 54 = .ok (.iconst 0, 1)) ∧ (decode cX11_readLine 55 = .ok (.sipush 999, 3)) ∧ (decode cX11_readLine 58 = .ok (.invokevirtual 169, 3)) ∧ (decode cX11_readLine 61 = .ok (.iastore, 1)) ∧ (decode cX11_readLine 62 = .ok (.aload_n 0, 1)) ∧ (decode cX11_readLine 63 = .ok (.getfield 31, 3)) ∧ (decode cX11_readLine 66 = .ok (.iconst 3, 1)) ∧ (decode cX11_readLine 67 = .ok (.aload_n 0, 1)) ∧ (decode cX11_readLine 68 = .ok (.ldc 217, 2)) ∧ (decode cX11_readLine 70 = .ok (.iconst 0, 1)) ∧ (decode cX11_readLine 71 = .ok (.sipush 999, 3)) ∧ (decode cX11_readLine 74 = .ok (.invokevirtual 169, 3)) ∧ (decode cX11_readLine 77 = .ok (.iastore, 1)) ∧ (decode cX11_readLine 78 = .ok (.goto 7, 3)) := by decide +kernel
theorem dX11_readLine_39 : decode cX11_readLine 39 = .ok (.iconst 0, 1) := db424.1
theorem dX11_readLine_40 : decode cX11_readLine 40 = .ok (.bipush 100, 2) := db424.2.1
theorem dX11_readLine_42 : decode cX11_readLine 42 = .ok (.invokevirtual 169, 3) := db424.2.2.1
theorem dX11_readLine_45 : decode cX11_readLine 45 = .ok (.iastore, 1) := db424.2.2.2.1
theorem dX11_readLine_46 : decode cX11_readLine 46 = .ok (.aload_n 0, 1) := db424.2.2.2.2.1
theorem dX11_readLine_47 : decode cX11_readLine 47 = .ok (.getfield 31, 3) := db424.2.2.2.2.2.1
theorem dX11_readLine_50 : decode cX11_readLine 50 = .ok (.iconst 2, 1) := db424.2.2.2.2.2.2.1
theorem dX11_readLine_51 : decode cX11_readLine 51 = .ok (.aload_n 0, 1) := db424.2.2.2.2.2.2.2.1
theorem dX11_readLine_52 : decode cX11_readLine 52 = .ok (.ldc 215, 2) := db424.2.2.2.2.2.2.2.2.1
theorem dX11_readLine_54 : decode cX11_readLine 54 = .ok (.iconst 0, 1) := db424.2.2.2.2.2.2.2.2.2.1
theorem dX11_readLine_55 : decode cX11_readLine 55 = .ok (.sipush 999, 3) := db424.2.2.2.2.2.2.2.2.2.2.1
theorem dX11_readLine_58 : decode cX11_readLine 58 = .ok (.invokevirtual 169, 3) := db424.2.2.2.2.2.2.2.2.2.2.2.1
theorem dX11_readLine_61 : decode cX11_readLine 61 = .ok (.iastore, 1) := db424.2.2.2.2.2.2.2.2.2.2.2.2.1
theorem dX11_readLine_62 : decode cX11_readLine 62 = .ok (.aload_n 0, 1) := db424.2.2.2.2.2.2.2.2.2.2.2.2.2.1
theorem dX11_readLine_63 : decode cX11_readLine 63 = .ok (.getfield 31, 3) := db424.2.2.2.2.2.2.2.2.2.2.2.2.2.2.1
theorem dX11_readLine_66 : decode cX11_readLine 66 = .ok (.iconst 3, 1) := db424.2.2.2.2.2.2.2.2.2.2.2.2.2.2.2.1
theorem dX11_readLine_67 : decode cX11_readLine 67 = .ok (.aload_n 0, 1) := db424.2.2.2.2.2.2.2.2.2.2.2.2.2.2.2.2.1
theorem dX11_readLine_68 : decode cX11_readLine 68 = .ok (.ldc 217, 2) := db424.2.2.2.2.2.2.2.2.2.2.2.2.2.2.2.2.2.1
theorem dX11_readLine_70 : decode cX11_readLine 70 = .ok (.iconst 0, 1) := db424.2.2.2.2.2.2.2.2.2.2.2.2.2.2.2.2.2.2.1
theorem dX11_readLine_71 : decode cX11_readLine 71 = .ok (.sipush 999, 3) := db424.2.2.2.2.2.2.2.2.2.2.2.2.2.2.2.2.2.2.2.1
theorem dX11_readLine_74 : decode cX11_readLine 74 = .ok (.invokevirtual 169, 3) := db424.2.2.2.2.2.2.2.2.2.2.2.2.2.2.2.2.2.2.2.2.1
theorem dX11_readLine_77 : decode cX11_readLine 77 = .ok (.iastore, 1) := db424.2.2.2.2.2.2.2.2.2.2.2.2.2.2.2.2.2.2.2.2.2.1
theorem dX11_readLine_78 : decode cX11_readLine 78 = .ok (.goto 7, 3) := db424.2.2.2.2.2.2.2.2.2.2.2.2.2.2.2.2.2.2.2.2.2.2
theorem db425 : (decode cX11_readMan 0 = .ok (.aload_n 0, 1)) ∧ (decode cX11_readMan 1 = .ok (.getfield 31, 3)) ∧ (decode cX11_readMan 4 = .ok (.iconst 5, 1)) ∧ (decode cX11_readMan 5 = .ok (.iaload, 1)) ∧ (decode cX11_readMan 6 = .ok (.istore_n 1, 1)) ∧ (decode cX11_readMan 7 = .ok (.bipush 36, 2)) ∧ (decode cX11_readMan 9 = .ok (.bipush 8, 2)) ∧ (decode cX11_readMan 11 = .ok (.iload_n 1, 1)) ∧ (decode cX11_readMan 12 = .ok (.imul, 1)) ∧ (decode cX11_readMan 13 = .ok (.iadd, 1)) ∧ (decode cX11_readMan 14 = .ok (.istore_n 2, 1)) ∧ (decode cX11_readMan 15 = .ok (.aload_n 0, 1)) ∧ (decode cX11_readMan 16 = .ok (.getfield 31, 3)) ∧ (decode cX11_readMan 19 = .ok (.iload_n 2, 1)) ∧ (decode cX11_readMan 20 = .ok (.iconst 0, 1)) ∧ (decode cX11_readMan 21 = .ok (.iadd, 1)) ∧ (decode cX11_readMan 22 = .ok (.aload_n 0, 1)) ∧ (decode cX11_readMan 23 = .ok (.ldc 180, 2)) ∧ (decode cX11_readMan 25 = .ok (.iconst 1, 1)) ∧ (decode cX11_readMan 26 = .ok (.bipush 99, 2)) ∧ (decode cX11_readMan 28 = .ok (.invokevirtual 169, 3)) ∧ (decode cX11_readMan 31 = .ok (.iastore, 1)) ∧ (decode cX11_readMan 32 = .ok (.iconst 0, 1)) ∧ (decode cX11_readMan 33 = .ok (.istore_n 3, 1)) := by decide +kernel
theorem dX11_readMan_0 : decode cX11_readMan 0 = .ok (.aload_n 0, 1) := db425.1
theorem dX11_readMan_1 : decode cX11_readMan 1 = .ok (.getfield 31, 3) := db425.2.1
theorem dX11_readMan_4 : decode cX11_readMan 4 = .ok (.iconst 5, 1) := db425.2.2.1
theorem dX11_readMan_5 : decode cX11_readMan 5 = .ok (.iaload, 1) := db425.2.2.2.1
theorem dX11_readMan_6 : decode cX11_readMan 6 = .ok (.istore_n 1, 1) := db425.2.2.2.2.1
theorem dX11_readMan_7 : decode cX11_readMan 7 = .ok (.bipush 36, 2) := db425.2.2.2.2.2.1
theorem dX11_readMan_9 : decode cX11_readMan 9 = .ok (.bipush 8, 2) := db425.2.2.2.2.2.2.1
theorem dX11_readMan_11 : decode cX11_readMan 11 = .ok (.iload_n 1, 1) := db425.2.2.2.2.2.2.2.1
theorem dX11_readMan_12 : decode cX11_readMan 12 = .ok (.imul, 1) := db425.2.2.2.2.2.2.2.2.1
theorem dX11_readMan_13 : decode cX11_readMan 13 = .ok (.iadd, 1) := db425.2.2.2.2.2.2.2.2.2.1
theorem dX11_readMan_14 : decode cX11_readMan 14 = .ok (.istore_n 2, 1) := db425.2.2.2.2.2.2.2.2.2.2.1
theorem dX11_readMan_15 : decode cX11_readMan 15 = .ok (.aload_n 0, 1) := db425.2.2.2.2.2.2.2.2.2.2.2.1
theorem dX11_readMan_16 : decode cX11_readMan 16 = .ok (.getfield 31, 3) := db425.2.2.2.2.2.2.2.2.2.2.2.2.1
theorem dX11_readMan_19 : decode cX11_readMan 19 = .ok (.iload_n 2, 1) := db425.2.2.2.2.2.2.2.2.2.2.2.2.2.1
theorem dX11_readMan_20 : decode cX11_readMan 20 = .ok (.iconst 0, 1) := db425.2.2.2.2.2.2.2.2.2.2.2.2.2.2.1
theorem dX11_readMan_21 : decode cX11_readMan 21 = .ok (.iadd, 1) := db425.2.2.2.2.2.2.2.2.2.2.2.2.2.2.2.1
theorem dX11_readMan_22 : decode cX11_readMan 22 = .ok (.aload_n 0, 1) := db425.2.2.2.2.2.2.2.2.2.2.2.2.2.2.2.2.1
theorem dX11_readMan_23 : decode cX11_readMan 23 = .ok (.ldc 180, 2) := db425.2.2.2.2.2.2.2.2.2.2.2.2.2.2.2.2.2.1
theorem dX11_readMan_25 : decode cX11_readMan 25 = .ok (.iconst 1, 1) := db425.2.2.2.2.2.2.2.2.2.2.2.2.2.2.2.2.2.2.1
theorem dX11_readMan_26 : decode cX11_readMan 26 = .ok (.bipush 99, 2) := db425.2.2.2.2.2.2.2.2.2.2.2.2.2.2.2.2.2.2.2.1
theorem dX11_readMan_28 : decode cX11_readMan 28 = .ok (.invokevirtual 169, 3) := db425.2.2.2.2.2.2.2.2.2.2.2.2.2.2.2.2.2.2.2.2.1
theorem dX11_readMan_31 : decode cX11_readMan 31 = .ok (.iastore, 1) := db425.2.2.2.2.2.2.2.2.2.2.2.2.2.2.2.2.2.2.2.2.2.1
theorem dX11_readMan_32 : decode cX11_readMan 32 = .ok (.iconst 0, 1) := db425.2.2.2.2.2.2.2.2.2.2.2.2.2.2.2.2.2.2.2.2.2.2.1
theorem dX11_readMan_33 : decode cX11_readMan 33 = .ok (.istore_n 3, 1) := db425.2.2.2.2.2.2.2.2.2.2.2.2.2.2.2.2.2.2.2.2.2.2.2
theorem db426 : (decode cX11_readMan 34 = .ok (.aload_n 0, 1)) ∧ (decode cX11_readMan 35 = .ok (.ldc 182, 2)) ∧ (decode cX11_readMan 37 = .ok (.invokevirtual 153, 3)) ∧ (decode cX11_readMan 74 = .ok (.aload_n 0, 1)) ∧ (decode cX11_readMan 75 = .ok (.getfield 31, 3)) ∧ (decode cX11_readMan 78 = .ok (.iload_n 2, 1)) ∧ (decode cX11_readMan 79 = .ok (.iconst 1, 1)) ∧ (decode cX11_readMan 80 = .ok (.iadd, 1)) ∧ (decode cX11_readMan 81 = .ok (.iload_n 3, 1)) ∧ (decode cX11_readMan 82 = .ok (.iastore, 1)) ∧ (decode cX11_readMan 83 = .ok (.iconst 0, 1)) ∧ (decode cX11_readMan 84 = .ok (.istore 4, 2)) ∧ (decode cX11_readMan 86 = .ok (.iload 4, 2)) ∧ (decode cX11_readMan 88 = .ok (.bipush 6, 2)) ∧ (decode cX11_readMan 90 = .ok (.if_icmp .ge 31, 3)) ∧ (decode cX11_readMan 121 = .ok (.aload_n 0, 1)) ∧ (decode cX11_readMan 122 = .ok (.getfield 31, 3)) ∧ (decode cX11_readMan 125 = .ok (.iconst 5, 1)) ∧ (decode cX11_readMan 126 = .ok (.dup2, 1)) ∧ (decode cX11_readMan 127 = .ok (.iaload, 1)) ∧ (decode cX11_readMan 128 = .ok (.iconst 1, 1)) ∧ (decode cX11_readMan 129 = .ok (.iadd, 1)) ∧ (decode cX11_readMan 130 = .ok (.iastore, 1)) ∧ (decode cX11_readMan 131 = .ok (.return_, 1)) := by decide +kernel
theorem dX11_readMan_34 : decode cX11_readMan 34 = .ok (.aload_n 0, 1) := db426.1
theorem dX11_readMan_35 : decode cX11_readMan 35 = .ok (.ldc 182, 2) := db426.2.1
theorem dX11_readMan_37 : decode cX11_readMan 37 = .ok (.invokevirtual 153, 3) := db426.2.2.1
theorem dX11_readMan_74 : decode cX11_readMan 74 = .ok (.aload_n 0, 1) := db426.2.2.2.1
theorem dX11_readMan_75 : decode cX11_readMan 75 = .ok (.getfield 31, 3) := db426.2.2.2.2.1
theorem dX11_readMan_78 : decode cX11_readMan 78 = .ok (.iload_n 2, 1) := db426.2.2.2.2.2.1
theorem dX11_readMan_79 : decode cX11_readMan 79 = .ok (.iconst 1, 1) := db426.2.2.2.2.2.2.1
theorem dX11_readMan_80 : decode cX11_readMan 80 = .ok (.iadd, 1) := db426.2.2.2.2.2.2.2.1
theorem dX11_readMan_81 : decode cX11_readMan 81 = .ok (.iload_n 3, 1) := db426.2.2.2.2.2.2.2.2.1
theorem dX11_readMan_82 : decode cX11_readMan 82 = .ok (.iastore, 1) := db426.2.2.2.2.2.2.2.2.2.1
theorem dX11_readMan_83 : decode cX11_readMan 83 = .ok (.iconst 0, 1) := db426.2.2.2.2.2.2.2.2.2.2.1
theorem dX11_readMan_84 : decode cX11_readMan 84 = .ok (.istore 4, 2) := db426.2.2.2.2.2.2.2.2.2.2.2.1
theorem dX11_readMan_86 : decode cX11_readMan 86 = .ok (.iload 4, 2) := db426.2.2.2.2.2.2.2.2.2.2.2.2.1
theorem dX11_readMan_88 : decode cX11_readMan 88 = .ok (.bipush 6, 2) := db426.2.2.2.2.2.2.2.2.2.2.2.2.2.1
theorem dX11_readMan_90 : decode cX11_readMan 90 = .ok (.if_icmp .ge 31, 3) := db426.2.2.2.2.2.2.2.2.2.2.2.2.2.2.1
theorem dX11_readMan_121 : decode cX11_readMan 121 = .ok (.aload_n 0, 1) := db426.2.2.2.2.2.2.2.2.2.2.2.2.2.2.2.1
theorem dX11_readMan_122 : decode cX11_readMan 122 = .ok (.getfield 31, 3) := db426.2.2.2.2.2.2.2.2.2.2.2.2.2.2.2.2.1
theorem dX11_readMan_125 : decode cX11_readMan 125 = .ok (.iconst 5, 1) := db426.2.2.2.2.2.2.2.2.2.2.2.2.2.2.2.2.2.1
theorem dX11_readMan_126 : decode cX11_readMan 126 = .ok (.dup2, 1) := db426.2.2.2.2.2.2.2.2.2.2.2.2.2.2.2.2.2.2.1
theorem dX11_readMan_127 : decode cX11_readMan 127 = .ok (.iaload, 1) := db426.2.2.2.2.2.2.2.2.2.2.2.2.2.2.2.2.2.2.2.1
theorem dX11_readMan_128 : decode cX11_readMan 128 = .ok (.iconst 1, 1) := db426.2.2.2.2.2.2.2.2.2.2.2.2.2.2.2.2.2.2.2.2.1
theorem dX11_readMan_129 : decode cX11_readMan 129 = .ok (.iadd, 1) := db426.2.2.2.2.2.2.2.2.2.2.2.2.2.2.2.2.2.2.2.2.2.1
theorem dX11_readMan_130 : decode cX11_readMan 130 = .ok (.iastore, 1) := db426.2.2.2.2.2.2.2.2.2.2.2.2.2.2.2.2.2.2.2.2.2.2.1
theorem dX11_readMan_131 : decode cX11_readMan 131 = .ok (.return_, 1) := db426.2.2.2.2.2.2.2.2.2.2.2.2.2.2.2.2.2.2.2.2.2.2.2
theorem db427 : (decode cX11_readMan 93 = .ok (.aload_n 0, 1)) ∧ (decode cX11_readMan 94 = .ok (.getfield 31, 3)) ∧ (decode cX11_readMan 97 = .ok (.iload_n 2, 1)) ∧ (decode cX11_readMan 98 = .ok (.iconst 2, 1)) ∧ (decode cX11_readMan 99 = .ok (.iadd, 1)) ∧ (decode cX11_readMan 100 = .ok (.iload 4, 2)) ∧ (decode cX11_readMan 102 = .ok (.iadd, 1)) ∧ (decode cX11_readMan 103 = .ok (.iload 4, 2)) ∧ (decode cX11_readMan 105 = .ok (.iload_n 1, 1)) ∧ (decode cX11_readMan 114 = .ok (.iastore, 1)) ∧ (decode cX11_readMan 115 = .ok (.iinc 4 1, 3)) ∧ (decode cX11_readMan 118 = .ok (.goto (-32), 3)) ∧ (decode cX11_readMan 106 = .ok (.if_icmp .ne 7, 3)) ∧ (decode cX11_readMan 113 = .ok (.iconst 0, 1)) ∧ (decode cX11_readMan 109 = .ok (.iconst 1, 1)) ∧ (decode cX11_readMan 110 = .ok (.goto 4, 3)) ∧ (decode cX11_readMan 40 = .ok (.ifCond .eq 34, 3)) ∧ (decode cX11_readMan 43 = .ok (.aload_n 0, 1)) ∧ (decode cX11_readMan 44 = .ok (.iconst 0, 1)) ∧ (decode cX11_readMan 45 = .ok (.iconst 5, 1)) ∧ (decode cX11_readMan 46 = .ok (.invokevirtual 164, 3)) ∧ (decode cX11_readMan 49 = .ok (.istore 4, 2)) ∧ (decode cX11_readMan 51 = .ok (.aload_n 0, 1)) ∧ (decode cX11_readMan 52 = .ok (.invokevirtual 133, 3)) := by decide +kernel
theorem dX11_readMan_93 : decode cX11_readMan 93 = .ok (.aload_n 0, 1) := db427.1
theorem dX11_readMan_94 : decode cX11_readMan 94 = .ok (.getfield 31, 3) := db427.2.1
theorem dX11_readMan_97 : decode cX11_readMan 97 = .ok (.iload_n 2, 1) := db427.2.2.1
theorem dX11_readMan_98 : decode cX11_readMan 98 = .ok (.iconst 2, 1) := db427.2.2.2.1
theorem dX11_readMan_99 : decode cX11_readMan 99 = .ok (.iadd, 1) := db427.2.2.2.2.1
theorem dX11_readMan_100 : decode cX11_readMan 100 = .ok (.iload 4, 2) := db427.2.2.2.2.2.1
theorem dX11_readMan_102 : decode cX11_readMan 102 = .ok (.iadd, 1) := db427.2.2.2.2.2.2.1
theorem dX11_readMan_103 : decode cX11_readMan 103 = .ok (.iload 4, 2) := db427.2.2.2.2.2.2.2.1
theorem dX11_readMan_105 : decode cX11_readMan 105 = .ok (.iload_n 1, 1) := db427.2.2.2.2.2.2.2.2.1
theorem dX11_readMan_114 : decode cX11_readMan 114 = .ok (.iastore, 1) := db427.2.2.2.2.2.2.2.2.2.1
theorem dX11_readMan_115 : decode cX11_readMan 115 = .ok (.iinc 4 1, 3) := db427.2.2.2.2.2.2.2.2.2.2.1
theorem dX11_readMan_118 : decode cX11_readMan 118 = .ok (.goto (-32), 3) := db427.2.2.2.2.2.2.2.2.2.2.2.1
theorem dX11_readMan_106 : decode cX11_readMan 106 = .ok (.if_icmp .ne 7, 3) := db427.2.2.2.2.2.2.2.2.2.2.2.2.1
theorem dX11_readMan_113 : decode cX11_readMan 113 = .ok (.iconst 0, 1) := db427.2.2.2.2.2.2.2.2.2.2.2.2.2.1
theorem dX11_readMan_109 : decode cX11_readMan 109 = .ok (.iconst 1, 1) := db427.2.2.2.2.2.2.2.2.2.2.2.2.2.2.1
theorem dX11_readMan_110 : decode cX11_readMan 110 = .ok (.goto 4, 3) := db427.2.2.2.2.2.2.2.2.2.2.2.2.2.2.2.1
theorem dX11_readMan_40 : decode cX11_readMan 40 = .ok (.ifCond .eq 34, 3) := db427.2.2.2.2.2.2.2.2.2.2.2.2.2.2.2.2.1
theorem dX11_readMan_43 : decode cX11_readMan 43 = .ok (.aload_n 0, 1) := db427.2.2.2.2.2.2.2.2.2.2.2.2.2.2.2.2.2.1
theorem dX11_readMan_44 : decode cX11_readMan 44 = .ok (.iconst 0, 1) := db427.2.2.2.2.2.2.2.2.2.2.2.2.2.2.2.2.2.2.1
theorem dX11_readMan_45 : decode cX11_readMan 45 = .ok (.iconst 5, 1) := db427.2.2.2.2.2.2.2.2.2.2.2.2.2.2.2.2.2.2.2.1
theorem dX11_readMan_46 : decode cX11_readMan 46 = .ok (.invokevirtual 164, 3) := db427.2.2.2.2.2.2.2.2.2.2.2.2.2.2.2.2.2.2.2.2.1
theorem dX11_readMan_49 : decode cX11_readMan 49 = .ok (.istore 4, 2) := db427.2.2.2.2.2.2.2.2.2.2.2.2.2.2.2.2.2.2.2.2.2.1
theorem dX11_readMan_51 : decode cX11_readMan 51 = .ok (.aload_n 0, 1) := db427.2.2.2.2.2.2.2.2.2.2.2.2.2.2.2.2.2.2.2.2.2.2.1
theorem dX11_readMan_52 : decode cX11_readMan 52 = .ok (.invokevirtual 133, 3) := db427.2.2.2.2.2.2.2.2.2.2.2.2.2.2.2.2.2.2.2.2.2.2.2
theorem db428 : (decode cX11_readMan 55 = .ok (.ifCond .ne 4, 3)) ∧ (decode cX11_readMan 59 = .ok (.iload_n 3, 1)) ∧ (decode cX11_readMan 60 = .ok (.iconst 1, 1)) ∧ (decode cX11_readMan 61 = .ok (.iload 4, 2)) ∧ (decode cX11_readMan 63 = .ok (.ishl, 1)) ∧ (decode cX11_readMan 64 = .ok (.ior, 1)) ∧ (decode cX11_readMan 65 = .ok (.istore_n 3, 1)) ∧ (decode cX11_readMan 66 = .ok (.aload_n 0, 1)) ∧ (decode cX11_readMan 67 = .ok (.getfield 109, 3)) ∧ (decode cX11_readMan 70 = .ok (.iconst 3, 1)) ∧ (decode cX11_readMan 71 = .ok (.if_icmp .ne (-28), 3)) ∧ (decode cX11_readMan 58 = .ok (.return_, 1)) := by decide +kernel
theorem dX11_readMan_55 : decode cX11_readMan 55 = .ok (.ifCond .ne 4, 3) := db428.1
theorem dX11_readMan_59 : decode cX11_readMan 59 = .ok (.iload_n 3, 1) := db428.2.1
theorem dX11_readMan_60 : decode cX11_readMan 60 = .ok (.iconst 1, 1) := db428.2.2.1
theorem dX11_readMan_61 : decode cX11_readMan 61 = .ok (.iload 4, 2) := db428.2.2.2.1
theorem dX11_readMan_63 : decode cX11_readMan 63 = .ok (.ishl, 1) := db428.2.2.2.2.1
theorem dX11_readMan_64 : decode cX11_readMan 64 = .ok (.ior, 1) := db428.2.2.2.2.2.1
theorem dX11_readMan_65 : decode cX11_readMan 65 = .ok (.istore_n 3, 1) := db428.2.2.2.2.2.2.1
theorem dX11_readMan_66 : decode cX11_readMan 66 = .ok (.aload_n 0, 1) := db428.2.2.2.2.2.2.2.1
theorem dX11_readMan_67 : decode cX11_readMan 67 = .ok (.getfield 109, 3) := db428.2.2.2.2.2.2.2.2.1
theorem dX11_readMan_70 : decode cX11_readMan 70 = .ok (.iconst 3, 1) := db428.2.2.2.2.2.2.2.2.2.1
theorem dX11_readMan_71 : decode cX11_readMan 71 = .ok (.if_icmp .ne (-28), 3) := db428.2.2.2.2.2.2.2.2.2.2.1
theorem dX11_readMan_58 : decode cX11_readMan 58 = .ok (.return_, 1) := db428.2.2.2.2.2.2.2.2.2.2.2
theorem db429 : (decode cX11_readNext 0 = .ok (.aload_n 0, 1)) ∧ (decode cX11_readNext 1 = .ok (.ldc 189, 2)) ∧ (decode cX11_readNext 3 = .ok (.invokevirtual 146, 3)) ∧ (decode cX11_readNext 41 = .ok (.istore_n 1, 1)) ∧ (decode cX11_readNext 42 = .ok (.iload_n 1, 1)) ∧ (decode cX11_readNext 51 = .ok (.aload_n 0, 1)) ∧ (decode cX11_readNext 52 = .ok (.ldc 189, 2)) ∧ (decode cX11_readNext 54 = .ok (.invokevirtual 146, 3)) ∧ (decode cX11_readNext 96 = .ok (.aload_n 0, 1)) ∧ (decode cX11_readNext 97 = .ok (.invokevirtual 133, 3)) ∧ (decode cX11_readNext 100 = .ok (.ifCond .ne 4, 3)) ∧ (decode cX11_readNext 104 = .ok (.aload_n 0, 1)) ∧ (decode cX11_readNext 105 = .ok (.ldc 189, 2)) ∧ (decode cX11_readNext 107 = .ok (.invokevirtual 153, 3)) ∧ (decode cX11_readNext 110 = .ok (.ifCond .eq 10, 3)) ∧ (decode cX11_readNext 120 = .ok (.aload_n 0, 1)) ∧ (decode cX11_readNext 121 = .ok (.ldc 191, 2)) ∧ (decode cX11_readNext 123 = .ok (.invokevirtual 153, 3)) ∧ (decode cX11_readNext 126 = .ok (.ifCond .eq 10, 3)) ∧ (decode cX11_readNext 136 = .ok (.aload_n 0, 1)) ∧ (decode cX11_readNext 137 = .ok (.ldc 193, 2)) ∧ (decode cX11_readNext 139 = .ok (.invokevirtual 153, 3)) ∧ (decode cX11_readNext 142 = .ok (.ifCond .eq 10, 3)) ∧ (decode cX11_readNext 152 = .ok (.aload_n 0, 1)) := by decide +kernel
theorem dX11_readNext_0 : decode cX11_readNext 0 = .ok (.aload_n 0, 1) := db429.1
theorem dX11_readNext_1 : decode cX11_readNext 1 = .ok (.ldc 189, 2) := db429.2.1
theorem dX11_readNext_3 : decode cX11_readNext 3 = .ok (.invokevirtual 146, 3) := db429.2.2.1
theorem dX11_readNext_41 : decode cX11_readNext 41 = .ok (.istore_n 1, 1) := db429.2.2.2.1
theorem dX11_readNext_42 : decode cX11_readNext 42 = .ok (.iload_n 1, 1) := db429.2.2.2.2.1
theorem dX11_readNext_51 : decode cX11_readNext 51 = .ok (.aload_n 0, 1) := db429.2.2.2.2.2.1
theorem dX11_readNext_52 : decode cX11_readNext 52 = .ok (.ldc 189, 2) := db429.2.2.2.2.2.2.1
theorem dX11_readNext_54 : decode cX11_readNext 54 = .ok (.invokevirtual 146, 3) := db429.2.2.2.2.2.2.2.1
theorem dX11_readNext_96 : decode cX11_readNext 96 = .ok (.aload_n 0, 1) := db429.2.2.2.2.2.2.2.2.1
theorem dX11_readNext_97 : decode cX11_readNext 97 = .ok (.invokevirtual 133, 3) := db429.2.2.2.2.2.2.2.2.2.1
theorem dX11_readNext_100 : decode cX11_readNext 100 = .ok (.ifCond .ne 4, 3) := db429.2.2.2.2.2.2.2.2.2.2.1
theorem dX11_readNext_104 : decode cX11_readNext 104 = .ok (.aload_n 0, 1) := db429.2.2.2.2.2.2.2.2.2.2.2.1
theorem dX11_readNext_105 : decode cX11_readNext 105 = .ok (.ldc 189, 2) := db429.2.2.2.2.2.2.2.2.2.2.2.2.1
theorem dX11_readNext_107 : decode cX11_readNext 107 = .ok (.invokevirtual 153, 3) := db429.2.2.2.2.2.2.2.2.2.2.2.2.2.1
theorem dX11_readNext_110 : decode cX11_readNext 110 = .ok (.ifCond .eq 10, 3) := db429.2.2.2.2.2.2.2.2.2.2.2.2.2.2.1
theorem dX11_readNext_120 : decode cX11_readNext 120 = .ok (.aload_n 0, 1) := db429.2.2.2.2.2.2.2.2.2.2.2.2.2.2.2.1
theorem dX11_readNext_121 : decode cX11_readNext 121 = .ok (.ldc 191, 2) := db429.2.2.2.2.2.2.2.2.2.2.2.2.2.2.2.2.1
theorem dX11_readNext_123 : decode cX11_readNext 123 = .ok (.invokevirtual 153, 3) := db429.2.2.2.2.2.2.2.2.2.2.2.2.2.2.2.2.2.1
theorem dX11_readNext_126 : decode cX11_readNext 126 = .ok (.ifCond .eq 10, 3) := db429.2.2.2.2.2.2.2.2.2.2.2.2.2.2.2.2.2.2.1
theorem dX11_readNext_136 : decode cX11_readNext 136 = .ok (.aload_n 0, 1) := db429.2.2.2.2.2.2.2.2.2.2.2.2.2.2.2.2.2.2.2.1
theorem dX11_readNext_137 : decode cX11_readNext 137 = .ok (.ldc 193, 2) := db429.2.2.2.2.2.2.2.2.2.2.2.2.2.2.2.2.2.2.2.2.1
theorem dX11_readNext_139 : decode cX11_readNext 139 = .ok (.invokevirtual 153, 3) := db429.2.2.2.2.2.2.2.2.2.2.2.2.2.2.2.2.2.2.2.2.2.1
theorem dX11_readNext_142 : decode cX11_readNext 142 = .ok (.ifCond .eq 10, 3) := db429.2.2.2.2.2.2.2.2.2.2.2.2.2.2.2.2.2.2.2.2.2.2.1
theorem dX11_readNext_152 : decode cX11_readNext 152 = .ok (.aload_n 0, 1) := db429.2.2.2.2.2.2.2.2.2.2.2.2.2.2.2.2.2.2.2.2.2.2.2
theorem db430 : (decode cX11_readNext 153 = .ok (.invokevirtual 150, 3)) ∧ (decode cX11_readNext 156 = .ok (.aload_n 0, 1)) ∧ (decode cX11_readNext 157 = .ok (.invokevirtual 206, 3)) ∧ (decode cX11_readNext 160 = .ok (.return_, 1)) ∧ (decode cX11_readNext 145 = .ok (.aload_n 0, 1)) ∧ (decode cX11_readNext 146 = .ok (.invokevirtual 203, 3)) ∧ (decode cX11_readNext 149 = .ok (.goto 11, 3)) ∧ (decode cX11_readNext 129 = .ok (.aload_n 0, 1)) ∧ (decode cX11_readNext 130 = .ok (.invokevirtual 200, 3)) ∧ (decode cX11_readNext 133 = .ok (.goto 27, 3)) ∧ (decode cX11_readNext 113 = .ok (.aload_n 0, 1)) ∧ (decode cX11_readNext 114 = .ok (.invokevirtual 197, 3)) ∧ (decode cX11_readNext 117 = .ok (.goto 43, 3)) ∧ (decode cX11_readNext 103 = .ok (.return_, 1)) ∧ (decode cX11_readNext 91 = .ok (.aload_n 0, 1)) ∧ (decode cX11_readNext 92 = .ok (.iconst 3, 1)) ∧ (decode cX11_readNext 93 = .ok (.invokevirtual 156, 3)) ∧ (decode cX11_readNext 71 = .ok (.aload_n 0, 1)) ∧ (decode cX11_readNext 72 = .ok (.ldc 193, 2)) ∧ (decode cX11_readNext 74 = .ok (.invokevirtual 146, 3)) ∧ (decode cX11_readNext 77 = .ok (.ifCond .eq 19, 3)) ∧ (decode cX11_readNext 80 = .ok (.aload_n 0, 1)) ∧ (decode cX11_readNext 81 = .ok (.getfield 31, 3)) ∧ (decode cX11_readNext 84 = .ok (.iconst 5, 1)) := by decide +kernel
theorem dX11_readNext_153 : decode cX11_readNext 153 = .ok (.invokevirtual 150, 3) := db430.1
theorem dX11_readNext_156 : decode cX11_readNext 156 = .ok (.aload_n 0, 1) := db430.2.1
theorem dX11_readNext_157 : decode cX11_readNext 157 = .ok (.invokevirtual 206, 3) := db430.2.2.1
theorem dX11_readNext_160 : decode cX11_readNext 160 = .ok (.return_, 1) := db430.2.2.2.1
theorem dX11_readNext_145 : decode cX11_readNext 145 = .ok (.aload_n 0, 1) := db430.2.2.2.2.1
theorem dX11_readNext_146 : decode cX11_readNext 146 = .ok (.invokevirtual 203, 3) := db430.2.2.2.2.2.1
theorem dX11_readNext_149 : decode cX11_readNext 149 = .ok (.goto 11, 3) := db430.2.2.2.2.2.2.1
theorem dX11_readNext_129 : decode cX11_readNext 129 = .ok (.aload_n 0, 1) := db430.2.2.2.2.2.2.2.1
theorem dX11_readNext_130 : decode cX11_readNext 130 = .ok (.invokevirtual 200, 3) := db430.2.2.2.2.2.2.2.2.1
theorem dX11_readNext_133 : decode cX11_readNext 133 = .ok (.goto 27, 3) := db430.2.2.2.2.2.2.2.2.2.1
theorem dX11_readNext_113 : decode cX11_readNext 113 = .ok (.aload_n 0, 1) := db430.2.2.2.2.2.2.2.2.2.2.1
theorem dX11_readNext_114 : decode cX11_readNext 114 = .ok (.invokevirtual 197, 3) := db430.2.2.2.2.2.2.2.2.2.2.2.1
theorem dX11_readNext_117 : decode cX11_readNext 117 = .ok (.goto 43, 3) := db430.2.2.2.2.2.2.2.2.2.2.2.2.1
theorem dX11_readNext_103 : decode cX11_readNext 103 = .ok (.return_, 1) := db430.2.2.2.2.2.2.2.2.2.2.2.2.2.1
theorem dX11_readNext_91 : decode cX11_readNext 91 = .ok (.aload_n 0, 1) := db430.2.2.2.2.2.2.2.2.2.2.2.2.2.2.1
theorem dX11_readNext_92 : decode cX11_readNext 92 = .ok (.iconst 3, 1) := db430.2.2.2.2.2.2.2.2.2.2.2.2.2.2.2.1
theorem dX11_readNext_93 : decode cX11_readNext 93 = .ok (.invokevirtual 156, 3) := db430.2.2.2.2.2.2.2.2.2.2.2.2.2.2.2.2.1
theorem dX11_readNext_71 : decode cX11_readNext 71 = .ok (.aload_n 0, 1) := db430.2.2.2.2.2.2.2.2.2.2.2.2.2.2.2.2.2.1
theorem dX11_readNext_72 : decode cX11_readNext 72 = .ok (.ldc 193, 2) := db430.2.2.2.2.2.2.2.2.2.2.2.2.2.2.2.2.2.2.1
theorem dX11_readNext_74 : decode cX11_readNext 74 = .ok (.invokevirtual 146, 3) := db430.2.2.2.2.2.2.2.2.2.2.2.2.2.2.2.2.2.2.2.1
theorem dX11_readNext_77 : decode cX11_readNext 77 = .ok (.ifCond .eq 19, 3) := db430.2.2.2.2.2.2.2.2.2.2.2.2.2.2.2.2.2.2.2.2.1
theorem dX11_readNext_80 : decode cX11_readNext 80 = .ok (.aload_n 0, 1) := db430.2.2.2.2.2.2.2.2.2.2.2.2.2.2.2.2.2.2.2.2.2.1
theorem dX11_readNext_81 : decode cX11_readNext 81 = .ok (.getfield 31, 3) := db430.2.2.2.2.2.2.2.2.2.2.2.2.2.2.2.2.2.2.2.2.2.2.1
theorem dX11_readNext_84 : decode cX11_readNext 84 = .ok (.iconst 5, 1) := db430.2.2.2.2.2.2.2.2.2.2.2.2.2.2.2.2.2.2.2.2.2.2.2
theorem db431 : (decode cX11_readNext 85 = .ok (.iaload, 1)) ∧ (decode cX11_readNext 86 = .ok (.bipush 6, 2)) ∧ (decode cX11_readNext 88 = .ok (.if_icmp .ne 8, 3)) ∧ (decode cX11_readNext 57 = .ok (.ifCond .eq 14, 3)) ∧ (decode cX11_readNext 60 = .ok (.aload_n 0, 1)) ∧ (decode cX11_readNext 61 = .ok (.getfield 31, 3)) ∧ (decode cX11_readNext 64 = .ok (.iconst 4, 1)) ∧ (decode cX11_readNext 65 = .ok (.iaload, 1)) ∧ (decode cX11_readNext 66 = .ok (.bipush 7, 2)) ∧ (decode cX11_readNext 68 = .ok (.if_icmp .eq 23, 3)) ∧ (decode cX11_readNext 43 = .ok (.ifCond .ne 8, 3)) ∧ (decode cX11_readNext 46 = .ok (.aload_n 0, 1)) ∧ (decode cX11_readNext 47 = .ok (.iconst 1, 1)) ∧ (decode cX11_readNext 48 = .ok (.invokevirtual 156, 3)) ∧ (decode cX11_readNext 36 = .ok (.iconst 1, 1)) ∧ (decode cX11_readNext 37 = .ok (.goto 4, 3)) ∧ (decode cX11_readNext 6 = .ok (.ifCond .ne 30, 3)) ∧ (decode cX11_readNext 9 = .ok (.aload_n 0, 1)) ∧ (decode cX11_readNext 10 = .ok (.ldc 191, 2)) ∧ (decode cX11_readNext 12 = .ok (.invokevirtual 146, 3)) ∧ (decode cX11_readNext 15 = .ok (.ifCond .ne 21, 3)) ∧ (decode cX11_readNext 18 = .ok (.aload_n 0, 1)) ∧ (decode cX11_readNext 19 = .ok (.ldc 193, 2)) ∧ (decode cX11_readNext 21 = .ok (.invokevirtual 146, 3)) := by decide +kernel
theorem dX11_readNext_85 : decode cX11_readNext 85 = .ok (.iaload, 1) := db431.1
theorem dX11_readNext_86 : decode cX11_readNext 86 = .ok (.bipush 6, 2) := db431.2.1
theorem dX11_readNext_88 : decode cX11_readNext 88 = .ok (.if_icmp .ne 8, 3) := db431.2.2.1
theorem dX11_readNext_57 : decode cX11_readNext 57 = .ok (.ifCond .eq 14, 3) := db431.2.2.2.1
theorem dX11_readNext_60 : decode cX11_readNext 60 = .ok (.aload_n 0, 1) := db431.2.2.2.2.1
theorem dX11_readNext_61 : decode cX11_readNext 61 = .ok (.getfield 31, 3) := db431.2.2.2.2.2.1
theorem dX11_readNext_64 : decode cX11_readNext 64 = .ok (.iconst 4, 1) := db431.2.2.2.2.2.2.1
theorem dX11_readNext_65 : decode cX11_readNext 65 = .ok (.iaload, 1) := db431.2.2.2.2.2.2.2.1
theorem dX11_readNext_66 : decode cX11_readNext 66 = .ok (.bipush 7, 2) := db431.2.2.2.2.2.2.2.2.1
theorem dX11_readNext_68 : decode cX11_readNext 68 = .ok (.if_icmp .eq 23, 3) := db431.2.2.2.2.2.2.2.2.2.1
theorem dX11_readNext_43 : decode cX11_readNext 43 = .ok (.ifCond .ne 8, 3) := db431.2.2.2.2.2.2.2.2.2.2.1
theorem dX11_readNext_46 : decode cX11_readNext 46 = .ok (.aload_n 0, 1) := db431.2.2.2.2.2.2.2.2.2.2.2.1
theorem dX11_readNext_47 : decode cX11_readNext 47 = .ok (.iconst 1, 1) := db431.2.2.2.2.2.2.2.2.2.2.2.2.1
theorem dX11_readNext_48 : decode cX11_readNext 48 = .ok (.invokevirtual 156, 3) := db431.2.2.2.2.2.2.2.2.2.2.2.2.2.1
theorem dX11_readNext_36 : decode cX11_readNext 36 = .ok (.iconst 1, 1) := db431.2.2.2.2.2.2.2.2.2.2.2.2.2.2.1
theorem dX11_readNext_37 : decode cX11_readNext 37 = .ok (.goto 4, 3) := db431.2.2.2.2.2.2.2.2.2.2.2.2.2.2.2.1
theorem dX11_readNext_6 : decode cX11_readNext 6 = .ok (.ifCond .ne 30, 3) := db431.2.2.2.2.2.2.2.2.2.2.2.2.2.2.2.2.1
theorem dX11_readNext_9 : decode cX11_readNext 9 = .ok (.aload_n 0, 1) := db431.2.2.2.2.2.2.2.2.2.2.2.2.2.2.2.2.2.1
theorem dX11_readNext_10 : decode cX11_readNext 10 = .ok (.ldc 191, 2) := db431.2.2.2.2.2.2.2.2.2.2.2.2.2.2.2.2.2.2.1
theorem dX11_readNext_12 : decode cX11_readNext 12 = .ok (.invokevirtual 146, 3) := db431.2.2.2.2.2.2.2.2.2.2.2.2.2.2.2.2.2.2.2.1
theorem dX11_readNext_15 : decode cX11_readNext 15 = .ok (.ifCond .ne 21, 3) := db431.2.2.2.2.2.2.2.2.2.2.2.2.2.2.2.2.2.2.2.2.1
theorem dX11_readNext_18 : decode cX11_readNext 18 = .ok (.aload_n 0, 1) := db431.2.2.2.2.2.2.2.2.2.2.2.2.2.2.2.2.2.2.2.2.2.1
theorem dX11_readNext_19 : decode cX11_readNext 19 = .ok (.ldc 193, 2) := db431.2.2.2.2.2.2.2.2.2.2.2.2.2.2.2.2.2.2.2.2.2.2.1
theorem dX11_readNext_21 : decode cX11_readNext 21 = .ok (.invokevirtual 146, 3) := db431.2.2.2.2.2.2.2.2.2.2.2.2.2.2.2.2.2.2.2.2.2.2.2
theorem db432 : (decode cX11_readNext 24 = .ok (.ifCond .ne 12, 3)) ∧ (decode cX11_readNext 27 = .ok (.aload_n 0, 1)) ∧ (decode cX11_readNext 28 = .ok (.ldc 195, 2)) ∧ (decode cX11_readNext 30 = .ok (.invokevirtual 146, 3)) ∧ (decode cX11_readNext 33 = .ok (.ifCond .eq 7, 3)) ∧ (decode cX11_readNext 40 = .ok (.iconst 0, 1)) := by decide +kernel
theorem dX11_readNext_24 : decode cX11_readNext 24 = .ok (.ifCond .ne 12, 3) := db432.1
theorem dX11_readNext_27 : decode cX11_readNext 27 = .ok (.aload_n 0, 1) := db432.2.1
theorem dX11_readNext_28 : decode cX11_readNext 28 = .ok (.ldc 195, 2) := db432.2.2.1
theorem dX11_readNext_30 : decode cX11_readNext 30 = .ok (.invokevirtual 146, 3) := db432.2.2.2.1
theorem dX11_readNext_33 : decode cX11_readNext 33 = .ok (.ifCond .eq 7, 3) := db432.2.2.2.2.1
theorem dX11_readNext_40 : decode cX11_readNext 40 = .ok (.iconst 0, 1) := db432.2.2.2.2.2
theorem db433 : (decode cX11_readRoom 0 = .ok (.bipush 8, 2)) ∧ (decode cX11_readRoom 2 = .ok (.iconst 4, 1)) ∧ (decode cX11_readRoom 3 = .ok (.aload_n 0, 1)) ∧ (decode cX11_readRoom 4 = .ok (.getfield 31, 3)) ∧ (decode cX11_readRoom 7 = .ok (.iconst 4, 1)) ∧ (decode cX11_readRoom 8 = .ok (.iaload, 1)) ∧ (decode cX11_readRoom 9 = .ok (.imul, 1)) ∧ (decode cX11_readRoom 10 = .ok (.iadd, 1)) ∧ (decode cX11_readRoom 11 = .ok (.istore_n 1, 1)) ∧ (decode cX11_readRoom 12 = .ok (.aload_n 0, 1)) ∧ (decode cX11_readRoom 13 = .ok (.getfield 31, 3)) ∧ (decode cX11_readRoom 16 = .ok (.iload_n 1, 1)) ∧ (decode cX11_readRoom 17 = .ok (.iconst 0, 1)) ∧ (decode cX11_readRoom 18 = .ok (.iadd, 1)) ∧ (decode cX11_readRoom 19 = .ok (.aload_n 0, 1)) ∧ (decode cX11_readRoom 20 = .ok (.ldc 167, 2)) ∧ (decode cX11_readRoom 22 = .ok (.iconst 0, 1)) ∧ (decode cX11_readRoom 23 = .ok (.sipush 999, 3)) ∧ (decode cX11_readRoom 26 = .ok (.invokevirtual 169, 3)) ∧ (decode cX11_readRoom 29 = .ok (.iastore, 1)) ∧ (decode cX11_readRoom 30 = .ok (.aload_n 0, 1)) ∧ (decode cX11_readRoom 31 = .ok (.getfield 31, 3)) ∧ (decode cX11_readRoom 34 = .ok (.iload_n 1, 1)) ∧ (decode cX11_readRoom 35 = .ok (.iconst 1, 1)) := by decide +kernel
theorem dX11_readRoom_0 : decode cX11_readRoom 0 = .ok (.bipush 8, 2) := db433.1
theorem dX11_readRoom_2 : decode cX11_readRoom 2 = .ok (.iconst 4, 1) := db433.2.1
theorem dX11_readRoom_3 : decode cX11_readRoom 3 = .ok (.aload_n 0, 1) := db433.2.2.1
theorem dX11_readRoom_4 : decode cX11_readRoom 4 = .ok (.getfield 31, 3) := db433.2.2.2.1
theorem dX11_readRoom_7 : decode cX11_readRoom 7 = .ok (.iconst 4, 1) := db433.2.2.2.2.1
theorem dX11_readRoom_8 : decode cX11_readRoom 8 = .ok (.iaload, 1) := db433.2.2.2.2.2.1
theorem dX11_readRoom_9 : decode cX11_readRoom 9 = .ok (.imul, 1) := db433.2.2.2.2.2.2.1
theorem dX11_readRoom_10 : decode cX11_readRoom 10 = .ok (.iadd, 1) := db433.2.2.2.2.2.2.2.1
theorem dX11_readRoom_11 : decode cX11_readRoom 11 = .ok (.istore_n 1, 1) := db433.2.2.2.2.2.2.2.2.1
theorem dX11_readRoom_12 : decode cX11_readRoom 12 = .ok (.aload_n 0, 1) := db433.2.2.2.2.2.2.2.2.2.1
theorem dX11_readRoom_13 : decode cX11_readRoom 13 = .ok (.getfield 31, 3) := db433.2.2.2.2.2.2.2.2.2.2.1
theorem dX11_readRoom_16 : decode cX11_readRoom 16 = .ok (.iload_n 1, 1) := db433.2.2.2.2.2.2.2.2.2.2.2.1
theorem dX11_readRoom_17 : decode cX11_readRoom 17 = .ok (.iconst 0, 1) := db433.2.2.2.2.2.2.2.2.2.2.2.2.1
theorem dX11_readRoom_18 : decode cX11_readRoom 18 = .ok (.iadd, 1) := db433.2.2.2.2.2.2.2.2.2.2.2.2.2.1
theorem dX11_readRoom_19 : decode cX11_readRoom 19 = .ok (.aload_n 0, 1) := db433.2.2.2.2.2.2.2.2.2.2.2.2.2.2.1
theorem dX11_readRoom_20 : decode cX11_readRoom 20 = .ok (.ldc 167, 2) := db433.2.2.2.2.2.2.2.2.2.2.2.2.2.2.2.1
theorem dX11_readRoom_22 : decode cX11_readRoom 22 = .ok (.iconst 0, 1) := db433.2.2.2.2.2.2.2.2.2.2.2.2.2.2.2.2.1
theorem dX11_readRoom_23 : decode cX11_readRoom 23 = .ok (.sipush 999, 3) := db433.2.2.2.2.2.2.2.2.2.2.2.2.2.2.2.2.2.1
theorem dX11_readRoom_26 : decode cX11_readRoom 26 = .ok (.invokevirtual 169, 3) := db433.2.2.2.2.2.2.2.2.2.2.2.2.2.2.2.2.2.2.1
theorem dX11_readRoom_29 : decode cX11_readRoom 29 = .ok (.iastore, 1) := db433.2.2.2.2.2.2.2.2.2.2.2.2.2.2.2.2.2.2.2.1
theorem dX11_readRoom_30 : decode cX11_readRoom 30 = .ok (.aload_n 0, 1) := db433.2.2.2.2.2.2.2.2.2.2.2.2.2.2.2.2.2.2.2.2.1
theorem dX11_readRoom_31 : decode cX11_readRoom 31 = .ok (.getfield 31, 3) := db433.2.2.2.2.2.2.2.2.2.2.2.2.2.2.2.2.2.2.2.2.2.1
theorem dX11_readRoom_34 : decode cX11_readRoom 34 = .ok (.iload_n 1, 1) := db433.2.2.2.2.2.2.2.2.2.2.2.2.2.2.2.2.2.2.2.2.2.2.1
theorem dX11_readRoom_35 : decode cX11_readRoom 35 = .ok (.iconst 1, 1) := db433.2.2.2.2.2.2.2.2.2.2.2.2.2.2.2.2.2.2.2.2.2.2.2
theorem db434 : (decode cX11_readRoom 36 = .ok (.iadd, 1)) ∧ (decode cX11_readRoom 37 = .ok (.aload_n 0, 1)) ∧ (decode cX11_readRoom 38 = .ok (.ldc 173, 2)) ∧ (decode cX11_readRoom 40 = .ok (.iconst 0, 1)) ∧ (decode cX11_readRoom 41 = .ok (.bipush 100, 2)) ∧ (decode cX11_readRoom 43 = .ok (.invokevirtual 169, 3)) ∧ (decode cX11_readRoom 46 = .ok (.iastore, 1)) ∧ (decode cX11_readRoom 47 = .ok (.aload_n 0, 1)) ∧ (decode cX11_readRoom 48 = .ok (.getfield 31, 3)) ∧ (decode cX11_readRoom 51 = .ok (.iload_n 1, 1)) ∧ (decode cX11_readRoom 52 = .ok (.iconst 2, 1)) ∧ (decode cX11_readRoom 53 = .ok (.iadd, 1)) ∧ (decode cX11_readRoom 54 = .ok (.aload_n 0, 1)) ∧ (decode cX11_readRoom 55 = .ok (.ldc 175, 2)) ∧ (decode cX11_readRoom 57 = .ok (.iconst 0, 1)) ∧ (decode cX11_readRoom 58 = .ok (.bipush 99, 2)) ∧ (decode cX11_readRoom 60 = .ok (.invokevirtual 169, 3)) ∧ (decode cX11_readRoom 63 = .ok (.iastore, 1)) ∧ (decode cX11_readRoom 64 = .ok (.aload_n 0, 1)) ∧ (decode cX11_readRoom 65 = .ok (.getfield 31, 3)) ∧ (decode cX11_readRoom 68 = .ok (.iconst 4, 1)) ∧ (decode cX11_readRoom 69 = .ok (.dup2, 1)) ∧ (decode cX11_readRoom 70 = .ok (.iaload, 1)) ∧ (decode cX11_readRoom 71 = .ok (.iconst 1, 1)) := by decide +kernel
theorem dX11_readRoom_36 : decode cX11_readRoom 36 = .ok (.iadd, 1) := db434.1
theorem dX11_readRoom_37 : decode cX11_readRoom 37 = .ok (.aload_n 0, 1) := db434.2.1
theorem dX11_readRoom_38 : decode cX11_readRoom 38 = .ok (.ldc 173, 2) := db434.2.2.1
theorem dX11_readRoom_40 : decode cX11_readRoom 40 = .ok (.iconst 0, 1) := db434.2.2.2.1
theorem dX11_readRoom_41 : decode cX11_readRoom 41 = .ok (.bipush 100, 2) := db434.2.2.2.2.1
theorem dX11_readRoom_43 : decode cX11_readRoom 43 = .ok (.invokevirtual 169, 3) := db434.2.2.2.2.2.1
theorem dX11_readRoom_46 : decode cX11_readRoom 46 = .ok (.iastore, 1) := db434.2.2.2.2.2.2.1
theorem dX11_readRoom_47 : decode cX11_readRoom 47 = .ok (.aload_n 0, 1) := db434.2.2.2.2.2.2.2.1
theorem dX11_readRoom_48 : decode cX11_readRoom 48 = .ok (.getfield 31, 3) := db434.2.2.2.2.2.2.2.2.1
theorem dX11_readRoom_51 : decode cX11_readRoom 51 = .ok (.iload_n 1, 1) := db434.2.2.2.2.2.2.2.2.2.1
theorem dX11_readRoom_52 : decode cX11_readRoom 52 = .ok (.iconst 2, 1) := db434.2.2.2.2.2.2.2.2.2.2.1
theorem dX11_readRoom_53 : decode cX11_readRoom 53 = .ok (.iadd, 1) := db434.2.2.2.2.2.2.2.2.2.2.2.1
theorem dX11_readRoom_54 : decode cX11_readRoom 54 = .ok (.aload_n 0, 1) := db434.2.2.2.2.2.2.2.2.2.2.2.2.1
theorem dX11_readRoom_55 : decode cX11_readRoom 55 = .ok (.ldc 175, 2) := db434.2.2.2.2.2.2.2.2.2.2.2.2.2.1
theorem dX11_readRoom_57 : decode cX11_readRoom 57 = .ok (.iconst 0, 1) := db434.2.2.2.2.2.2.2.2.2.2.2.2.2.2.1
theorem dX11_readRoom_58 : decode cX11_readRoom 58 = .ok (.bipush 99, 2) := db434.2.2.2.2.2.2.2.2.2.2.2.2.2.2.2.1
theorem dX11_readRoom_60 : decode cX11_readRoom 60 = .ok (.invokevirtual 169, 3) := db434.2.2.2.2.2.2.2.2.2.2.2.2.2.2.2.2.1
theorem dX11_readRoom_63 : decode cX11_readRoom 63 = .ok (.iastore, 1) := db434.2.2.2.2.2.2.2.2.2.2.2.2.2.2.2.2.2.1
theorem dX11_readRoom_64 : decode cX11_readRoom 64 = .ok (.aload_n 0, 1) := db434.2.2.2.2.2.2.2.2.2.2.2.2.2.2.2.2.2.2.1
theorem dX11_readRoom_65 : decode cX11_readRoom 65 = .ok (.getfield 31, 3) := db434.2.2.2.2.2.2.2.2.2.2.2.2.2.2.2.2.2.2.2.1
theorem dX11_readRoom_68 : decode cX11_readRoom 68 = .ok (.iconst 4, 1) := db434.2.2.2.2.2.2.2.2.2.2.2.2.2.2.2.2.2.2.2.2.1
theorem dX11_readRoom_69 : decode cX11_readRoom 69 = .ok (.dup2, 1) := db434.2.2.2.2.2.2.2.2.2.2.2.2.2.2.2.2.2.2.2.2.2.1
theorem dX11_readRoom_70 : decode cX11_readRoom 70 = .ok (.iaload, 1) := db434.2.2.2.2.2.2.2.2.2.2.2.2.2.2.2.2.2.2.2.2.2.2.1
theorem dX11_readRoom_71 : decode cX11_readRoom 71 = .ok (.iconst 1, 1) := db434.2.2.2.2.2.2.2.2.2.2.2.2.2.2.2.2.2.2.2.2.2.2.2
theorem db435 : (decode cX11_readRoom 72 = .ok (.iadd, 1)) ∧ (decode cX11_readRoom 73 = .ok (.iastore, 1)) ∧ (decode cX11_readRoom 74 = .ok (.return_, 1)) := by decide +kernel
theorem dX11_readRoom_72 : decode cX11_readRoom 72 = .ok (.iadd, 1) := db435.1
theorem dX11_readRoom_73 : decode cX11_readRoom 73 = .ok (.iastore, 1) := db435.2.1
theorem dX11_readRoom_74 : decode cX11_readRoom 74 = .ok (.return_, 1) := db435.2.2
theorem db436 : (decode cX11_readSlate 0 = .ok (.aload_n 0, 1)) ∧ (decode cX11_readSlate 1 = .ok (.invokevirtual 184, 3)) ∧ (decode cX11_readSlate 4 = .ok (.istore_n 1, 1)) ∧ (decode cX11_readSlate 5 = .ok (.aload_n 0, 1)) ∧ (decode cX11_readSlate 6 = .ok (.ldc 187, 2)) ∧ (decode cX11_readSlate 8 = .ok (.invokevirtual 160, 3)) ∧ (decode cX11_readSlate 11 = .ok (.aload_n 0, 1)) ∧ (decode cX11_readSlate 12 = .ok (.invokevirtual 184, 3)) ∧ (decode cX11_readSlate 15 = .ok (.istore_n 2, 1)) ∧ (decode cX11_readSlate 16 = .ok (.aload_n 0, 1)) ∧ (decode cX11_readSlate 17 = .ok (.iconst 0, 1)) ∧ (decode cX11_readSlate 18 = .ok (.bipush 9, 2)) ∧ (decode cX11_readSlate 20 = .ok (.invokevirtual 164, 3)) ∧ (decode cX11_readSlate 23 = .ok (.istore_n 3, 1)) ∧ (decode cX11_readSlate 24 = .ok (.aload_n 0, 1)) ∧ (decode cX11_readSlate 25 = .ok (.invokevirtual 133, 3)) ∧ (decode cX11_readSlate 28 = .ok (.ifCond .eq 20, 3)) ∧ (decode cX11_readSlate 48 = .ok (.return_, 1)) ∧ (decode cX11_readSlate 31 = .ok (.aload_n 0, 1)) ∧ (decode cX11_readSlate 32 = .ok (.getfield 31, 3)) ∧ (decode cX11_readSlate 35 = .ok (.bipush 36, 2)) ∧ (decode cX11_readSlate 37 = .ok (.bipush 8, 2)) ∧ (decode cX11_readSlate 39 = .ok (.iload_n 1, 1)) ∧ (decode cX11_readSlate 40 = .ok (.imul, 1)) := by decide +kernel
theorem dX11_readSlate_0 : decode cX11_readSlate 0 = .ok (.aload_n 0, 1) := db436.1
theorem dX11_readSlate_1 : decode cX11_readSlate 1 = .ok (.invokevirtual 184, 3) := db436.2.1
theorem dX11_readSlate_4 : decode cX11_readSlate 4 = .ok (.istore_n 1, 1) := db436.2.2.1
theorem dX11_readSlate_5 : decode cX11_readSlate 5 = .ok (.aload_n 0, 1) := db436.2.2.2.1
theorem dX11_readSlate_6 : decode cX11_readSlate 6 = .ok (.ldc 187, 2) := db436.2.2.2.2.1
theorem dX11_readSlate_8 : decode cX11_readSlate 8 = .ok (.invokevirtual 160, 3) := db436.2.2.2.2.2.1
theorem dX11_readSlate_11 : decode cX11_readSlate 11 = .ok (.aload_n 0, 1) := db436.2.2.2.2.2.2.1
theorem dX11_readSlate_12 : decode cX11_readSlate 12 = .ok (.invokevirtual 184, 3) := db436.2.2.2.2.2.2.2.1
theorem dX11_readSlate_15 : decode cX11_readSlate 15 = .ok (.istore_n 2, 1) := db436.2.2.2.2.2.2.2.2.1
theorem dX11_readSlate_16 : decode cX11_readSlate 16 = .ok (.aload_n 0, 1) := db436.2.2.2.2.2.2.2.2.2.1
theorem dX11_readSlate_17 : decode cX11_readSlate 17 = .ok (.iconst 0, 1) := db436.2.2.2.2.2.2.2.2.2.2.1
theorem dX11_readSlate_18 : decode cX11_readSlate 18 = .ok (.bipush 9, 2) := db436.2.2.2.2.2.2.2.2.2.2.2.1
theorem dX11_readSlate_20 : decode cX11_readSlate 20 = .ok (.invokevirtual 164, 3) := db436.2.2.2.2.2.2.2.2.2.2.2.2.1
theorem dX11_readSlate_23 : decode cX11_readSlate 23 = .ok (.istore_n 3, 1) := db436.2.2.2.2.2.2.2.2.2.2.2.2.2.1
theorem dX11_readSlate_24 : decode cX11_readSlate 24 = .ok (.aload_n 0, 1) := db436.2.2.2.2.2.2.2.2.2.2.2.2.2.2.1
theorem dX11_readSlate_25 : decode cX11_readSlate 25 = .ok (.invokevirtual 133, 3) := db436.2.2.2.2.2.2.2.2.2.2.2.2.2.2.2.1
theorem dX11_readSlate_28 : decode cX11_readSlate 28 = .ok (.ifCond .eq 20, 3) := db436.2.2.2.2.2.2.2.2.2.2.2.2.2.2.2.2.1
theorem dX11_readSlate_48 : decode cX11_readSlate 48 = .ok (.return_, 1) := db436.2.2.2.2.2.2.2.2.2.2.2.2.2.2.2.2.2.1
theorem dX11_readSlate_31 : decode cX11_readSlate 31 = .ok (.aload_n 0, 1) := db436.2.2.2.2.2.2.2.2.2.2.2.2.2.2.2.2.2.2.1
theorem dX11_readSlate_32 : decode cX11_readSlate 32 = .ok (.getfield 31, 3) := db436.2.2.2.2.2.2.2.2.2.2.2.2.2.2.2.2.2.2.2.1
theorem dX11_readSlate_35 : decode cX11_readSlate 35 = .ok (.bipush 36, 2) := db436.2.2.2.2.2.2.2.2.2.2.2.2.2.2.2.2.2.2.2.2.1
theorem dX11_readSlate_37 : decode cX11_readSlate 37 = .ok (.bipush 8, 2) := db436.2.2.2.2.2.2.2.2.2.2.2.2.2.2.2.2.2.2.2.2.2.1
theorem dX11_readSlate_39 : decode cX11_readSlate 39 = .ok (.iload_n 1, 1) := db436.2.2.2.2.2.2.2.2.2.2.2.2.2.2.2.2.2.2.2.2.2.2.1
theorem dX11_readSlate_40 : decode cX11_readSlate 40 = .ok (.imul, 1) := db436.2.2.2.2.2.2.2.2.2.2.2.2.2.2.2.2.2.2.2.2.2.2.2
theorem db437 : (decode cX11_readSlate 41 = .ok (.iadd, 1)) ∧ (decode cX11_readSlate 42 = .ok (.iconst 2, 1)) ∧ (decode cX11_readSlate 43 = .ok (.iadd, 1)) ∧ (decode cX11_readSlate 44 = .ok (.iload_n 2, 1)) ∧ (decode cX11_readSlate 45 = .ok (.iadd, 1)) ∧ (decode cX11_readSlate 46 = .ok (.iload_n 3, 1)) ∧ (decode cX11_readSlate 47 = .ok (.iastore, 1)) := by decide +kernel
theorem dX11_readSlate_41 : decode cX11_readSlate 41 = .ok (.iadd, 1) := db437.1
theorem dX11_readSlate_42 : decode cX11_readSlate 42 = .ok (.iconst 2, 1) := db437.2.1
theorem dX11_readSlate_43 : decode cX11_readSlate 43 = .ok (.iadd, 1) := db437.2.2.1
theorem dX11_readSlate_44 : decode cX11_readSlate 44 = .ok (.iload_n 2, 1) := db437.2.2.2.1
theorem dX11_readSlate_45 : decode cX11_readSlate 45 = .ok (.iadd, 1) := db437.2.2.2.2.1
theorem dX11_readSlate_46 : decode cX11_readSlate 46 = .ok (.iload_n 3, 1) := db437.2.2.2.2.2.1
theorem dX11_readSlate_47 : decode cX11_readSlate 47 = .ok (.iastore, 1) := db437.2.2.2.2.2.2
theorem db438 : (decode cX11_rest 0 = .ok (.aload_n 0, 1)) ∧ (decode cX11_rest 1 = .ok (.invokevirtual 83, 3)) ∧ (decode cX11_rest 4 = .ok (.ifCond .ne 6, 3)) ∧ (decode cX11_rest 10 = .ok (.aload_n 0, 1)) ∧ (decode cX11_rest 11 = .ok (.invokevirtual 278, 3)) ∧ (decode cX11_rest 14 = .ok (.iconst 0, 1)) ∧ (decode cX11_rest 15 = .ok (.istore_n 1, 1)) ∧ (decode cX11_rest 16 = .ok (.iload_n 1, 1)) ∧ (decode cX11_rest 17 = .ok (.sipush 200, 3)) ∧ (decode cX11_rest 20 = .ok (.if_icmp .gt 55, 3)) ∧ (decode cX11_rest 75 = .ok (.iconst (-1), 1)) ∧ (decode cX11_rest 76 = .ok (.ireturn, 1)) ∧ (decode cX11_rest 23 = .ok (.aload_n 0, 1)) ∧ (decode cX11_rest 24 = .ok (.iconst (-1), 1)) ∧ (decode cX11_rest 25 = .ok (.invokevirtual 267, 3)) ∧ (decode cX11_rest 28 = .ok (.iconst 1, 1)) ∧ (decode cX11_rest 29 = .ok (.istore_n 2, 1)) ∧ (decode cX11_rest 30 = .ok (.iconst 0, 1)) ∧ (decode cX11_rest 31 = .ok (.istore_n 3, 1)) ∧ (decode cX11_rest 32 = .ok (.iload_n 3, 1)) ∧ (decode cX11_rest 33 = .ok (.bipush 7, 2)) ∧ (decode cX11_rest 63 = .ok (.iload_n 2, 1)) ∧ (decode cX11_rest 64 = .ok (.ifCond .eq 5, 3)) ∧ (decode cX11_rest 69 = .ok (.iinc 1 1, 3)) := by decide +kernel
theorem dX11_rest_0 : decode cX11_rest 0 = .ok (.aload_n 0, 1) := db438.1
theorem dX11_rest_1 : decode cX11_rest 1 = .ok (.invokevirtual 83, 3) := db438.2.1
theorem dX11_rest_4 : decode cX11_rest 4 = .ok (.ifCond .ne 6, 3) := db438.2.2.1
theorem dX11_rest_10 : decode cX11_rest 10 = .ok (.aload_n 0, 1) := db438.2.2.2.1
theorem dX11_rest_11 : decode cX11_rest 11 = .ok (.invokevirtual 278, 3) := db438.2.2.2.2.1
theorem dX11_rest_14 : decode cX11_rest 14 = .ok (.iconst 0, 1) := db438.2.2.2.2.2.1
theorem dX11_rest_15 : decode cX11_rest 15 = .ok (.istore_n 1, 1) := db438.2.2.2.2.2.2.1
theorem dX11_rest_16 : decode cX11_rest 16 = .ok (.iload_n 1, 1) := db438.2.2.2.2.2.2.2.1
theorem dX11_rest_17 : decode cX11_rest 17 = .ok (.sipush 200, 3) := db438.2.2.2.2.2.2.2.2.1
theorem dX11_rest_20 : decode cX11_rest 20 = .ok (.if_icmp .gt 55, 3) := db438.2.2.2.2.2.2.2.2.2.1
theorem dX11_rest_75 : decode cX11_rest 75 = .ok (.iconst (-1), 1) := db438.2.2.2.2.2.2.2.2.2.2.1
theorem dX11_rest_76 : decode cX11_rest 76 = .ok (.ireturn, 1) := db438.2.2.2.2.2.2.2.2.2.2.2.1
theorem dX11_rest_23 : decode cX11_rest 23 = .ok (.aload_n 0, 1) := db438.2.2.2.2.2.2.2.2.2.2.2.2.1
theorem dX11_rest_24 : decode cX11_rest 24 = .ok (.iconst (-1), 1) := db438.2.2.2.2.2.2.2.2.2.2.2.2.2.1
theorem dX11_rest_25 : decode cX11_rest 25 = .ok (.invokevirtual 267, 3) := db438.2.2.2.2.2.2.2.2.2.2.2.2.2.2.1
theorem dX11_rest_28 : decode cX11_rest 28 = .ok (.iconst 1, 1) := db438.2.2.2.2.2.2.2.2.2.2.2.2.2.2.2.1
theorem dX11_rest_29 : decode cX11_rest 29 = .ok (.istore_n 2, 1) := db438.2.2.2.2.2.2.2.2.2.2.2.2.2.2.2.2.1
theorem dX11_rest_30 : decode cX11_rest 30 = .ok (.iconst 0, 1) := db438.2.2.2.2.2.2.2.2.2.2.2.2.2.2.2.2.2.1
theorem dX11_rest_31 : decode cX11_rest 31 = .ok (.istore_n 3, 1) := db438.2.2.2.2.2.2.2.2.2.2.2.2.2.2.2.2.2.2.1
theorem dX11_rest_32 : decode cX11_rest 32 = .ok (.iload_n 3, 1) := db438.2.2.2.2.2.2.2.2.2.2.2.2.2.2.2.2.2.2.2.1
theorem dX11_rest_33 : decode cX11_rest 33 = .ok (.bipush 7, 2) := db438.2.2.2.2.2.2.2.2.2.2.2.2.2.2.2.2.2.2.2.2.1
theorem dX11_rest_63 : decode cX11_rest 63 = .ok (.iload_n 2, 1) := db438.2.2.2.2.2.2.2.2.2.2.2.2.2.2.2.2.2.2.2.2.2.1
theorem dX11_rest_64 : decode cX11_rest 64 = .ok (.ifCond .eq 5, 3) := db438.2.2.2.2.2.2.2.2.2.2.2.2.2.2.2.2.2.2.2.2.2.2.1
theorem dX11_rest_69 : decode cX11_rest 69 = .ok (.iinc 1 1, 3) := db438.2.2.2.2.2.2.2.2.2.2.2.2.2.2.2.2.2.2.2.2.2.2.2
theorem db439 : (decode cX11_rest 72 = .ok (.goto (-56), 3)) ∧ (decode cX11_rest 67 = .ok (.iload_n 1, 1)) ∧ (decode cX11_rest 68 = .ok (.ireturn, 1)) ∧ (decode cX11_rest 35 = .ok (.if_icmp .ge 28, 3)) ∧ (decode cX11_rest 38 = .ok (.iload_n 2, 1)) ∧ (decode cX11_rest 39 = .ok (.ifCond .eq 24, 3)) ∧ (decode cX11_rest 42 = .ok (.aload_n 0, 1)) ∧ (decode cX11_rest 43 = .ok (.getfield 37, 3)) ∧ (decode cX11_rest 46 = .ok (.iload_n 3, 1)) ∧ (decode cX11_rest 47 = .ok (.iaload, 1)) ∧ (decode cX11_rest 56 = .ok (.istore_n 2, 1)) ∧ (decode cX11_rest 57 = .ok (.iinc 3 1, 3)) ∧ (decode cX11_rest 60 = .ok (.goto (-28), 3)) ∧ (decode cX11_rest 48 = .ok (.ifCond .ne 7, 3)) ∧ (decode cX11_rest 55 = .ok (.iconst 0, 1)) ∧ (decode cX11_rest 51 = .ok (.iconst 1, 1)) ∧ (decode cX11_rest 52 = .ok (.goto 4, 3)) ∧ (decode cX11_rest 7 = .ok (.bipush (-2), 2)) ∧ (decode cX11_rest 9 = .ok (.ireturn, 1)) := by decide +kernel
theorem dX11_rest_72 : decode cX11_rest 72 = .ok (.goto (-56), 3) := db439.1
theorem dX11_rest_67 : decode cX11_rest 67 = .ok (.iload_n 1, 1) := db439.2.1
theorem dX11_rest_68 : decode cX11_rest 68 = .ok (.ireturn, 1) := db439.2.2.1
theorem dX11_rest_35 : decode cX11_rest 35 = .ok (.if_icmp .ge 28, 3) := db439.2.2.2.1
theorem dX11_rest_38 : decode cX11_rest 38 = .ok (.iload_n 2, 1) := db439.2.2.2.2.1
theorem dX11_rest_39 : decode cX11_rest 39 = .ok (.ifCond .eq 24, 3) := db439.2.2.2.2.2.1
theorem dX11_rest_42 : decode cX11_rest 42 = .ok (.aload_n 0, 1) := db439.2.2.2.2.2.2.1
theorem dX11_rest_43 : decode cX11_rest 43 = .ok (.getfield 37, 3) := db439.2.2.2.2.2.2.2.1
theorem dX11_rest_46 : decode cX11_rest 46 = .ok (.iload_n 3, 1) := db439.2.2.2.2.2.2.2.2.1
theorem dX11_rest_47 : decode cX11_rest 47 = .ok (.iaload, 1) := db439.2.2.2.2.2.2.2.2.2.1
theorem dX11_rest_56 : decode cX11_rest 56 = .ok (.istore_n 2, 1) := db439.2.2.2.2.2.2.2.2.2.2.1
theorem dX11_rest_57 : decode cX11_rest 57 = .ok (.iinc 3 1, 3) := db439.2.2.2.2.2.2.2.2.2.2.2.1
theorem dX11_rest_60 : decode cX11_rest 60 = .ok (.goto (-28), 3) := db439.2.2.2.2.2.2.2.2.2.2.2.2.1
theorem dX11_rest_48 : decode cX11_rest 48 = .ok (.ifCond .ne 7, 3) := db439.2.2.2.2.2.2.2.2.2.2.2.2.2.1
theorem dX11_rest_55 : decode cX11_rest 55 = .ok (.iconst 0, 1) := db439.2.2.2.2.2.2.2.2.2.2.2.2.2.2.1
theorem dX11_rest_51 : decode cX11_rest 51 = .ok (.iconst 1, 1) := db439.2.2.2.2.2.2.2.2.2.2.2.2.2.2.2.1
theorem dX11_rest_52 : decode cX11_rest 52 = .ok (.goto 4, 3) := db439.2.2.2.2.2.2.2.2.2.2.2.2.2.2.2.2.1
theorem dX11_rest_7 : decode cX11_rest 7 = .ok (.bipush (-2), 2) := db439.2.2.2.2.2.2.2.2.2.2.2.2.2.2.2.2.2.1
theorem dX11_rest_9 : decode cX11_rest 9 = .ok (.ireturn, 1) := db439.2.2.2.2.2.2.2.2.2.2.2.2.2.2.2.2.2.2
theorem db440 : (decode cX11_right 0 = .ok (.aload_n 0, 1)) ∧ (decode cX11_right 1 = .ok (.getfield 9, 3)) ∧ (decode cX11_right 4 = .ok (.iconst 5, 1)) ∧ (decode cX11_right 5 = .ok (.iaload, 1)) ∧ (decode cX11_right 6 = .ok (.ifCond .eq 13, 3)) ∧ (decode cX11_right 19 = .ok (.ldc2_w 401, 3)) ∧ (decode cX11_right 22 = .ok (.lreturn, 1)) ∧ (decode cX11_right 9 = .ok (.iload_n 1, 1)) ∧ (decode cX11_right 10 = .ok (.i2l, 1)) ∧ (decode cX11_right 11 = .ok (.lconst 0, 1)) ∧ (decode cX11_right 12 = .ok (.lconst 1, 1)) ∧ (decode cX11_right 13 = .ok (.invokestatic 79, 3)) ∧ (decode cX11_right 16 = .ok (.ifCond .ne 7, 3)) ∧ (decode cX11_right 23 = .ok (.lconst 0, 1)) ∧ (decode cX11_right 24 = .ok (.lstore_n 2, 1)) ∧ (decode cX11_right 25 = .ok (.lconst 0, 1)) ∧ (decode cX11_right 26 = .ok (.lstore 4, 2)) ∧ (decode cX11_right 28 = .ok (.iconst 0, 1)) ∧ (decode cX11_right 29 = .ok (.istore 6, 2)) ∧ (decode cX11_right 31 = .ok (.iload 6, 2)) ∧ (decode cX11_right 33 = .ok (.aload_n 0, 1)) ∧ (decode cX11_right 34 = .ok (.getfield 9, 3)) ∧ (decode cX11_right 37 = .ok (.iconst 5, 1)) ∧ (decode cX11_right 38 = .ok (.iaload, 1)) := by decide +kernel
theorem dX11_right_0 : decode cX11_right 0 = .ok (.aload_n 0, 1) := db440.1
theorem dX11_right_1 : decode cX11_right 1 = .ok (.getfield 9, 3) := db440.2.1
theorem dX11_right_4 : decode cX11_right 4 = .ok (.iconst 5, 1) := db440.2.2.1
theorem dX11_right_5 : decode cX11_right 5 = .ok (.iaload, 1) := db440.2.2.2.1
theorem dX11_right_6 : decode cX11_right 6 = .ok (.ifCond .eq 13, 3) := db440.2.2.2.2.1
theorem dX11_right_19 : decode cX11_right 19 = .ok (.ldc2_w 401, 3) := db440.2.2.2.2.2.1
theorem dX11_right_22 : decode cX11_right 22 = .ok (.lreturn, 1) := db440.2.2.2.2.2.2.1
theorem dX11_right_9 : decode cX11_right 9 = .ok (.iload_n 1, 1) := db440.2.2.2.2.2.2.2.1
theorem dX11_right_10 : decode cX11_right 10 = .ok (.i2l, 1) := db440.2.2.2.2.2.2.2.2.1
theorem dX11_right_11 : decode cX11_right 11 = .ok (.lconst 0, 1) := db440.2.2.2.2.2.2.2.2.2.1
theorem dX11_right_12 : decode cX11_right 12 = .ok (.lconst 1, 1) := db440.2.2.2.2.2.2.2.2.2.2.1
theorem dX11_right_13 : decode cX11_right 13 = .ok (.invokestatic 79, 3) := db440.2.2.2.2.2.2.2.2.2.2.2.1
theorem dX11_right_16 : decode cX11_right 16 = .ok (.ifCond .ne 7, 3) := db440.2.2.2.2.2.2.2.2.2.2.2.2.1
theorem dX11_right_23 : decode cX11_right 23 = .ok (.lconst 0, 1) := db440.2.2.2.2.2.2.2.2.2.2.2.2.2.1
theorem dX11_right_24 : decode cX11_right 24 = .ok (.lstore_n 2, 1) := db440.2.2.2.2.2.2.2.2.2.2.2.2.2.2.1
theorem dX11_right_25 : decode cX11_right 25 = .ok (.lconst 0, 1) := db440.2.2.2.2.2.2.2.2.2.2.2.2.2.2.2.1
theorem dX11_right_26 : decode cX11_right 26 = .ok (.lstore 4, 2) := db440.2.2.2.2.2.2.2.2.2.2.2.2.2.2.2.2.1
theorem dX11_right_28 : decode cX11_right 28 = .ok (.iconst 0, 1) := db440.2.2.2.2.2.2.2.2.2.2.2.2.2.2.2.2.2.1
theorem dX11_right_29 : decode cX11_right 29 = .ok (.istore 6, 2) := db440.2.2.2.2.2.2.2.2.2.2.2.2.2.2.2.2.2.2.1
theorem dX11_right_31 : decode cX11_right 31 = .ok (.iload 6, 2) := db440.2.2.2.2.2.2.2.2.2.2.2.2.2.2.2.2.2.2.2.1
theorem dX11_right_33 : decode cX11_right 33 = .ok (.aload_n 0, 1) := db440.2.2.2.2.2.2.2.2.2.2.2.2.2.2.2.2.2.2.2.2.1
theorem dX11_right_34 : decode cX11_right 34 = .ok (.getfield 9, 3) := db440.2.2.2.2.2.2.2.2.2.2.2.2.2.2.2.2.2.2.2.2.2.1
theorem dX11_right_37 : decode cX11_right 37 = .ok (.iconst 5, 1) := db440.2.2.2.2.2.2.2.2.2.2.2.2.2.2.2.2.2.2.2.2.2.2.1
theorem dX11_right_38 : decode cX11_right 38 = .ok (.iaload, 1) := db440.2.2.2.2.2.2.2.2.2.2.2.2.2.2.2.2.2.2.2.2.2.2.2
theorem db441 : (decode cX11_right 39 = .ok (.if_icmp .ge 53, 3)) ∧ (decode cX11_right 92 = .ok (.lload_n 2, 1)) ∧ (decode cX11_right 93 = .ok (.lload 4, 2)) ∧ (decode cX11_right 95 = .ok (.iload_n 1, 1)) ∧ (decode cX11_right 96 = .ok (.invokestatic 388, 3)) ∧ (decode cX11_right 99 = .ok (.lreturn, 1)) ∧ (decode cX11_right 42 = .ok (.lload_n 2, 1)) ∧ (decode cX11_right 43 = .ok (.aload_n 0, 1)) ∧ (decode cX11_right 44 = .ok (.iload 6, 2)) ∧ (decode cX11_right 46 = .ok (.iload 6, 2)) ∧ (decode cX11_right 48 = .ok (.invokevirtual 398, 3)) ∧ (decode cX11_right 51 = .ok (.ladd, 1)) ∧ (decode cX11_right 52 = .ok (.lstore_n 2, 1)) ∧ (decode cX11_right 53 = .ok (.iconst 0, 1)) ∧ (decode cX11_right 54 = .ok (.istore 7, 2)) ∧ (decode cX11_right 56 = .ok (.iload 7, 2)) ∧ (decode cX11_right 58 = .ok (.aload_n 0, 1)) ∧ (decode cX11_right 59 = .ok (.getfield 9, 3)) ∧ (decode cX11_right 62 = .ok (.iconst 5, 1)) ∧ (decode cX11_right 63 = .ok (.iaload, 1)) ∧ (decode cX11_right 64 = .ok (.if_icmp .ge 22, 3)) ∧ (decode cX11_right 86 = .ok (.iinc 6 1, 3)) ∧ (decode cX11_right 89 = .ok (.goto (-58), 3)) ∧ (decode cX11_right 67 = .ok (.lload 4, 2)) := by decide +kernel
theorem dX11_right_39 : decode cX11_right 39 = .ok (.if_icmp .ge 53, 3) := db441.1
theorem dX11_right_92 : decode cX11_right 92 = .ok (.lload_n 2, 1) := db441.2.1
theorem dX11_right_93 : decode cX11_right 93 = .ok (.lload 4, 2) := db441.2.2.1
theorem dX11_right_95 : decode cX11_right 95 = .ok (.iload_n 1, 1) := db441.2.2.2.1
theorem dX11_right_96 : decode cX11_right 96 = .ok (.invokestatic 388, 3) := db441.2.2.2.2.1
theorem dX11_right_99 : decode cX11_right 99 = .ok (.lreturn, 1) := db441.2.2.2.2.2.1
theorem dX11_right_42 : decode cX11_right 42 = .ok (.lload_n 2, 1) := db441.2.2.2.2.2.2.1
theorem dX11_right_43 : decode cX11_right 43 = .ok (.aload_n 0, 1) := db441.2.2.2.2.2.2.2.1
theorem dX11_right_44 : decode cX11_right 44 = .ok (.iload 6, 2) := db441.2.2.2.2.2.2.2.2.1
theorem dX11_right_46 : decode cX11_right 46 = .ok (.iload 6, 2) := db441.2.2.2.2.2.2.2.2.2.1
theorem dX11_right_48 : decode cX11_right 48 = .ok (.invokevirtual 398, 3) := db441.2.2.2.2.2.2.2.2.2.2.1
theorem dX11_right_51 : decode cX11_right 51 = .ok (.ladd, 1) := db441.2.2.2.2.2.2.2.2.2.2.2.1
theorem dX11_right_52 : decode cX11_right 52 = .ok (.lstore_n 2, 1) := db441.2.2.2.2.2.2.2.2.2.2.2.2.1
theorem dX11_right_53 : decode cX11_right 53 = .ok (.iconst 0, 1) := db441.2.2.2.2.2.2.2.2.2.2.2.2.2.1
theorem dX11_right_54 : decode cX11_right 54 = .ok (.istore 7, 2) := db441.2.2.2.2.2.2.2.2.2.2.2.2.2.2.1
theorem dX11_right_56 : decode cX11_right 56 = .ok (.iload 7, 2) := db441.2.2.2.2.2.2.2.2.2.2.2.2.2.2.2.1
theorem dX11_right_58 : decode cX11_right 58 = .ok (.aload_n 0, 1) := db441.2.2.2.2.2.2.2.2.2.2.2.2.2.2.2.2.1
theorem dX11_right_59 : decode cX11_right 59 = .ok (.getfield 9, 3) := db441.2.2.2.2.2.2.2.2.2.2.2.2.2.2.2.2.2.1
theorem dX11_right_62 : decode cX11_right 62 = .ok (.iconst 5, 1) := db441.2.2.2.2.2.2.2.2.2.2.2.2.2.2.2.2.2.2.1
theorem dX11_right_63 : decode cX11_right 63 = .ok (.iaload, 1) := db441.2.2.2.2.2.2.2.2.2.2.2.2.2.2.2.2.2.2.2.1
theorem dX11_right_64 : decode cX11_right 64 = .ok (.if_icmp .ge 22, 3) := db441.2.2.2.2.2.2.2.2.2.2.2.2.2.2.2.2.2.2.2.2.1
theorem dX11_right_86 : decode cX11_right 86 = .ok (.iinc 6 1, 3) := db441.2.2.2.2.2.2.2.2.2.2.2.2.2.2.2.2.2.2.2.2.2.1
theorem dX11_right_89 : decode cX11_right 89 = .ok (.goto (-58), 3) := db441.2.2.2.2.2.2.2.2.2.2.2.2.2.2.2.2.2.2.2.2.2.2.1
theorem dX11_right_67 : decode cX11_right 67 = .ok (.lload 4, 2) := db441.2.2.2.2.2.2.2.2.2.2.2.2.2.2.2.2.2.2.2.2.2.2.2
theorem db442 : (decode cX11_right 69 = .ok (.aload_n 0, 1)) ∧ (decode cX11_right 70 = .ok (.iload 6, 2)) ∧ (decode cX11_right 72 = .ok (.iload 7, 2)) ∧ (decode cX11_right 74 = .ok (.invokevirtual 398, 3)) ∧ (decode cX11_right 77 = .ok (.ladd, 1)) ∧ (decode cX11_right 78 = .ok (.lstore 4, 2)) ∧ (decode cX11_right 80 = .ok (.iinc 7 1, 3)) ∧ (decode cX11_right 83 = .ok (.goto (-27), 3)) := by decide +kernel
theorem dX11_right_69 : decode cX11_right 69 = .ok (.aload_n 0, 1) := db442.1
theorem dX11_right_70 : decode cX11_right 70 = .ok (.iload 6, 2) := db442.2.1
theorem dX11_right_72 : decode cX11_right 72 = .ok (.iload 7, 2) := db442.2.2.1
theorem dX11_right_74 : decode cX11_right 74 = .ok (.invokevirtual 398, 3) := db442.2.2.2.1
theorem dX11_right_77 : decode cX11_right 77 = .ok (.ladd, 1) := db442.2.2.2.2.1
theorem dX11_right_78 : decode cX11_right 78 = .ok (.lstore 4, 2) := db442.2.2.2.2.2.1
theorem dX11_right_80 : decode cX11_right 80 = .ok (.iinc 7 1, 3) := db442.2.2.2.2.2.2.1
theorem dX11_right_83 : decode cX11_right 83 = .ok (.goto (-27), 3) := db442.2.2.2.2.2.2.2
theorem db443 : (decode cX11_room 0 = .ok (.aload_n 0, 1)) ∧ (decode cX11_room 1 = .ok (.iload_n 1, 1)) ∧ (decode cX11_room 2 = .ok (.i2l, 1)) ∧ (decode cX11_room 3 = .ok (.invokevirtual 89, 3)) ∧ (decode cX11_room 6 = .ok (.ifCond .eq 24, 3)) ∧ (decode cX11_room 30 = .ok (.bipush (-2), 2)) ∧ (decode cX11_room 32 = .ok (.ireturn, 1)) ∧ (decode cX11_room 9 = .ok (.iload_n 2, 1)) ∧ (decode cX11_room 10 = .ok (.i2l, 1)) ∧ (decode cX11_room 11 = .ok (.lconst 0, 1)) ∧ (decode cX11_room 12 = .ok (.ldc2_w 225, 3)) ∧ (decode cX11_room 15 = .ok (.invokestatic 79, 3)) ∧ (decode cX11_room 18 = .ok (.ifCond .eq 12, 3)) ∧ (decode cX11_room 21 = .ok (.aload_n 0, 1)) ∧ (decode cX11_room 22 = .ok (.iload_n 1, 1)) ∧ (decode cX11_room 23 = .ok (.iload_n 2, 1)) ∧ (decode cX11_room 24 = .ok (.invokevirtual 227, 3)) ∧ (decode cX11_room 27 = .ok (.goto 5, 3)) := by decide +kernel
theorem dX11_room_0 : decode cX11_room 0 = .ok (.aload_n 0, 1) := db443.1
theorem dX11_room_1 : decode cX11_room 1 = .ok (.iload_n 1, 1) := db443.2.1
theorem dX11_room_2 : decode cX11_room 2 = .ok (.i2l, 1) := db443.2.2.1
theorem dX11_room_3 : decode cX11_room 3 = .ok (.invokevirtual 89, 3) := db443.2.2.2.1
theorem dX11_room_6 : decode cX11_room 6 = .ok (.ifCond .eq 24, 3) := db443.2.2.2.2.1
theorem dX11_room_30 : decode cX11_room 30 = .ok (.bipush (-2), 2) := db443.2.2.2.2.2.1
theorem dX11_room_32 : decode cX11_room 32 = .ok (.ireturn, 1) := db443.2.2.2.2.2.2.1
theorem dX11_room_9 : decode cX11_room 9 = .ok (.iload_n 2, 1) := db443.2.2.2.2.2.2.2.1
theorem dX11_room_10 : decode cX11_room 10 = .ok (.i2l, 1) := db443.2.2.2.2.2.2.2.2.1
theorem dX11_room_11 : decode cX11_room 11 = .ok (.lconst 0, 1) := db443.2.2.2.2.2.2.2.2.2.1
theorem dX11_room_12 : decode cX11_room 12 = .ok (.ldc2_w 225, 3) := db443.2.2.2.2.2.2.2.2.2.2.1
theorem dX11_room_15 : decode cX11_room 15 = .ok (.invokestatic 79, 3) := db443.2.2.2.2.2.2.2.2.2.2.2.1
theorem dX11_room_18 : decode cX11_room 18 = .ok (.ifCond .eq 12, 3) := db443.2.2.2.2.2.2.2.2.2.2.2.2.1
theorem dX11_room_21 : decode cX11_room 21 = .ok (.aload_n 0, 1) := db443.2.2.2.2.2.2.2.2.2.2.2.2.2.1
theorem dX11_room_22 : decode cX11_room 22 = .ok (.iload_n 1, 1) := db443.2.2.2.2.2.2.2.2.2.2.2.2.2.2.1
theorem dX11_room_23 : decode cX11_room 23 = .ok (.iload_n 2, 1) := db443.2.2.2.2.2.2.2.2.2.2.2.2.2.2.2.1
theorem dX11_room_24 : decode cX11_room 24 = .ok (.invokevirtual 227, 3) := db443.2.2.2.2.2.2.2.2.2.2.2.2.2.2.2.2.1
theorem dX11_room_27 : decode cX11_room 27 = .ok (.goto 5, 3) := db443.2.2.2.2.2.2.2.2.2.2.2.2.2.2.2.2.2
theorem db444 : (decode cX11_roomAt 0 = .ok (.aload_n 0, 1)) ∧ (decode cX11_roomAt 1 = .ok (.iload_n 1, 1)) ∧ (decode cX11_roomAt 2 = .ok (.iload_n 2, 1)) ∧ (decode cX11_roomAt 3 = .ok (.invokevirtual 286, 3)) ∧ (decode cX11_roomAt 6 = .ok (.l2i, 1)) ∧ (decode cX11_roomAt 7 = .ok (.ireturn, 1)) := by decide +kernel
theorem dX11_roomAt_0 : decode cX11_roomAt 0 = .ok (.aload_n 0, 1) := db444.1
theorem dX11_roomAt_1 : decode cX11_roomAt 1 = .ok (.iload_n 1, 1) := db444.2.1
theorem dX11_roomAt_2 : decode cX11_roomAt 2 = .ok (.iload_n 2, 1) := db444.2.2.1
theorem dX11_roomAt_3 : decode cX11_roomAt 3 = .ok (.invokevirtual 286, 3) := db444.2.2.2.1
theorem dX11_roomAt_6 : decode cX11_roomAt 6 = .ok (.l2i, 1) := db444.2.2.2.2.1
theorem dX11_roomAt_7 : decode cX11_roomAt 7 = .ok (.ireturn, 1) := db444.2.2.2.2.2
theorem db445 : (decode cX11_round 0 = .ok (.aload_n 0, 1)) ∧ (decode cX11_round 1 = .ok (.iload_n 1, 1)) ∧ (decode cX11_round 2 = .ok (.iconst 1, 1)) ∧ (decode cX11_round 3 = .ok (.invokevirtual 303, 3)) ∧ (decode cX11_round 6 = .ok (.istore_n 2, 1)) ∧ (decode cX11_round 7 = .ok (.iload_n 2, 1)) ∧ (decode cX11_round 8 = .ok (.ifCond .ge 7, 3)) ∧ (decode cX11_round 15 = .ok (.aload_n 0, 1)) ∧ (decode cX11_round 16 = .ok (.iload_n 1, 1)) ∧ (decode cX11_round 17 = .ok (.aload_n 0, 1)) ∧ (decode cX11_round 18 = .ok (.getfield 61, 3)) ∧ (decode cX11_round 21 = .ok (.iload_n 1, 1)) ∧ (decode cX11_round 22 = .ok (.iaload, 1)) ∧ (decode cX11_round 23 = .ok (.iconst 0, 1)) ∧ (decode cX11_round 24 = .ok (.invokevirtual 296, 3)) ∧ (decode cX11_round 27 = .ok (.ireturn, 1)) ∧ (decode cX11_round 11 = .ok (.iload_n 2, 1)) ∧ (decode cX11_round 12 = .ok (.goto 15, 3)) := by decide +kernel
theorem dX11_round_0 : decode cX11_round 0 = .ok (.aload_n 0, 1) := db445.1
theorem dX11_round_1 : decode cX11_round 1 = .ok (.iload_n 1, 1) := db445.2.1
theorem dX11_round_2 : decode cX11_round 2 = .ok (.iconst 1, 1) := db445.2.2.1
theorem dX11_round_3 : decode cX11_round 3 = .ok (.invokevirtual 303, 3) := db445.2.2.2.1
theorem dX11_round_6 : decode cX11_round 6 = .ok (.istore_n 2, 1) := db445.2.2.2.2.1
theorem dX11_round_7 : decode cX11_round 7 = .ok (.iload_n 2, 1) := db445.2.2.2.2.2.1
theorem dX11_round_8 : decode cX11_round 8 = .ok (.ifCond .ge 7, 3) := db445.2.2.2.2.2.2.1
theorem dX11_round_15 : decode cX11_round 15 = .ok (.aload_n 0, 1) := db445.2.2.2.2.2.2.2.1
theorem dX11_round_16 : decode cX11_round 16 = .ok (.iload_n 1, 1) := db445.2.2.2.2.2.2.2.2.1
theorem dX11_round_17 : decode cX11_round 17 = .ok (.aload_n 0, 1) := db445.2.2.2.2.2.2.2.2.2.1
theorem dX11_round_18 : decode cX11_round 18 = .ok (.getfield 61, 3) := db445.2.2.2.2.2.2.2.2.2.2.1
theorem dX11_round_21 : decode cX11_round 21 = .ok (.iload_n 1, 1) := db445.2.2.2.2.2.2.2.2.2.2.2.1
theorem dX11_round_22 : decode cX11_round 22 = .ok (.iaload, 1) := db445.2.2.2.2.2.2.2.2.2.2.2.2.1
theorem dX11_round_23 : decode cX11_round 23 = .ok (.iconst 0, 1) := db445.2.2.2.2.2.2.2.2.2.2.2.2.2.1
theorem dX11_round_24 : decode cX11_round 24 = .ok (.invokevirtual 296, 3) := db445.2.2.2.2.2.2.2.2.2.2.2.2.2.2.1
theorem dX11_round_27 : decode cX11_round 27 = .ok (.ireturn, 1) := db445.2.2.2.2.2.2.2.2.2.2.2.2.2.2.2.1
theorem dX11_round_11 : decode cX11_round 11 = .ok (.iload_n 2, 1) := db445.2.2.2.2.2.2.2.2.2.2.2.2.2.2.2.2.1
theorem dX11_round_12 : decode cX11_round 12 = .ok (.goto 15, 3) := db445.2.2.2.2.2.2.2.2.2.2.2.2.2.2.2.2.2
theorem db446 : (decode cX11_row 0 = .ok (.iload_n 1, 1)) ∧ (decode cX11_row 1 = .ok (.invokestatic 290, 3)) ∧ (decode cX11_row 4 = .ok (.ifCond .eq 21, 3)) ∧ (decode cX11_row 25 = .ok (.bipush (-2), 2)) ∧ (decode cX11_row 27 = .ok (.ireturn, 1)) ∧ (decode cX11_row 7 = .ok (.iload_n 2, 1)) ∧ (decode cX11_row 8 = .ok (.i2l, 1)) ∧ (decode cX11_row 9 = .ok (.lconst 0, 1)) ∧ (decode cX11_row 10 = .ok (.ldc2_w 225, 3)) ∧ (decode cX11_row 13 = .ok (.invokestatic 79, 3)) ∧ (decode cX11_row 16 = .ok (.ifCond .eq 9, 3)) ∧ (decode cX11_row 19 = .ok (.iload_n 3, 1)) ∧ (decode cX11_row 20 = .ok (.bipush 60, 2)) ∧ (decode cX11_row 22 = .ok (.if_icmp .le 6, 3)) ∧ (decode cX11_row 28 = .ok (.iload_n 3, 1)) ∧ (decode cX11_row 29 = .ok (.ifCond .ge 6, 3)) ∧ (decode cX11_row 35 = .ok (.aload_n 0, 1)) ∧ (decode cX11_row 36 = .ok (.getfield 61, 3)) ∧ (decode cX11_row 39 = .ok (.iload_n 1, 1)) ∧ (decode cX11_row 40 = .ok (.iload_n 3, 1)) ∧ (decode cX11_row 41 = .ok (.iastore, 1)) ∧ (decode cX11_row 42 = .ok (.aload_n 0, 1)) ∧ (decode cX11_row 43 = .ok (.getfield 64, 3)) ∧ (decode cX11_row 46 = .ok (.iload_n 1, 1)) := by decide +kernel
theorem dX11_row_0 : decode cX11_row 0 = .ok (.iload_n 1, 1) := db446.1
theorem dX11_row_1 : decode cX11_row 1 = .ok (.invokestatic 290, 3) := db446.2.1
theorem dX11_row_4 : decode cX11_row 4 = .ok (.ifCond .eq 21, 3) := db446.2.2.1
theorem dX11_row_25 : decode cX11_row 25 = .ok (.bipush (-2), 2) := db446.2.2.2.1
theorem dX11_row_27 : decode cX11_row 27 = .ok (.ireturn, 1) := db446.2.2.2.2.1
theorem dX11_row_7 : decode cX11_row 7 = .ok (.iload_n 2, 1) := db446.2.2.2.2.2.1
theorem dX11_row_8 : decode cX11_row 8 = .ok (.i2l, 1) := db446.2.2.2.2.2.2.1
theorem dX11_row_9 : decode cX11_row 9 = .ok (.lconst 0, 1) := db446.2.2.2.2.2.2.2.1
theorem dX11_row_10 : decode cX11_row 10 = .ok (.ldc2_w 225, 3) := db446.2.2.2.2.2.2.2.2.1
theorem dX11_row_13 : decode cX11_row 13 = .ok (.invokestatic 79, 3) := db446.2.2.2.2.2.2.2.2.2.1
theorem dX11_row_16 : decode cX11_row 16 = .ok (.ifCond .eq 9, 3) := db446.2.2.2.2.2.2.2.2.2.2.1
theorem dX11_row_19 : decode cX11_row 19 = .ok (.iload_n 3, 1) := db446.2.2.2.2.2.2.2.2.2.2.2.1
theorem dX11_row_20 : decode cX11_row 20 = .ok (.bipush 60, 2) := db446.2.2.2.2.2.2.2.2.2.2.2.2.1
theorem dX11_row_22 : decode cX11_row 22 = .ok (.if_icmp .le 6, 3) := db446.2.2.2.2.2.2.2.2.2.2.2.2.2.1
theorem dX11_row_28 : decode cX11_row 28 = .ok (.iload_n 3, 1) := db446.2.2.2.2.2.2.2.2.2.2.2.2.2.2.1
theorem dX11_row_29 : decode cX11_row 29 = .ok (.ifCond .ge 6, 3) := db446.2.2.2.2.2.2.2.2.2.2.2.2.2.2.2.1
theorem dX11_row_35 : decode cX11_row 35 = .ok (.aload_n 0, 1) := db446.2.2.2.2.2.2.2.2.2.2.2.2.2.2.2.2.1
theorem dX11_row_36 : decode cX11_row 36 = .ok (.getfield 61, 3) := db446.2.2.2.2.2.2.2.2.2.2.2.2.2.2.2.2.2.1
theorem dX11_row_39 : decode cX11_row 39 = .ok (.iload_n 1, 1) := db446.2.2.2.2.2.2.2.2.2.2.2.2.2.2.2.2.2.2.1
theorem dX11_row_40 : decode cX11_row 40 = .ok (.iload_n 3, 1) := db446.2.2.2.2.2.2.2.2.2.2.2.2.2.2.2.2.2.2.2.1
theorem dX11_row_41 : decode cX11_row 41 = .ok (.iastore, 1) := db446.2.2.2.2.2.2.2.2.2.2.2.2.2.2.2.2.2.2.2.2.1
theorem dX11_row_42 : decode cX11_row 42 = .ok (.aload_n 0, 1) := db446.2.2.2.2.2.2.2.2.2.2.2.2.2.2.2.2.2.2.2.2.2.1
theorem dX11_row_43 : decode cX11_row 43 = .ok (.getfield 64, 3) := db446.2.2.2.2.2.2.2.2.2.2.2.2.2.2.2.2.2.2.2.2.2.2.1
theorem dX11_row_46 : decode cX11_row 46 = .ok (.iload_n 1, 1) := db446.2.2.2.2.2.2.2.2.2.2.2.2.2.2.2.2.2.2.2.2.2.2.2
theorem db447 : (decode cX11_row 47 = .ok (.iload_n 2, 1)) ∧ (decode cX11_row 48 = .ok (.iastore, 1)) ∧ (decode cX11_row 49 = .ok (.iconst 0, 1)) ∧ (decode cX11_row 50 = .ok (.istore 4, 2)) ∧ (decode cX11_row 52 = .ok (.iload 4, 2)) ∧ (decode cX11_row 54 = .ok (.bipush 60, 2)) ∧ (decode cX11_row 56 = .ok (.if_icmp .ge 22, 3)) ∧ (decode cX11_row 78 = .ok (.iconst 0, 1)) ∧ (decode cX11_row 79 = .ok (.ireturn, 1)) ∧ (decode cX11_row 59 = .ok (.aload_n 0, 1)) ∧ (decode cX11_row 60 = .ok (.getfield 67, 3)) ∧ (decode cX11_row 63 = .ok (.bipush 60, 2)) ∧ (decode cX11_row 65 = .ok (.iload_n 1, 1)) ∧ (decode cX11_row 66 = .ok (.imul, 1)) ∧ (decode cX11_row 67 = .ok (.iload 4, 2)) ∧ (decode cX11_row 69 = .ok (.iadd, 1)) ∧ (decode cX11_row 70 = .ok (.lconst 0, 1)) ∧ (decode cX11_row 71 = .ok (.lastore, 1)) ∧ (decode cX11_row 72 = .ok (.iinc 4 1, 3)) ∧ (decode cX11_row 75 = .ok (.goto (-23), 3)) ∧ (decode cX11_row 32 = .ok (.bipush (-3), 2)) ∧ (decode cX11_row 34 = .ok (.ireturn, 1)) := by decide +kernel
theorem dX11_row_47 : decode cX11_row 47 = .ok (.iload_n 2, 1) := db447.1
theorem dX11_row_48 : decode cX11_row 48 = .ok (.iastore, 1) := db447.2.1
theorem dX11_row_49 : decode cX11_row 49 = .ok (.iconst 0, 1) := db447.2.2.1
theorem dX11_row_50 : decode cX11_row 50 = .ok (.istore 4, 2) := db447.2.2.2.1
theorem dX11_row_52 : decode cX11_row 52 = .ok (.iload 4, 2) := db447.2.2.2.2.1
theorem dX11_row_54 : decode cX11_row 54 = .ok (.bipush 60, 2) := db447.2.2.2.2.2.1
theorem dX11_row_56 : decode cX11_row 56 = .ok (.if_icmp .ge 22, 3) := db447.2.2.2.2.2.2.1
theorem dX11_row_78 : decode cX11_row 78 = .ok (.iconst 0, 1) := db447.2.2.2.2.2.2.2.1
theorem dX11_row_79 : decode cX11_row 79 = .ok (.ireturn, 1) := db447.2.2.2.2.2.2.2.2.1
theorem dX11_row_59 : decode cX11_row 59 = .ok (.aload_n 0, 1) := db447.2.2.2.2.2.2.2.2.2.1
theorem dX11_row_60 : decode cX11_row 60 = .ok (.getfield 67, 3) := db447.2.2.2.2.2.2.2.2.2.2.1
theorem dX11_row_63 : decode cX11_row 63 = .ok (.bipush 60, 2) := db447.2.2.2.2.2.2.2.2.2.2.2.1
theorem dX11_row_65 : decode cX11_row 65 = .ok (.iload_n 1, 1) := db447.2.2.2.2.2.2.2.2.2.2.2.2.1
theorem dX11_row_66 : decode cX11_row 66 = .ok (.imul, 1) := db447.2.2.2.2.2.2.2.2.2.2.2.2.2.1
theorem dX11_row_67 : decode cX11_row 67 = .ok (.iload 4, 2) := db447.2.2.2.2.2.2.2.2.2.2.2.2.2.2.1
theorem dX11_row_69 : decode cX11_row 69 = .ok (.iadd, 1) := db447.2.2.2.2.2.2.2.2.2.2.2.2.2.2.2.1
theorem dX11_row_70 : decode cX11_row 70 = .ok (.lconst 0, 1) := db447.2.2.2.2.2.2.2.2.2.2.2.2.2.2.2.2.1
theorem dX11_row_71 : decode cX11_row 71 = .ok (.lastore, 1) := db447.2.2.2.2.2.2.2.2.2.2.2.2.2.2.2.2.2.1
theorem dX11_row_72 : decode cX11_row 72 = .ok (.iinc 4 1, 3) := db447.2.2.2.2.2.2.2.2.2.2.2.2.2.2.2.2.2.2.1
theorem dX11_row_75 : decode cX11_row 75 = .ok (.goto (-23), 3) := db447.2.2.2.2.2.2.2.2.2.2.2.2.2.2.2.2.2.2.2.1
theorem dX11_row_32 : decode cX11_row 32 = .ok (.bipush (-3), 2) := db447.2.2.2.2.2.2.2.2.2.2.2.2.2.2.2.2.2.2.2.2.1
theorem dX11_row_34 : decode cX11_row 34 = .ok (.ireturn, 1) := db447.2.2.2.2.2.2.2.2.2.2.2.2.2.2.2.2.2.2.2.2.2
theorem db448 : (decode cX11_saying 0 = .ok (.iconst 0, 1)) ∧ (decode cX11_saying 1 = .ok (.istore_n 3, 1)) ∧ (decode cX11_saying 2 = .ok (.iconst 0, 1)) ∧ (decode cX11_saying 3 = .ok (.istore 4, 2)) ∧ (decode cX11_saying 5 = .ok (.iload 4, 2)) ∧ (decode cX11_saying 7 = .ok (.aload_n 0, 1)) ∧ (decode cX11_saying 8 = .ok (.getfield 9, 3)) ∧ (decode cX11_saying 11 = .ok (.iconst 5, 1)) ∧ (decode cX11_saying 12 = .ok (.iaload, 1)) ∧ (decode cX11_saying 13 = .ok (.if_icmp .ge 45, 3)) ∧ (decode cX11_saying 58 = .ok (.iload_n 3, 1)) ∧ (decode cX11_saying 59 = .ok (.ireturn, 1)) ∧ (decode cX11_saying 16 = .ok (.iload_n 3, 1)) ∧ (decode cX11_saying 17 = .ok (.iload_n 1, 1)) ∧ (decode cX11_saying 18 = .ok (.iload 4, 2)) ∧ (decode cX11_saying 20 = .ok (.invokestatic 258, 3)) ∧ (decode cX11_saying 23 = .ok (.iconst 1, 1)) ∧ (decode cX11_saying 50 = .ok (.ior, 1)) ∧ (decode cX11_saying 51 = .ok (.istore_n 3, 1)) ∧ (decode cX11_saying 52 = .ok (.iinc 4 1, 3)) ∧ (decode cX11_saying 55 = .ok (.goto (-50), 3)) ∧ (decode cX11_saying 49 = .ok (.iconst 0, 1)) ∧ (decode cX11_saying 24 = .ok (.if_icmp .ne 25, 3)) ∧ (decode cX11_saying 27 = .ok (.aload_n 0, 1)) := by decide +kernel
theorem dX11_saying_0 : decode cX11_saying 0 = .ok (.iconst 0, 1) := db448.1
theorem dX11_saying_1 : decode cX11_saying 1 = .ok (.istore_n 3, 1) := db448.2.1
theorem dX11_saying_2 : decode cX11_saying 2 = .ok (.iconst 0, 1) := db448.2.2.1
theorem dX11_saying_3 : decode cX11_saying 3 = .ok (.istore 4, 2) := db448.2.2.2.1
theorem dX11_saying_5 : decode cX11_saying 5 = .ok (.iload 4, 2) := db448.2.2.2.2.1
theorem dX11_saying_7 : decode cX11_saying 7 = .ok (.aload_n 0, 1) := db448.2.2.2.2.2.1
theorem dX11_saying_8 : decode cX11_saying 8 = .ok (.getfield 9, 3) := db448.2.2.2.2.2.2.1
theorem dX11_saying_11 : decode cX11_saying 11 = .ok (.iconst 5, 1) := db448.2.2.2.2.2.2.2.1
theorem dX11_saying_12 : decode cX11_saying 12 = .ok (.iaload, 1) := db448.2.2.2.2.2.2.2.2.1
theorem dX11_saying_13 : decode cX11_saying 13 = .ok (.if_icmp .ge 45, 3) := db448.2.2.2.2.2.2.2.2.2.1
theorem dX11_saying_58 : decode cX11_saying 58 = .ok (.iload_n 3, 1) := db448.2.2.2.2.2.2.2.2.2.2.1
theorem dX11_saying_59 : decode cX11_saying 59 = .ok (.ireturn, 1) := db448.2.2.2.2.2.2.2.2.2.2.2.1
theorem dX11_saying_16 : decode cX11_saying 16 = .ok (.iload_n 3, 1) := db448.2.2.2.2.2.2.2.2.2.2.2.2.1
theorem dX11_saying_17 : decode cX11_saying 17 = .ok (.iload_n 1, 1) := db448.2.2.2.2.2.2.2.2.2.2.2.2.2.1
theorem dX11_saying_18 : decode cX11_saying 18 = .ok (.iload 4, 2) := db448.2.2.2.2.2.2.2.2.2.2.2.2.2.2.1
theorem dX11_saying_20 : decode cX11_saying 20 = .ok (.invokestatic 258, 3) := db448.2.2.2.2.2.2.2.2.2.2.2.2.2.2.2.1
theorem dX11_saying_23 : decode cX11_saying 23 = .ok (.iconst 1, 1) := db448.2.2.2.2.2.2.2.2.2.2.2.2.2.2.2.2.1
theorem dX11_saying_50 : decode cX11_saying 50 = .ok (.ior, 1) := db448.2.2.2.2.2.2.2.2.2.2.2.2.2.2.2.2.2.1
theorem dX11_saying_51 : decode cX11_saying 51 = .ok (.istore_n 3, 1) := db448.2.2.2.2.2.2.2.2.2.2.2.2.2.2.2.2.2.2.1
theorem dX11_saying_52 : decode cX11_saying 52 = .ok (.iinc 4 1, 3) := db448.2.2.2.2.2.2.2.2.2.2.2.2.2.2.2.2.2.2.2.1
theorem dX11_saying_55 : decode cX11_saying 55 = .ok (.goto (-50), 3) := db448.2.2.2.2.2.2.2.2.2.2.2.2.2.2.2.2.2.2.2.2.1
theorem dX11_saying_49 : decode cX11_saying 49 = .ok (.iconst 0, 1) := db448.2.2.2.2.2.2.2.2.2.2.2.2.2.2.2.2.2.2.2.2.2.1
theorem dX11_saying_24 : decode cX11_saying 24 = .ok (.if_icmp .ne 25, 3) := db448.2.2.2.2.2.2.2.2.2.2.2.2.2.2.2.2.2.2.2.2.2.2.1
theorem dX11_saying_27 : decode cX11_saying 27 = .ok (.aload_n 0, 1) := db448.2.2.2.2.2.2.2.2.2.2.2.2.2.2.2.2.2.2.2.2.2.2.2
theorem db449 : (decode cX11_saying 28 = .ok (.iload 4, 2)) ∧ (decode cX11_saying 30 = .ok (.iconst 1, 1)) ∧ (decode cX11_saying 31 = .ok (.invokevirtual 234, 3)) ∧ (decode cX11_saying 34 = .ok (.iload_n 2, 1)) ∧ (decode cX11_saying 35 = .ok (.invokestatic 258, 3)) ∧ (decode cX11_saying 38 = .ok (.iconst 1, 1)) ∧ (decode cX11_saying 39 = .ok (.if_icmp .ne 10, 3)) ∧ (decode cX11_saying 42 = .ok (.iconst 1, 1)) ∧ (decode cX11_saying 43 = .ok (.iload 4, 2)) ∧ (decode cX11_saying 45 = .ok (.ishl, 1)) ∧ (decode cX11_saying 46 = .ok (.goto 4, 3)) := by decide +kernel
theorem dX11_saying_28 : decode cX11_saying 28 = .ok (.iload 4, 2) := db449.1
theorem dX11_saying_30 : decode cX11_saying 30 = .ok (.iconst 1, 1) := db449.2.1
theorem dX11_saying_31 : decode cX11_saying 31 = .ok (.invokevirtual 234, 3) := db449.2.2.1
theorem dX11_saying_34 : decode cX11_saying 34 = .ok (.iload_n 2, 1) := db449.2.2.2.1
theorem dX11_saying_35 : decode cX11_saying 35 = .ok (.invokestatic 258, 3) := db449.2.2.2.2.1
theorem dX11_saying_38 : decode cX11_saying 38 = .ok (.iconst 1, 1) := db449.2.2.2.2.2.1
theorem dX11_saying_39 : decode cX11_saying 39 = .ok (.if_icmp .ne 10, 3) := db449.2.2.2.2.2.2.1
theorem dX11_saying_42 : decode cX11_saying 42 = .ok (.iconst 1, 1) := db449.2.2.2.2.2.2.2.1
theorem dX11_saying_43 : decode cX11_saying 43 = .ok (.iload 4, 2) := db449.2.2.2.2.2.2.2.2.1
theorem dX11_saying_45 : decode cX11_saying 45 = .ok (.ishl, 1) := db449.2.2.2.2.2.2.2.2.2.1
theorem dX11_saying_46 : decode cX11_saying 46 = .ok (.goto 4, 3) := db449.2.2.2.2.2.2.2.2.2.2
theorem db450 : (decode cX11_see 0 = .ok (.iload_n 1, 1)) ∧ (decode cX11_see 1 = .ok (.aload_n 0, 1)) ∧ (decode cX11_see 2 = .ok (.getfield 96, 3)) ∧ (decode cX11_see 5 = .ok (.if_icmp .ge 16, 3)) ∧ (decode cX11_see 21 = .ok (.iconst (-1), 1)) ∧ (decode cX11_see 22 = .ok (.ireturn, 1)) ∧ (decode cX11_see 8 = .ok (.aload_n 0, 1)) ∧ (decode cX11_see 9 = .ok (.getfield 20, 3)) ∧ (decode cX11_see 12 = .ok (.iload_n 1, 1)) ∧ (decode cX11_see 13 = .ok (.baload, 1)) ∧ (decode cX11_see 14 = .ok (.sipush 255, 3)) ∧ (decode cX11_see 17 = .ok (.iand, 1)) ∧ (decode cX11_see 18 = .ok (.goto 4, 3)) := by decide +kernel
theorem dX11_see_0 : decode cX11_see 0 = .ok (.iload_n 1, 1) := db450.1
theorem dX11_see_1 : decode cX11_see 1 = .ok (.aload_n 0, 1) := db450.2.1
theorem dX11_see_2 : decode cX11_see 2 = .ok (.getfield 96, 3) := db450.2.2.1
theorem dX11_see_5 : decode cX11_see 5 = .ok (.if_icmp .ge 16, 3) := db450.2.2.2.1
theorem dX11_see_21 : decode cX11_see 21 = .ok (.iconst (-1), 1) := db450.2.2.2.2.1
theorem dX11_see_22 : decode cX11_see 22 = .ok (.ireturn, 1) := db450.2.2.2.2.2.1
theorem dX11_see_8 : decode cX11_see 8 = .ok (.aload_n 0, 1) := db450.2.2.2.2.2.2.1
theorem dX11_see_9 : decode cX11_see 9 = .ok (.getfield 20, 3) := db450.2.2.2.2.2.2.2.1
theorem dX11_see_12 : decode cX11_see 12 = .ok (.iload_n 1, 1) := db450.2.2.2.2.2.2.2.2.1
theorem dX11_see_13 : decode cX11_see 13 = .ok (.baload, 1) := db450.2.2.2.2.2.2.2.2.2.1
theorem dX11_see_14 : decode cX11_see 14 = .ok (.sipush 255, 3) := db450.2.2.2.2.2.2.2.2.2.2.1
theorem dX11_see_17 : decode cX11_see 17 = .ok (.iand, 1) := db450.2.2.2.2.2.2.2.2.2.2.2.1
theorem dX11_see_18 : decode cX11_see 18 = .ok (.goto 4, 3) := db450.2.2.2.2.2.2.2.2.2.2.2.2
theorem db451 : (decode cX11_shut 0 = .ok (.aload_n 0, 1)) ∧ (decode cX11_shut 1 = .ok (.iload_n 1, 1)) ∧ (decode cX11_shut 2 = .ok (.i2l, 1)) ∧ (decode cX11_shut 3 = .ok (.invokevirtual 89, 3)) ∧ (decode cX11_shut 6 = .ok (.ifCond .eq 27, 3)) ∧ (decode cX11_shut 33 = .ok (.bipush (-2), 2)) ∧ (decode cX11_shut 35 = .ok (.ireturn, 1)) ∧ (decode cX11_shut 9 = .ok (.aload_n 0, 1)) ∧ (decode cX11_shut 10 = .ok (.iload_n 2, 1)) ∧ (decode cX11_shut 11 = .ok (.i2l, 1)) ∧ (decode cX11_shut 12 = .ok (.invokevirtual 89, 3)) ∧ (decode cX11_shut 15 = .ok (.ifCond .eq 18, 3)) ∧ (decode cX11_shut 18 = .ok (.iload_n 1, 1)) ∧ (decode cX11_shut 19 = .ok (.iload_n 2, 1)) ∧ (decode cX11_shut 20 = .ok (.if_icmp .eq 13, 3)) ∧ (decode cX11_shut 23 = .ok (.iload_n 3, 1)) ∧ (decode cX11_shut 24 = .ok (.i2l, 1)) ∧ (decode cX11_shut 25 = .ok (.lconst 0, 1)) ∧ (decode cX11_shut 26 = .ok (.lconst 1, 1)) ∧ (decode cX11_shut 27 = .ok (.invokestatic 79, 3)) ∧ (decode cX11_shut 30 = .ok (.ifCond .ne 6, 3)) ∧ (decode cX11_shut 36 = .ok (.aload_n 0, 1)) ∧ (decode cX11_shut 37 = .ok (.getfield 9, 3)) ∧ (decode cX11_shut 40 = .ok (.bipush 7, 2)) := by decide +kernel
theorem dX11_shut_0 : decode cX11_shut 0 = .ok (.aload_n 0, 1) := db451.1
theorem dX11_shut_1 : decode cX11_shut 1 = .ok (.iload_n 1, 1) := db451.2.1
theorem dX11_shut_2 : decode cX11_shut 2 = .ok (.i2l, 1) := db451.2.2.1
theorem dX11_shut_3 : decode cX11_shut 3 = .ok (.invokevirtual 89, 3) := db451.2.2.2.1
theorem dX11_shut_6 : decode cX11_shut 6 = .ok (.ifCond .eq 27, 3) := db451.2.2.2.2.1
theorem dX11_shut_33 : decode cX11_shut 33 = .ok (.bipush (-2), 2) := db451.2.2.2.2.2.1
theorem dX11_shut_35 : decode cX11_shut 35 = .ok (.ireturn, 1) := db451.2.2.2.2.2.2.1
theorem dX11_shut_9 : decode cX11_shut 9 = .ok (.aload_n 0, 1) := db451.2.2.2.2.2.2.2.1
theorem dX11_shut_10 : decode cX11_shut 10 = .ok (.iload_n 2, 1) := db451.2.2.2.2.2.2.2.2.1
theorem dX11_shut_11 : decode cX11_shut 11 = .ok (.i2l, 1) := db451.2.2.2.2.2.2.2.2.2.1
theorem dX11_shut_12 : decode cX11_shut 12 = .ok (.invokevirtual 89, 3) := db451.2.2.2.2.2.2.2.2.2.2.1
theorem dX11_shut_15 : decode cX11_shut 15 = .ok (.ifCond .eq 18, 3) := db451.2.2.2.2.2.2.2.2.2.2.2.1
theorem dX11_shut_18 : decode cX11_shut 18 = .ok (.iload_n 1, 1) := db451.2.2.2.2.2.2.2.2.2.2.2.2.1
theorem dX11_shut_19 : decode cX11_shut 19 = .ok (.iload_n 2, 1) := db451.2.2.2.2.2.2.2.2.2.2.2.2.2.1
theorem dX11_shut_20 : decode cX11_shut 20 = .ok (.if_icmp .eq 13, 3) := db451.2.2.2.2.2.2.2.2.2.2.2.2.2.2.1
theorem dX11_shut_23 : decode cX11_shut 23 = .ok (.iload_n 3, 1) := db451.2.2.2.2.2.2.2.2.2.2.2.2.2.2.2.1
theorem dX11_shut_24 : decode cX11_shut 24 = .ok (.i2l, 1) := db451.2.2.2.2.2.2.2.2.2.2.2.2.2.2.2.2.1
theorem dX11_shut_25 : decode cX11_shut 25 = .ok (.lconst 0, 1) := db451.2.2.2.2.2.2.2.2.2.2.2.2.2.2.2.2.2.1
theorem dX11_shut_26 : decode cX11_shut 26 = .ok (.lconst 1, 1) := db451.2.2.2.2.2.2.2.2.2.2.2.2.2.2.2.2.2.2.1
theorem dX11_shut_27 : decode cX11_shut 27 = .ok (.invokestatic 79, 3) := db451.2.2.2.2.2.2.2.2.2.2.2.2.2.2.2.2.2.2.2.1
theorem dX11_shut_30 : decode cX11_shut 30 = .ok (.ifCond .ne 6, 3) := db451.2.2.2.2.2.2.2.2.2.2.2.2.2.2.2.2.2.2.2.2.1
theorem dX11_shut_36 : decode cX11_shut 36 = .ok (.aload_n 0, 1) := db451.2.2.2.2.2.2.2.2.2.2.2.2.2.2.2.2.2.2.2.2.2.1
theorem dX11_shut_37 : decode cX11_shut 37 = .ok (.getfield 9, 3) := db451.2.2.2.2.2.2.2.2.2.2.2.2.2.2.2.2.2.2.2.2.2.2.1
theorem dX11_shut_40 : decode cX11_shut 40 = .ok (.bipush 7, 2) := db451.2.2.2.2.2.2.2.2.2.2.2.2.2.2.2.2.2.2.2.2.2.2.2
theorem db452 : (decode cX11_shut 42 = .ok (.iaload, 1)) ∧ (decode cX11_shut 43 = .ok (.ifCond .le 6, 3)) ∧ (decode cX11_shut 49 = .ok (.aload_n 0, 1)) ∧ (decode cX11_shut 50 = .ok (.iload_n 1, 1)) ∧ (decode cX11_shut 51 = .ok (.iconst 3, 1)) ∧ (decode cX11_shut 52 = .ok (.invokevirtual 227, 3)) ∧ (decode cX11_shut 55 = .ok (.iload_n 2, 1)) ∧ (decode cX11_shut 56 = .ok (.invokestatic 258, 3)) ∧ (decode cX11_shut 59 = .ok (.istore 4, 2)) ∧ (decode cX11_shut 61 = .ok (.aload_n 0, 1)) ∧ (decode cX11_shut 62 = .ok (.iload_n 1, 1)) ∧ (decode cX11_shut 63 = .ok (.iload_n 2, 1)) ∧ (decode cX11_shut 64 = .ok (.iload_n 3, 1)) ∧ (decode cX11_shut 65 = .ok (.invokevirtual 456, 3)) ∧ (decode cX11_shut 68 = .ok (.aload_n 0, 1)) ∧ (decode cX11_shut 69 = .ok (.iload_n 2, 1)) ∧ (decode cX11_shut 70 = .ok (.iload_n 1, 1)) ∧ (decode cX11_shut 71 = .ok (.iload_n 3, 1)) ∧ (decode cX11_shut 72 = .ok (.invokevirtual 456, 3)) ∧ (decode cX11_shut 75 = .ok (.iload 4, 2)) ∧ (decode cX11_shut 77 = .ok (.ireturn, 1)) ∧ (decode cX11_shut 46 = .ok (.bipush (-5), 2)) ∧ (decode cX11_shut 48 = .ok (.ireturn, 1)) := by decide +kernel
theorem dX11_shut_42 : decode cX11_shut 42 = .ok (.iaload, 1) := db452.1
theorem dX11_shut_43 : decode cX11_shut 43 = .ok (.ifCond .le 6, 3) := db452.2.1
theorem dX11_shut_49 : decode cX11_shut 49 = .ok (.aload_n 0, 1) := db452.2.2.1
theorem dX11_shut_50 : decode cX11_shut 50 = .ok (.iload_n 1, 1) := db452.2.2.2.1
theorem dX11_shut_51 : decode cX11_shut 51 = .ok (.iconst 3, 1) := db452.2.2.2.2.1
theorem dX11_shut_52 : decode cX11_shut 52 = .ok (.invokevirtual 227, 3) := db452.2.2.2.2.2.1
theorem dX11_shut_55 : decode cX11_shut 55 = .ok (.iload_n 2, 1) := db452.2.2.2.2.2.2.1
theorem dX11_shut_56 : decode cX11_shut 56 = .ok (.invokestatic 258, 3) := db452.2.2.2.2.2.2.2.1
theorem dX11_shut_59 : decode cX11_shut 59 = .ok (.istore 4, 2) := db452.2.2.2.2.2.2.2.2.1
theorem dX11_shut_61 : decode cX11_shut 61 = .ok (.aload_n 0, 1) := db452.2.2.2.2.2.2.2.2.2.1
theorem dX11_shut_62 : decode cX11_shut 62 = .ok (.iload_n 1, 1) := db452.2.2.2.2.2.2.2.2.2.2.1
theorem dX11_shut_63 : decode cX11_shut 63 = .ok (.iload_n 2, 1) := db452.2.2.2.2.2.2.2.2.2.2.2.1
theorem dX11_shut_64 : decode cX11_shut 64 = .ok (.iload_n 3, 1) := db452.2.2.2.2.2.2.2.2.2.2.2.2.1
theorem dX11_shut_65 : decode cX11_shut 65 = .ok (.invokevirtual 456, 3) := db452.2.2.2.2.2.2.2.2.2.2.2.2.2.1
theorem dX11_shut_68 : decode cX11_shut 68 = .ok (.aload_n 0, 1) := db452.2.2.2.2.2.2.2.2.2.2.2.2.2.2.1
theorem dX11_shut_69 : decode cX11_shut 69 = .ok (.iload_n 2, 1) := db452.2.2.2.2.2.2.2.2.2.2.2.2.2.2.2.1
theorem dX11_shut_70 : decode cX11_shut 70 = .ok (.iload_n 1, 1) := db452.2.2.2.2.2.2.2.2.2.2.2.2.2.2.2.2.1
theorem dX11_shut_71 : decode cX11_shut 71 = .ok (.iload_n 3, 1) := db452.2.2.2.2.2.2.2.2.2.2.2.2.2.2.2.2.2.1
theorem dX11_shut_72 : decode cX11_shut 72 = .ok (.invokevirtual 456, 3) := db452.2.2.2.2.2.2.2.2.2.2.2.2.2.2.2.2.2.2.1
theorem dX11_shut_75 : decode cX11_shut 75 = .ok (.iload 4, 2) := db452.2.2.2.2.2.2.2.2.2.2.2.2.2.2.2.2.2.2.2.1
theorem dX11_shut_77 : decode cX11_shut 77 = .ok (.ireturn, 1) := db452.2.2.2.2.2.2.2.2.2.2.2.2.2.2.2.2.2.2.2.2.1
theorem dX11_shut_46 : decode cX11_shut 46 = .ok (.bipush (-5), 2) := db452.2.2.2.2.2.2.2.2.2.2.2.2.2.2.2.2.2.2.2.2.2.1
theorem dX11_shut_48 : decode cX11_shut 48 = .ok (.ireturn, 1) := db452.2.2.2.2.2.2.2.2.2.2.2.2.2.2.2.2.2.2.2.2.2.2
theorem db453 : (decode cX11_slate 0 = .ok (.aload_n 0, 1)) ∧ (decode cX11_slate 1 = .ok (.iload_n 1, 1)) ∧ (decode cX11_slate 2 = .ok (.invokevirtual 230, 3)) ∧ (decode cX11_slate 5 = .ok (.ifCond .eq 22, 3)) ∧ (decode cX11_slate 27 = .ok (.bipush (-2), 2)) ∧ (decode cX11_slate 29 = .ok (.ireturn, 1)) ∧ (decode cX11_slate 8 = .ok (.aload_n 0, 1)) ∧ (decode cX11_slate 9 = .ok (.iload_n 2, 1)) ∧ (decode cX11_slate 10 = .ok (.invokevirtual 230, 3)) ∧ (decode cX11_slate 13 = .ok (.ifCond .eq 14, 3)) ∧ (decode cX11_slate 16 = .ok (.aload_n 0, 1)) ∧ (decode cX11_slate 17 = .ok (.iload_n 1, 1)) ∧ (decode cX11_slate 18 = .ok (.iconst 2, 1)) ∧ (decode cX11_slate 19 = .ok (.iload_n 2, 1)) ∧ (decode cX11_slate 20 = .ok (.iadd, 1)) ∧ (decode cX11_slate 21 = .ok (.invokevirtual 234, 3)) ∧ (decode cX11_slate 24 = .ok (.goto 5, 3)) := by decide +kernel
theorem dX11_slate_0 : decode cX11_slate 0 = .ok (.aload_n 0, 1) := db453.1
theorem dX11_slate_1 : decode cX11_slate 1 = .ok (.iload_n 1, 1) := db453.2.1
theorem dX11_slate_2 : decode cX11_slate 2 = .ok (.invokevirtual 230, 3) := db453.2.2.1
theorem dX11_slate_5 : decode cX11_slate 5 = .ok (.ifCond .eq 22, 3) := db453.2.2.2.1
theorem dX11_slate_27 : decode cX11_slate 27 = .ok (.bipush (-2), 2) := db453.2.2.2.2.1
theorem dX11_slate_29 : decode cX11_slate 29 = .ok (.ireturn, 1) := db453.2.2.2.2.2.1
theorem dX11_slate_8 : decode cX11_slate 8 = .ok (.aload_n 0, 1) := db453.2.2.2.2.2.2.1
theorem dX11_slate_9 : decode cX11_slate 9 = .ok (.iload_n 2, 1) := db453.2.2.2.2.2.2.2.1
theorem dX11_slate_10 : decode cX11_slate 10 = .ok (.invokevirtual 230, 3) := db453.2.2.2.2.2.2.2.2.1
theorem dX11_slate_13 : decode cX11_slate 13 = .ok (.ifCond .eq 14, 3) := db453.2.2.2.2.2.2.2.2.2.1
theorem dX11_slate_16 : decode cX11_slate 16 = .ok (.aload_n 0, 1) := db453.2.2.2.2.2.2.2.2.2.2.1
theorem dX11_slate_17 : decode cX11_slate 17 = .ok (.iload_n 1, 1) := db453.2.2.2.2.2.2.2.2.2.2.2.1
theorem dX11_slate_18 : decode cX11_slate 18 = .ok (.iconst 2, 1) := db453.2.2.2.2.2.2.2.2.2.2.2.2.1
theorem dX11_slate_19 : decode cX11_slate 19 = .ok (.iload_n 2, 1) := db453.2.2.2.2.2.2.2.2.2.2.2.2.2.1
theorem dX11_slate_20 : decode cX11_slate 20 = .ok (.iadd, 1) := db453.2.2.2.2.2.2.2.2.2.2.2.2.2.2.1
theorem dX11_slate_21 : decode cX11_slate 21 = .ok (.invokevirtual 234, 3) := db453.2.2.2.2.2.2.2.2.2.2.2.2.2.2.2.1
theorem dX11_slate_24 : decode cX11_slate 24 = .ok (.goto 5, 3) := db453.2.2.2.2.2.2.2.2.2.2.2.2.2.2.2.2
theorem db454 : (decode cX11_slateAll 0 = .ok (.lconst 0, 1)) ∧ (decode cX11_slateAll 1 = .ok (.lstore_n 2, 1)) ∧ (decode cX11_slateAll 2 = .ok (.iconst 0, 1)) ∧ (decode cX11_slateAll 3 = .ok (.istore 4, 2)) ∧ (decode cX11_slateAll 5 = .ok (.iload 4, 2)) ∧ (decode cX11_slateAll 7 = .ok (.aload_n 0, 1)) ∧ (decode cX11_slateAll 8 = .ok (.getfield 9, 3)) ∧ (decode cX11_slateAll 11 = .ok (.iconst 5, 1)) ∧ (decode cX11_slateAll 12 = .ok (.iaload, 1)) ∧ (decode cX11_slateAll 13 = .ok (.if_icmp .ge 22, 3)) ∧ (decode cX11_slateAll 35 = .ok (.lload_n 2, 1)) ∧ (decode cX11_slateAll 36 = .ok (.lconst 0, 1)) ∧ (decode cX11_slateAll 37 = .ok (.lcmp, 1)) ∧ (decode cX11_slateAll 38 = .ok (.ifCond .ne 7, 3)) ∧ (decode cX11_slateAll 45 = .ok (.lload_n 2, 1)) ∧ (decode cX11_slateAll 46 = .ok (.lreturn, 1)) ∧ (decode cX11_slateAll 41 = .ok (.lconst 1, 1)) ∧ (decode cX11_slateAll 42 = .ok (.goto 4, 3)) ∧ (decode cX11_slateAll 16 = .ok (.lload_n 2, 1)) ∧ (decode cX11_slateAll 17 = .ok (.aload_n 0, 1)) ∧ (decode cX11_slateAll 18 = .ok (.iload_n 1, 1)) ∧ (decode cX11_slateAll 19 = .ok (.iconst 2, 1)) ∧ (decode cX11_slateAll 20 = .ok (.iload 4, 2)) ∧ (decode cX11_slateAll 22 = .ok (.iadd, 1)) := by decide +kernel
theorem dX11_slateAll_0 : decode cX11_slateAll 0 = .ok (.lconst 0, 1) := db454.1
theorem dX11_slateAll_1 : decode cX11_slateAll 1 = .ok (.lstore_n 2, 1) := db454.2.1
theorem dX11_slateAll_2 : decode cX11_slateAll 2 = .ok (.iconst 0, 1) := db454.2.2.1
theorem dX11_slateAll_3 : decode cX11_slateAll 3 = .ok (.istore 4, 2) := db454.2.2.2.1
theorem dX11_slateAll_5 : decode cX11_slateAll 5 = .ok (.iload 4, 2) := db454.2.2.2.2.1
theorem dX11_slateAll_7 : decode cX11_slateAll 7 = .ok (.aload_n 0, 1) := db454.2.2.2.2.2.1
theorem dX11_slateAll_8 : decode cX11_slateAll 8 = .ok (.getfield 9, 3) := db454.2.2.2.2.2.2.1
theorem dX11_slateAll_11 : decode cX11_slateAll 11 = .ok (.iconst 5, 1) := db454.2.2.2.2.2.2.2.1
theorem dX11_slateAll_12 : decode cX11_slateAll 12 = .ok (.iaload, 1) := db454.2.2.2.2.2.2.2.2.1
theorem dX11_slateAll_13 : decode cX11_slateAll 13 = .ok (.if_icmp .ge 22, 3) := db454.2.2.2.2.2.2.2.2.2.1
theorem dX11_slateAll_35 : decode cX11_slateAll 35 = .ok (.lload_n 2, 1) := db454.2.2.2.2.2.2.2.2.2.2.1
theorem dX11_slateAll_36 : decode cX11_slateAll 36 = .ok (.lconst 0, 1) := db454.2.2.2.2.2.2.2.2.2.2.2.1
theorem dX11_slateAll_37 : decode cX11_slateAll 37 = .ok (.lcmp, 1) := db454.2.2.2.2.2.2.2.2.2.2.2.2.1
theorem dX11_slateAll_38 : decode cX11_slateAll 38 = .ok (.ifCond .ne 7, 3) := db454.2.2.2.2.2.2.2.2.2.2.2.2.2.1
theorem dX11_slateAll_45 : decode cX11_slateAll 45 = .ok (.lload_n 2, 1) := db454.2.2.2.2.2.2.2.2.2.2.2.2.2.2.1
theorem dX11_slateAll_46 : decode cX11_slateAll 46 = .ok (.lreturn, 1) := db454.2.2.2.2.2.2.2.2.2.2.2.2.2.2.2.1
theorem dX11_slateAll_41 : decode cX11_slateAll 41 = .ok (.lconst 1, 1) := db454.2.2.2.2.2.2.2.2.2.2.2.2.2.2.2.2.1
theorem dX11_slateAll_42 : decode cX11_slateAll 42 = .ok (.goto 4, 3) := db454.2.2.2.2.2.2.2.2.2.2.2.2.2.2.2.2.2.1
theorem dX11_slateAll_16 : decode cX11_slateAll 16 = .ok (.lload_n 2, 1) := db454.2.2.2.2.2.2.2.2.2.2.2.2.2.2.2.2.2.2.1
theorem dX11_slateAll_17 : decode cX11_slateAll 17 = .ok (.aload_n 0, 1) := db454.2.2.2.2.2.2.2.2.2.2.2.2.2.2.2.2.2.2.2.1
theorem dX11_slateAll_18 : decode cX11_slateAll 18 = .ok (.iload_n 1, 1) := db454.2.2.2.2.2.2.2.2.2.2.2.2.2.2.2.2.2.2.2.2.1
theorem dX11_slateAll_19 : decode cX11_slateAll 19 = .ok (.iconst 2, 1) := db454.2.2.2.2.2.2.2.2.2.2.2.2.2.2.2.2.2.2.2.2.2.1
theorem dX11_slateAll_20 : decode cX11_slateAll 20 = .ok (.iload 4, 2) := db454.2.2.2.2.2.2.2.2.2.2.2.2.2.2.2.2.2.2.2.2.2.2.1
theorem dX11_slateAll_22 : decode cX11_slateAll 22 = .ok (.iadd, 1) := db454.2.2.2.2.2.2.2.2.2.2.2.2.2.2.2.2.2.2.2.2.2.2.2
theorem db455 : (decode cX11_slateAll 23 = .ok (.invokevirtual 234, 3)) ∧ (decode cX11_slateAll 26 = .ok (.i2l, 1)) ∧ (decode cX11_slateAll 27 = .ok (.ladd, 1)) ∧ (decode cX11_slateAll 28 = .ok (.lstore_n 2, 1)) ∧ (decode cX11_slateAll 29 = .ok (.iinc 4 1, 3)) ∧ (decode cX11_slateAll 32 = .ok (.goto (-27), 3)) := by decide +kernel
theorem dX11_slateAll_23 : decode cX11_slateAll 23 = .ok (.invokevirtual 234, 3) := db455.1
theorem dX11_slateAll_26 : decode cX11_slateAll 26 = .ok (.i2l, 1) := db455.2.1
theorem dX11_slateAll_27 : decode cX11_slateAll 27 = .ok (.ladd, 1) := db455.2.2.1
theorem dX11_slateAll_28 : decode cX11_slateAll 28 = .ok (.lstore_n 2, 1) := db455.2.2.2.1
theorem dX11_slateAll_29 : decode cX11_slateAll 29 = .ok (.iinc 4 1, 3) := db455.2.2.2.2.1
theorem dX11_slateAll_32 : decode cX11_slateAll 32 = .ok (.goto (-27), 3) := db455.2.2.2.2.2
theorem db456 : (decode cX11_slateOf 0 = .ok (.lconst 0, 1)) ∧ (decode cX11_slateOf 1 = .ok (.lstore_n 3, 1)) ∧ (decode cX11_slateOf 2 = .ok (.iconst 0, 1)) ∧ (decode cX11_slateOf 3 = .ok (.istore 5, 2)) ∧ (decode cX11_slateOf 5 = .ok (.iload 5, 2)) ∧ (decode cX11_slateOf 7 = .ok (.aload_n 0, 1)) ∧ (decode cX11_slateOf 8 = .ok (.getfield 9, 3)) ∧ (decode cX11_slateOf 11 = .ok (.iconst 5, 1)) ∧ (decode cX11_slateOf 12 = .ok (.iaload, 1)) ∧ (decode cX11_slateOf 13 = .ok (.if_icmp .ge 22, 3)) ∧ (decode cX11_slateOf 35 = .ok (.lload_n 3, 1)) ∧ (decode cX11_slateOf 36 = .ok (.lconst 0, 1)) ∧ (decode cX11_slateOf 37 = .ok (.lcmp, 1)) ∧ (decode cX11_slateOf 38 = .ok (.ifCond .ne 16, 3)) ∧ (decode cX11_slateOf 54 = .ok (.aload_n 0, 1)) ∧ (decode cX11_slateOf 55 = .ok (.iload_n 1, 1)) ∧ (decode cX11_slateOf 56 = .ok (.iconst 2, 1)) ∧ (decode cX11_slateOf 57 = .ok (.iload_n 2, 1)) ∧ (decode cX11_slateOf 58 = .ok (.iadd, 1)) ∧ (decode cX11_slateOf 59 = .ok (.invokevirtual 234, 3)) ∧ (decode cX11_slateOf 62 = .ok (.i2l, 1)) ∧ (decode cX11_slateOf 63 = .ok (.lreturn, 1)) ∧ (decode cX11_slateOf 41 = .ok (.iload_n 1, 1)) ∧ (decode cX11_slateOf 42 = .ok (.iload_n 2, 1)) := by decide +kernel
theorem dX11_slateOf_0 : decode cX11_slateOf 0 = .ok (.lconst 0, 1) := db456.1
theorem dX11_slateOf_1 : decode cX11_slateOf 1 = .ok (.lstore_n 3, 1) := db456.2.1
theorem dX11_slateOf_2 : decode cX11_slateOf 2 = .ok (.iconst 0, 1) := db456.2.2.1
theorem dX11_slateOf_3 : decode cX11_slateOf 3 = .ok (.istore 5, 2) := db456.2.2.2.1
theorem dX11_slateOf_5 : decode cX11_slateOf 5 = .ok (.iload 5, 2) := db456.2.2.2.2.1
theorem dX11_slateOf_7 : decode cX11_slateOf 7 = .ok (.aload_n 0, 1) := db456.2.2.2.2.2.1
theorem dX11_slateOf_8 : decode cX11_slateOf 8 = .ok (.getfield 9, 3) := db456.2.2.2.2.2.2.1
theorem dX11_slateOf_11 : decode cX11_slateOf 11 = .ok (.iconst 5, 1) := db456.2.2.2.2.2.2.2.1
theorem dX11_slateOf_12 : decode cX11_slateOf 12 = .ok (.iaload, 1) := db456.2.2.2.2.2.2.2.2.1
theorem dX11_slateOf_13 : decode cX11_slateOf 13 = .ok (.if_icmp .ge 22, 3) := db456.2.2.2.2.2.2.2.2.2.1
theorem dX11_slateOf_35 : decode cX11_slateOf 35 = .ok (.lload_n 3, 1) := db456.2.2.2.2.2.2.2.2.2.2.1
theorem dX11_slateOf_36 : decode cX11_slateOf 36 = .ok (.lconst 0, 1) := db456.2.2.2.2.2.2.2.2.2.2.2.1
theorem dX11_slateOf_37 : decode cX11_slateOf 37 = .ok (.lcmp, 1) := db456.2.2.2.2.2.2.2.2.2.2.2.2.1
theorem dX11_slateOf_38 : decode cX11_slateOf 38 = .ok (.ifCond .ne 16, 3) := db456.2.2.2.2.2.2.2.2.2.2.2.2.2.1
theorem dX11_slateOf_54 : decode cX11_slateOf 54 = .ok (.aload_n 0, 1) := db456.2.2.2.2.2.2.2.2.2.2.2.2.2.2.1
theorem dX11_slateOf_55 : decode cX11_slateOf 55 = .ok (.iload_n 1, 1) := db456.2.2.2.2.2.2.2.2.2.2.2.2.2.2.2.1
theorem dX11_slateOf_56 : decode cX11_slateOf 56 = .ok (.iconst 2, 1) := db456.2.2.2.2.2.2.2.2.2.2.2.2.2.2.2.2.1
theorem dX11_slateOf_57 : decode cX11_slateOf 57 = .ok (.iload_n 2, 1) := db456.2.2.2.2.2.2.2.2.2.2.2.2.2.2.2.2.2.1
theorem dX11_slateOf_58 : decode cX11_slateOf 58 = .ok (.iadd, 1) := db456.2.2.2.2.2.2.2.2.2.2.2.2.2.2.2.2.2.2.1
theorem dX11_slateOf_59 : decode cX11_slateOf 59 = .ok (.invokevirtual 234, 3) := db456.2.2.2.2.2.2.2.2.2.2.2.2.2.2.2.2.2.2.2.1
theorem dX11_slateOf_62 : decode cX11_slateOf 62 = .ok (.i2l, 1) := db456.2.2.2.2.2.2.2.2.2.2.2.2.2.2.2.2.2.2.2.2.1
theorem dX11_slateOf_63 : decode cX11_slateOf 63 = .ok (.lreturn, 1) := db456.2.2.2.2.2.2.2.2.2.2.2.2.2.2.2.2.2.2.2.2.2.1
theorem dX11_slateOf_41 : decode cX11_slateOf 41 = .ok (.iload_n 1, 1) := db456.2.2.2.2.2.2.2.2.2.2.2.2.2.2.2.2.2.2.2.2.2.2.1
theorem dX11_slateOf_42 : decode cX11_slateOf 42 = .ok (.iload_n 2, 1) := db456.2.2.2.2.2.2.2.2.2.2.2.2.2.2.2.2.2.2.2.2.2.2.2
theorem db457 : (decode cX11_slateOf 43 = .ok (.if_icmp .ne 7, 3)) ∧ (decode cX11_slateOf 50 = .ok (.lconst 0, 1)) ∧ (decode cX11_slateOf 51 = .ok (.goto 12, 3)) ∧ (decode cX11_slateOf 46 = .ok (.lconst 1, 1)) ∧ (decode cX11_slateOf 47 = .ok (.goto 16, 3)) ∧ (decode cX11_slateOf 16 = .ok (.lload_n 3, 1)) ∧ (decode cX11_slateOf 17 = .ok (.aload_n 0, 1)) ∧ (decode cX11_slateOf 18 = .ok (.iload_n 1, 1)) ∧ (decode cX11_slateOf 19 = .ok (.iconst 2, 1)) ∧ (decode cX11_slateOf 20 = .ok (.iload 5, 2)) ∧ (decode cX11_slateOf 22 = .ok (.iadd, 1)) ∧ (decode cX11_slateOf 23 = .ok (.invokevirtual 234, 3)) ∧ (decode cX11_slateOf 26 = .ok (.i2l, 1)) ∧ (decode cX11_slateOf 27 = .ok (.ladd, 1)) ∧ (decode cX11_slateOf 28 = .ok (.lstore_n 3, 1)) ∧ (decode cX11_slateOf 29 = .ok (.iinc 5 1, 3)) ∧ (decode cX11_slateOf 32 = .ok (.goto (-27), 3)) := by decide +kernel
theorem dX11_slateOf_43 : decode cX11_slateOf 43 = .ok (.if_icmp .ne 7, 3) := db457.1
theorem dX11_slateOf_50 : decode cX11_slateOf 50 = .ok (.lconst 0, 1) := db457.2.1
theorem dX11_slateOf_51 : decode cX11_slateOf 51 = .ok (.goto 12, 3) := db457.2.2.1
theorem dX11_slateOf_46 : decode cX11_slateOf 46 = .ok (.lconst 1, 1) := db457.2.2.2.1
theorem dX11_slateOf_47 : decode cX11_slateOf 47 = .ok (.goto 16, 3) := db457.2.2.2.2.1
theorem dX11_slateOf_16 : decode cX11_slateOf 16 = .ok (.lload_n 3, 1) := db457.2.2.2.2.2.1
theorem dX11_slateOf_17 : decode cX11_slateOf 17 = .ok (.aload_n 0, 1) := db457.2.2.2.2.2.2.1
theorem dX11_slateOf_18 : decode cX11_slateOf 18 = .ok (.iload_n 1, 1) := db457.2.2.2.2.2.2.2.1
theorem dX11_slateOf_19 : decode cX11_slateOf 19 = .ok (.iconst 2, 1) := db457.2.2.2.2.2.2.2.2.1
theorem dX11_slateOf_20 : decode cX11_slateOf 20 = .ok (.iload 5, 2) := db457.2.2.2.2.2.2.2.2.2.1
theorem dX11_slateOf_22 : decode cX11_slateOf 22 = .ok (.iadd, 1) := db457.2.2.2.2.2.2.2.2.2.2.1
theorem dX11_slateOf_23 : decode cX11_slateOf 23 = .ok (.invokevirtual 234, 3) := db457.2.2.2.2.2.2.2.2.2.2.2.1
theorem dX11_slateOf_26 : decode cX11_slateOf 26 = .ok (.i2l, 1) := db457.2.2.2.2.2.2.2.2.2.2.2.2.1
theorem dX11_slateOf_27 : decode cX11_slateOf 27 = .ok (.ladd, 1) := db457.2.2.2.2.2.2.2.2.2.2.2.2.2.1
theorem dX11_slateOf_28 : decode cX11_slateOf 28 = .ok (.lstore_n 3, 1) := db457.2.2.2.2.2.2.2.2.2.2.2.2.2.2.1
theorem dX11_slateOf_29 : decode cX11_slateOf 29 = .ok (.iinc 5 1, 3) := db457.2.2.2.2.2.2.2.2.2.2.2.2.2.2.2.1
theorem dX11_slateOf_32 : decode cX11_slateOf 32 = .ok (.goto (-27), 3) := db457.2.2.2.2.2.2.2.2.2.2.2.2.2.2.2.2
theorem db458 : (decode cX11_slips 0 = .ok (.aload_n 0, 1)) ∧ (decode cX11_slips 1 = .ok (.iload_n 1, 1)) ∧ (decode cX11_slips 2 = .ok (.aload_n 0, 1)) ∧ (decode cX11_slips 3 = .ok (.iload_n 2, 1)) ∧ (decode cX11_slips 4 = .ok (.i2l, 1)) ∧ (decode cX11_slips 5 = .ok (.invokevirtual 89, 3)) ∧ (decode cX11_slips 8 = .ok (.invokevirtual 303, 3)) ∧ (decode cX11_slips 11 = .ok (.istore_n 3, 1)) ∧ (decode cX11_slips 12 = .ok (.iload_n 3, 1)) ∧ (decode cX11_slips 13 = .ok (.ifCond .ge 5, 3)) ∧ (decode cX11_slips 18 = .ok (.aload_n 0, 1)) ∧ (decode cX11_slips 19 = .ok (.iload_n 1, 1)) ∧ (decode cX11_slips 20 = .ok (.iload_n 2, 1)) ∧ (decode cX11_slips 21 = .ok (.invokevirtual 316, 3)) ∧ (decode cX11_slips 24 = .ok (.ifCond .ne 6, 3)) ∧ (decode cX11_slips 30 = .ok (.aload_n 0, 1)) ∧ (decode cX11_slips 31 = .ok (.invokevirtual 337, 3)) ∧ (decode cX11_slips 34 = .ok (.iconst 1, 1)) ∧ (decode cX11_slips 35 = .ok (.iload_n 2, 1)) ∧ (decode cX11_slips 36 = .ok (.ishl, 1)) ∧ (decode cX11_slips 37 = .ok (.iconst (-1), 1)) ∧ (decode cX11_slips 38 = .ok (.ixor, 1)) ∧ (decode cX11_slips 39 = .ok (.iand, 1)) ∧ (decode cX11_slips 40 = .ok (.istore 4, 2)) := by decide +kernel
theorem dX11_slips_0 : decode cX11_slips 0 = .ok (.aload_n 0, 1) := db458.1
theorem dX11_slips_1 : decode cX11_slips 1 = .ok (.iload_n 1, 1) := db458.2.1
theorem dX11_slips_2 : decode cX11_slips 2 = .ok (.aload_n 0, 1) := db458.2.2.1
theorem dX11_slips_3 : decode cX11_slips 3 = .ok (.iload_n 2, 1) := db458.2.2.2.1
theorem dX11_slips_4 : decode cX11_slips 4 = .ok (.i2l, 1) := db458.2.2.2.2.1
theorem dX11_slips_5 : decode cX11_slips 5 = .ok (.invokevirtual 89, 3) := db458.2.2.2.2.2.1
theorem dX11_slips_8 : decode cX11_slips 8 = .ok (.invokevirtual 303, 3) := db458.2.2.2.2.2.2.1
theorem dX11_slips_11 : decode cX11_slips 11 = .ok (.istore_n 3, 1) := db458.2.2.2.2.2.2.2.1
theorem dX11_slips_12 : decode cX11_slips 12 = .ok (.iload_n 3, 1) := db458.2.2.2.2.2.2.2.2.1
theorem dX11_slips_13 : decode cX11_slips 13 = .ok (.ifCond .ge 5, 3) := db458.2.2.2.2.2.2.2.2.2.1
theorem dX11_slips_18 : decode cX11_slips 18 = .ok (.aload_n 0, 1) := db458.2.2.2.2.2.2.2.2.2.2.1
theorem dX11_slips_19 : decode cX11_slips 19 = .ok (.iload_n 1, 1) := db458.2.2.2.2.2.2.2.2.2.2.2.1
theorem dX11_slips_20 : decode cX11_slips 20 = .ok (.iload_n 2, 1) := db458.2.2.2.2.2.2.2.2.2.2.2.2.1
theorem dX11_slips_21 : decode cX11_slips 21 = .ok (.invokevirtual 316, 3) := db458.2.2.2.2.2.2.2.2.2.2.2.2.2.1
theorem dX11_slips_24 : decode cX11_slips 24 = .ok (.ifCond .ne 6, 3) := db458.2.2.2.2.2.2.2.2.2.2.2.2.2.2.1
theorem dX11_slips_30 : decode cX11_slips 30 = .ok (.aload_n 0, 1) := db458.2.2.2.2.2.2.2.2.2.2.2.2.2.2.2.1
theorem dX11_slips_31 : decode cX11_slips 31 = .ok (.invokevirtual 337, 3) := db458.2.2.2.2.2.2.2.2.2.2.2.2.2.2.2.2.1
theorem dX11_slips_34 : decode cX11_slips 34 = .ok (.iconst 1, 1) := db458.2.2.2.2.2.2.2.2.2.2.2.2.2.2.2.2.2.1
theorem dX11_slips_35 : decode cX11_slips 35 = .ok (.iload_n 2, 1) := db458.2.2.2.2.2.2.2.2.2.2.2.2.2.2.2.2.2.2.1
theorem dX11_slips_36 : decode cX11_slips 36 = .ok (.ishl, 1) := db458.2.2.2.2.2.2.2.2.2.2.2.2.2.2.2.2.2.2.2.1
theorem dX11_slips_37 : decode cX11_slips 37 = .ok (.iconst (-1), 1) := db458.2.2.2.2.2.2.2.2.2.2.2.2.2.2.2.2.2.2.2.2.1
theorem dX11_slips_38 : decode cX11_slips 38 = .ok (.ixor, 1) := db458.2.2.2.2.2.2.2.2.2.2.2.2.2.2.2.2.2.2.2.2.2.1
theorem dX11_slips_39 : decode cX11_slips 39 = .ok (.iand, 1) := db458.2.2.2.2.2.2.2.2.2.2.2.2.2.2.2.2.2.2.2.2.2.2.1
theorem dX11_slips_40 : decode cX11_slips 40 = .ok (.istore 4, 2) := db458.2.2.2.2.2.2.2.2.2.2.2.2.2.2.2.2.2.2.2.2.2.2.2
theorem db459 : (decode cX11_slips 42 = .ok (.iload_n 2, 1)) ∧ (decode cX11_slips 43 = .ok (.istore 5, 2)) ∧ (decode cX11_slips 45 = .ok (.iconst 0, 1)) ∧ (decode cX11_slips 46 = .ok (.istore 6, 2)) ∧ (decode cX11_slips 48 = .ok (.iload 6, 2)) ∧ (decode cX11_slips 50 = .ok (.aload_n 0, 1)) ∧ (decode cX11_slips 51 = .ok (.getfield 61, 3)) ∧ (decode cX11_slips 54 = .ok (.iload_n 1, 1)) ∧ (decode cX11_slips 55 = .ok (.iaload, 1)) ∧ (decode cX11_slips 56 = .ok (.if_icmp .ge 49, 3)) ∧ (decode cX11_slips 105 = .ok (.iload 4, 2)) ∧ (decode cX11_slips 107 = .ok (.ireturn, 1)) ∧ (decode cX11_slips 59 = .ok (.aload_n 0, 1)) ∧ (decode cX11_slips 60 = .ok (.iload_n 1, 1)) ∧ (decode cX11_slips 61 = .ok (.iload 6, 2)) ∧ (decode cX11_slips 63 = .ok (.invokevirtual 293, 3)) ∧ (decode cX11_slips 66 = .ok (.iconst (-1), 1)) ∧ (decode cX11_slips 82 = .ok (.istore 5, 2)) ∧ (decode cX11_slips 84 = .ok (.aload_n 0, 1)) ∧ (decode cX11_slips 85 = .ok (.iload 4, 2)) ∧ (decode cX11_slips 87 = .ok (.invokevirtual 330, 3)) ∧ (decode cX11_slips 90 = .ok (.iconst 1, 1)) ∧ (decode cX11_slips 91 = .ok (.iload 5, 2)) ∧ (decode cX11_slips 93 = .ok (.ishl, 1)) := by decide +kernel
theorem dX11_slips_42 : decode cX11_slips 42 = .ok (.iload_n 2, 1) := db459.1
theorem dX11_slips_43 : decode cX11_slips 43 = .ok (.istore 5, 2) := db459.2.1
theorem dX11_slips_45 : decode cX11_slips 45 = .ok (.iconst 0, 1) := db459.2.2.1
theorem dX11_slips_46 : decode cX11_slips 46 = .ok (.istore 6, 2) := db459.2.2.2.1
theorem dX11_slips_48 : decode cX11_slips 48 = .ok (.iload 6, 2) := db459.2.2.2.2.1
theorem dX11_slips_50 : decode cX11_slips 50 = .ok (.aload_n 0, 1) := db459.2.2.2.2.2.1
theorem dX11_slips_51 : decode cX11_slips 51 = .ok (.getfield 61, 3) := db459.2.2.2.2.2.2.1
theorem dX11_slips_54 : decode cX11_slips 54 = .ok (.iload_n 1, 1) := db459.2.2.2.2.2.2.2.1
theorem dX11_slips_55 : decode cX11_slips 55 = .ok (.iaload, 1) := db459.2.2.2.2.2.2.2.2.1
theorem dX11_slips_56 : decode cX11_slips 56 = .ok (.if_icmp .ge 49, 3) := db459.2.2.2.2.2.2.2.2.2.1
theorem dX11_slips_105 : decode cX11_slips 105 = .ok (.iload 4, 2) := db459.2.2.2.2.2.2.2.2.2.2.1
theorem dX11_slips_107 : decode cX11_slips 107 = .ok (.ireturn, 1) := db459.2.2.2.2.2.2.2.2.2.2.2.1
theorem dX11_slips_59 : decode cX11_slips 59 = .ok (.aload_n 0, 1) := db459.2.2.2.2.2.2.2.2.2.2.2.2.1
theorem dX11_slips_60 : decode cX11_slips 60 = .ok (.iload_n 1, 1) := db459.2.2.2.2.2.2.2.2.2.2.2.2.2.1
theorem dX11_slips_61 : decode cX11_slips 61 = .ok (.iload 6, 2) := db459.2.2.2.2.2.2.2.2.2.2.2.2.2.2.1
theorem dX11_slips_63 : decode cX11_slips 63 = .ok (.invokevirtual 293, 3) := db459.2.2.2.2.2.2.2.2.2.2.2.2.2.2.2.1
theorem dX11_slips_66 : decode cX11_slips 66 = .ok (.iconst (-1), 1) := db459.2.2.2.2.2.2.2.2.2.2.2.2.2.2.2.2.1
theorem dX11_slips_82 : decode cX11_slips 82 = .ok (.istore 5, 2) := db459.2.2.2.2.2.2.2.2.2.2.2.2.2.2.2.2.2.1
theorem dX11_slips_84 : decode cX11_slips 84 = .ok (.aload_n 0, 1) := db459.2.2.2.2.2.2.2.2.2.2.2.2.2.2.2.2.2.2.1
theorem dX11_slips_85 : decode cX11_slips 85 = .ok (.iload 4, 2) := db459.2.2.2.2.2.2.2.2.2.2.2.2.2.2.2.2.2.2.2.1
theorem dX11_slips_87 : decode cX11_slips 87 = .ok (.invokevirtual 330, 3) := db459.2.2.2.2.2.2.2.2.2.2.2.2.2.2.2.2.2.2.2.2.1
theorem dX11_slips_90 : decode cX11_slips 90 = .ok (.iconst 1, 1) := db459.2.2.2.2.2.2.2.2.2.2.2.2.2.2.2.2.2.2.2.2.2.1
theorem dX11_slips_91 : decode cX11_slips 91 = .ok (.iload 5, 2) := db459.2.2.2.2.2.2.2.2.2.2.2.2.2.2.2.2.2.2.2.2.2.2.1
theorem dX11_slips_93 : decode cX11_slips 93 = .ok (.ishl, 1) := db459.2.2.2.2.2.2.2.2.2.2.2.2.2.2.2.2.2.2.2.2.2.2.2
theorem db460 : (decode cX11_slips 94 = .ok (.iconst (-1), 1)) ∧ (decode cX11_slips 95 = .ok (.ixor, 1)) ∧ (decode cX11_slips 96 = .ok (.iand, 1)) ∧ (decode cX11_slips 97 = .ok (.istore 4, 2)) ∧ (decode cX11_slips 99 = .ok (.iinc 6 1, 3)) ∧ (decode cX11_slips 102 = .ok (.goto (-54), 3)) ∧ (decode cX11_slips 67 = .ok (.if_icmp .ne 8, 3)) ∧ (decode cX11_slips 75 = .ok (.aload_n 0, 1)) ∧ (decode cX11_slips 76 = .ok (.iload_n 1, 1)) ∧ (decode cX11_slips 77 = .ok (.iload 6, 2)) ∧ (decode cX11_slips 79 = .ok (.invokevirtual 293, 3)) ∧ (decode cX11_slips 70 = .ok (.iload 5, 2)) ∧ (decode cX11_slips 72 = .ok (.goto 10, 3)) ∧ (decode cX11_slips 27 = .ok (.bipush (-5), 2)) ∧ (decode cX11_slips 29 = .ok (.ireturn, 1)) ∧ (decode cX11_slips 16 = .ok (.iload_n 3, 1)) ∧ (decode cX11_slips 17 = .ok (.ireturn, 1)) := by decide +kernel
theorem dX11_slips_94 : decode cX11_slips 94 = .ok (.iconst (-1), 1) := db460.1
theorem dX11_slips_95 : decode cX11_slips 95 = .ok (.ixor, 1) := db460.2.1
theorem dX11_slips_96 : decode cX11_slips 96 = .ok (.iand, 1) := db460.2.2.1
theorem dX11_slips_97 : decode cX11_slips 97 = .ok (.istore 4, 2) := db460.2.2.2.1
theorem dX11_slips_99 : decode cX11_slips 99 = .ok (.iinc 6 1, 3) := db460.2.2.2.2.1
theorem dX11_slips_102 : decode cX11_slips 102 = .ok (.goto (-54), 3) := db460.2.2.2.2.2.1
theorem dX11_slips_67 : decode cX11_slips 67 = .ok (.if_icmp .ne 8, 3) := db460.2.2.2.2.2.2.1
theorem dX11_slips_75 : decode cX11_slips 75 = .ok (.aload_n 0, 1) := db460.2.2.2.2.2.2.2.1
theorem dX11_slips_76 : decode cX11_slips 76 = .ok (.iload_n 1, 1) := db460.2.2.2.2.2.2.2.2.1
theorem dX11_slips_77 : decode cX11_slips 77 = .ok (.iload 6, 2) := db460.2.2.2.2.2.2.2.2.2.1
theorem dX11_slips_79 : decode cX11_slips 79 = .ok (.invokevirtual 293, 3) := db460.2.2.2.2.2.2.2.2.2.2.1
theorem dX11_slips_70 : decode cX11_slips 70 = .ok (.iload 5, 2) := db460.2.2.2.2.2.2.2.2.2.2.2.1
theorem dX11_slips_72 : decode cX11_slips 72 = .ok (.goto 10, 3) := db460.2.2.2.2.2.2.2.2.2.2.2.2.1
theorem dX11_slips_27 : decode cX11_slips 27 = .ok (.bipush (-5), 2) := db460.2.2.2.2.2.2.2.2.2.2.2.2.2.1
theorem dX11_slips_29 : decode cX11_slips 29 = .ok (.ireturn, 1) := db460.2.2.2.2.2.2.2.2.2.2.2.2.2.2.1
theorem dX11_slips_16 : decode cX11_slips 16 = .ok (.iload_n 3, 1) := db460.2.2.2.2.2.2.2.2.2.2.2.2.2.2.2.1
theorem dX11_slips_17 : decode cX11_slips 17 = .ok (.ireturn, 1) := db460.2.2.2.2.2.2.2.2.2.2.2.2.2.2.2.2
theorem db461 : (decode cX11_soon 0 = .ok (.aload_n 0, 1)) ∧ (decode cX11_soon 1 = .ok (.iload_n 1, 1)) ∧ (decode cX11_soon 2 = .ok (.i2l, 1)) ∧ (decode cX11_soon 3 = .ok (.invokevirtual 89, 3)) ∧ (decode cX11_soon 6 = .ok (.ifCond .eq 15, 3)) ∧ (decode cX11_soon 21 = .ok (.bipush (-2), 2)) ∧ (decode cX11_soon 23 = .ok (.ireturn, 1)) ∧ (decode cX11_soon 9 = .ok (.iload_n 2, 1)) ∧ (decode cX11_soon 10 = .ok (.i2l, 1)) ∧ (decode cX11_soon 11 = .ok (.lconst 0, 1)) ∧ (decode cX11_soon 12 = .ok (.ldc2_w 273, 3)) ∧ (decode cX11_soon 15 = .ok (.invokestatic 79, 3)) ∧ (decode cX11_soon 18 = .ok (.ifCond .ne 6, 3)) ∧ (decode cX11_soon 24 = .ok (.iconst 0, 1)) ∧ (decode cX11_soon 25 = .ok (.istore_n 3, 1)) ∧ (decode cX11_soon 26 = .ok (.iload_n 3, 1)) ∧ (decode cX11_soon 27 = .ok (.iconst 5, 1)) ∧ (decode cX11_soon 28 = .ok (.if_icmp .gt 21, 3)) ∧ (decode cX11_soon 49 = .ok (.iconst (-1), 1)) ∧ (decode cX11_soon 50 = .ok (.ireturn, 1)) ∧ (decode cX11_soon 31 = .ok (.aload_n 0, 1)) ∧ (decode cX11_soon 32 = .ok (.iload_n 1, 1)) ∧ (decode cX11_soon 33 = .ok (.iload_n 3, 1)) ∧ (decode cX11_soon 34 = .ok (.invokevirtual 327, 3)) := by decide +kernel
theorem dX11_soon_0 : decode cX11_soon 0 = .ok (.aload_n 0, 1) := db461.1
theorem dX11_soon_1 : decode cX11_soon 1 = .ok (.iload_n 1, 1) := db461.2.1
theorem dX11_soon_2 : decode cX11_soon 2 = .ok (.i2l, 1) := db461.2.2.1
theorem dX11_soon_3 : decode cX11_soon 3 = .ok (.invokevirtual 89, 3) := db461.2.2.2.1
theorem dX11_soon_6 : decode cX11_soon 6 = .ok (.ifCond .eq 15, 3) := db461.2.2.2.2.1
theorem dX11_soon_21 : decode cX11_soon 21 = .ok (.bipush (-2), 2) := db461.2.2.2.2.2.1
theorem dX11_soon_23 : decode cX11_soon 23 = .ok (.ireturn, 1) := db461.2.2.2.2.2.2.1
theorem dX11_soon_9 : decode cX11_soon 9 = .ok (.iload_n 2, 1) := db461.2.2.2.2.2.2.2.1
theorem dX11_soon_10 : decode cX11_soon 10 = .ok (.i2l, 1) := db461.2.2.2.2.2.2.2.2.1
theorem dX11_soon_11 : decode cX11_soon 11 = .ok (.lconst 0, 1) := db461.2.2.2.2.2.2.2.2.2.1
theorem dX11_soon_12 : decode cX11_soon 12 = .ok (.ldc2_w 273, 3) := db461.2.2.2.2.2.2.2.2.2.2.1
theorem dX11_soon_15 : decode cX11_soon 15 = .ok (.invokestatic 79, 3) := db461.2.2.2.2.2.2.2.2.2.2.2.1
theorem dX11_soon_18 : decode cX11_soon 18 = .ok (.ifCond .ne 6, 3) := db461.2.2.2.2.2.2.2.2.2.2.2.2.1
theorem dX11_soon_24 : decode cX11_soon 24 = .ok (.iconst 0, 1) := db461.2.2.2.2.2.2.2.2.2.2.2.2.2.1
theorem dX11_soon_25 : decode cX11_soon 25 = .ok (.istore_n 3, 1) := db461.2.2.2.2.2.2.2.2.2.2.2.2.2.2.1
theorem dX11_soon_26 : decode cX11_soon 26 = .ok (.iload_n 3, 1) := db461.2.2.2.2.2.2.2.2.2.2.2.2.2.2.2.1
theorem dX11_soon_27 : decode cX11_soon 27 = .ok (.iconst 5, 1) := db461.2.2.2.2.2.2.2.2.2.2.2.2.2.2.2.2.1
theorem dX11_soon_28 : decode cX11_soon 28 = .ok (.if_icmp .gt 21, 3) := db461.2.2.2.2.2.2.2.2.2.2.2.2.2.2.2.2.2.1
theorem dX11_soon_49 : decode cX11_soon 49 = .ok (.iconst (-1), 1) := db461.2.2.2.2.2.2.2.2.2.2.2.2.2.2.2.2.2.2.1
theorem dX11_soon_50 : decode cX11_soon 50 = .ok (.ireturn, 1) := db461.2.2.2.2.2.2.2.2.2.2.2.2.2.2.2.2.2.2.2.1
theorem dX11_soon_31 : decode cX11_soon 31 = .ok (.aload_n 0, 1) := db461.2.2.2.2.2.2.2.2.2.2.2.2.2.2.2.2.2.2.2.2.1
theorem dX11_soon_32 : decode cX11_soon 32 = .ok (.iload_n 1, 1) := db461.2.2.2.2.2.2.2.2.2.2.2.2.2.2.2.2.2.2.2.2.2.1
theorem dX11_soon_33 : decode cX11_soon 33 = .ok (.iload_n 3, 1) := db461.2.2.2.2.2.2.2.2.2.2.2.2.2.2.2.2.2.2.2.2.2.2.1
theorem dX11_soon_34 : decode cX11_soon 34 = .ok (.invokevirtual 327, 3) := db461.2.2.2.2.2.2.2.2.2.2.2.2.2.2.2.2.2.2.2.2.2.2.2
theorem db462 : (decode cX11_soon 37 = .ok (.iload_n 2, 1)) ∧ (decode cX11_soon 38 = .ok (.if_icmp .lt 5, 3)) ∧ (decode cX11_soon 43 = .ok (.iinc 3 1, 3)) ∧ (decode cX11_soon 46 = .ok (.goto (-20), 3)) ∧ (decode cX11_soon 41 = .ok (.iload_n 3, 1)) ∧ (decode cX11_soon 42 = .ok (.ireturn, 1)) := by decide +kernel
theorem dX11_soon_37 : decode cX11_soon 37 = .ok (.iload_n 2, 1) := db462.1
theorem dX11_soon_38 : decode cX11_soon 38 = .ok (.if_icmp .lt 5, 3) := db462.2.1
theorem dX11_soon_43 : decode cX11_soon 43 = .ok (.iinc 3 1, 3) := db462.2.2.1
theorem dX11_soon_46 : decode cX11_soon 46 = .ok (.goto (-20), 3) := db462.2.2.2.1
theorem dX11_soon_41 : decode cX11_soon 41 = .ok (.iload_n 3, 1) := db462.2.2.2.2.1
theorem dX11_soon_42 : decode cX11_soon 42 = .ok (.ireturn, 1) := db462.2.2.2.2.2
theorem db463 : (decode cX11_state 0 = .ok (.bipush 7, 2)) ∧ (decode cX11_state 2 = .ok (.iload_n 0, 1)) ∧ (decode cX11_state 3 = .ok (.imul, 1)) ∧ (decode cX11_state 4 = .ok (.iload_n 1, 1)) ∧ (decode cX11_state 5 = .ok (.iadd, 1)) ∧ (decode cX11_state 6 = .ok (.sipush 128, 3)) ∧ (decode cX11_state 9 = .ok (.imul, 1)) ∧ (decode cX11_state 10 = .ok (.iload_n 2, 1)) ∧ (decode cX11_state 11 = .ok (.iadd, 1)) ∧ (decode cX11_state 12 = .ok (.ireturn, 1)) := by decide +kernel
theorem dX11_state_0 : decode cX11_state 0 = .ok (.bipush 7, 2) := db463.1
theorem dX11_state_2 : decode cX11_state 2 = .ok (.iload_n 0, 1) := db463.2.1
theorem dX11_state_3 : decode cX11_state 3 = .ok (.imul, 1) := db463.2.2.1
theorem dX11_state_4 : decode cX11_state 4 = .ok (.iload_n 1, 1) := db463.2.2.2.1
theorem dX11_state_5 : decode cX11_state 5 = .ok (.iadd, 1) := db463.2.2.2.2.1
theorem dX11_state_6 : decode cX11_state 6 = .ok (.sipush 128, 3) := db463.2.2.2.2.2.1
theorem dX11_state_9 : decode cX11_state 9 = .ok (.imul, 1) := db463.2.2.2.2.2.2.1
theorem dX11_state_10 : decode cX11_state 10 = .ok (.iload_n 2, 1) := db463.2.2.2.2.2.2.2.1
theorem dX11_state_11 : decode cX11_state 11 = .ok (.iadd, 1) := db463.2.2.2.2.2.2.2.2.1
theorem dX11_state_12 : decode cX11_state 12 = .ok (.ireturn, 1) := db463.2.2.2.2.2.2.2.2.2
theorem db464 : (decode cX11_stop 0 = .ok (.aload_n 0, 1)) ∧ (decode cX11_stop 1 = .ok (.iload_n 1, 1)) ∧ (decode cX11_stop 2 = .ok (.iconst 1, 1)) ∧ (decode cX11_stop 3 = .ok (.invokevirtual 303, 3)) ∧ (decode cX11_stop 6 = .ok (.istore_n 2, 1)) ∧ (decode cX11_stop 7 = .ok (.iload_n 2, 1)) ∧ (decode cX11_stop 8 = .ok (.ifCond .ge 5, 3)) ∧ (decode cX11_stop 13 = .ok (.iconst 0, 1)) ∧ (decode cX11_stop 14 = .ok (.istore_n 3, 1)) ∧ (decode cX11_stop 15 = .ok (.iconst 1, 1)) ∧ (decode cX11_stop 16 = .ok (.istore 4, 2)) ∧ (decode cX11_stop 18 = .ok (.iload 4, 2)) ∧ (decode cX11_stop 20 = .ok (.aload_n 0, 1)) ∧ (decode cX11_stop 21 = .ok (.getfield 61, 3)) ∧ (decode cX11_stop 24 = .ok (.iload_n 1, 1)) ∧ (decode cX11_stop 25 = .ok (.iaload, 1)) ∧ (decode cX11_stop 26 = .ok (.if_icmp .gt 34, 3)) ∧ (decode cX11_stop 60 = .ok (.iload_n 3, 1)) ∧ (decode cX11_stop 61 = .ok (.ireturn, 1)) ∧ (decode cX11_stop 29 = .ok (.aload_n 0, 1)) ∧ (decode cX11_stop 30 = .ok (.iload_n 1, 1)) ∧ (decode cX11_stop 31 = .ok (.iload 4, 2)) ∧ (decode cX11_stop 33 = .ok (.iconst 0, 1)) ∧ (decode cX11_stop 34 = .ok (.invokevirtual 309, 3)) := by decide +kernel
theorem dX11_stop_0 : decode cX11_stop 0 = .ok (.aload_n 0, 1) := db464.1
theorem dX11_stop_1 : decode cX11_stop 1 = .ok (.iload_n 1, 1) := db464.2.1
theorem dX11_stop_2 : decode cX11_stop 2 = .ok (.iconst 1, 1) := db464.2.2.1
theorem dX11_stop_3 : decode cX11_stop 3 = .ok (.invokevirtual 303, 3) := db464.2.2.2.1
theorem dX11_stop_6 : decode cX11_stop 6 = .ok (.istore_n 2, 1) := db464.2.2.2.2.1
theorem dX11_stop_7 : decode cX11_stop 7 = .ok (.iload_n 2, 1) := db464.2.2.2.2.2.1
theorem dX11_stop_8 : decode cX11_stop 8 = .ok (.ifCond .ge 5, 3) := db464.2.2.2.2.2.2.1
theorem dX11_stop_13 : decode cX11_stop 13 = .ok (.iconst 0, 1) := db464.2.2.2.2.2.2.2.1
theorem dX11_stop_14 : decode cX11_stop 14 = .ok (.istore_n 3, 1) := db464.2.2.2.2.2.2.2.2.1
theorem dX11_stop_15 : decode cX11_stop 15 = .ok (.iconst 1, 1) := db464.2.2.2.2.2.2.2.2.2.1
theorem dX11_stop_16 : decode cX11_stop 16 = .ok (.istore 4, 2) := db464.2.2.2.2.2.2.2.2.2.2.1
theorem dX11_stop_18 : decode cX11_stop 18 = .ok (.iload 4, 2) := db464.2.2.2.2.2.2.2.2.2.2.2.1
theorem dX11_stop_20 : decode cX11_stop 20 = .ok (.aload_n 0, 1) := db464.2.2.2.2.2.2.2.2.2.2.2.2.1
theorem dX11_stop_21 : decode cX11_stop 21 = .ok (.getfield 61, 3) := db464.2.2.2.2.2.2.2.2.2.2.2.2.2.1
theorem dX11_stop_24 : decode cX11_stop 24 = .ok (.iload_n 1, 1) := db464.2.2.2.2.2.2.2.2.2.2.2.2.2.2.1
theorem dX11_stop_25 : decode cX11_stop 25 = .ok (.iaload, 1) := db464.2.2.2.2.2.2.2.2.2.2.2.2.2.2.2.1
theorem dX11_stop_26 : decode cX11_stop 26 = .ok (.if_icmp .gt 34, 3) := db464.2.2.2.2.2.2.2.2.2.2.2.2.2.2.2.2.1
theorem dX11_stop_60 : decode cX11_stop 60 = .ok (.iload_n 3, 1) := db464.2.2.2.2.2.2.2.2.2.2.2.2.2.2.2.2.2.1
theorem dX11_stop_61 : decode cX11_stop 61 = .ok (.ireturn, 1) := db464.2.2.2.2.2.2.2.2.2.2.2.2.2.2.2.2.2.2.1
theorem dX11_stop_29 : decode cX11_stop 29 = .ok (.aload_n 0, 1) := db464.2.2.2.2.2.2.2.2.2.2.2.2.2.2.2.2.2.2.2.1
theorem dX11_stop_30 : decode cX11_stop 30 = .ok (.iload_n 1, 1) := db464.2.2.2.2.2.2.2.2.2.2.2.2.2.2.2.2.2.2.2.2.1
theorem dX11_stop_31 : decode cX11_stop 31 = .ok (.iload 4, 2) := db464.2.2.2.2.2.2.2.2.2.2.2.2.2.2.2.2.2.2.2.2.2.1
theorem dX11_stop_33 : decode cX11_stop 33 = .ok (.iconst 0, 1) := db464.2.2.2.2.2.2.2.2.2.2.2.2.2.2.2.2.2.2.2.2.2.2.1
theorem dX11_stop_34 : decode cX11_stop 34 = .ok (.invokevirtual 309, 3) := db464.2.2.2.2.2.2.2.2.2.2.2.2.2.2.2.2.2.2.2.2.2.2.2
theorem db465 : (decode cX11_stop 37 = .ok (.aload_n 0, 1)) ∧ (decode cX11_stop 38 = .ok (.iload_n 1, 1)) ∧ (decode cX11_stop 39 = .ok (.iload_n 3, 1)) ∧ (decode cX11_stop 40 = .ok (.iconst 0, 1)) ∧ (decode cX11_stop 41 = .ok (.invokevirtual 309, 3)) ∧ (decode cX11_stop 53 = .ok (.istore_n 3, 1)) ∧ (decode cX11_stop 54 = .ok (.iinc 4 1, 3)) ∧ (decode cX11_stop 57 = .ok (.goto (-39), 3)) ∧ (decode cX11_stop 44 = .ok (.if_icmp .le 8, 3)) ∧ (decode cX11_stop 52 = .ok (.iload_n 3, 1)) ∧ (decode cX11_stop 47 = .ok (.iload 4, 2)) ∧ (decode cX11_stop 49 = .ok (.goto 4, 3)) ∧ (decode cX11_stop 11 = .ok (.iload_n 2, 1)) ∧ (decode cX11_stop 12 = .ok (.ireturn, 1)) := by decide +kernel
theorem dX11_stop_37 : decode cX11_stop 37 = .ok (.aload_n 0, 1) := db465.1
theorem dX11_stop_38 : decode cX11_stop 38 = .ok (.iload_n 1, 1) := db465.2.1
theorem dX11_stop_39 : decode cX11_stop 39 = .ok (.iload_n 3, 1) := db465.2.2.1
theorem dX11_stop_40 : decode cX11_stop 40 = .ok (.iconst 0, 1) := db465.2.2.2.1
theorem dX11_stop_41 : decode cX11_stop 41 = .ok (.invokevirtual 309, 3) := db465.2.2.2.2.1
theorem dX11_stop_53 : decode cX11_stop 53 = .ok (.istore_n 3, 1) := db465.2.2.2.2.2.1
theorem dX11_stop_54 : decode cX11_stop 54 = .ok (.iinc 4 1, 3) := db465.2.2.2.2.2.2.1
theorem dX11_stop_57 : decode cX11_stop 57 = .ok (.goto (-39), 3) := db465.2.2.2.2.2.2.2.1
theorem dX11_stop_44 : decode cX11_stop 44 = .ok (.if_icmp .le 8, 3) := db465.2.2.2.2.2.2.2.2.1
theorem dX11_stop_52 : decode cX11_stop 52 = .ok (.iload_n 3, 1) := db465.2.2.2.2.2.2.2.2.2.1
theorem dX11_stop_47 : decode cX11_stop 47 = .ok (.iload 4, 2) := db465.2.2.2.2.2.2.2.2.2.2.1
theorem dX11_stop_49 : decode cX11_stop 49 = .ok (.goto 4, 3) := db465.2.2.2.2.2.2.2.2.2.2.2.1
theorem dX11_stop_11 : decode cX11_stop 11 = .ok (.iload_n 2, 1) := db465.2.2.2.2.2.2.2.2.2.2.2.2.1
theorem dX11_stop_12 : decode cX11_stop 12 = .ok (.ireturn, 1) := db465.2.2.2.2.2.2.2.2.2.2.2.2.2
theorem db466 : (decode cX11_takes 0 = .ok (.aload_n 0, 1)) ∧ (decode cX11_takes 1 = .ok (.aload_n 1, 1)) ∧ (decode cX11_takes 2 = .ok (.invokevirtual 146, 3)) ∧ (decode cX11_takes 5 = .ok (.istore_n 2, 1)) ∧ (decode cX11_takes 6 = .ok (.iload_n 2, 1)) ∧ (decode cX11_takes 7 = .ok (.ifCond .eq 7, 3)) ∧ (decode cX11_takes 14 = .ok (.iload_n 2, 1)) ∧ (decode cX11_takes 15 = .ok (.ireturn, 1)) ∧ (decode cX11_takes 10 = .ok (.aload_n 0, 1)) ∧ (decode cX11_takes 11 = .ok (.invokevirtual 150, 3)) := by decide +kernel
theorem dX11_takes_0 : decode cX11_takes 0 = .ok (.aload_n 0, 1) := db466.1
theorem dX11_takes_1 : decode cX11_takes 1 = .ok (.aload_n 1, 1) := db466.2.1
theorem dX11_takes_2 : decode cX11_takes 2 = .ok (.invokevirtual 146, 3) := db466.2.2.1
theorem dX11_takes_5 : decode cX11_takes 5 = .ok (.istore_n 2, 1) := db466.2.2.2.1
theorem dX11_takes_6 : decode cX11_takes 6 = .ok (.iload_n 2, 1) := db466.2.2.2.2.1
theorem dX11_takes_7 : decode cX11_takes 7 = .ok (.ifCond .eq 7, 3) := db466.2.2.2.2.2.1
theorem dX11_takes_14 : decode cX11_takes 14 = .ok (.iload_n 2, 1) := db466.2.2.2.2.2.2.1
theorem dX11_takes_15 : decode cX11_takes 15 = .ok (.ireturn, 1) := db466.2.2.2.2.2.2.2.1
theorem dX11_takes_10 : decode cX11_takes 10 = .ok (.aload_n 0, 1) := db466.2.2.2.2.2.2.2.2.1
theorem dX11_takes_11 : decode cX11_takes 11 = .ok (.invokevirtual 150, 3) := db466.2.2.2.2.2.2.2.2.2
theorem db467 : (decode cX11_tell 0 = .ok (.aload_n 0, 1)) ∧ (decode cX11_tell 1 = .ok (.iload_n 1, 1)) ∧ (decode cX11_tell 2 = .ok (.i2l, 1)) ∧ (decode cX11_tell 3 = .ok (.invokevirtual 89, 3)) ∧ (decode cX11_tell 6 = .ok (.ifCond .eq 48, 3)) ∧ (decode cX11_tell 54 = .ok (.bipush (-2), 2)) ∧ (decode cX11_tell 56 = .ok (.ireturn, 1)) ∧ (decode cX11_tell 9 = .ok (.iload_n 2, 1)) ∧ (decode cX11_tell 10 = .ok (.i2l, 1)) ∧ (decode cX11_tell 11 = .ok (.lconst 0, 1)) ∧ (decode cX11_tell 12 = .ok (.ldc2_w 77, 3)) ∧ (decode cX11_tell 15 = .ok (.invokestatic 79, 3)) ∧ (decode cX11_tell 18 = .ok (.ifCond .eq 36, 3)) ∧ (decode cX11_tell 21 = .ok (.iload_n 3, 1)) ∧ (decode cX11_tell 22 = .ok (.i2l, 1)) ∧ (decode cX11_tell 23 = .ok (.lconst 0, 1)) ∧ (decode cX11_tell 24 = .ok (.iload_n 2, 1)) ∧ (decode cX11_tell 48 = .ok (.invokestatic 79, 3)) ∧ (decode cX11_tell 51 = .ok (.ifCond .ne 6, 3)) ∧ (decode cX11_tell 57 = .ok (.aload_n 0, 1)) ∧ (decode cX11_tell 58 = .ok (.getfield 9, 3)) ∧ (decode cX11_tell 61 = .ok (.bipush 7, 2)) ∧ (decode cX11_tell 63 = .ok (.iaload, 1)) ∧ (decode cX11_tell 64 = .ok (.ifCond .le 6, 3)) := by decide +kernel
theorem dX11_tell_0 : decode cX11_tell 0 = .ok (.aload_n 0, 1) := db467.1
theorem dX11_tell_1 : decode cX11_tell 1 = .ok (.iload_n 1, 1) := db467.2.1
theorem dX11_tell_2 : decode cX11_tell 2 = .ok (.i2l, 1) := db467.2.2.1
theorem dX11_tell_3 : decode cX11_tell 3 = .ok (.invokevirtual 89, 3) := db467.2.2.2.1
theorem dX11_tell_6 : decode cX11_tell 6 = .ok (.ifCond .eq 48, 3) := db467.2.2.2.2.1
theorem dX11_tell_54 : decode cX11_tell 54 = .ok (.bipush (-2), 2) := db467.2.2.2.2.2.1
theorem dX11_tell_56 : decode cX11_tell 56 = .ok (.ireturn, 1) := db467.2.2.2.2.2.2.1
theorem dX11_tell_9 : decode cX11_tell 9 = .ok (.iload_n 2, 1) := db467.2.2.2.2.2.2.2.1
theorem dX11_tell_10 : decode cX11_tell 10 = .ok (.i2l, 1) := db467.2.2.2.2.2.2.2.2.1
theorem dX11_tell_11 : decode cX11_tell 11 = .ok (.lconst 0, 1) := db467.2.2.2.2.2.2.2.2.2.1
theorem dX11_tell_12 : decode cX11_tell 12 = .ok (.ldc2_w 77, 3) := db467.2.2.2.2.2.2.2.2.2.2.1
theorem dX11_tell_15 : decode cX11_tell 15 = .ok (.invokestatic 79, 3) := db467.2.2.2.2.2.2.2.2.2.2.2.1
theorem dX11_tell_18 : decode cX11_tell 18 = .ok (.ifCond .eq 36, 3) := db467.2.2.2.2.2.2.2.2.2.2.2.2.1
theorem dX11_tell_21 : decode cX11_tell 21 = .ok (.iload_n 3, 1) := db467.2.2.2.2.2.2.2.2.2.2.2.2.2.1
theorem dX11_tell_22 : decode cX11_tell 22 = .ok (.i2l, 1) := db467.2.2.2.2.2.2.2.2.2.2.2.2.2.2.1
theorem dX11_tell_23 : decode cX11_tell 23 = .ok (.lconst 0, 1) := db467.2.2.2.2.2.2.2.2.2.2.2.2.2.2.2.1
theorem dX11_tell_24 : decode cX11_tell 24 = .ok (.iload_n 2, 1) := db467.2.2.2.2.2.2.2.2.2.2.2.2.2.2.2.2.1
theorem dX11_tell_48 : decode cX11_tell 48 = .ok (.invokestatic 79, 3) := db467.2.2.2.2.2.2.2.2.2.2.2.2.2.2.2.2.2.1
theorem dX11_tell_51 : decode cX11_tell 51 = .ok (.ifCond .ne 6, 3) := db467.2.2.2.2.2.2.2.2.2.2.2.2.2.2.2.2.2.2.1
theorem dX11_tell_57 : decode cX11_tell 57 = .ok (.aload_n 0, 1) := db467.2.2.2.2.2.2.2.2.2.2.2.2.2.2.2.2.2.2.2.1
theorem dX11_tell_58 : decode cX11_tell 58 = .ok (.getfield 9, 3) := db467.2.2.2.2.2.2.2.2.2.2.2.2.2.2.2.2.2.2.2.2.1
theorem dX11_tell_61 : decode cX11_tell 61 = .ok (.bipush 7, 2) := db467.2.2.2.2.2.2.2.2.2.2.2.2.2.2.2.2.2.2.2.2.2.1
theorem dX11_tell_63 : decode cX11_tell 63 = .ok (.iaload, 1) := db467.2.2.2.2.2.2.2.2.2.2.2.2.2.2.2.2.2.2.2.2.2.2.1
theorem dX11_tell_64 : decode cX11_tell 64 = .ok (.ifCond .le 6, 3) := db467.2.2.2.2.2.2.2.2.2.2.2.2.2.2.2.2.2.2.2.2.2.2.2
theorem db468 : (decode cX11_tell 70 = .ok (.aload_n 0, 1)) ∧ (decode cX11_tell 71 = .ok (.iload_n 1, 1)) ∧ (decode cX11_tell 72 = .ok (.iload_n 2, 1)) ∧ (decode cX11_tell 73 = .ok (.invokevirtual 227, 3)) ∧ (decode cX11_tell 76 = .ok (.istore 4, 2)) ∧ (decode cX11_tell 78 = .ok (.aload_n 0, 1)) ∧ (decode cX11_tell 79 = .ok (.getfield 9, 3)) ∧ (decode cX11_tell 82 = .ok (.bipush 8, 2)) ∧ (decode cX11_tell 84 = .ok (.iconst 4, 1)) ∧ (decode cX11_tell 85 = .ok (.iload_n 1, 1)) ∧ (decode cX11_tell 86 = .ok (.imul, 1)) ∧ (decode cX11_tell 87 = .ok (.iadd, 1)) ∧ (decode cX11_tell 88 = .ok (.iload_n 2, 1)) ∧ (decode cX11_tell 89 = .ok (.iadd, 1)) ∧ (decode cX11_tell 90 = .ok (.iload_n 3, 1)) ∧ (decode cX11_tell 91 = .ok (.iastore, 1)) ∧ (decode cX11_tell 92 = .ok (.iload 4, 2)) ∧ (decode cX11_tell 94 = .ok (.ireturn, 1)) ∧ (decode cX11_tell 67 = .ok (.bipush (-5), 2)) ∧ (decode cX11_tell 69 = .ok (.ireturn, 1)) ∧ (decode cX11_tell 25 = .ok (.ifCond .ne 9, 3)) ∧ (decode cX11_tell 34 = .ok (.iload_n 2, 1)) ∧ (decode cX11_tell 35 = .ok (.iconst 1, 1)) ∧ (decode cX11_tell 36 = .ok (.if_icmp .ne 9, 3)) := by decide +kernel
theorem dX11_tell_70 : decode cX11_tell 70 = .ok (.aload_n 0, 1) := db468.1
theorem dX11_tell_71 : decode cX11_tell 71 = .ok (.iload_n 1, 1) := db468.2.1
theorem dX11_tell_72 : decode cX11_tell 72 = .ok (.iload_n 2, 1) := db468.2.2.1
theorem dX11_tell_73 : decode cX11_tell 73 = .ok (.invokevirtual 227, 3) := db468.2.2.2.1
theorem dX11_tell_76 : decode cX11_tell 76 = .ok (.istore 4, 2) := db468.2.2.2.2.1
theorem dX11_tell_78 : decode cX11_tell 78 = .ok (.aload_n 0, 1) := db468.2.2.2.2.2.1
theorem dX11_tell_79 : decode cX11_tell 79 = .ok (.getfield 9, 3) := db468.2.2.2.2.2.2.1
theorem dX11_tell_82 : decode cX11_tell 82 = .ok (.bipush 8, 2) := db468.2.2.2.2.2.2.2.1
theorem dX11_tell_84 : decode cX11_tell 84 = .ok (.iconst 4, 1) := db468.2.2.2.2.2.2.2.2.1
theorem dX11_tell_85 : decode cX11_tell 85 = .ok (.iload_n 1, 1) := db468.2.2.2.2.2.2.2.2.2.1
theorem dX11_tell_86 : decode cX11_tell 86 = .ok (.imul, 1) := db468.2.2.2.2.2.2.2.2.2.2.1
theorem dX11_tell_87 : decode cX11_tell 87 = .ok (.iadd, 1) := db468.2.2.2.2.2.2.2.2.2.2.2.1
theorem dX11_tell_88 : decode cX11_tell 88 = .ok (.iload_n 2, 1) := db468.2.2.2.2.2.2.2.2.2.2.2.2.1
theorem dX11_tell_89 : decode cX11_tell 89 = .ok (.iadd, 1) := db468.2.2.2.2.2.2.2.2.2.2.2.2.2.1
theorem dX11_tell_90 : decode cX11_tell 90 = .ok (.iload_n 3, 1) := db468.2.2.2.2.2.2.2.2.2.2.2.2.2.2.1
theorem dX11_tell_91 : decode cX11_tell 91 = .ok (.iastore, 1) := db468.2.2.2.2.2.2.2.2.2.2.2.2.2.2.2.1
theorem dX11_tell_92 : decode cX11_tell 92 = .ok (.iload 4, 2) := db468.2.2.2.2.2.2.2.2.2.2.2.2.2.2.2.2.1
theorem dX11_tell_94 : decode cX11_tell 94 = .ok (.ireturn, 1) := db468.2.2.2.2.2.2.2.2.2.2.2.2.2.2.2.2.2.1
theorem dX11_tell_67 : decode cX11_tell 67 = .ok (.bipush (-5), 2) := db468.2.2.2.2.2.2.2.2.2.2.2.2.2.2.2.2.2.2.1
theorem dX11_tell_69 : decode cX11_tell 69 = .ok (.ireturn, 1) := db468.2.2.2.2.2.2.2.2.2.2.2.2.2.2.2.2.2.2.2.1
theorem dX11_tell_25 : decode cX11_tell 25 = .ok (.ifCond .ne 9, 3) := db468.2.2.2.2.2.2.2.2.2.2.2.2.2.2.2.2.2.2.2.2.1
theorem dX11_tell_34 : decode cX11_tell 34 = .ok (.iload_n 2, 1) := db468.2.2.2.2.2.2.2.2.2.2.2.2.2.2.2.2.2.2.2.2.2.1
theorem dX11_tell_35 : decode cX11_tell 35 = .ok (.iconst 1, 1) := db468.2.2.2.2.2.2.2.2.2.2.2.2.2.2.2.2.2.2.2.2.2.2.1
theorem dX11_tell_36 : decode cX11_tell 36 = .ok (.if_icmp .ne 9, 3) := db468.2.2.2.2.2.2.2.2.2.2.2.2.2.2.2.2.2.2.2.2.2.2.2
theorem db469 : (decode cX11_tell 45 = .ok (.ldc2_w 454, 3)) ∧ (decode cX11_tell 39 = .ok (.ldc2_w 452, 3)) ∧ (decode cX11_tell 42 = .ok (.goto 6, 3)) ∧ (decode cX11_tell 28 = .ok (.ldc2_w 450, 3)) ∧ (decode cX11_tell 31 = .ok (.goto 17, 3)) := by decide +kernel
theorem dX11_tell_45 : decode cX11_tell 45 = .ok (.ldc2_w 454, 3) := db469.1
theorem dX11_tell_39 : decode cX11_tell 39 = .ok (.ldc2_w 452, 3) := db469.2.1
theorem dX11_tell_42 : decode cX11_tell 42 = .ok (.goto 6, 3) := db469.2.2.1
theorem dX11_tell_28 : decode cX11_tell 28 = .ok (.ldc2_w 450, 3) := db469.2.2.2.1
theorem dX11_tell_31 : decode cX11_tell 31 = .ok (.goto 17, 3) := db469.2.2.2.2
theorem db470 : (decode cX11_tellsApart 0 = .ok (.iconst 0, 1)) ∧ (decode cX11_tellsApart 1 = .ok (.istore_n 3, 1)) ∧ (decode cX11_tellsApart 2 = .ok (.iload_n 3, 1)) ∧ (decode cX11_tellsApart 3 = .ok (.aload_n 0, 1)) ∧ (decode cX11_tellsApart 4 = .ok (.getfield 9, 3)) ∧ (decode cX11_tellsApart 7 = .ok (.iconst 5, 1)) ∧ (decode cX11_tellsApart 8 = .ok (.iaload, 1)) ∧ (decode cX11_tellsApart 9 = .ok (.if_icmp .ge 64, 3)) ∧ (decode cX11_tellsApart 73 = .ok (.iconst 1, 1)) ∧ (decode cX11_tellsApart 74 = .ok (.ireturn, 1)) ∧ (decode cX11_tellsApart 12 = .ok (.iconst 0, 1)) ∧ (decode cX11_tellsApart 13 = .ok (.istore 4, 2)) ∧ (decode cX11_tellsApart 15 = .ok (.iload 4, 2)) ∧ (decode cX11_tellsApart 17 = .ok (.iload_n 3, 1)) ∧ (decode cX11_tellsApart 18 = .ok (.if_icmp .ge 49, 3)) ∧ (decode cX11_tellsApart 67 = .ok (.iinc 3 1, 3)) ∧ (decode cX11_tellsApart 70 = .ok (.goto (-68), 3)) ∧ (decode cX11_tellsApart 21 = .ok (.iload_n 1, 1)) ∧ (decode cX11_tellsApart 22 = .ok (.iload_n 3, 1)) ∧ (decode cX11_tellsApart 23 = .ok (.invokestatic 258, 3)) ∧ (decode cX11_tellsApart 26 = .ok (.iconst 1, 1)) ∧ (decode cX11_tellsApart 61 = .ok (.iinc 4 1, 3)) ∧ (decode cX11_tellsApart 64 = .ok (.goto (-49), 3)) ∧ (decode cX11_tellsApart 27 = .ok (.if_icmp .ne 34, 3)) := by decide +kernel
theorem dX11_tellsApart_0 : decode cX11_tellsApart 0 = .ok (.iconst 0, 1) := db470.1
theorem dX11_tellsApart_1 : decode cX11_tellsApart 1 = .ok (.istore_n 3, 1) := db470.2.1
theorem dX11_tellsApart_2 : decode cX11_tellsApart 2 = .ok (.iload_n 3, 1) := db470.2.2.1
theorem dX11_tellsApart_3 : decode cX11_tellsApart 3 = .ok (.aload_n 0, 1) := db470.2.2.2.1
theorem dX11_tellsApart_4 : decode cX11_tellsApart 4 = .ok (.getfield 9, 3) := db470.2.2.2.2.1
theorem dX11_tellsApart_7 : decode cX11_tellsApart 7 = .ok (.iconst 5, 1) := db470.2.2.2.2.2.1
theorem dX11_tellsApart_8 : decode cX11_tellsApart 8 = .ok (.iaload, 1) := db470.2.2.2.2.2.2.1
theorem dX11_tellsApart_9 : decode cX11_tellsApart 9 = .ok (.if_icmp .ge 64, 3) := db470.2.2.2.2.2.2.2.1
theorem dX11_tellsApart_73 : decode cX11_tellsApart 73 = .ok (.iconst 1, 1) := db470.2.2.2.2.2.2.2.2.1
theorem dX11_tellsApart_74 : decode cX11_tellsApart 74 = .ok (.ireturn, 1) := db470.2.2.2.2.2.2.2.2.2.1
theorem dX11_tellsApart_12 : decode cX11_tellsApart 12 = .ok (.iconst 0, 1) := db470.2.2.2.2.2.2.2.2.2.2.1
theorem dX11_tellsApart_13 : decode cX11_tellsApart 13 = .ok (.istore 4, 2) := db470.2.2.2.2.2.2.2.2.2.2.2.1
theorem dX11_tellsApart_15 : decode cX11_tellsApart 15 = .ok (.iload 4, 2) := db470.2.2.2.2.2.2.2.2.2.2.2.2.1
theorem dX11_tellsApart_17 : decode cX11_tellsApart 17 = .ok (.iload_n 3, 1) := db470.2.2.2.2.2.2.2.2.2.2.2.2.2.1
theorem dX11_tellsApart_18 : decode cX11_tellsApart 18 = .ok (.if_icmp .ge 49, 3) := db470.2.2.2.2.2.2.2.2.2.2.2.2.2.2.1
theorem dX11_tellsApart_67 : decode cX11_tellsApart 67 = .ok (.iinc 3 1, 3) := db470.2.2.2.2.2.2.2.2.2.2.2.2.2.2.2.1
theorem dX11_tellsApart_70 : decode cX11_tellsApart 70 = .ok (.goto (-68), 3) := db470.2.2.2.2.2.2.2.2.2.2.2.2.2.2.2.2.1
theorem dX11_tellsApart_21 : decode cX11_tellsApart 21 = .ok (.iload_n 1, 1) := db470.2.2.2.2.2.2.2.2.2.2.2.2.2.2.2.2.2.1
theorem dX11_tellsApart_22 : decode cX11_tellsApart 22 = .ok (.iload_n 3, 1) := db470.2.2.2.2.2.2.2.2.2.2.2.2.2.2.2.2.2.2.1
theorem dX11_tellsApart_23 : decode cX11_tellsApart 23 = .ok (.invokestatic 258, 3) := db470.2.2.2.2.2.2.2.2.2.2.2.2.2.2.2.2.2.2.2.1
theorem dX11_tellsApart_26 : decode cX11_tellsApart 26 = .ok (.iconst 1, 1) := db470.2.2.2.2.2.2.2.2.2.2.2.2.2.2.2.2.2.2.2.2.1
theorem dX11_tellsApart_61 : decode cX11_tellsApart 61 = .ok (.iinc 4 1, 3) := db470.2.2.2.2.2.2.2.2.2.2.2.2.2.2.2.2.2.2.2.2.2.1
theorem dX11_tellsApart_64 : decode cX11_tellsApart 64 = .ok (.goto (-49), 3) := db470.2.2.2.2.2.2.2.2.2.2.2.2.2.2.2.2.2.2.2.2.2.2.1
theorem dX11_tellsApart_27 : decode cX11_tellsApart 27 = .ok (.if_icmp .ne 34, 3) := db470.2.2.2.2.2.2.2.2.2.2.2.2.2.2.2.2.2.2.2.2.2.2.2
theorem db471 : (decode cX11_tellsApart 30 = .ok (.iload_n 1, 1)) ∧ (decode cX11_tellsApart 31 = .ok (.iload 4, 2)) ∧ (decode cX11_tellsApart 33 = .ok (.invokestatic 258, 3)) ∧ (decode cX11_tellsApart 36 = .ok (.iconst 1, 1)) ∧ (decode cX11_tellsApart 37 = .ok (.if_icmp .ne 24, 3)) ∧ (decode cX11_tellsApart 40 = .ok (.aload_n 0, 1)) ∧ (decode cX11_tellsApart 41 = .ok (.iload_n 3, 1)) ∧ (decode cX11_tellsApart 42 = .ok (.iconst 1, 1)) ∧ (decode cX11_tellsApart 43 = .ok (.invokevirtual 234, 3)) ∧ (decode cX11_tellsApart 46 = .ok (.aload_n 0, 1)) ∧ (decode cX11_tellsApart 47 = .ok (.iload 4, 2)) ∧ (decode cX11_tellsApart 49 = .ok (.iconst 1, 1)) ∧ (decode cX11_tellsApart 50 = .ok (.invokevirtual 234, 3)) ∧ (decode cX11_tellsApart 53 = .ok (.ixor, 1)) ∧ (decode cX11_tellsApart 54 = .ok (.iload_n 2, 1)) ∧ (decode cX11_tellsApart 55 = .ok (.iand, 1)) ∧ (decode cX11_tellsApart 56 = .ok (.ifCond .ne 5, 3)) ∧ (decode cX11_tellsApart 59 = .ok (.iconst 0, 1)) ∧ (decode cX11_tellsApart 60 = .ok (.ireturn, 1)) := by decide +kernel
theorem dX11_tellsApart_30 : decode cX11_tellsApart 30 = .ok (.iload_n 1, 1) := db471.1
theorem dX11_tellsApart_31 : decode cX11_tellsApart 31 = .ok (.iload 4, 2) := db471.2.1
theorem dX11_tellsApart_33 : decode cX11_tellsApart 33 = .ok (.invokestatic 258, 3) := db471.2.2.1
theorem dX11_tellsApart_36 : decode cX11_tellsApart 36 = .ok (.iconst 1, 1) := db471.2.2.2.1
theorem dX11_tellsApart_37 : decode cX11_tellsApart 37 = .ok (.if_icmp .ne 24, 3) := db471.2.2.2.2.1
theorem dX11_tellsApart_40 : decode cX11_tellsApart 40 = .ok (.aload_n 0, 1) := db471.2.2.2.2.2.1
theorem dX11_tellsApart_41 : decode cX11_tellsApart 41 = .ok (.iload_n 3, 1) := db471.2.2.2.2.2.2.1
theorem dX11_tellsApart_42 : decode cX11_tellsApart 42 = .ok (.iconst 1, 1) := db471.2.2.2.2.2.2.2.1
theorem dX11_tellsApart_43 : decode cX11_tellsApart 43 = .ok (.invokevirtual 234, 3) := db471.2.2.2.2.2.2.2.2.1
theorem dX11_tellsApart_46 : decode cX11_tellsApart 46 = .ok (.aload_n 0, 1) := db471.2.2.2.2.2.2.2.2.2.1
theorem dX11_tellsApart_47 : decode cX11_tellsApart 47 = .ok (.iload 4, 2) := db471.2.2.2.2.2.2.2.2.2.2.1
theorem dX11_tellsApart_49 : decode cX11_tellsApart 49 = .ok (.iconst 1, 1) := db471.2.2.2.2.2.2.2.2.2.2.2.1
theorem dX11_tellsApart_50 : decode cX11_tellsApart 50 = .ok (.invokevirtual 234, 3) := db471.2.2.2.2.2.2.2.2.2.2.2.2.1
theorem dX11_tellsApart_53 : decode cX11_tellsApart 53 = .ok (.ixor, 1) := db471.2.2.2.2.2.2.2.2.2.2.2.2.2.1
theorem dX11_tellsApart_54 : decode cX11_tellsApart 54 = .ok (.iload_n 2, 1) := db471.2.2.2.2.2.2.2.2.2.2.2.2.2.2.1
theorem dX11_tellsApart_55 : decode cX11_tellsApart 55 = .ok (.iand, 1) := db471.2.2.2.2.2.2.2.2.2.2.2.2.2.2.2.1
theorem dX11_tellsApart_56 : decode cX11_tellsApart 56 = .ok (.ifCond .ne 5, 3) := db471.2.2.2.2.2.2.2.2.2.2.2.2.2.2.2.2.1
theorem dX11_tellsApart_59 : decode cX11_tellsApart 59 = .ok (.iconst 0, 1) := db471.2.2.2.2.2.2.2.2.2.2.2.2.2.2.2.2.2.1
theorem dX11_tellsApart_60 : decode cX11_tellsApart 60 = .ok (.ireturn, 1) := db471.2.2.2.2.2.2.2.2.2.2.2.2.2.2.2.2.2.2
theorem db472 : (decode cX11_told 0 = .ok (.aload_n 0, 1)) ∧ (decode cX11_told 1 = .ok (.aload_n 1, 1)) ∧ (decode cX11_told 2 = .ok (.invokevirtual 160, 3)) ∧ (decode cX11_told 5 = .ok (.aload_n 0, 1)) ∧ (decode cX11_told 6 = .ok (.iload_n 2, 1)) ∧ (decode cX11_told 7 = .ok (.iload_n 3, 1)) ∧ (decode cX11_told 8 = .ok (.invokevirtual 164, 3)) ∧ (decode cX11_told 11 = .ok (.ireturn, 1)) := by decide +kernel
theorem dX11_told_0 : decode cX11_told 0 = .ok (.aload_n 0, 1) := db472.1
theorem dX11_told_1 : decode cX11_told 1 = .ok (.aload_n 1, 1) := db472.2.1
theorem dX11_told_2 : decode cX11_told 2 = .ok (.invokevirtual 160, 3) := db472.2.2.1
theorem dX11_told_5 : decode cX11_told 5 = .ok (.aload_n 0, 1) := db472.2.2.2.1
theorem dX11_told_6 : decode cX11_told 6 = .ok (.iload_n 2, 1) := db472.2.2.2.2.1
theorem dX11_told_7 : decode cX11_told 7 = .ok (.iload_n 3, 1) := db472.2.2.2.2.2.1
theorem dX11_told_8 : decode cX11_told 8 = .ok (.invokevirtual 164, 3) := db472.2.2.2.2.2.2.1
theorem dX11_told_11 : decode cX11_told 11 = .ok (.ireturn, 1) := db472.2.2.2.2.2.2.2
theorem db473 : (decode cX11_trumpet 0 = .ok (.aload_n 0, 1)) ∧ (decode cX11_trumpet 1 = .ok (.invokevirtual 83, 3)) ∧ (decode cX11_trumpet 4 = .ok (.ifCond .ne 6, 3)) ∧ (decode cX11_trumpet 10 = .ok (.aload_n 0, 1)) ∧ (decode cX11_trumpet 11 = .ok (.invokevirtual 278, 3)) ∧ (decode cX11_trumpet 14 = .ok (.iconst 0, 1)) ∧ (decode cX11_trumpet 15 = .ok (.istore_n 1, 1)) ∧ (decode cX11_trumpet 16 = .ok (.iconst 0, 1)) ∧ (decode cX11_trumpet 17 = .ok (.istore_n 2, 1)) ∧ (decode cX11_trumpet 18 = .ok (.iload_n 2, 1)) ∧ (decode cX11_trumpet 19 = .ok (.aload_n 0, 1)) ∧ (decode cX11_trumpet 20 = .ok (.getfield 9, 3)) ∧ (decode cX11_trumpet 23 = .ok (.iconst 4, 1)) ∧ (decode cX11_trumpet 24 = .ok (.iaload, 1)) ∧ (decode cX11_trumpet 25 = .ok (.if_icmp .ge 18, 3)) ∧ (decode cX11_trumpet 43 = .ok (.iload_n 1, 1)) ∧ (decode cX11_trumpet 44 = .ok (.ireturn, 1)) ∧ (decode cX11_trumpet 28 = .ok (.iload_n 1, 1)) ∧ (decode cX11_trumpet 29 = .ok (.aload_n 0, 1)) ∧ (decode cX11_trumpet 30 = .ok (.iload_n 2, 1)) ∧ (decode cX11_trumpet 31 = .ok (.iconst 0, 1)) ∧ (decode cX11_trumpet 32 = .ok (.invokevirtual 252, 3)) ∧ (decode cX11_trumpet 35 = .ok (.iadd, 1)) ∧ (decode cX11_trumpet 36 = .ok (.istore_n 1, 1)) := by decide +kernel
theorem dX11_trumpet_0 : decode cX11_trumpet 0 = .ok (.aload_n 0, 1) := db473.1
theorem dX11_trumpet_1 : decode cX11_trumpet 1 = .ok (.invokevirtual 83, 3) := db473.2.1
theorem dX11_trumpet_4 : decode cX11_trumpet 4 = .ok (.ifCond .ne 6, 3) := db473.2.2.1
theorem dX11_trumpet_10 : decode cX11_trumpet 10 = .ok (.aload_n 0, 1) := db473.2.2.2.1
theorem dX11_trumpet_11 : decode cX11_trumpet 11 = .ok (.invokevirtual 278, 3) := db473.2.2.2.2.1
theorem dX11_trumpet_14 : decode cX11_trumpet 14 = .ok (.iconst 0, 1) := db473.2.2.2.2.2.1
theorem dX11_trumpet_15 : decode cX11_trumpet 15 = .ok (.istore_n 1, 1) := db473.2.2.2.2.2.2.1
theorem dX11_trumpet_16 : decode cX11_trumpet 16 = .ok (.iconst 0, 1) := db473.2.2.2.2.2.2.2.1
theorem dX11_trumpet_17 : decode cX11_trumpet 17 = .ok (.istore_n 2, 1) := db473.2.2.2.2.2.2.2.2.1
theorem dX11_trumpet_18 : decode cX11_trumpet 18 = .ok (.iload_n 2, 1) := db473.2.2.2.2.2.2.2.2.2.1
theorem dX11_trumpet_19 : decode cX11_trumpet 19 = .ok (.aload_n 0, 1) := db473.2.2.2.2.2.2.2.2.2.2.1
theorem dX11_trumpet_20 : decode cX11_trumpet 20 = .ok (.getfield 9, 3) := db473.2.2.2.2.2.2.2.2.2.2.2.1
theorem dX11_trumpet_23 : decode cX11_trumpet 23 = .ok (.iconst 4, 1) := db473.2.2.2.2.2.2.2.2.2.2.2.2.1
theorem dX11_trumpet_24 : decode cX11_trumpet 24 = .ok (.iaload, 1) := db473.2.2.2.2.2.2.2.2.2.2.2.2.2.1
theorem dX11_trumpet_25 : decode cX11_trumpet 25 = .ok (.if_icmp .ge 18, 3) := db473.2.2.2.2.2.2.2.2.2.2.2.2.2.2.1
theorem dX11_trumpet_43 : decode cX11_trumpet 43 = .ok (.iload_n 1, 1) := db473.2.2.2.2.2.2.2.2.2.2.2.2.2.2.2.1
theorem dX11_trumpet_44 : decode cX11_trumpet 44 = .ok (.ireturn, 1) := db473.2.2.2.2.2.2.2.2.2.2.2.2.2.2.2.2.1
theorem dX11_trumpet_28 : decode cX11_trumpet 28 = .ok (.iload_n 1, 1) := db473.2.2.2.2.2.2.2.2.2.2.2.2.2.2.2.2.2.1
theorem dX11_trumpet_29 : decode cX11_trumpet 29 = .ok (.aload_n 0, 1) := db473.2.2.2.2.2.2.2.2.2.2.2.2.2.2.2.2.2.2.1
theorem dX11_trumpet_30 : decode cX11_trumpet 30 = .ok (.iload_n 2, 1) := db473.2.2.2.2.2.2.2.2.2.2.2.2.2.2.2.2.2.2.2.1
theorem dX11_trumpet_31 : decode cX11_trumpet 31 = .ok (.iconst 0, 1) := db473.2.2.2.2.2.2.2.2.2.2.2.2.2.2.2.2.2.2.2.2.1
theorem dX11_trumpet_32 : decode cX11_trumpet 32 = .ok (.invokevirtual 252, 3) := db473.2.2.2.2.2.2.2.2.2.2.2.2.2.2.2.2.2.2.2.2.2.1
theorem dX11_trumpet_35 : decode cX11_trumpet 35 = .ok (.iadd, 1) := db473.2.2.2.2.2.2.2.2.2.2.2.2.2.2.2.2.2.2.2.2.2.2.1
theorem dX11_trumpet_36 : decode cX11_trumpet 36 = .ok (.istore_n 1, 1) := db473.2.2.2.2.2.2.2.2.2.2.2.2.2.2.2.2.2.2.2.2.2.2.2
theorem db474 : (decode cX11_trumpet 37 = .ok (.iinc 2 1, 3)) ∧ (decode cX11_trumpet 40 = .ok (.goto (-22), 3)) ∧ (decode cX11_trumpet 7 = .ok (.bipush (-2), 2)) ∧ (decode cX11_trumpet 9 = .ok (.ireturn, 1)) := by decide +kernel
theorem dX11_trumpet_37 : decode cX11_trumpet 37 = .ok (.iinc 2 1, 3) := db474.1
theorem dX11_trumpet_40 : decode cX11_trumpet 40 = .ok (.goto (-22), 3) := db474.2.1
theorem dX11_trumpet_7 : decode cX11_trumpet 7 = .ok (.bipush (-2), 2) := db474.2.2.1
theorem dX11_trumpet_9 : decode cX11_trumpet 9 = .ok (.ireturn, 1) := db474.2.2.2
theorem db475 : (decode cX11_two 0 = .ok (.aload_n 0, 1)) ∧ (decode cX11_two 1 = .ok (.iload_n 1, 1)) ∧ (decode cX11_two 2 = .ok (.i2l, 1)) ∧ (decode cX11_two 3 = .ok (.invokevirtual 89, 3)) ∧ (decode cX11_two 6 = .ok (.ifCond .eq 26, 3)) ∧ (decode cX11_two 32 = .ok (.bipush (-2), 2)) ∧ (decode cX11_two 34 = .ok (.ireturn, 1)) ∧ (decode cX11_two 9 = .ok (.aload_n 0, 1)) ∧ (decode cX11_two 10 = .ok (.iload_n 2, 1)) ∧ (decode cX11_two 11 = .ok (.i2l, 1)) ∧ (decode cX11_two 12 = .ok (.invokevirtual 89, 3)) ∧ (decode cX11_two 15 = .ok (.ifCond .eq 17, 3)) ∧ (decode cX11_two 18 = .ok (.aload_n 0, 1)) ∧ (decode cX11_two 19 = .ok (.aload_n 0, 1)) ∧ (decode cX11_two 20 = .ok (.iload_n 1, 1)) ∧ (decode cX11_two 21 = .ok (.iload_n 2, 1)) ∧ (decode cX11_two 22 = .ok (.iconst 0, 1)) ∧ (decode cX11_two 23 = .ok (.invokevirtual 356, 3)) ∧ (decode cX11_two 26 = .ok (.invokevirtual 360, 3)) ∧ (decode cX11_two 29 = .ok (.goto 5, 3)) := by decide +kernel
theorem dX11_two_0 : decode cX11_two 0 = .ok (.aload_n 0, 1) := db475.1
theorem dX11_two_1 : decode cX11_two 1 = .ok (.iload_n 1, 1) := db475.2.1
theorem dX11_two_2 : decode cX11_two 2 = .ok (.i2l, 1) := db475.2.2.1
theorem dX11_two_3 : decode cX11_two 3 = .ok (.invokevirtual 89, 3) := db475.2.2.2.1
theorem dX11_two_6 : decode cX11_two 6 = .ok (.ifCond .eq 26, 3) := db475.2.2.2.2.1
theorem dX11_two_32 : decode cX11_two 32 = .ok (.bipush (-2), 2) := db475.2.2.2.2.2.1
theorem dX11_two_34 : decode cX11_two 34 = .ok (.ireturn, 1) := db475.2.2.2.2.2.2.1
theorem dX11_two_9 : decode cX11_two 9 = .ok (.aload_n 0, 1) := db475.2.2.2.2.2.2.2.1
theorem dX11_two_10 : decode cX11_two 10 = .ok (.iload_n 2, 1) := db475.2.2.2.2.2.2.2.2.1
theorem dX11_two_11 : decode cX11_two 11 = .ok (.i2l, 1) := db475.2.2.2.2.2.2.2.2.2.1
theorem dX11_two_12 : decode cX11_two 12 = .ok (.invokevirtual 89, 3) := db475.2.2.2.2.2.2.2.2.2.2.1
theorem dX11_two_15 : decode cX11_two 15 = .ok (.ifCond .eq 17, 3) := db475.2.2.2.2.2.2.2.2.2.2.2.1
theorem dX11_two_18 : decode cX11_two 18 = .ok (.aload_n 0, 1) := db475.2.2.2.2.2.2.2.2.2.2.2.2.1
theorem dX11_two_19 : decode cX11_two 19 = .ok (.aload_n 0, 1) := db475.2.2.2.2.2.2.2.2.2.2.2.2.2.1
theorem dX11_two_20 : decode cX11_two 20 = .ok (.iload_n 1, 1) := db475.2.2.2.2.2.2.2.2.2.2.2.2.2.2.1
theorem dX11_two_21 : decode cX11_two 21 = .ok (.iload_n 2, 1) := db475.2.2.2.2.2.2.2.2.2.2.2.2.2.2.2.1
theorem dX11_two_22 : decode cX11_two 22 = .ok (.iconst 0, 1) := db475.2.2.2.2.2.2.2.2.2.2.2.2.2.2.2.2.1
theorem dX11_two_23 : decode cX11_two 23 = .ok (.invokevirtual 356, 3) := db475.2.2.2.2.2.2.2.2.2.2.2.2.2.2.2.2.2.1
theorem dX11_two_26 : decode cX11_two 26 = .ok (.invokevirtual 360, 3) := db475.2.2.2.2.2.2.2.2.2.2.2.2.2.2.2.2.2.2.1
theorem dX11_two_29 : decode cX11_two 29 = .ok (.goto 5, 3) := db475.2.2.2.2.2.2.2.2.2.2.2.2.2.2.2.2.2.2.2
