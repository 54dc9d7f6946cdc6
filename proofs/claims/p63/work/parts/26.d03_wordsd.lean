theorem dX0_seek_71 : decode cX0_seek 71 = .ok (.goto (-52), 3) := by decide +kernel
theorem dX0_seek_35 : decode cX0_seek 35 = .ok (.ifCond .eq 33, 3) := by decide +kernel
theorem dX0_seek_38 : decode cX0_seek 38 = .ok (.aload_n 0, 1) := by decide +kernel
theorem dX0_seek_39 : decode cX0_seek 39 = .ok (.aload_n 1, 1) := by decide +kernel
theorem dX0_seek_40 : decode cX0_seek 40 = .ok (.iload 6, 2) := by decide +kernel
theorem dX0_seek_42 : decode cX0_seek 42 = .ok (.iload_n 3, 1) := by decide +kernel
theorem dX0_seek_43 : decode cX0_seek 43 = .ok (.iload 4, 2) := by decide +kernel
theorem dX0_seek_45 : decode cX0_seek 45 = .ok (.invokevirtual 41, 3) := by decide +kernel
theorem dX0_seek_48 : decode cX0_seek 48 = .ok (.istore 7, 2) := by decide +kernel
theorem dX0_seek_50 : decode cX0_seek 50 = .ok (.iload 7, 2) := by decide +kernel
theorem dX0_seek_52 : decode cX0_seek 52 = .ok (.iload 5, 2) := by decide +kernel
theorem dX0_seek_54 : decode cX0_seek 54 = .ok (.if_icmp .le 14, 3) := by decide +kernel
theorem dX0_seek_57 : decode cX0_seek 57 = .ok (.iload 7, 2) := by decide +kernel
theorem dX0_seek_59 : decode cX0_seek 59 = .ok (.istore 5, 2) := by decide +kernel
theorem dX0_seek_61 : decode cX0_seek 61 = .ok (.aload_n 0, 1) := by decide +kernel
theorem dX0_seek_62 : decode cX0_seek 62 = .ok (.iload_n 3, 1) := by decide +kernel
theorem dX0_seek_63 : decode cX0_seek 63 = .ok (.iload 6, 2) := by decide +kernel
theorem dX0_seek_65 : decode cX0_seek 65 = .ok (.invokevirtual 48, 3) := by decide +kernel
theorem dX0_calling_8 : decode cX0_calling 8 = .ok (.iload_n 3, 1) := by decide +kernel
theorem dX0_calling_9 : decode cX0_calling 9 = .ok (.iconst 1, 1) := by decide +kernel
theorem dX0_calling_10 : decode cX0_calling 10 = .ok (.iadd, 1) := by decide +kernel
theorem dX0_calling_11 : decode cX0_calling 11 = .ok (.iconst 5, 1) := by decide +kernel
theorem dX0_calling_12 : decode cX0_calling 12 = .ok (.if_icmp .lt 16, 3) := by decide +kernel
theorem dX0_calling_28 : decode cX0_calling 28 = .ok (.aload_n 0, 1) := by decide +kernel
theorem dX0_calling_29 : decode cX0_calling 29 = .ok (.getfield 11, 3) := by decide +kernel
theorem dX0_calling_32 : decode cX0_calling 32 = .ok (.iload_n 3, 1) := by decide +kernel
theorem dX0_calling_33 : decode cX0_calling 33 = .ok (.iconst 1, 1) := by decide +kernel
theorem dX0_calling_34 : decode cX0_calling 34 = .ok (.iadd, 1) := by decide +kernel
theorem dX0_calling_35 : decode cX0_calling 35 = .ok (.aaload, 1) := by decide +kernel
theorem dX0_calling_36 : decode cX0_calling 36 = .ok (.astore 5, 2) := by decide +kernel
theorem dX0_calling_38 : decode cX0_calling 38 = .ok (.aload 5, 2) := by decide +kernel
theorem dX0_calling_40 : decode cX0_calling 40 = .ok (.aload_n 0, 1) := by decide +kernel
theorem dX0_calling_41 : decode cX0_calling 41 = .ok (.getfield 11, 3) := by decide +kernel
theorem dX0_calling_44 : decode cX0_calling 44 = .ok (.iload_n 3, 1) := by decide +kernel
theorem dX0_calling_45 : decode cX0_calling 45 = .ok (.aaload, 1) := by decide +kernel
theorem dX0_calling_46 : decode cX0_calling 46 = .ok (.invokevirtual 27, 3) := by decide +kernel
theorem dX0_calling_49 : decode cX0_calling 49 = .ok (.aload 5, 2) := by decide +kernel
theorem dX0_calling_51 : decode cX0_calling 51 = .ok (.aload_n 1, 1) := by decide +kernel
theorem dX0_calling_52 : decode cX0_calling 52 = .ok (.iload_n 2, 1) := by decide +kernel
theorem dX0_calling_53 : decode cX0_calling 53 = .ok (.iconst 0, 1) := by decide +kernel
theorem dX0_calling_54 : decode cX0_calling 54 = .ok (.invokevirtual 56, 3) := by decide +kernel
theorem dX0_calling_57 : decode cX0_calling 57 = .ok (.istore 6, 2) := by decide +kernel
theorem dX0_calling_59 : decode cX0_calling 59 = .ok (.iload 6, 2) := by decide +kernel
theorem dX0_calling_61 : decode cX0_calling 61 = .ok (.aload_n 0, 1) := by decide +kernel
theorem dX0_calling_62 : decode cX0_calling 62 = .ok (.aload_n 1, 1) := by decide +kernel
theorem dX0_calling_63 : decode cX0_calling 63 = .ok (.iload_n 2, 1) := by decide +kernel
theorem dX0_calling_64 : decode cX0_calling 64 = .ok (.iload_n 3, 1) := by decide +kernel
theorem dX0_calling_65 : decode cX0_calling 65 = .ok (.iconst 1, 1) := by decide +kernel
theorem dX0_calling_66 : decode cX0_calling 66 = .ok (.iadd, 1) := by decide +kernel
theorem dX0_calling_67 : decode cX0_calling 67 = .ok (.iload 4, 2) := by decide +kernel
theorem dX0_calling_69 : decode cX0_calling 69 = .ok (.invokevirtual 31, 3) := by decide +kernel
theorem dX0_calling_72 : decode cX0_calling 72 = .ok (.iadd, 1) := by decide +kernel
theorem dX0_calling_73 : decode cX0_calling 73 = .ok (.ireturn, 1) := by decide +kernel
theorem dX0_mostFrom_0 : decode cX0_mostFrom 0 = .ok (.aload_n 0, 1) := by decide +kernel
theorem dX0_mostFrom_1 : decode cX0_mostFrom 1 = .ok (.getfield 11, 3) := by decide +kernel
theorem dX0_mostFrom_4 : decode cX0_mostFrom 4 = .ok (.iconst 0, 1) := by decide +kernel
theorem dX0_mostFrom_5 : decode cX0_mostFrom 5 = .ok (.aaload, 1) := by decide +kernel
theorem dX0_mostFrom_6 : decode cX0_mostFrom 6 = .ok (.aload_n 2, 1) := by decide +kernel
theorem dX0_mostFrom_7 : decode cX0_mostFrom 7 = .ok (.invokevirtual 27, 3) := by decide +kernel
theorem dX0_mostFrom_10 : decode cX0_mostFrom 10 = .ok (.aload_n 0, 1) := by decide +kernel
theorem dX0_mostFrom_11 : decode cX0_mostFrom 11 = .ok (.aload_n 1, 1) := by decide +kernel
theorem dX0_mostFrom_12 : decode cX0_mostFrom 12 = .ok (.iload_n 3, 1) := by decide +kernel
theorem dX0_mostFrom_13 : decode cX0_mostFrom 13 = .ok (.iconst 0, 1) := by decide +kernel
theorem dX0_mostFrom_14 : decode cX0_mostFrom 14 = .ok (.iload 4, 2) := by decide +kernel
theorem dX0_mostFrom_16 : decode cX0_mostFrom 16 = .ok (.invokevirtual 31, 3) := by decide +kernel
theorem dX0_mostFrom_19 : decode cX0_mostFrom 19 = .ok (.ireturn, 1) := by decide +kernel
theorem dX0_bestStart_0 : decode cX0_bestStart 0 = .ok (.aload_n 0, 1) := by decide +kernel
theorem dX0_bestStart_1 : decode cX0_bestStart 1 = .ok (.getfield 11, 3) := by decide +kernel
theorem dX0_bestStart_4 : decode cX0_bestStart 4 = .ok (.iconst 0, 1) := by decide +kernel
theorem dX0_bestStart_5 : decode cX0_bestStart 5 = .ok (.aaload, 1) := by decide +kernel
theorem dX0_bestStart_6 : decode cX0_bestStart 6 = .ok (.aload_n 2, 1) := by decide +kernel
theorem dX0_bestStart_7 : decode cX0_bestStart 7 = .ok (.invokevirtual 27, 3) := by decide +kernel
theorem dX0_bestStart_10 : decode cX0_bestStart 10 = .ok (.iconst 0, 1) := by decide +kernel
theorem dX0_bestStart_11 : decode cX0_bestStart 11 = .ok (.istore 4, 2) := by decide +kernel
theorem dX0_bestStart_13 : decode cX0_bestStart 13 = .ok (.iload 4, 2) := by decide +kernel
theorem dX0_bestStart_15 : decode cX0_bestStart 15 = .ok (.aload_n 1, 1) := by decide +kernel
theorem dX0_bestStart_16 : decode cX0_bestStart 16 = .ok (.getfield 35, 3) := by decide +kernel
theorem dX0_bestStart_19 : decode cX0_bestStart 19 = .ok (.if_icmp .ge 34, 3) := by decide +kernel
theorem dX0_bestStart_53 : decode cX0_bestStart 53 = .ok (.iconst 0, 1) := by decide +kernel
theorem dX0_bestStart_54 : decode cX0_bestStart 54 = .ok (.istore 4, 2) := by decide +kernel
theorem dX0_bestStart_56 : decode cX0_bestStart 56 = .ok (.iconst (-1), 1) := by decide +kernel
theorem dX0_bestStart_57 : decode cX0_bestStart 57 = .ok (.istore 5, 2) := by decide +kernel
theorem dX0_bestStart_59 : decode cX0_bestStart 59 = .ok (.iconst 0, 1) := by decide +kernel
theorem dX0_bestStart_60 : decode cX0_bestStart 60 = .ok (.istore 6, 2) := by decide +kernel
theorem dX0_bestStart_62 : decode cX0_bestStart 62 = .ok (.iload 6, 2) := by decide +kernel
theorem dX0_bestStart_64 : decode cX0_bestStart 64 = .ok (.aload_n 1, 1) := by decide +kernel
theorem dX0_bestStart_65 : decode cX0_bestStart 65 = .ok (.getfield 35, 3) := by decide +kernel
theorem dX0_bestStart_68 : decode cX0_bestStart 68 = .ok (.if_icmp .ge 63, 3) := by decide +kernel
theorem dX0_bestStart_131 : decode cX0_bestStart 131 = .ok (.iload 4, 2) := by decide +kernel
theorem dX0_bestStart_133 : decode cX0_bestStart 133 = .ok (.ireturn, 1) := by decide +kernel
theorem dX0_bestStart_71 : decode cX0_bestStart 71 = .ok (.iconst 0, 1) := by decide +kernel
theorem dX0_bestStart_72 : decode cX0_bestStart 72 = .ok (.istore 7, 2) := by decide +kernel
theorem dX0_bestStart_74 : decode cX0_bestStart 74 = .ok (.iload 7, 2) := by decide +kernel
theorem dX0_bestStart_76 : decode cX0_bestStart 76 = .ok (.aload_n 1, 1) := by decide +kernel
theorem dX0_bestStart_77 : decode cX0_bestStart 77 = .ok (.getfield 35, 3) := by decide +kernel
theorem dX0_bestStart_80 : decode cX0_bestStart 80 = .ok (.if_icmp .ge 45, 3) := by decide +kernel
theorem dX0_bestStart_125 : decode cX0_bestStart 125 = .ok (.iinc 6 1, 3) := by decide +kernel
theorem dX0_bestStart_128 : decode cX0_bestStart 128 = .ok (.goto (-66), 3) := by decide +kernel
theorem dX0_bestStart_83 : decode cX0_bestStart 83 = .ok (.aload_n 1, 1) := by decide +kernel
theorem dX0_bestStart_84 : decode cX0_bestStart 84 = .ok (.iload 6, 2) := by decide +kernel
theorem dX0_bestStart_86 : decode cX0_bestStart 86 = .ok (.iload 7, 2) := by decide +kernel
theorem dX0_bestStart_88 : decode cX0_bestStart 88 = .ok (.invokevirtual 44, 3) := by decide +kernel
theorem dX0_bestStart_119 : decode cX0_bestStart 119 = .ok (.iinc 7 1, 3) := by decide +kernel
theorem dX0_bestStart_122 : decode cX0_bestStart 122 = .ok (.goto (-48), 3) := by decide +kernel
theorem dX0_bestStart_91 : decode cX0_bestStart 91 = .ok (.ifCond .eq 28, 3) := by decide +kernel
theorem dX0_bestStart_94 : decode cX0_bestStart 94 = .ok (.aload_n 0, 1) := by decide +kernel
theorem dX0_bestStart_95 : decode cX0_bestStart 95 = .ok (.getfield 22, 3) := by decide +kernel
theorem dX0_bestStart_98 : decode cX0_bestStart 98 = .ok (.iload 7, 2) := by decide +kernel
theorem dX0_bestStart_100 : decode cX0_bestStart 100 = .ok (.iaload, 1) := by decide +kernel
theorem dX0_bestStart_101 : decode cX0_bestStart 101 = .ok (.iload 5, 2) := by decide +kernel
theorem dX0_bestStart_103 : decode cX0_bestStart 103 = .ok (.if_icmp .le 16, 3) := by decide +kernel
theorem dX0_bestStart_106 : decode cX0_bestStart 106 = .ok (.aload_n 0, 1) := by decide +kernel
theorem dX0_bestStart_107 : decode cX0_bestStart 107 = .ok (.getfield 22, 3) := by decide +kernel
theorem dX0_bestStart_110 : decode cX0_bestStart 110 = .ok (.iload 7, 2) := by decide +kernel
theorem dX0_bestStart_112 : decode cX0_bestStart 112 = .ok (.iaload, 1) := by decide +kernel
theorem dX0_bestStart_113 : decode cX0_bestStart 113 = .ok (.istore 5, 2) := by decide +kernel
theorem dX0_bestStart_115 : decode cX0_bestStart 115 = .ok (.iload 6, 2) := by decide +kernel
theorem dX0_bestStart_117 : decode cX0_bestStart 117 = .ok (.istore 4, 2) := by decide +kernel
theorem dX0_bestStart_22 : decode cX0_bestStart 22 = .ok (.aload_n 0, 1) := by decide +kernel
theorem dX0_bestStart_23 : decode cX0_bestStart 23 = .ok (.getfield 22, 3) := by decide +kernel
theorem dX0_bestStart_26 : decode cX0_bestStart 26 = .ok (.iload 4, 2) := by decide +kernel
theorem dX0_bestStart_28 : decode cX0_bestStart 28 = .ok (.iload_n 3, 1) := by decide +kernel
theorem dX0_bestStart_29 : decode cX0_bestStart 29 = .ok (.iconst 1, 1) := by decide +kernel
theorem dX0_bestStart_46 : decode cX0_bestStart 46 = .ok (.iastore, 1) := by decide +kernel
theorem dX0_bestStart_47 : decode cX0_bestStart 47 = .ok (.iinc 4 1, 3) := by decide +kernel
theorem dX0_bestStart_50 : decode cX0_bestStart 50 = .ok (.goto (-37), 3) := by decide +kernel
theorem dX0_bestStart_30 : decode cX0_bestStart 30 = .ok (.if_icmp .ge 7, 3) := by decide +kernel
theorem dX0_bestStart_37 : decode cX0_bestStart 37 = .ok (.aload_n 0, 1) := by decide +kernel
theorem dX0_bestStart_38 : decode cX0_bestStart 38 = .ok (.aload_n 1, 1) := by decide +kernel
theorem dX0_bestStart_39 : decode cX0_bestStart 39 = .ok (.iload 4, 2) := by decide +kernel
theorem dX0_bestStart_41 : decode cX0_bestStart 41 = .ok (.iconst 0, 1) := by decide +kernel
theorem dX0_bestStart_42 : decode cX0_bestStart 42 = .ok (.iload_n 3, 1) := by decide +kernel
theorem dX0_bestStart_43 : decode cX0_bestStart 43 = .ok (.invokevirtual 41, 3) := by decide +kernel
theorem dX0_bestStart_33 : decode cX0_bestStart 33 = .ok (.iconst 0, 1) := by decide +kernel
theorem dX0_bestStart_34 : decode cX0_bestStart 34 = .ok (.goto 12, 3) := by decide +kernel
theorem dX10_isSlot_0 : decode cX10_isSlot 0 = .ok (.iload_n 1, 1) := by decide +kernel
theorem dX10_isSlot_1 : decode cX10_isSlot 1 = .ok (.ifCond .lt 12, 3) := by decide +kernel
theorem dX10_isSlot_13 : decode cX10_isSlot 13 = .ok (.iconst 0, 1) := by decide +kernel
theorem dX10_isSlot_14 : decode cX10_isSlot 14 = .ok (.ireturn, 1) := by decide +kernel
theorem dX10_isSlot_4 : decode cX10_isSlot 4 = .ok (.iload_n 1, 1) := by decide +kernel
theorem dX10_isSlot_5 : decode cX10_isSlot 5 = .ok (.iconst 4, 1) := by decide +kernel
theorem dX10_isSlot_6 : decode cX10_isSlot 6 = .ok (.if_icmp .ge 7, 3) := by decide +kernel
theorem dX10_isSlot_9 : decode cX10_isSlot 9 = .ok (.iconst 1, 1) := by decide +kernel
theorem dX10_isSlot_10 : decode cX10_isSlot 10 = .ok (.goto 4, 3) := by decide +kernel
theorem dX10_isPartOfMillion_0 : decode cX10_isPartOfMillion 0 = .ok (.iload_n 1, 1) := by decide +kernel
theorem dX10_isPartOfMillion_1 : decode cX10_isPartOfMillion 1 = .ok (.ifCond .lt 13, 3) := by decide +kernel
theorem dX10_isPartOfMillion_14 : decode cX10_isPartOfMillion 14 = .ok (.iconst 0, 1) := by decide +kernel
theorem dX10_isPartOfMillion_15 : decode cX10_isPartOfMillion 15 = .ok (.ireturn, 1) := by decide +kernel
theorem dX10_isPartOfMillion_4 : decode cX10_isPartOfMillion 4 = .ok (.iload_n 1, 1) := by decide +kernel
theorem dX10_isPartOfMillion_5 : decode cX10_isPartOfMillion 5 = .ok (.ldc 201, 2) := by decide +kernel
theorem dX10_isPartOfMillion_7 : decode cX10_isPartOfMillion 7 = .ok (.if_icmp .gt 7, 3) := by decide +kernel
theorem dX10_isPartOfMillion_10 : decode cX10_isPartOfMillion 10 = .ok (.iconst 1, 1) := by decide +kernel
theorem dX10_isPartOfMillion_11 : decode cX10_isPartOfMillion 11 = .ok (.goto 4, 3) := by decide +kernel
theorem dX10_isBestLength_0 : decode cX10_isBestLength 0 = .ok (.iload_n 1, 1) := by decide +kernel
theorem dX10_isBestLength_1 : decode cX10_isBestLength 1 = .ok (.ifCond .lt 12, 3) := by decide +kernel
theorem dX10_isBestLength_13 : decode cX10_isBestLength 13 = .ok (.iconst 0, 1) := by decide +kernel
theorem dX10_isBestLength_14 : decode cX10_isBestLength 14 = .ok (.ireturn, 1) := by decide +kernel
theorem dX10_isBestLength_4 : decode cX10_isBestLength 4 = .ok (.iload_n 1, 1) := by decide +kernel
theorem dX10_isBestLength_5 : decode cX10_isBestLength 5 = .ok (.iconst 5, 1) := by decide +kernel
theorem dX10_isBestLength_6 : decode cX10_isBestLength 6 = .ok (.if_icmp .gt 7, 3) := by decide +kernel
theorem dX10_isBestLength_9 : decode cX10_isBestLength 9 = .ok (.iconst 1, 1) := by decide +kernel
theorem dX10_isBestLength_10 : decode cX10_isBestLength 10 = .ok (.goto 4, 3) := by decide +kernel
theorem dX10_isSeed_0 : decode cX10_isSeed 0 = .ok (.iload_n 1, 1) := by decide +kernel
theorem dX10_isSeed_1 : decode cX10_isSeed 1 = .ok (.ifCond .lt 14, 3) := by decide +kernel
theorem dX10_isSeed_15 : decode cX10_isSeed 15 = .ok (.iconst 0, 1) := by decide +kernel
theorem dX10_isSeed_16 : decode cX10_isSeed 16 = .ok (.ireturn, 1) := by decide +kernel
theorem dX10_isSeed_4 : decode cX10_isSeed 4 = .ok (.iload_n 1, 1) := by decide +kernel
theorem dX10_isSeed_5 : decode cX10_isSeed 5 = .ok (.ldc_w 380, 3) := by decide +kernel
theorem dX10_isSeed_8 : decode cX10_isSeed 8 = .ok (.if_icmp .gt 7, 3) := by decide +kernel
theorem dX10_isSeed_11 : decode cX10_isSeed 11 = .ok (.iconst 1, 1) := by decide +kernel
theorem dX10_isSeed_12 : decode cX10_isSeed 12 = .ok (.goto 4, 3) := by decide +kernel
theorem dX10_hasHouse_0 : decode cX10_hasHouse 0 = .ok (.aload_n 0, 1) := by decide +kernel
theorem dX10_hasHouse_1 : decode cX10_hasHouse 1 = .ok (.getfield 31, 3) := by decide +kernel
theorem dX10_hasHouse_4 : decode cX10_hasHouse 4 = .ok (.getfield 98, 3) := by decide +kernel
theorem dX10_hasHouse_7 : decode cX10_hasHouse 7 = .ok (.getfield 111, 3) := by decide +kernel
theorem dX10_hasHouse_10 : decode cX10_hasHouse 10 = .ok (.ifCond .le 7, 3) := by decide +kernel
theorem dX10_hasHouse_17 : decode cX10_hasHouse 17 = .ok (.iconst 0, 1) := by decide +kernel
theorem dX10_hasHouse_18 : decode cX10_hasHouse 18 = .ok (.ireturn, 1) := by decide +kernel
theorem dX10_hasHouse_13 : decode cX10_hasHouse 13 = .ok (.iconst 1, 1) := by decide +kernel
theorem dX10_hasHouse_14 : decode cX10_hasHouse 14 = .ok (.goto 4, 3) := by decide +kernel
theorem dX10_isRoom_0 : decode cX10_isRoom 0 = .ok (.aload_n 0, 1) := by decide +kernel
theorem dX10_isRoom_1 : decode cX10_isRoom 1 = .ok (.getfield 31, 3) := by decide +kernel
theorem dX10_isRoom_4 : decode cX10_isRoom 4 = .ok (.getfield 98, 3) := by decide +kernel
theorem dX10_isRoom_7 : decode cX10_isRoom 7 = .ok (.iload_n 1, 1) := by decide +kernel
theorem dX10_isRoom_8 : decode cX10_isRoom 8 = .ok (.invokevirtual 377, 3) := by decide +kernel
theorem dX10_isRoom_11 : decode cX10_isRoom 11 = .ok (.ireturn, 1) := by decide +kernel
theorem dX10_isMan_0 : decode cX10_isMan 0 = .ok (.iload_n 1, 1) := by decide +kernel
theorem dX10_isMan_1 : decode cX10_isMan 1 = .ok (.ifCond .lt 21, 3) := by decide +kernel
theorem dX10_isMan_22 : decode cX10_isMan 22 = .ok (.iconst 0, 1) := by decide +kernel
theorem dX10_isMan_23 : decode cX10_isMan 23 = .ok (.ireturn, 1) := by decide +kernel
theorem dX10_isMan_4 : decode cX10_isMan 4 = .ok (.iload_n 1, 1) := by decide +kernel
theorem dX10_isMan_5 : decode cX10_isMan 5 = .ok (.aload_n 0, 1) := by decide +kernel
theorem dX10_isMan_6 : decode cX10_isMan 6 = .ok (.getfield 31, 3) := by decide +kernel
theorem dX10_isMan_9 : decode cX10_isMan 9 = .ok (.getfield 98, 3) := by decide +kernel
theorem dX10_isMan_12 : decode cX10_isMan 12 = .ok (.getfield 283, 3) := by decide +kernel
theorem dX10_isMan_15 : decode cX10_isMan 15 = .ok (.if_icmp .ge 7, 3) := by decide +kernel
theorem dX10_isMan_18 : decode cX10_isMan 18 = .ok (.iconst 1, 1) := by decide +kernel
theorem dX10_isMan_19 : decode cX10_isMan 19 = .ok (.goto 4, 3) := by decide +kernel
theorem dX10_isRoomOrOut_0 : decode cX10_isRoomOrOut 0 = .ok (.aload_n 0, 1) := by decide +kernel
theorem dX10_isRoomOrOut_1 : decode cX10_isRoomOrOut 1 = .ok (.invokevirtual 152, 3) := by decide +kernel
theorem dX10_isRoomOrOut_4 : decode cX10_isRoomOrOut 4 = .ok (.ifCond .eq 20, 3) := by decide +kernel
theorem dX10_isRoomOrOut_24 : decode cX10_isRoomOrOut 24 = .ok (.iconst 0, 1) := by decide +kernel
theorem dX10_isRoomOrOut_25 : decode cX10_isRoomOrOut 25 = .ok (.ireturn, 1) := by decide +kernel
theorem dX10_isRoomOrOut_7 : decode cX10_isRoomOrOut 7 = .ok (.iload_n 1, 1) := by decide +kernel
theorem dX10_isRoomOrOut_8 : decode cX10_isRoomOrOut 8 = .ok (.iconst (-1), 1) := by decide +kernel
theorem dX10_isRoomOrOut_9 : decode cX10_isRoomOrOut 9 = .ok (.if_icmp .eq 11, 3) := by decide +kernel
theorem dX10_isRoomOrOut_20 : decode cX10_isRoomOrOut 20 = .ok (.iconst 1, 1) := by decide +kernel
theorem dX10_isRoomOrOut_21 : decode cX10_isRoomOrOut 21 = .ok (.goto 4, 3) := by decide +kernel
theorem dX10_isRoomOrOut_12 : decode cX10_isRoomOrOut 12 = .ok (.aload_n 0, 1) := by decide +kernel
theorem dX10_isRoomOrOut_13 : decode cX10_isRoomOrOut 13 = .ok (.iload_n 1, 1) := by decide +kernel
theorem dX10_isRoomOrOut_14 : decode cX10_isRoomOrOut 14 = .ok (.invokevirtual 120, 3) := by decide +kernel
theorem dX10_isRoomOrOut_17 : decode cX10_isRoomOrOut 17 = .ok (.ifCond .eq 7, 3) := by decide +kernel
theorem dX10_isSet_0 : decode cX10_isSet 0 = .ok (.iload_n 1, 1) := by decide +kernel
theorem dX10_isSet_1 : decode cX10_isSet 1 = .ok (.iconst 1, 1) := by decide +kernel
theorem dX10_isSet_2 : decode cX10_isSet 2 = .ok (.if_icmp .lt 23, 3) := by decide +kernel
theorem dX10_isSet_25 : decode cX10_isSet 25 = .ok (.iconst 0, 1) := by decide +kernel
theorem dX10_isSet_26 : decode cX10_isSet 26 = .ok (.ireturn, 1) := by decide +kernel
theorem dX10_isSet_5 : decode cX10_isSet 5 = .ok (.iload_n 1, 1) := by decide +kernel
theorem dX10_isSet_6 : decode cX10_isSet 6 = .ok (.iconst 1, 1) := by decide +kernel
theorem dX10_isSet_7 : decode cX10_isSet 7 = .ok (.aload_n 0, 1) := by decide +kernel
theorem dX10_isSet_8 : decode cX10_isSet 8 = .ok (.getfield 31, 3) := by decide +kernel
theorem dX10_isSet_11 : decode cX10_isSet 11 = .ok (.getfield 98, 3) := by decide +kernel
theorem dX10_isSet_14 : decode cX10_isSet 14 = .ok (.getfield 283, 3) := by decide +kernel
theorem dX10_isSet_17 : decode cX10_isSet 17 = .ok (.ishl, 1) := by decide +kernel
theorem dX10_isSet_18 : decode cX10_isSet 18 = .ok (.if_icmp .ge 7, 3) := by decide +kernel
theorem dX10_isSet_21 : decode cX10_isSet 21 = .ok (.iconst 1, 1) := by decide +kernel
theorem dX10_isSet_22 : decode cX10_isSet 22 = .ok (.goto 4, 3) := by decide +kernel
theorem dX10_askRow_0 : decode cX10_askRow 0 = .ok (.aload_n 0, 1) := by decide +kernel
theorem dX10_askRow_1 : decode cX10_askRow 1 = .ok (.iload_n 1, 1) := by decide +kernel
theorem dX10_askRow_2 : decode cX10_askRow 2 = .ok (.invokevirtual 348, 3) := by decide +kernel
theorem dX10_askRow_5 : decode cX10_askRow 5 = .ok (.ifCond .eq 14, 3) := by decide +kernel
theorem dX10_askRow_19 : decode cX10_askRow 19 = .ok (.bipush (-2), 2) := by decide +kernel
theorem dX10_askRow_21 : decode cX10_askRow 21 = .ok (.ireturn, 1) := by decide +kernel
theorem dX10_askRow_8 : decode cX10_askRow 8 = .ok (.aload_n 0, 1) := by decide +kernel
theorem dX10_askRow_9 : decode cX10_askRow 9 = .ok (.invokevirtual 152, 3) := by decide +kernel
theorem dX10_askRow_12 : decode cX10_askRow 12 = .ok (.ifCond .eq 7, 3) := by decide +kernel
theorem dX10_askRow_15 : decode cX10_askRow 15 = .ok (.iload_n 2, 1) := by decide +kernel
theorem dX10_askRow_16 : decode cX10_askRow 16 = .ok (.ifCond .ne 6, 3) := by decide +kernel
theorem dX10_askRow_22 : decode cX10_askRow 22 = .ok (.aload_n 0, 1) := by decide +kernel
theorem dX10_askRow_23 : decode cX10_askRow 23 = .ok (.getfield 41, 3) := by decide +kernel
theorem dX10_askRow_26 : decode cX10_askRow 26 = .ok (.iload_n 1, 1) := by decide +kernel
theorem dX10_askRow_27 : decode cX10_askRow 27 = .ok (.aaload, 1) := by decide +kernel
theorem dX10_askRow_28 : decode cX10_askRow 28 = .ok (.getfield 354, 3) := by decide +kernel
theorem dX10_askRow_31 : decode cX10_askRow 31 = .ok (.ifCond .ne 6, 3) := by decide +kernel
theorem dX10_askRow_37 : decode cX10_askRow 37 = .ok (.aload_n 0, 1) := by decide +kernel
theorem dX10_askRow_38 : decode cX10_askRow 38 = .ok (.getfield 41, 3) := by decide +kernel
theorem dX10_askRow_41 : decode cX10_askRow 41 = .ok (.iload_n 1, 1) := by decide +kernel
theorem dX10_askRow_42 : decode cX10_askRow 42 = .ok (.aaload, 1) := by decide +kernel
theorem dX10_askRow_43 : decode cX10_askRow 43 = .ok (.iload_n 3, 1) := by decide +kernel
theorem dX10_askRow_44 : decode cX10_askRow 44 = .ok (.aload_n 0, 1) := by decide +kernel
theorem dX10_askRow_45 : decode cX10_askRow 45 = .ok (.getfield 31, 3) := by decide +kernel
theorem dX10_askRow_48 : decode cX10_askRow 48 = .ok (.getfield 98, 3) := by decide +kernel
theorem dX10_askRow_51 : decode cX10_askRow 51 = .ok (.getfield 159, 3) := by decide +kernel
theorem dX10_askRow_54 : decode cX10_askRow 54 = .ok (.iconst 1, 1) := by decide +kernel
theorem dX10_askRow_55 : decode cX10_askRow 55 = .ok (.isub, 1) := by decide +kernel
theorem dX10_askRow_56 : decode cX10_askRow 56 = .ok (.invokevirtual 385, 3) := by decide +kernel
theorem dX10_askRow_59 : decode cX10_askRow 59 = .ok (.ifCond .eq 7, 3) := by decide +kernel
theorem dX10_askRow_66 : decode cX10_askRow 66 = .ok (.bipush (-2), 2) := by decide +kernel
theorem dX10_askRow_68 : decode cX10_askRow 68 = .ok (.ireturn, 1) := by decide +kernel
theorem dX10_askRow_62 : decode cX10_askRow 62 = .ok (.iconst 0, 1) := by decide +kernel
theorem dX10_askRow_63 : decode cX10_askRow 63 = .ok (.goto 5, 3) := by decide +kernel
theorem dX10_askRow_34 : decode cX10_askRow 34 = .ok (.bipush (-6), 2) := by decide +kernel
theorem dX10_askRow_36 : decode cX10_askRow 36 = .ok (.ireturn, 1) := by decide +kernel
theorem dX10_askRound_0 : decode cX10_askRound 0 = .ok (.aload_n 0, 1) := by decide +kernel
theorem dX10_askRound_1 : decode cX10_askRound 1 = .ok (.iload_n 1, 1) := by decide +kernel
theorem dX10_askRound_2 : decode cX10_askRound 2 = .ok (.iload_n 2, 1) := by decide +kernel
theorem dX10_askRound_3 : decode cX10_askRound 3 = .ok (.iconst (-1), 1) := by decide +kernel
theorem dX10_askRound_4 : decode cX10_askRound 4 = .ok (.invokevirtual 381, 3) := by decide +kernel
theorem dX10_askRound_7 : decode cX10_askRound 7 = .ok (.ireturn, 1) := by decide +kernel
theorem dX10_askHabits_0 : decode cX10_askHabits 0 = .ok (.aload_n 0, 1) := by decide +kernel
theorem dX10_askHabits_1 : decode cX10_askHabits 1 = .ok (.iload_n 1, 1) := by decide +kernel
theorem dX10_askHabits_2 : decode cX10_askHabits 2 = .ok (.iload_n 2, 1) := by decide +kernel
theorem dX10_askHabits_3 : decode cX10_askHabits 3 = .ok (.iconst 0, 1) := by decide +kernel
theorem dX10_askHabits_4 : decode cX10_askHabits 4 = .ok (.invokevirtual 381, 3) := by decide +kernel
theorem dX10_askHabits_7 : decode cX10_askHabits 7 = .ok (.ireturn, 1) := by decide +kernel
theorem dX10_replay_0 : decode cX10_replay 0 = .ok (.aload_n 0, 1) := by decide +kernel
theorem dX10_replay_1 : decode cX10_replay 1 = .ok (.getfield 48, 3) := by decide +kernel
theorem dX10_replay_4 : decode cX10_replay 4 = .ok (.aload_n 0, 1) := by decide +kernel
theorem dX10_replay_5 : decode cX10_replay 5 = .ok (.getfield 31, 3) := by decide +kernel
theorem dX10_replay_8 : decode cX10_replay 8 = .ok (.getfield 98, 3) := by decide +kernel
theorem dX10_replay_11 : decode cX10_replay 11 = .ok (.invokevirtual 388, 3) := by decide +kernel
theorem dX10_replay_14 : decode cX10_replay 14 = .ok (.iconst 0, 1) := by decide +kernel
theorem dX10_replay_15 : decode cX10_replay 15 = .ok (.istore_n 1, 1) := by decide +kernel
theorem dX10_replay_16 : decode cX10_replay 16 = .ok (.iload_n 1, 1) := by decide +kernel
theorem dX10_replay_17 : decode cX10_replay 17 = .ok (.aload_n 0, 1) := by decide +kernel
theorem dX10_replay_18 : decode cX10_replay 18 = .ok (.getfield 31, 3) := by decide +kernel
theorem dX10_replay_21 : decode cX10_replay 21 = .ok (.getfield 105, 3) := by decide +kernel
theorem dX10_replay_24 : decode cX10_replay 24 = .ok (.if_icmp .ge 34, 3) := by decide +kernel
theorem dX10_replay_58 : decode cX10_replay 58 = .ok (.return_, 1) := by decide +kernel
theorem dX10_replay_27 : decode cX10_replay 27 = .ok (.aload_n 0, 1) := by decide +kernel
theorem dX10_replay_28 : decode cX10_replay 28 = .ok (.getfield 48, 3) := by decide +kernel
theorem dX10_replay_31 : decode cX10_replay 31 = .ok (.aload_n 0, 1) := by decide +kernel
theorem dX10_replay_32 : decode cX10_replay 32 = .ok (.getfield 31, 3) := by decide +kernel
theorem dX10_replay_35 : decode cX10_replay 35 = .ok (.getfield 98, 3) := by decide +kernel
theorem dX10_replay_38 : decode cX10_replay 38 = .ok (.aload_n 0, 1) := by decide +kernel
theorem dX10_replay_39 : decode cX10_replay 39 = .ok (.getfield 31, 3) := by decide +kernel
theorem dX10_replay_42 : decode cX10_replay 42 = .ok (.getfield 172, 3) := by decide +kernel
theorem dX10_replay_45 : decode cX10_replay 45 = .ok (.iload_n 1, 1) := by decide +kernel
theorem dX10_replay_46 : decode cX10_replay 46 = .ok (.iaload, 1) := by decide +kernel
theorem dX10_replay_47 : decode cX10_replay 47 = .ok (.iconst 0, 1) := by decide +kernel
theorem dX10_replay_48 : decode cX10_replay 48 = .ok (.invokevirtual 175, 3) := by decide +kernel
theorem dX10_replay_51 : decode cX10_replay 51 = .ok (.pop, 1) := by decide +kernel
theorem dX10_replay_52 : decode cX10_replay 52 = .ok (.iinc 1 1, 3) := by decide +kernel
theorem dX10_replay_55 : decode cX10_replay 55 = .ok (.goto (-39), 3) := by decide +kernel
theorem dX10_worthOf_0 : decode cX10_worthOf 0 = .ok (.aload_n 0, 1) := by decide +kernel
theorem dX10_worthOf_1 : decode cX10_worthOf 1 = .ok (.getfield 31, 3) := by decide +kernel
theorem dX10_worthOf_4 : decode cX10_worthOf 4 = .ok (.getfield 98, 3) := by decide +kernel
theorem dX10_worthOf_7 : decode cX10_worthOf 7 = .ok (.getfield 391, 3) := by decide +kernel
theorem dX10_worthOf_10 : decode cX10_worthOf 10 = .ok (.i2l, 1) := by decide +kernel
theorem dX10_worthOf_11 : decode cX10_worthOf 11 = .ok (.iload_n 1, 1) := by decide +kernel
theorem dX10_worthOf_12 : decode cX10_worthOf 12 = .ok (.i2l, 1) := by decide +kernel
theorem dX10_worthOf_13 : decode cX10_worthOf 13 = .ok (.lmul, 1) := by decide +kernel
theorem dX10_worthOf_14 : decode cX10_worthOf 14 = .ok (.ldc2_w 394, 3) := by decide +kernel
theorem dX10_worthOf_17 : decode cX10_worthOf 17 = .ok (.ldiv, 1) := by decide +kernel
theorem dX10_worthOf_18 : decode cX10_worthOf 18 = .ok (.l2i, 1) := by decide +kernel
theorem dX10_worthOf_19 : decode cX10_worthOf 19 = .ok (.ireturn, 1) := by decide +kernel
theorem dX10_gainOf_0 : decode cX10_gainOf 0 = .ok (.aload_n 0, 1) := by decide +kernel
theorem dX10_gainOf_1 : decode cX10_gainOf 1 = .ok (.iload_n 1, 1) := by decide +kernel
theorem dX10_gainOf_2 : decode cX10_gainOf 2 = .ok (.invokevirtual 232, 3) := by decide +kernel
theorem dX10_gainOf_5 : decode cX10_gainOf 5 = .ok (.aload_n 0, 1) := by decide +kernel
theorem dX10_gainOf_6 : decode cX10_gainOf 6 = .ok (.getfield 31, 3) := by decide +kernel
theorem dX10_gainOf_9 : decode cX10_gainOf 9 = .ok (.getfield 98, 3) := by decide +kernel
theorem dX10_gainOf_12 : decode cX10_gainOf 12 = .ok (.getfield 235, 3) := by decide +kernel
theorem dX10_gainOf_15 : decode cX10_gainOf 15 = .ok (.iload_n 2, 1) := by decide +kernel
theorem dX10_gainOf_16 : decode cX10_gainOf 16 = .ok (.imul, 1) := by decide +kernel
theorem dX10_gainOf_17 : decode cX10_gainOf 17 = .ok (.isub, 1) := by decide +kernel
theorem dX10_gainOf_18 : decode cX10_gainOf 18 = .ok (.ireturn, 1) := by decide +kernel
theorem dX10_foundIn_0 : decode cX10_foundIn 0 = .ok (.aload_n 0, 1) := by decide +kernel
theorem dX10_foundIn_1 : decode cX10_foundIn 1 = .ok (.getfield 52, 3) := by decide +kernel
theorem dX10_foundIn_4 : decode cX10_foundIn 4 = .ok (.aload_n 0, 1) := by decide +kernel
theorem dX10_foundIn_5 : decode cX10_foundIn 5 = .ok (.getfield 48, 3) := by decide +kernel
theorem dX10_foundIn_8 : decode cX10_foundIn 8 = .ok (.invokevirtual 179, 3) := by decide +kernel
theorem dX10_foundIn_11 : decode cX10_foundIn 11 = .ok (.iconst 0, 1) := by decide +kernel
theorem dX10_foundIn_12 : decode cX10_foundIn 12 = .ok (.istore_n 3, 1) := by decide +kernel
theorem dX10_foundIn_13 : decode cX10_foundIn 13 = .ok (.iload_n 3, 1) := by decide +kernel
theorem dX10_foundIn_14 : decode cX10_foundIn 14 = .ok (.aload_n 1, 1) := by decide +kernel
theorem dX10_foundIn_15 : decode cX10_foundIn 15 = .ok (.getfield 194, 3) := by decide +kernel
theorem dX10_foundIn_18 : decode cX10_foundIn 18 = .ok (.if_icmp .ge 30, 3) := by decide +kernel
theorem dX10_foundIn_48 : decode cX10_foundIn 48 = .ok (.aload_n 0, 1) := by decide +kernel
theorem dX10_foundIn_49 : decode cX10_foundIn 49 = .ok (.getfield 52, 3) := by decide +kernel
theorem dX10_foundIn_52 : decode cX10_foundIn 52 = .ok (.getfield 156, 3) := by decide +kernel
theorem dX10_foundIn_55 : decode cX10_foundIn 55 = .ok (.aload_n 0, 1) := by decide +kernel
theorem dX10_foundIn_56 : decode cX10_foundIn 56 = .ok (.getfield 48, 3) := by decide +kernel
theorem dX10_foundIn_59 : decode cX10_foundIn 59 = .ok (.getfield 156, 3) := by decide +kernel
theorem dX10_foundIn_62 : decode cX10_foundIn 62 = .ok (.isub, 1) := by decide +kernel
theorem dX10_foundIn_63 : decode cX10_foundIn 63 = .ok (.ireturn, 1) := by decide +kernel
theorem dX10_foundIn_21 : decode cX10_foundIn 21 = .ok (.aload_n 0, 1) := by decide +kernel
theorem dX10_foundIn_22 : decode cX10_foundIn 22 = .ok (.getfield 52, 3) := by decide +kernel
theorem dX10_foundIn_25 : decode cX10_foundIn 25 = .ok (.aload_n 0, 1) := by decide +kernel
theorem dX10_foundIn_26 : decode cX10_foundIn 26 = .ok (.getfield 31, 3) := by decide +kernel
theorem dX10_foundIn_29 : decode cX10_foundIn 29 = .ok (.getfield 98, 3) := by decide +kernel
theorem dX10_foundIn_32 : decode cX10_foundIn 32 = .ok (.aload_n 1, 1) := by decide +kernel
theorem dX10_foundIn_33 : decode cX10_foundIn 33 = .ok (.iload_n 3, 1) := by decide +kernel
theorem dX10_foundIn_34 : decode cX10_foundIn 34 = .ok (.invokevirtual 195, 3) := by decide +kernel
theorem dX10_foundIn_37 : decode cX10_foundIn 37 = .ok (.iload_n 2, 1) := by decide +kernel
theorem dX10_foundIn_38 : decode cX10_foundIn 38 = .ok (.invokevirtual 175, 3) := by decide +kernel
theorem dX10_foundIn_41 : decode cX10_foundIn 41 = .ok (.pop, 1) := by decide +kernel
theorem dX10_foundIn_42 : decode cX10_foundIn 42 = .ok (.iinc 3 1, 3) := by decide +kernel
theorem dX10_foundIn_45 : decode cX10_foundIn 45 = .ok (.goto (-32), 3) := by decide +kernel
theorem dX10_canWalk_0 : decode cX10_canWalk 0 = .ok (.iload_n 2, 1) := by decide +kernel
theorem dX10_canWalk_1 : decode cX10_canWalk 1 = .ok (.istore_n 3, 1) := by decide +kernel
theorem dX10_canWalk_2 : decode cX10_canWalk 2 = .ok (.iconst 0, 1) := by decide +kernel
theorem dX10_canWalk_3 : decode cX10_canWalk 3 = .ok (.istore 4, 2) := by decide +kernel
theorem dX10_canWalk_5 : decode cX10_canWalk 5 = .ok (.iload 4, 2) := by decide +kernel
theorem dX10_canWalk_7 : decode cX10_canWalk 7 = .ok (.aload_n 1, 1) := by decide +kernel
theorem dX10_canWalk_8 : decode cX10_canWalk 8 = .ok (.getfield 194, 3) := by decide +kernel
theorem dX10_canWalk_11 : decode cX10_canWalk 11 = .ok (.if_icmp .ge 44, 3) := by decide +kernel
theorem dX10_canWalk_55 : decode cX10_canWalk 55 = .ok (.iconst 1, 1) := by decide +kernel
theorem dX10_canWalk_56 : decode cX10_canWalk 56 = .ok (.ireturn, 1) := by decide +kernel
theorem dX10_canWalk_14 : decode cX10_canWalk 14 = .ok (.aload_n 1, 1) := by decide +kernel
theorem dX10_canWalk_15 : decode cX10_canWalk 15 = .ok (.iload 4, 2) := by decide +kernel
theorem dX10_canWalk_17 : decode cX10_canWalk 17 = .ok (.invokevirtual 195, 3) := by decide +kernel
theorem dX10_canWalk_20 : decode cX10_canWalk 20 = .ok (.istore 5, 2) := by decide +kernel
theorem dX10_canWalk_22 : decode cX10_canWalk 22 = .ok (.iload 5, 2) := by decide +kernel
theorem dX10_canWalk_24 : decode cX10_canWalk 24 = .ok (.iconst (-1), 1) := by decide +kernel
theorem dX10_canWalk_49 : decode cX10_canWalk 49 = .ok (.iinc 4 1, 3) := by decide +kernel
theorem dX10_canWalk_52 : decode cX10_canWalk 52 = .ok (.goto (-47), 3) := by decide +kernel
theorem dX10_canWalk_25 : decode cX10_canWalk 25 = .ok (.if_icmp .eq 24, 3) := by decide +kernel
theorem dX10_canWalk_28 : decode cX10_canWalk 28 = .ok (.aload_n 0, 1) := by decide +kernel
theorem dX10_canWalk_29 : decode cX10_canWalk 29 = .ok (.getfield 31, 3) := by decide +kernel
theorem dX10_canWalk_32 : decode cX10_canWalk 32 = .ok (.getfield 98, 3) := by decide +kernel
theorem dX10_canWalk_35 : decode cX10_canWalk 35 = .ok (.iload_n 3, 1) := by decide +kernel
theorem dX10_canWalk_36 : decode cX10_canWalk 36 = .ok (.iload 5, 2) := by decide +kernel
theorem dX10_canWalk_38 : decode cX10_canWalk 38 = .ok (.invokevirtual 396, 3) := by decide +kernel
theorem dX10_canWalk_41 : decode cX10_canWalk 41 = .ok (.ifCond .ne 5, 3) := by decide +kernel
theorem dX10_canWalk_46 : decode cX10_canWalk 46 = .ok (.iload 5, 2) := by decide +kernel
theorem dX10_canWalk_48 : decode cX10_canWalk 48 = .ok (.istore_n 3, 1) := by decide +kernel
theorem dX10_canWalk_44 : decode cX10_canWalk 44 = .ok (.iconst 0, 1) := by decide +kernel
theorem dX10_canWalk_45 : decode cX10_canWalk 45 = .ok (.ireturn, 1) := by decide +kernel
theorem dX10_mostFrequent_0 : decode cX10_mostFrequent 0 = .ok (.iconst (-1), 1) := by decide +kernel
theorem dX10_mostFrequent_1 : decode cX10_mostFrequent 1 = .ok (.istore_n 3, 1) := by decide +kernel
theorem dX10_mostFrequent_2 : decode cX10_mostFrequent 2 = .ok (.iconst 0, 1) := by decide +kernel
theorem dX10_mostFrequent_3 : decode cX10_mostFrequent 3 = .ok (.istore 4, 2) := by decide +kernel
theorem dX10_mostFrequent_5 : decode cX10_mostFrequent 5 = .ok (.iconst 0, 1) := by decide +kernel
theorem dX10_mostFrequent_6 : decode cX10_mostFrequent 6 = .ok (.istore 5, 2) := by decide +kernel
theorem dX10_mostFrequent_8 : decode cX10_mostFrequent 8 = .ok (.iload 5, 2) := by decide +kernel
theorem dX10_mostFrequent_10 : decode cX10_mostFrequent 10 = .ok (.aload_n 0, 1) := by decide +kernel
theorem dX10_mostFrequent_11 : decode cX10_mostFrequent 11 = .ok (.getfield 31, 3) := by decide +kernel
theorem dX10_mostFrequent_14 : decode cX10_mostFrequent 14 = .ok (.getfield 98, 3) := by decide +kernel
theorem dX10_mostFrequent_17 : decode cX10_mostFrequent 17 = .ok (.getfield 159, 3) := by decide +kernel
theorem dX10_mostFrequent_20 : decode cX10_mostFrequent 20 = .ok (.if_icmp .ge 32, 3) := by decide +kernel
theorem dX10_mostFrequent_52 : decode cX10_mostFrequent 52 = .ok (.iload_n 3, 1) := by decide +kernel
theorem dX10_mostFrequent_53 : decode cX10_mostFrequent 53 = .ok (.ireturn, 1) := by decide +kernel
theorem dX10_mostFrequent_23 : decode cX10_mostFrequent 23 = .ok (.aload_n 1, 1) := by decide +kernel
theorem dX10_mostFrequent_24 : decode cX10_mostFrequent 24 = .ok (.iload 5, 2) := by decide +kernel
theorem dX10_mostFrequent_26 : decode cX10_mostFrequent 26 = .ok (.iload_n 2, 1) := by decide +kernel
theorem dX10_mostFrequent_27 : decode cX10_mostFrequent 27 = .ok (.invokevirtual 402, 3) := by decide +kernel
theorem dX10_mostFrequent_30 : decode cX10_mostFrequent 30 = .ok (.istore 6, 2) := by decide +kernel
theorem dX10_mostFrequent_32 : decode cX10_mostFrequent 32 = .ok (.iload 6, 2) := by decide +kernel
theorem dX10_mostFrequent_34 : decode cX10_mostFrequent 34 = .ok (.iload 4, 2) := by decide +kernel
theorem dX10_mostFrequent_46 : decode cX10_mostFrequent 46 = .ok (.iinc 5 1, 3) := by decide +kernel
theorem dX10_mostFrequent_49 : decode cX10_mostFrequent 49 = .ok (.goto (-41), 3) := by decide +kernel
theorem dX10_mostFrequent_36 : decode cX10_mostFrequent 36 = .ok (.if_icmp .le 10, 3) := by decide +kernel
theorem dX10_mostFrequent_39 : decode cX10_mostFrequent 39 = .ok (.iload 6, 2) := by decide +kernel
theorem dX10_mostFrequent_41 : decode cX10_mostFrequent 41 = .ok (.istore 4, 2) := by decide +kernel
theorem dX10_mostFrequent_43 : decode cX10_mostFrequent 43 = .ok (.iload 5, 2) := by decide +kernel
theorem dX10_mostFrequent_45 : decode cX10_mostFrequent 45 = .ok (.istore_n 3, 1) := by decide +kernel
theorem dX10_foundAtOnce_0 : decode cX10_foundAtOnce 0 = .ok (.iconst 0, 1) := by decide +kernel
theorem dX10_foundAtOnce_1 : decode cX10_foundAtOnce 1 = .ok (.istore_n 2, 1) := by decide +kernel
theorem dX10_foundAtOnce_2 : decode cX10_foundAtOnce 2 = .ok (.iconst 0, 1) := by decide +kernel
theorem dX10_foundAtOnce_3 : decode cX10_foundAtOnce 3 = .ok (.istore_n 3, 1) := by decide +kernel
theorem dX10_foundAtOnce_4 : decode cX10_foundAtOnce 4 = .ok (.iload_n 3, 1) := by decide +kernel
theorem dX10_foundAtOnce_5 : decode cX10_foundAtOnce 5 = .ok (.aload_n 0, 1) := by decide +kernel
theorem dX10_foundAtOnce_6 : decode cX10_foundAtOnce 6 = .ok (.getfield 31, 3) := by decide +kernel
theorem dX10_foundAtOnce_9 : decode cX10_foundAtOnce 9 = .ok (.getfield 98, 3) := by decide +kernel
theorem dX10_foundAtOnce_12 : decode cX10_foundAtOnce 12 = .ok (.getfield 159, 3) := by decide +kernel
theorem dX10_foundAtOnce_15 : decode cX10_foundAtOnce 15 = .ok (.if_icmp .ge 36, 3) := by decide +kernel
theorem dX10_foundAtOnce_51 : decode cX10_foundAtOnce 51 = .ok (.iload_n 2, 1) := by decide +kernel
theorem dX10_foundAtOnce_52 : decode cX10_foundAtOnce 52 = .ok (.ireturn, 1) := by decide +kernel
theorem dX10_foundAtOnce_18 : decode cX10_foundAtOnce 18 = .ok (.iload_n 1, 1) := by decide +kernel
theorem dX10_foundAtOnce_19 : decode cX10_foundAtOnce 19 = .ok (.iload_n 3, 1) := by decide +kernel
theorem dX10_foundAtOnce_20 : decode cX10_foundAtOnce 20 = .ok (.ishr, 1) := by decide +kernel
theorem dX10_foundAtOnce_21 : decode cX10_foundAtOnce 21 = .ok (.iconst 1, 1) := by decide +kernel
theorem dX10_foundAtOnce_22 : decode cX10_foundAtOnce 22 = .ok (.iand, 1) := by decide +kernel
theorem dX10_foundAtOnce_45 : decode cX10_foundAtOnce 45 = .ok (.iinc 3 1, 3) := by decide +kernel
theorem dX10_foundAtOnce_48 : decode cX10_foundAtOnce 48 = .ok (.goto (-44), 3) := by decide +kernel
theorem dX10_foundAtOnce_23 : decode cX10_foundAtOnce 23 = .ok (.ifCond .eq 22, 3) := by decide +kernel
theorem dX10_foundAtOnce_26 : decode cX10_foundAtOnce 26 = .ok (.iload_n 2, 1) := by decide +kernel
theorem dX10_foundAtOnce_27 : decode cX10_foundAtOnce 27 = .ok (.aload_n 0, 1) := by decide +kernel
theorem dX10_foundAtOnce_28 : decode cX10_foundAtOnce 28 = .ok (.getfield 48, 3) := by decide +kernel
theorem dX10_foundAtOnce_31 : decode cX10_foundAtOnce 31 = .ok (.aload_n 0, 1) := by decide +kernel
theorem dX10_foundAtOnce_32 : decode cX10_foundAtOnce 32 = .ok (.getfield 31, 3) := by decide +kernel
theorem dX10_foundAtOnce_35 : decode cX10_foundAtOnce 35 = .ok (.getfield 98, 3) := by decide +kernel
theorem dX10_foundAtOnce_38 : decode cX10_foundAtOnce 38 = .ok (.iload_n 3, 1) := by decide +kernel
theorem dX10_foundAtOnce_39 : decode cX10_foundAtOnce 39 = .ok (.iconst 0, 1) := by decide +kernel
theorem dX10_foundAtOnce_40 : decode cX10_foundAtOnce 40 = .ok (.invokevirtual 399, 3) := by decide +kernel
theorem dX10_foundAtOnce_43 : decode cX10_foundAtOnce 43 = .ok (.iadd, 1) := by decide +kernel
theorem dX10_foundAtOnce_44 : decode cX10_foundAtOnce 44 = .ok (.istore_n 2, 1) := by decide +kernel
theorem dX10_peopleOf_0 : decode cX10_peopleOf 0 = .ok (.iconst 0, 1) := by decide +kernel
theorem dX10_peopleOf_1 : decode cX10_peopleOf 1 = .ok (.istore_n 2, 1) := by decide +kernel
theorem dX10_peopleOf_2 : decode cX10_peopleOf 2 = .ok (.iconst 0, 1) := by decide +kernel
theorem dX10_peopleOf_3 : decode cX10_peopleOf 3 = .ok (.istore_n 3, 1) := by decide +kernel
theorem dX10_peopleOf_4 : decode cX10_peopleOf 4 = .ok (.iload_n 3, 1) := by decide +kernel
theorem dX10_peopleOf_5 : decode cX10_peopleOf 5 = .ok (.aload_n 0, 1) := by decide +kernel
theorem dX10_peopleOf_6 : decode cX10_peopleOf 6 = .ok (.getfield 31, 3) := by decide +kernel
theorem dX10_peopleOf_9 : decode cX10_peopleOf 9 = .ok (.getfield 98, 3) := by decide +kernel
theorem dX10_peopleOf_12 : decode cX10_peopleOf 12 = .ok (.getfield 159, 3) := by decide +kernel
theorem dX10_peopleOf_15 : decode cX10_peopleOf 15 = .ok (.if_icmp .ge 32, 3) := by decide +kernel
theorem dX10_peopleOf_47 : decode cX10_peopleOf 47 = .ok (.iload_n 2, 1) := by decide +kernel
theorem dX10_peopleOf_48 : decode cX10_peopleOf 48 = .ok (.ireturn, 1) := by decide +kernel
theorem dX10_peopleOf_18 : decode cX10_peopleOf 18 = .ok (.iload_n 1, 1) := by decide +kernel
theorem dX10_peopleOf_19 : decode cX10_peopleOf 19 = .ok (.iload_n 3, 1) := by decide +kernel
theorem dX10_peopleOf_20 : decode cX10_peopleOf 20 = .ok (.ishr, 1) := by decide +kernel
theorem dX10_peopleOf_21 : decode cX10_peopleOf 21 = .ok (.iconst 1, 1) := by decide +kernel
theorem dX10_peopleOf_22 : decode cX10_peopleOf 22 = .ok (.iand, 1) := by decide +kernel
theorem dX10_peopleOf_41 : decode cX10_peopleOf 41 = .ok (.iinc 3 1, 3) := by decide +kernel
theorem dX10_peopleOf_44 : decode cX10_peopleOf 44 = .ok (.goto (-40), 3) := by decide +kernel
theorem dX10_peopleOf_23 : decode cX10_peopleOf 23 = .ok (.ifCond .eq 18, 3) := by decide +kernel
theorem dX10_peopleOf_26 : decode cX10_peopleOf 26 = .ok (.iload_n 2, 1) := by decide +kernel
theorem dX10_peopleOf_27 : decode cX10_peopleOf 27 = .ok (.aload_n 0, 1) := by decide +kernel
theorem dX10_peopleOf_28 : decode cX10_peopleOf 28 = .ok (.getfield 31, 3) := by decide +kernel
theorem dX10_peopleOf_31 : decode cX10_peopleOf 31 = .ok (.getfield 98, 3) := by decide +kernel
theorem dX10_peopleOf_34 : decode cX10_peopleOf 34 = .ok (.getfield 198, 3) := by decide +kernel
theorem dX10_peopleOf_37 : decode cX10_peopleOf 37 = .ok (.iload_n 3, 1) := by decide +kernel
theorem dX10_peopleOf_38 : decode cX10_peopleOf 38 = .ok (.iaload, 1) := by decide +kernel
theorem dX10_peopleOf_39 : decode cX10_peopleOf 39 = .ok (.iadd, 1) := by decide +kernel
theorem dX10_peopleOf_40 : decode cX10_peopleOf 40 = .ok (.istore_n 2, 1) := by decide +kernel
theorem dX10_quietestSet_0 : decode cX10_quietestSet 0 = .ok (.iconst (-1), 1) := by decide +kernel
theorem dX10_quietestSet_1 : decode cX10_quietestSet 1 = .ok (.istore_n 2, 1) := by decide +kernel
theorem dX10_quietestSet_2 : decode cX10_quietestSet 2 = .ok (.iconst 0, 1) := by decide +kernel
theorem dX10_quietestSet_3 : decode cX10_quietestSet 3 = .ok (.istore_n 3, 1) := by decide +kernel
theorem dX10_quietestSet_4 : decode cX10_quietestSet 4 = .ok (.iconst 0, 1) := by decide +kernel
theorem dX10_quietestSet_5 : decode cX10_quietestSet 5 = .ok (.istore 4, 2) := by decide +kernel
theorem dX10_quietestSet_7 : decode cX10_quietestSet 7 = .ok (.iload 4, 2) := by decide +kernel
theorem dX10_quietestSet_9 : decode cX10_quietestSet 9 = .ok (.aload_n 0, 1) := by decide +kernel
theorem dX10_quietestSet_10 : decode cX10_quietestSet 10 = .ok (.getfield 31, 3) := by decide +kernel
theorem dX10_quietestSet_13 : decode cX10_quietestSet 13 = .ok (.getfield 98, 3) := by decide +kernel
theorem dX10_quietestSet_16 : decode cX10_quietestSet 16 = .ok (.invokevirtual 238, 3) := by decide +kernel
theorem dX10_quietestSet_19 : decode cX10_quietestSet 19 = .ok (.if_icmp .gt 44, 3) := by decide +kernel
theorem dX10_quietestSet_63 : decode cX10_quietestSet 63 = .ok (.iload_n 2, 1) := by decide +kernel
theorem dX10_quietestSet_64 : decode cX10_quietestSet 64 = .ok (.ireturn, 1) := by decide +kernel
theorem dX10_quietestSet_22 : decode cX10_quietestSet 22 = .ok (.aload_n 0, 1) := by decide +kernel
theorem dX10_quietestSet_23 : decode cX10_quietestSet 23 = .ok (.iload 4, 2) := by decide +kernel
theorem dX10_quietestSet_25 : decode cX10_quietestSet 25 = .ok (.invokevirtual 241, 3) := by decide +kernel
theorem dX10_quietestSet_28 : decode cX10_quietestSet 28 = .ok (.iload_n 1, 1) := by decide +kernel
theorem dX10_quietestSet_57 : decode cX10_quietestSet 57 = .ok (.iinc 4 1, 3) := by decide +kernel
theorem dX10_quietestSet_60 : decode cX10_quietestSet 60 = .ok (.goto (-53), 3) := by decide +kernel
theorem dX10_quietestSet_29 : decode cX10_quietestSet 29 = .ok (.if_icmp .lt 28, 3) := by decide +kernel
theorem dX10_quietestSet_32 : decode cX10_quietestSet 32 = .ok (.aload_n 0, 1) := by decide +kernel
theorem dX10_quietestSet_33 : decode cX10_quietestSet 33 = .ok (.iload 4, 2) := by decide +kernel
theorem dX10_quietestSet_35 : decode cX10_quietestSet 35 = .ok (.invokevirtual 247, 3) := by decide +kernel
theorem dX10_quietestSet_38 : decode cX10_quietestSet 38 = .ok (.istore 5, 2) := by decide +kernel
theorem dX10_quietestSet_40 : decode cX10_quietestSet 40 = .ok (.iload_n 2, 1) := by decide +kernel
theorem dX10_quietestSet_41 : decode cX10_quietestSet 41 = .ok (.iconst (-1), 1) := by decide +kernel
theorem dX10_quietestSet_51 : decode cX10_quietestSet 51 = .ok (.iload 5, 2) := by decide +kernel
theorem dX10_quietestSet_53 : decode cX10_quietestSet 53 = .ok (.istore_n 3, 1) := by decide +kernel
theorem dX10_quietestSet_54 : decode cX10_quietestSet 54 = .ok (.iload 4, 2) := by decide +kernel
theorem dX10_quietestSet_56 : decode cX10_quietestSet 56 = .ok (.istore_n 2, 1) := by decide +kernel
theorem dX10_quietestSet_42 : decode cX10_quietestSet 42 = .ok (.if_icmp .eq 9, 3) := by decide +kernel
theorem dX10_quietestSet_45 : decode cX10_quietestSet 45 = .ok (.iload 5, 2) := by decide +kernel
theorem dX10_quietestSet_47 : decode cX10_quietestSet 47 = .ok (.iload_n 3, 1) := by decide +kernel
theorem dX10_quietestSet_48 : decode cX10_quietestSet 48 = .ok (.if_icmp .ge 9, 3) := by decide +kernel
theorem dX10_comesInto_0 : decode cX10_comesInto 0 = .ok (.aload_n 0, 1) := by decide +kernel
theorem dX10_comesInto_1 : decode cX10_comesInto 1 = .ok (.getfield 52, 3) := by decide +kernel
theorem dX10_comesInto_4 : decode cX10_comesInto 4 = .ok (.aload_n 0, 1) := by decide +kernel
theorem dX10_comesInto_5 : decode cX10_comesInto 5 = .ok (.getfield 48, 3) := by decide +kernel
theorem dX10_comesInto_8 : decode cX10_comesInto 8 = .ok (.invokevirtual 179, 3) := by decide +kernel
theorem dX10_comesInto_11 : decode cX10_comesInto 11 = .ok (.iconst 0, 1) := by decide +kernel
theorem dX10_comesInto_12 : decode cX10_comesInto 12 = .ok (.istore_n 3, 1) := by decide +kernel
theorem dX10_comesInto_13 : decode cX10_comesInto 13 = .ok (.iload_n 3, 1) := by decide +kernel
theorem dX10_comesInto_14 : decode cX10_comesInto 14 = .ok (.iload_n 2, 1) := by decide +kernel
theorem dX10_comesInto_15 : decode cX10_comesInto 15 = .ok (.if_icmp .ge 25, 3) := by decide +kernel
theorem dX10_comesInto_40 : decode cX10_comesInto 40 = .ok (.aload_n 0, 1) := by decide +kernel
theorem dX10_comesInto_41 : decode cX10_comesInto 41 = .ok (.getfield 52, 3) := by decide +kernel
theorem dX10_comesInto_44 : decode cX10_comesInto 44 = .ok (.iload_n 1, 1) := by decide +kernel
theorem dX10_comesInto_45 : decode cX10_comesInto 45 = .ok (.invokevirtual 148, 3) := by decide +kernel
theorem dX10_comesInto_48 : decode cX10_comesInto 48 = .ok (.ireturn, 1) := by decide +kernel
theorem dX10_comesInto_18 : decode cX10_comesInto 18 = .ok (.aload_n 0, 1) := by decide +kernel
theorem dX10_comesInto_19 : decode cX10_comesInto 19 = .ok (.getfield 52, 3) := by decide +kernel
theorem dX10_comesInto_22 : decode cX10_comesInto 22 = .ok (.aload_n 0, 1) := by decide +kernel
theorem dX10_comesInto_23 : decode cX10_comesInto 23 = .ok (.getfield 31, 3) := by decide +kernel
theorem dX10_comesInto_26 : decode cX10_comesInto 26 = .ok (.getfield 98, 3) := by decide +kernel
theorem dX10_comesInto_29 : decode cX10_comesInto 29 = .ok (.iload_n 1, 1) := by decide +kernel
theorem dX10_comesInto_30 : decode cX10_comesInto 30 = .ok (.invokevirtual 182, 3) := by decide +kernel
theorem dX10_comesInto_33 : decode cX10_comesInto 33 = .ok (.pop, 1) := by decide +kernel
theorem dX10_comesInto_34 : decode cX10_comesInto 34 = .ok (.iinc 3 1, 3) := by decide +kernel
theorem dX10_comesInto_37 : decode cX10_comesInto 37 = .ok (.goto (-24), 3) := by decide +kernel
theorem dX10_countRows_0 : decode cX10_countRows 0 = .ok (.iconst 0, 1) := by decide +kernel
theorem dX10_countRows_1 : decode cX10_countRows 1 = .ok (.istore_n 1, 1) := by decide +kernel
theorem dX10_countRows_2 : decode cX10_countRows 2 = .ok (.iconst 0, 1) := by decide +kernel
theorem dX10_countRows_3 : decode cX10_countRows 3 = .ok (.istore_n 2, 1) := by decide +kernel
theorem dX10_countRows_4 : decode cX10_countRows 4 = .ok (.iload_n 2, 1) := by decide +kernel
theorem dX10_countRows_5 : decode cX10_countRows 5 = .ok (.iconst 4, 1) := by decide +kernel
theorem dX10_countRows_6 : decode cX10_countRows 6 = .ok (.if_icmp .ge 24, 3) := by decide +kernel
theorem dX10_countRows_9 : decode cX10_countRows 9 = .ok (.aload_n 0, 1) := by decide +kernel
theorem dX10_countRows_10 : decode cX10_countRows 10 = .ok (.getfield 41, 3) := by decide +kernel
theorem dX10_countRows_13 : decode cX10_countRows 13 = .ok (.iload_n 2, 1) := by decide +kernel
theorem dX10_countRows_14 : decode cX10_countRows 14 = .ok (.aaload, 1) := by decide +kernel
theorem dX10_countRows_15 : decode cX10_countRows 15 = .ok (.getfield 354, 3) := by decide +kernel
theorem dX10_countRows_18 : decode cX10_countRows 18 = .ok (.ifCond .eq 6, 3) := by decide +kernel
theorem dX10_countRows_24 : decode cX10_countRows 24 = .ok (.iinc 2 1, 3) := by decide +kernel
theorem dX10_countRows_27 : decode cX10_countRows 27 = .ok (.goto (-23), 3) := by decide +kernel
theorem dX10_countRows_30 : decode cX10_countRows 30 = .ok (.iload_n 1, 1) := by decide +kernel
theorem dX10_countRows_31 : decode cX10_countRows 31 = .ok (.ireturn, 1) := by decide +kernel
theorem dX10_countRows_21 : decode cX10_countRows 21 = .ok (.iinc 1 1, 3) := by decide +kernel
theorem dX10_feed_0 : decode cX10_feed 0 = .ok (.aload_n 0, 1) := by decide +kernel
theorem dX10_feed_1 : decode cX10_feed 1 = .ok (.getfield 20, 3) := by decide +kernel
theorem dX10_feed_4 : decode cX10_feed 4 = .ok (.getfield 84, 3) := by decide +kernel
theorem dX10_feed_7 : decode cX10_feed 7 = .ok (.bipush 20, 2) := by decide +kernel
theorem dX10_feed_9 : decode cX10_feed 9 = .ok (.iadd, 1) := by decide +kernel
theorem dX10_feed_10 : decode cX10_feed 10 = .ok (.sipush 900, 3) := by decide +kernel
theorem dX10_feed_13 : decode cX10_feed 13 = .ok (.if_icmp .le 5, 3) := by decide +kernel
theorem dX10_feed_18 : decode cX10_feed 18 = .ok (.aload_n 0, 1) := by decide +kernel
theorem dX10_feed_19 : decode cX10_feed 19 = .ok (.getfield 20, 3) := by decide +kernel
theorem dX10_feed_22 : decode cX10_feed 22 = .ok (.iload_n 1, 1) := by decide +kernel
theorem dX10_feed_23 : decode cX10_feed 23 = .ok (.invokevirtual 90, 3) := by decide +kernel
theorem dX10_feed_26 : decode cX10_feed 26 = .ok (.aload_n 0, 1) := by decide +kernel
theorem dX10_feed_27 : decode cX10_feed 27 = .ok (.getfield 20, 3) := by decide +kernel
theorem dX10_feed_30 : decode cX10_feed 30 = .ok (.iload_n 2, 1) := by decide +kernel
theorem dX10_feed_31 : decode cX10_feed 31 = .ok (.invokevirtual 90, 3) := by decide +kernel
theorem dX10_feed_34 : decode cX10_feed 34 = .ok (.aload_n 0, 1) := by decide +kernel
theorem dX10_feed_35 : decode cX10_feed 35 = .ok (.getfield 20, 3) := by decide +kernel
theorem dX10_feed_38 : decode cX10_feed 38 = .ok (.iload_n 3, 1) := by decide +kernel
theorem dX10_feed_39 : decode cX10_feed 39 = .ok (.invokevirtual 90, 3) := by decide +kernel
theorem dX10_feed_42 : decode cX10_feed 42 = .ok (.aload_n 0, 1) := by decide +kernel
theorem dX10_feed_43 : decode cX10_feed 43 = .ok (.getfield 20, 3) := by decide +kernel
theorem dX10_feed_46 : decode cX10_feed 46 = .ok (.iload 4, 2) := by decide +kernel
theorem dX10_feed_48 : decode cX10_feed 48 = .ok (.invokevirtual 90, 3) := by decide +kernel
theorem dX10_feed_51 : decode cX10_feed 51 = .ok (.aload_n 0, 1) := by decide +kernel
theorem dX10_feed_52 : decode cX10_feed 52 = .ok (.getfield 20, 3) := by decide +kernel
theorem dX10_feed_55 : decode cX10_feed 55 = .ok (.iload 5, 2) := by decide +kernel
theorem dX10_feed_57 : decode cX10_feed 57 = .ok (.invokevirtual 90, 3) := by decide +kernel
theorem dX10_feed_60 : decode cX10_feed 60 = .ok (.aload_n 0, 1) := by decide +kernel
theorem dX10_feed_61 : decode cX10_feed 61 = .ok (.getfield 20, 3) := by decide +kernel
theorem dX10_feed_64 : decode cX10_feed 64 = .ok (.getfield 84, 3) := by decide +kernel
theorem dX10_feed_67 : decode cX10_feed 67 = .ok (.ireturn, 1) := by decide +kernel
theorem dX10_feed_16 : decode cX10_feed 16 = .ok (.iconst (-1), 1) := by decide +kernel
theorem dX10_feed_17 : decode cX10_feed 17 = .ok (.ireturn, 1) := by decide +kernel
theorem dX10_end_0 : decode cX10_end 0 = .ok (.iload_n 1, 1) := by decide +kernel
theorem dX10_end_1 : decode cX10_end 1 = .ok (.ifCond .lt 14, 3) := by decide +kernel
theorem dX10_end_15 : decode cX10_end 15 = .ok (.iconst (-1), 1) := by decide +kernel
theorem dX10_end_16 : decode cX10_end 16 = .ok (.ireturn, 1) := by decide +kernel
theorem dX10_end_4 : decode cX10_end 4 = .ok (.iload_n 1, 1) := by decide +kernel
theorem dX10_end_5 : decode cX10_end 5 = .ok (.aload_n 0, 1) := by decide +kernel
theorem dX10_end_6 : decode cX10_end 6 = .ok (.getfield 20, 3) := by decide +kernel
theorem dX10_end_9 : decode cX10_end 9 = .ok (.getfield 84, 3) := by decide +kernel
theorem dX10_end_12 : decode cX10_end 12 = .ok (.if_icmp .le 5, 3) := by decide +kernel
theorem dX10_end_17 : decode cX10_end 17 = .ok (.aload_n 0, 1) := by decide +kernel
theorem dX10_end_18 : decode cX10_end 18 = .ok (.getfield 20, 3) := by decide +kernel
theorem dX10_end_21 : decode cX10_end 21 = .ok (.iload_n 1, 1) := by decide +kernel
theorem dX10_end_22 : decode cX10_end 22 = .ok (.putfield 84, 3) := by decide +kernel
theorem dX10_end_25 : decode cX10_end 25 = .ok (.iload_n 1, 1) := by decide +kernel
theorem dX10_end_26 : decode cX10_end 26 = .ok (.ireturn, 1) := by decide +kernel
theorem dX10_house_0 : decode cX10_house 0 = .ok (.aload_n 0, 1) := by decide +kernel
theorem dX10_house_1 : decode cX10_house 1 = .ok (.getfield 10, 3) := by decide +kernel
theorem dX10_house_4 : decode cX10_house 4 = .ok (.aload_n 0, 1) := by decide +kernel
theorem dX10_house_5 : decode cX10_house 5 = .ok (.getfield 24, 3) := by decide +kernel
theorem dX10_house_8 : decode cX10_house 8 = .ok (.invokevirtual 94, 3) := by decide +kernel
theorem dX10_house_11 : decode cX10_house 11 = .ok (.ifCond .ne 6, 3) := by decide +kernel
theorem dX10_house_17 : decode cX10_house 17 = .ok (.aload_n 0, 1) := by decide +kernel
theorem dX10_house_18 : decode cX10_house 18 = .ok (.getfield 20, 3) := by decide +kernel
theorem dX10_house_21 : decode cX10_house 21 = .ok (.iconst 0, 1) := by decide +kernel
theorem dX10_house_22 : decode cX10_house 22 = .ok (.putfield 84, 3) := by decide +kernel
theorem dX10_house_25 : decode cX10_house 25 = .ok (.aload_n 0, 1) := by decide +kernel
theorem dX10_house_26 : decode cX10_house 26 = .ok (.getfield 31, 3) := by decide +kernel
theorem dX10_house_29 : decode cX10_house 29 = .ok (.getfield 98, 3) := by decide +kernel
theorem dX10_house_32 : decode cX10_house 32 = .ok (.aload_n 0, 1) := by decide +kernel
theorem dX10_house_33 : decode cX10_house 33 = .ok (.getfield 24, 3) := by decide +kernel
theorem dX10_house_36 : decode cX10_house 36 = .ok (.invokevirtual 101, 3) := by decide +kernel
theorem dX10_house_39 : decode cX10_house 39 = .ok (.aload_n 0, 1) := by decide +kernel
theorem dX10_house_40 : decode cX10_house 40 = .ok (.getfield 31, 3) := by decide +kernel
theorem dX10_house_43 : decode cX10_house 43 = .ok (.iconst 0, 1) := by decide +kernel
theorem dX10_house_44 : decode cX10_house 44 = .ok (.putfield 105, 3) := by decide +kernel
theorem dX10_house_47 : decode cX10_house 47 = .ok (.aload_n 0, 1) := by decide +kernel
theorem dX10_house_48 : decode cX10_house 48 = .ok (.invokevirtual 108, 3) := by decide +kernel
theorem dX10_house_51 : decode cX10_house 51 = .ok (.aload_n 0, 1) := by decide +kernel
theorem dX10_house_52 : decode cX10_house 52 = .ok (.getfield 31, 3) := by decide +kernel
theorem dX10_house_55 : decode cX10_house 55 = .ok (.getfield 98, 3) := by decide +kernel
theorem dX10_house_58 : decode cX10_house 58 = .ok (.getfield 111, 3) := by decide +kernel
theorem dX10_house_61 : decode cX10_house 61 = .ok (.ireturn, 1) := by decide +kernel
theorem dX10_house_14 : decode cX10_house 14 = .ok (.bipush (-4), 2) := by decide +kernel
theorem dX10_house_16 : decode cX10_house 16 = .ok (.ireturn, 1) := by decide +kernel
theorem dX10_fault_0 : decode cX10_fault 0 = .ok (.iload_n 1, 1) := by decide +kernel
theorem dX10_fault_1 : decode cX10_fault 1 = .ok (.lookupswitch 43 #[(0, 27), (1, 35)], 27) := by decide +kernel
theorem dX10_fault_44 : decode cX10_fault 44 = .ok (.iconst (-1), 1) := by decide +kernel
theorem dX10_fault_45 : decode cX10_fault 45 = .ok (.ireturn, 1) := by decide +kernel
theorem dX10_fault_28 : decode cX10_fault 28 = .ok (.aload_n 0, 1) := by decide +kernel
theorem dX10_fault_29 : decode cX10_fault 29 = .ok (.getfield 10, 3) := by decide +kernel
theorem dX10_fault_32 : decode cX10_fault 32 = .ok (.getfield 114, 3) := by decide +kernel
theorem dX10_fault_35 : decode cX10_fault 35 = .ok (.ireturn, 1) := by decide +kernel
theorem dX10_fault_36 : decode cX10_fault 36 = .ok (.aload_n 0, 1) := by decide +kernel
theorem dX10_fault_37 : decode cX10_fault 37 = .ok (.getfield 10, 3) := by decide +kernel
theorem dX10_fault_40 : decode cX10_fault 40 = .ok (.getfield 117, 3) := by decide +kernel
theorem dX10_fault_43 : decode cX10_fault 43 = .ok (.ireturn, 1) := by decide +kernel
theorem dX10_room_0 : decode cX10_room 0 = .ok (.aload_n 0, 1) := by decide +kernel
theorem dX10_room_1 : decode cX10_room 1 = .ok (.iload_n 1, 1) := by decide +kernel
theorem dX10_room_2 : decode cX10_room 2 = .ok (.invokevirtual 120, 3) := by decide +kernel
theorem dX10_room_5 : decode cX10_room 5 = .ok (.ifCond .eq 12, 3) := by decide +kernel
theorem dX10_room_17 : decode cX10_room 17 = .ok (.bipush (-2), 2) := by decide +kernel
theorem dX10_room_19 : decode cX10_room 19 = .ok (.ireturn, 1) := by decide +kernel
theorem dX10_room_8 : decode cX10_room 8 = .ok (.iload_n 2, 1) := by decide +kernel
theorem dX10_room_9 : decode cX10_room 9 = .ok (.ifCond .lt 8, 3) := by decide +kernel
theorem dX10_room_12 : decode cX10_room 12 = .ok (.iload_n 2, 1) := by decide +kernel
theorem dX10_room_13 : decode cX10_room 13 = .ok (.iconst 3, 1) := by decide +kernel
theorem dX10_room_14 : decode cX10_room 14 = .ok (.if_icmp .le 6, 3) := by decide +kernel
theorem dX10_room_20 : decode cX10_room 20 = .ok (.aload_n 0, 1) := by decide +kernel
theorem dX10_room_21 : decode cX10_room 21 = .ok (.getfield 31, 3) := by decide +kernel
theorem dX10_room_24 : decode cX10_room 24 = .ok (.getfield 98, 3) := by decide +kernel
theorem dX10_room_27 : decode cX10_room 27 = .ok (.iload_n 2, 1) := by decide +kernel
theorem dX10_room_28 : decode cX10_room 28 = .ok (.invokevirtual 124, 3) := by decide +kernel
theorem dX10_room_31 : decode cX10_room 31 = .ok (.iload_n 1, 1) := by decide +kernel
theorem dX10_room_32 : decode cX10_room 32 = .ok (.iaload, 1) := by decide +kernel
theorem dX10_room_33 : decode cX10_room 33 = .ok (.ireturn, 1) := by decide +kernel
theorem dX10_man_0 : decode cX10_man 0 = .ok (.aload_n 0, 1) := by decide +kernel
theorem dX10_man_1 : decode cX10_man 1 = .ok (.iload_n 1, 1) := by decide +kernel
theorem dX10_man_2 : decode cX10_man 2 = .ok (.invokevirtual 128, 3) := by decide +kernel
theorem dX10_man_5 : decode cX10_man 5 = .ok (.ifCond .eq 12, 3) := by decide +kernel
theorem dX10_man_17 : decode cX10_man 17 = .ok (.bipush (-2), 2) := by decide +kernel
theorem dX10_man_19 : decode cX10_man 19 = .ok (.ireturn, 1) := by decide +kernel
theorem dX10_man_8 : decode cX10_man 8 = .ok (.iload_n 2, 1) := by decide +kernel
theorem dX10_man_9 : decode cX10_man 9 = .ok (.ifCond .lt 8, 3) := by decide +kernel
theorem dX10_man_12 : decode cX10_man 12 = .ok (.iload_n 2, 1) := by decide +kernel
theorem dX10_man_13 : decode cX10_man 13 = .ok (.iconst 1, 1) := by decide +kernel
theorem dX10_man_14 : decode cX10_man 14 = .ok (.if_icmp .le 6, 3) := by decide +kernel
theorem dX10_man_20 : decode cX10_man 20 = .ok (.iload_n 2, 1) := by decide +kernel
theorem dX10_man_21 : decode cX10_man 21 = .ok (.ifCond .ne 18, 3) := by decide +kernel
theorem dX10_man_39 : decode cX10_man 39 = .ok (.aload_n 0, 1) := by decide +kernel
theorem dX10_man_40 : decode cX10_man 40 = .ok (.getfield 31, 3) := by decide +kernel
theorem dX10_man_43 : decode cX10_man 43 = .ok (.getfield 98, 3) := by decide +kernel
theorem dX10_man_46 : decode cX10_man 46 = .ok (.getfield 135, 3) := by decide +kernel
theorem dX10_man_49 : decode cX10_man 49 = .ok (.iload_n 1, 1) := by decide +kernel
theorem dX10_man_50 : decode cX10_man 50 = .ok (.iaload, 1) := by decide +kernel
theorem dX10_man_51 : decode cX10_man 51 = .ok (.ireturn, 1) := by decide +kernel
theorem dX10_man_24 : decode cX10_man 24 = .ok (.aload_n 0, 1) := by decide +kernel
theorem dX10_man_25 : decode cX10_man 25 = .ok (.getfield 31, 3) := by decide +kernel
theorem dX10_man_28 : decode cX10_man 28 = .ok (.getfield 98, 3) := by decide +kernel
theorem dX10_man_31 : decode cX10_man 31 = .ok (.getfield 131, 3) := by decide +kernel
theorem dX10_man_34 : decode cX10_man 34 = .ok (.iload_n 1, 1) := by decide +kernel
theorem dX10_man_35 : decode cX10_man 35 = .ok (.iaload, 1) := by decide +kernel
theorem dX10_man_36 : decode cX10_man 36 = .ok (.goto 15, 3) := by decide +kernel
theorem dX10_slate_0 : decode cX10_slate 0 = .ok (.aload_n 0, 1) := by decide +kernel
theorem dX10_slate_1 : decode cX10_slate 1 = .ok (.iload_n 1, 1) := by decide +kernel
theorem dX10_slate_2 : decode cX10_slate 2 = .ok (.invokevirtual 128, 3) := by decide +kernel
theorem dX10_slate_5 : decode cX10_slate 5 = .ok (.ifCond .eq 11, 3) := by decide +kernel
theorem dX10_slate_16 : decode cX10_slate 16 = .ok (.bipush (-2), 2) := by decide +kernel
theorem dX10_slate_18 : decode cX10_slate 18 = .ok (.ireturn, 1) := by decide +kernel
theorem dX10_slate_8 : decode cX10_slate 8 = .ok (.aload_n 0, 1) := by decide +kernel
theorem dX10_slate_9 : decode cX10_slate 9 = .ok (.iload_n 2, 1) := by decide +kernel
theorem dX10_slate_10 : decode cX10_slate 10 = .ok (.invokevirtual 128, 3) := by decide +kernel
theorem dX10_slate_13 : decode cX10_slate 13 = .ok (.ifCond .ne 6, 3) := by decide +kernel
theorem dX10_slate_19 : decode cX10_slate 19 = .ok (.aload_n 0, 1) := by decide +kernel
theorem dX10_slate_20 : decode cX10_slate 20 = .ok (.getfield 31, 3) := by decide +kernel
theorem dX10_slate_23 : decode cX10_slate 23 = .ok (.getfield 98, 3) := by decide +kernel
theorem dX10_slate_26 : decode cX10_slate 26 = .ok (.getfield 138, 3) := by decide +kernel
theorem dX10_slate_29 : decode cX10_slate 29 = .ok (.iload_n 1, 1) := by decide +kernel
theorem dX10_slate_30 : decode cX10_slate 30 = .ok (.bipush 6, 2) := by decide +kernel
theorem dX10_slate_32 : decode cX10_slate 32 = .ok (.imul, 1) := by decide +kernel
theorem dX10_slate_33 : decode cX10_slate 33 = .ok (.iload_n 2, 1) := by decide +kernel
theorem dX10_slate_34 : decode cX10_slate 34 = .ok (.iadd, 1) := by decide +kernel
theorem dX10_slate_35 : decode cX10_slate 35 = .ok (.iaload, 1) := by decide +kernel
theorem dX10_slate_36 : decode cX10_slate 36 = .ok (.ireturn, 1) := by decide +kernel
theorem dX10_hears_0 : decode cX10_hears 0 = .ok (.aload_n 0, 1) := by decide +kernel
theorem dX10_hears_1 : decode cX10_hears 1 = .ok (.iload_n 1, 1) := by decide +kernel
theorem dX10_hears_2 : decode cX10_hears 2 = .ok (.invokevirtual 120, 3) := by decide +kernel
theorem dX10_hears_5 : decode cX10_hears 5 = .ok (.ifCond .eq 13, 3) := by decide +kernel
theorem dX10_hears_18 : decode cX10_hears 18 = .ok (.bipush (-2), 2) := by decide +kernel
theorem dX10_hears_20 : decode cX10_hears 20 = .ok (.ireturn, 1) := by decide +kernel
theorem dX10_hears_8 : decode cX10_hears 8 = .ok (.iload_n 2, 1) := by decide +kernel
theorem dX10_hears_9 : decode cX10_hears 9 = .ok (.ifCond .lt 9, 3) := by decide +kernel
theorem dX10_hears_12 : decode cX10_hears 12 = .ok (.iload_n 2, 1) := by decide +kernel
theorem dX10_hears_13 : decode cX10_hears 13 = .ok (.bipush 9, 2) := by decide +kernel
theorem dX10_hears_15 : decode cX10_hears 15 = .ok (.if_icmp .le 6, 3) := by decide +kernel
theorem dX10_hears_21 : decode cX10_hears 21 = .ok (.aload_n 0, 1) := by decide +kernel
theorem dX10_hears_22 : decode cX10_hears 22 = .ok (.getfield 31, 3) := by decide +kernel
theorem dX10_hears_25 : decode cX10_hears 25 = .ok (.getfield 98, 3) := by decide +kernel
theorem dX10_hears_28 : decode cX10_hears 28 = .ok (.iload_n 1, 1) := by decide +kernel
theorem dX10_hears_29 : decode cX10_hears 29 = .ok (.iload_n 2, 1) := by decide +kernel
theorem dX10_hears_30 : decode cX10_hears 30 = .ok (.invokevirtual 141, 3) := by decide +kernel
theorem dX10_hears_33 : decode cX10_hears 33 = .ok (.ireturn, 1) := by decide +kernel
theorem dX10_parts_0 : decode cX10_parts 0 = .ok (.aload_n 0, 1) := by decide +kernel
theorem dX10_parts_1 : decode cX10_parts 1 = .ok (.iload_n 1, 1) := by decide +kernel
theorem dX10_parts_2 : decode cX10_parts 2 = .ok (.invokevirtual 145, 3) := by decide +kernel
theorem dX10_parts_5 : decode cX10_parts 5 = .ok (.ifCond .eq 14, 3) := by decide +kernel
theorem dX10_parts_19 : decode cX10_parts 19 = .ok (.bipush (-2), 2) := by decide +kernel
theorem dX10_parts_21 : decode cX10_parts 21 = .ok (.ireturn, 1) := by decide +kernel
theorem dX10_parts_8 : decode cX10_parts 8 = .ok (.aload_n 0, 1) := by decide +kernel
theorem dX10_parts_9 : decode cX10_parts 9 = .ok (.getfield 48, 3) := by decide +kernel
theorem dX10_parts_12 : decode cX10_parts 12 = .ok (.iload_n 1, 1) := by decide +kernel
theorem dX10_parts_13 : decode cX10_parts 13 = .ok (.invokevirtual 148, 3) := by decide +kernel
theorem dX10_parts_16 : decode cX10_parts 16 = .ok (.goto 5, 3) := by decide +kernel
theorem dX10_found_0 : decode cX10_found 0 = .ok (.aload_n 0, 1) := by decide +kernel
theorem dX10_found_1 : decode cX10_found 1 = .ok (.invokevirtual 152, 3) := by decide +kernel
theorem dX10_found_4 : decode cX10_found 4 = .ok (.ifCond .eq 13, 3) := by decide +kernel
theorem dX10_found_17 : decode cX10_found 17 = .ok (.bipush (-2), 2) := by decide +kernel
theorem dX10_found_19 : decode cX10_found 19 = .ok (.ireturn, 1) := by decide +kernel
theorem dX10_found_7 : decode cX10_found 7 = .ok (.aload_n 0, 1) := by decide +kernel
theorem dX10_found_8 : decode cX10_found 8 = .ok (.getfield 48, 3) := by decide +kernel
theorem dX10_found_11 : decode cX10_found 11 = .ok (.getfield 156, 3) := by decide +kernel
theorem dX10_found_14 : decode cX10_found 14 = .ok (.goto 5, 3) := by decide +kernel
theorem dX10_likely_0 : decode cX10_likely 0 = .ok (.aload_n 0, 1) := by decide +kernel
theorem dX10_likely_1 : decode cX10_likely 1 = .ok (.invokevirtual 152, 3) := by decide +kernel
theorem dX10_likely_4 : decode cX10_likely 4 = .ok (.ifCond .ne 6, 3) := by decide +kernel
theorem dX10_likely_10 : decode cX10_likely 10 = .ok (.iconst (-1), 1) := by decide +kernel
theorem dX10_likely_11 : decode cX10_likely 11 = .ok (.istore_n 1, 1) := by decide +kernel
theorem dX10_likely_12 : decode cX10_likely 12 = .ok (.iconst 0, 1) := by decide +kernel
theorem dX10_likely_13 : decode cX10_likely 13 = .ok (.istore_n 2, 1) := by decide +kernel
theorem dX10_likely_14 : decode cX10_likely 14 = .ok (.iload_n 2, 1) := by decide +kernel
theorem dX10_likely_15 : decode cX10_likely 15 = .ok (.aload_n 0, 1) := by decide +kernel
theorem dX10_likely_16 : decode cX10_likely 16 = .ok (.getfield 31, 3) := by decide +kernel
theorem dX10_likely_19 : decode cX10_likely 19 = .ok (.getfield 98, 3) := by decide +kernel
theorem dX10_likely_22 : decode cX10_likely 22 = .ok (.getfield 159, 3) := by decide +kernel
theorem dX10_likely_25 : decode cX10_likely 25 = .ok (.if_icmp .ge 37, 3) := by decide +kernel
theorem dX10_likely_62 : decode cX10_likely 62 = .ok (.iload_n 1, 1) := by decide +kernel
theorem dX10_likely_63 : decode cX10_likely 63 = .ok (.ireturn, 1) := by decide +kernel
theorem dX10_likely_28 : decode cX10_likely 28 = .ok (.iload_n 1, 1) := by decide +kernel
theorem dX10_likely_29 : decode cX10_likely 29 = .ok (.iconst (-1), 1) := by decide +kernel
theorem dX10_likely_56 : decode cX10_likely 56 = .ok (.iinc 2 1, 3) := by decide +kernel
theorem dX10_likely_59 : decode cX10_likely 59 = .ok (.goto (-45), 3) := by decide +kernel
theorem dX10_likely_54 : decode cX10_likely 54 = .ok (.iload_n 2, 1) := by decide +kernel
theorem dX10_likely_55 : decode cX10_likely 55 = .ok (.istore_n 1, 1) := by decide +kernel
theorem dX10_likely_30 : decode cX10_likely 30 = .ok (.if_icmp .eq 24, 3) := by decide +kernel
theorem dX10_likely_33 : decode cX10_likely 33 = .ok (.aload_n 0, 1) := by decide +kernel
theorem dX10_likely_34 : decode cX10_likely 34 = .ok (.getfield 48, 3) := by decide +kernel
theorem dX10_likely_37 : decode cX10_likely 37 = .ok (.getfield 162, 3) := by decide +kernel
theorem dX10_likely_40 : decode cX10_likely 40 = .ok (.iload_n 2, 1) := by decide +kernel
theorem dX10_likely_41 : decode cX10_likely 41 = .ok (.iaload, 1) := by decide +kernel
theorem dX10_likely_42 : decode cX10_likely 42 = .ok (.aload_n 0, 1) := by decide +kernel
theorem dX10_likely_43 : decode cX10_likely 43 = .ok (.getfield 48, 3) := by decide +kernel
theorem dX10_likely_46 : decode cX10_likely 46 = .ok (.getfield 162, 3) := by decide +kernel
theorem dX10_likely_49 : decode cX10_likely 49 = .ok (.iload_n 1, 1) := by decide +kernel
theorem dX10_likely_50 : decode cX10_likely 50 = .ok (.iaload, 1) := by decide +kernel
theorem dX10_likely_51 : decode cX10_likely 51 = .ok (.if_icmp .le 5, 3) := by decide +kernel
theorem dX10_likely_7 : decode cX10_likely 7 = .ok (.bipush (-2), 2) := by decide +kernel
theorem dX10_likely_9 : decode cX10_likely 9 = .ok (.ireturn, 1) := by decide +kernel
theorem dX10_here_0 : decode cX10_here 0 = .ok (.aload_n 0, 1) := by decide +kernel
theorem dX10_here_1 : decode cX10_here 1 = .ok (.invokevirtual 152, 3) := by decide +kernel
theorem dX10_here_4 : decode cX10_here 4 = .ok (.ifCond .eq 13, 3) := by decide +kernel
theorem dX10_here_17 : decode cX10_here 17 = .ok (.bipush (-2), 2) := by decide +kernel
theorem dX10_here_19 : decode cX10_here 19 = .ok (.ireturn, 1) := by decide +kernel
theorem dX10_here_7 : decode cX10_here 7 = .ok (.aload_n 0, 1) := by decide +kernel
theorem dX10_here_8 : decode cX10_here 8 = .ok (.getfield 48, 3) := by decide +kernel
theorem dX10_here_11 : decode cX10_here 11 = .ok (.invokevirtual 165, 3) := by decide +kernel
theorem dX10_here_14 : decode cX10_here 14 = .ok (.goto 5, 3) := by decide +kernel
theorem dX10_chance_0 : decode cX10_chance 0 = .ok (.aload_n 0, 1) := by decide +kernel
theorem dX10_chance_1 : decode cX10_chance 1 = .ok (.iload_n 1, 1) := by decide +kernel
theorem dX10_chance_2 : decode cX10_chance 2 = .ok (.invokevirtual 145, 3) := by decide +kernel
theorem dX10_chance_5 : decode cX10_chance 5 = .ok (.ifCond .eq 21, 3) := by decide +kernel
theorem dX10_chance_26 : decode cX10_chance 26 = .ok (.bipush (-2), 2) := by decide +kernel
theorem dX10_chance_28 : decode cX10_chance 28 = .ok (.ireturn, 1) := by decide +kernel
theorem dX10_chance_8 : decode cX10_chance 8 = .ok (.aload_n 0, 1) := by decide +kernel
theorem dX10_chance_9 : decode cX10_chance 9 = .ok (.getfield 48, 3) := by decide +kernel
theorem dX10_chance_12 : decode cX10_chance 12 = .ok (.aload_n 0, 1) := by decide +kernel
theorem dX10_chance_13 : decode cX10_chance 13 = .ok (.getfield 48, 3) := by decide +kernel
theorem dX10_chance_16 : decode cX10_chance 16 = .ok (.iload_n 1, 1) := by decide +kernel
theorem dX10_chance_17 : decode cX10_chance 17 = .ok (.invokevirtual 148, 3) := by decide +kernel
theorem dX10_chance_20 : decode cX10_chance 20 = .ok (.invokevirtual 169, 3) := by decide +kernel
theorem dX10_chance_23 : decode cX10_chance 23 = .ok (.goto 5, 3) := by decide +kernel
theorem dX10_call_0 : decode cX10_call 0 = .ok (.aload_n 0, 1) := by decide +kernel
theorem dX10_call_1 : decode cX10_call 1 = .ok (.iload_n 1, 1) := by decide +kernel
theorem dX10_call_2 : decode cX10_call 2 = .ok (.invokevirtual 145, 3) := by decide +kernel
theorem dX10_call_5 : decode cX10_call 5 = .ok (.ifCond .ne 6, 3) := by decide +kernel
theorem dX10_call_11 : decode cX10_call 11 = .ok (.aload_n 0, 1) := by decide +kernel
theorem dX10_call_12 : decode cX10_call 12 = .ok (.getfield 31, 3) := by decide +kernel
theorem dX10_call_15 : decode cX10_call 15 = .ok (.getfield 105, 3) := by decide +kernel
theorem dX10_call_18 : decode cX10_call 18 = .ok (.bipush 60, 2) := by decide +kernel
theorem dX10_call_20 : decode cX10_call 20 = .ok (.if_icmp .lt 6, 3) := by decide +kernel
theorem dX10_call_26 : decode cX10_call 26 = .ok (.aload_n 0, 1) := by decide +kernel
theorem dX10_call_27 : decode cX10_call 27 = .ok (.getfield 31, 3) := by decide +kernel
theorem dX10_call_30 : decode cX10_call 30 = .ok (.getfield 172, 3) := by decide +kernel
theorem dX10_call_33 : decode cX10_call 33 = .ok (.aload_n 0, 1) := by decide +kernel
theorem dX10_call_34 : decode cX10_call 34 = .ok (.getfield 31, 3) := by decide +kernel
theorem dX10_call_37 : decode cX10_call 37 = .ok (.getfield 105, 3) := by decide +kernel
theorem dX10_call_40 : decode cX10_call 40 = .ok (.iload_n 1, 1) := by decide +kernel
theorem dX10_call_41 : decode cX10_call 41 = .ok (.iastore, 1) := by decide +kernel
theorem dX10_call_42 : decode cX10_call 42 = .ok (.aload_n 0, 1) := by decide +kernel
theorem dX10_call_43 : decode cX10_call 43 = .ok (.getfield 31, 3) := by decide +kernel
theorem dX10_call_46 : decode cX10_call 46 = .ok (.dup, 1) := by decide +kernel
theorem dX10_call_47 : decode cX10_call 47 = .ok (.getfield 105, 3) := by decide +kernel
theorem dX10_call_50 : decode cX10_call 50 = .ok (.iconst 1, 1) := by decide +kernel
theorem dX10_call_51 : decode cX10_call 51 = .ok (.iadd, 1) := by decide +kernel
theorem dX10_call_52 : decode cX10_call 52 = .ok (.putfield 105, 3) := by decide +kernel
theorem dX10_call_55 : decode cX10_call 55 = .ok (.aload_n 0, 1) := by decide +kernel
theorem dX10_call_56 : decode cX10_call 56 = .ok (.getfield 48, 3) := by decide +kernel
theorem dX10_call_59 : decode cX10_call 59 = .ok (.aload_n 0, 1) := by decide +kernel
theorem dX10_call_60 : decode cX10_call 60 = .ok (.getfield 31, 3) := by decide +kernel
theorem dX10_call_63 : decode cX10_call 63 = .ok (.getfield 98, 3) := by decide +kernel
theorem dX10_call_66 : decode cX10_call 66 = .ok (.iload_n 1, 1) := by decide +kernel
theorem dX10_call_67 : decode cX10_call 67 = .ok (.iconst 0, 1) := by decide +kernel
theorem dX10_call_68 : decode cX10_call 68 = .ok (.invokevirtual 175, 3) := by decide +kernel
theorem dX10_call_71 : decode cX10_call 71 = .ok (.ireturn, 1) := by decide +kernel
theorem dX10_call_23 : decode cX10_call 23 = .ok (.bipush (-5), 2) := by decide +kernel
theorem dX10_call_25 : decode cX10_call 25 = .ok (.ireturn, 1) := by decide +kernel
theorem dX10_call_8 : decode cX10_call 8 = .ok (.bipush (-2), 2) := by decide +kernel
theorem dX10_call_10 : decode cX10_call 10 = .ok (.ireturn, 1) := by decide +kernel
theorem dX10_undo_0 : decode cX10_undo 0 = .ok (.aload_n 0, 1) := by decide +kernel
theorem dX10_undo_1 : decode cX10_undo 1 = .ok (.invokevirtual 152, 3) := by decide +kernel
theorem dX10_undo_4 : decode cX10_undo 4 = .ok (.ifCond .ne 6, 3) := by decide +kernel
theorem dX10_undo_10 : decode cX10_undo 10 = .ok (.aload_n 0, 1) := by decide +kernel
theorem dX10_undo_11 : decode cX10_undo 11 = .ok (.getfield 31, 3) := by decide +kernel
theorem dX10_undo_14 : decode cX10_undo 14 = .ok (.getfield 105, 3) := by decide +kernel
theorem dX10_undo_17 : decode cX10_undo 17 = .ok (.iconst 1, 1) := by decide +kernel
theorem dX10_undo_18 : decode cX10_undo 18 = .ok (.if_icmp .ge 6, 3) := by decide +kernel
theorem dX10_undo_24 : decode cX10_undo 24 = .ok (.aload_n 0, 1) := by decide +kernel
theorem dX10_undo_25 : decode cX10_undo 25 = .ok (.getfield 31, 3) := by decide +kernel
theorem dX10_undo_28 : decode cX10_undo 28 = .ok (.dup, 1) := by decide +kernel
theorem dX10_undo_29 : decode cX10_undo 29 = .ok (.getfield 105, 3) := by decide +kernel
theorem dX10_undo_32 : decode cX10_undo 32 = .ok (.iconst 1, 1) := by decide +kernel
theorem dX10_undo_33 : decode cX10_undo 33 = .ok (.isub, 1) := by decide +kernel
theorem dX10_undo_34 : decode cX10_undo 34 = .ok (.putfield 105, 3) := by decide +kernel
theorem dX10_undo_37 : decode cX10_undo 37 = .ok (.aload_n 0, 1) := by decide +kernel
theorem dX10_undo_38 : decode cX10_undo 38 = .ok (.invokevirtual 108, 3) := by decide +kernel
theorem dX10_undo_41 : decode cX10_undo 41 = .ok (.aload_n 0, 1) := by decide +kernel
theorem dX10_undo_42 : decode cX10_undo 42 = .ok (.getfield 31, 3) := by decide +kernel
theorem dX10_undo_45 : decode cX10_undo 45 = .ok (.getfield 105, 3) := by decide +kernel
theorem dX10_undo_48 : decode cX10_undo 48 = .ok (.ireturn, 1) := by decide +kernel
theorem dX10_undo_21 : decode cX10_undo 21 = .ok (.bipush (-5), 2) := by decide +kernel
theorem dX10_undo_23 : decode cX10_undo 23 = .ok (.ireturn, 1) := by decide +kernel
theorem dX10_undo_7 : decode cX10_undo 7 = .ok (.bipush (-2), 2) := by decide +kernel
theorem dX10_undo_9 : decode cX10_undo 9 = .ok (.ireturn, 1) := by decide +kernel
theorem dX10_anew_0 : decode cX10_anew 0 = .ok (.aload_n 0, 1) := by decide +kernel
theorem dX10_anew_1 : decode cX10_anew 1 = .ok (.invokevirtual 152, 3) := by decide +kernel
theorem dX10_anew_4 : decode cX10_anew 4 = .ok (.ifCond .ne 6, 3) := by decide +kernel
theorem dX10_anew_10 : decode cX10_anew 10 = .ok (.aload_n 0, 1) := by decide +kernel
theorem dX10_anew_11 : decode cX10_anew 11 = .ok (.getfield 31, 3) := by decide +kernel
theorem dX10_anew_14 : decode cX10_anew 14 = .ok (.getfield 105, 3) := by decide +kernel
theorem dX10_anew_17 : decode cX10_anew 17 = .ok (.istore_n 1, 1) := by decide +kernel
theorem dX10_anew_18 : decode cX10_anew 18 = .ok (.aload_n 0, 1) := by decide +kernel
theorem dX10_anew_19 : decode cX10_anew 19 = .ok (.getfield 31, 3) := by decide +kernel
theorem dX10_anew_22 : decode cX10_anew 22 = .ok (.iconst 0, 1) := by decide +kernel
theorem dX10_anew_23 : decode cX10_anew 23 = .ok (.putfield 105, 3) := by decide +kernel
theorem dX10_anew_26 : decode cX10_anew 26 = .ok (.aload_n 0, 1) := by decide +kernel
theorem dX10_anew_27 : decode cX10_anew 27 = .ok (.invokevirtual 108, 3) := by decide +kernel
theorem dX10_anew_30 : decode cX10_anew 30 = .ok (.iload_n 1, 1) := by decide +kernel
theorem dX10_anew_31 : decode cX10_anew 31 = .ok (.ireturn, 1) := by decide +kernel
theorem dX10_anew_7 : decode cX10_anew 7 = .ok (.bipush (-2), 2) := by decide +kernel
theorem dX10_anew_9 : decode cX10_anew 9 = .ok (.ireturn, 1) := by decide +kernel
theorem dX10_later_0 : decode cX10_later 0 = .ok (.aload_n 0, 1) := by decide +kernel
theorem dX10_later_1 : decode cX10_later 1 = .ok (.iload_n 1, 1) := by decide +kernel
theorem dX10_later_2 : decode cX10_later 2 = .ok (.invokevirtual 145, 3) := by decide +kernel
theorem dX10_later_5 : decode cX10_later 5 = .ok (.ifCond .eq 14, 3) := by decide +kernel
theorem dX10_later_19 : decode cX10_later 19 = .ok (.bipush (-2), 2) := by decide +kernel
theorem dX10_later_21 : decode cX10_later 21 = .ok (.ireturn, 1) := by decide +kernel
theorem dX10_later_8 : decode cX10_later 8 = .ok (.iload_n 2, 1) := by decide +kernel
theorem dX10_later_9 : decode cX10_later 9 = .ok (.ifCond .lt 10, 3) := by decide +kernel
theorem dX10_later_12 : decode cX10_later 12 = .ok (.iload_n 2, 1) := by decide +kernel
theorem dX10_later_13 : decode cX10_later 13 = .ok (.sipush 200, 3) := by decide +kernel
theorem dX10_later_16 : decode cX10_later 16 = .ok (.if_icmp .le 6, 3) := by decide +kernel
theorem dX10_later_22 : decode cX10_later 22 = .ok (.aload_n 0, 1) := by decide +kernel
theorem dX10_later_23 : decode cX10_later 23 = .ok (.getfield 52, 3) := by decide +kernel
theorem dX10_later_26 : decode cX10_later 26 = .ok (.aload_n 0, 1) := by decide +kernel
