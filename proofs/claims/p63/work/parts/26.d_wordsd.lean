theorem dJ6_bitCount_0f7a4_0 : decode cJ6_bitCount_0f7a4 0 = .ok (.iload_n 0, 1) := by decide +kernel
theorem dJ6_bitCount_0f7a4_1 : decode cJ6_bitCount_0f7a4 1 = .ok (.iload_n 0, 1) := by decide +kernel
theorem dJ6_bitCount_0f7a4_2 : decode cJ6_bitCount_0f7a4 2 = .ok (.iconst 1, 1) := by decide +kernel
theorem dJ6_bitCount_0f7a4_3 : decode cJ6_bitCount_0f7a4 3 = .ok (.iushr, 1) := by decide +kernel
theorem dJ6_bitCount_0f7a4_4 : decode cJ6_bitCount_0f7a4 4 = .ok (.ldc_w 265, 3) := by decide +kernel
theorem dJ6_bitCount_0f7a4_7 : decode cJ6_bitCount_0f7a4 7 = .ok (.iand, 1) := by decide +kernel
theorem dJ6_bitCount_0f7a4_8 : decode cJ6_bitCount_0f7a4 8 = .ok (.isub, 1) := by decide +kernel
theorem dJ6_bitCount_0f7a4_9 : decode cJ6_bitCount_0f7a4 9 = .ok (.istore_n 0, 1) := by decide +kernel
theorem dJ6_bitCount_0f7a4_10 : decode cJ6_bitCount_0f7a4 10 = .ok (.iload_n 0, 1) := by decide +kernel
theorem dJ6_bitCount_0f7a4_11 : decode cJ6_bitCount_0f7a4 11 = .ok (.ldc_w 266, 3) := by decide +kernel
theorem dJ6_bitCount_0f7a4_14 : decode cJ6_bitCount_0f7a4 14 = .ok (.iand, 1) := by decide +kernel
theorem dJ6_bitCount_0f7a4_15 : decode cJ6_bitCount_0f7a4 15 = .ok (.iload_n 0, 1) := by decide +kernel
theorem dJ6_bitCount_0f7a4_16 : decode cJ6_bitCount_0f7a4 16 = .ok (.iconst 2, 1) := by decide +kernel
theorem dJ6_bitCount_0f7a4_17 : decode cJ6_bitCount_0f7a4 17 = .ok (.iushr, 1) := by decide +kernel
theorem dJ6_bitCount_0f7a4_18 : decode cJ6_bitCount_0f7a4 18 = .ok (.ldc_w 266, 3) := by decide +kernel
theorem dJ6_bitCount_0f7a4_21 : decode cJ6_bitCount_0f7a4 21 = .ok (.iand, 1) := by decide +kernel
theorem dJ6_bitCount_0f7a4_22 : decode cJ6_bitCount_0f7a4 22 = .ok (.iadd, 1) := by decide +kernel
theorem dJ6_bitCount_0f7a4_23 : decode cJ6_bitCount_0f7a4 23 = .ok (.istore_n 0, 1) := by decide +kernel
theorem dJ6_bitCount_0f7a4_24 : decode cJ6_bitCount_0f7a4 24 = .ok (.iload_n 0, 1) := by decide +kernel
theorem dJ6_bitCount_0f7a4_25 : decode cJ6_bitCount_0f7a4 25 = .ok (.iload_n 0, 1) := by decide +kernel
theorem dJ6_bitCount_0f7a4_26 : decode cJ6_bitCount_0f7a4 26 = .ok (.iconst 4, 1) := by decide +kernel
theorem dJ6_bitCount_0f7a4_27 : decode cJ6_bitCount_0f7a4 27 = .ok (.iushr, 1) := by decide +kernel
theorem dJ6_bitCount_0f7a4_28 : decode cJ6_bitCount_0f7a4 28 = .ok (.iadd, 1) := by decide +kernel
theorem dJ6_bitCount_0f7a4_29 : decode cJ6_bitCount_0f7a4 29 = .ok (.ldc_w 267, 3) := by decide +kernel
theorem dJ6_bitCount_0f7a4_32 : decode cJ6_bitCount_0f7a4 32 = .ok (.iand, 1) := by decide +kernel
theorem dJ6_bitCount_0f7a4_33 : decode cJ6_bitCount_0f7a4 33 = .ok (.istore_n 0, 1) := by decide +kernel
theorem dJ6_bitCount_0f7a4_34 : decode cJ6_bitCount_0f7a4 34 = .ok (.iload_n 0, 1) := by decide +kernel
theorem dJ6_bitCount_0f7a4_35 : decode cJ6_bitCount_0f7a4 35 = .ok (.iload_n 0, 1) := by decide +kernel
theorem dJ6_bitCount_0f7a4_36 : decode cJ6_bitCount_0f7a4 36 = .ok (.bipush 8, 2) := by decide +kernel
theorem dJ6_bitCount_0f7a4_38 : decode cJ6_bitCount_0f7a4 38 = .ok (.iushr, 1) := by decide +kernel
theorem dJ6_bitCount_0f7a4_39 : decode cJ6_bitCount_0f7a4 39 = .ok (.iadd, 1) := by decide +kernel
theorem dJ6_bitCount_0f7a4_40 : decode cJ6_bitCount_0f7a4 40 = .ok (.istore_n 0, 1) := by decide +kernel
theorem dJ6_bitCount_0f7a4_41 : decode cJ6_bitCount_0f7a4 41 = .ok (.iload_n 0, 1) := by decide +kernel
theorem dJ6_bitCount_0f7a4_42 : decode cJ6_bitCount_0f7a4 42 = .ok (.iload_n 0, 1) := by decide +kernel
theorem dJ6_bitCount_0f7a4_43 : decode cJ6_bitCount_0f7a4 43 = .ok (.bipush 16, 2) := by decide +kernel
theorem dJ6_bitCount_0f7a4_45 : decode cJ6_bitCount_0f7a4 45 = .ok (.iushr, 1) := by decide +kernel
theorem dJ6_bitCount_0f7a4_46 : decode cJ6_bitCount_0f7a4 46 = .ok (.iadd, 1) := by decide +kernel
theorem dJ6_bitCount_0f7a4_47 : decode cJ6_bitCount_0f7a4 47 = .ok (.istore_n 0, 1) := by decide +kernel
theorem dJ6_bitCount_0f7a4_48 : decode cJ6_bitCount_0f7a4 48 = .ok (.iload_n 0, 1) := by decide +kernel
theorem dJ6_bitCount_0f7a4_49 : decode cJ6_bitCount_0f7a4 49 = .ok (.bipush 63, 2) := by decide +kernel
theorem dJ6_bitCount_0f7a4_51 : decode cJ6_bitCount_0f7a4 51 = .ok (.iand, 1) := by decide +kernel
theorem dJ6_bitCount_0f7a4_52 : decode cJ6_bitCount_0f7a4 52 = .ok (.ireturn, 1) := by decide +kernel
theorem dJ6_numberOfTrailingZeros_0f7a4_0 : decode cJ6_numberOfTrailingZeros_0f7a4 0 = .ok (.iload_n 0, 1) := by decide +kernel
theorem dJ6_numberOfTrailingZeros_0f7a4_1 : decode cJ6_numberOfTrailingZeros_0f7a4 1 = .ok (.iconst (-1), 1) := by decide +kernel
theorem dJ6_numberOfTrailingZeros_0f7a4_2 : decode cJ6_numberOfTrailingZeros_0f7a4 2 = .ok (.ixor, 1) := by decide +kernel
theorem dJ6_numberOfTrailingZeros_0f7a4_3 : decode cJ6_numberOfTrailingZeros_0f7a4 3 = .ok (.iload_n 0, 1) := by decide +kernel
theorem dJ6_numberOfTrailingZeros_0f7a4_4 : decode cJ6_numberOfTrailingZeros_0f7a4 4 = .ok (.iconst 1, 1) := by decide +kernel
theorem dJ6_numberOfTrailingZeros_0f7a4_5 : decode cJ6_numberOfTrailingZeros_0f7a4 5 = .ok (.isub, 1) := by decide +kernel
theorem dJ6_numberOfTrailingZeros_0f7a4_6 : decode cJ6_numberOfTrailingZeros_0f7a4 6 = .ok (.iand, 1) := by decide +kernel
theorem dJ6_numberOfTrailingZeros_0f7a4_7 : decode cJ6_numberOfTrailingZeros_0f7a4 7 = .ok (.istore_n 0, 1) := by decide +kernel
theorem dJ6_numberOfTrailingZeros_0f7a4_8 : decode cJ6_numberOfTrailingZeros_0f7a4 8 = .ok (.iload_n 0, 1) := by decide +kernel
theorem dJ6_numberOfTrailingZeros_0f7a4_9 : decode cJ6_numberOfTrailingZeros_0f7a4 9 = .ok (.ifCond .gt 8, 3) := by decide +kernel
theorem dJ6_numberOfTrailingZeros_0f7a4_17 : decode cJ6_numberOfTrailingZeros_0f7a4 17 = .ok (.iconst 1, 1) := by decide +kernel
theorem dJ6_numberOfTrailingZeros_0f7a4_18 : decode cJ6_numberOfTrailingZeros_0f7a4 18 = .ok (.istore_n 1, 1) := by decide +kernel
theorem dJ6_numberOfTrailingZeros_0f7a4_19 : decode cJ6_numberOfTrailingZeros_0f7a4 19 = .ok (.iload_n 0, 1) := by decide +kernel
theorem dJ6_numberOfTrailingZeros_0f7a4_20 : decode cJ6_numberOfTrailingZeros_0f7a4 20 = .ok (.ldc_w 264, 3) := by decide +kernel
theorem dJ6_numberOfTrailingZeros_0f7a4_34 : decode cJ6_numberOfTrailingZeros_0f7a4 34 = .ok (.iload_n 0, 1) := by decide +kernel
theorem dJ6_numberOfTrailingZeros_0f7a4_35 : decode cJ6_numberOfTrailingZeros_0f7a4 35 = .ok (.sipush 256, 3) := by decide +kernel
theorem dJ6_numberOfTrailingZeros_0f7a4_49 : decode cJ6_numberOfTrailingZeros_0f7a4 49 = .ok (.iload_n 0, 1) := by decide +kernel
theorem dJ6_numberOfTrailingZeros_0f7a4_50 : decode cJ6_numberOfTrailingZeros_0f7a4 50 = .ok (.bipush 16, 2) := by decide +kernel
theorem dJ6_numberOfTrailingZeros_0f7a4_62 : decode cJ6_numberOfTrailingZeros_0f7a4 62 = .ok (.iload_n 0, 1) := by decide +kernel
theorem dJ6_numberOfTrailingZeros_0f7a4_63 : decode cJ6_numberOfTrailingZeros_0f7a4 63 = .ok (.iconst 4, 1) := by decide +kernel
theorem dJ6_numberOfTrailingZeros_0f7a4_64 : decode cJ6_numberOfTrailingZeros_0f7a4 64 = .ok (.if_icmp .le 10, 3) := by decide +kernel
theorem dJ6_numberOfTrailingZeros_0f7a4_74 : decode cJ6_numberOfTrailingZeros_0f7a4 74 = .ok (.iload_n 1, 1) := by decide +kernel
theorem dJ6_numberOfTrailingZeros_0f7a4_75 : decode cJ6_numberOfTrailingZeros_0f7a4 75 = .ok (.iload_n 0, 1) := by decide +kernel
theorem dJ6_numberOfTrailingZeros_0f7a4_76 : decode cJ6_numberOfTrailingZeros_0f7a4 76 = .ok (.iconst 1, 1) := by decide +kernel
theorem dJ6_numberOfTrailingZeros_0f7a4_77 : decode cJ6_numberOfTrailingZeros_0f7a4 77 = .ok (.iushr, 1) := by decide +kernel
theorem dJ6_numberOfTrailingZeros_0f7a4_78 : decode cJ6_numberOfTrailingZeros_0f7a4 78 = .ok (.iadd, 1) := by decide +kernel
theorem dJ6_numberOfTrailingZeros_0f7a4_79 : decode cJ6_numberOfTrailingZeros_0f7a4 79 = .ok (.ireturn, 1) := by decide +kernel
theorem dJ6_numberOfTrailingZeros_0f7a4_67 : decode cJ6_numberOfTrailingZeros_0f7a4 67 = .ok (.iinc 1 2, 3) := by decide +kernel
theorem dJ6_numberOfTrailingZeros_0f7a4_70 : decode cJ6_numberOfTrailingZeros_0f7a4 70 = .ok (.iload_n 0, 1) := by decide +kernel
theorem dJ6_numberOfTrailingZeros_0f7a4_71 : decode cJ6_numberOfTrailingZeros_0f7a4 71 = .ok (.iconst 2, 1) := by decide +kernel
theorem dJ6_numberOfTrailingZeros_0f7a4_72 : decode cJ6_numberOfTrailingZeros_0f7a4 72 = .ok (.iushr, 1) := by decide +kernel
theorem dJ6_numberOfTrailingZeros_0f7a4_73 : decode cJ6_numberOfTrailingZeros_0f7a4 73 = .ok (.istore_n 0, 1) := by decide +kernel
theorem dJ6_numberOfTrailingZeros_0f7a4_52 : decode cJ6_numberOfTrailingZeros_0f7a4 52 = .ok (.if_icmp .le 10, 3) := by decide +kernel
theorem dJ6_numberOfTrailingZeros_0f7a4_55 : decode cJ6_numberOfTrailingZeros_0f7a4 55 = .ok (.iinc 1 4, 3) := by decide +kernel
theorem dJ6_numberOfTrailingZeros_0f7a4_58 : decode cJ6_numberOfTrailingZeros_0f7a4 58 = .ok (.iload_n 0, 1) := by decide +kernel
theorem dJ6_numberOfTrailingZeros_0f7a4_59 : decode cJ6_numberOfTrailingZeros_0f7a4 59 = .ok (.iconst 4, 1) := by decide +kernel
theorem dJ6_numberOfTrailingZeros_0f7a4_60 : decode cJ6_numberOfTrailingZeros_0f7a4 60 = .ok (.iushr, 1) := by decide +kernel
theorem dJ6_numberOfTrailingZeros_0f7a4_61 : decode cJ6_numberOfTrailingZeros_0f7a4 61 = .ok (.istore_n 0, 1) := by decide +kernel
theorem dJ6_numberOfTrailingZeros_0f7a4_38 : decode cJ6_numberOfTrailingZeros_0f7a4 38 = .ok (.if_icmp .le 11, 3) := by decide +kernel
theorem dJ6_numberOfTrailingZeros_0f7a4_23 : decode cJ6_numberOfTrailingZeros_0f7a4 23 = .ok (.if_icmp .le 11, 3) := by decide +kernel
theorem dJ6_numberOfTrailingZeros_0f7a4_12 : decode cJ6_numberOfTrailingZeros_0f7a4 12 = .ok (.iload_n 0, 1) := by decide +kernel
theorem dJ6_numberOfTrailingZeros_0f7a4_13 : decode cJ6_numberOfTrailingZeros_0f7a4 13 = .ok (.bipush 32, 2) := by decide +kernel
theorem dJ6_numberOfTrailingZeros_0f7a4_15 : decode cJ6_numberOfTrailingZeros_0f7a4 15 = .ok (.iand, 1) := by decide +kernel
theorem dJ6_numberOfTrailingZeros_0f7a4_16 : decode cJ6_numberOfTrailingZeros_0f7a4 16 = .ok (.ireturn, 1) := by decide +kernel
theorem dX3_limit_0 : decode cX3_limit 0 = .ok (.iload_n 0, 1) := by decide +kernel
theorem dX3_limit_1 : decode cX3_limit 1 = .ok (.lookupswitch 34 #[(0, 27), (1, 31)], 27) := by decide +kernel
theorem dX3_limit_35 : decode cX3_limit 35 = .ok (.bipush 99, 2) := by decide +kernel
theorem dX3_limit_37 : decode cX3_limit 37 = .ok (.ireturn, 1) := by decide +kernel
theorem dX3_limit_28 : decode cX3_limit 28 = .ok (.sipush 999, 3) := by decide +kernel
theorem dX3_limit_31 : decode cX3_limit 31 = .ok (.ireturn, 1) := by decide +kernel
theorem dX3_limit_32 : decode cX3_limit 32 = .ok (.bipush 100, 2) := by decide +kernel
theorem dX3_limit_34 : decode cX3_limit 34 = .ok (.ireturn, 1) := by decide +kernel
theorem dX3_hasRoom_0 : decode cX3_hasRoom 0 = .ok (.iload_n 1, 1) := by decide +kernel
theorem dX3_hasRoom_1 : decode cX3_hasRoom 1 = .ok (.ifCond .lt 15, 3) := by decide +kernel
theorem dX3_hasRoom_16 : decode cX3_hasRoom 16 = .ok (.iconst 0, 1) := by decide +kernel
theorem dX3_hasRoom_17 : decode cX3_hasRoom 17 = .ok (.ireturn, 1) := by decide +kernel
theorem dX3_hasRoom_4 : decode cX3_hasRoom 4 = .ok (.iload_n 1, 1) := by decide +kernel
theorem dX3_hasRoom_5 : decode cX3_hasRoom 5 = .ok (.aload_n 0, 1) := by decide +kernel
theorem dX3_hasRoom_6 : decode cX3_hasRoom 6 = .ok (.getfield 49, 3) := by decide +kernel
theorem dX3_hasRoom_9 : decode cX3_hasRoom 9 = .ok (.if_icmp .ge 7, 3) := by decide +kernel
theorem dX3_hasRoom_12 : decode cX3_hasRoom 12 = .ok (.iconst 1, 1) := by decide +kernel
theorem dX3_hasRoom_13 : decode cX3_hasRoom 13 = .ok (.goto 4, 3) := by decide +kernel
theorem dX3_isDoor_0 : decode cX3_isDoor 0 = .ok (.aload_n 0, 1) := by decide +kernel
theorem dX3_isDoor_1 : decode cX3_isDoor 1 = .ok (.iload_n 1, 1) := by decide +kernel
theorem dX3_isDoor_2 : decode cX3_isDoor 2 = .ok (.invokevirtual 61, 3) := by decide +kernel
theorem dX3_isDoor_5 : decode cX3_isDoor 5 = .ok (.ifCond .eq 28, 3) := by decide +kernel
theorem dX3_isDoor_33 : decode cX3_isDoor 33 = .ok (.iconst 0, 1) := by decide +kernel
theorem dX3_isDoor_34 : decode cX3_isDoor 34 = .ok (.ireturn, 1) := by decide +kernel
theorem dX3_isDoor_8 : decode cX3_isDoor 8 = .ok (.aload_n 0, 1) := by decide +kernel
theorem dX3_isDoor_9 : decode cX3_isDoor 9 = .ok (.iload_n 2, 1) := by decide +kernel
theorem dX3_isDoor_10 : decode cX3_isDoor 10 = .ok (.invokevirtual 61, 3) := by decide +kernel
theorem dX3_isDoor_13 : decode cX3_isDoor 13 = .ok (.ifCond .eq 20, 3) := by decide +kernel
theorem dX3_isDoor_16 : decode cX3_isDoor 16 = .ok (.aload_n 0, 1) := by decide +kernel
theorem dX3_isDoor_17 : decode cX3_isDoor 17 = .ok (.getfield 21, 3) := by decide +kernel
theorem dX3_isDoor_20 : decode cX3_isDoor 20 = .ok (.iload_n 1, 1) := by decide +kernel
theorem dX3_isDoor_21 : decode cX3_isDoor 21 = .ok (.iaload, 1) := by decide +kernel
theorem dX3_isDoor_22 : decode cX3_isDoor 22 = .ok (.iload_n 2, 1) := by decide +kernel
theorem dX3_isDoor_23 : decode cX3_isDoor 23 = .ok (.ishr, 1) := by decide +kernel
theorem dX3_isDoor_24 : decode cX3_isDoor 24 = .ok (.iconst 1, 1) := by decide +kernel
theorem dX3_isDoor_25 : decode cX3_isDoor 25 = .ok (.iand, 1) := by decide +kernel
theorem dX3_isDoor_26 : decode cX3_isDoor 26 = .ok (.ifCond .eq 7, 3) := by decide +kernel
theorem dX3_isDoor_29 : decode cX3_isDoor 29 = .ok (.iconst 1, 1) := by decide +kernel
theorem dX3_isDoor_30 : decode cX3_isDoor 30 = .ok (.goto 4, 3) := by decide +kernel
theorem dX3_isStep_0 : decode cX3_isStep 0 = .ok (.iload_n 1, 1) := by decide +kernel
theorem dX3_isStep_1 : decode cX3_isStep 1 = .ok (.iload_n 2, 1) := by decide +kernel
theorem dX3_isStep_2 : decode cX3_isStep 2 = .ok (.if_icmp .eq 12, 3) := by decide +kernel
theorem dX3_isStep_14 : decode cX3_isStep 14 = .ok (.iconst 1, 1) := by decide +kernel
theorem dX3_isStep_15 : decode cX3_isStep 15 = .ok (.goto 4, 3) := by decide +kernel
theorem dX3_isStep_19 : decode cX3_isStep 19 = .ok (.ireturn, 1) := by decide +kernel
theorem dX3_isStep_5 : decode cX3_isStep 5 = .ok (.aload_n 0, 1) := by decide +kernel
theorem dX3_isStep_6 : decode cX3_isStep 6 = .ok (.iload_n 1, 1) := by decide +kernel
theorem dX3_isStep_7 : decode cX3_isStep 7 = .ok (.iload_n 2, 1) := by decide +kernel
theorem dX3_isStep_8 : decode cX3_isStep 8 = .ok (.invokevirtual 65, 3) := by decide +kernel
theorem dX3_isStep_11 : decode cX3_isStep 11 = .ok (.ifCond .eq 7, 3) := by decide +kernel
theorem dX3_isStep_18 : decode cX3_isStep 18 = .ok (.iconst 0, 1) := by decide +kernel
theorem dX3_countDoors_0 : decode cX3_countDoors 0 = .ok (.iconst 0, 1) := by decide +kernel
theorem dX3_countDoors_1 : decode cX3_countDoors 1 = .ok (.istore_n 1, 1) := by decide +kernel
theorem dX3_countDoors_2 : decode cX3_countDoors 2 = .ok (.iconst 0, 1) := by decide +kernel
theorem dX3_countDoors_3 : decode cX3_countDoors 3 = .ok (.istore_n 2, 1) := by decide +kernel
theorem dX3_countDoors_4 : decode cX3_countDoors 4 = .ok (.iload_n 2, 1) := by decide +kernel
theorem dX3_countDoors_5 : decode cX3_countDoors 5 = .ok (.aload_n 0, 1) := by decide +kernel
theorem dX3_countDoors_6 : decode cX3_countDoors 6 = .ok (.getfield 49, 3) := by decide +kernel
theorem dX3_countDoors_9 : decode cX3_countDoors 9 = .ok (.if_icmp .ge 21, 3) := by decide +kernel
theorem dX3_countDoors_30 : decode cX3_countDoors 30 = .ok (.iload_n 1, 1) := by decide +kernel
theorem dX3_countDoors_31 : decode cX3_countDoors 31 = .ok (.iconst 2, 1) := by decide +kernel
theorem dX3_countDoors_32 : decode cX3_countDoors 32 = .ok (.idiv, 1) := by decide +kernel
theorem dX3_countDoors_33 : decode cX3_countDoors 33 = .ok (.ireturn, 1) := by decide +kernel
theorem dX3_countDoors_12 : decode cX3_countDoors 12 = .ok (.iload_n 1, 1) := by decide +kernel
theorem dX3_countDoors_13 : decode cX3_countDoors 13 = .ok (.aload_n 0, 1) := by decide +kernel
theorem dX3_countDoors_14 : decode cX3_countDoors 14 = .ok (.getfield 21, 3) := by decide +kernel
theorem dX3_countDoors_17 : decode cX3_countDoors 17 = .ok (.iload_n 2, 1) := by decide +kernel
theorem dX3_countDoors_18 : decode cX3_countDoors 18 = .ok (.iaload, 1) := by decide +kernel
theorem dX3_countDoors_19 : decode cX3_countDoors 19 = .ok (.invokestatic 69, 3) := by decide +kernel
theorem dX3_countDoors_22 : decode cX3_countDoors 22 = .ok (.iadd, 1) := by decide +kernel
theorem dX3_countDoors_23 : decode cX3_countDoors 23 = .ok (.istore_n 1, 1) := by decide +kernel
theorem dX3_countDoors_24 : decode cX3_countDoors 24 = .ok (.iinc 2 1, 3) := by decide +kernel
theorem dX3_countDoors_27 : decode cX3_countDoors 27 = .ok (.goto (-23), 3) := by decide +kernel
theorem dX3_allRooms_0 : decode cX3_allRooms 0 = .ok (.iconst 1, 1) := by decide +kernel
theorem dX3_allRooms_1 : decode cX3_allRooms 1 = .ok (.aload_n 0, 1) := by decide +kernel
theorem dX3_allRooms_2 : decode cX3_allRooms 2 = .ok (.getfield 49, 3) := by decide +kernel
theorem dX3_allRooms_5 : decode cX3_allRooms 5 = .ok (.ishl, 1) := by decide +kernel
theorem dX3_allRooms_6 : decode cX3_allRooms 6 = .ok (.iconst 1, 1) := by decide +kernel
theorem dX3_allRooms_7 : decode cX3_allRooms 7 = .ok (.isub, 1) := by decide +kernel
theorem dX3_allRooms_8 : decode cX3_allRooms 8 = .ok (.ireturn, 1) := by decide +kernel
theorem dX3_spread_0 : decode cX3_spread 0 = .ok (.iload_n 1, 1) := by decide +kernel
theorem dX3_spread_1 : decode cX3_spread 1 = .ok (.istore_n 2, 1) := by decide +kernel
theorem dX3_spread_2 : decode cX3_spread 2 = .ok (.iconst 0, 1) := by decide +kernel
theorem dX3_spread_3 : decode cX3_spread 3 = .ok (.istore_n 3, 1) := by decide +kernel
theorem dX3_spread_4 : decode cX3_spread 4 = .ok (.iload_n 3, 1) := by decide +kernel
theorem dX3_spread_5 : decode cX3_spread 5 = .ok (.aload_n 0, 1) := by decide +kernel
theorem dX3_spread_6 : decode cX3_spread 6 = .ok (.getfield 49, 3) := by decide +kernel
theorem dX3_spread_9 : decode cX3_spread 9 = .ok (.if_icmp .ge 26, 3) := by decide +kernel
theorem dX3_spread_35 : decode cX3_spread 35 = .ok (.iload_n 2, 1) := by decide +kernel
theorem dX3_spread_36 : decode cX3_spread 36 = .ok (.ireturn, 1) := by decide +kernel
theorem dX3_spread_12 : decode cX3_spread 12 = .ok (.iload_n 1, 1) := by decide +kernel
theorem dX3_spread_13 : decode cX3_spread 13 = .ok (.iload_n 3, 1) := by decide +kernel
theorem dX3_spread_14 : decode cX3_spread 14 = .ok (.ishr, 1) := by decide +kernel
theorem dX3_spread_15 : decode cX3_spread 15 = .ok (.iconst 1, 1) := by decide +kernel
theorem dX3_spread_16 : decode cX3_spread 16 = .ok (.iand, 1) := by decide +kernel
theorem dX3_spread_29 : decode cX3_spread 29 = .ok (.iinc 3 1, 3) := by decide +kernel
theorem dX3_spread_32 : decode cX3_spread 32 = .ok (.goto (-28), 3) := by decide +kernel
theorem dX3_spread_17 : decode cX3_spread 17 = .ok (.ifCond .eq 12, 3) := by decide +kernel
theorem dX3_spread_20 : decode cX3_spread 20 = .ok (.iload_n 2, 1) := by decide +kernel
theorem dX3_spread_21 : decode cX3_spread 21 = .ok (.aload_n 0, 1) := by decide +kernel
theorem dX3_spread_22 : decode cX3_spread 22 = .ok (.getfield 21, 3) := by decide +kernel
theorem dX3_spread_25 : decode cX3_spread 25 = .ok (.iload_n 3, 1) := by decide +kernel
theorem dX3_spread_26 : decode cX3_spread 26 = .ok (.iaload, 1) := by decide +kernel
theorem dX3_spread_27 : decode cX3_spread 27 = .ok (.ior, 1) := by decide +kernel
theorem dX3_spread_28 : decode cX3_spread 28 = .ok (.istore_n 2, 1) := by decide +kernel
theorem dX3_heard_0 : decode cX3_heard 0 = .ok (.aload_n 0, 1) := by decide +kernel
theorem dX3_heard_1 : decode cX3_heard 1 = .ok (.iload_n 1, 1) := by decide +kernel
theorem dX3_heard_2 : decode cX3_heard 2 = .ok (.invokevirtual 61, 3) := by decide +kernel
theorem dX3_heard_5 : decode cX3_heard 5 = .ok (.ifCond .eq 7, 3) := by decide +kernel
theorem dX3_heard_12 : decode cX3_heard 12 = .ok (.iconst 0, 1) := by decide +kernel
theorem dX3_heard_13 : decode cX3_heard 13 = .ok (.ireturn, 1) := by decide +kernel
theorem dX3_heard_8 : decode cX3_heard 8 = .ok (.iload_n 2, 1) := by decide +kernel
theorem dX3_heard_9 : decode cX3_heard 9 = .ok (.ifCond .ge 5, 3) := by decide +kernel
theorem dX3_heard_14 : decode cX3_heard 14 = .ok (.bipush 100, 2) := by decide +kernel
theorem dX3_heard_16 : decode cX3_heard 16 = .ok (.bipush 100, 2) := by decide +kernel
theorem dX3_heard_18 : decode cX3_heard 18 = .ok (.aload_n 0, 1) := by decide +kernel
theorem dX3_heard_19 : decode cX3_heard 19 = .ok (.getfield 15, 3) := by decide +kernel
theorem dX3_heard_22 : decode cX3_heard 22 = .ok (.iload_n 1, 1) := by decide +kernel
theorem dX3_heard_23 : decode cX3_heard 23 = .ok (.iaload, 1) := by decide +kernel
theorem dX3_heard_24 : decode cX3_heard 24 = .ok (.isub, 1) := by decide +kernel
theorem dX3_heard_25 : decode cX3_heard 25 = .ok (.iload_n 2, 1) := by decide +kernel
theorem dX3_heard_26 : decode cX3_heard 26 = .ok (.iconst 1, 1) := by decide +kernel
theorem dX3_heard_27 : decode cX3_heard 27 = .ok (.iadd, 1) := by decide +kernel
theorem dX3_heard_28 : decode cX3_heard 28 = .ok (.idiv, 1) := by decide +kernel
theorem dX3_heard_29 : decode cX3_heard 29 = .ok (.isub, 1) := by decide +kernel
theorem dX3_heard_30 : decode cX3_heard 30 = .ok (.ireturn, 1) := by decide +kernel
theorem dX3_allSits_0 : decode cX3_allSits 0 = .ok (.iconst 0, 1) := by decide +kernel
theorem dX3_allSits_1 : decode cX3_allSits 1 = .ok (.istore_n 1, 1) := by decide +kernel
theorem dX3_allSits_2 : decode cX3_allSits 2 = .ok (.iconst 0, 1) := by decide +kernel
theorem dX3_allSits_3 : decode cX3_allSits 3 = .ok (.istore_n 2, 1) := by decide +kernel
theorem dX3_allSits_4 : decode cX3_allSits 4 = .ok (.iload_n 2, 1) := by decide +kernel
theorem dX3_allSits_5 : decode cX3_allSits 5 = .ok (.aload_n 0, 1) := by decide +kernel
theorem dX3_allSits_6 : decode cX3_allSits 6 = .ok (.getfield 49, 3) := by decide +kernel
theorem dX3_allSits_9 : decode cX3_allSits 9 = .ok (.if_icmp .ge 18, 3) := by decide +kernel
theorem dX3_allSits_27 : decode cX3_allSits 27 = .ok (.iload_n 1, 1) := by decide +kernel
theorem dX3_allSits_28 : decode cX3_allSits 28 = .ok (.ireturn, 1) := by decide +kernel
theorem dX3_allSits_12 : decode cX3_allSits 12 = .ok (.iload_n 1, 1) := by decide +kernel
theorem dX3_allSits_13 : decode cX3_allSits 13 = .ok (.aload_n 0, 1) := by decide +kernel
theorem dX3_allSits_14 : decode cX3_allSits 14 = .ok (.getfield 18, 3) := by decide +kernel
theorem dX3_allSits_17 : decode cX3_allSits 17 = .ok (.iload_n 2, 1) := by decide +kernel
theorem dX3_allSits_18 : decode cX3_allSits 18 = .ok (.iaload, 1) := by decide +kernel
theorem dX3_allSits_19 : decode cX3_allSits 19 = .ok (.iadd, 1) := by decide +kernel
theorem dX3_allSits_20 : decode cX3_allSits 20 = .ok (.istore_n 1, 1) := by decide +kernel
theorem dX3_allSits_21 : decode cX3_allSits 21 = .ok (.iinc 2 1, 3) := by decide +kernel
theorem dX3_allSits_24 : decode cX3_allSits 24 = .ok (.goto (-20), 3) := by decide +kernel
theorem dX3_whoSayYes_0 : decode cX3_whoSayYes 0 = .ok (.iconst 0, 1) := by decide +kernel
theorem dX3_whoSayYes_1 : decode cX3_whoSayYes 1 = .ok (.istore_n 3, 1) := by decide +kernel
theorem dX3_whoSayYes_2 : decode cX3_whoSayYes 2 = .ok (.iconst 0, 1) := by decide +kernel
theorem dX3_whoSayYes_3 : decode cX3_whoSayYes 3 = .ok (.istore 4, 2) := by decide +kernel
theorem dX3_whoSayYes_5 : decode cX3_whoSayYes 5 = .ok (.iload 4, 2) := by decide +kernel
theorem dX3_whoSayYes_7 : decode cX3_whoSayYes 7 = .ok (.aload_n 0, 1) := by decide +kernel
theorem dX3_whoSayYes_8 : decode cX3_whoSayYes 8 = .ok (.getfield 52, 3) := by decide +kernel
theorem dX3_whoSayYes_11 : decode cX3_whoSayYes 11 = .ok (.if_icmp .ge 39, 3) := by decide +kernel
theorem dX3_whoSayYes_50 : decode cX3_whoSayYes 50 = .ok (.iload_n 3, 1) := by decide +kernel
theorem dX3_whoSayYes_51 : decode cX3_whoSayYes 51 = .ok (.ireturn, 1) := by decide +kernel
theorem dX3_whoSayYes_14 : decode cX3_whoSayYes 14 = .ok (.iload_n 1, 1) := by decide +kernel
theorem dX3_whoSayYes_15 : decode cX3_whoSayYes 15 = .ok (.iload 4, 2) := by decide +kernel
theorem dX3_whoSayYes_17 : decode cX3_whoSayYes 17 = .ok (.ishr, 1) := by decide +kernel
theorem dX3_whoSayYes_18 : decode cX3_whoSayYes 18 = .ok (.iconst 1, 1) := by decide +kernel
theorem dX3_whoSayYes_19 : decode cX3_whoSayYes 19 = .ok (.iand, 1) := by decide +kernel
theorem dX3_whoSayYes_44 : decode cX3_whoSayYes 44 = .ok (.iinc 4 1, 3) := by decide +kernel
theorem dX3_whoSayYes_47 : decode cX3_whoSayYes 47 = .ok (.goto (-42), 3) := by decide +kernel
theorem dX3_whoSayYes_20 : decode cX3_whoSayYes 20 = .ok (.ifCond .eq 24, 3) := by decide +kernel
theorem dX3_whoSayYes_23 : decode cX3_whoSayYes 23 = .ok (.aload_n 0, 1) := by decide +kernel
theorem dX3_whoSayYes_24 : decode cX3_whoSayYes 24 = .ok (.getfield 27, 3) := by decide +kernel
theorem dX3_whoSayYes_27 : decode cX3_whoSayYes 27 = .ok (.iload 4, 2) := by decide +kernel
theorem dX3_whoSayYes_29 : decode cX3_whoSayYes 29 = .ok (.iaload, 1) := by decide +kernel
theorem dX3_whoSayYes_30 : decode cX3_whoSayYes 30 = .ok (.iload_n 2, 1) := by decide +kernel
theorem dX3_whoSayYes_31 : decode cX3_whoSayYes 31 = .ok (.ishr, 1) := by decide +kernel
theorem dX3_whoSayYes_32 : decode cX3_whoSayYes 32 = .ok (.iconst 1, 1) := by decide +kernel
theorem dX3_whoSayYes_33 : decode cX3_whoSayYes 33 = .ok (.iand, 1) := by decide +kernel
theorem dX3_whoSayYes_34 : decode cX3_whoSayYes 34 = .ok (.ifCond .eq 10, 3) := by decide +kernel
theorem dX3_whoSayYes_37 : decode cX3_whoSayYes 37 = .ok (.iload_n 3, 1) := by decide +kernel
theorem dX3_whoSayYes_38 : decode cX3_whoSayYes 38 = .ok (.iconst 1, 1) := by decide +kernel
theorem dX3_whoSayYes_39 : decode cX3_whoSayYes 39 = .ok (.iload 4, 2) := by decide +kernel
theorem dX3_whoSayYes_41 : decode cX3_whoSayYes 41 = .ok (.ishl, 1) := by decide +kernel
theorem dX3_whoSayYes_42 : decode cX3_whoSayYes 42 = .ok (.ior, 1) := by decide +kernel
theorem dX3_whoSayYes_43 : decode cX3_whoSayYes 43 = .ok (.istore_n 3, 1) := by decide +kernel
theorem dX3_clear_0 : decode cX3_clear 0 = .ok (.aload_n 0, 1) := by decide +kernel
theorem dX3_clear_1 : decode cX3_clear 1 = .ok (.iconst 0, 1) := by decide +kernel
theorem dX3_clear_2 : decode cX3_clear 2 = .ok (.putfield 33, 3) := by decide +kernel
theorem dX3_clear_5 : decode cX3_clear 5 = .ok (.aload_n 0, 1) := by decide +kernel
theorem dX3_clear_6 : decode cX3_clear 6 = .ok (.iconst 0, 1) := by decide +kernel
theorem dX3_clear_7 : decode cX3_clear 7 = .ok (.putfield 37, 3) := by decide +kernel
theorem dX3_clear_10 : decode cX3_clear 10 = .ok (.aload_n 0, 1) := by decide +kernel
theorem dX3_clear_11 : decode cX3_clear 11 = .ok (.iconst 0, 1) := by decide +kernel
theorem dX3_clear_12 : decode cX3_clear 12 = .ok (.putfield 40, 3) := by decide +kernel
theorem dX3_clear_15 : decode cX3_clear 15 = .ok (.aload_n 0, 1) := by decide +kernel
theorem dX3_clear_16 : decode cX3_clear 16 = .ok (.iconst 0, 1) := by decide +kernel
theorem dX3_clear_17 : decode cX3_clear 17 = .ok (.putfield 43, 3) := by decide +kernel
theorem dX3_clear_20 : decode cX3_clear 20 = .ok (.aload_n 0, 1) := by decide +kernel
theorem dX3_clear_21 : decode cX3_clear 21 = .ok (.iconst 0, 1) := by decide +kernel
theorem dX3_clear_22 : decode cX3_clear 22 = .ok (.putfield 46, 3) := by decide +kernel
theorem dX3_clear_25 : decode cX3_clear 25 = .ok (.aload_n 0, 1) := by decide +kernel
theorem dX3_clear_26 : decode cX3_clear 26 = .ok (.iconst 0, 1) := by decide +kernel
theorem dX3_clear_27 : decode cX3_clear 27 = .ok (.putfield 49, 3) := by decide +kernel
theorem dX3_clear_30 : decode cX3_clear 30 = .ok (.aload_n 0, 1) := by decide +kernel
theorem dX3_clear_31 : decode cX3_clear 31 = .ok (.iconst 0, 1) := by decide +kernel
theorem dX3_clear_32 : decode cX3_clear 32 = .ok (.putfield 52, 3) := by decide +kernel
theorem dX3_clear_35 : decode cX3_clear 35 = .ok (.return_, 1) := by decide +kernel
theorem dX3_copyFrom_0 : decode cX3_copyFrom 0 = .ok (.aload_n 0, 1) := by decide +kernel
theorem dX3_copyFrom_1 : decode cX3_copyFrom 1 = .ok (.aload_n 1, 1) := by decide +kernel
theorem dX3_copyFrom_2 : decode cX3_copyFrom 2 = .ok (.getfield 33, 3) := by decide +kernel
theorem dX3_copyFrom_5 : decode cX3_copyFrom 5 = .ok (.putfield 33, 3) := by decide +kernel
theorem dX3_copyFrom_8 : decode cX3_copyFrom 8 = .ok (.aload_n 0, 1) := by decide +kernel
theorem dX3_copyFrom_9 : decode cX3_copyFrom 9 = .ok (.aload_n 1, 1) := by decide +kernel
theorem dX3_copyFrom_10 : decode cX3_copyFrom 10 = .ok (.getfield 37, 3) := by decide +kernel
theorem dX3_copyFrom_13 : decode cX3_copyFrom 13 = .ok (.putfield 37, 3) := by decide +kernel
theorem dX3_copyFrom_16 : decode cX3_copyFrom 16 = .ok (.aload_n 0, 1) := by decide +kernel
theorem dX3_copyFrom_17 : decode cX3_copyFrom 17 = .ok (.aload_n 1, 1) := by decide +kernel
theorem dX3_copyFrom_18 : decode cX3_copyFrom 18 = .ok (.getfield 40, 3) := by decide +kernel
theorem dX3_copyFrom_21 : decode cX3_copyFrom 21 = .ok (.putfield 40, 3) := by decide +kernel
theorem dX3_copyFrom_24 : decode cX3_copyFrom 24 = .ok (.aload_n 0, 1) := by decide +kernel
theorem dX3_copyFrom_25 : decode cX3_copyFrom 25 = .ok (.aload_n 1, 1) := by decide +kernel
theorem dX3_copyFrom_26 : decode cX3_copyFrom 26 = .ok (.getfield 43, 3) := by decide +kernel
theorem dX3_copyFrom_29 : decode cX3_copyFrom 29 = .ok (.putfield 43, 3) := by decide +kernel
theorem dX3_copyFrom_32 : decode cX3_copyFrom 32 = .ok (.aload_n 0, 1) := by decide +kernel
theorem dX3_copyFrom_33 : decode cX3_copyFrom 33 = .ok (.aload_n 1, 1) := by decide +kernel
theorem dX3_copyFrom_34 : decode cX3_copyFrom 34 = .ok (.getfield 46, 3) := by decide +kernel
theorem dX3_copyFrom_37 : decode cX3_copyFrom 37 = .ok (.putfield 46, 3) := by decide +kernel
theorem dX3_copyFrom_40 : decode cX3_copyFrom 40 = .ok (.aload_n 0, 1) := by decide +kernel
theorem dX3_copyFrom_41 : decode cX3_copyFrom 41 = .ok (.aload_n 1, 1) := by decide +kernel
theorem dX3_copyFrom_42 : decode cX3_copyFrom 42 = .ok (.getfield 49, 3) := by decide +kernel
theorem dX3_copyFrom_45 : decode cX3_copyFrom 45 = .ok (.putfield 49, 3) := by decide +kernel
theorem dX3_copyFrom_48 : decode cX3_copyFrom 48 = .ok (.aload_n 0, 1) := by decide +kernel
theorem dX3_copyFrom_49 : decode cX3_copyFrom 49 = .ok (.aload_n 1, 1) := by decide +kernel
theorem dX3_copyFrom_50 : decode cX3_copyFrom 50 = .ok (.getfield 52, 3) := by decide +kernel
theorem dX3_copyFrom_53 : decode cX3_copyFrom 53 = .ok (.putfield 52, 3) := by decide +kernel
theorem dX3_copyFrom_56 : decode cX3_copyFrom 56 = .ok (.aload_n 1, 1) := by decide +kernel
theorem dX3_copyFrom_57 : decode cX3_copyFrom 57 = .ok (.getfield 9, 3) := by decide +kernel
theorem dX3_copyFrom_60 : decode cX3_copyFrom 60 = .ok (.iconst 0, 1) := by decide +kernel
theorem dX3_copyFrom_61 : decode cX3_copyFrom 61 = .ok (.aload_n 0, 1) := by decide +kernel
theorem dX3_copyFrom_62 : decode cX3_copyFrom 62 = .ok (.getfield 9, 3) := by decide +kernel
theorem dX3_copyFrom_65 : decode cX3_copyFrom 65 = .ok (.iconst 0, 1) := by decide +kernel
theorem dX3_copyFrom_66 : decode cX3_copyFrom 66 = .ok (.bipush 7, 2) := by decide +kernel
theorem dX3_copyFrom_68 : decode cX3_copyFrom 68 = .ok (.invokestatic 55, 3) := by decide +kernel
theorem dX3_copyFrom_71 : decode cX3_copyFrom 71 = .ok (.aload_n 1, 1) := by decide +kernel
theorem dX3_copyFrom_72 : decode cX3_copyFrom 72 = .ok (.getfield 15, 3) := by decide +kernel
theorem dX3_copyFrom_75 : decode cX3_copyFrom 75 = .ok (.iconst 0, 1) := by decide +kernel
theorem dX3_copyFrom_76 : decode cX3_copyFrom 76 = .ok (.aload_n 0, 1) := by decide +kernel
theorem dX3_copyFrom_77 : decode cX3_copyFrom 77 = .ok (.getfield 15, 3) := by decide +kernel
theorem dX3_copyFrom_80 : decode cX3_copyFrom 80 = .ok (.iconst 0, 1) := by decide +kernel
theorem dX3_copyFrom_81 : decode cX3_copyFrom 81 = .ok (.bipush 7, 2) := by decide +kernel
theorem dX3_copyFrom_83 : decode cX3_copyFrom 83 = .ok (.invokestatic 55, 3) := by decide +kernel
theorem dX3_copyFrom_86 : decode cX3_copyFrom 86 = .ok (.aload_n 1, 1) := by decide +kernel
theorem dX3_copyFrom_87 : decode cX3_copyFrom 87 = .ok (.getfield 18, 3) := by decide +kernel
theorem dX3_copyFrom_90 : decode cX3_copyFrom 90 = .ok (.iconst 0, 1) := by decide +kernel
theorem dX3_copyFrom_91 : decode cX3_copyFrom 91 = .ok (.aload_n 0, 1) := by decide +kernel
theorem dX3_copyFrom_92 : decode cX3_copyFrom 92 = .ok (.getfield 18, 3) := by decide +kernel
theorem dX3_copyFrom_95 : decode cX3_copyFrom 95 = .ok (.iconst 0, 1) := by decide +kernel
theorem dX3_copyFrom_96 : decode cX3_copyFrom 96 = .ok (.bipush 7, 2) := by decide +kernel
theorem dX3_copyFrom_98 : decode cX3_copyFrom 98 = .ok (.invokestatic 55, 3) := by decide +kernel
theorem dX3_copyFrom_101 : decode cX3_copyFrom 101 = .ok (.aload_n 1, 1) := by decide +kernel
theorem dX3_copyFrom_102 : decode cX3_copyFrom 102 = .ok (.getfield 21, 3) := by decide +kernel
theorem dX3_copyFrom_105 : decode cX3_copyFrom 105 = .ok (.iconst 0, 1) := by decide +kernel
theorem dX3_copyFrom_106 : decode cX3_copyFrom 106 = .ok (.aload_n 0, 1) := by decide +kernel
theorem dX3_copyFrom_107 : decode cX3_copyFrom 107 = .ok (.getfield 21, 3) := by decide +kernel
theorem dX3_copyFrom_110 : decode cX3_copyFrom 110 = .ok (.iconst 0, 1) := by decide +kernel
theorem dX3_copyFrom_111 : decode cX3_copyFrom 111 = .ok (.bipush 7, 2) := by decide +kernel
theorem dX3_copyFrom_113 : decode cX3_copyFrom 113 = .ok (.invokestatic 55, 3) := by decide +kernel
theorem dX3_copyFrom_116 : decode cX3_copyFrom 116 = .ok (.aload_n 1, 1) := by decide +kernel
theorem dX3_copyFrom_117 : decode cX3_copyFrom 117 = .ok (.getfield 24, 3) := by decide +kernel
theorem dX3_copyFrom_120 : decode cX3_copyFrom 120 = .ok (.iconst 0, 1) := by decide +kernel
theorem dX3_copyFrom_121 : decode cX3_copyFrom 121 = .ok (.aload_n 0, 1) := by decide +kernel
theorem dX3_copyFrom_122 : decode cX3_copyFrom 122 = .ok (.getfield 24, 3) := by decide +kernel
theorem dX3_copyFrom_125 : decode cX3_copyFrom 125 = .ok (.iconst 0, 1) := by decide +kernel
theorem dX3_copyFrom_126 : decode cX3_copyFrom 126 = .ok (.bipush 6, 2) := by decide +kernel
theorem dX3_copyFrom_128 : decode cX3_copyFrom 128 = .ok (.invokestatic 55, 3) := by decide +kernel
theorem dX3_copyFrom_131 : decode cX3_copyFrom 131 = .ok (.aload_n 1, 1) := by decide +kernel
theorem dX3_copyFrom_132 : decode cX3_copyFrom 132 = .ok (.getfield 27, 3) := by decide +kernel
theorem dX3_copyFrom_135 : decode cX3_copyFrom 135 = .ok (.iconst 0, 1) := by decide +kernel
theorem dX3_copyFrom_136 : decode cX3_copyFrom 136 = .ok (.aload_n 0, 1) := by decide +kernel
theorem dX3_copyFrom_137 : decode cX3_copyFrom 137 = .ok (.getfield 27, 3) := by decide +kernel
theorem dX3_copyFrom_140 : decode cX3_copyFrom 140 = .ok (.iconst 0, 1) := by decide +kernel
theorem dX3_copyFrom_141 : decode cX3_copyFrom 141 = .ok (.bipush 6, 2) := by decide +kernel
theorem dX3_copyFrom_143 : decode cX3_copyFrom 143 = .ok (.invokestatic 55, 3) := by decide +kernel
theorem dX3_copyFrom_146 : decode cX3_copyFrom 146 = .ok (.aload_n 1, 1) := by decide +kernel
theorem dX3_copyFrom_147 : decode cX3_copyFrom 147 = .ok (.getfield 30, 3) := by decide +kernel
theorem dX3_copyFrom_150 : decode cX3_copyFrom 150 = .ok (.iconst 0, 1) := by decide +kernel
theorem dX3_copyFrom_151 : decode cX3_copyFrom 151 = .ok (.aload_n 0, 1) := by decide +kernel
theorem dX3_copyFrom_152 : decode cX3_copyFrom 152 = .ok (.getfield 30, 3) := by decide +kernel
theorem dX3_copyFrom_155 : decode cX3_copyFrom 155 = .ok (.iconst 0, 1) := by decide +kernel
theorem dX3_copyFrom_156 : decode cX3_copyFrom 156 = .ok (.bipush 36, 2) := by decide +kernel
theorem dX3_copyFrom_158 : decode cX3_copyFrom 158 = .ok (.invokestatic 55, 3) := by decide +kernel
theorem dX3_copyFrom_161 : decode cX3_copyFrom 161 = .ok (.return_, 1) := by decide +kernel
theorem dX3_addRoom_0 : decode cX3_addRoom 0 = .ok (.aload_n 0, 1) := by decide +kernel
theorem dX3_addRoom_1 : decode cX3_addRoom 1 = .ok (.getfield 49, 3) := by decide +kernel
theorem dX3_addRoom_4 : decode cX3_addRoom 4 = .ok (.bipush 7, 2) := by decide +kernel
theorem dX3_addRoom_6 : decode cX3_addRoom 6 = .ok (.if_icmp .ge 53, 3) := by decide +kernel
theorem dX3_addRoom_59 : decode cX3_addRoom 59 = .ok (.return_, 1) := by decide +kernel
theorem dX3_addRoom_9 : decode cX3_addRoom 9 = .ok (.aload_n 0, 1) := by decide +kernel
theorem dX3_addRoom_10 : decode cX3_addRoom 10 = .ok (.getfield 9, 3) := by decide +kernel
theorem dX3_addRoom_13 : decode cX3_addRoom 13 = .ok (.aload_n 0, 1) := by decide +kernel
theorem dX3_addRoom_14 : decode cX3_addRoom 14 = .ok (.getfield 49, 3) := by decide +kernel
theorem dX3_addRoom_17 : decode cX3_addRoom 17 = .ok (.iload_n 1, 1) := by decide +kernel
theorem dX3_addRoom_18 : decode cX3_addRoom 18 = .ok (.iastore, 1) := by decide +kernel
theorem dX3_addRoom_19 : decode cX3_addRoom 19 = .ok (.aload_n 0, 1) := by decide +kernel
theorem dX3_addRoom_20 : decode cX3_addRoom 20 = .ok (.getfield 15, 3) := by decide +kernel
theorem dX3_addRoom_23 : decode cX3_addRoom 23 = .ok (.aload_n 0, 1) := by decide +kernel
theorem dX3_addRoom_24 : decode cX3_addRoom 24 = .ok (.getfield 49, 3) := by decide +kernel
theorem dX3_addRoom_27 : decode cX3_addRoom 27 = .ok (.iload_n 2, 1) := by decide +kernel
theorem dX3_addRoom_28 : decode cX3_addRoom 28 = .ok (.iastore, 1) := by decide +kernel
theorem dX3_addRoom_29 : decode cX3_addRoom 29 = .ok (.aload_n 0, 1) := by decide +kernel
theorem dX3_addRoom_30 : decode cX3_addRoom 30 = .ok (.getfield 18, 3) := by decide +kernel
theorem dX3_addRoom_33 : decode cX3_addRoom 33 = .ok (.aload_n 0, 1) := by decide +kernel
theorem dX3_addRoom_34 : decode cX3_addRoom 34 = .ok (.getfield 49, 3) := by decide +kernel
theorem dX3_addRoom_37 : decode cX3_addRoom 37 = .ok (.iload_n 3, 1) := by decide +kernel
theorem dX3_addRoom_38 : decode cX3_addRoom 38 = .ok (.iastore, 1) := by decide +kernel
theorem dX3_addRoom_39 : decode cX3_addRoom 39 = .ok (.aload_n 0, 1) := by decide +kernel
theorem dX3_addRoom_40 : decode cX3_addRoom 40 = .ok (.getfield 21, 3) := by decide +kernel
theorem dX3_addRoom_43 : decode cX3_addRoom 43 = .ok (.aload_n 0, 1) := by decide +kernel
theorem dX3_addRoom_44 : decode cX3_addRoom 44 = .ok (.getfield 49, 3) := by decide +kernel
theorem dX3_addRoom_47 : decode cX3_addRoom 47 = .ok (.iconst 0, 1) := by decide +kernel
theorem dX3_addRoom_48 : decode cX3_addRoom 48 = .ok (.iastore, 1) := by decide +kernel
theorem dX3_addRoom_49 : decode cX3_addRoom 49 = .ok (.aload_n 0, 1) := by decide +kernel
theorem dX3_addRoom_50 : decode cX3_addRoom 50 = .ok (.dup, 1) := by decide +kernel
theorem dX3_addRoom_51 : decode cX3_addRoom 51 = .ok (.getfield 49, 3) := by decide +kernel
theorem dX3_addRoom_54 : decode cX3_addRoom 54 = .ok (.iconst 1, 1) := by decide +kernel
theorem dX3_addRoom_55 : decode cX3_addRoom 55 = .ok (.iadd, 1) := by decide +kernel
theorem dX3_addRoom_56 : decode cX3_addRoom 56 = .ok (.putfield 49, 3) := by decide +kernel
theorem dX3_addMan_0 : decode cX3_addMan 0 = .ok (.aload_n 0, 1) := by decide +kernel
theorem dX3_addMan_1 : decode cX3_addMan 1 = .ok (.getfield 52, 3) := by decide +kernel
theorem dX3_addMan_4 : decode cX3_addMan 4 = .ok (.bipush 6, 2) := by decide +kernel
theorem dX3_addMan_6 : decode cX3_addMan 6 = .ok (.if_icmp .ge 97, 3) := by decide +kernel
theorem dX3_addMan_103 : decode cX3_addMan 103 = .ok (.return_, 1) := by decide +kernel
theorem dX3_addMan_9 : decode cX3_addMan 9 = .ok (.aload_n 0, 1) := by decide +kernel
theorem dX3_addMan_10 : decode cX3_addMan 10 = .ok (.getfield 24, 3) := by decide +kernel
theorem dX3_addMan_13 : decode cX3_addMan 13 = .ok (.aload_n 0, 1) := by decide +kernel
theorem dX3_addMan_14 : decode cX3_addMan 14 = .ok (.getfield 52, 3) := by decide +kernel
theorem dX3_addMan_17 : decode cX3_addMan 17 = .ok (.iload_n 1, 1) := by decide +kernel
theorem dX3_addMan_18 : decode cX3_addMan 18 = .ok (.iastore, 1) := by decide +kernel
theorem dX3_addMan_19 : decode cX3_addMan 19 = .ok (.aload_n 0, 1) := by decide +kernel
theorem dX3_addMan_20 : decode cX3_addMan 20 = .ok (.getfield 27, 3) := by decide +kernel
theorem dX3_addMan_23 : decode cX3_addMan 23 = .ok (.aload_n 0, 1) := by decide +kernel
theorem dX3_addMan_24 : decode cX3_addMan 24 = .ok (.getfield 52, 3) := by decide +kernel
theorem dX3_addMan_27 : decode cX3_addMan 27 = .ok (.iload_n 2, 1) := by decide +kernel
theorem dX3_addMan_28 : decode cX3_addMan 28 = .ok (.iastore, 1) := by decide +kernel
theorem dX3_addMan_29 : decode cX3_addMan 29 = .ok (.iconst 0, 1) := by decide +kernel
theorem dX3_addMan_30 : decode cX3_addMan 30 = .ok (.istore_n 3, 1) := by decide +kernel
theorem dX3_addMan_31 : decode cX3_addMan 31 = .ok (.iload_n 3, 1) := by decide +kernel
theorem dX3_addMan_32 : decode cX3_addMan 32 = .ok (.aload_n 0, 1) := by decide +kernel
theorem dX3_addMan_33 : decode cX3_addMan 33 = .ok (.getfield 52, 3) := by decide +kernel
theorem dX3_addMan_36 : decode cX3_addMan 36 = .ok (.if_icmp .gt 39, 3) := by decide +kernel
theorem dX3_addMan_75 : decode cX3_addMan 75 = .ok (.aload_n 0, 1) := by decide +kernel
theorem dX3_addMan_76 : decode cX3_addMan 76 = .ok (.getfield 30, 3) := by decide +kernel
theorem dX3_addMan_79 : decode cX3_addMan 79 = .ok (.aload_n 0, 1) := by decide +kernel
theorem dX3_addMan_80 : decode cX3_addMan 80 = .ok (.getfield 52, 3) := by decide +kernel
theorem dX3_addMan_83 : decode cX3_addMan 83 = .ok (.bipush 6, 2) := by decide +kernel
theorem dX3_addMan_85 : decode cX3_addMan 85 = .ok (.imul, 1) := by decide +kernel
theorem dX3_addMan_86 : decode cX3_addMan 86 = .ok (.aload_n 0, 1) := by decide +kernel
theorem dX3_addMan_87 : decode cX3_addMan 87 = .ok (.getfield 52, 3) := by decide +kernel
theorem dX3_addMan_90 : decode cX3_addMan 90 = .ok (.iadd, 1) := by decide +kernel
theorem dX3_addMan_91 : decode cX3_addMan 91 = .ok (.iconst 1, 1) := by decide +kernel
theorem dX3_addMan_92 : decode cX3_addMan 92 = .ok (.iastore, 1) := by decide +kernel
theorem dX3_addMan_93 : decode cX3_addMan 93 = .ok (.aload_n 0, 1) := by decide +kernel
theorem dX3_addMan_94 : decode cX3_addMan 94 = .ok (.dup, 1) := by decide +kernel
theorem dX3_addMan_95 : decode cX3_addMan 95 = .ok (.getfield 52, 3) := by decide +kernel
theorem dX3_addMan_98 : decode cX3_addMan 98 = .ok (.iconst 1, 1) := by decide +kernel
theorem dX3_addMan_99 : decode cX3_addMan 99 = .ok (.iadd, 1) := by decide +kernel
theorem dX3_addMan_100 : decode cX3_addMan 100 = .ok (.putfield 52, 3) := by decide +kernel
theorem dX3_addMan_39 : decode cX3_addMan 39 = .ok (.aload_n 0, 1) := by decide +kernel
theorem dX3_addMan_40 : decode cX3_addMan 40 = .ok (.getfield 30, 3) := by decide +kernel
theorem dX3_addMan_43 : decode cX3_addMan 43 = .ok (.aload_n 0, 1) := by decide +kernel
theorem dX3_addMan_44 : decode cX3_addMan 44 = .ok (.getfield 52, 3) := by decide +kernel
theorem dX3_addMan_47 : decode cX3_addMan 47 = .ok (.bipush 6, 2) := by decide +kernel
theorem dX3_addMan_49 : decode cX3_addMan 49 = .ok (.imul, 1) := by decide +kernel
theorem dX3_addMan_50 : decode cX3_addMan 50 = .ok (.iload_n 3, 1) := by decide +kernel
theorem dX3_addMan_51 : decode cX3_addMan 51 = .ok (.iadd, 1) := by decide +kernel
theorem dX3_addMan_52 : decode cX3_addMan 52 = .ok (.iconst 0, 1) := by decide +kernel
theorem dX3_addMan_53 : decode cX3_addMan 53 = .ok (.iastore, 1) := by decide +kernel
theorem dX3_addMan_54 : decode cX3_addMan 54 = .ok (.aload_n 0, 1) := by decide +kernel
theorem dX3_addMan_55 : decode cX3_addMan 55 = .ok (.getfield 30, 3) := by decide +kernel
theorem dX3_addMan_58 : decode cX3_addMan 58 = .ok (.iload_n 3, 1) := by decide +kernel
theorem dX3_addMan_59 : decode cX3_addMan 59 = .ok (.bipush 6, 2) := by decide +kernel
theorem dX3_addMan_61 : decode cX3_addMan 61 = .ok (.imul, 1) := by decide +kernel
theorem dX3_addMan_62 : decode cX3_addMan 62 = .ok (.aload_n 0, 1) := by decide +kernel
theorem dX3_addMan_63 : decode cX3_addMan 63 = .ok (.getfield 52, 3) := by decide +kernel
theorem dX3_addMan_66 : decode cX3_addMan 66 = .ok (.iadd, 1) := by decide +kernel
theorem dX3_addMan_67 : decode cX3_addMan 67 = .ok (.iconst 0, 1) := by decide +kernel
theorem dX3_addMan_68 : decode cX3_addMan 68 = .ok (.iastore, 1) := by decide +kernel
theorem dX3_addMan_69 : decode cX3_addMan 69 = .ok (.iinc 3 1, 3) := by decide +kernel
theorem dX3_addMan_72 : decode cX3_addMan 72 = .ok (.goto (-41), 3) := by decide +kernel
theorem dX3_tellSlate_0 : decode cX3_tellSlate 0 = .ok (.iload_n 1, 1) := by decide +kernel
theorem dX3_tellSlate_1 : decode cX3_tellSlate 1 = .ok (.ifCond .lt 35, 3) := by decide +kernel
theorem dX3_tellSlate_36 : decode cX3_tellSlate 36 = .ok (.return_, 1) := by decide +kernel
theorem dX3_tellSlate_4 : decode cX3_tellSlate 4 = .ok (.iload_n 1, 1) := by decide +kernel
theorem dX3_tellSlate_5 : decode cX3_tellSlate 5 = .ok (.aload_n 0, 1) := by decide +kernel
theorem dX3_tellSlate_6 : decode cX3_tellSlate 6 = .ok (.getfield 52, 3) := by decide +kernel
theorem dX3_tellSlate_9 : decode cX3_tellSlate 9 = .ok (.if_icmp .ge 27, 3) := by decide +kernel
theorem dX3_tellSlate_12 : decode cX3_tellSlate 12 = .ok (.iload_n 2, 1) := by decide +kernel
theorem dX3_tellSlate_13 : decode cX3_tellSlate 13 = .ok (.ifCond .lt 23, 3) := by decide +kernel
theorem dX3_tellSlate_16 : decode cX3_tellSlate 16 = .ok (.iload_n 2, 1) := by decide +kernel
theorem dX3_tellSlate_17 : decode cX3_tellSlate 17 = .ok (.aload_n 0, 1) := by decide +kernel
theorem dX3_tellSlate_18 : decode cX3_tellSlate 18 = .ok (.getfield 52, 3) := by decide +kernel
theorem dX3_tellSlate_21 : decode cX3_tellSlate 21 = .ok (.if_icmp .ge 15, 3) := by decide +kernel
theorem dX3_tellSlate_24 : decode cX3_tellSlate 24 = .ok (.aload_n 0, 1) := by decide +kernel
theorem dX3_tellSlate_25 : decode cX3_tellSlate 25 = .ok (.getfield 30, 3) := by decide +kernel
theorem dX3_tellSlate_28 : decode cX3_tellSlate 28 = .ok (.iload_n 1, 1) := by decide +kernel
theorem dX3_tellSlate_29 : decode cX3_tellSlate 29 = .ok (.bipush 6, 2) := by decide +kernel
theorem dX3_tellSlate_31 : decode cX3_tellSlate 31 = .ok (.imul, 1) := by decide +kernel
theorem dX3_tellSlate_32 : decode cX3_tellSlate 32 = .ok (.iload_n 2, 1) := by decide +kernel
theorem dX3_tellSlate_33 : decode cX3_tellSlate 33 = .ok (.iadd, 1) := by decide +kernel
theorem dX3_tellSlate_34 : decode cX3_tellSlate 34 = .ok (.iload_n 3, 1) := by decide +kernel
theorem dX3_tellSlate_35 : decode cX3_tellSlate 35 = .ok (.iastore, 1) := by decide +kernel
theorem dX3_openDoor_0 : decode cX3_openDoor 0 = .ok (.aload_n 0, 1) := by decide +kernel
theorem dX3_openDoor_1 : decode cX3_openDoor 1 = .ok (.iload_n 1, 1) := by decide +kernel
theorem dX3_openDoor_2 : decode cX3_openDoor 2 = .ok (.invokevirtual 61, 3) := by decide +kernel
theorem dX3_openDoor_5 : decode cX3_openDoor 5 = .ok (.ifCond .eq 35, 3) := by decide +kernel
theorem dX3_openDoor_40 : decode cX3_openDoor 40 = .ok (.return_, 1) := by decide +kernel
theorem dX3_openDoor_8 : decode cX3_openDoor 8 = .ok (.aload_n 0, 1) := by decide +kernel
theorem dX3_openDoor_9 : decode cX3_openDoor 9 = .ok (.iload_n 2, 1) := by decide +kernel
theorem dX3_openDoor_10 : decode cX3_openDoor 10 = .ok (.invokevirtual 61, 3) := by decide +kernel
theorem dX3_openDoor_13 : decode cX3_openDoor 13 = .ok (.ifCond .eq 27, 3) := by decide +kernel
theorem dX3_openDoor_16 : decode cX3_openDoor 16 = .ok (.aload_n 0, 1) := by decide +kernel
theorem dX3_openDoor_17 : decode cX3_openDoor 17 = .ok (.getfield 21, 3) := by decide +kernel
theorem dX3_openDoor_20 : decode cX3_openDoor 20 = .ok (.iload_n 1, 1) := by decide +kernel
theorem dX3_openDoor_21 : decode cX3_openDoor 21 = .ok (.dup2, 1) := by decide +kernel
theorem dX3_openDoor_22 : decode cX3_openDoor 22 = .ok (.iaload, 1) := by decide +kernel
theorem dX3_openDoor_23 : decode cX3_openDoor 23 = .ok (.iconst 1, 1) := by decide +kernel
theorem dX3_openDoor_24 : decode cX3_openDoor 24 = .ok (.iload_n 2, 1) := by decide +kernel
theorem dX3_openDoor_25 : decode cX3_openDoor 25 = .ok (.ishl, 1) := by decide +kernel
theorem dX3_openDoor_26 : decode cX3_openDoor 26 = .ok (.ior, 1) := by decide +kernel
theorem dX3_openDoor_27 : decode cX3_openDoor 27 = .ok (.iastore, 1) := by decide +kernel
theorem dX3_openDoor_28 : decode cX3_openDoor 28 = .ok (.aload_n 0, 1) := by decide +kernel
theorem dX3_openDoor_29 : decode cX3_openDoor 29 = .ok (.getfield 21, 3) := by decide +kernel
theorem dX3_openDoor_32 : decode cX3_openDoor 32 = .ok (.iload_n 2, 1) := by decide +kernel
theorem dX3_openDoor_33 : decode cX3_openDoor 33 = .ok (.dup2, 1) := by decide +kernel
theorem dX3_openDoor_34 : decode cX3_openDoor 34 = .ok (.iaload, 1) := by decide +kernel
theorem dX3_openDoor_35 : decode cX3_openDoor 35 = .ok (.iconst 1, 1) := by decide +kernel
theorem dX3_openDoor_36 : decode cX3_openDoor 36 = .ok (.iload_n 1, 1) := by decide +kernel
theorem dX3_openDoor_37 : decode cX3_openDoor 37 = .ok (.ishl, 1) := by decide +kernel
theorem dX3_openDoor_38 : decode cX3_openDoor 38 = .ok (.ior, 1) := by decide +kernel
theorem dX3_openDoor_39 : decode cX3_openDoor 39 = .ok (.iastore, 1) := by decide +kernel
theorem dX3_closeDoor_0 : decode cX3_closeDoor 0 = .ok (.aload_n 0, 1) := by decide +kernel
theorem dX3_closeDoor_1 : decode cX3_closeDoor 1 = .ok (.iload_n 1, 1) := by decide +kernel
theorem dX3_closeDoor_2 : decode cX3_closeDoor 2 = .ok (.invokevirtual 61, 3) := by decide +kernel
theorem dX3_closeDoor_5 : decode cX3_closeDoor 5 = .ok (.ifCond .eq 39, 3) := by decide +kernel
theorem dX3_closeDoor_44 : decode cX3_closeDoor 44 = .ok (.return_, 1) := by decide +kernel
theorem dX3_closeDoor_8 : decode cX3_closeDoor 8 = .ok (.aload_n 0, 1) := by decide +kernel
theorem dX3_closeDoor_9 : decode cX3_closeDoor 9 = .ok (.iload_n 2, 1) := by decide +kernel
theorem dX3_closeDoor_10 : decode cX3_closeDoor 10 = .ok (.invokevirtual 61, 3) := by decide +kernel
theorem dX3_closeDoor_13 : decode cX3_closeDoor 13 = .ok (.ifCond .eq 31, 3) := by decide +kernel
theorem dX3_closeDoor_16 : decode cX3_closeDoor 16 = .ok (.aload_n 0, 1) := by decide +kernel
theorem dX3_closeDoor_17 : decode cX3_closeDoor 17 = .ok (.getfield 21, 3) := by decide +kernel
theorem dX3_closeDoor_20 : decode cX3_closeDoor 20 = .ok (.iload_n 1, 1) := by decide +kernel
theorem dX3_closeDoor_21 : decode cX3_closeDoor 21 = .ok (.dup2, 1) := by decide +kernel
theorem dX3_closeDoor_22 : decode cX3_closeDoor 22 = .ok (.iaload, 1) := by decide +kernel
theorem dX3_closeDoor_23 : decode cX3_closeDoor 23 = .ok (.iconst 1, 1) := by decide +kernel
theorem dX3_closeDoor_24 : decode cX3_closeDoor 24 = .ok (.iload_n 2, 1) := by decide +kernel
theorem dX3_closeDoor_25 : decode cX3_closeDoor 25 = .ok (.ishl, 1) := by decide +kernel
theorem dX3_closeDoor_26 : decode cX3_closeDoor 26 = .ok (.iconst (-1), 1) := by decide +kernel
theorem dX3_closeDoor_27 : decode cX3_closeDoor 27 = .ok (.ixor, 1) := by decide +kernel
theorem dX3_closeDoor_28 : decode cX3_closeDoor 28 = .ok (.iand, 1) := by decide +kernel
theorem dX3_closeDoor_29 : decode cX3_closeDoor 29 = .ok (.iastore, 1) := by decide +kernel
theorem dX3_closeDoor_30 : decode cX3_closeDoor 30 = .ok (.aload_n 0, 1) := by decide +kernel
theorem dX3_closeDoor_31 : decode cX3_closeDoor 31 = .ok (.getfield 21, 3) := by decide +kernel
theorem dX3_closeDoor_34 : decode cX3_closeDoor 34 = .ok (.iload_n 2, 1) := by decide +kernel
theorem dX3_closeDoor_35 : decode cX3_closeDoor 35 = .ok (.dup2, 1) := by decide +kernel
theorem dX3_closeDoor_36 : decode cX3_closeDoor 36 = .ok (.iaload, 1) := by decide +kernel
theorem dX3_closeDoor_37 : decode cX3_closeDoor 37 = .ok (.iconst 1, 1) := by decide +kernel
theorem dX3_closeDoor_38 : decode cX3_closeDoor 38 = .ok (.iload_n 1, 1) := by decide +kernel
theorem dX3_closeDoor_39 : decode cX3_closeDoor 39 = .ok (.ishl, 1) := by decide +kernel
theorem dX3_closeDoor_40 : decode cX3_closeDoor 40 = .ok (.iconst (-1), 1) := by decide +kernel
theorem dX3_closeDoor_41 : decode cX3_closeDoor 41 = .ok (.ixor, 1) := by decide +kernel
theorem dX3_closeDoor_42 : decode cX3_closeDoor 42 = .ok (.iand, 1) := by decide +kernel
theorem dX3_closeDoor_43 : decode cX3_closeDoor 43 = .ok (.iastore, 1) := by decide +kernel
theorem dX8_copyFrom_0 : decode cX8_copyFrom 0 = .ok (.aload_n 0, 1) := by decide +kernel
theorem dX8_copyFrom_1 : decode cX8_copyFrom 1 = .ok (.getfield 12, 3) := by decide +kernel
theorem dX8_copyFrom_4 : decode cX8_copyFrom 4 = .ok (.aload_n 1, 1) := by decide +kernel
theorem dX8_copyFrom_5 : decode cX8_copyFrom 5 = .ok (.getfield 12, 3) := by decide +kernel
theorem dX8_copyFrom_8 : decode cX8_copyFrom 8 = .ok (.invokevirtual 22, 3) := by decide +kernel
theorem dX8_copyFrom_11 : decode cX8_copyFrom 11 = .ok (.aload_n 1, 1) := by decide +kernel
theorem dX8_copyFrom_12 : decode cX8_copyFrom 12 = .ok (.getfield 18, 3) := by decide +kernel
theorem dX8_copyFrom_15 : decode cX8_copyFrom 15 = .ok (.iconst 0, 1) := by decide +kernel
theorem dX8_copyFrom_16 : decode cX8_copyFrom 16 = .ok (.aload_n 0, 1) := by decide +kernel
theorem dX8_copyFrom_17 : decode cX8_copyFrom 17 = .ok (.getfield 18, 3) := by decide +kernel
theorem dX8_copyFrom_20 : decode cX8_copyFrom 20 = .ok (.iconst 0, 1) := by decide +kernel
theorem dX8_copyFrom_21 : decode cX8_copyFrom 21 = .ok (.bipush 60, 2) := by decide +kernel
theorem dX8_copyFrom_23 : decode cX8_copyFrom 23 = .ok (.invokestatic 26, 3) := by decide +kernel
theorem dX8_copyFrom_26 : decode cX8_copyFrom 26 = .ok (.aload_n 0, 1) := by decide +kernel
theorem dX8_copyFrom_27 : decode cX8_copyFrom 27 = .ok (.aload_n 1, 1) := by decide +kernel
theorem dX8_copyFrom_28 : decode cX8_copyFrom 28 = .ok (.getfield 32, 3) := by decide +kernel
theorem dX8_copyFrom_31 : decode cX8_copyFrom 31 = .ok (.putfield 32, 3) := by decide +kernel
theorem dX8_copyFrom_34 : decode cX8_copyFrom 34 = .ok (.return_, 1) := by decide +kernel
theorem dX7_make_0 : decode cX7_make 0 = .ok (.aload_n 0, 1) := by decide +kernel
theorem dX7_make_1 : decode cX7_make 1 = .ok (.iconst 1, 1) := by decide +kernel
theorem dX7_make_2 : decode cX7_make 2 = .ok (.putfield 15, 3) := by decide +kernel
theorem dX7_make_5 : decode cX7_make 5 = .ok (.aload_n 0, 1) := by decide +kernel
theorem dX7_make_6 : decode cX7_make 6 = .ok (.iload_n 1, 1) := by decide +kernel
theorem dX7_make_7 : decode cX7_make 7 = .ok (.putfield 19, 3) := by decide +kernel
theorem dX7_make_10 : decode cX7_make 10 = .ok (.aload_n 0, 1) := by decide +kernel
theorem dX7_make_11 : decode cX7_make 11 = .ok (.iload_n 2, 1) := by decide +kernel
theorem dX7_make_12 : decode cX7_make 12 = .ok (.putfield 23, 3) := by decide +kernel
theorem dX7_make_15 : decode cX7_make 15 = .ok (.aload_n 0, 1) := by decide +kernel
theorem dX7_make_16 : decode cX7_make 16 = .ok (.getfield 9, 3) := by decide +kernel
theorem dX7_make_19 : decode cX7_make 19 = .ok (.lconst 0, 1) := by decide +kernel
theorem dX7_make_20 : decode cX7_make 20 = .ok (.invokestatic 26, 3) := by decide +kernel
theorem dX7_make_23 : decode cX7_make 23 = .ok (.return_, 1) := by decide +kernel
theorem dX7_cut_0 : decode cX7_cut 0 = .ok (.aload_n 0, 1) := by decide +kernel
theorem dX7_cut_1 : decode cX7_cut 1 = .ok (.getfield 19, 3) := by decide +kernel
theorem dX7_cut_4 : decode cX7_cut 4 = .ok (.tableswitch 42 0 2 #[28, 33, 38], 28) := by decide +kernel
theorem dX7_cut_46 : decode cX7_cut 46 = .ok (.lload_n 1, 1) := by decide +kernel
theorem dX7_cut_47 : decode cX7_cut 47 = .ok (.lreturn, 1) := by decide +kernel
theorem dX7_cut_32 : decode cX7_cut 32 = .ok (.lload_n 1, 1) := by decide +kernel
theorem dX7_cut_33 : decode cX7_cut 33 = .ok (.l2i, 1) := by decide +kernel
theorem dX7_cut_34 : decode cX7_cut 34 = .ok (.i2b, 1) := by decide +kernel
theorem dX7_cut_35 : decode cX7_cut 35 = .ok (.i2l, 1) := by decide +kernel
theorem dX7_cut_36 : decode cX7_cut 36 = .ok (.lreturn, 1) := by decide +kernel
theorem dX7_cut_37 : decode cX7_cut 37 = .ok (.lload_n 1, 1) := by decide +kernel
theorem dX7_cut_38 : decode cX7_cut 38 = .ok (.l2i, 1) := by decide +kernel
theorem dX7_cut_39 : decode cX7_cut 39 = .ok (.i2s, 1) := by decide +kernel
theorem dX7_cut_40 : decode cX7_cut 40 = .ok (.i2l, 1) := by decide +kernel
theorem dX7_cut_41 : decode cX7_cut 41 = .ok (.lreturn, 1) := by decide +kernel
theorem dX7_cut_42 : decode cX7_cut 42 = .ok (.lload_n 1, 1) := by decide +kernel
theorem dX7_cut_43 : decode cX7_cut 43 = .ok (.l2i, 1) := by decide +kernel
theorem dX7_cut_44 : decode cX7_cut 44 = .ok (.i2l, 1) := by decide +kernel
theorem dX7_cut_45 : decode cX7_cut 45 = .ok (.lreturn, 1) := by decide +kernel
theorem dX7_holds_0 : decode cX7_holds 0 = .ok (.iload_n 1, 1) := by decide +kernel
theorem dX7_holds_1 : decode cX7_holds 1 = .ok (.ifCond .lt 25, 3) := by decide +kernel
theorem dX7_holds_26 : decode cX7_holds 26 = .ok (.iconst 0, 1) := by decide +kernel
theorem dX7_holds_27 : decode cX7_holds 27 = .ok (.ireturn, 1) := by decide +kernel
theorem dX7_holds_4 : decode cX7_holds 4 = .ok (.iload_n 2, 1) := by decide +kernel
theorem dX7_holds_5 : decode cX7_holds 5 = .ok (.ifCond .lt 21, 3) := by decide +kernel
theorem dX7_holds_8 : decode cX7_holds 8 = .ok (.iload_n 1, 1) := by decide +kernel
theorem dX7_holds_9 : decode cX7_holds 9 = .ok (.i2l, 1) := by decide +kernel
theorem dX7_holds_10 : decode cX7_holds 10 = .ok (.iload_n 2, 1) := by decide +kernel
theorem dX7_holds_11 : decode cX7_holds 11 = .ok (.i2l, 1) := by decide +kernel
theorem dX7_holds_12 : decode cX7_holds 12 = .ok (.ladd, 1) := by decide +kernel
theorem dX7_holds_13 : decode cX7_holds 13 = .ok (.aload_n 0, 1) := by decide +kernel
theorem dX7_holds_14 : decode cX7_holds 14 = .ok (.getfield 23, 3) := by decide +kernel
theorem dX7_holds_17 : decode cX7_holds 17 = .ok (.i2l, 1) := by decide +kernel
theorem dX7_holds_18 : decode cX7_holds 18 = .ok (.lcmp, 1) := by decide +kernel
theorem dX7_holds_19 : decode cX7_holds 19 = .ok (.ifCond .gt 7, 3) := by decide +kernel
theorem dX7_holds_22 : decode cX7_holds 22 = .ok (.iconst 1, 1) := by decide +kernel
theorem dX7_holds_23 : decode cX7_holds 23 = .ok (.goto 4, 3) := by decide +kernel
theorem dX7_isWithin_0 : decode cX7_isWithin 0 = .ok (.iconst 0, 1) := by decide +kernel
theorem dX7_isWithin_1 : decode cX7_isWithin 1 = .ok (.istore_n 3, 1) := by decide +kernel
theorem dX7_isWithin_2 : decode cX7_isWithin 2 = .ok (.iload_n 3, 1) := by decide +kernel
theorem dX7_isWithin_3 : decode cX7_isWithin 3 = .ok (.aload_n 0, 1) := by decide +kernel
theorem dX7_isWithin_4 : decode cX7_isWithin 4 = .ok (.getfield 23, 3) := by decide +kernel
theorem dX7_isWithin_7 : decode cX7_isWithin 7 = .ok (.if_icmp .ge 35, 3) := by decide +kernel
theorem dX7_isWithin_42 : decode cX7_isWithin 42 = .ok (.iconst 1, 1) := by decide +kernel
theorem dX7_isWithin_43 : decode cX7_isWithin 43 = .ok (.ireturn, 1) := by decide +kernel
theorem dX7_isWithin_10 : decode cX7_isWithin 10 = .ok (.aload_n 0, 1) := by decide +kernel
theorem dX7_isWithin_11 : decode cX7_isWithin 11 = .ok (.getfield 9, 3) := by decide +kernel
theorem dX7_isWithin_14 : decode cX7_isWithin 14 = .ok (.iload_n 3, 1) := by decide +kernel
theorem dX7_isWithin_15 : decode cX7_isWithin 15 = .ok (.laload, 1) := by decide +kernel
theorem dX7_isWithin_16 : decode cX7_isWithin 16 = .ok (.iload_n 1, 1) := by decide +kernel
theorem dX7_isWithin_17 : decode cX7_isWithin 17 = .ok (.i2l, 1) := by decide +kernel
theorem dX7_isWithin_18 : decode cX7_isWithin 18 = .ok (.lcmp, 1) := by decide +kernel
theorem dX7_isWithin_19 : decode cX7_isWithin 19 = .ok (.ifCond .lt 15, 3) := by decide +kernel
theorem dX7_isWithin_34 : decode cX7_isWithin 34 = .ok (.iconst 0, 1) := by decide +kernel
theorem dX7_isWithin_35 : decode cX7_isWithin 35 = .ok (.ireturn, 1) := by decide +kernel
theorem dX7_isWithin_22 : decode cX7_isWithin 22 = .ok (.aload_n 0, 1) := by decide +kernel
theorem dX7_isWithin_23 : decode cX7_isWithin 23 = .ok (.getfield 9, 3) := by decide +kernel
theorem dX7_isWithin_26 : decode cX7_isWithin 26 = .ok (.iload_n 3, 1) := by decide +kernel
theorem dX7_isWithin_27 : decode cX7_isWithin 27 = .ok (.laload, 1) := by decide +kernel
theorem dX7_isWithin_28 : decode cX7_isWithin 28 = .ok (.iload_n 2, 1) := by decide +kernel
theorem dX7_isWithin_29 : decode cX7_isWithin 29 = .ok (.i2l, 1) := by decide +kernel
theorem dX7_isWithin_30 : decode cX7_isWithin 30 = .ok (.lcmp, 1) := by decide +kernel
theorem dX7_isWithin_31 : decode cX7_isWithin 31 = .ok (.ifCond .le 5, 3) := by decide +kernel
theorem dX7_isWithin_36 : decode cX7_isWithin 36 = .ok (.iinc 3 1, 3) := by decide +kernel
theorem dX7_isWithin_39 : decode cX7_isWithin 39 = .ok (.goto (-37), 3) := by decide +kernel
theorem dX7_roomAt_0 : decode cX7_roomAt 0 = .ok (.iload_n 1, 1) := by decide +kernel
theorem dX7_roomAt_1 : decode cX7_roomAt 1 = .ok (.ifCond .lt 21, 3) := by decide +kernel
theorem dX7_roomAt_22 : decode cX7_roomAt 22 = .ok (.iconst (-1), 1) := by decide +kernel
theorem dX7_roomAt_23 : decode cX7_roomAt 23 = .ok (.ireturn, 1) := by decide +kernel
theorem dX7_roomAt_4 : decode cX7_roomAt 4 = .ok (.iload_n 1, 1) := by decide +kernel
theorem dX7_roomAt_5 : decode cX7_roomAt 5 = .ok (.aload_n 0, 1) := by decide +kernel
theorem dX7_roomAt_6 : decode cX7_roomAt 6 = .ok (.getfield 23, 3) := by decide +kernel
theorem dX7_roomAt_9 : decode cX7_roomAt 9 = .ok (.if_icmp .ge 13, 3) := by decide +kernel
theorem dX7_roomAt_12 : decode cX7_roomAt 12 = .ok (.aload_n 0, 1) := by decide +kernel
theorem dX7_roomAt_13 : decode cX7_roomAt 13 = .ok (.getfield 9, 3) := by decide +kernel
theorem dX7_roomAt_16 : decode cX7_roomAt 16 = .ok (.iload_n 1, 1) := by decide +kernel
theorem dX7_roomAt_17 : decode cX7_roomAt 17 = .ok (.laload, 1) := by decide +kernel
theorem dX7_roomAt_18 : decode cX7_roomAt 18 = .ok (.l2i, 1) := by decide +kernel
theorem dX7_roomAt_19 : decode cX7_roomAt 19 = .ok (.goto 4, 3) := by decide +kernel
theorem dX7_callCount_0 : decode cX7_callCount 0 = .ok (.iconst 0, 1) := by decide +kernel
theorem dX7_callCount_1 : decode cX7_callCount 1 = .ok (.istore_n 1, 1) := by decide +kernel
theorem dX7_callCount_2 : decode cX7_callCount 2 = .ok (.iconst 0, 1) := by decide +kernel
theorem dX7_callCount_3 : decode cX7_callCount 3 = .ok (.istore_n 2, 1) := by decide +kernel
theorem dX7_callCount_4 : decode cX7_callCount 4 = .ok (.iload_n 2, 1) := by decide +kernel
theorem dX7_callCount_5 : decode cX7_callCount 5 = .ok (.aload_n 0, 1) := by decide +kernel
theorem dX7_callCount_6 : decode cX7_callCount 6 = .ok (.getfield 23, 3) := by decide +kernel
theorem dX7_callCount_9 : decode cX7_callCount 9 = .ok (.if_icmp .ge 25, 3) := by decide +kernel
theorem dX7_callCount_34 : decode cX7_callCount 34 = .ok (.iload_n 1, 1) := by decide +kernel
theorem dX7_callCount_35 : decode cX7_callCount 35 = .ok (.ireturn, 1) := by decide +kernel
theorem dX7_callCount_12 : decode cX7_callCount 12 = .ok (.aload_n 0, 1) := by decide +kernel
theorem dX7_callCount_13 : decode cX7_callCount 13 = .ok (.getfield 9, 3) := by decide +kernel
theorem dX7_callCount_16 : decode cX7_callCount 16 = .ok (.iload_n 2, 1) := by decide +kernel
theorem dX7_callCount_17 : decode cX7_callCount 17 = .ok (.laload, 1) := by decide +kernel
theorem dX7_callCount_18 : decode cX7_callCount 18 = .ok (.ldc2_w 32, 3) := by decide +kernel
theorem dX7_callCount_21 : decode cX7_callCount 21 = .ok (.lcmp, 1) := by decide +kernel
theorem dX7_callCount_28 : decode cX7_callCount 28 = .ok (.iinc 2 1, 3) := by decide +kernel
theorem dX7_callCount_31 : decode cX7_callCount 31 = .ok (.goto (-27), 3) := by decide +kernel
theorem dX7_callCount_22 : decode cX7_callCount 22 = .ok (.ifCond .eq 6, 3) := by decide +kernel
theorem dX7_callCount_25 : decode cX7_callCount 25 = .ok (.iinc 1 1, 3) := by decide +kernel
theorem dX7_countOf_0 : decode cX7_countOf 0 = .ok (.iconst 0, 1) := by decide +kernel
theorem dX7_countOf_1 : decode cX7_countOf 1 = .ok (.istore_n 3, 1) := by decide +kernel
theorem dX7_countOf_2 : decode cX7_countOf 2 = .ok (.iconst 0, 1) := by decide +kernel
theorem dX7_countOf_3 : decode cX7_countOf 3 = .ok (.istore 4, 2) := by decide +kernel
theorem dX7_countOf_5 : decode cX7_countOf 5 = .ok (.iload 4, 2) := by decide +kernel
theorem dX7_countOf_7 : decode cX7_countOf 7 = .ok (.aload_n 0, 1) := by decide +kernel
theorem dX7_countOf_8 : decode cX7_countOf 8 = .ok (.getfield 23, 3) := by decide +kernel
theorem dX7_countOf_11 : decode cX7_countOf 11 = .ok (.if_icmp .ge 50, 3) := by decide +kernel
theorem dX7_countOf_61 : decode cX7_countOf 61 = .ok (.iload_n 3, 1) := by decide +kernel
theorem dX7_countOf_62 : decode cX7_countOf 62 = .ok (.ireturn, 1) := by decide +kernel
theorem dX7_countOf_14 : decode cX7_countOf 14 = .ok (.aload_n 0, 1) := by decide +kernel
theorem dX7_countOf_15 : decode cX7_countOf 15 = .ok (.getfield 9, 3) := by decide +kernel
theorem dX7_countOf_18 : decode cX7_countOf 18 = .ok (.iload 4, 2) := by decide +kernel
theorem dX7_countOf_20 : decode cX7_countOf 20 = .ok (.laload, 1) := by decide +kernel
theorem dX7_countOf_21 : decode cX7_countOf 21 = .ok (.iload_n 1, 1) := by decide +kernel
theorem dX7_countOf_22 : decode cX7_countOf 22 = .ok (.i2l, 1) := by decide +kernel
theorem dX7_countOf_23 : decode cX7_countOf 23 = .ok (.lcmp, 1) := by decide +kernel
theorem dX7_countOf_55 : decode cX7_countOf 55 = .ok (.iinc 4 1, 3) := by decide +kernel
theorem dX7_countOf_58 : decode cX7_countOf 58 = .ok (.goto (-53), 3) := by decide +kernel
theorem dX7_countOf_24 : decode cX7_countOf 24 = .ok (.ifCond .ne 31, 3) := by decide +kernel
theorem dX7_countOf_27 : decode cX7_countOf 27 = .ok (.iload_n 2, 1) := by decide +kernel
theorem dX7_countOf_28 : decode cX7_countOf 28 = .ok (.iconst (-1), 1) := by decide +kernel
theorem dX7_countOf_52 : decode cX7_countOf 52 = .ok (.iinc 3 1, 3) := by decide +kernel
theorem dX7_countOf_29 : decode cX7_countOf 29 = .ok (.if_icmp .eq 23, 3) := by decide +kernel
theorem dX7_countOf_32 : decode cX7_countOf 32 = .ok (.iload 4, 2) := by decide +kernel
theorem dX7_countOf_34 : decode cX7_countOf 34 = .ok (.ifCond .le 21, 3) := by decide +kernel
theorem dX7_countOf_37 : decode cX7_countOf 37 = .ok (.aload_n 0, 1) := by decide +kernel
theorem dX7_countOf_38 : decode cX7_countOf 38 = .ok (.getfield 9, 3) := by decide +kernel
theorem dX7_countOf_41 : decode cX7_countOf 41 = .ok (.iload 4, 2) := by decide +kernel
theorem dX7_countOf_43 : decode cX7_countOf 43 = .ok (.iconst 1, 1) := by decide +kernel
theorem dX7_countOf_44 : decode cX7_countOf 44 = .ok (.isub, 1) := by decide +kernel
theorem dX7_countOf_45 : decode cX7_countOf 45 = .ok (.laload, 1) := by decide +kernel
theorem dX7_countOf_46 : decode cX7_countOf 46 = .ok (.iload_n 2, 1) := by decide +kernel
theorem dX7_countOf_47 : decode cX7_countOf 47 = .ok (.i2l, 1) := by decide +kernel
theorem dX7_countOf_48 : decode cX7_countOf 48 = .ok (.lcmp, 1) := by decide +kernel
theorem dX7_countOf_49 : decode cX7_countOf 49 = .ok (.ifCond .ne 6, 3) := by decide +kernel
theorem dX7_comesAgain_0 : decode cX7_comesAgain 0 = .ok (.iconst 0, 1) := by decide +kernel
theorem dX7_comesAgain_1 : decode cX7_comesAgain 1 = .ok (.istore_n 2, 1) := by decide +kernel
theorem dX7_comesAgain_2 : decode cX7_comesAgain 2 = .ok (.iload_n 1, 1) := by decide +kernel
theorem dX7_comesAgain_3 : decode cX7_comesAgain 3 = .ok (.ifCond .lt 39, 3) := by decide +kernel
theorem dX7_comesAgain_6 : decode cX7_comesAgain 6 = .ok (.iload_n 2, 1) := by decide +kernel
theorem dX7_comesAgain_7 : decode cX7_comesAgain 7 = .ok (.iload_n 1, 1) := by decide +kernel
theorem dX7_comesAgain_8 : decode cX7_comesAgain 8 = .ok (.iadd, 1) := by decide +kernel
theorem dX7_comesAgain_9 : decode cX7_comesAgain 9 = .ok (.aload_n 0, 1) := by decide +kernel
theorem dX7_comesAgain_10 : decode cX7_comesAgain 10 = .ok (.getfield 23, 3) := by decide +kernel
theorem dX7_comesAgain_13 : decode cX7_comesAgain 13 = .ok (.if_icmp .ge 29, 3) := by decide +kernel
theorem dX7_comesAgain_42 : decode cX7_comesAgain 42 = .ok (.iconst 1, 1) := by decide +kernel
theorem dX7_comesAgain_43 : decode cX7_comesAgain 43 = .ok (.ireturn, 1) := by decide +kernel
theorem dX7_comesAgain_16 : decode cX7_comesAgain 16 = .ok (.aload_n 0, 1) := by decide +kernel
theorem dX7_comesAgain_17 : decode cX7_comesAgain 17 = .ok (.getfield 9, 3) := by decide +kernel
theorem dX7_comesAgain_20 : decode cX7_comesAgain 20 = .ok (.iload_n 2, 1) := by decide +kernel
theorem dX7_comesAgain_21 : decode cX7_comesAgain 21 = .ok (.laload, 1) := by decide +kernel
theorem dX7_comesAgain_22 : decode cX7_comesAgain 22 = .ok (.aload_n 0, 1) := by decide +kernel
theorem dX7_comesAgain_23 : decode cX7_comesAgain 23 = .ok (.getfield 9, 3) := by decide +kernel
theorem dX7_comesAgain_26 : decode cX7_comesAgain 26 = .ok (.iload_n 2, 1) := by decide +kernel
theorem dX7_comesAgain_27 : decode cX7_comesAgain 27 = .ok (.iload_n 1, 1) := by decide +kernel
theorem dX7_comesAgain_28 : decode cX7_comesAgain 28 = .ok (.iadd, 1) := by decide +kernel
theorem dX7_comesAgain_29 : decode cX7_comesAgain 29 = .ok (.laload, 1) := by decide +kernel
theorem dX7_comesAgain_30 : decode cX7_comesAgain 30 = .ok (.lcmp, 1) := by decide +kernel
theorem dX7_comesAgain_31 : decode cX7_comesAgain 31 = .ok (.ifCond .eq 5, 3) := by decide +kernel
theorem dX7_comesAgain_36 : decode cX7_comesAgain 36 = .ok (.iinc 2 1, 3) := by decide +kernel
theorem dX7_comesAgain_39 : decode cX7_comesAgain 39 = .ok (.goto (-37), 3) := by decide +kernel
theorem dX7_comesAgain_34 : decode cX7_comesAgain 34 = .ok (.iconst 0, 1) := by decide +kernel
theorem dX7_comesAgain_35 : decode cX7_comesAgain 35 = .ok (.ireturn, 1) := by decide +kernel
theorem dX5_of_0 : decode cX5_of 0 = .ok (.iload_n 1, 1) := by decide +kernel
theorem dX5_of_1 : decode cX5_of 1 = .ok (.ifCond .lt 18, 3) := by decide +kernel
theorem dX5_of_19 : decode cX5_of 19 = .ok (.aload_n 0, 1) := by decide +kernel
theorem dX5_of_20 : decode cX5_of 20 = .ok (.getfield 41, 3) := by decide +kernel
theorem dX5_of_23 : decode cX5_of 23 = .ok (.ireturn, 1) := by decide +kernel
theorem dX5_of_4 : decode cX5_of 4 = .ok (.iload_n 1, 1) := by decide +kernel
theorem dX5_of_5 : decode cX5_of 5 = .ok (.bipush 7, 2) := by decide +kernel
theorem dX5_of_7 : decode cX5_of 7 = .ok (.if_icmp .ge 12, 3) := by decide +kernel
theorem dX5_of_10 : decode cX5_of 10 = .ok (.aload_n 0, 1) := by decide +kernel
theorem dX5_of_11 : decode cX5_of 11 = .ok (.getfield 9, 3) := by decide +kernel
theorem dX5_of_14 : decode cX5_of 14 = .ok (.iload_n 1, 1) := by decide +kernel
theorem dX5_of_15 : decode cX5_of 15 = .ok (.iaload, 1) := by decide +kernel
theorem dX5_of_16 : decode cX5_of 16 = .ok (.goto 7, 3) := by decide +kernel
theorem dX5_chanceOf_0 : decode cX5_chanceOf 0 = .ok (.ldc 24, 2) := by decide +kernel
theorem dX5_chanceOf_2 : decode cX5_chanceOf 2 = .ok (.aload_n 0, 1) := by decide +kernel
theorem dX5_chanceOf_3 : decode cX5_chanceOf 3 = .ok (.getfield 44, 3) := by decide +kernel
theorem dX5_chanceOf_6 : decode cX5_chanceOf 6 = .ok (.isub, 1) := by decide +kernel
theorem dX5_chanceOf_7 : decode cX5_chanceOf 7 = .ok (.istore_n 2, 1) := by decide +kernel
theorem dX5_chanceOf_8 : decode cX5_chanceOf 8 = .ok (.iload_n 2, 1) := by decide +kernel
theorem dX5_chanceOf_9 : decode cX5_chanceOf 9 = .ok (.ifCond .gt 7, 3) := by decide +kernel
theorem dX5_chanceOf_16 : decode cX5_chanceOf 16 = .ok (.iload_n 1, 1) := by decide +kernel
theorem dX5_chanceOf_17 : decode cX5_chanceOf 17 = .ok (.i2l, 1) := by decide +kernel
theorem dX5_chanceOf_18 : decode cX5_chanceOf 18 = .ok (.ldc2_w 53, 3) := by decide +kernel
theorem dX5_chanceOf_21 : decode cX5_chanceOf 21 = .ok (.lmul, 1) := by decide +kernel
theorem dX5_chanceOf_22 : decode cX5_chanceOf 22 = .ok (.iload_n 2, 1) := by decide +kernel
theorem dX5_chanceOf_23 : decode cX5_chanceOf 23 = .ok (.i2l, 1) := by decide +kernel
theorem dX5_chanceOf_24 : decode cX5_chanceOf 24 = .ok (.ldiv, 1) := by decide +kernel
theorem dX5_chanceOf_25 : decode cX5_chanceOf 25 = .ok (.l2i, 1) := by decide +kernel
theorem dX5_chanceOf_26 : decode cX5_chanceOf 26 = .ok (.ireturn, 1) := by decide +kernel
theorem dX5_chanceOf_12 : decode cX5_chanceOf 12 = .ok (.iconst 0, 1) := by decide +kernel
theorem dX5_chanceOf_13 : decode cX5_chanceOf 13 = .ok (.goto 13, 3) := by decide +kernel
theorem dX5_chanceHere_0 : decode cX5_chanceHere 0 = .ok (.aload_n 0, 1) := by decide +kernel
theorem dX5_chanceHere_1 : decode cX5_chanceHere 1 = .ok (.ldc 24, 2) := by decide +kernel
theorem dX5_chanceHere_3 : decode cX5_chanceHere 3 = .ok (.aload_n 0, 1) := by decide +kernel
theorem dX5_chanceHere_4 : decode cX5_chanceHere 4 = .ok (.getfield 44, 3) := by decide +kernel
theorem dX5_chanceHere_7 : decode cX5_chanceHere 7 = .ok (.isub, 1) := by decide +kernel
theorem dX5_chanceHere_8 : decode cX5_chanceHere 8 = .ok (.aload_n 0, 1) := by decide +kernel
theorem dX5_chanceHere_9 : decode cX5_chanceHere 9 = .ok (.getfield 41, 3) := by decide +kernel
theorem dX5_chanceHere_12 : decode cX5_chanceHere 12 = .ok (.isub, 1) := by decide +kernel
theorem dX5_chanceHere_13 : decode cX5_chanceHere 13 = .ok (.invokevirtual 55, 3) := by decide +kernel
theorem dX5_chanceHere_16 : decode cX5_chanceHere 16 = .ok (.ireturn, 1) := by decide +kernel
theorem dX5_audible_0 : decode cX5_audible 0 = .ok (.iload_n 2, 1) := by decide +kernel
theorem dX5_audible_1 : decode cX5_audible 1 = .ok (.ifCond .lt 28, 3) := by decide +kernel
theorem dX5_audible_29 : decode cX5_audible 29 = .ok (.iconst 0, 1) := by decide +kernel
theorem dX5_audible_30 : decode cX5_audible 30 = .ok (.ireturn, 1) := by decide +kernel
theorem dX5_audible_4 : decode cX5_audible 4 = .ok (.iload_n 2, 1) := by decide +kernel
theorem dX5_audible_5 : decode cX5_audible 5 = .ok (.bipush 7, 2) := by decide +kernel
theorem dX5_audible_7 : decode cX5_audible 7 = .ok (.if_icmp .ge 22, 3) := by decide +kernel
theorem dX5_audible_10 : decode cX5_audible 10 = .ok (.aload_n 0, 1) := by decide +kernel
theorem dX5_audible_11 : decode cX5_audible 11 = .ok (.getfield 9, 3) := by decide +kernel
theorem dX5_audible_14 : decode cX5_audible 14 = .ok (.iload_n 2, 1) := by decide +kernel
theorem dX5_audible_15 : decode cX5_audible 15 = .ok (.iaload, 1) := by decide +kernel
theorem dX5_audible_16 : decode cX5_audible 16 = .ok (.aload_n 1, 1) := by decide +kernel
theorem dX5_audible_17 : decode cX5_audible 17 = .ok (.iload_n 2, 1) := by decide +kernel
theorem dX5_audible_18 : decode cX5_audible 18 = .ok (.iload_n 3, 1) := by decide +kernel
theorem dX5_audible_19 : decode cX5_audible 19 = .ok (.invokevirtual 59, 3) := by decide +kernel
theorem dX5_audible_22 : decode cX5_audible 22 = .ok (.imul, 1) := by decide +kernel
theorem dX5_audible_23 : decode cX5_audible 23 = .ok (.bipush 100, 2) := by decide +kernel
theorem dX5_audible_25 : decode cX5_audible 25 = .ok (.idiv, 1) := by decide +kernel
theorem dX5_audible_26 : decode cX5_audible 26 = .ok (.goto 4, 3) := by decide +kernel
theorem dX5_copyFrom_0 : decode cX5_copyFrom 0 = .ok (.aload_n 1, 1) := by decide +kernel
theorem dX5_copyFrom_1 : decode cX5_copyFrom 1 = .ok (.getfield 9, 3) := by decide +kernel
theorem dX5_copyFrom_4 : decode cX5_copyFrom 4 = .ok (.iconst 0, 1) := by decide +kernel
theorem dX5_copyFrom_5 : decode cX5_copyFrom 5 = .ok (.aload_n 0, 1) := by decide +kernel
theorem dX5_copyFrom_6 : decode cX5_copyFrom 6 = .ok (.getfield 9, 3) := by decide +kernel
theorem dX5_copyFrom_9 : decode cX5_copyFrom 9 = .ok (.iconst 0, 1) := by decide +kernel
theorem dX5_copyFrom_10 : decode cX5_copyFrom 10 = .ok (.bipush 7, 2) := by decide +kernel
theorem dX5_copyFrom_12 : decode cX5_copyFrom 12 = .ok (.invokestatic 47, 3) := by decide +kernel
theorem dX5_copyFrom_15 : decode cX5_copyFrom 15 = .ok (.aload_n 0, 1) := by decide +kernel
theorem dX5_copyFrom_16 : decode cX5_copyFrom 16 = .ok (.aload_n 1, 1) := by decide +kernel
theorem dX5_copyFrom_17 : decode cX5_copyFrom 17 = .ok (.getfield 41, 3) := by decide +kernel
theorem dX5_copyFrom_20 : decode cX5_copyFrom 20 = .ok (.putfield 41, 3) := by decide +kernel
theorem dX5_copyFrom_23 : decode cX5_copyFrom 23 = .ok (.aload_n 0, 1) := by decide +kernel
theorem dX5_copyFrom_24 : decode cX5_copyFrom 24 = .ok (.aload_n 1, 1) := by decide +kernel
theorem dX5_copyFrom_25 : decode cX5_copyFrom 25 = .ok (.getfield 44, 3) := by decide +kernel
theorem dX5_copyFrom_28 : decode cX5_copyFrom 28 = .ok (.putfield 44, 3) := by decide +kernel
theorem dX5_copyFrom_31 : decode cX5_copyFrom 31 = .ok (.return_, 1) := by decide +kernel
theorem dX5_begin_0 : decode cX5_begin 0 = .ok (.aload_n 1, 1) := by decide +kernel
theorem dX5_begin_1 : decode cX5_begin 1 = .ok (.invokevirtual 18, 3) := by decide +kernel
theorem dX5_begin_4 : decode cX5_begin 4 = .ok (.istore_n 2, 1) := by decide +kernel
theorem dX5_begin_5 : decode cX5_begin 5 = .ok (.ldc 24, 2) := by decide +kernel
theorem dX5_begin_7 : decode cX5_begin 7 = .ok (.istore_n 3, 1) := by decide +kernel
theorem dX5_begin_8 : decode cX5_begin 8 = .ok (.aload_n 0, 1) := by decide +kernel
theorem dX5_begin_9 : decode cX5_begin 9 = .ok (.getfield 9, 3) := by decide +kernel
theorem dX5_begin_12 : decode cX5_begin 12 = .ok (.iconst 0, 1) := by decide +kernel
theorem dX5_begin_13 : decode cX5_begin 13 = .ok (.invokestatic 25, 3) := by decide +kernel
theorem dX5_begin_16 : decode cX5_begin 16 = .ok (.iconst 0, 1) := by decide +kernel
theorem dX5_begin_17 : decode cX5_begin 17 = .ok (.istore 4, 2) := by decide +kernel
theorem dX5_begin_19 : decode cX5_begin 19 = .ok (.iload 4, 2) := by decide +kernel
theorem dX5_begin_21 : decode cX5_begin 21 = .ok (.aload_n 1, 1) := by decide +kernel
theorem dX5_begin_22 : decode cX5_begin 22 = .ok (.getfield 31, 3) := by decide +kernel
theorem dX5_begin_25 : decode cX5_begin 25 = .ok (.if_icmp .ge 52, 3) := by decide +kernel
theorem dX5_begin_77 : decode cX5_begin 77 = .ok (.aload_n 0, 1) := by decide +kernel
theorem dX5_begin_78 : decode cX5_begin 78 = .ok (.iload_n 3, 1) := by decide +kernel
theorem dX5_begin_79 : decode cX5_begin 79 = .ok (.putfield 41, 3) := by decide +kernel
theorem dX5_begin_82 : decode cX5_begin 82 = .ok (.aload_n 0, 1) := by decide +kernel
theorem dX5_begin_83 : decode cX5_begin 83 = .ok (.iconst 0, 1) := by decide +kernel
theorem dX5_begin_84 : decode cX5_begin 84 = .ok (.putfield 44, 3) := by decide +kernel
theorem dX5_begin_87 : decode cX5_begin 87 = .ok (.return_, 1) := by decide +kernel
theorem dX5_begin_28 : decode cX5_begin 28 = .ok (.aload_n 0, 1) := by decide +kernel
theorem dX5_begin_29 : decode cX5_begin 29 = .ok (.getfield 9, 3) := by decide +kernel
theorem dX5_begin_32 : decode cX5_begin 32 = .ok (.iload 4, 2) := by decide +kernel
theorem dX5_begin_34 : decode cX5_begin 34 = .ok (.iload_n 2, 1) := by decide +kernel
theorem dX5_begin_60 : decode cX5_begin 60 = .ok (.iastore, 1) := by decide +kernel
theorem dX5_begin_61 : decode cX5_begin 61 = .ok (.iload_n 3, 1) := by decide +kernel
theorem dX5_begin_62 : decode cX5_begin 62 = .ok (.aload_n 0, 1) := by decide +kernel
theorem dX5_begin_63 : decode cX5_begin 63 = .ok (.getfield 9, 3) := by decide +kernel
theorem dX5_begin_66 : decode cX5_begin 66 = .ok (.iload 4, 2) := by decide +kernel
theorem dX5_begin_68 : decode cX5_begin 68 = .ok (.iaload, 1) := by decide +kernel
theorem dX5_begin_69 : decode cX5_begin 69 = .ok (.isub, 1) := by decide +kernel
theorem dX5_begin_70 : decode cX5_begin 70 = .ok (.istore_n 3, 1) := by decide +kernel
theorem dX5_begin_71 : decode cX5_begin 71 = .ok (.iinc 4 1, 3) := by decide +kernel
theorem dX5_begin_74 : decode cX5_begin 74 = .ok (.goto (-55), 3) := by decide +kernel
theorem dX5_begin_35 : decode cX5_begin 35 = .ok (.ifCond .ne 7, 3) := by decide +kernel
theorem dX5_begin_42 : decode cX5_begin 42 = .ok (.aload_n 1, 1) := by decide +kernel
theorem dX5_begin_43 : decode cX5_begin 43 = .ok (.getfield 35, 3) := by decide +kernel
theorem dX5_begin_46 : decode cX5_begin 46 = .ok (.sipush 10000, 3) := by decide +kernel
theorem dX5_begin_49 : decode cX5_begin 49 = .ok (.imul, 1) := by decide +kernel
theorem dX5_begin_50 : decode cX5_begin 50 = .ok (.aload_n 1, 1) := by decide +kernel
theorem dX5_begin_51 : decode cX5_begin 51 = .ok (.getfield 38, 3) := by decide +kernel
theorem dX5_begin_54 : decode cX5_begin 54 = .ok (.iload 4, 2) := by decide +kernel
theorem dX5_begin_56 : decode cX5_begin 56 = .ok (.iaload, 1) := by decide +kernel
theorem dX5_begin_57 : decode cX5_begin 57 = .ok (.imul, 1) := by decide +kernel
theorem dX5_begin_58 : decode cX5_begin 58 = .ok (.iload_n 2, 1) := by decide +kernel
theorem dX5_begin_59 : decode cX5_begin 59 = .ok (.idiv, 1) := by decide +kernel
theorem dX5_begin_38 : decode cX5_begin 38 = .ok (.iconst 0, 1) := by decide +kernel
theorem dX5_begin_39 : decode cX5_begin 39 = .ok (.goto 21, 3) := by decide +kernel
theorem dX5_leave_0 : decode cX5_leave 0 = .ok (.aload_n 1, 1) := by decide +kernel
theorem dX5_leave_1 : decode cX5_leave 1 = .ok (.getfield 75, 3) := by decide +kernel
theorem dX5_leave_4 : decode cX5_leave 4 = .ok (.iload_n 2, 1) := by decide +kernel
theorem dX5_leave_5 : decode cX5_leave 5 = .ok (.iaload, 1) := by decide +kernel
theorem dX5_leave_6 : decode cX5_leave 6 = .ok (.istore_n 3, 1) := by decide +kernel
theorem dX5_leave_7 : decode cX5_leave 7 = .ok (.iload_n 3, 1) := by decide +kernel
theorem dX5_leave_8 : decode cX5_leave 8 = .ok (.invokestatic 78, 3) := by decide +kernel
theorem dX5_leave_11 : decode cX5_leave 11 = .ok (.istore 4, 2) := by decide +kernel
theorem dX5_leave_13 : decode cX5_leave 13 = .ok (.iload 4, 2) := by decide +kernel
theorem dX5_leave_39 : decode cX5_leave 39 = .ok (.istore 5, 2) := by decide +kernel
theorem dX5_leave_41 : decode cX5_leave 41 = .ok (.iload 5, 2) := by decide +kernel
theorem dX5_leave_43 : decode cX5_leave 43 = .ok (.ifCond .ne 4, 3) := by decide +kernel
theorem dX5_leave_47 : decode cX5_leave 47 = .ok (.iconst 0, 1) := by decide +kernel
theorem dX5_leave_48 : decode cX5_leave 48 = .ok (.istore 6, 2) := by decide +kernel
theorem dX5_leave_50 : decode cX5_leave 50 = .ok (.iload 6, 2) := by decide +kernel
theorem dX5_leave_52 : decode cX5_leave 52 = .ok (.aload_n 1, 1) := by decide +kernel
theorem dX5_leave_53 : decode cX5_leave 53 = .ok (.getfield 31, 3) := by decide +kernel
theorem dX5_leave_56 : decode cX5_leave 56 = .ok (.if_icmp .ge 30, 3) := by decide +kernel
theorem dX5_leave_86 : decode cX5_leave 86 = .ok (.aload_n 0, 1) := by decide +kernel
theorem dX5_leave_87 : decode cX5_leave 87 = .ok (.getfield 15, 3) := by decide +kernel
theorem dX5_leave_90 : decode cX5_leave 90 = .ok (.iload_n 2, 1) := by decide +kernel
theorem dX5_leave_91 : decode cX5_leave 91 = .ok (.dup2, 1) := by decide +kernel
theorem dX5_leave_92 : decode cX5_leave 92 = .ok (.iaload, 1) := by decide +kernel
theorem dX5_leave_93 : decode cX5_leave 93 = .ok (.iload 5, 2) := by decide +kernel
theorem dX5_leave_95 : decode cX5_leave 95 = .ok (.iload 4, 2) := by decide +kernel
theorem dX5_leave_97 : decode cX5_leave 97 = .ok (.imul, 1) := by decide +kernel
theorem dX5_leave_98 : decode cX5_leave 98 = .ok (.isub, 1) := by decide +kernel
theorem dX5_leave_99 : decode cX5_leave 99 = .ok (.iastore, 1) := by decide +kernel
theorem dX5_leave_100 : decode cX5_leave 100 = .ok (.return_, 1) := by decide +kernel
theorem dX5_leave_59 : decode cX5_leave 59 = .ok (.iload_n 3, 1) := by decide +kernel
theorem dX5_leave_60 : decode cX5_leave 60 = .ok (.iload 6, 2) := by decide +kernel
theorem dX5_leave_62 : decode cX5_leave 62 = .ok (.ishr, 1) := by decide +kernel
theorem dX5_leave_63 : decode cX5_leave 63 = .ok (.iconst 1, 1) := by decide +kernel
theorem dX5_leave_64 : decode cX5_leave 64 = .ok (.iand, 1) := by decide +kernel
theorem dX5_leave_80 : decode cX5_leave 80 = .ok (.iinc 6 1, 3) := by decide +kernel
theorem dX5_leave_83 : decode cX5_leave 83 = .ok (.goto (-33), 3) := by decide +kernel
theorem dX5_leave_65 : decode cX5_leave 65 = .ok (.ifCond .eq 15, 3) := by decide +kernel
theorem dX5_leave_68 : decode cX5_leave 68 = .ok (.aload_n 0, 1) := by decide +kernel
theorem dX5_leave_69 : decode cX5_leave 69 = .ok (.getfield 15, 3) := by decide +kernel
theorem dX5_leave_72 : decode cX5_leave 72 = .ok (.iload 6, 2) := by decide +kernel
theorem dX5_leave_74 : decode cX5_leave 74 = .ok (.dup2, 1) := by decide +kernel
theorem dX5_leave_75 : decode cX5_leave 75 = .ok (.iaload, 1) := by decide +kernel
theorem dX5_leave_76 : decode cX5_leave 76 = .ok (.iload 5, 2) := by decide +kernel
theorem dX5_leave_78 : decode cX5_leave 78 = .ok (.iadd, 1) := by decide +kernel
theorem dX5_leave_79 : decode cX5_leave 79 = .ok (.iastore, 1) := by decide +kernel
theorem dX5_leave_46 : decode cX5_leave 46 = .ok (.return_, 1) := by decide +kernel
theorem dX5_leave_15 : decode cX5_leave 15 = .ok (.ifCond .ne 7, 3) := by decide +kernel
theorem dX5_leave_22 : decode cX5_leave 22 = .ok (.aload_n 0, 1) := by decide +kernel
theorem dX5_leave_23 : decode cX5_leave 23 = .ok (.getfield 9, 3) := by decide +kernel
theorem dX5_leave_26 : decode cX5_leave 26 = .ok (.iload_n 2, 1) := by decide +kernel
theorem dX5_leave_27 : decode cX5_leave 27 = .ok (.iaload, 1) := by decide +kernel
theorem dX5_leave_28 : decode cX5_leave 28 = .ok (.aload_n 1, 1) := by decide +kernel
theorem dX5_leave_29 : decode cX5_leave 29 = .ok (.getfield 83, 3) := by decide +kernel
theorem dX5_leave_32 : decode cX5_leave 32 = .ok (.imul, 1) := by decide +kernel
theorem dX5_leave_33 : decode cX5_leave 33 = .ok (.bipush 100, 2) := by decide +kernel
theorem dX5_leave_35 : decode cX5_leave 35 = .ok (.idiv, 1) := by decide +kernel
theorem dX5_leave_36 : decode cX5_leave 36 = .ok (.iload 4, 2) := by decide +kernel
theorem dX5_leave_38 : decode cX5_leave 38 = .ok (.idiv, 1) := by decide +kernel
theorem dX5_leave_18 : decode cX5_leave 18 = .ok (.iconst 0, 1) := by decide +kernel
theorem dX5_leave_19 : decode cX5_leave 19 = .ok (.goto 20, 3) := by decide +kernel
theorem dX5_pass_0 : decode cX5_pass 0 = .ok (.aload_n 0, 1) := by decide +kernel
theorem dX5_pass_1 : decode cX5_pass 1 = .ok (.getfield 15, 3) := by decide +kernel
theorem dX5_pass_4 : decode cX5_pass 4 = .ok (.iconst 0, 1) := by decide +kernel
theorem dX5_pass_5 : decode cX5_pass 5 = .ok (.invokestatic 25, 3) := by decide +kernel
theorem dX5_pass_8 : decode cX5_pass 8 = .ok (.iconst 0, 1) := by decide +kernel
theorem dX5_pass_9 : decode cX5_pass 9 = .ok (.istore_n 3, 1) := by decide +kernel
theorem dX5_pass_10 : decode cX5_pass 10 = .ok (.iload_n 3, 1) := by decide +kernel
theorem dX5_pass_11 : decode cX5_pass 11 = .ok (.aload_n 1, 1) := by decide +kernel
theorem dX5_pass_12 : decode cX5_pass 12 = .ok (.getfield 31, 3) := by decide +kernel
theorem dX5_pass_15 : decode cX5_pass 15 = .ok (.if_icmp .ge 20, 3) := by decide +kernel
theorem dX5_pass_35 : decode cX5_pass 35 = .ok (.iconst 0, 1) := by decide +kernel
theorem dX5_pass_36 : decode cX5_pass 36 = .ok (.istore_n 3, 1) := by decide +kernel
theorem dX5_pass_37 : decode cX5_pass 37 = .ok (.iconst 0, 1) := by decide +kernel
theorem dX5_pass_38 : decode cX5_pass 38 = .ok (.istore 4, 2) := by decide +kernel
theorem dX5_pass_40 : decode cX5_pass 40 = .ok (.iload 4, 2) := by decide +kernel
theorem dX5_pass_42 : decode cX5_pass 42 = .ok (.aload_n 1, 1) := by decide +kernel
theorem dX5_pass_43 : decode cX5_pass 43 = .ok (.getfield 31, 3) := by decide +kernel
theorem dX5_pass_46 : decode cX5_pass 46 = .ok (.if_icmp .ge 46, 3) := by decide +kernel
theorem dX5_pass_92 : decode cX5_pass 92 = .ok (.iload_n 3, 1) := by decide +kernel
theorem dX5_pass_93 : decode cX5_pass 93 = .ok (.ireturn, 1) := by decide +kernel
theorem dX5_pass_49 : decode cX5_pass 49 = .ok (.aload_n 0, 1) := by decide +kernel
theorem dX5_pass_50 : decode cX5_pass 50 = .ok (.getfield 9, 3) := by decide +kernel
theorem dX5_pass_53 : decode cX5_pass 53 = .ok (.iload 4, 2) := by decide +kernel
theorem dX5_pass_55 : decode cX5_pass 55 = .ok (.dup2, 1) := by decide +kernel
theorem dX5_pass_56 : decode cX5_pass 56 = .ok (.iaload, 1) := by decide +kernel
theorem dX5_pass_57 : decode cX5_pass 57 = .ok (.aload_n 0, 1) := by decide +kernel
theorem dX5_pass_58 : decode cX5_pass 58 = .ok (.getfield 15, 3) := by decide +kernel
theorem dX5_pass_61 : decode cX5_pass 61 = .ok (.iload 4, 2) := by decide +kernel
theorem dX5_pass_63 : decode cX5_pass 63 = .ok (.iaload, 1) := by decide +kernel
theorem dX5_pass_64 : decode cX5_pass 64 = .ok (.iadd, 1) := by decide +kernel
theorem dX5_pass_65 : decode cX5_pass 65 = .ok (.iastore, 1) := by decide +kernel
theorem dX5_pass_66 : decode cX5_pass 66 = .ok (.iload_n 3, 1) := by decide +kernel
theorem dX5_pass_85 : decode cX5_pass 85 = .ok (.istore_n 3, 1) := by decide +kernel
theorem dX5_pass_86 : decode cX5_pass 86 = .ok (.iinc 4 1, 3) := by decide +kernel
theorem dX5_pass_89 : decode cX5_pass 89 = .ok (.goto (-49), 3) := by decide +kernel
theorem dX5_pass_80 : decode cX5_pass 80 = .ok (.iconst 1, 1) := by decide +kernel
theorem dX5_pass_81 : decode cX5_pass 81 = .ok (.goto 4, 3) := by decide +kernel
theorem dX5_pass_67 : decode cX5_pass 67 = .ok (.ifCond .ne 13, 3) := by decide +kernel
theorem dX5_pass_70 : decode cX5_pass 70 = .ok (.aload_n 0, 1) := by decide +kernel
theorem dX5_pass_71 : decode cX5_pass 71 = .ok (.getfield 15, 3) := by decide +kernel
theorem dX5_pass_74 : decode cX5_pass 74 = .ok (.iload 4, 2) := by decide +kernel
theorem dX5_pass_76 : decode cX5_pass 76 = .ok (.iaload, 1) := by decide +kernel
theorem dX5_pass_77 : decode cX5_pass 77 = .ok (.ifCond .eq 7, 3) := by decide +kernel
theorem dX5_pass_84 : decode cX5_pass 84 = .ok (.iconst 0, 1) := by decide +kernel
theorem dX5_pass_18 : decode cX5_pass 18 = .ok (.iload_n 3, 1) := by decide +kernel
theorem dX5_pass_19 : decode cX5_pass 19 = .ok (.iload_n 2, 1) := by decide +kernel
theorem dX5_pass_29 : decode cX5_pass 29 = .ok (.iinc 3 1, 3) := by decide +kernel
theorem dX5_pass_32 : decode cX5_pass 32 = .ok (.goto (-22), 3) := by decide +kernel
theorem dX5_pass_20 : decode cX5_pass 20 = .ok (.if_icmp .eq 9, 3) := by decide +kernel
theorem dX5_pass_23 : decode cX5_pass 23 = .ok (.aload_n 0, 1) := by decide +kernel
theorem dX5_pass_24 : decode cX5_pass 24 = .ok (.aload_n 1, 1) := by decide +kernel
theorem dX5_pass_25 : decode cX5_pass 25 = .ok (.iload_n 3, 1) := by decide +kernel
theorem dX5_pass_26 : decode cX5_pass 26 = .ok (.invokevirtual 71, 3) := by decide +kernel
theorem dX5_live_0 : decode cX5_live 0 = .ok (.aload_n 0, 1) := by decide +kernel
theorem dX5_live_1 : decode cX5_live 1 = .ok (.aload_n 1, 1) := by decide +kernel
theorem dX5_live_2 : decode cX5_live 2 = .ok (.iload_n 2, 1) := by decide +kernel
theorem dX5_live_3 : decode cX5_live 3 = .ok (.iload_n 3, 1) := by decide +kernel
theorem dX5_live_4 : decode cX5_live 4 = .ok (.invokevirtual 63, 3) := by decide +kernel
theorem dX5_live_7 : decode cX5_live 7 = .ok (.istore 4, 2) := by decide +kernel
theorem dX5_live_9 : decode cX5_live 9 = .ok (.iload 4, 2) := by decide +kernel
theorem dX5_live_36 : decode cX5_live 36 = .ok (.aload_n 0, 1) := by decide +kernel
theorem dX5_live_37 : decode cX5_live 37 = .ok (.aload_n 1, 1) := by decide +kernel
theorem dX5_live_38 : decode cX5_live 38 = .ok (.iconst (-1), 1) := by decide +kernel
theorem dX5_live_39 : decode cX5_live 39 = .ok (.invokevirtual 67, 3) := by decide +kernel
theorem dX5_live_42 : decode cX5_live 42 = .ok (.pop, 1) := by decide +kernel
theorem dX5_live_43 : decode cX5_live 43 = .ok (.iload 4, 2) := by decide +kernel
theorem dX5_live_45 : decode cX5_live 45 = .ok (.ireturn, 1) := by decide +kernel
theorem dX5_live_11 : decode cX5_live 11 = .ok (.ifCond .le 25, 3) := by decide +kernel
theorem dX5_live_14 : decode cX5_live 14 = .ok (.aload_n 0, 1) := by decide +kernel
theorem dX5_live_15 : decode cX5_live 15 = .ok (.getfield 9, 3) := by decide +kernel
theorem dX5_live_18 : decode cX5_live 18 = .ok (.iload_n 2, 1) := by decide +kernel
theorem dX5_live_19 : decode cX5_live 19 = .ok (.dup2, 1) := by decide +kernel
theorem dX5_live_20 : decode cX5_live 20 = .ok (.iaload, 1) := by decide +kernel
theorem dX5_live_21 : decode cX5_live 21 = .ok (.iload 4, 2) := by decide +kernel
theorem dX5_live_23 : decode cX5_live 23 = .ok (.isub, 1) := by decide +kernel
theorem dX5_live_24 : decode cX5_live 24 = .ok (.iastore, 1) := by decide +kernel
theorem dX5_live_25 : decode cX5_live 25 = .ok (.aload_n 0, 1) := by decide +kernel
theorem dX5_live_26 : decode cX5_live 26 = .ok (.dup, 1) := by decide +kernel
theorem dX5_live_27 : decode cX5_live 27 = .ok (.getfield 44, 3) := by decide +kernel
theorem dX5_live_30 : decode cX5_live 30 = .ok (.iload 4, 2) := by decide +kernel
theorem dX5_live_32 : decode cX5_live 32 = .ok (.iadd, 1) := by decide +kernel
theorem dX5_live_33 : decode cX5_live 33 = .ok (.putfield 44, 3) := by decide +kernel
theorem dX9_push_0 : decode cX9_push 0 = .ok (.bipush 24, 2) := by decide +kernel
theorem dX9_push_2 : decode cX9_push 2 = .ok (.istore_n 2, 1) := by decide +kernel
theorem dX9_push_3 : decode cX9_push 3 = .ok (.iload_n 2, 1) := by decide +kernel
theorem dX9_push_4 : decode cX9_push 4 = .ok (.ifCond .lt 42, 3) := by decide +kernel
theorem dX9_push_46 : decode cX9_push 46 = .ok (.return_, 1) := by decide +kernel
theorem dX9_push_7 : decode cX9_push 7 = .ok (.aload_n 0, 1) := by decide +kernel
theorem dX9_push_8 : decode cX9_push 8 = .ok (.getfield 15, 3) := by decide +kernel
theorem dX9_push_11 : decode cX9_push 11 = .ok (.sipush 900, 3) := by decide +kernel
theorem dX9_push_14 : decode cX9_push 14 = .ok (.if_icmp .ge 32, 3) := by decide +kernel
theorem dX9_push_17 : decode cX9_push 17 = .ok (.aload_n 0, 1) := by decide +kernel
theorem dX9_push_18 : decode cX9_push 18 = .ok (.getfield 9, 3) := by decide +kernel
theorem dX9_push_21 : decode cX9_push 21 = .ok (.aload_n 0, 1) := by decide +kernel
theorem dX9_push_22 : decode cX9_push 22 = .ok (.getfield 15, 3) := by decide +kernel
theorem dX9_push_25 : decode cX9_push 25 = .ok (.iload_n 1, 1) := by decide +kernel
theorem dX9_push_26 : decode cX9_push 26 = .ok (.iload_n 2, 1) := by decide +kernel
theorem dX9_push_27 : decode cX9_push 27 = .ok (.ishr, 1) := by decide +kernel
theorem dX9_push_28 : decode cX9_push 28 = .ok (.i2b, 1) := by decide +kernel
theorem dX9_push_29 : decode cX9_push 29 = .ok (.bastore, 1) := by decide +kernel
theorem dX9_push_30 : decode cX9_push 30 = .ok (.aload_n 0, 1) := by decide +kernel
theorem dX9_push_31 : decode cX9_push 31 = .ok (.dup, 1) := by decide +kernel
theorem dX9_push_32 : decode cX9_push 32 = .ok (.getfield 15, 3) := by decide +kernel
theorem dX9_push_35 : decode cX9_push 35 = .ok (.iconst 1, 1) := by decide +kernel
theorem dX9_push_36 : decode cX9_push 36 = .ok (.iadd, 1) := by decide +kernel
theorem dX9_push_37 : decode cX9_push 37 = .ok (.putfield 15, 3) := by decide +kernel
theorem dX9_push_40 : decode cX9_push 40 = .ok (.iinc 2 (-8), 3) := by decide +kernel
theorem dX9_push_43 : decode cX9_push 43 = .ok (.goto (-40), 3) := by decide +kernel
theorem dX9_at_0 : decode cX9_at 0 = .ok (.iload_n 1, 1) := by decide +kernel
theorem dX9_at_1 : decode cX9_at 1 = .ok (.ifCond .lt 24, 3) := by decide +kernel
theorem dX9_at_25 : decode cX9_at 25 = .ok (.iconst 0, 1) := by decide +kernel
theorem dX9_at_26 : decode cX9_at 26 = .ok (.ireturn, 1) := by decide +kernel
theorem dX9_at_4 : decode cX9_at 4 = .ok (.iload_n 1, 1) := by decide +kernel
theorem dX9_at_5 : decode cX9_at 5 = .ok (.aload_n 0, 1) := by decide +kernel
theorem dX9_at_6 : decode cX9_at 6 = .ok (.getfield 15, 3) := by decide +kernel
theorem dX9_at_9 : decode cX9_at 9 = .ok (.if_icmp .ge 16, 3) := by decide +kernel
theorem dX9_at_12 : decode cX9_at 12 = .ok (.aload_n 0, 1) := by decide +kernel
theorem dX9_at_13 : decode cX9_at 13 = .ok (.getfield 9, 3) := by decide +kernel
theorem dX9_at_16 : decode cX9_at 16 = .ok (.iload_n 1, 1) := by decide +kernel
theorem dX9_at_17 : decode cX9_at 17 = .ok (.baload, 1) := by decide +kernel
theorem dX9_at_18 : decode cX9_at 18 = .ok (.sipush 255, 3) := by decide +kernel
theorem dX9_at_21 : decode cX9_at 21 = .ok (.iand, 1) := by decide +kernel
theorem dX9_at_22 : decode cX9_at 22 = .ok (.goto 4, 3) := by decide +kernel
theorem dX6_isBlank_0 : decode cX6_isBlank 0 = .ok (.iload_n 1, 1) := by decide +kernel
theorem dX6_isBlank_1 : decode cX6_isBlank 1 = .ok (.bipush 32, 2) := by decide +kernel
theorem dX6_isBlank_3 : decode cX6_isBlank 3 = .ok (.if_icmp .eq 9, 3) := by decide +kernel
theorem dX6_isBlank_12 : decode cX6_isBlank 12 = .ok (.iconst 1, 1) := by decide +kernel
theorem dX6_isBlank_13 : decode cX6_isBlank 13 = .ok (.goto 4, 3) := by decide +kernel
theorem dX6_isBlank_17 : decode cX6_isBlank 17 = .ok (.ireturn, 1) := by decide +kernel
theorem dX6_isBlank_6 : decode cX6_isBlank 6 = .ok (.iload_n 1, 1) := by decide +kernel
theorem dX6_isBlank_7 : decode cX6_isBlank 7 = .ok (.bipush 10, 2) := by decide +kernel
theorem dX6_isBlank_9 : decode cX6_isBlank 9 = .ok (.if_icmp .ne 7, 3) := by decide +kernel
theorem dX6_isBlank_16 : decode cX6_isBlank 16 = .ok (.iconst 0, 1) := by decide +kernel
theorem dX6_kindOf_0 : decode cX6_kindOf 0 = .ok (.iload_n 1, 1) := by decide +kernel
theorem dX6_kindOf_1 : decode cX6_kindOf 1 = .ok (.bipush 97, 2) := by decide +kernel
theorem dX6_kindOf_14 : decode cX6_kindOf 14 = .ok (.iload_n 1, 1) := by decide +kernel
theorem dX6_kindOf_15 : decode cX6_kindOf 15 = .ok (.bipush 48, 2) := by decide +kernel
theorem dX6_kindOf_28 : decode cX6_kindOf 28 = .ok (.iload_n 1, 1) := by decide +kernel
theorem dX6_kindOf_29 : decode cX6_kindOf 29 = .ok (.bipush 59, 2) := by decide +kernel
theorem dX6_kindOf_31 : decode cX6_kindOf 31 = .ok (.if_icmp .ne 7, 3) := by decide +kernel
theorem dX6_kindOf_38 : decode cX6_kindOf 38 = .ok (.iconst 4, 1) := by decide +kernel
theorem dX6_kindOf_39 : decode cX6_kindOf 39 = .ok (.ireturn, 1) := by decide +kernel
theorem dX6_kindOf_34 : decode cX6_kindOf 34 = .ok (.iconst 3, 1) := by decide +kernel
theorem dX6_kindOf_35 : decode cX6_kindOf 35 = .ok (.goto 4, 3) := by decide +kernel
theorem dX6_kindOf_17 : decode cX6_kindOf 17 = .ok (.if_icmp .lt 11, 3) := by decide +kernel
theorem dX6_kindOf_20 : decode cX6_kindOf 20 = .ok (.iload_n 1, 1) := by decide +kernel
theorem dX6_kindOf_21 : decode cX6_kindOf 21 = .ok (.bipush 57, 2) := by decide +kernel
theorem dX6_kindOf_23 : decode cX6_kindOf 23 = .ok (.if_icmp .gt 5, 3) := by decide +kernel
theorem dX6_kindOf_26 : decode cX6_kindOf 26 = .ok (.iconst 2, 1) := by decide +kernel
theorem dX6_kindOf_27 : decode cX6_kindOf 27 = .ok (.ireturn, 1) := by decide +kernel
theorem dX6_kindOf_3 : decode cX6_kindOf 3 = .ok (.if_icmp .lt 11, 3) := by decide +kernel
theorem dX6_kindOf_6 : decode cX6_kindOf 6 = .ok (.iload_n 1, 1) := by decide +kernel
theorem dX6_kindOf_7 : decode cX6_kindOf 7 = .ok (.bipush 122, 2) := by decide +kernel
theorem dX6_kindOf_9 : decode cX6_kindOf 9 = .ok (.if_icmp .gt 5, 3) := by decide +kernel
theorem dX6_kindOf_12 : decode cX6_kindOf 12 = .ok (.iconst 1, 1) := by decide +kernel
theorem dX6_kindOf_13 : decode cX6_kindOf 13 = .ok (.ireturn, 1) := by decide +kernel
theorem dX6_advance_0 : decode cX6_advance 0 = .ok (.aload_n 0, 1) := by decide +kernel
theorem dX6_advance_1 : decode cX6_advance 1 = .ok (.getfield 30, 3) := by decide +kernel
theorem dX6_advance_4 : decode cX6_advance 4 = .ok (.aload_n 0, 1) := by decide +kernel
theorem dX6_advance_5 : decode cX6_advance 5 = .ok (.getfield 12, 3) := by decide +kernel
theorem dX6_advance_8 : decode cX6_advance 8 = .ok (.getfield 165, 3) := by decide +kernel
theorem dX6_advance_45 : decode cX6_advance 45 = .ok (.aload_n 0, 1) := by decide +kernel
theorem dX6_advance_46 : decode cX6_advance 46 = .ok (.aload_n 0, 1) := by decide +kernel
theorem dX6_advance_47 : decode cX6_advance 47 = .ok (.getfield 30, 3) := by decide +kernel
theorem dX6_advance_50 : decode cX6_advance 50 = .ok (.putfield 150, 3) := by decide +kernel
theorem dX6_advance_53 : decode cX6_advance 53 = .ok (.aload_n 0, 1) := by decide +kernel
theorem dX6_advance_54 : decode cX6_advance 54 = .ok (.iconst 0, 1) := by decide +kernel
theorem dX6_advance_55 : decode cX6_advance 55 = .ok (.putfield 147, 3) := by decide +kernel
theorem dX6_advance_58 : decode cX6_advance 58 = .ok (.aload_n 0, 1) := by decide +kernel
theorem dX6_advance_59 : decode cX6_advance 59 = .ok (.aload_n 0, 1) := by decide +kernel
theorem dX6_advance_60 : decode cX6_advance 60 = .ok (.getfield 30, 3) := by decide +kernel
theorem dX6_advance_63 : decode cX6_advance 63 = .ok (.aload_n 0, 1) := by decide +kernel
theorem dX6_advance_64 : decode cX6_advance 64 = .ok (.getfield 12, 3) := by decide +kernel
theorem dX6_advance_67 : decode cX6_advance 67 = .ok (.getfield 165, 3) := by decide +kernel
theorem dX6_advance_92 : decode cX6_advance 92 = .ok (.putfield 36, 3) := by decide +kernel
theorem dX6_advance_95 : decode cX6_advance 95 = .ok (.aload_n 0, 1) := by decide +kernel
theorem dX6_advance_96 : decode cX6_advance 96 = .ok (.getfield 36, 3) := by decide +kernel
theorem dX6_advance_99 : decode cX6_advance 99 = .ok (.iconst 3, 1) := by decide +kernel
theorem dX6_advance_111 : decode cX6_advance 111 = .ok (.aload_n 0, 1) := by decide +kernel
theorem dX6_advance_112 : decode cX6_advance 112 = .ok (.dup, 1) := by decide +kernel
theorem dX6_advance_113 : decode cX6_advance 113 = .ok (.getfield 30, 3) := by decide +kernel
theorem dX6_advance_116 : decode cX6_advance 116 = .ok (.iconst 1, 1) := by decide +kernel
theorem dX6_advance_117 : decode cX6_advance 117 = .ok (.iadd, 1) := by decide +kernel
theorem dX6_advance_118 : decode cX6_advance 118 = .ok (.putfield 30, 3) := by decide +kernel
theorem dX6_advance_121 : decode cX6_advance 121 = .ok (.return_, 1) := by decide +kernel
theorem dX6_advance_100 : decode cX6_advance 100 = .ok (.if_icmp .eq 11, 3) := by decide +kernel
theorem dX6_advance_103 : decode cX6_advance 103 = .ok (.aload_n 0, 1) := by decide +kernel
theorem dX6_advance_104 : decode cX6_advance 104 = .ok (.getfield 36, 3) := by decide +kernel
theorem dX6_advance_107 : decode cX6_advance 107 = .ok (.iconst 4, 1) := by decide +kernel
theorem dX6_advance_108 : decode cX6_advance 108 = .ok (.if_icmp .ne 14, 3) := by decide +kernel
theorem dX6_advance_122 : decode cX6_advance 122 = .ok (.aload_n 0, 1) := by decide +kernel
theorem dX6_advance_123 : decode cX6_advance 123 = .ok (.getfield 30, 3) := by decide +kernel
theorem dX6_advance_126 : decode cX6_advance 126 = .ok (.aload_n 0, 1) := by decide +kernel
theorem dX6_advance_127 : decode cX6_advance 127 = .ok (.getfield 12, 3) := by decide +kernel
theorem dX6_advance_130 : decode cX6_advance 130 = .ok (.getfield 165, 3) := by decide +kernel
theorem dX6_advance_133 : decode cX6_advance 133 = .ok (.if_icmp .ge 81, 3) := by decide +kernel
theorem dX6_advance_214 : decode cX6_advance 214 = .ok (.return_, 1) := by decide +kernel
theorem dX6_advance_136 : decode cX6_advance 136 = .ok (.aload_n 0, 1) := by decide +kernel
theorem dX6_advance_137 : decode cX6_advance 137 = .ok (.aload_n 0, 1) := by decide +kernel
theorem dX6_advance_138 : decode cX6_advance 138 = .ok (.getfield 12, 3) := by decide +kernel
theorem dX6_advance_141 : decode cX6_advance 141 = .ok (.aload_n 0, 1) := by decide +kernel
theorem dX6_advance_142 : decode cX6_advance 142 = .ok (.getfield 30, 3) := by decide +kernel
theorem dX6_advance_145 : decode cX6_advance 145 = .ok (.invokevirtual 158, 3) := by decide +kernel
theorem dX6_advance_148 : decode cX6_advance 148 = .ok (.invokevirtual 171, 3) := by decide +kernel
theorem dX6_advance_151 : decode cX6_advance 151 = .ok (.aload_n 0, 1) := by decide +kernel
theorem dX6_advance_152 : decode cX6_advance 152 = .ok (.getfield 36, 3) := by decide +kernel
theorem dX6_advance_155 : decode cX6_advance 155 = .ok (.if_icmp .ne 59, 3) := by decide +kernel
theorem dX6_advance_158 : decode cX6_advance 158 = .ok (.aload_n 0, 1) := by decide +kernel
theorem dX6_advance_159 : decode cX6_advance 159 = .ok (.getfield 36, 3) := by decide +kernel
theorem dX6_advance_162 : decode cX6_advance 162 = .ok (.iconst 2, 1) := by decide +kernel
theorem dX6_advance_201 : decode cX6_advance 201 = .ok (.aload_n 0, 1) := by decide +kernel
theorem dX6_advance_202 : decode cX6_advance 202 = .ok (.dup, 1) := by decide +kernel
theorem dX6_advance_203 : decode cX6_advance 203 = .ok (.getfield 30, 3) := by decide +kernel
theorem dX6_advance_206 : decode cX6_advance 206 = .ok (.iconst 1, 1) := by decide +kernel
theorem dX6_advance_207 : decode cX6_advance 207 = .ok (.iadd, 1) := by decide +kernel
theorem dX6_advance_208 : decode cX6_advance 208 = .ok (.putfield 30, 3) := by decide +kernel
theorem dX6_advance_211 : decode cX6_advance 211 = .ok (.goto (-89), 3) := by decide +kernel
theorem dX6_advance_163 : decode cX6_advance 163 = .ok (.if_icmp .ne 38, 3) := by decide +kernel
theorem dX6_advance_166 : decode cX6_advance 166 = .ok (.aload_n 0, 1) := by decide +kernel
theorem dX6_advance_167 : decode cX6_advance 167 = .ok (.getfield 147, 3) := by decide +kernel
theorem dX6_advance_170 : decode cX6_advance 170 = .ok (.ldc 174, 2) := by decide +kernel
theorem dX6_advance_172 : decode cX6_advance 172 = .ok (.if_icmp .ge 29, 3) := by decide +kernel
theorem dX6_advance_175 : decode cX6_advance 175 = .ok (.aload_n 0, 1) := by decide +kernel
theorem dX6_advance_176 : decode cX6_advance 176 = .ok (.aload_n 0, 1) := by decide +kernel
theorem dX6_advance_177 : decode cX6_advance 177 = .ok (.getfield 147, 3) := by decide +kernel
theorem dX6_advance_180 : decode cX6_advance 180 = .ok (.bipush 10, 2) := by decide +kernel
theorem dX6_advance_182 : decode cX6_advance 182 = .ok (.imul, 1) := by decide +kernel
theorem dX6_advance_183 : decode cX6_advance 183 = .ok (.aload_n 0, 1) := by decide +kernel
theorem dX6_advance_184 : decode cX6_advance 184 = .ok (.getfield 12, 3) := by decide +kernel
theorem dX6_advance_187 : decode cX6_advance 187 = .ok (.aload_n 0, 1) := by decide +kernel
theorem dX6_advance_188 : decode cX6_advance 188 = .ok (.getfield 30, 3) := by decide +kernel
theorem dX6_advance_191 : decode cX6_advance 191 = .ok (.invokevirtual 158, 3) := by decide +kernel
theorem dX6_advance_194 : decode cX6_advance 194 = .ok (.iadd, 1) := by decide +kernel
theorem dX6_advance_195 : decode cX6_advance 195 = .ok (.bipush 48, 2) := by decide +kernel
theorem dX6_advance_197 : decode cX6_advance 197 = .ok (.isub, 1) := by decide +kernel
theorem dX6_advance_198 : decode cX6_advance 198 = .ok (.putfield 147, 3) := by decide +kernel
theorem dX6_advance_70 : decode cX6_advance 70 = .ok (.if_icmp .ge 21, 3) := by decide +kernel
theorem dX6_advance_91 : decode cX6_advance 91 = .ok (.iconst 0, 1) := by decide +kernel
theorem dX6_advance_73 : decode cX6_advance 73 = .ok (.aload_n 0, 1) := by decide +kernel
theorem dX6_advance_74 : decode cX6_advance 74 = .ok (.aload_n 0, 1) := by decide +kernel
theorem dX6_advance_75 : decode cX6_advance 75 = .ok (.getfield 12, 3) := by decide +kernel
theorem dX6_advance_78 : decode cX6_advance 78 = .ok (.aload_n 0, 1) := by decide +kernel
theorem dX6_advance_79 : decode cX6_advance 79 = .ok (.getfield 30, 3) := by decide +kernel
theorem dX6_advance_82 : decode cX6_advance 82 = .ok (.invokevirtual 158, 3) := by decide +kernel
theorem dX6_advance_85 : decode cX6_advance 85 = .ok (.invokevirtual 171, 3) := by decide +kernel
theorem dX6_advance_88 : decode cX6_advance 88 = .ok (.goto 4, 3) := by decide +kernel
theorem dX6_advance_11 : decode cX6_advance 11 = .ok (.if_icmp .ge 34, 3) := by decide +kernel
theorem dX6_advance_14 : decode cX6_advance 14 = .ok (.aload_n 0, 1) := by decide +kernel
theorem dX6_advance_15 : decode cX6_advance 15 = .ok (.aload_n 0, 1) := by decide +kernel
theorem dX6_advance_16 : decode cX6_advance 16 = .ok (.getfield 12, 3) := by decide +kernel
theorem dX6_advance_19 : decode cX6_advance 19 = .ok (.aload_n 0, 1) := by decide +kernel
theorem dX6_advance_20 : decode cX6_advance 20 = .ok (.getfield 30, 3) := by decide +kernel
theorem dX6_advance_23 : decode cX6_advance 23 = .ok (.invokevirtual 158, 3) := by decide +kernel
theorem dX6_advance_26 : decode cX6_advance 26 = .ok (.invokevirtual 168, 3) := by decide +kernel
theorem dX6_advance_29 : decode cX6_advance 29 = .ok (.ifCond .eq 16, 3) := by decide +kernel
theorem dX6_advance_32 : decode cX6_advance 32 = .ok (.aload_n 0, 1) := by decide +kernel
theorem dX6_advance_33 : decode cX6_advance 33 = .ok (.dup, 1) := by decide +kernel
theorem dX6_advance_34 : decode cX6_advance 34 = .ok (.getfield 30, 3) := by decide +kernel
theorem dX6_advance_37 : decode cX6_advance 37 = .ok (.iconst 1, 1) := by decide +kernel
theorem dX6_advance_38 : decode cX6_advance 38 = .ok (.iadd, 1) := by decide +kernel
theorem dX6_advance_39 : decode cX6_advance 39 = .ok (.putfield 30, 3) := by decide +kernel
theorem dX6_advance_42 : decode cX6_advance 42 = .ok (.goto (-42), 3) := by decide +kernel
theorem dX6_fail_0 : decode cX6_fail 0 = .ok (.aload_n 0, 1) := by decide +kernel
theorem dX6_fail_1 : decode cX6_fail 1 = .ok (.iload_n 1, 1) := by decide +kernel
theorem dX6_fail_2 : decode cX6_fail 2 = .ok (.putfield 27, 3) := by decide +kernel
theorem dX6_fail_5 : decode cX6_fail 5 = .ok (.aload_n 0, 1) := by decide +kernel
theorem dX6_fail_6 : decode cX6_fail 6 = .ok (.aload_n 0, 1) := by decide +kernel
theorem dX6_fail_7 : decode cX6_fail 7 = .ok (.getfield 150, 3) := by decide +kernel
theorem dX6_fail_10 : decode cX6_fail 10 = .ok (.putfield 18, 3) := by decide +kernel
theorem dX6_fail_13 : decode cX6_fail 13 = .ok (.iconst 0, 1) := by decide +kernel
theorem dX6_fail_14 : decode cX6_fail 14 = .ok (.ireturn, 1) := by decide +kernel
theorem dX6_isWord_0 : decode cX6_isWord 0 = .ok (.aload_n 0, 1) := by decide +kernel
theorem dX6_isWord_1 : decode cX6_isWord 1 = .ok (.getfield 36, 3) := by decide +kernel
theorem dX6_isWord_4 : decode cX6_isWord 4 = .ok (.iconst 1, 1) := by decide +kernel
theorem dX6_isWord_5 : decode cX6_isWord 5 = .ok (.if_icmp .ne 19, 3) := by decide +kernel
theorem dX6_isWord_24 : decode cX6_isWord 24 = .ok (.iconst 0, 1) := by decide +kernel
theorem dX6_isWord_25 : decode cX6_isWord 25 = .ok (.ireturn, 1) := by decide +kernel
theorem dX6_isWord_8 : decode cX6_isWord 8 = .ok (.aload_n 0, 1) := by decide +kernel
theorem dX6_isWord_9 : decode cX6_isWord 9 = .ok (.getfield 30, 3) := by decide +kernel
theorem dX6_isWord_12 : decode cX6_isWord 12 = .ok (.aload_n 0, 1) := by decide +kernel
theorem dX6_isWord_13 : decode cX6_isWord 13 = .ok (.getfield 150, 3) := by decide +kernel
theorem dX6_isWord_16 : decode cX6_isWord 16 = .ok (.isub, 1) := by decide +kernel
theorem dX6_isWord_17 : decode cX6_isWord 17 = .ok (.aload_n 1, 1) := by decide +kernel
theorem dX6_isWord_18 : decode cX6_isWord 18 = .ok (.invokevirtual 153, 3) := by decide +kernel
theorem dX6_isWord_21 : decode cX6_isWord 21 = .ok (.if_icmp .eq 5, 3) := by decide +kernel
theorem dX6_isWord_26 : decode cX6_isWord 26 = .ok (.iconst 0, 1) := by decide +kernel
theorem dX6_isWord_27 : decode cX6_isWord 27 = .ok (.istore_n 2, 1) := by decide +kernel
theorem dX6_isWord_28 : decode cX6_isWord 28 = .ok (.iload_n 2, 1) := by decide +kernel
theorem dX6_isWord_29 : decode cX6_isWord 29 = .ok (.aload_n 1, 1) := by decide +kernel
theorem dX6_isWord_30 : decode cX6_isWord 30 = .ok (.invokevirtual 153, 3) := by decide +kernel
theorem dX6_isWord_33 : decode cX6_isWord 33 = .ok (.if_icmp .ge 32, 3) := by decide +kernel
theorem dX6_isWord_65 : decode cX6_isWord 65 = .ok (.iconst 1, 1) := by decide +kernel
theorem dX6_isWord_66 : decode cX6_isWord 66 = .ok (.ireturn, 1) := by decide +kernel
theorem dX6_isWord_36 : decode cX6_isWord 36 = .ok (.aload_n 0, 1) := by decide +kernel
theorem dX6_isWord_37 : decode cX6_isWord 37 = .ok (.getfield 12, 3) := by decide +kernel
theorem dX6_isWord_40 : decode cX6_isWord 40 = .ok (.aload_n 0, 1) := by decide +kernel
theorem dX6_isWord_41 : decode cX6_isWord 41 = .ok (.getfield 150, 3) := by decide +kernel
theorem dX6_isWord_44 : decode cX6_isWord 44 = .ok (.iload_n 2, 1) := by decide +kernel
theorem dX6_isWord_45 : decode cX6_isWord 45 = .ok (.iadd, 1) := by decide +kernel
theorem dX6_isWord_46 : decode cX6_isWord 46 = .ok (.invokevirtual 158, 3) := by decide +kernel
theorem dX6_isWord_49 : decode cX6_isWord 49 = .ok (.aload_n 1, 1) := by decide +kernel
theorem dX6_isWord_50 : decode cX6_isWord 50 = .ok (.iload_n 2, 1) := by decide +kernel
theorem dX6_isWord_51 : decode cX6_isWord 51 = .ok (.invokevirtual 161, 3) := by decide +kernel
theorem dX6_isWord_54 : decode cX6_isWord 54 = .ok (.if_icmp .eq 5, 3) := by decide +kernel
theorem dX6_isWord_59 : decode cX6_isWord 59 = .ok (.iinc 2 1, 3) := by decide +kernel
theorem dX6_isWord_62 : decode cX6_isWord 62 = .ok (.goto (-34), 3) := by decide +kernel
theorem dX6_isWord_57 : decode cX6_isWord 57 = .ok (.iconst 0, 1) := by decide +kernel
theorem dX6_isWord_58 : decode cX6_isWord 58 = .ok (.ireturn, 1) := by decide +kernel
theorem dX6_takeNumber_0 : decode cX6_takeNumber 0 = .ok (.aload_n 0, 1) := by decide +kernel
theorem dX6_takeNumber_1 : decode cX6_takeNumber 1 = .ok (.getfield 36, 3) := by decide +kernel
theorem dX6_takeNumber_4 : decode cX6_takeNumber 4 = .ok (.iconst 2, 1) := by decide +kernel
theorem dX6_takeNumber_5 : decode cX6_takeNumber 5 = .ok (.if_icmp .eq 11, 3) := by decide +kernel
theorem dX6_takeNumber_16 : decode cX6_takeNumber 16 = .ok (.aload_n 0, 1) := by decide +kernel
theorem dX6_takeNumber_17 : decode cX6_takeNumber 17 = .ok (.getfield 147, 3) := by decide +kernel
theorem dX6_takeNumber_20 : decode cX6_takeNumber 20 = .ok (.iload_n 1, 1) := by decide +kernel
theorem dX6_takeNumber_21 : decode cX6_takeNumber 21 = .ok (.if_icmp .lt 19, 3) := by decide +kernel
theorem dX6_takeNumber_40 : decode cX6_takeNumber 40 = .ok (.aload_n 0, 1) := by decide +kernel
theorem dX6_takeNumber_41 : decode cX6_takeNumber 41 = .ok (.iconst 2, 1) := by decide +kernel
theorem dX6_takeNumber_42 : decode cX6_takeNumber 42 = .ok (.invokevirtual 52, 3) := by decide +kernel
theorem dX6_takeNumber_45 : decode cX6_takeNumber 45 = .ok (.pop, 1) := by decide +kernel
theorem dX6_takeNumber_46 : decode cX6_takeNumber 46 = .ok (.iconst (-1), 1) := by decide +kernel
theorem dX6_takeNumber_47 : decode cX6_takeNumber 47 = .ok (.ireturn, 1) := by decide +kernel
theorem dX6_takeNumber_24 : decode cX6_takeNumber 24 = .ok (.aload_n 0, 1) := by decide +kernel
theorem dX6_takeNumber_25 : decode cX6_takeNumber 25 = .ok (.getfield 147, 3) := by decide +kernel
theorem dX6_takeNumber_28 : decode cX6_takeNumber 28 = .ok (.iload_n 2, 1) := by decide +kernel
theorem dX6_takeNumber_29 : decode cX6_takeNumber 29 = .ok (.if_icmp .gt 11, 3) := by decide +kernel
theorem dX6_takeNumber_32 : decode cX6_takeNumber 32 = .ok (.aload_n 0, 1) := by decide +kernel
theorem dX6_takeNumber_33 : decode cX6_takeNumber 33 = .ok (.getfield 147, 3) := by decide +kernel
theorem dX6_takeNumber_36 : decode cX6_takeNumber 36 = .ok (.iload_n 3, 1) := by decide +kernel
theorem dX6_takeNumber_37 : decode cX6_takeNumber 37 = .ok (.if_icmp .ne 11, 3) := by decide +kernel
theorem dX6_takeNumber_48 : decode cX6_takeNumber 48 = .ok (.aload_n 0, 1) := by decide +kernel
theorem dX6_takeNumber_49 : decode cX6_takeNumber 49 = .ok (.getfield 147, 3) := by decide +kernel
theorem dX6_takeNumber_52 : decode cX6_takeNumber 52 = .ok (.istore 4, 2) := by decide +kernel
theorem dX6_takeNumber_54 : decode cX6_takeNumber 54 = .ok (.aload_n 0, 1) := by decide +kernel
theorem dX6_takeNumber_55 : decode cX6_takeNumber 55 = .ok (.invokevirtual 33, 3) := by decide +kernel
theorem dX6_takeNumber_58 : decode cX6_takeNumber 58 = .ok (.iload 4, 2) := by decide +kernel
theorem dX6_takeNumber_60 : decode cX6_takeNumber 60 = .ok (.ireturn, 1) := by decide +kernel
theorem dX6_takeNumber_8 : decode cX6_takeNumber 8 = .ok (.aload_n 0, 1) := by decide +kernel
theorem dX6_takeNumber_9 : decode cX6_takeNumber 9 = .ok (.iconst 1, 1) := by decide +kernel
theorem dX6_takeNumber_10 : decode cX6_takeNumber 10 = .ok (.invokevirtual 52, 3) := by decide +kernel
theorem dX6_takeNumber_13 : decode cX6_takeNumber 13 = .ok (.pop, 1) := by decide +kernel
theorem dX6_takeNumber_14 : decode cX6_takeNumber 14 = .ok (.iconst (-1), 1) := by decide +kernel
theorem dX6_takeNumber_15 : decode cX6_takeNumber 15 = .ok (.ireturn, 1) := by decide +kernel
theorem dX6_takeNamed_0 : decode cX6_takeNamed 0 = .ok (.aload_n 0, 1) := by decide +kernel
theorem dX6_takeNamed_1 : decode cX6_takeNamed 1 = .ok (.aload_n 1, 1) := by decide +kernel
theorem dX6_takeNamed_2 : decode cX6_takeNamed 2 = .ok (.invokevirtual 48, 3) := by decide +kernel
theorem dX6_takeNamed_5 : decode cX6_takeNamed 5 = .ok (.ifCond .ne 11, 3) := by decide +kernel
theorem dX6_takeNamed_16 : decode cX6_takeNamed 16 = .ok (.aload_n 0, 1) := by decide +kernel
theorem dX6_takeNamed_17 : decode cX6_takeNamed 17 = .ok (.invokevirtual 33, 3) := by decide +kernel
theorem dX6_takeNamed_20 : decode cX6_takeNamed 20 = .ok (.aload_n 0, 1) := by decide +kernel
theorem dX6_takeNamed_21 : decode cX6_takeNamed 21 = .ok (.iload_n 2, 1) := by decide +kernel
theorem dX6_takeNamed_22 : decode cX6_takeNamed 22 = .ok (.iload_n 3, 1) := by decide +kernel
theorem dX6_takeNamed_23 : decode cX6_takeNamed 23 = .ok (.iconst (-1), 1) := by decide +kernel
theorem dX6_takeNamed_24 : decode cX6_takeNamed 24 = .ok (.invokevirtual 120, 3) := by decide +kernel
theorem dX6_takeNamed_27 : decode cX6_takeNamed 27 = .ok (.ireturn, 1) := by decide +kernel
theorem dX6_takeNamed_8 : decode cX6_takeNamed 8 = .ok (.aload_n 0, 1) := by decide +kernel
theorem dX6_takeNamed_9 : decode cX6_takeNamed 9 = .ok (.iconst 1, 1) := by decide +kernel
theorem dX6_takeNamed_10 : decode cX6_takeNamed 10 = .ok (.invokevirtual 52, 3) := by decide +kernel
theorem dX6_takeNamed_13 : decode cX6_takeNamed 13 = .ok (.pop, 1) := by decide +kernel
theorem dX6_takeNamed_14 : decode cX6_takeNamed 14 = .ok (.iconst (-1), 1) := by decide +kernel
theorem dX6_takeNamed_15 : decode cX6_takeNamed 15 = .ok (.ireturn, 1) := by decide +kernel
theorem dX6_takeSign_0 : decode cX6_takeSign 0 = .ok (.aload_n 0, 1) := by decide +kernel
theorem dX6_takeSign_1 : decode cX6_takeSign 1 = .ok (.getfield 36, 3) := by decide +kernel
theorem dX6_takeSign_4 : decode cX6_takeSign 4 = .ok (.iconst 3, 1) := by decide +kernel
theorem dX6_takeSign_5 : decode cX6_takeSign 5 = .ok (.if_icmp .eq 9, 3) := by decide +kernel
theorem dX6_takeSign_14 : decode cX6_takeSign 14 = .ok (.aload_n 0, 1) := by decide +kernel
theorem dX6_takeSign_15 : decode cX6_takeSign 15 = .ok (.invokevirtual 33, 3) := by decide +kernel
theorem dX6_takeSign_18 : decode cX6_takeSign 18 = .ok (.iconst 1, 1) := by decide +kernel
theorem dX6_takeSign_19 : decode cX6_takeSign 19 = .ok (.ireturn, 1) := by decide +kernel
theorem dX6_takeSign_8 : decode cX6_takeSign 8 = .ok (.aload_n 0, 1) := by decide +kernel
theorem dX6_takeSign_9 : decode cX6_takeSign 9 = .ok (.iconst 1, 1) := by decide +kernel
theorem dX6_takeSign_10 : decode cX6_takeSign 10 = .ok (.invokevirtual 52, 3) := by decide +kernel
theorem dX6_takeSign_13 : decode cX6_takeSign 13 = .ok (.ireturn, 1) := by decide +kernel
theorem dX6_takeQuestions_0 : decode cX6_takeQuestions 0 = .ok (.iconst 0, 1) := by decide +kernel
theorem dX6_takeQuestions_1 : decode cX6_takeQuestions 1 = .ok (.istore_n 1, 1) := by decide +kernel
theorem dX6_takeQuestions_2 : decode cX6_takeQuestions 2 = .ok (.iconst 0, 1) := by decide +kernel
theorem dX6_takeQuestions_3 : decode cX6_takeQuestions 3 = .ok (.istore_n 2, 1) := by decide +kernel
theorem dX6_takeQuestions_4 : decode cX6_takeQuestions 4 = .ok (.iload_n 2, 1) := by decide +kernel
theorem dX6_takeQuestions_5 : decode cX6_takeQuestions 5 = .ok (.sipush 900, 3) := by decide +kernel
theorem dX6_takeQuestions_8 : decode cX6_takeQuestions 8 = .ok (.if_icmp .gt 42, 3) := by decide +kernel
theorem dX6_takeQuestions_50 : decode cX6_takeQuestions 50 = .ok (.iload_n 1, 1) := by decide +kernel
theorem dX6_takeQuestions_51 : decode cX6_takeQuestions 51 = .ok (.ireturn, 1) := by decide +kernel
theorem dX6_takeQuestions_11 : decode cX6_takeQuestions 11 = .ok (.iload_n 2, 1) := by decide +kernel
theorem dX6_takeQuestions_23 : decode cX6_takeQuestions 23 = .ok (.aload_n 0, 1) := by decide +kernel
theorem dX6_takeQuestions_24 : decode cX6_takeQuestions 24 = .ok (.iconst 0, 1) := by decide +kernel
theorem dX6_takeQuestions_25 : decode cX6_takeQuestions 25 = .ok (.iconst 5, 1) := by decide +kernel
theorem dX6_takeQuestions_26 : decode cX6_takeQuestions 26 = .ok (.iconst (-1), 1) := by decide +kernel
theorem dX6_takeQuestions_27 : decode cX6_takeQuestions 27 = .ok (.invokevirtual 120, 3) := by decide +kernel
theorem dX6_takeQuestions_30 : decode cX6_takeQuestions 30 = .ok (.istore_n 3, 1) := by decide +kernel
theorem dX6_takeQuestions_31 : decode cX6_takeQuestions 31 = .ok (.iload_n 3, 1) := by decide +kernel
theorem dX6_takeQuestions_32 : decode cX6_takeQuestions 32 = .ok (.iconst (-1), 1) := by decide +kernel
theorem dX6_takeQuestions_33 : decode cX6_takeQuestions 33 = .ok (.if_icmp .ne 5, 3) := by decide +kernel
theorem dX6_takeQuestions_38 : decode cX6_takeQuestions 38 = .ok (.iload_n 1, 1) := by decide +kernel
theorem dX6_takeQuestions_39 : decode cX6_takeQuestions 39 = .ok (.iconst 1, 1) := by decide +kernel
theorem dX6_takeQuestions_40 : decode cX6_takeQuestions 40 = .ok (.iload_n 3, 1) := by decide +kernel
theorem dX6_takeQuestions_41 : decode cX6_takeQuestions 41 = .ok (.ishl, 1) := by decide +kernel
theorem dX6_takeQuestions_42 : decode cX6_takeQuestions 42 = .ok (.ior, 1) := by decide +kernel
theorem dX6_takeQuestions_43 : decode cX6_takeQuestions 43 = .ok (.istore_n 1, 1) := by decide +kernel
theorem dX6_takeQuestions_44 : decode cX6_takeQuestions 44 = .ok (.iinc 2 1, 3) := by decide +kernel
theorem dX6_takeQuestions_47 : decode cX6_takeQuestions 47 = .ok (.goto (-43), 3) := by decide +kernel
theorem dX6_takeQuestions_36 : decode cX6_takeQuestions 36 = .ok (.iconst 0, 1) := by decide +kernel
theorem dX6_takeQuestions_37 : decode cX6_takeQuestions 37 = .ok (.ireturn, 1) := by decide +kernel
theorem dX6_takeQuestions_12 : decode cX6_takeQuestions 12 = .ok (.ifCond .eq 11, 3) := by decide +kernel
theorem dX6_takeQuestions_15 : decode cX6_takeQuestions 15 = .ok (.aload_n 0, 1) := by decide +kernel
theorem dX6_takeQuestions_16 : decode cX6_takeQuestions 16 = .ok (.getfield 36, 3) := by decide +kernel
theorem dX6_takeQuestions_19 : decode cX6_takeQuestions 19 = .ok (.iconst 2, 1) := by decide +kernel
theorem dX6_takeQuestions_20 : decode cX6_takeQuestions 20 = .ok (.if_icmp .ne 30, 3) := by decide +kernel
theorem dX6_readFirst_0 : decode cX6_readFirst 0 = .ok (.aload_n 0, 1) := by decide +kernel
theorem dX6_readFirst_1 : decode cX6_readFirst 1 = .ok (.invokevirtual 33, 3) := by decide +kernel
theorem dX6_readFirst_4 : decode cX6_readFirst 4 = .ok (.aload_n 1, 1) := by decide +kernel
theorem dX6_readFirst_5 : decode cX6_readFirst 5 = .ok (.aload_n 0, 1) := by decide +kernel
theorem dX6_readFirst_6 : decode cX6_readFirst 6 = .ok (.ldc 83, 2) := by decide +kernel
theorem dX6_readFirst_8 : decode cX6_readFirst 8 = .ok (.iconst 0, 1) := by decide +kernel
theorem dX6_readFirst_9 : decode cX6_readFirst 9 = .ok (.bipush 100, 2) := by decide +kernel
theorem dX6_readFirst_11 : decode cX6_readFirst 11 = .ok (.invokevirtual 85, 3) := by decide +kernel
theorem dX6_readFirst_14 : decode cX6_readFirst 14 = .ok (.putfield 89, 3) := by decide +kernel
theorem dX6_readFirst_17 : decode cX6_readFirst 17 = .ok (.aload_n 1, 1) := by decide +kernel
theorem dX6_readFirst_18 : decode cX6_readFirst 18 = .ok (.aload_n 0, 1) := by decide +kernel
theorem dX6_readFirst_19 : decode cX6_readFirst 19 = .ok (.getfield 27, 3) := by decide +kernel
theorem dX6_readFirst_38 : decode cX6_readFirst 38 = .ok (.putfield 93, 3) := by decide +kernel
theorem dX6_readFirst_41 : decode cX6_readFirst 41 = .ok (.aload_n 1, 1) := by decide +kernel
theorem dX6_readFirst_42 : decode cX6_readFirst 42 = .ok (.aload_n 0, 1) := by decide +kernel
theorem dX6_readFirst_43 : decode cX6_readFirst 43 = .ok (.getfield 27, 3) := by decide +kernel
theorem dX6_readFirst_63 : decode cX6_readFirst 63 = .ok (.putfield 97, 3) := by decide +kernel
theorem dX6_readFirst_66 : decode cX6_readFirst 66 = .ok (.aload_n 1, 1) := by decide +kernel
theorem dX6_readFirst_67 : decode cX6_readFirst 67 = .ok (.aload_n 0, 1) := by decide +kernel
theorem dX6_readFirst_68 : decode cX6_readFirst 68 = .ok (.getfield 27, 3) := by decide +kernel
theorem dX6_readFirst_88 : decode cX6_readFirst 88 = .ok (.putfield 101, 3) := by decide +kernel
theorem dX6_readFirst_91 : decode cX6_readFirst 91 = .ok (.aload_n 0, 1) := by decide +kernel
theorem dX6_readFirst_92 : decode cX6_readFirst 92 = .ok (.getfield 27, 3) := by decide +kernel
theorem dX6_readFirst_95 : decode cX6_readFirst 95 = .ok (.ifCond .ne 7, 3) := by decide +kernel
theorem dX6_readFirst_102 : decode cX6_readFirst 102 = .ok (.iconst 0, 1) := by decide +kernel
theorem dX6_readFirst_103 : decode cX6_readFirst 103 = .ok (.ireturn, 1) := by decide +kernel
theorem dX6_readFirst_98 : decode cX6_readFirst 98 = .ok (.iconst 1, 1) := by decide +kernel
theorem dX6_readFirst_99 : decode cX6_readFirst 99 = .ok (.goto 4, 3) := by decide +kernel
theorem dX6_readFirst_71 : decode cX6_readFirst 71 = .ok (.ifCond .ne 16, 3) := by decide +kernel
theorem dX6_readFirst_87 : decode cX6_readFirst 87 = .ok (.iconst (-1), 1) := by decide +kernel
theorem dX6_readFirst_74 : decode cX6_readFirst 74 = .ok (.aload_n 0, 1) := by decide +kernel
theorem dX6_readFirst_75 : decode cX6_readFirst 75 = .ok (.ldc 99, 2) := by decide +kernel
theorem dX6_readFirst_77 : decode cX6_readFirst 77 = .ok (.iconst 0, 1) := by decide +kernel
theorem dX6_readFirst_78 : decode cX6_readFirst 78 = .ok (.sipush 999, 3) := by decide +kernel
theorem dX6_readFirst_81 : decode cX6_readFirst 81 = .ok (.invokevirtual 85, 3) := by decide +kernel
theorem dX6_readFirst_84 : decode cX6_readFirst 84 = .ok (.goto 4, 3) := by decide +kernel
theorem dX6_readFirst_46 : decode cX6_readFirst 46 = .ok (.ifCond .ne 16, 3) := by decide +kernel
theorem dX6_readFirst_62 : decode cX6_readFirst 62 = .ok (.iconst (-1), 1) := by decide +kernel
theorem dX6_readFirst_49 : decode cX6_readFirst 49 = .ok (.aload_n 0, 1) := by decide +kernel
theorem dX6_readFirst_50 : decode cX6_readFirst 50 = .ok (.ldc 95, 2) := by decide +kernel
theorem dX6_readFirst_52 : decode cX6_readFirst 52 = .ok (.iconst 0, 1) := by decide +kernel
theorem dX6_readFirst_53 : decode cX6_readFirst 53 = .ok (.sipush 999, 3) := by decide +kernel
theorem dX6_readFirst_56 : decode cX6_readFirst 56 = .ok (.invokevirtual 85, 3) := by decide +kernel
theorem dX6_readFirst_59 : decode cX6_readFirst 59 = .ok (.goto 4, 3) := by decide +kernel
theorem dX6_readFirst_22 : decode cX6_readFirst 22 = .ok (.ifCond .ne 15, 3) := by decide +kernel
theorem dX6_readFirst_37 : decode cX6_readFirst 37 = .ok (.iconst (-1), 1) := by decide +kernel
theorem dX6_readFirst_25 : decode cX6_readFirst 25 = .ok (.aload_n 0, 1) := by decide +kernel
theorem dX6_readFirst_26 : decode cX6_readFirst 26 = .ok (.ldc 91, 2) := by decide +kernel
theorem dX6_readFirst_28 : decode cX6_readFirst 28 = .ok (.iconst 0, 1) := by decide +kernel
theorem dX6_readFirst_29 : decode cX6_readFirst 29 = .ok (.bipush 100, 2) := by decide +kernel
theorem dX6_readFirst_31 : decode cX6_readFirst 31 = .ok (.invokevirtual 85, 3) := by decide +kernel
theorem dX6_readFirst_34 : decode cX6_readFirst 34 = .ok (.goto 4, 3) := by decide +kernel
theorem dX6_readRoom_0 : decode cX6_readRoom 0 = .ok (.aload_n 1, 1) := by decide +kernel
theorem dX6_readRoom_1 : decode cX6_readRoom 1 = .ok (.getfield 103, 3) := by decide +kernel
theorem dX6_readRoom_4 : decode cX6_readRoom 4 = .ok (.bipush 7, 2) := by decide +kernel
theorem dX6_readRoom_6 : decode cX6_readRoom 6 = .ok (.if_icmp .lt 9, 3) := by decide +kernel
theorem dX6_readRoom_15 : decode cX6_readRoom 15 = .ok (.aload_n 0, 1) := by decide +kernel
theorem dX6_readRoom_16 : decode cX6_readRoom 16 = .ok (.invokevirtual 33, 3) := by decide +kernel
theorem dX6_readRoom_19 : decode cX6_readRoom 19 = .ok (.aload_n 0, 1) := by decide +kernel
theorem dX6_readRoom_20 : decode cX6_readRoom 20 = .ok (.ldc 106, 2) := by decide +kernel
theorem dX6_readRoom_22 : decode cX6_readRoom 22 = .ok (.iconst 0, 1) := by decide +kernel
theorem dX6_readRoom_23 : decode cX6_readRoom 23 = .ok (.iconst 0, 1) := by decide +kernel
theorem dX6_readRoom_24 : decode cX6_readRoom 24 = .ok (.invokestatic 108, 3) := by decide +kernel
theorem dX6_readRoom_27 : decode cX6_readRoom 27 = .ok (.invokevirtual 85, 3) := by decide +kernel
theorem dX6_readRoom_30 : decode cX6_readRoom 30 = .ok (.istore_n 2, 1) := by decide +kernel
theorem dX6_readRoom_31 : decode cX6_readRoom 31 = .ok (.aload_n 0, 1) := by decide +kernel
theorem dX6_readRoom_32 : decode cX6_readRoom 32 = .ok (.getfield 27, 3) := by decide +kernel
theorem dX6_readRoom_53 : decode cX6_readRoom 53 = .ok (.istore_n 3, 1) := by decide +kernel
theorem dX6_readRoom_54 : decode cX6_readRoom 54 = .ok (.aload_n 0, 1) := by decide +kernel
theorem dX6_readRoom_55 : decode cX6_readRoom 55 = .ok (.getfield 27, 3) := by decide +kernel
theorem dX6_readRoom_76 : decode cX6_readRoom 76 = .ok (.istore 4, 2) := by decide +kernel
theorem dX6_readRoom_78 : decode cX6_readRoom 78 = .ok (.aload_n 0, 1) := by decide +kernel
theorem dX6_readRoom_79 : decode cX6_readRoom 79 = .ok (.getfield 27, 3) := by decide +kernel
theorem dX6_readRoom_82 : decode cX6_readRoom 82 = .ok (.ifCond .eq 5, 3) := by decide +kernel
theorem dX6_readRoom_87 : decode cX6_readRoom 87 = .ok (.aload_n 1, 1) := by decide +kernel
theorem dX6_readRoom_88 : decode cX6_readRoom 88 = .ok (.iload_n 2, 1) := by decide +kernel
theorem dX6_readRoom_89 : decode cX6_readRoom 89 = .ok (.iload_n 3, 1) := by decide +kernel
theorem dX6_readRoom_90 : decode cX6_readRoom 90 = .ok (.iload 4, 2) := by decide +kernel
theorem dX6_readRoom_92 : decode cX6_readRoom 92 = .ok (.invokevirtual 116, 3) := by decide +kernel
theorem dX6_readRoom_95 : decode cX6_readRoom 95 = .ok (.iconst 1, 1) := by decide +kernel
theorem dX6_readRoom_96 : decode cX6_readRoom 96 = .ok (.ireturn, 1) := by decide +kernel
theorem dX6_readRoom_85 : decode cX6_readRoom 85 = .ok (.iconst 0, 1) := by decide +kernel
theorem dX6_readRoom_86 : decode cX6_readRoom 86 = .ok (.ireturn, 1) := by decide +kernel
theorem dX6_readRoom_58 : decode cX6_readRoom 58 = .ok (.ifCond .ne 17, 3) := by decide +kernel
theorem dX6_readRoom_75 : decode cX6_readRoom 75 = .ok (.iconst (-1), 1) := by decide +kernel
theorem dX6_readRoom_61 : decode cX6_readRoom 61 = .ok (.aload_n 0, 1) := by decide +kernel
theorem dX6_readRoom_62 : decode cX6_readRoom 62 = .ok (.ldc 114, 2) := by decide +kernel
theorem dX6_readRoom_64 : decode cX6_readRoom 64 = .ok (.iconst 0, 1) := by decide +kernel
theorem dX6_readRoom_65 : decode cX6_readRoom 65 = .ok (.iconst 2, 1) := by decide +kernel
theorem dX6_readRoom_66 : decode cX6_readRoom 66 = .ok (.invokestatic 108, 3) := by decide +kernel
theorem dX6_readRoom_69 : decode cX6_readRoom 69 = .ok (.invokevirtual 85, 3) := by decide +kernel
theorem dX6_readRoom_72 : decode cX6_readRoom 72 = .ok (.goto 4, 3) := by decide +kernel
theorem dX6_readRoom_35 : decode cX6_readRoom 35 = .ok (.ifCond .ne 17, 3) := by decide +kernel
theorem dX6_readRoom_52 : decode cX6_readRoom 52 = .ok (.iconst (-1), 1) := by decide +kernel
theorem dX6_readRoom_38 : decode cX6_readRoom 38 = .ok (.aload_n 0, 1) := by decide +kernel
theorem dX6_readRoom_39 : decode cX6_readRoom 39 = .ok (.ldc 112, 2) := by decide +kernel
theorem dX6_readRoom_41 : decode cX6_readRoom 41 = .ok (.iconst 0, 1) := by decide +kernel
theorem dX6_readRoom_42 : decode cX6_readRoom 42 = .ok (.iconst 1, 1) := by decide +kernel
theorem dX6_readRoom_43 : decode cX6_readRoom 43 = .ok (.invokestatic 108, 3) := by decide +kernel
theorem dX6_readRoom_46 : decode cX6_readRoom 46 = .ok (.invokevirtual 85, 3) := by decide +kernel
theorem dX6_readRoom_49 : decode cX6_readRoom 49 = .ok (.goto 4, 3) := by decide +kernel
theorem dX6_readRoom_9 : decode cX6_readRoom 9 = .ok (.aload_n 0, 1) := by decide +kernel
theorem dX6_readRoom_10 : decode cX6_readRoom 10 = .ok (.iconst 3, 1) := by decide +kernel
theorem dX6_readRoom_11 : decode cX6_readRoom 11 = .ok (.invokevirtual 52, 3) := by decide +kernel
theorem dX6_readRoom_14 : decode cX6_readRoom 14 = .ok (.ireturn, 1) := by decide +kernel
theorem dX6_readDoor_0 : decode cX6_readDoor 0 = .ok (.aload_n 0, 1) := by decide +kernel
theorem dX6_readDoor_1 : decode cX6_readDoor 1 = .ok (.invokevirtual 33, 3) := by decide +kernel
theorem dX6_readDoor_4 : decode cX6_readDoor 4 = .ok (.aload_n 0, 1) := by decide +kernel
theorem dX6_readDoor_5 : decode cX6_readDoor 5 = .ok (.iconst 0, 1) := by decide +kernel
theorem dX6_readDoor_6 : decode cX6_readDoor 6 = .ok (.aload_n 1, 1) := by decide +kernel
theorem dX6_readDoor_7 : decode cX6_readDoor 7 = .ok (.getfield 103, 3) := by decide +kernel
theorem dX6_readDoor_10 : decode cX6_readDoor 10 = .ok (.iconst 1, 1) := by decide +kernel
theorem dX6_readDoor_11 : decode cX6_readDoor 11 = .ok (.isub, 1) := by decide +kernel
theorem dX6_readDoor_12 : decode cX6_readDoor 12 = .ok (.iconst (-1), 1) := by decide +kernel
theorem dX6_readDoor_13 : decode cX6_readDoor 13 = .ok (.invokevirtual 120, 3) := by decide +kernel
theorem dX6_readDoor_16 : decode cX6_readDoor 16 = .ok (.istore_n 2, 1) := by decide +kernel
theorem dX6_readDoor_17 : decode cX6_readDoor 17 = .ok (.aload_n 0, 1) := by decide +kernel
theorem dX6_readDoor_18 : decode cX6_readDoor 18 = .ok (.getfield 27, 3) := by decide +kernel
theorem dX6_readDoor_40 : decode cX6_readDoor 40 = .ok (.istore_n 3, 1) := by decide +kernel
theorem dX6_readDoor_41 : decode cX6_readDoor 41 = .ok (.aload_n 0, 1) := by decide +kernel
theorem dX6_readDoor_42 : decode cX6_readDoor 42 = .ok (.getfield 27, 3) := by decide +kernel
theorem dX6_readDoor_45 : decode cX6_readDoor 45 = .ok (.ifCond .eq 5, 3) := by decide +kernel
theorem dX6_readDoor_50 : decode cX6_readDoor 50 = .ok (.aload_n 1, 1) := by decide +kernel
theorem dX6_readDoor_51 : decode cX6_readDoor 51 = .ok (.iload_n 2, 1) := by decide +kernel
theorem dX6_readDoor_52 : decode cX6_readDoor 52 = .ok (.iload_n 3, 1) := by decide +kernel
theorem dX6_readDoor_53 : decode cX6_readDoor 53 = .ok (.invokevirtual 124, 3) := by decide +kernel
theorem dX6_readDoor_56 : decode cX6_readDoor 56 = .ok (.iconst 1, 1) := by decide +kernel
theorem dX6_readDoor_57 : decode cX6_readDoor 57 = .ok (.ireturn, 1) := by decide +kernel
theorem dX6_readDoor_48 : decode cX6_readDoor 48 = .ok (.iconst 0, 1) := by decide +kernel
theorem dX6_readDoor_49 : decode cX6_readDoor 49 = .ok (.ireturn, 1) := by decide +kernel
theorem dX6_readDoor_21 : decode cX6_readDoor 21 = .ok (.ifCond .ne 18, 3) := by decide +kernel
theorem dX6_readDoor_39 : decode cX6_readDoor 39 = .ok (.iconst (-1), 1) := by decide +kernel
theorem dX6_readDoor_24 : decode cX6_readDoor 24 = .ok (.aload_n 0, 1) := by decide +kernel
theorem dX6_readDoor_25 : decode cX6_readDoor 25 = .ok (.iconst 0, 1) := by decide +kernel
theorem dX6_readDoor_26 : decode cX6_readDoor 26 = .ok (.aload_n 1, 1) := by decide +kernel
theorem dX6_readDoor_27 : decode cX6_readDoor 27 = .ok (.getfield 103, 3) := by decide +kernel
theorem dX6_readDoor_30 : decode cX6_readDoor 30 = .ok (.iconst 1, 1) := by decide +kernel
theorem dX6_readDoor_31 : decode cX6_readDoor 31 = .ok (.isub, 1) := by decide +kernel
theorem dX6_readDoor_32 : decode cX6_readDoor 32 = .ok (.iload_n 2, 1) := by decide +kernel
theorem dX6_readDoor_33 : decode cX6_readDoor 33 = .ok (.invokevirtual 120, 3) := by decide +kernel
theorem dX6_readDoor_36 : decode cX6_readDoor 36 = .ok (.goto 4, 3) := by decide +kernel
theorem dX6_readMan_0 : decode cX6_readMan 0 = .ok (.aload_n 1, 1) := by decide +kernel
theorem dX6_readMan_1 : decode cX6_readMan 1 = .ok (.getfield 128, 3) := by decide +kernel
theorem dX6_readMan_4 : decode cX6_readMan 4 = .ok (.bipush 6, 2) := by decide +kernel
theorem dX6_readMan_6 : decode cX6_readMan 6 = .ok (.if_icmp .lt 9, 3) := by decide +kernel
theorem dX6_readMan_15 : decode cX6_readMan 15 = .ok (.aload_n 0, 1) := by decide +kernel
theorem dX6_readMan_16 : decode cX6_readMan 16 = .ok (.invokevirtual 33, 3) := by decide +kernel
theorem dX6_readMan_19 : decode cX6_readMan 19 = .ok (.aload_n 0, 1) := by decide +kernel
theorem dX6_readMan_20 : decode cX6_readMan 20 = .ok (.ldc 131, 2) := by decide +kernel
theorem dX6_readMan_22 : decode cX6_readMan 22 = .ok (.iconst 1, 1) := by decide +kernel
theorem dX6_readMan_23 : decode cX6_readMan 23 = .ok (.bipush 99, 2) := by decide +kernel
theorem dX6_readMan_25 : decode cX6_readMan 25 = .ok (.invokevirtual 85, 3) := by decide +kernel
theorem dX6_readMan_28 : decode cX6_readMan 28 = .ok (.istore_n 2, 1) := by decide +kernel
theorem dX6_readMan_29 : decode cX6_readMan 29 = .ok (.iconst 0, 1) := by decide +kernel
theorem dX6_readMan_30 : decode cX6_readMan 30 = .ok (.istore_n 3, 1) := by decide +kernel
theorem dX6_readMan_31 : decode cX6_readMan 31 = .ok (.aload_n 0, 1) := by decide +kernel
theorem dX6_readMan_32 : decode cX6_readMan 32 = .ok (.getfield 27, 3) := by decide +kernel
theorem dX6_readMan_56 : decode cX6_readMan 56 = .ok (.aload_n 0, 1) := by decide +kernel
theorem dX6_readMan_57 : decode cX6_readMan 57 = .ok (.getfield 27, 3) := by decide +kernel
theorem dX6_readMan_60 : decode cX6_readMan 60 = .ok (.ifCond .eq 5, 3) := by decide +kernel
theorem dX6_readMan_65 : decode cX6_readMan 65 = .ok (.aload_n 1, 1) := by decide +kernel
theorem dX6_readMan_66 : decode cX6_readMan 66 = .ok (.iload_n 2, 1) := by decide +kernel
theorem dX6_readMan_67 : decode cX6_readMan 67 = .ok (.iload_n 3, 1) := by decide +kernel
theorem dX6_readMan_68 : decode cX6_readMan 68 = .ok (.invokevirtual 139, 3) := by decide +kernel
theorem dX6_readMan_71 : decode cX6_readMan 71 = .ok (.iconst 1, 1) := by decide +kernel
theorem dX6_readMan_72 : decode cX6_readMan 72 = .ok (.ireturn, 1) := by decide +kernel
theorem dX6_readMan_63 : decode cX6_readMan 63 = .ok (.iconst 0, 1) := by decide +kernel
theorem dX6_readMan_64 : decode cX6_readMan 64 = .ok (.ireturn, 1) := by decide +kernel
theorem dX6_readMan_35 : decode cX6_readMan 35 = .ok (.ifCond .ne 21, 3) := by decide +kernel
theorem dX6_readMan_38 : decode cX6_readMan 38 = .ok (.aload_n 0, 1) := by decide +kernel
theorem dX6_readMan_39 : decode cX6_readMan 39 = .ok (.ldc 133, 2) := by decide +kernel
theorem dX6_readMan_41 : decode cX6_readMan 41 = .ok (.invokevirtual 48, 3) := by decide +kernel
theorem dX6_readMan_44 : decode cX6_readMan 44 = .ok (.ifCond .eq 12, 3) := by decide +kernel
theorem dX6_readMan_47 : decode cX6_readMan 47 = .ok (.aload_n 0, 1) := by decide +kernel
theorem dX6_readMan_48 : decode cX6_readMan 48 = .ok (.invokevirtual 33, 3) := by decide +kernel
theorem dX6_readMan_51 : decode cX6_readMan 51 = .ok (.aload_n 0, 1) := by decide +kernel
theorem dX6_readMan_52 : decode cX6_readMan 52 = .ok (.invokevirtual 135, 3) := by decide +kernel
theorem dX6_readMan_55 : decode cX6_readMan 55 = .ok (.istore_n 3, 1) := by decide +kernel
theorem dX6_readMan_9 : decode cX6_readMan 9 = .ok (.aload_n 0, 1) := by decide +kernel
theorem dX6_readMan_10 : decode cX6_readMan 10 = .ok (.iconst 3, 1) := by decide +kernel
theorem dX6_readMan_11 : decode cX6_readMan 11 = .ok (.invokevirtual 52, 3) := by decide +kernel
theorem dX6_readMan_14 : decode cX6_readMan 14 = .ok (.ireturn, 1) := by decide +kernel
theorem dX6_readSlate_0 : decode cX6_readSlate 0 = .ok (.aload_n 0, 1) := by decide +kernel
theorem dX6_readSlate_1 : decode cX6_readSlate 1 = .ok (.invokevirtual 33, 3) := by decide +kernel
theorem dX6_readSlate_4 : decode cX6_readSlate 4 = .ok (.aload_n 0, 1) := by decide +kernel
theorem dX6_readSlate_5 : decode cX6_readSlate 5 = .ok (.iconst 0, 1) := by decide +kernel
theorem dX6_readSlate_6 : decode cX6_readSlate 6 = .ok (.aload_n 1, 1) := by decide +kernel
theorem dX6_readSlate_7 : decode cX6_readSlate 7 = .ok (.getfield 128, 3) := by decide +kernel
theorem dX6_readSlate_10 : decode cX6_readSlate 10 = .ok (.iconst 1, 1) := by decide +kernel
theorem dX6_readSlate_11 : decode cX6_readSlate 11 = .ok (.isub, 1) := by decide +kernel
theorem dX6_readSlate_12 : decode cX6_readSlate 12 = .ok (.iconst (-1), 1) := by decide +kernel
theorem dX6_readSlate_13 : decode cX6_readSlate 13 = .ok (.invokevirtual 120, 3) := by decide +kernel
theorem dX6_readSlate_16 : decode cX6_readSlate 16 = .ok (.istore_n 2, 1) := by decide +kernel
theorem dX6_readSlate_17 : decode cX6_readSlate 17 = .ok (.aload_n 0, 1) := by decide +kernel
theorem dX6_readSlate_18 : decode cX6_readSlate 18 = .ok (.getfield 27, 3) := by decide +kernel
theorem dX6_readSlate_41 : decode cX6_readSlate 41 = .ok (.istore_n 3, 1) := by decide +kernel
theorem dX6_readSlate_42 : decode cX6_readSlate 42 = .ok (.aload_n 0, 1) := by decide +kernel
theorem dX6_readSlate_43 : decode cX6_readSlate 43 = .ok (.getfield 27, 3) := by decide +kernel
theorem dX6_readSlate_61 : decode cX6_readSlate 61 = .ok (.istore 4, 2) := by decide +kernel
theorem dX6_readSlate_63 : decode cX6_readSlate 63 = .ok (.aload_n 0, 1) := by decide +kernel
theorem dX6_readSlate_64 : decode cX6_readSlate 64 = .ok (.getfield 27, 3) := by decide +kernel
theorem dX6_readSlate_67 : decode cX6_readSlate 67 = .ok (.ifCond .eq 5, 3) := by decide +kernel
theorem dX6_readSlate_72 : decode cX6_readSlate 72 = .ok (.aload_n 1, 1) := by decide +kernel
theorem dX6_readSlate_73 : decode cX6_readSlate 73 = .ok (.iload_n 2, 1) := by decide +kernel
theorem dX6_readSlate_74 : decode cX6_readSlate 74 = .ok (.iload_n 3, 1) := by decide +kernel
theorem dX6_readSlate_75 : decode cX6_readSlate 75 = .ok (.iload 4, 2) := by decide +kernel
theorem dX6_readSlate_77 : decode cX6_readSlate 77 = .ok (.invokevirtual 144, 3) := by decide +kernel
theorem dX6_readSlate_80 : decode cX6_readSlate 80 = .ok (.iconst 1, 1) := by decide +kernel
theorem dX6_readSlate_81 : decode cX6_readSlate 81 = .ok (.ireturn, 1) := by decide +kernel
theorem dX6_readSlate_70 : decode cX6_readSlate 70 = .ok (.iconst 0, 1) := by decide +kernel
theorem dX6_readSlate_71 : decode cX6_readSlate 71 = .ok (.ireturn, 1) := by decide +kernel
theorem dX6_readSlate_46 : decode cX6_readSlate 46 = .ok (.ifCond .ne 14, 3) := by decide +kernel
theorem dX6_readSlate_60 : decode cX6_readSlate 60 = .ok (.iconst (-1), 1) := by decide +kernel
theorem dX6_readSlate_49 : decode cX6_readSlate 49 = .ok (.aload_n 0, 1) := by decide +kernel
theorem dX6_readSlate_50 : decode cX6_readSlate 50 = .ok (.iconst 0, 1) := by decide +kernel
theorem dX6_readSlate_51 : decode cX6_readSlate 51 = .ok (.bipush 9, 2) := by decide +kernel
theorem dX6_readSlate_53 : decode cX6_readSlate 53 = .ok (.iconst (-1), 1) := by decide +kernel
theorem dX6_readSlate_54 : decode cX6_readSlate 54 = .ok (.invokevirtual 120, 3) := by decide +kernel
theorem dX6_readSlate_57 : decode cX6_readSlate 57 = .ok (.goto 4, 3) := by decide +kernel
theorem dX6_readSlate_21 : decode cX6_readSlate 21 = .ok (.ifCond .ne 19, 3) := by decide +kernel
theorem dX6_readSlate_40 : decode cX6_readSlate 40 = .ok (.iconst (-1), 1) := by decide +kernel
theorem dX6_readSlate_24 : decode cX6_readSlate 24 = .ok (.aload_n 0, 1) := by decide +kernel
theorem dX6_readSlate_25 : decode cX6_readSlate 25 = .ok (.ldc 142, 2) := by decide +kernel
theorem dX6_readSlate_27 : decode cX6_readSlate 27 = .ok (.iconst 0, 1) := by decide +kernel
theorem dX6_readSlate_28 : decode cX6_readSlate 28 = .ok (.aload_n 1, 1) := by decide +kernel
theorem dX6_readSlate_29 : decode cX6_readSlate 29 = .ok (.getfield 128, 3) := by decide +kernel
theorem dX6_readSlate_32 : decode cX6_readSlate 32 = .ok (.iconst 1, 1) := by decide +kernel
theorem dX6_readSlate_33 : decode cX6_readSlate 33 = .ok (.isub, 1) := by decide +kernel
theorem dX6_readSlate_34 : decode cX6_readSlate 34 = .ok (.invokevirtual 85, 3) := by decide +kernel
theorem dX6_readSlate_37 : decode cX6_readSlate 37 = .ok (.goto 4, 3) := by decide +kernel
theorem dX6_readLine_0 : decode cX6_readLine 0 = .ok (.aload_n 1, 1) := by decide +kernel
theorem dX6_readLine_1 : decode cX6_readLine 1 = .ok (.getfield 43, 3) := by decide +kernel
theorem dX6_readLine_12 : decode cX6_readLine 12 = .ok (.istore_n 2, 1) := by decide +kernel
theorem dX6_readLine_13 : decode cX6_readLine 13 = .ok (.iload_n 2, 1) := by decide +kernel
theorem dX6_readLine_14 : decode cX6_readLine 14 = .ok (.aload_n 0, 1) := by decide +kernel
theorem dX6_readLine_15 : decode cX6_readLine 15 = .ok (.ldc 46, 2) := by decide +kernel
theorem dX6_readLine_17 : decode cX6_readLine 17 = .ok (.invokevirtual 48, 3) := by decide +kernel
theorem dX6_readLine_123 : decode cX6_readLine 123 = .ok (.iload_n 3, 1) := by decide +kernel
theorem dX6_readLine_124 : decode cX6_readLine 124 = .ok (.ifCond .eq 10, 3) := by decide +kernel
theorem dX6_readLine_134 : decode cX6_readLine 134 = .ok (.iconst 0, 1) := by decide +kernel
theorem dX6_readLine_135 : decode cX6_readLine 135 = .ok (.ireturn, 1) := by decide +kernel
theorem dX6_readLine_127 : decode cX6_readLine 127 = .ok (.aload_n 0, 1) := by decide +kernel
theorem dX6_readLine_128 : decode cX6_readLine 128 = .ok (.invokevirtual 79, 3) := by decide +kernel
theorem dX6_readLine_131 : decode cX6_readLine 131 = .ok (.ifCond .ne 5, 3) := by decide +kernel
theorem dX6_readLine_136 : decode cX6_readLine 136 = .ok (.aload_n 1, 1) := by decide +kernel
theorem dX6_readLine_137 : decode cX6_readLine 137 = .ok (.dup, 1) := by decide +kernel
theorem dX6_readLine_138 : decode cX6_readLine 138 = .ok (.getfield 43, 3) := by decide +kernel
theorem dX6_readLine_141 : decode cX6_readLine 141 = .ok (.iconst 1, 1) := by decide +kernel
theorem dX6_readLine_142 : decode cX6_readLine 142 = .ok (.iadd, 1) := by decide +kernel
theorem dX6_readLine_143 : decode cX6_readLine 143 = .ok (.putfield 43, 3) := by decide +kernel
theorem dX6_readLine_146 : decode cX6_readLine 146 = .ok (.iconst 1, 1) := by decide +kernel
theorem dX6_readLine_147 : decode cX6_readLine 147 = .ok (.ireturn, 1) := by decide +kernel
theorem dX6_readLine_20 : decode cX6_readLine 20 = .ok (.if_icmp .eq 12, 3) := by decide +kernel
theorem dX6_readLine_32 : decode cX6_readLine 32 = .ok (.iload_n 2, 1) := by decide +kernel
theorem dX6_readLine_33 : decode cX6_readLine 33 = .ok (.ifCond .eq 12, 3) := by decide +kernel
theorem dX6_readLine_45 : decode cX6_readLine 45 = .ok (.aload_n 0, 1) := by decide +kernel
theorem dX6_readLine_46 : decode cX6_readLine 46 = .ok (.ldc 59, 2) := by decide +kernel
theorem dX6_readLine_48 : decode cX6_readLine 48 = .ok (.invokevirtual 48, 3) := by decide +kernel
theorem dX6_readLine_51 : decode cX6_readLine 51 = .ok (.ifCond .eq 12, 3) := by decide +kernel
theorem dX6_readLine_63 : decode cX6_readLine 63 = .ok (.aload_n 0, 1) := by decide +kernel
theorem dX6_readLine_64 : decode cX6_readLine 64 = .ok (.ldc 64, 2) := by decide +kernel
theorem dX6_readLine_66 : decode cX6_readLine 66 = .ok (.invokevirtual 48, 3) := by decide +kernel
theorem dX6_readLine_69 : decode cX6_readLine 69 = .ok (.ifCond .eq 12, 3) := by decide +kernel
theorem dX6_readLine_81 : decode cX6_readLine 81 = .ok (.aload_n 0, 1) := by decide +kernel
theorem dX6_readLine_82 : decode cX6_readLine 82 = .ok (.ldc 69, 2) := by decide +kernel
theorem dX6_readLine_84 : decode cX6_readLine 84 = .ok (.invokevirtual 48, 3) := by decide +kernel
theorem dX6_readLine_87 : decode cX6_readLine 87 = .ok (.ifCond .eq 12, 3) := by decide +kernel
theorem dX6_readLine_99 : decode cX6_readLine 99 = .ok (.aload_n 0, 1) := by decide +kernel
theorem dX6_readLine_100 : decode cX6_readLine 100 = .ok (.ldc 74, 2) := by decide +kernel
theorem dX6_readLine_102 : decode cX6_readLine 102 = .ok (.invokevirtual 48, 3) := by decide +kernel
theorem dX6_readLine_105 : decode cX6_readLine 105 = .ok (.ifCond .eq 12, 3) := by decide +kernel
theorem dX6_readLine_117 : decode cX6_readLine 117 = .ok (.aload_n 0, 1) := by decide +kernel
theorem dX6_readLine_118 : decode cX6_readLine 118 = .ok (.iconst 1, 1) := by decide +kernel
theorem dX6_readLine_119 : decode cX6_readLine 119 = .ok (.invokevirtual 52, 3) := by decide +kernel
theorem dX6_readLine_122 : decode cX6_readLine 122 = .ok (.istore_n 3, 1) := by decide +kernel
theorem dX6_readLine_108 : decode cX6_readLine 108 = .ok (.aload_n 0, 1) := by decide +kernel
theorem dX6_readLine_109 : decode cX6_readLine 109 = .ok (.aload_n 1, 1) := by decide +kernel
theorem dX6_readLine_110 : decode cX6_readLine 110 = .ok (.invokevirtual 76, 3) := by decide +kernel
theorem dX6_readLine_113 : decode cX6_readLine 113 = .ok (.istore_n 3, 1) := by decide +kernel
theorem dX6_readLine_114 : decode cX6_readLine 114 = .ok (.goto 9, 3) := by decide +kernel
theorem dX6_readLine_90 : decode cX6_readLine 90 = .ok (.aload_n 0, 1) := by decide +kernel
theorem dX6_readLine_91 : decode cX6_readLine 91 = .ok (.aload_n 1, 1) := by decide +kernel
theorem dX6_readLine_92 : decode cX6_readLine 92 = .ok (.invokevirtual 71, 3) := by decide +kernel
theorem dX6_readLine_95 : decode cX6_readLine 95 = .ok (.istore_n 3, 1) := by decide +kernel
theorem dX6_readLine_96 : decode cX6_readLine 96 = .ok (.goto 27, 3) := by decide +kernel
theorem dX6_readLine_72 : decode cX6_readLine 72 = .ok (.aload_n 0, 1) := by decide +kernel
theorem dX6_readLine_73 : decode cX6_readLine 73 = .ok (.aload_n 1, 1) := by decide +kernel
theorem dX6_readLine_74 : decode cX6_readLine 74 = .ok (.invokevirtual 66, 3) := by decide +kernel
theorem dX6_readLine_77 : decode cX6_readLine 77 = .ok (.istore_n 3, 1) := by decide +kernel
theorem dX6_readLine_78 : decode cX6_readLine 78 = .ok (.goto 45, 3) := by decide +kernel
theorem dX6_readLine_54 : decode cX6_readLine 54 = .ok (.aload_n 0, 1) := by decide +kernel
theorem dX6_readLine_55 : decode cX6_readLine 55 = .ok (.aload_n 1, 1) := by decide +kernel
theorem dX6_readLine_56 : decode cX6_readLine 56 = .ok (.invokevirtual 61, 3) := by decide +kernel
theorem dX6_readLine_59 : decode cX6_readLine 59 = .ok (.istore_n 3, 1) := by decide +kernel
theorem dX6_readLine_60 : decode cX6_readLine 60 = .ok (.goto 63, 3) := by decide +kernel
theorem dX6_readLine_36 : decode cX6_readLine 36 = .ok (.aload_n 0, 1) := by decide +kernel
theorem dX6_readLine_37 : decode cX6_readLine 37 = .ok (.aload_n 1, 1) := by decide +kernel
theorem dX6_readLine_38 : decode cX6_readLine 38 = .ok (.invokevirtual 56, 3) := by decide +kernel
theorem dX6_readLine_41 : decode cX6_readLine 41 = .ok (.istore_n 3, 1) := by decide +kernel
theorem dX6_readLine_42 : decode cX6_readLine 42 = .ok (.goto 81, 3) := by decide +kernel
theorem dX6_readLine_23 : decode cX6_readLine 23 = .ok (.aload_n 0, 1) := by decide +kernel
theorem dX6_readLine_24 : decode cX6_readLine 24 = .ok (.iconst 1, 1) := by decide +kernel
theorem dX6_readLine_25 : decode cX6_readLine 25 = .ok (.invokevirtual 52, 3) := by decide +kernel
theorem dX6_readLine_28 : decode cX6_readLine 28 = .ok (.istore_n 3, 1) := by decide +kernel
theorem dX6_readLine_29 : decode cX6_readLine 29 = .ok (.goto 94, 3) := by decide +kernel
theorem dX6_readLine_4 : decode cX6_readLine 4 = .ok (.ifCond .ne 7, 3) := by decide +kernel
theorem dX6_readLine_11 : decode cX6_readLine 11 = .ok (.iconst 0, 1) := by decide +kernel
theorem dX6_readLine_7 : decode cX6_readLine 7 = .ok (.iconst 1, 1) := by decide +kernel
theorem dX6_readLine_8 : decode cX6_readLine 8 = .ok (.goto 4, 3) := by decide +kernel
theorem dX6_readHouse_0 : decode cX6_readHouse 0 = .ok (.aload_n 1, 1) := by decide +kernel
theorem dX6_readHouse_1 : decode cX6_readHouse 1 = .ok (.invokevirtual 22, 3) := by decide +kernel
theorem dX6_readHouse_4 : decode cX6_readHouse 4 = .ok (.aload_n 0, 1) := by decide +kernel
theorem dX6_readHouse_5 : decode cX6_readHouse 5 = .ok (.iconst 0, 1) := by decide +kernel
theorem dX6_readHouse_6 : decode cX6_readHouse 6 = .ok (.putfield 27, 3) := by decide +kernel
theorem dX6_readHouse_9 : decode cX6_readHouse 9 = .ok (.aload_n 0, 1) := by decide +kernel
theorem dX6_readHouse_10 : decode cX6_readHouse 10 = .ok (.iconst (-1), 1) := by decide +kernel
theorem dX6_readHouse_11 : decode cX6_readHouse 11 = .ok (.putfield 18, 3) := by decide +kernel
theorem dX6_readHouse_14 : decode cX6_readHouse 14 = .ok (.aload_n 0, 1) := by decide +kernel
theorem dX6_readHouse_15 : decode cX6_readHouse 15 = .ok (.iconst 0, 1) := by decide +kernel
theorem dX6_readHouse_16 : decode cX6_readHouse 16 = .ok (.putfield 30, 3) := by decide +kernel
theorem dX6_readHouse_19 : decode cX6_readHouse 19 = .ok (.aload_n 0, 1) := by decide +kernel
theorem dX6_readHouse_20 : decode cX6_readHouse 20 = .ok (.invokevirtual 33, 3) := by decide +kernel
theorem dX6_readHouse_23 : decode cX6_readHouse 23 = .ok (.iconst 0, 1) := by decide +kernel
theorem dX6_readHouse_24 : decode cX6_readHouse 24 = .ok (.istore_n 2, 1) := by decide +kernel
theorem dX6_readHouse_25 : decode cX6_readHouse 25 = .ok (.iload_n 2, 1) := by decide +kernel
theorem dX6_readHouse_26 : decode cX6_readHouse 26 = .ok (.sipush 900, 3) := by decide +kernel
theorem dX6_readHouse_29 : decode cX6_readHouse 29 = .ok (.if_icmp .gt 26, 3) := by decide +kernel
theorem dX6_readHouse_55 : decode cX6_readHouse 55 = .ok (.iconst 1, 1) := by decide +kernel
theorem dX6_readHouse_56 : decode cX6_readHouse 56 = .ok (.ireturn, 1) := by decide +kernel
theorem dX6_readHouse_32 : decode cX6_readHouse 32 = .ok (.aload_n 0, 1) := by decide +kernel
theorem dX6_readHouse_33 : decode cX6_readHouse 33 = .ok (.getfield 36, 3) := by decide +kernel
theorem dX6_readHouse_36 : decode cX6_readHouse 36 = .ok (.ifCond .eq 19, 3) := by decide +kernel
theorem dX6_readHouse_39 : decode cX6_readHouse 39 = .ok (.aload_n 0, 1) := by decide +kernel
theorem dX6_readHouse_40 : decode cX6_readHouse 40 = .ok (.aload_n 1, 1) := by decide +kernel
theorem dX6_readHouse_41 : decode cX6_readHouse 41 = .ok (.invokevirtual 39, 3) := by decide +kernel
theorem dX6_readHouse_44 : decode cX6_readHouse 44 = .ok (.ifCond .ne 5, 3) := by decide +kernel
theorem dX6_readHouse_49 : decode cX6_readHouse 49 = .ok (.iinc 2 1, 3) := by decide +kernel
theorem dX6_readHouse_52 : decode cX6_readHouse 52 = .ok (.goto (-27), 3) := by decide +kernel
theorem dX6_readHouse_47 : decode cX6_readHouse 47 = .ok (.iconst 0, 1) := by decide +kernel
theorem dX6_readHouse_48 : decode cX6_readHouse 48 = .ok (.ireturn, 1) := by decide +kernel
theorem dX2_next_0 : decode cX2_next 0 = .ok (.aload_n 0, 1) := by decide +kernel
theorem dX2_next_1 : decode cX2_next 1 = .ok (.ldc2_w 72, 3) := by decide +kernel
theorem dX2_next_4 : decode cX2_next 4 = .ok (.aload_n 0, 1) := by decide +kernel
theorem dX2_next_5 : decode cX2_next 5 = .ok (.getfield 9, 3) := by decide +kernel
theorem dX2_next_8 : decode cX2_next 8 = .ok (.lmul, 1) := by decide +kernel
theorem dX2_next_9 : decode cX2_next 9 = .ok (.ldc2_w 74, 3) := by decide +kernel
theorem dX2_next_12 : decode cX2_next 12 = .ok (.ladd, 1) := by decide +kernel
theorem dX2_next_13 : decode cX2_next 13 = .ok (.ldc2_w 76, 3) := by decide +kernel
theorem dX2_next_16 : decode cX2_next 16 = .ok (.lrem, 1) := by decide +kernel
theorem dX2_next_17 : decode cX2_next 17 = .ok (.putfield 9, 3) := by decide +kernel
theorem dX2_next_20 : decode cX2_next 20 = .ok (.iload_n 1, 1) := by decide +kernel
theorem dX2_next_21 : decode cX2_next 21 = .ok (.iconst 1, 1) := by decide +kernel
theorem dX2_next_22 : decode cX2_next 22 = .ok (.if_icmp .ge 7, 3) := by decide +kernel
theorem dX2_next_29 : decode cX2_next 29 = .ok (.aload_n 0, 1) := by decide +kernel
theorem dX2_next_30 : decode cX2_next 30 = .ok (.getfield 9, 3) := by decide +kernel
theorem dX2_next_33 : decode cX2_next 33 = .ok (.ldc2_w 78, 3) := by decide +kernel
theorem dX2_next_36 : decode cX2_next 36 = .ok (.ldiv, 1) := by decide +kernel
theorem dX2_next_37 : decode cX2_next 37 = .ok (.iload_n 1, 1) := by decide +kernel
theorem dX2_next_38 : decode cX2_next 38 = .ok (.i2l, 1) := by decide +kernel
theorem dX2_next_39 : decode cX2_next 39 = .ok (.lrem, 1) := by decide +kernel
theorem dX2_next_40 : decode cX2_next 40 = .ok (.l2i, 1) := by decide +kernel
theorem dX2_next_41 : decode cX2_next 41 = .ok (.ireturn, 1) := by decide +kernel
theorem dX2_next_25 : decode cX2_next 25 = .ok (.iconst 0, 1) := by decide +kernel
theorem dX2_next_26 : decode cX2_next 26 = .ok (.goto 15, 3) := by decide +kernel
theorem dX2_takeSeat_0 : decode cX2_takeSeat 0 = .ok (.aload_n 0, 1) := by decide +kernel
theorem dX2_takeSeat_1 : decode cX2_takeSeat 1 = .ok (.bipush 100, 2) := by decide +kernel
theorem dX2_takeSeat_3 : decode cX2_takeSeat 3 = .ok (.invokevirtual 35, 3) := by decide +kernel
theorem dX2_takeSeat_6 : decode cX2_takeSeat 6 = .ok (.aload_n 1, 1) := by decide +kernel
theorem dX2_takeSeat_7 : decode cX2_takeSeat 7 = .ok (.getfield 48, 3) := by decide +kernel
theorem dX2_takeSeat_10 : decode cX2_takeSeat 10 = .ok (.if_icmp .lt 5, 3) := by decide +kernel
theorem dX2_takeSeat_15 : decode cX2_takeSeat 15 = .ok (.aload_n 1, 1) := by decide +kernel
theorem dX2_takeSeat_16 : decode cX2_takeSeat 16 = .ok (.invokevirtual 51, 3) := by decide +kernel
theorem dX2_takeSeat_19 : decode cX2_takeSeat 19 = .ok (.istore_n 2, 1) := by decide +kernel
theorem dX2_takeSeat_20 : decode cX2_takeSeat 20 = .ok (.iload_n 2, 1) := by decide +kernel
theorem dX2_takeSeat_21 : decode cX2_takeSeat 21 = .ok (.ifCond .ne 5, 3) := by decide +kernel
theorem dX2_takeSeat_26 : decode cX2_takeSeat 26 = .ok (.aload_n 0, 1) := by decide +kernel
theorem dX2_takeSeat_27 : decode cX2_takeSeat 27 = .ok (.iload_n 2, 1) := by decide +kernel
theorem dX2_takeSeat_28 : decode cX2_takeSeat 28 = .ok (.invokevirtual 35, 3) := by decide +kernel
theorem dX2_takeSeat_31 : decode cX2_takeSeat 31 = .ok (.istore_n 3, 1) := by decide +kernel
theorem dX2_takeSeat_32 : decode cX2_takeSeat 32 = .ok (.iconst 0, 1) := by decide +kernel
theorem dX2_takeSeat_33 : decode cX2_takeSeat 33 = .ok (.istore 4, 2) := by decide +kernel
theorem dX2_takeSeat_35 : decode cX2_takeSeat 35 = .ok (.iconst 0, 1) := by decide +kernel
theorem dX2_takeSeat_36 : decode cX2_takeSeat 36 = .ok (.istore 5, 2) := by decide +kernel
theorem dX2_takeSeat_38 : decode cX2_takeSeat 38 = .ok (.iload 5, 2) := by decide +kernel
theorem dX2_takeSeat_40 : decode cX2_takeSeat 40 = .ok (.aload_n 1, 1) := by decide +kernel
theorem dX2_takeSeat_41 : decode cX2_takeSeat 41 = .ok (.getfield 55, 3) := by decide +kernel
theorem dX2_takeSeat_44 : decode cX2_takeSeat 44 = .ok (.if_icmp .ge 30, 3) := by decide +kernel
theorem dX2_takeSeat_74 : decode cX2_takeSeat 74 = .ok (.iconst (-1), 1) := by decide +kernel
theorem dX2_takeSeat_75 : decode cX2_takeSeat 75 = .ok (.ireturn, 1) := by decide +kernel
theorem dX2_takeSeat_47 : decode cX2_takeSeat 47 = .ok (.iload 4, 2) := by decide +kernel
theorem dX2_takeSeat_49 : decode cX2_takeSeat 49 = .ok (.aload_n 1, 1) := by decide +kernel
theorem dX2_takeSeat_50 : decode cX2_takeSeat 50 = .ok (.getfield 58, 3) := by decide +kernel
theorem dX2_takeSeat_53 : decode cX2_takeSeat 53 = .ok (.iload 5, 2) := by decide +kernel
theorem dX2_takeSeat_55 : decode cX2_takeSeat 55 = .ok (.iaload, 1) := by decide +kernel
theorem dX2_takeSeat_56 : decode cX2_takeSeat 56 = .ok (.iadd, 1) := by decide +kernel
theorem dX2_takeSeat_57 : decode cX2_takeSeat 57 = .ok (.istore 4, 2) := by decide +kernel
theorem dX2_takeSeat_59 : decode cX2_takeSeat 59 = .ok (.iload 4, 2) := by decide +kernel
theorem dX2_takeSeat_61 : decode cX2_takeSeat 61 = .ok (.iload_n 3, 1) := by decide +kernel
theorem dX2_takeSeat_62 : decode cX2_takeSeat 62 = .ok (.if_icmp .le 6, 3) := by decide +kernel
theorem dX2_takeSeat_68 : decode cX2_takeSeat 68 = .ok (.iinc 5 1, 3) := by decide +kernel
theorem dX2_takeSeat_71 : decode cX2_takeSeat 71 = .ok (.goto (-33), 3) := by decide +kernel
theorem dX2_takeSeat_65 : decode cX2_takeSeat 65 = .ok (.iload 5, 2) := by decide +kernel
theorem dX2_takeSeat_67 : decode cX2_takeSeat 67 = .ok (.ireturn, 1) := by decide +kernel
theorem dX2_takeSeat_24 : decode cX2_takeSeat 24 = .ok (.iconst (-1), 1) := by decide +kernel
theorem dX2_takeSeat_25 : decode cX2_takeSeat 25 = .ok (.ireturn, 1) := by decide +kernel
theorem dX2_takeSeat_13 : decode cX2_takeSeat 13 = .ok (.iconst (-1), 1) := by decide +kernel
theorem dX2_takeSeat_14 : decode cX2_takeSeat 14 = .ok (.ireturn, 1) := by decide +kernel
theorem dX2_move_0 : decode cX2_move 0 = .ok (.aload_n 1, 1) := by decide +kernel
theorem dX2_move_1 : decode cX2_move 1 = .ok (.getfield 61, 3) := by decide +kernel
theorem dX2_move_4 : decode cX2_move 4 = .ok (.aload_n 0, 1) := by decide +kernel
theorem dX2_move_5 : decode cX2_move 5 = .ok (.getfield 23, 3) := by decide +kernel
theorem dX2_move_8 : decode cX2_move 8 = .ok (.iaload, 1) := by decide +kernel
theorem dX2_move_9 : decode cX2_move 9 = .ok (.istore_n 2, 1) := by decide +kernel
theorem dX2_move_10 : decode cX2_move 10 = .ok (.iload_n 2, 1) := by decide +kernel
theorem dX2_move_11 : decode cX2_move 11 = .ok (.ifCond .eq 16, 3) := by decide +kernel
theorem dX2_move_27 : decode cX2_move 27 = .ok (.return_, 1) := by decide +kernel
theorem dX2_move_14 : decode cX2_move 14 = .ok (.aload_n 0, 1) := by decide +kernel
theorem dX2_move_15 : decode cX2_move 15 = .ok (.bipush 100, 2) := by decide +kernel
theorem dX2_move_17 : decode cX2_move 17 = .ok (.invokevirtual 35, 3) := by decide +kernel
theorem dX2_move_20 : decode cX2_move 20 = .ok (.aload_n 1, 1) := by decide +kernel
theorem dX2_move_21 : decode cX2_move 21 = .ok (.getfield 64, 3) := by decide +kernel
theorem dX2_move_24 : decode cX2_move 24 = .ok (.if_icmp .lt 4, 3) := by decide +kernel
theorem dX2_move_28 : decode cX2_move 28 = .ok (.aload_n 0, 1) := by decide +kernel
theorem dX2_move_29 : decode cX2_move 29 = .ok (.iload_n 2, 1) := by decide +kernel
theorem dX2_move_30 : decode cX2_move 30 = .ok (.invokestatic 67, 3) := by decide +kernel
theorem dX2_move_33 : decode cX2_move 33 = .ok (.invokevirtual 35, 3) := by decide +kernel
theorem dX2_move_36 : decode cX2_move 36 = .ok (.istore_n 3, 1) := by decide +kernel
theorem dX2_move_37 : decode cX2_move 37 = .ok (.iconst 0, 1) := by decide +kernel
theorem dX2_move_38 : decode cX2_move 38 = .ok (.istore 4, 2) := by decide +kernel
theorem dX2_move_40 : decode cX2_move 40 = .ok (.iload 4, 2) := by decide +kernel
theorem dX2_move_42 : decode cX2_move 42 = .ok (.aload_n 1, 1) := by decide +kernel
theorem dX2_move_43 : decode cX2_move 43 = .ok (.getfield 55, 3) := by decide +kernel
theorem dX2_move_46 : decode cX2_move 46 = .ok (.if_icmp .ge 32, 3) := by decide +kernel
theorem dX2_move_78 : decode cX2_move 78 = .ok (.return_, 1) := by decide +kernel
theorem dX2_move_49 : decode cX2_move 49 = .ok (.iload_n 2, 1) := by decide +kernel
theorem dX2_move_50 : decode cX2_move 50 = .ok (.iload 4, 2) := by decide +kernel
theorem dX2_move_52 : decode cX2_move 52 = .ok (.ishr, 1) := by decide +kernel
theorem dX2_move_53 : decode cX2_move 53 = .ok (.iconst 1, 1) := by decide +kernel
theorem dX2_move_54 : decode cX2_move 54 = .ok (.iand, 1) := by decide +kernel
theorem dX2_move_72 : decode cX2_move 72 = .ok (.iinc 4 1, 3) := by decide +kernel
theorem dX2_move_75 : decode cX2_move 75 = .ok (.goto (-35), 3) := by decide +kernel
theorem dX2_move_55 : decode cX2_move 55 = .ok (.ifCond .eq 17, 3) := by decide +kernel
theorem dX2_move_58 : decode cX2_move 58 = .ok (.iload_n 3, 1) := by decide +kernel
theorem dX2_move_59 : decode cX2_move 59 = .ok (.ifCond .ne 10, 3) := by decide +kernel
theorem dX2_move_69 : decode cX2_move 69 = .ok (.iinc 3 (-1), 3) := by decide +kernel
theorem dX2_move_62 : decode cX2_move 62 = .ok (.aload_n 0, 1) := by decide +kernel
theorem dX2_move_63 : decode cX2_move 63 = .ok (.iload 4, 2) := by decide +kernel
theorem dX2_move_65 : decode cX2_move 65 = .ok (.putfield 23, 3) := by decide +kernel
theorem dX2_move_68 : decode cX2_move 68 = .ok (.return_, 1) := by decide +kernel
theorem dX2_draw_0 : decode cX2_draw 0 = .ok (.aload_n 0, 1) := by decide +kernel
theorem dX2_draw_1 : decode cX2_draw 1 = .ok (.lload_n 3, 1) := by decide +kernel
theorem dX2_draw_2 : decode cX2_draw 2 = .ok (.putfield 9, 3) := by decide +kernel
theorem dX2_draw_5 : decode cX2_draw 5 = .ok (.aload_n 0, 1) := by decide +kernel
theorem dX2_draw_6 : decode cX2_draw 6 = .ok (.iconst (-1), 1) := by decide +kernel
theorem dX2_draw_7 : decode cX2_draw 7 = .ok (.putfield 15, 3) := by decide +kernel
theorem dX2_draw_10 : decode cX2_draw 10 = .ok (.aload_n 0, 1) := by decide +kernel
theorem dX2_draw_11 : decode cX2_draw 11 = .ok (.aload_n 0, 1) := by decide +kernel
theorem dX2_draw_12 : decode cX2_draw 12 = .ok (.aload_n 1, 1) := by decide +kernel
theorem dX2_draw_13 : decode cX2_draw 13 = .ok (.invokevirtual 19, 3) := by decide +kernel
theorem dX2_draw_16 : decode cX2_draw 16 = .ok (.putfield 23, 3) := by decide +kernel
theorem dX2_draw_19 : decode cX2_draw 19 = .ok (.iconst 0, 1) := by decide +kernel
theorem dX2_draw_20 : decode cX2_draw 20 = .ok (.istore 5, 2) := by decide +kernel
theorem dX2_draw_22 : decode cX2_draw 22 = .ok (.iload 5, 2) := by decide +kernel
theorem dX2_draw_24 : decode cX2_draw 24 = .ok (.aload_n 2, 1) := by decide +kernel
theorem dX2_draw_25 : decode cX2_draw 25 = .ok (.getfield 26, 3) := by decide +kernel
theorem dX2_draw_28 : decode cX2_draw 28 = .ok (.if_icmp .ge 70, 3) := by decide +kernel
theorem dX2_draw_98 : decode cX2_draw 98 = .ok (.return_, 1) := by decide +kernel
theorem dX2_draw_31 : decode cX2_draw 31 = .ok (.aload_n 0, 1) := by decide +kernel
theorem dX2_draw_32 : decode cX2_draw 32 = .ok (.getfield 23, 3) := by decide +kernel
theorem dX2_draw_35 : decode cX2_draw 35 = .ok (.iconst (-1), 1) := by decide +kernel
theorem dX2_draw_36 : decode cX2_draw 36 = .ok (.if_icmp .eq 62, 3) := by decide +kernel
theorem dX2_draw_39 : decode cX2_draw 39 = .ok (.aload_n 0, 1) := by decide +kernel
theorem dX2_draw_40 : decode cX2_draw 40 = .ok (.getfield 15, 3) := by decide +kernel
theorem dX2_draw_43 : decode cX2_draw 43 = .ok (.iconst (-1), 1) := by decide +kernel
theorem dX2_draw_44 : decode cX2_draw 44 = .ok (.if_icmp .ne 54, 3) := by decide +kernel
theorem dX2_draw_47 : decode cX2_draw 47 = .ok (.aload_n 2, 1) := by decide +kernel
theorem dX2_draw_48 : decode cX2_draw 48 = .ok (.iload 5, 2) := by decide +kernel
theorem dX2_draw_50 : decode cX2_draw 50 = .ok (.invokevirtual 31, 3) := by decide +kernel
theorem dX2_draw_53 : decode cX2_draw 53 = .ok (.aload_n 0, 1) := by decide +kernel
theorem dX2_draw_54 : decode cX2_draw 54 = .ok (.getfield 23, 3) := by decide +kernel
theorem dX2_draw_92 : decode cX2_draw 92 = .ok (.iinc 5 1, 3) := by decide +kernel
theorem dX2_draw_95 : decode cX2_draw 95 = .ok (.goto (-73), 3) := by decide +kernel
theorem dX2_draw_87 : decode cX2_draw 87 = .ok (.aload_n 0, 1) := by decide +kernel
theorem dX2_draw_88 : decode cX2_draw 88 = .ok (.aload_n 1, 1) := by decide +kernel
theorem dX2_draw_89 : decode cX2_draw 89 = .ok (.invokevirtual 44, 3) := by decide +kernel
theorem dX2_draw_57 : decode cX2_draw 57 = .ok (.if_icmp .ne 30, 3) := by decide +kernel
theorem dX2_draw_60 : decode cX2_draw 60 = .ok (.aload_n 0, 1) := by decide +kernel
theorem dX2_draw_61 : decode cX2_draw 61 = .ok (.bipush 100, 2) := by decide +kernel
theorem dX2_draw_63 : decode cX2_draw 63 = .ok (.invokevirtual 35, 3) := by decide +kernel
theorem dX2_draw_66 : decode cX2_draw 66 = .ok (.aload_n 1, 1) := by decide +kernel
theorem dX2_draw_67 : decode cX2_draw 67 = .ok (.getfield 38, 3) := by decide +kernel
theorem dX2_draw_70 : decode cX2_draw 70 = .ok (.aload_n 0, 1) := by decide +kernel
theorem dX2_draw_71 : decode cX2_draw 71 = .ok (.getfield 23, 3) := by decide +kernel
theorem dX2_draw_74 : decode cX2_draw 74 = .ok (.iaload, 1) := by decide +kernel
theorem dX2_draw_75 : decode cX2_draw 75 = .ok (.if_icmp .ge 12, 3) := by decide +kernel
theorem dX2_draw_78 : decode cX2_draw 78 = .ok (.aload_n 0, 1) := by decide +kernel
theorem dX2_draw_79 : decode cX2_draw 79 = .ok (.iload 5, 2) := by decide +kernel
theorem dX2_draw_81 : decode cX2_draw 81 = .ok (.putfield 15, 3) := by decide +kernel
theorem dX2_draw_84 : decode cX2_draw 84 = .ok (.goto 8, 3) := by decide +kernel
theorem dX4_askedFirst_0 : decode cX4_askedFirst 0 = .ok (.aload_n 1, 1) := by decide +kernel
theorem dX4_askedFirst_1 : decode cX4_askedFirst 1 = .ok (.iload_n 2, 1) := by decide +kernel
theorem dX4_askedFirst_2 : decode cX4_askedFirst 2 = .ok (.iload_n 3, 1) := by decide +kernel
theorem dX4_askedFirst_3 : decode cX4_askedFirst 3 = .ok (.invokevirtual 32, 3) := by decide +kernel
theorem dX4_askedFirst_6 : decode cX4_askedFirst 6 = .ok (.istore 4, 2) := by decide +kernel
theorem dX4_askedFirst_8 : decode cX4_askedFirst 8 = .ok (.iload_n 2, 1) := by decide +kernel
theorem dX4_askedFirst_9 : decode cX4_askedFirst 9 = .ok (.iload 4, 2) := by decide +kernel
theorem dX4_askedFirst_11 : decode cX4_askedFirst 11 = .ok (.iconst (-1), 1) := by decide +kernel
theorem dX4_askedFirst_12 : decode cX4_askedFirst 12 = .ok (.ixor, 1) := by decide +kernel
theorem dX4_askedFirst_13 : decode cX4_askedFirst 13 = .ok (.iand, 1) := by decide +kernel
theorem dX4_askedFirst_14 : decode cX4_askedFirst 14 = .ok (.istore 5, 2) := by decide +kernel
theorem dX4_askedFirst_16 : decode cX4_askedFirst 16 = .ok (.iload 4, 2) := by decide +kernel
theorem dX4_askedFirst_18 : decode cX4_askedFirst 18 = .ok (.ifCond .eq 30, 3) := by decide +kernel
theorem dX4_askedFirst_48 : decode cX4_askedFirst 48 = .ok (.iconst (-1), 1) := by decide +kernel
theorem dX4_askedFirst_49 : decode cX4_askedFirst 49 = .ok (.ireturn, 1) := by decide +kernel
theorem dX4_askedFirst_21 : decode cX4_askedFirst 21 = .ok (.iload 5, 2) := by decide +kernel
theorem dX4_askedFirst_23 : decode cX4_askedFirst 23 = .ok (.ifCond .eq 25, 3) := by decide +kernel
theorem dX4_askedFirst_26 : decode cX4_askedFirst 26 = .ok (.aload_n 0, 1) := by decide +kernel
theorem dX4_askedFirst_27 : decode cX4_askedFirst 27 = .ok (.getfield 11, 3) := by decide +kernel
theorem dX4_askedFirst_30 : decode cX4_askedFirst 30 = .ok (.iload 4, 2) := by decide +kernel
theorem dX4_askedFirst_32 : decode cX4_askedFirst 32 = .ok (.iaload, 1) := by decide +kernel
theorem dX4_askedFirst_33 : decode cX4_askedFirst 33 = .ok (.iconst (-1), 1) := by decide +kernel
theorem dX4_askedFirst_34 : decode cX4_askedFirst 34 = .ok (.if_icmp .eq 14, 3) := by decide +kernel
theorem dX4_askedFirst_37 : decode cX4_askedFirst 37 = .ok (.aload_n 0, 1) := by decide +kernel
theorem dX4_askedFirst_38 : decode cX4_askedFirst 38 = .ok (.getfield 11, 3) := by decide +kernel
theorem dX4_askedFirst_41 : decode cX4_askedFirst 41 = .ok (.iload 5, 2) := by decide +kernel
theorem dX4_askedFirst_43 : decode cX4_askedFirst 43 = .ok (.iaload, 1) := by decide +kernel
theorem dX4_askedFirst_44 : decode cX4_askedFirst 44 = .ok (.iconst (-1), 1) := by decide +kernel
theorem dX4_askedFirst_45 : decode cX4_askedFirst 45 = .ok (.if_icmp .ne 5, 3) := by decide +kernel
theorem dX4_askedFirst_50 : decode cX4_askedFirst 50 = .ok (.iconst 1, 1) := by decide +kernel
theorem dX4_askedFirst_51 : decode cX4_askedFirst 51 = .ok (.aload_n 0, 1) := by decide +kernel
theorem dX4_askedFirst_52 : decode cX4_askedFirst 52 = .ok (.getfield 11, 3) := by decide +kernel
theorem dX4_askedFirst_55 : decode cX4_askedFirst 55 = .ok (.iload 4, 2) := by decide +kernel
theorem dX4_askedFirst_57 : decode cX4_askedFirst 57 = .ok (.iaload, 1) := by decide +kernel
theorem dX4_askedFirst_58 : decode cX4_askedFirst 58 = .ok (.aload_n 0, 1) := by decide +kernel
theorem dX4_askedFirst_59 : decode cX4_askedFirst 59 = .ok (.getfield 11, 3) := by decide +kernel
theorem dX4_askedFirst_62 : decode cX4_askedFirst 62 = .ok (.iload 5, 2) := by decide +kernel
theorem dX4_askedFirst_64 : decode cX4_askedFirst 64 = .ok (.iaload, 1) := by decide +kernel
theorem dX4_askedFirst_65 : decode cX4_askedFirst 65 = .ok (.invokestatic 38, 3) := by decide +kernel
theorem dX4_askedFirst_68 : decode cX4_askedFirst 68 = .ok (.iadd, 1) := by decide +kernel
theorem dX4_askedFirst_69 : decode cX4_askedFirst 69 = .ok (.ireturn, 1) := by decide +kernel
theorem dX4_fewestOf_0 : decode cX4_fewestOf 0 = .ok (.iload_n 2, 1) := by decide +kernel
theorem dX4_fewestOf_1 : decode cX4_fewestOf 1 = .ok (.invokestatic 26, 3) := by decide +kernel
theorem dX4_fewestOf_4 : decode cX4_fewestOf 4 = .ok (.iconst 1, 1) := by decide +kernel
theorem dX4_fewestOf_5 : decode cX4_fewestOf 5 = .ok (.if_icmp .ne 5, 3) := by decide +kernel
theorem dX4_fewestOf_10 : decode cX4_fewestOf 10 = .ok (.iconst (-1), 1) := by decide +kernel
theorem dX4_fewestOf_11 : decode cX4_fewestOf 11 = .ok (.istore_n 3, 1) := by decide +kernel
theorem dX4_fewestOf_12 : decode cX4_fewestOf 12 = .ok (.iconst 0, 1) := by decide +kernel
theorem dX4_fewestOf_13 : decode cX4_fewestOf 13 = .ok (.istore 4, 2) := by decide +kernel
theorem dX4_fewestOf_15 : decode cX4_fewestOf 15 = .ok (.iload 4, 2) := by decide +kernel
theorem dX4_fewestOf_17 : decode cX4_fewestOf 17 = .ok (.bipush 6, 2) := by decide +kernel
theorem dX4_fewestOf_19 : decode cX4_fewestOf 19 = .ok (.if_icmp .ge 39, 3) := by decide +kernel
theorem dX4_fewestOf_58 : decode cX4_fewestOf 58 = .ok (.iload_n 3, 1) := by decide +kernel
theorem dX4_fewestOf_59 : decode cX4_fewestOf 59 = .ok (.ireturn, 1) := by decide +kernel
theorem dX4_fewestOf_22 : decode cX4_fewestOf 22 = .ok (.aload_n 0, 1) := by decide +kernel
theorem dX4_fewestOf_23 : decode cX4_fewestOf 23 = .ok (.aload_n 1, 1) := by decide +kernel
theorem dX4_fewestOf_24 : decode cX4_fewestOf 24 = .ok (.iload_n 2, 1) := by decide +kernel
theorem dX4_fewestOf_25 : decode cX4_fewestOf 25 = .ok (.iload 4, 2) := by decide +kernel
theorem dX4_fewestOf_27 : decode cX4_fewestOf 27 = .ok (.invokevirtual 22, 3) := by decide +kernel
theorem dX4_fewestOf_30 : decode cX4_fewestOf 30 = .ok (.istore 5, 2) := by decide +kernel
theorem dX4_fewestOf_32 : decode cX4_fewestOf 32 = .ok (.iload 5, 2) := by decide +kernel
theorem dX4_fewestOf_34 : decode cX4_fewestOf 34 = .ok (.iconst (-1), 1) := by decide +kernel
theorem dX4_fewestOf_52 : decode cX4_fewestOf 52 = .ok (.iinc 4 1, 3) := by decide +kernel
theorem dX4_fewestOf_55 : decode cX4_fewestOf 55 = .ok (.goto (-40), 3) := by decide +kernel
theorem dX4_fewestOf_35 : decode cX4_fewestOf 35 = .ok (.if_icmp .eq 17, 3) := by decide +kernel
theorem dX4_fewestOf_38 : decode cX4_fewestOf 38 = .ok (.iload_n 3, 1) := by decide +kernel
theorem dX4_fewestOf_39 : decode cX4_fewestOf 39 = .ok (.iconst (-1), 1) := by decide +kernel
theorem dX4_fewestOf_49 : decode cX4_fewestOf 49 = .ok (.iload 5, 2) := by decide +kernel
theorem dX4_fewestOf_51 : decode cX4_fewestOf 51 = .ok (.istore_n 3, 1) := by decide +kernel
theorem dX4_fewestOf_40 : decode cX4_fewestOf 40 = .ok (.if_icmp .eq 9, 3) := by decide +kernel
theorem dX4_fewestOf_43 : decode cX4_fewestOf 43 = .ok (.iload 5, 2) := by decide +kernel
theorem dX4_fewestOf_45 : decode cX4_fewestOf 45 = .ok (.iload_n 3, 1) := by decide +kernel
theorem dX4_fewestOf_46 : decode cX4_fewestOf 46 = .ok (.if_icmp .ge 6, 3) := by decide +kernel
theorem dX4_fewestOf_8 : decode cX4_fewestOf 8 = .ok (.iconst 0, 1) := by decide +kernel
theorem dX4_fewestOf_9 : decode cX4_fewestOf 9 = .ok (.ireturn, 1) := by decide +kernel
theorem dX4_fewestFor_0 : decode cX4_fewestFor 0 = .ok (.iconst 1, 1) := by decide +kernel
theorem dX4_fewestFor_1 : decode cX4_fewestFor 1 = .ok (.istore_n 3, 1) := by decide +kernel
theorem dX4_fewestFor_2 : decode cX4_fewestFor 2 = .ok (.iload_n 3, 1) := by decide +kernel
theorem dX4_fewestFor_3 : decode cX4_fewestFor 3 = .ok (.iload_n 2, 1) := by decide +kernel
theorem dX4_fewestFor_31 : decode cX4_fewestFor 31 = .ok (.iload_n 2, 1) := by decide +kernel
theorem dX4_fewestFor_32 : decode cX4_fewestFor 32 = .ok (.iconst 1, 1) := by decide +kernel
theorem dX4_fewestFor_33 : decode cX4_fewestFor 33 = .ok (.if_icmp .lt 18, 3) := by decide +kernel
theorem dX4_fewestFor_36 : decode cX4_fewestFor 36 = .ok (.iload_n 2, 1) := by decide +kernel
theorem dX4_fewestFor_37 : decode cX4_fewestFor 37 = .ok (.bipush 64, 2) := by decide +kernel
theorem dX4_fewestFor_39 : decode cX4_fewestFor 39 = .ok (.if_icmp .ge 12, 3) := by decide +kernel
theorem dX4_fewestFor_42 : decode cX4_fewestFor 42 = .ok (.aload_n 0, 1) := by decide +kernel
theorem dX4_fewestFor_43 : decode cX4_fewestFor 43 = .ok (.getfield 11, 3) := by decide +kernel
theorem dX4_fewestFor_46 : decode cX4_fewestFor 46 = .ok (.iload_n 2, 1) := by decide +kernel
theorem dX4_fewestFor_47 : decode cX4_fewestFor 47 = .ok (.iaload, 1) := by decide +kernel
theorem dX4_fewestFor_48 : decode cX4_fewestFor 48 = .ok (.goto 4, 3) := by decide +kernel
theorem dX4_fewestFor_52 : decode cX4_fewestFor 52 = .ok (.ireturn, 1) := by decide +kernel
theorem dX4_fewestFor_4 : decode cX4_fewestFor 4 = .ok (.if_icmp .gt 27, 3) := by decide +kernel
theorem dX4_fewestFor_7 : decode cX4_fewestFor 7 = .ok (.iload_n 3, 1) := by decide +kernel
theorem dX4_fewestFor_8 : decode cX4_fewestFor 8 = .ok (.bipush 64, 2) := by decide +kernel
theorem dX4_fewestFor_10 : decode cX4_fewestFor 10 = .ok (.if_icmp .ge 21, 3) := by decide +kernel
theorem dX4_fewestFor_13 : decode cX4_fewestFor 13 = .ok (.aload_n 0, 1) := by decide +kernel
theorem dX4_fewestFor_14 : decode cX4_fewestFor 14 = .ok (.getfield 11, 3) := by decide +kernel
theorem dX4_fewestFor_17 : decode cX4_fewestFor 17 = .ok (.iload_n 3, 1) := by decide +kernel
theorem dX4_fewestFor_18 : decode cX4_fewestFor 18 = .ok (.aload_n 0, 1) := by decide +kernel
theorem dX4_fewestFor_19 : decode cX4_fewestFor 19 = .ok (.aload_n 1, 1) := by decide +kernel
theorem dX4_fewestFor_20 : decode cX4_fewestFor 20 = .ok (.iload_n 3, 1) := by decide +kernel
theorem dX4_fewestFor_21 : decode cX4_fewestFor 21 = .ok (.invokevirtual 15, 3) := by decide +kernel
theorem dX4_fewestFor_24 : decode cX4_fewestFor 24 = .ok (.iastore, 1) := by decide +kernel
theorem dX4_fewestFor_25 : decode cX4_fewestFor 25 = .ok (.iinc 3 1, 3) := by decide +kernel
theorem dX4_fewestFor_28 : decode cX4_fewestFor 28 = .ok (.goto (-26), 3) := by decide +kernel
theorem dX4_firstFor_0 : decode cX4_firstFor 0 = .ok (.aload_n 0, 1) := by decide +kernel
theorem dX4_firstFor_1 : decode cX4_firstFor 1 = .ok (.aload_n 1, 1) := by decide +kernel
theorem dX4_firstFor_2 : decode cX4_firstFor 2 = .ok (.iload_n 2, 1) := by decide +kernel
theorem dX4_firstFor_3 : decode cX4_firstFor 3 = .ok (.invokevirtual 19, 3) := by decide +kernel
theorem dX4_firstFor_6 : decode cX4_firstFor 6 = .ok (.istore_n 3, 1) := by decide +kernel
theorem dX4_firstFor_7 : decode cX4_firstFor 7 = .ok (.iload_n 3, 1) := by decide +kernel
theorem dX4_firstFor_8 : decode cX4_firstFor 8 = .ok (.iconst 1, 1) := by decide +kernel
theorem dX4_firstFor_9 : decode cX4_firstFor 9 = .ok (.if_icmp .ge 5, 3) := by decide +kernel
theorem dX4_firstFor_14 : decode cX4_firstFor 14 = .ok (.iconst 0, 1) := by decide +kernel
theorem dX4_firstFor_15 : decode cX4_firstFor 15 = .ok (.istore 4, 2) := by decide +kernel
theorem dX4_firstFor_17 : decode cX4_firstFor 17 = .ok (.iload 4, 2) := by decide +kernel
theorem dX4_firstFor_19 : decode cX4_firstFor 19 = .ok (.bipush 6, 2) := by decide +kernel
theorem dX4_firstFor_21 : decode cX4_firstFor 21 = .ok (.if_icmp .ge 24, 3) := by decide +kernel
theorem dX4_firstFor_45 : decode cX4_firstFor 45 = .ok (.iconst (-1), 1) := by decide +kernel
theorem dX4_firstFor_46 : decode cX4_firstFor 46 = .ok (.ireturn, 1) := by decide +kernel
theorem dX4_firstFor_24 : decode cX4_firstFor 24 = .ok (.aload_n 0, 1) := by decide +kernel
theorem dX4_firstFor_25 : decode cX4_firstFor 25 = .ok (.aload_n 1, 1) := by decide +kernel
theorem dX4_firstFor_26 : decode cX4_firstFor 26 = .ok (.iload_n 2, 1) := by decide +kernel
theorem dX4_firstFor_27 : decode cX4_firstFor 27 = .ok (.iload 4, 2) := by decide +kernel
theorem dX4_firstFor_29 : decode cX4_firstFor 29 = .ok (.invokevirtual 22, 3) := by decide +kernel
theorem dX4_firstFor_32 : decode cX4_firstFor 32 = .ok (.iload_n 3, 1) := by decide +kernel
theorem dX4_firstFor_33 : decode cX4_firstFor 33 = .ok (.if_icmp .ne 6, 3) := by decide +kernel
theorem dX4_firstFor_39 : decode cX4_firstFor 39 = .ok (.iinc 4 1, 3) := by decide +kernel
theorem dX4_firstFor_42 : decode cX4_firstFor 42 = .ok (.goto (-25), 3) := by decide +kernel
theorem dX4_firstFor_36 : decode cX4_firstFor 36 = .ok (.iload 4, 2) := by decide +kernel
theorem dX4_firstFor_38 : decode cX4_firstFor 38 = .ok (.ireturn, 1) := by decide +kernel
theorem dX4_firstFor_12 : decode cX4_firstFor 12 = .ok (.iconst (-1), 1) := by decide +kernel
theorem dX4_firstFor_13 : decode cX4_firstFor 13 = .ok (.ireturn, 1) := by decide +kernel
theorem dX4_areApart_0 : decode cX4_areApart 0 = .ok (.iconst 0, 1) := by decide +kernel
theorem dX4_areApart_1 : decode cX4_areApart 1 = .ok (.istore 4, 2) := by decide +kernel
theorem dX4_areApart_3 : decode cX4_areApart 3 = .ok (.iload 4, 2) := by decide +kernel
theorem dX4_areApart_5 : decode cX4_areApart 5 = .ok (.aload_n 1, 1) := by decide +kernel
theorem dX4_areApart_6 : decode cX4_areApart 6 = .ok (.getfield 47, 3) := by decide +kernel
theorem dX4_areApart_9 : decode cX4_areApart 9 = .ok (.if_icmp .ge 77, 3) := by decide +kernel
theorem dX4_areApart_86 : decode cX4_areApart 86 = .ok (.iconst 1, 1) := by decide +kernel
theorem dX4_areApart_87 : decode cX4_areApart 87 = .ok (.ireturn, 1) := by decide +kernel
theorem dX4_areApart_12 : decode cX4_areApart 12 = .ok (.iconst 0, 1) := by decide +kernel
theorem dX4_areApart_13 : decode cX4_areApart 13 = .ok (.istore 5, 2) := by decide +kernel
theorem dX4_areApart_15 : decode cX4_areApart 15 = .ok (.iload 5, 2) := by decide +kernel
theorem dX4_areApart_17 : decode cX4_areApart 17 = .ok (.iload 4, 2) := by decide +kernel
theorem dX4_areApart_19 : decode cX4_areApart 19 = .ok (.if_icmp .ge 61, 3) := by decide +kernel
theorem dX4_areApart_80 : decode cX4_areApart 80 = .ok (.iinc 4 1, 3) := by decide +kernel
theorem dX4_areApart_83 : decode cX4_areApart 83 = .ok (.goto (-80), 3) := by decide +kernel
theorem dX4_areApart_22 : decode cX4_areApart 22 = .ok (.iload_n 2, 1) := by decide +kernel
theorem dX4_areApart_23 : decode cX4_areApart 23 = .ok (.iload 4, 2) := by decide +kernel
theorem dX4_areApart_25 : decode cX4_areApart 25 = .ok (.ishr, 1) := by decide +kernel
theorem dX4_areApart_26 : decode cX4_areApart 26 = .ok (.iconst 1, 1) := by decide +kernel
theorem dX4_areApart_27 : decode cX4_areApart 27 = .ok (.iand, 1) := by decide +kernel
theorem dX4_areApart_45 : decode cX4_areApart 45 = .ok (.istore 6, 2) := by decide +kernel
theorem dX4_areApart_47 : decode cX4_areApart 47 = .ok (.iload 6, 2) := by decide +kernel
theorem dX4_areApart_74 : decode cX4_areApart 74 = .ok (.iinc 5 1, 3) := by decide +kernel
theorem dX4_areApart_77 : decode cX4_areApart 77 = .ok (.goto (-62), 3) := by decide +kernel
theorem dX4_areApart_49 : decode cX4_areApart 49 = .ok (.ifCond .eq 25, 3) := by decide +kernel
theorem dX4_areApart_52 : decode cX4_areApart 52 = .ok (.aload_n 1, 1) := by decide +kernel
theorem dX4_areApart_53 : decode cX4_areApart 53 = .ok (.getfield 51, 3) := by decide +kernel
theorem dX4_areApart_56 : decode cX4_areApart 56 = .ok (.iload 4, 2) := by decide +kernel
theorem dX4_areApart_58 : decode cX4_areApart 58 = .ok (.iaload, 1) := by decide +kernel
theorem dX4_areApart_59 : decode cX4_areApart 59 = .ok (.aload_n 1, 1) := by decide +kernel
theorem dX4_areApart_60 : decode cX4_areApart 60 = .ok (.getfield 51, 3) := by decide +kernel
theorem dX4_areApart_63 : decode cX4_areApart 63 = .ok (.iload 5, 2) := by decide +kernel
theorem dX4_areApart_65 : decode cX4_areApart 65 = .ok (.iaload, 1) := by decide +kernel
theorem dX4_areApart_66 : decode cX4_areApart 66 = .ok (.ixor, 1) := by decide +kernel
theorem dX4_areApart_67 : decode cX4_areApart 67 = .ok (.iload_n 3, 1) := by decide +kernel
theorem dX4_areApart_68 : decode cX4_areApart 68 = .ok (.iand, 1) := by decide +kernel
theorem dX4_areApart_69 : decode cX4_areApart 69 = .ok (.ifCond .ne 5, 3) := by decide +kernel
theorem dX4_areApart_72 : decode cX4_areApart 72 = .ok (.iconst 0, 1) := by decide +kernel
theorem dX4_areApart_73 : decode cX4_areApart 73 = .ok (.ireturn, 1) := by decide +kernel
theorem dX4_areApart_44 : decode cX4_areApart 44 = .ok (.iconst 0, 1) := by decide +kernel
theorem dX4_areApart_28 : decode cX4_areApart 28 = .ok (.ifCond .eq 16, 3) := by decide +kernel
theorem dX4_areApart_31 : decode cX4_areApart 31 = .ok (.iload_n 2, 1) := by decide +kernel
theorem dX4_areApart_32 : decode cX4_areApart 32 = .ok (.iload 5, 2) := by decide +kernel
theorem dX4_areApart_34 : decode cX4_areApart 34 = .ok (.ishr, 1) := by decide +kernel
theorem dX4_areApart_35 : decode cX4_areApart 35 = .ok (.iconst 1, 1) := by decide +kernel
theorem dX4_areApart_36 : decode cX4_areApart 36 = .ok (.iand, 1) := by decide +kernel
theorem dX4_areApart_37 : decode cX4_areApart 37 = .ok (.ifCond .eq 7, 3) := by decide +kernel
theorem dX4_areApart_40 : decode cX4_areApart 40 = .ok (.iconst 1, 1) := by decide +kernel
theorem dX4_areApart_41 : decode cX4_areApart 41 = .ok (.goto 4, 3) := by decide +kernel
theorem dX4_listFor_0 : decode cX4_listFor 0 = .ok (.iconst (-1), 1) := by decide +kernel
theorem dX4_listFor_1 : decode cX4_listFor 1 = .ok (.istore_n 3, 1) := by decide +kernel
theorem dX4_listFor_2 : decode cX4_listFor 2 = .ok (.iconst 0, 1) := by decide +kernel
theorem dX4_listFor_3 : decode cX4_listFor 3 = .ok (.istore 4, 2) := by decide +kernel
theorem dX4_listFor_5 : decode cX4_listFor 5 = .ok (.iload 4, 2) := by decide +kernel
theorem dX4_listFor_7 : decode cX4_listFor 7 = .ok (.bipush 64, 2) := by decide +kernel
theorem dX4_listFor_9 : decode cX4_listFor 9 = .ok (.if_icmp .ge 52, 3) := by decide +kernel
theorem dX4_listFor_61 : decode cX4_listFor 61 = .ok (.iload_n 3, 1) := by decide +kernel
theorem dX4_listFor_62 : decode cX4_listFor 62 = .ok (.ireturn, 1) := by decide +kernel
theorem dX4_listFor_12 : decode cX4_listFor 12 = .ok (.iload_n 3, 1) := by decide +kernel
theorem dX4_listFor_13 : decode cX4_listFor 13 = .ok (.iconst (-1), 1) := by decide +kernel
theorem dX4_listFor_34 : decode cX4_listFor 34 = .ok (.istore 5, 2) := by decide +kernel
theorem dX4_listFor_36 : decode cX4_listFor 36 = .ok (.iload 5, 2) := by decide +kernel
theorem dX4_listFor_55 : decode cX4_listFor 55 = .ok (.iinc 4 1, 3) := by decide +kernel
theorem dX4_listFor_58 : decode cX4_listFor 58 = .ok (.goto (-53), 3) := by decide +kernel
theorem dX4_listFor_38 : decode cX4_listFor 38 = .ok (.ifCond .eq 17, 3) := by decide +kernel
theorem dX4_listFor_41 : decode cX4_listFor 41 = .ok (.aload_n 0, 1) := by decide +kernel
theorem dX4_listFor_42 : decode cX4_listFor 42 = .ok (.aload_n 1, 1) := by decide +kernel
theorem dX4_listFor_43 : decode cX4_listFor 43 = .ok (.iload_n 2, 1) := by decide +kernel
theorem dX4_listFor_44 : decode cX4_listFor 44 = .ok (.iload 4, 2) := by decide +kernel
theorem dX4_listFor_46 : decode cX4_listFor 46 = .ok (.invokevirtual 43, 3) := by decide +kernel
theorem dX4_listFor_49 : decode cX4_listFor 49 = .ok (.ifCond .eq 6, 3) := by decide +kernel
theorem dX4_listFor_52 : decode cX4_listFor 52 = .ok (.iload 4, 2) := by decide +kernel
theorem dX4_listFor_54 : decode cX4_listFor 54 = .ok (.istore_n 3, 1) := by decide +kernel
theorem dX4_listFor_29 : decode cX4_listFor 29 = .ok (.iconst 1, 1) := by decide +kernel
theorem dX4_listFor_30 : decode cX4_listFor 30 = .ok (.goto 4, 3) := by decide +kernel
theorem dX4_listFor_14 : decode cX4_listFor 14 = .ok (.if_icmp .eq 15, 3) := by decide +kernel
theorem dX4_listFor_17 : decode cX4_listFor 17 = .ok (.iload 4, 2) := by decide +kernel
theorem dX4_listFor_19 : decode cX4_listFor 19 = .ok (.invokestatic 26, 3) := by decide +kernel
theorem dX4_listFor_22 : decode cX4_listFor 22 = .ok (.iload_n 3, 1) := by decide +kernel
theorem dX4_listFor_23 : decode cX4_listFor 23 = .ok (.invokestatic 26, 3) := by decide +kernel
theorem dX4_listFor_26 : decode cX4_listFor 26 = .ok (.if_icmp .ge 7, 3) := by decide +kernel
theorem dX4_listFor_33 : decode cX4_listFor 33 = .ok (.iconst 0, 1) := by decide +kernel
theorem dX4_slateSum_0 : decode cX4_slateSum 0 = .ok (.iconst 0, 1) := by decide +kernel
theorem dX4_slateSum_1 : decode cX4_slateSum 1 = .ok (.istore_n 3, 1) := by decide +kernel
theorem dX4_slateSum_2 : decode cX4_slateSum 2 = .ok (.iconst 0, 1) := by decide +kernel
theorem dX4_slateSum_3 : decode cX4_slateSum 3 = .ok (.istore 4, 2) := by decide +kernel
theorem dX4_slateSum_5 : decode cX4_slateSum 5 = .ok (.iload 4, 2) := by decide +kernel
theorem dX4_slateSum_7 : decode cX4_slateSum 7 = .ok (.aload_n 1, 1) := by decide +kernel
theorem dX4_slateSum_8 : decode cX4_slateSum 8 = .ok (.getfield 47, 3) := by decide +kernel
theorem dX4_slateSum_11 : decode cX4_slateSum 11 = .ok (.if_icmp .ge 24, 3) := by decide +kernel
theorem dX4_slateSum_35 : decode cX4_slateSum 35 = .ok (.iload_n 3, 1) := by decide +kernel
theorem dX4_slateSum_36 : decode cX4_slateSum 36 = .ok (.ireturn, 1) := by decide +kernel
theorem dX4_slateSum_14 : decode cX4_slateSum 14 = .ok (.iload_n 3, 1) := by decide +kernel
theorem dX4_slateSum_15 : decode cX4_slateSum 15 = .ok (.aload_n 1, 1) := by decide +kernel
theorem dX4_slateSum_16 : decode cX4_slateSum 16 = .ok (.getfield 70, 3) := by decide +kernel
theorem dX4_slateSum_19 : decode cX4_slateSum 19 = .ok (.iload_n 2, 1) := by decide +kernel
theorem dX4_slateSum_20 : decode cX4_slateSum 20 = .ok (.bipush 6, 2) := by decide +kernel
theorem dX4_slateSum_22 : decode cX4_slateSum 22 = .ok (.imul, 1) := by decide +kernel
theorem dX4_slateSum_23 : decode cX4_slateSum 23 = .ok (.iload 4, 2) := by decide +kernel
theorem dX4_slateSum_25 : decode cX4_slateSum 25 = .ok (.iadd, 1) := by decide +kernel
theorem dX4_slateSum_26 : decode cX4_slateSum 26 = .ok (.iaload, 1) := by decide +kernel
theorem dX4_slateSum_27 : decode cX4_slateSum 27 = .ok (.iadd, 1) := by decide +kernel
theorem dX4_slateSum_28 : decode cX4_slateSum 28 = .ok (.istore_n 3, 1) := by decide +kernel
theorem dX4_slateSum_29 : decode cX4_slateSum 29 = .ok (.iinc 4 1, 3) := by decide +kernel
theorem dX4_slateSum_32 : decode cX4_slateSum 32 = .ok (.goto (-27), 3) := by decide +kernel
theorem dX4_hasInAll_0 : decode cX4_hasInAll 0 = .ok (.iconst 1, 1) := by decide +kernel
theorem dX4_hasInAll_1 : decode cX4_hasInAll 1 = .ok (.aload_n 0, 1) := by decide +kernel
theorem dX4_hasInAll_2 : decode cX4_hasInAll 2 = .ok (.aload_n 1, 1) := by decide +kernel
theorem dX4_hasInAll_3 : decode cX4_hasInAll 3 = .ok (.iload_n 2, 1) := by decide +kernel
theorem dX4_hasInAll_4 : decode cX4_hasInAll 4 = .ok (.invokevirtual 67, 3) := by decide +kernel
theorem dX4_hasInAll_7 : decode cX4_hasInAll 7 = .ok (.invokestatic 38, 3) := by decide +kernel
theorem dX4_hasInAll_10 : decode cX4_hasInAll 10 = .ok (.ireturn, 1) := by decide +kernel
theorem dX4_hasAs_0 : decode cX4_hasAs 0 = .ok (.aload_n 0, 1) := by decide +kernel
theorem dX4_hasAs_1 : decode cX4_hasAs 1 = .ok (.aload_n 1, 1) := by decide +kernel
theorem dX4_hasAs_2 : decode cX4_hasAs 2 = .ok (.iload_n 2, 1) := by decide +kernel
theorem dX4_hasAs_3 : decode cX4_hasAs 3 = .ok (.invokevirtual 67, 3) := by decide +kernel
theorem dX4_hasAs_14 : decode cX4_hasAs 14 = .ok (.istore 4, 2) := by decide +kernel
theorem dX4_hasAs_16 : decode cX4_hasAs 16 = .ok (.iload 4, 2) := by decide +kernel
theorem dX4_hasAs_18 : decode cX4_hasAs 18 = .ok (.ifCond .eq 14, 3) := by decide +kernel
theorem dX4_hasAs_32 : decode cX4_hasAs 32 = .ok (.aload_n 1, 1) := by decide +kernel
theorem dX4_hasAs_33 : decode cX4_hasAs 33 = .ok (.getfield 70, 3) := by decide +kernel
theorem dX4_hasAs_36 : decode cX4_hasAs 36 = .ok (.iload_n 2, 1) := by decide +kernel
theorem dX4_hasAs_37 : decode cX4_hasAs 37 = .ok (.bipush 6, 2) := by decide +kernel
theorem dX4_hasAs_39 : decode cX4_hasAs 39 = .ok (.imul, 1) := by decide +kernel
theorem dX4_hasAs_40 : decode cX4_hasAs 40 = .ok (.iload_n 3, 1) := by decide +kernel
theorem dX4_hasAs_41 : decode cX4_hasAs 41 = .ok (.iadd, 1) := by decide +kernel
theorem dX4_hasAs_42 : decode cX4_hasAs 42 = .ok (.iaload, 1) := by decide +kernel
theorem dX4_hasAs_43 : decode cX4_hasAs 43 = .ok (.ireturn, 1) := by decide +kernel
theorem dX4_hasAs_21 : decode cX4_hasAs 21 = .ok (.iload_n 2, 1) := by decide +kernel
theorem dX4_hasAs_22 : decode cX4_hasAs 22 = .ok (.iload_n 3, 1) := by decide +kernel
theorem dX4_hasAs_23 : decode cX4_hasAs 23 = .ok (.if_icmp .ne 7, 3) := by decide +kernel
theorem dX4_hasAs_30 : decode cX4_hasAs 30 = .ok (.iconst 0, 1) := by decide +kernel
theorem dX4_hasAs_31 : decode cX4_hasAs 31 = .ok (.ireturn, 1) := by decide +kernel
theorem dX4_hasAs_26 : decode cX4_hasAs 26 = .ok (.iconst 1, 1) := by decide +kernel
theorem dX4_hasAs_27 : decode cX4_hasAs 27 = .ok (.goto 4, 3) := by decide +kernel
theorem dX4_hasAs_6 : decode cX4_hasAs 6 = .ok (.ifCond .ne 7, 3) := by decide +kernel
theorem dX4_hasAs_13 : decode cX4_hasAs 13 = .ok (.iconst 0, 1) := by decide +kernel
theorem dX4_hasAs_9 : decode cX4_hasAs 9 = .ok (.iconst 1, 1) := by decide +kernel
theorem dX4_hasAs_10 : decode cX4_hasAs 10 = .ok (.goto 4, 3) := by decide +kernel
theorem dX4_share_0 : decode cX4_share 0 = .ok (.aload_n 1, 1) := by decide +kernel
theorem dX4_share_1 : decode cX4_share 1 = .ok (.getfield 54, 3) := by decide +kernel
theorem dX4_share_4 : decode cX4_share 4 = .ok (.iload_n 2, 1) := by decide +kernel
theorem dX4_share_5 : decode cX4_share 5 = .ok (.iaload, 1) := by decide +kernel
theorem dX4_share_6 : decode cX4_share 6 = .ok (.i2l, 1) := by decide +kernel
theorem dX4_share_7 : decode cX4_share 7 = .ok (.lstore 4, 2) := by decide +kernel
theorem dX4_share_9 : decode cX4_share 9 = .ok (.iconst 0, 1) := by decide +kernel
theorem dX4_share_10 : decode cX4_share 10 = .ok (.istore 6, 2) := by decide +kernel
theorem dX4_share_12 : decode cX4_share 12 = .ok (.iload 6, 2) := by decide +kernel
theorem dX4_share_14 : decode cX4_share 14 = .ok (.aload_n 1, 1) := by decide +kernel
theorem dX4_share_15 : decode cX4_share 15 = .ok (.getfield 47, 3) := by decide +kernel
theorem dX4_share_18 : decode cX4_share 18 = .ok (.if_icmp .ge 39, 3) := by decide +kernel
theorem dX4_share_57 : decode cX4_share 57 = .ok (.lload 4, 2) := by decide +kernel
theorem dX4_share_59 : decode cX4_share 59 = .ok (.lreturn, 1) := by decide +kernel
theorem dX4_share_21 : decode cX4_share 21 = .ok (.lload 4, 2) := by decide +kernel
theorem dX4_share_23 : decode cX4_share 23 = .ok (.iload 6, 2) := by decide +kernel
theorem dX4_share_25 : decode cX4_share 25 = .ok (.iload_n 2, 1) := by decide +kernel
theorem dX4_share_48 : decode cX4_share 48 = .ok (.lmul, 1) := by decide +kernel
theorem dX4_share_49 : decode cX4_share 49 = .ok (.lstore 4, 2) := by decide +kernel
theorem dX4_share_51 : decode cX4_share 51 = .ok (.iinc 6 1, 3) := by decide +kernel
theorem dX4_share_54 : decode cX4_share 54 = .ok (.goto (-42), 3) := by decide +kernel
theorem dX4_share_26 : decode cX4_share 26 = .ok (.if_icmp .ne 14, 3) := by decide +kernel
theorem dX4_share_40 : decode cX4_share 40 = .ok (.aload_n 0, 1) := by decide +kernel
theorem dX4_share_41 : decode cX4_share 41 = .ok (.aload_n 1, 1) := by decide +kernel
theorem dX4_share_42 : decode cX4_share 42 = .ok (.iload 6, 2) := by decide +kernel
theorem dX4_share_44 : decode cX4_share 44 = .ok (.invokevirtual 60, 3) := by decide +kernel
theorem dX4_share_47 : decode cX4_share 47 = .ok (.i2l, 1) := by decide +kernel
theorem dX4_share_29 : decode cX4_share 29 = .ok (.aload_n 0, 1) := by decide +kernel
theorem dX4_share_30 : decode cX4_share 30 = .ok (.aload_n 1, 1) := by decide +kernel
theorem dX4_share_31 : decode cX4_share 31 = .ok (.iload_n 2, 1) := by decide +kernel
theorem dX4_share_32 : decode cX4_share 32 = .ok (.iload_n 3, 1) := by decide +kernel
theorem dX4_share_33 : decode cX4_share 33 = .ok (.invokevirtual 57, 3) := by decide +kernel
theorem dX4_share_36 : decode cX4_share 36 = .ok (.i2l, 1) := by decide +kernel
theorem dX4_share_37 : decode cX4_share 37 = .ok (.goto 11, 3) := by decide +kernel
theorem dX4_allRead_0 : decode cX4_allRead 0 = .ok (.lconst 0, 1) := by decide +kernel
theorem dX4_allRead_1 : decode cX4_allRead 1 = .ok (.lstore_n 3, 1) := by decide +kernel
theorem dX4_allRead_2 : decode cX4_allRead 2 = .ok (.iconst 0, 1) := by decide +kernel
theorem dX4_allRead_3 : decode cX4_allRead 3 = .ok (.istore 5, 2) := by decide +kernel
theorem dX4_allRead_5 : decode cX4_allRead 5 = .ok (.iload 5, 2) := by decide +kernel
theorem dX4_allRead_7 : decode cX4_allRead 7 = .ok (.aload_n 1, 1) := by decide +kernel
theorem dX4_allRead_8 : decode cX4_allRead 8 = .ok (.getfield 47, 3) := by decide +kernel
theorem dX4_allRead_11 : decode cX4_allRead 11 = .ok (.if_icmp .ge 20, 3) := by decide +kernel
theorem dX4_allRead_31 : decode cX4_allRead 31 = .ok (.lload_n 3, 1) := by decide +kernel
theorem dX4_allRead_32 : decode cX4_allRead 32 = .ok (.lreturn, 1) := by decide +kernel
theorem dX4_allRead_14 : decode cX4_allRead 14 = .ok (.lload_n 3, 1) := by decide +kernel
theorem dX4_allRead_15 : decode cX4_allRead 15 = .ok (.aload_n 0, 1) := by decide +kernel
theorem dX4_allRead_16 : decode cX4_allRead 16 = .ok (.aload_n 1, 1) := by decide +kernel
theorem dX4_allRead_17 : decode cX4_allRead 17 = .ok (.iload 5, 2) := by decide +kernel
theorem dX4_allRead_19 : decode cX4_allRead 19 = .ok (.iload_n 2, 1) := by decide +kernel
theorem dX4_allRead_20 : decode cX4_allRead 20 = .ok (.invokevirtual 63, 3) := by decide +kernel
theorem dX4_allRead_23 : decode cX4_allRead 23 = .ok (.ladd, 1) := by decide +kernel
theorem dX4_allRead_24 : decode cX4_allRead 24 = .ok (.lstore_n 3, 1) := by decide +kernel
theorem dX4_allRead_25 : decode cX4_allRead 25 = .ok (.iinc 5 1, 3) := by decide +kernel
theorem dX4_allRead_28 : decode cX4_allRead 28 = .ok (.goto (-23), 3) := by decide +kernel
theorem dX4_greatestDivisor_0 : decode cX4_greatestDivisor 0 = .ok (.lload_n 1, 1) := by decide +kernel
theorem dX4_greatestDivisor_1 : decode cX4_greatestDivisor 1 = .ok (.lstore 5, 2) := by decide +kernel
theorem dX4_greatestDivisor_3 : decode cX4_greatestDivisor 3 = .ok (.lload_n 3, 1) := by decide +kernel
theorem dX4_greatestDivisor_4 : decode cX4_greatestDivisor 4 = .ok (.lstore 7, 2) := by decide +kernel
theorem dX4_greatestDivisor_6 : decode cX4_greatestDivisor 6 = .ok (.iconst 0, 1) := by decide +kernel
theorem dX4_greatestDivisor_7 : decode cX4_greatestDivisor 7 = .ok (.istore 9, 2) := by decide +kernel
theorem dX4_greatestDivisor_9 : decode cX4_greatestDivisor 9 = .ok (.iload 9, 2) := by decide +kernel
theorem dX4_greatestDivisor_11 : decode cX4_greatestDivisor 11 = .ok (.sipush 200, 3) := by decide +kernel
theorem dX4_greatestDivisor_45 : decode cX4_greatestDivisor 45 = .ok (.lload 5, 2) := by decide +kernel
theorem dX4_greatestDivisor_47 : decode cX4_greatestDivisor 47 = .ok (.lconst 0, 1) := by decide +kernel
theorem dX4_greatestDivisor_48 : decode cX4_greatestDivisor 48 = .ok (.lcmp, 1) := by decide +kernel
theorem dX4_greatestDivisor_49 : decode cX4_greatestDivisor 49 = .ok (.ifCond .ne 7, 3) := by decide +kernel
theorem dX4_greatestDivisor_56 : decode cX4_greatestDivisor 56 = .ok (.lload 5, 2) := by decide +kernel
theorem dX4_greatestDivisor_58 : decode cX4_greatestDivisor 58 = .ok (.lreturn, 1) := by decide +kernel
theorem dX4_greatestDivisor_52 : decode cX4_greatestDivisor 52 = .ok (.lconst 1, 1) := by decide +kernel
theorem dX4_greatestDivisor_53 : decode cX4_greatestDivisor 53 = .ok (.goto 5, 3) := by decide +kernel
theorem dX4_greatestDivisor_14 : decode cX4_greatestDivisor 14 = .ok (.if_icmp .ge 31, 3) := by decide +kernel
theorem dX4_greatestDivisor_17 : decode cX4_greatestDivisor 17 = .ok (.lload 7, 2) := by decide +kernel
theorem dX4_greatestDivisor_19 : decode cX4_greatestDivisor 19 = .ok (.lconst 0, 1) := by decide +kernel
theorem dX4_greatestDivisor_20 : decode cX4_greatestDivisor 20 = .ok (.lcmp, 1) := by decide +kernel
theorem dX4_greatestDivisor_21 : decode cX4_greatestDivisor 21 = .ok (.ifCond .eq 24, 3) := by decide +kernel
theorem dX4_greatestDivisor_24 : decode cX4_greatestDivisor 24 = .ok (.lload 5, 2) := by decide +kernel
theorem dX4_greatestDivisor_26 : decode cX4_greatestDivisor 26 = .ok (.lload 7, 2) := by decide +kernel
theorem dX4_greatestDivisor_28 : decode cX4_greatestDivisor 28 = .ok (.lrem, 1) := by decide +kernel
theorem dX4_greatestDivisor_29 : decode cX4_greatestDivisor 29 = .ok (.lstore 10, 2) := by decide +kernel
theorem dX4_greatestDivisor_31 : decode cX4_greatestDivisor 31 = .ok (.lload 7, 2) := by decide +kernel
theorem dX4_greatestDivisor_33 : decode cX4_greatestDivisor 33 = .ok (.lstore 5, 2) := by decide +kernel
theorem dX4_greatestDivisor_35 : decode cX4_greatestDivisor 35 = .ok (.lload 10, 2) := by decide +kernel
theorem dX4_greatestDivisor_37 : decode cX4_greatestDivisor 37 = .ok (.lstore 7, 2) := by decide +kernel
theorem dX4_greatestDivisor_39 : decode cX4_greatestDivisor 39 = .ok (.iinc 9 1, 3) := by decide +kernel
theorem dX4_greatestDivisor_42 : decode cX4_greatestDivisor 42 = .ok (.goto (-33), 3) := by decide +kernel
theorem dX4_lowest_0 : decode cX4_lowest 0 = .ok (.lload_n 1, 1) := by decide +kernel
theorem dX4_lowest_1 : decode cX4_lowest 1 = .ok (.lconst 0, 1) := by decide +kernel
theorem dX4_lowest_2 : decode cX4_lowest 2 = .ok (.lcmp, 1) := by decide +kernel
theorem dX4_lowest_12 : decode cX4_lowest 12 = .ok (.iload 5, 2) := by decide +kernel
theorem dX4_lowest_14 : decode cX4_lowest 14 = .ok (.ifCond .ne 7, 3) := by decide +kernel
theorem dX4_lowest_21 : decode cX4_lowest 21 = .ok (.lconst 1, 1) := by decide +kernel
theorem dX4_lowest_22 : decode cX4_lowest 22 = .ok (.lreturn, 1) := by decide +kernel
theorem dX4_lowest_17 : decode cX4_lowest 17 = .ok (.lconst 0, 1) := by decide +kernel
theorem dX4_lowest_18 : decode cX4_lowest 18 = .ok (.goto 4, 3) := by decide +kernel
theorem dX4_lowest_3 : decode cX4_lowest 3 = .ok (.ifCond .eq 9, 3) := by decide +kernel
theorem dX4_lowest_6 : decode cX4_lowest 6 = .ok (.lload_n 3, 1) := by decide +kernel
theorem dX4_lowest_7 : decode cX4_lowest 7 = .ok (.lconst 0, 1) := by decide +kernel
theorem dX4_lowest_8 : decode cX4_lowest 8 = .ok (.lcmp, 1) := by decide +kernel
theorem dX4_lowest_9 : decode cX4_lowest 9 = .ok (.ifCond .ne 14, 3) := by decide +kernel
theorem dX4_lowest_23 : decode cX4_lowest 23 = .ok (.aload_n 0, 1) := by decide +kernel
theorem dX4_lowest_24 : decode cX4_lowest 24 = .ok (.lload_n 1, 1) := by decide +kernel
theorem dX4_lowest_25 : decode cX4_lowest 25 = .ok (.lload_n 3, 1) := by decide +kernel
theorem dX4_lowest_26 : decode cX4_lowest 26 = .ok (.invokevirtual 73, 3) := by decide +kernel
theorem dX4_lowest_29 : decode cX4_lowest 29 = .ok (.lstore 6, 2) := by decide +kernel
theorem dX4_lowest_31 : decode cX4_lowest 31 = .ok (.iload 5, 2) := by decide +kernel
theorem dX4_lowest_33 : decode cX4_lowest 33 = .ok (.ifCond .ne 7, 3) := by decide +kernel
theorem dX4_lowest_40 : decode cX4_lowest 40 = .ok (.lload_n 3, 1) := by decide +kernel
theorem dX4_lowest_41 : decode cX4_lowest 41 = .ok (.lload 6, 2) := by decide +kernel
theorem dX4_lowest_43 : decode cX4_lowest 43 = .ok (.ldiv, 1) := by decide +kernel
theorem dX4_lowest_44 : decode cX4_lowest 44 = .ok (.lreturn, 1) := by decide +kernel
theorem dX4_lowest_36 : decode cX4_lowest 36 = .ok (.lload_n 1, 1) := by decide +kernel
theorem dX4_lowest_37 : decode cX4_lowest 37 = .ok (.goto 4, 3) := by decide +kernel
theorem dX1_reach_0 : decode cX1_reach 0 = .ok (.iload_n 3, 1) := by decide +kernel
theorem dX1_reach_1 : decode cX1_reach 1 = .ok (.iconst 1, 1) := by decide +kernel
theorem dX1_reach_2 : decode cX1_reach 2 = .ok (.iload_n 1, 1) := by decide +kernel
theorem dX1_reach_3 : decode cX1_reach 3 = .ok (.ishl, 1) := by decide +kernel
theorem dX1_reach_4 : decode cX1_reach 4 = .ok (.iconst 1, 1) := by decide +kernel
theorem dX1_reach_5 : decode cX1_reach 5 = .ok (.iload_n 2, 1) := by decide +kernel
theorem dX1_reach_6 : decode cX1_reach 6 = .ok (.ishl, 1) := by decide +kernel
theorem dX1_reach_7 : decode cX1_reach 7 = .ok (.ior, 1) := by decide +kernel
theorem dX1_reach_8 : decode cX1_reach 8 = .ok (.iconst (-1), 1) := by decide +kernel
theorem dX1_reach_9 : decode cX1_reach 9 = .ok (.ixor, 1) := by decide +kernel
theorem dX1_reach_10 : decode cX1_reach 10 = .ok (.iand, 1) := by decide +kernel
theorem dX1_reach_11 : decode cX1_reach 11 = .ok (.istore 5, 2) := by decide +kernel
theorem dX1_reach_13 : decode cX1_reach 13 = .ok (.iload_n 1, 1) := by decide +kernel
theorem dX1_reach_14 : decode cX1_reach 14 = .ok (.bipush 7, 2) := by decide +kernel
theorem dX1_reach_16 : decode cX1_reach 16 = .ok (.imul, 1) := by decide +kernel
theorem dX1_reach_17 : decode cX1_reach 17 = .ok (.iload_n 2, 1) := by decide +kernel
theorem dX1_reach_18 : decode cX1_reach 18 = .ok (.iadd, 1) := by decide +kernel
theorem dX1_reach_19 : decode cX1_reach 19 = .ok (.istore 6, 2) := by decide +kernel
theorem dX1_reach_21 : decode cX1_reach 21 = .ok (.lconst 1, 1) := by decide +kernel
theorem dX1_reach_22 : decode cX1_reach 22 = .ok (.iload 5, 2) := by decide +kernel
theorem dX1_reach_24 : decode cX1_reach 24 = .ok (.bipush 63, 2) := by decide +kernel
theorem dX1_reach_26 : decode cX1_reach 26 = .ok (.iand, 1) := by decide +kernel
theorem dX1_reach_27 : decode cX1_reach 27 = .ok (.lshl, 1) := by decide +kernel
theorem dX1_reach_28 : decode cX1_reach 28 = .ok (.lstore 7, 2) := by decide +kernel
theorem dX1_reach_30 : decode cX1_reach 30 = .ok (.iconst 2, 1) := by decide +kernel
theorem dX1_reach_31 : decode cX1_reach 31 = .ok (.iload 6, 2) := by decide +kernel
theorem dX1_reach_33 : decode cX1_reach 33 = .ok (.imul, 1) := by decide +kernel
theorem dX1_reach_34 : decode cX1_reach 34 = .ok (.iload 5, 2) := by decide +kernel
theorem dX1_reach_36 : decode cX1_reach 36 = .ok (.bipush 6, 2) := by decide +kernel
theorem dX1_reach_38 : decode cX1_reach 38 = .ok (.ishr, 1) := by decide +kernel
theorem dX1_reach_39 : decode cX1_reach 39 = .ok (.iadd, 1) := by decide +kernel
theorem dX1_reach_40 : decode cX1_reach 40 = .ok (.istore 9, 2) := by decide +kernel
theorem dX1_reach_42 : decode cX1_reach 42 = .ok (.aload_n 0, 1) := by decide +kernel
theorem dX1_reach_43 : decode cX1_reach 43 = .ok (.getfield 38, 3) := by decide +kernel
theorem dX1_reach_46 : decode cX1_reach 46 = .ok (.sipush 1792, 3) := by decide +kernel
theorem dX1_reach_49 : decode cX1_reach 49 = .ok (.if_icmp .ge 18, 3) := by decide +kernel
theorem dX1_reach_67 : decode cX1_reach 67 = .ok (.return_, 1) := by decide +kernel
theorem dX1_reach_52 : decode cX1_reach 52 = .ok (.aload_n 0, 1) := by decide +kernel
theorem dX1_reach_53 : decode cX1_reach 53 = .ok (.getfield 11, 3) := by decide +kernel
theorem dX1_reach_56 : decode cX1_reach 56 = .ok (.iload 9, 2) := by decide +kernel
theorem dX1_reach_58 : decode cX1_reach 58 = .ok (.laload, 1) := by decide +kernel
theorem dX1_reach_59 : decode cX1_reach 59 = .ok (.lload 7, 2) := by decide +kernel
theorem dX1_reach_61 : decode cX1_reach 61 = .ok (.land, 1) := by decide +kernel
theorem dX1_reach_62 : decode cX1_reach 62 = .ok (.lconst 0, 1) := by decide +kernel
theorem dX1_reach_63 : decode cX1_reach 63 = .ok (.lcmp, 1) := by decide +kernel
theorem dX1_reach_64 : decode cX1_reach 64 = .ok (.ifCond .eq 4, 3) := by decide +kernel
theorem dX1_reach_68 : decode cX1_reach 68 = .ok (.aload_n 0, 1) := by decide +kernel
theorem dX1_reach_69 : decode cX1_reach 69 = .ok (.getfield 11, 3) := by decide +kernel
theorem dX1_reach_72 : decode cX1_reach 72 = .ok (.iload 9, 2) := by decide +kernel
theorem dX1_reach_74 : decode cX1_reach 74 = .ok (.dup2, 1) := by decide +kernel
theorem dX1_reach_75 : decode cX1_reach 75 = .ok (.laload, 1) := by decide +kernel
theorem dX1_reach_76 : decode cX1_reach 76 = .ok (.lload 7, 2) := by decide +kernel
theorem dX1_reach_78 : decode cX1_reach 78 = .ok (.lor, 1) := by decide +kernel
theorem dX1_reach_79 : decode cX1_reach 79 = .ok (.lastore, 1) := by decide +kernel
theorem dX1_reach_80 : decode cX1_reach 80 = .ok (.aload_n 0, 1) := by decide +kernel
theorem dX1_reach_81 : decode cX1_reach 81 = .ok (.getfield 15, 3) := by decide +kernel
theorem dX1_reach_84 : decode cX1_reach 84 = .ok (.aload_n 0, 1) := by decide +kernel
theorem dX1_reach_85 : decode cX1_reach 85 = .ok (.getfield 38, 3) := by decide +kernel
theorem dX1_reach_88 : decode cX1_reach 88 = .ok (.iload 6, 2) := by decide +kernel
theorem dX1_reach_90 : decode cX1_reach 90 = .ok (.sipush 128, 3) := by decide +kernel
theorem dX1_reach_93 : decode cX1_reach 93 = .ok (.imul, 1) := by decide +kernel
theorem dX1_reach_94 : decode cX1_reach 94 = .ok (.iload 5, 2) := by decide +kernel
theorem dX1_reach_96 : decode cX1_reach 96 = .ok (.iadd, 1) := by decide +kernel
theorem dX1_reach_97 : decode cX1_reach 97 = .ok (.iastore, 1) := by decide +kernel
theorem dX1_reach_98 : decode cX1_reach 98 = .ok (.aload_n 0, 1) := by decide +kernel
theorem dX1_reach_99 : decode cX1_reach 99 = .ok (.getfield 19, 3) := by decide +kernel
theorem dX1_reach_102 : decode cX1_reach 102 = .ok (.aload_n 0, 1) := by decide +kernel
theorem dX1_reach_103 : decode cX1_reach 103 = .ok (.getfield 38, 3) := by decide +kernel
theorem dX1_reach_106 : decode cX1_reach 106 = .ok (.iload 4, 2) := by decide +kernel
theorem dX1_reach_108 : decode cX1_reach 108 = .ok (.iastore, 1) := by decide +kernel
theorem dX1_reach_109 : decode cX1_reach 109 = .ok (.iload 5, 2) := by decide +kernel
theorem dX1_reach_130 : decode cX1_reach 130 = .ok (.aload_n 0, 1) := by decide +kernel
theorem dX1_reach_131 : decode cX1_reach 131 = .ok (.dup, 1) := by decide +kernel
theorem dX1_reach_132 : decode cX1_reach 132 = .ok (.getfield 38, 3) := by decide +kernel
theorem dX1_reach_135 : decode cX1_reach 135 = .ok (.iconst 1, 1) := by decide +kernel
theorem dX1_reach_136 : decode cX1_reach 136 = .ok (.iadd, 1) := by decide +kernel
theorem dX1_reach_137 : decode cX1_reach 137 = .ok (.putfield 38, 3) := by decide +kernel
theorem dX1_reach_140 : decode cX1_reach 140 = .ok (.return_, 1) := by decide +kernel
theorem dX1_reach_111 : decode cX1_reach 111 = .ok (.ifCond .ne 19, 3) := by decide +kernel
theorem dX1_reach_114 : decode cX1_reach 114 = .ok (.aload_n 0, 1) := by decide +kernel
theorem dX1_reach_115 : decode cX1_reach 115 = .ok (.getfield 28, 3) := by decide +kernel
theorem dX1_reach_118 : decode cX1_reach 118 = .ok (.iconst (-1), 1) := by decide +kernel
theorem dX1_reach_119 : decode cX1_reach 119 = .ok (.if_icmp .ne 11, 3) := by decide +kernel
theorem dX1_reach_122 : decode cX1_reach 122 = .ok (.aload_n 0, 1) := by decide +kernel
theorem dX1_reach_123 : decode cX1_reach 123 = .ok (.aload_n 0, 1) := by decide +kernel
theorem dX1_reach_124 : decode cX1_reach 124 = .ok (.getfield 38, 3) := by decide +kernel
theorem dX1_reach_127 : decode cX1_reach 127 = .ok (.putfield 28, 3) := by decide +kernel
theorem dX1_goOn_0 : decode cX1_goOn 0 = .ok (.aload_n 0, 1) := by decide +kernel
theorem dX1_goOn_1 : decode cX1_goOn 1 = .ok (.getfield 15, 3) := by decide +kernel
theorem dX1_goOn_4 : decode cX1_goOn 4 = .ok (.iload_n 2, 1) := by decide +kernel
theorem dX1_goOn_5 : decode cX1_goOn 5 = .ok (.iaload, 1) := by decide +kernel
theorem dX1_goOn_6 : decode cX1_goOn 6 = .ok (.sipush 128, 3) := by decide +kernel
theorem dX1_goOn_9 : decode cX1_goOn 9 = .ok (.idiv, 1) := by decide +kernel
theorem dX1_goOn_10 : decode cX1_goOn 10 = .ok (.istore 4, 2) := by decide +kernel
theorem dX1_goOn_12 : decode cX1_goOn 12 = .ok (.aload_n 1, 1) := by decide +kernel
theorem dX1_goOn_13 : decode cX1_goOn 13 = .ok (.aload_n 0, 1) := by decide +kernel
theorem dX1_goOn_14 : decode cX1_goOn 14 = .ok (.getfield 15, 3) := by decide +kernel
theorem dX1_goOn_17 : decode cX1_goOn 17 = .ok (.iload_n 2, 1) := by decide +kernel
theorem dX1_goOn_18 : decode cX1_goOn 18 = .ok (.iaload, 1) := by decide +kernel
theorem dX1_goOn_19 : decode cX1_goOn 19 = .ok (.sipush 128, 3) := by decide +kernel
theorem dX1_goOn_22 : decode cX1_goOn 22 = .ok (.irem, 1) := by decide +kernel
theorem dX1_goOn_23 : decode cX1_goOn 23 = .ok (.invokevirtual 72, 3) := by decide +kernel
theorem dX1_goOn_26 : decode cX1_goOn 26 = .ok (.istore 5, 2) := by decide +kernel
theorem dX1_goOn_28 : decode cX1_goOn 28 = .ok (.iload 4, 2) := by decide +kernel
theorem dX1_goOn_30 : decode cX1_goOn 30 = .ok (.bipush 7, 2) := by decide +kernel
theorem dX1_goOn_32 : decode cX1_goOn 32 = .ok (.idiv, 1) := by decide +kernel
theorem dX1_goOn_33 : decode cX1_goOn 33 = .ok (.istore 6, 2) := by decide +kernel
theorem dX1_goOn_35 : decode cX1_goOn 35 = .ok (.iload 4, 2) := by decide +kernel
theorem dX1_goOn_37 : decode cX1_goOn 37 = .ok (.bipush 7, 2) := by decide +kernel
theorem dX1_goOn_39 : decode cX1_goOn 39 = .ok (.irem, 1) := by decide +kernel
theorem dX1_goOn_40 : decode cX1_goOn 40 = .ok (.istore 7, 2) := by decide +kernel
theorem dX1_goOn_42 : decode cX1_goOn 42 = .ok (.iconst 0, 1) := by decide +kernel
theorem dX1_goOn_43 : decode cX1_goOn 43 = .ok (.istore 8, 2) := by decide +kernel
theorem dX1_goOn_45 : decode cX1_goOn 45 = .ok (.iload 8, 2) := by decide +kernel
theorem dX1_goOn_47 : decode cX1_goOn 47 = .ok (.aload_n 1, 1) := by decide +kernel
theorem dX1_goOn_48 : decode cX1_goOn 48 = .ok (.getfield 65, 3) := by decide +kernel
theorem dX1_goOn_51 : decode cX1_goOn 51 = .ok (.if_icmp .ge 77, 3) := by decide +kernel
theorem dX1_goOn_128 : decode cX1_goOn 128 = .ok (.return_, 1) := by decide +kernel
theorem dX1_goOn_54 : decode cX1_goOn 54 = .ok (.aload_n 1, 1) := by decide +kernel
theorem dX1_goOn_55 : decode cX1_goOn 55 = .ok (.iload 6, 2) := by decide +kernel
theorem dX1_goOn_57 : decode cX1_goOn 57 = .ok (.iload 8, 2) := by decide +kernel
theorem dX1_goOn_59 : decode cX1_goOn 59 = .ok (.invokevirtual 81, 3) := by decide +kernel
theorem dX1_goOn_122 : decode cX1_goOn 122 = .ok (.iinc 8 1, 3) := by decide +kernel
theorem dX1_goOn_125 : decode cX1_goOn 125 = .ok (.goto (-80), 3) := by decide +kernel
theorem dX1_goOn_62 : decode cX1_goOn 62 = .ok (.ifCond .ne 6, 3) := by decide +kernel
theorem dX1_goOn_68 : decode cX1_goOn 68 = .ok (.iconst 0, 1) := by decide +kernel
theorem dX1_goOn_69 : decode cX1_goOn 69 = .ok (.istore 9, 2) := by decide +kernel
theorem dX1_goOn_71 : decode cX1_goOn 71 = .ok (.iload 9, 2) := by decide +kernel
theorem dX1_goOn_73 : decode cX1_goOn 73 = .ok (.aload_n 1, 1) := by decide +kernel
theorem dX1_goOn_74 : decode cX1_goOn 74 = .ok (.getfield 65, 3) := by decide +kernel
theorem dX1_goOn_77 : decode cX1_goOn 77 = .ok (.if_icmp .ge 45, 3) := by decide +kernel
theorem dX1_goOn_80 : decode cX1_goOn 80 = .ok (.iload_n 3, 1) := by decide +kernel
theorem dX1_goOn_116 : decode cX1_goOn 116 = .ok (.iinc 9 1, 3) := by decide +kernel
theorem dX1_goOn_119 : decode cX1_goOn 119 = .ok (.goto (-48), 3) := by decide +kernel
theorem dX1_goOn_105 : decode cX1_goOn 105 = .ok (.aload_n 0, 1) := by decide +kernel
theorem dX1_goOn_106 : decode cX1_goOn 106 = .ok (.iload 8, 2) := by decide +kernel
theorem dX1_goOn_108 : decode cX1_goOn 108 = .ok (.iload 9, 2) := by decide +kernel
theorem dX1_goOn_110 : decode cX1_goOn 110 = .ok (.iload 5, 2) := by decide +kernel
theorem dX1_goOn_112 : decode cX1_goOn 112 = .ok (.iload_n 2, 1) := by decide +kernel
theorem dX1_goOn_113 : decode cX1_goOn 113 = .ok (.invokevirtual 47, 3) := by decide +kernel
theorem dX1_goOn_81 : decode cX1_goOn 81 = .ok (.ifCond .eq 13, 3) := by decide +kernel
theorem dX1_goOn_94 : decode cX1_goOn 94 = .ok (.aload_n 1, 1) := by decide +kernel
theorem dX1_goOn_95 : decode cX1_goOn 95 = .ok (.iload 7, 2) := by decide +kernel
theorem dX1_goOn_97 : decode cX1_goOn 97 = .ok (.iload 9, 2) := by decide +kernel
theorem dX1_goOn_99 : decode cX1_goOn 99 = .ok (.invokevirtual 81, 3) := by decide +kernel
theorem dX1_goOn_102 : decode cX1_goOn 102 = .ok (.ifCond .eq 14, 3) := by decide +kernel
theorem dX1_goOn_84 : decode cX1_goOn 84 = .ok (.iload 9, 2) := by decide +kernel
theorem dX1_goOn_86 : decode cX1_goOn 86 = .ok (.iload 8, 2) := by decide +kernel
theorem dX1_goOn_88 : decode cX1_goOn 88 = .ok (.if_icmp .ne 28, 3) := by decide +kernel
theorem dX1_goOn_91 : decode cX1_goOn 91 = .ok (.goto 14, 3) := by decide +kernel
theorem dX1_goOn_65 : decode cX1_goOn 65 = .ok (.goto 57, 3) := by decide +kernel
theorem dX1_hunt_0 : decode cX1_hunt 0 = .ok (.aload_n 0, 1) := by decide +kernel
theorem dX1_hunt_1 : decode cX1_hunt 1 = .ok (.getfield 11, 3) := by decide +kernel
theorem dX1_hunt_4 : decode cX1_hunt 4 = .ok (.lconst 0, 1) := by decide +kernel
theorem dX1_hunt_5 : decode cX1_hunt 5 = .ok (.invokestatic 32, 3) := by decide +kernel
theorem dX1_hunt_8 : decode cX1_hunt 8 = .ok (.aload_n 0, 1) := by decide +kernel
theorem dX1_hunt_9 : decode cX1_hunt 9 = .ok (.iconst 0, 1) := by decide +kernel
theorem dX1_hunt_10 : decode cX1_hunt 10 = .ok (.putfield 38, 3) := by decide +kernel
theorem dX1_hunt_13 : decode cX1_hunt 13 = .ok (.aload_n 0, 1) := by decide +kernel
theorem dX1_hunt_14 : decode cX1_hunt 14 = .ok (.iconst (-1), 1) := by decide +kernel
theorem dX1_hunt_15 : decode cX1_hunt 15 = .ok (.putfield 28, 3) := by decide +kernel
theorem dX1_hunt_18 : decode cX1_hunt 18 = .ok (.aload_n 0, 1) := by decide +kernel
theorem dX1_hunt_19 : decode cX1_hunt 19 = .ok (.iload_n 2, 1) := by decide +kernel
theorem dX1_hunt_20 : decode cX1_hunt 20 = .ok (.iload_n 3, 1) := by decide +kernel
theorem dX1_hunt_21 : decode cX1_hunt 21 = .ok (.aload_n 1, 1) := by decide +kernel
theorem dX1_hunt_22 : decode cX1_hunt 22 = .ok (.invokevirtual 41, 3) := by decide +kernel
theorem dX1_hunt_25 : decode cX1_hunt 25 = .ok (.iconst (-1), 1) := by decide +kernel
theorem dX1_hunt_26 : decode cX1_hunt 26 = .ok (.invokevirtual 47, 3) := by decide +kernel
theorem dX1_hunt_29 : decode cX1_hunt 29 = .ok (.iconst 0, 1) := by decide +kernel
theorem dX1_hunt_30 : decode cX1_hunt 30 = .ok (.istore 5, 2) := by decide +kernel
theorem dX1_hunt_32 : decode cX1_hunt 32 = .ok (.iload 5, 2) := by decide +kernel
theorem dX1_hunt_34 : decode cX1_hunt 34 = .ok (.aload_n 0, 1) := by decide +kernel
theorem dX1_hunt_35 : decode cX1_hunt 35 = .ok (.getfield 38, 3) := by decide +kernel
theorem dX1_hunt_72 : decode cX1_hunt 72 = .ok (.aload_n 0, 1) := by decide +kernel
theorem dX1_hunt_73 : decode cX1_hunt 73 = .ok (.getfield 28, 3) := by decide +kernel
theorem dX1_hunt_76 : decode cX1_hunt 76 = .ok (.iconst (-1), 1) := by decide +kernel
theorem dX1_hunt_77 : decode cX1_hunt 77 = .ok (.if_icmp .eq 7, 3) := by decide +kernel
theorem dX1_hunt_84 : decode cX1_hunt 84 = .ok (.iconst 0, 1) := by decide +kernel
theorem dX1_hunt_85 : decode cX1_hunt 85 = .ok (.ireturn, 1) := by decide +kernel
theorem dX1_hunt_80 : decode cX1_hunt 80 = .ok (.iconst 1, 1) := by decide +kernel
theorem dX1_hunt_81 : decode cX1_hunt 81 = .ok (.goto 4, 3) := by decide +kernel
theorem dX1_hunt_38 : decode cX1_hunt 38 = .ok (.if_icmp .ge 34, 3) := by decide +kernel
theorem dX1_hunt_41 : decode cX1_hunt 41 = .ok (.iload 5, 2) := by decide +kernel
theorem dX1_hunt_43 : decode cX1_hunt 43 = .ok (.sipush 1792, 3) := by decide +kernel
theorem dX1_hunt_46 : decode cX1_hunt 46 = .ok (.if_icmp .ge 26, 3) := by decide +kernel
theorem dX1_hunt_49 : decode cX1_hunt 49 = .ok (.aload_n 0, 1) := by decide +kernel
theorem dX1_hunt_50 : decode cX1_hunt 50 = .ok (.getfield 28, 3) := by decide +kernel
theorem dX1_hunt_53 : decode cX1_hunt 53 = .ok (.iconst (-1), 1) := by decide +kernel
theorem dX1_hunt_54 : decode cX1_hunt 54 = .ok (.if_icmp .ne 18, 3) := by decide +kernel
theorem dX1_hunt_57 : decode cX1_hunt 57 = .ok (.aload_n 0, 1) := by decide +kernel
theorem dX1_hunt_58 : decode cX1_hunt 58 = .ok (.aload_n 1, 1) := by decide +kernel
theorem dX1_hunt_59 : decode cX1_hunt 59 = .ok (.iload 5, 2) := by decide +kernel
theorem dX1_hunt_61 : decode cX1_hunt 61 = .ok (.iload 4, 2) := by decide +kernel
theorem dX1_hunt_63 : decode cX1_hunt 63 = .ok (.invokevirtual 51, 3) := by decide +kernel
theorem dX1_hunt_66 : decode cX1_hunt 66 = .ok (.iinc 5 1, 3) := by decide +kernel
theorem dX1_hunt_69 : decode cX1_hunt 69 = .ok (.goto (-37), 3) := by decide +kernel
theorem dX1_minutesToClear_0 : decode cX1_minutesToClear 0 = .ok (.aload_n 0, 1) := by decide +kernel
theorem dX1_minutesToClear_1 : decode cX1_minutesToClear 1 = .ok (.getfield 28, 3) := by decide +kernel
theorem dX1_minutesToClear_4 : decode cX1_minutesToClear 4 = .ok (.iconst (-1), 1) := by decide +kernel
theorem dX1_minutesToClear_5 : decode cX1_minutesToClear 5 = .ok (.if_icmp .ne 5, 3) := by decide +kernel
theorem dX1_minutesToClear_10 : decode cX1_minutesToClear 10 = .ok (.iconst 0, 1) := by decide +kernel
theorem dX1_minutesToClear_11 : decode cX1_minutesToClear 11 = .ok (.istore_n 1, 1) := by decide +kernel
theorem dX1_minutesToClear_12 : decode cX1_minutesToClear 12 = .ok (.aload_n 0, 1) := by decide +kernel
theorem dX1_minutesToClear_13 : decode cX1_minutesToClear 13 = .ok (.getfield 19, 3) := by decide +kernel
theorem dX1_minutesToClear_16 : decode cX1_minutesToClear 16 = .ok (.aload_n 0, 1) := by decide +kernel
theorem dX1_minutesToClear_17 : decode cX1_minutesToClear 17 = .ok (.getfield 28, 3) := by decide +kernel
theorem dX1_minutesToClear_20 : decode cX1_minutesToClear 20 = .ok (.iaload, 1) := by decide +kernel
theorem dX1_minutesToClear_21 : decode cX1_minutesToClear 21 = .ok (.istore_n 2, 1) := by decide +kernel
theorem dX1_minutesToClear_22 : decode cX1_minutesToClear 22 = .ok (.iconst 0, 1) := by decide +kernel
theorem dX1_minutesToClear_23 : decode cX1_minutesToClear 23 = .ok (.istore_n 3, 1) := by decide +kernel
theorem dX1_minutesToClear_24 : decode cX1_minutesToClear 24 = .ok (.iload_n 3, 1) := by decide +kernel
theorem dX1_minutesToClear_25 : decode cX1_minutesToClear 25 = .ok (.sipush 1792, 3) := by decide +kernel
theorem dX1_minutesToClear_28 : decode cX1_minutesToClear 28 = .ok (.if_icmp .ge 24, 3) := by decide +kernel
theorem dX1_minutesToClear_52 : decode cX1_minutesToClear 52 = .ok (.iload_n 1, 1) := by decide +kernel
theorem dX1_minutesToClear_53 : decode cX1_minutesToClear 53 = .ok (.ireturn, 1) := by decide +kernel
theorem dX1_minutesToClear_31 : decode cX1_minutesToClear 31 = .ok (.iload_n 2, 1) := by decide +kernel
theorem dX1_minutesToClear_32 : decode cX1_minutesToClear 32 = .ok (.iconst (-1), 1) := by decide +kernel
theorem dX1_minutesToClear_33 : decode cX1_minutesToClear 33 = .ok (.if_icmp .eq 19, 3) := by decide +kernel
theorem dX1_minutesToClear_36 : decode cX1_minutesToClear 36 = .ok (.iinc 1 1, 3) := by decide +kernel
theorem dX1_minutesToClear_39 : decode cX1_minutesToClear 39 = .ok (.aload_n 0, 1) := by decide +kernel
theorem dX1_minutesToClear_40 : decode cX1_minutesToClear 40 = .ok (.getfield 19, 3) := by decide +kernel
theorem dX1_minutesToClear_43 : decode cX1_minutesToClear 43 = .ok (.iload_n 2, 1) := by decide +kernel
theorem dX1_minutesToClear_44 : decode cX1_minutesToClear 44 = .ok (.iaload, 1) := by decide +kernel
theorem dX1_minutesToClear_45 : decode cX1_minutesToClear 45 = .ok (.istore_n 2, 1) := by decide +kernel
theorem dX1_minutesToClear_46 : decode cX1_minutesToClear 46 = .ok (.iinc 3 1, 3) := by decide +kernel
theorem dX1_minutesToClear_49 : decode cX1_minutesToClear 49 = .ok (.goto (-25), 3) := by decide +kernel
theorem dX1_minutesToClear_8 : decode cX1_minutesToClear 8 = .ok (.iconst (-1), 1) := by decide +kernel
theorem dX1_minutesToClear_9 : decode cX1_minutesToClear 9 = .ok (.ireturn, 1) := by decide +kernel
theorem dX1_placeOf_0 : decode cX1_placeOf 0 = .ok (.aload_n 0, 1) := by decide +kernel
theorem dX1_placeOf_1 : decode cX1_placeOf 1 = .ok (.invokevirtual 55, 3) := by decide +kernel
theorem dX1_placeOf_4 : decode cX1_placeOf 4 = .ok (.istore_n 3, 1) := by decide +kernel
theorem dX1_placeOf_5 : decode cX1_placeOf 5 = .ok (.iload_n 2, 1) := by decide +kernel
theorem dX1_placeOf_6 : decode cX1_placeOf 6 = .ok (.ifCond .lt 8, 3) := by decide +kernel
theorem dX1_placeOf_14 : decode cX1_placeOf 14 = .ok (.iconst (-1), 1) := by decide +kernel
theorem dX1_placeOf_15 : decode cX1_placeOf 15 = .ok (.ireturn, 1) := by decide +kernel
theorem dX1_placeOf_9 : decode cX1_placeOf 9 = .ok (.iload_n 2, 1) := by decide +kernel
theorem dX1_placeOf_10 : decode cX1_placeOf 10 = .ok (.iload_n 3, 1) := by decide +kernel
theorem dX1_placeOf_11 : decode cX1_placeOf 11 = .ok (.if_icmp .lt 5, 3) := by decide +kernel
theorem dX1_placeOf_16 : decode cX1_placeOf 16 = .ok (.aload_n 0, 1) := by decide +kernel
theorem dX1_placeOf_17 : decode cX1_placeOf 17 = .ok (.getfield 28, 3) := by decide +kernel
theorem dX1_placeOf_20 : decode cX1_placeOf 20 = .ok (.istore 4, 2) := by decide +kernel
theorem dX1_placeOf_22 : decode cX1_placeOf 22 = .ok (.iload_n 3, 1) := by decide +kernel
theorem dX1_placeOf_23 : decode cX1_placeOf 23 = .ok (.iconst 1, 1) := by decide +kernel
theorem dX1_placeOf_24 : decode cX1_placeOf 24 = .ok (.isub, 1) := by decide +kernel
theorem dX1_placeOf_25 : decode cX1_placeOf 25 = .ok (.istore 5, 2) := by decide +kernel
theorem dX1_placeOf_27 : decode cX1_placeOf 27 = .ok (.iload 5, 2) := by decide +kernel
theorem dX1_placeOf_29 : decode cX1_placeOf 29 = .ok (.iload_n 2, 1) := by decide +kernel
theorem dX1_placeOf_59 : decode cX1_placeOf 59 = .ok (.aload_n 0, 1) := by decide +kernel
theorem dX1_placeOf_60 : decode cX1_placeOf 60 = .ok (.getfield 15, 3) := by decide +kernel
theorem dX1_placeOf_63 : decode cX1_placeOf 63 = .ok (.iload 4, 2) := by decide +kernel
theorem dX1_placeOf_65 : decode cX1_placeOf 65 = .ok (.iaload, 1) := by decide +kernel
theorem dX1_placeOf_66 : decode cX1_placeOf 66 = .ok (.sipush 128, 3) := by decide +kernel
theorem dX1_placeOf_69 : decode cX1_placeOf 69 = .ok (.idiv, 1) := by decide +kernel
theorem dX1_placeOf_70 : decode cX1_placeOf 70 = .ok (.istore 5, 2) := by decide +kernel
theorem dX1_placeOf_72 : decode cX1_placeOf 72 = .ok (.iload_n 1, 1) := by decide +kernel
theorem dX1_placeOf_73 : decode cX1_placeOf 73 = .ok (.ifCond .ne 11, 3) := by decide +kernel
theorem dX1_placeOf_84 : decode cX1_placeOf 84 = .ok (.iload 5, 2) := by decide +kernel
theorem dX1_placeOf_86 : decode cX1_placeOf 86 = .ok (.bipush 7, 2) := by decide +kernel
theorem dX1_placeOf_88 : decode cX1_placeOf 88 = .ok (.irem, 1) := by decide +kernel
theorem dX1_placeOf_89 : decode cX1_placeOf 89 = .ok (.ireturn, 1) := by decide +kernel
theorem dX1_placeOf_76 : decode cX1_placeOf 76 = .ok (.iload 5, 2) := by decide +kernel
theorem dX1_placeOf_78 : decode cX1_placeOf 78 = .ok (.bipush 7, 2) := by decide +kernel
theorem dX1_placeOf_80 : decode cX1_placeOf 80 = .ok (.idiv, 1) := by decide +kernel
theorem dX1_placeOf_81 : decode cX1_placeOf 81 = .ok (.goto 8, 3) := by decide +kernel
theorem dX1_placeOf_30 : decode cX1_placeOf 30 = .ok (.if_icmp .le 29, 3) := by decide +kernel
theorem dX1_placeOf_33 : decode cX1_placeOf 33 = .ok (.aload_n 0, 1) := by decide +kernel
theorem dX1_placeOf_34 : decode cX1_placeOf 34 = .ok (.getfield 19, 3) := by decide +kernel
theorem dX1_placeOf_37 : decode cX1_placeOf 37 = .ok (.iload 4, 2) := by decide +kernel
theorem dX1_placeOf_39 : decode cX1_placeOf 39 = .ok (.iaload, 1) := by decide +kernel
theorem dX1_placeOf_40 : decode cX1_placeOf 40 = .ok (.iconst (-1), 1) := by decide +kernel
theorem dX1_placeOf_41 : decode cX1_placeOf 41 = .ok (.if_icmp .eq 18, 3) := by decide +kernel
theorem dX1_placeOf_44 : decode cX1_placeOf 44 = .ok (.aload_n 0, 1) := by decide +kernel
theorem dX1_placeOf_45 : decode cX1_placeOf 45 = .ok (.getfield 19, 3) := by decide +kernel
theorem dX1_placeOf_48 : decode cX1_placeOf 48 = .ok (.iload 4, 2) := by decide +kernel
theorem dX1_placeOf_50 : decode cX1_placeOf 50 = .ok (.iaload, 1) := by decide +kernel
theorem dX1_placeOf_51 : decode cX1_placeOf 51 = .ok (.istore 4, 2) := by decide +kernel
theorem dX1_placeOf_53 : decode cX1_placeOf 53 = .ok (.iinc 5 (-1), 3) := by decide +kernel
theorem dX1_placeOf_56 : decode cX1_placeOf 56 = .ok (.goto (-29), 3) := by decide +kernel
theorem dX1_findLeaders_0 : decode cX1_findLeaders 0 = .ok (.iconst 0, 1) := by decide +kernel
theorem dX1_findLeaders_1 : decode cX1_findLeaders 1 = .ok (.istore_n 2, 1) := by decide +kernel
theorem dX1_findLeaders_2 : decode cX1_findLeaders 2 = .ok (.iload_n 2, 1) := by decide +kernel
theorem dX1_findLeaders_3 : decode cX1_findLeaders 3 = .ok (.aload_n 1, 1) := by decide +kernel
theorem dX1_findLeaders_4 : decode cX1_findLeaders 4 = .ok (.getfield 65, 3) := by decide +kernel
theorem dX1_findLeaders_7 : decode cX1_findLeaders 7 = .ok (.if_icmp .ge 45, 3) := by decide +kernel
theorem dX1_findLeaders_52 : decode cX1_findLeaders 52 = .ok (.return_, 1) := by decide +kernel
theorem dX1_findLeaders_10 : decode cX1_findLeaders 10 = .ok (.iconst 1, 1) := by decide +kernel
theorem dX1_findLeaders_11 : decode cX1_findLeaders 11 = .ok (.iload_n 2, 1) := by decide +kernel
theorem dX1_findLeaders_12 : decode cX1_findLeaders 12 = .ok (.ishl, 1) := by decide +kernel
theorem dX1_findLeaders_13 : decode cX1_findLeaders 13 = .ok (.istore_n 3, 1) := by decide +kernel
theorem dX1_findLeaders_14 : decode cX1_findLeaders 14 = .ok (.iconst 0, 1) := by decide +kernel
theorem dX1_findLeaders_15 : decode cX1_findLeaders 15 = .ok (.istore 4, 2) := by decide +kernel
theorem dX1_findLeaders_17 : decode cX1_findLeaders 17 = .ok (.iload 4, 2) := by decide +kernel
theorem dX1_findLeaders_19 : decode cX1_findLeaders 19 = .ok (.bipush 7, 2) := by decide +kernel
theorem dX1_findLeaders_21 : decode cX1_findLeaders 21 = .ok (.if_icmp .ge 15, 3) := by decide +kernel
theorem dX1_findLeaders_36 : decode cX1_findLeaders 36 = .ok (.aload_n 0, 1) := by decide +kernel
theorem dX1_findLeaders_37 : decode cX1_findLeaders 37 = .ok (.getfield 22, 3) := by decide +kernel
theorem dX1_findLeaders_40 : decode cX1_findLeaders 40 = .ok (.iload_n 2, 1) := by decide +kernel
theorem dX1_findLeaders_41 : decode cX1_findLeaders 41 = .ok (.iload_n 3, 1) := by decide +kernel
theorem dX1_findLeaders_42 : decode cX1_findLeaders 42 = .ok (.invokestatic 76, 3) := by decide +kernel
theorem dX1_findLeaders_45 : decode cX1_findLeaders 45 = .ok (.iastore, 1) := by decide +kernel
theorem dX1_findLeaders_46 : decode cX1_findLeaders 46 = .ok (.iinc 2 1, 3) := by decide +kernel
theorem dX1_findLeaders_49 : decode cX1_findLeaders 49 = .ok (.goto (-47), 3) := by decide +kernel
theorem dX1_findLeaders_24 : decode cX1_findLeaders 24 = .ok (.aload_n 1, 1) := by decide +kernel
theorem dX1_findLeaders_25 : decode cX1_findLeaders 25 = .ok (.iload_n 3, 1) := by decide +kernel
theorem dX1_findLeaders_26 : decode cX1_findLeaders 26 = .ok (.invokevirtual 72, 3) := by decide +kernel
theorem dX1_findLeaders_29 : decode cX1_findLeaders 29 = .ok (.istore_n 3, 1) := by decide +kernel
theorem dX1_findLeaders_30 : decode cX1_findLeaders 30 = .ok (.iinc 4 1, 3) := by decide +kernel
theorem dX1_findLeaders_33 : decode cX1_findLeaders 33 = .ok (.goto (-16), 3) := by decide +kernel
theorem dX1_pairsThatCan_0 : decode cX1_pairsThatCan 0 = .ok (.aload_n 0, 1) := by decide +kernel
theorem dX1_pairsThatCan_1 : decode cX1_pairsThatCan 1 = .ok (.getfield 25, 3) := by decide +kernel
theorem dX1_pairsThatCan_4 : decode cX1_pairsThatCan 4 = .ok (.iconst (-1), 1) := by decide +kernel
theorem dX1_pairsThatCan_5 : decode cX1_pairsThatCan 5 = .ok (.invokestatic 58, 3) := by decide +kernel
theorem dX1_pairsThatCan_8 : decode cX1_pairsThatCan 8 = .ok (.aload_n 0, 1) := by decide +kernel
theorem dX1_pairsThatCan_9 : decode cX1_pairsThatCan 9 = .ok (.aload_n 1, 1) := by decide +kernel
theorem dX1_pairsThatCan_10 : decode cX1_pairsThatCan 10 = .ok (.invokevirtual 61, 3) := by decide +kernel
theorem dX1_pairsThatCan_13 : decode cX1_pairsThatCan 13 = .ok (.iconst 0, 1) := by decide +kernel
theorem dX1_pairsThatCan_14 : decode cX1_pairsThatCan 14 = .ok (.istore_n 2, 1) := by decide +kernel
theorem dX1_pairsThatCan_15 : decode cX1_pairsThatCan 15 = .ok (.iconst 0, 1) := by decide +kernel
theorem dX1_pairsThatCan_16 : decode cX1_pairsThatCan 16 = .ok (.istore_n 3, 1) := by decide +kernel
theorem dX1_pairsThatCan_17 : decode cX1_pairsThatCan 17 = .ok (.iload_n 3, 1) := by decide +kernel
theorem dX1_pairsThatCan_18 : decode cX1_pairsThatCan 18 = .ok (.aload_n 1, 1) := by decide +kernel
theorem dX1_pairsThatCan_19 : decode cX1_pairsThatCan 19 = .ok (.getfield 65, 3) := by decide +kernel
theorem dX1_pairsThatCan_22 : decode cX1_pairsThatCan 22 = .ok (.if_icmp .ge 101, 3) := by decide +kernel
theorem dX1_pairsThatCan_123 : decode cX1_pairsThatCan 123 = .ok (.iload_n 2, 1) := by decide +kernel
theorem dX1_pairsThatCan_124 : decode cX1_pairsThatCan 124 = .ok (.ireturn, 1) := by decide +kernel
theorem dX1_pairsThatCan_25 : decode cX1_pairsThatCan 25 = .ok (.iload_n 3, 1) := by decide +kernel
theorem dX1_pairsThatCan_26 : decode cX1_pairsThatCan 26 = .ok (.istore 4, 2) := by decide +kernel
theorem dX1_pairsThatCan_28 : decode cX1_pairsThatCan 28 = .ok (.iload 4, 2) := by decide +kernel
theorem dX1_pairsThatCan_30 : decode cX1_pairsThatCan 30 = .ok (.aload_n 1, 1) := by decide +kernel
theorem dX1_pairsThatCan_31 : decode cX1_pairsThatCan 31 = .ok (.getfield 65, 3) := by decide +kernel
theorem dX1_pairsThatCan_34 : decode cX1_pairsThatCan 34 = .ok (.if_icmp .ge 83, 3) := by decide +kernel
theorem dX1_pairsThatCan_117 : decode cX1_pairsThatCan 117 = .ok (.iinc 3 1, 3) := by decide +kernel
theorem dX1_pairsThatCan_120 : decode cX1_pairsThatCan 120 = .ok (.goto (-103), 3) := by decide +kernel
theorem dX1_pairsThatCan_37 : decode cX1_pairsThatCan 37 = .ok (.aload_n 0, 1) := by decide +kernel
theorem dX1_pairsThatCan_38 : decode cX1_pairsThatCan 38 = .ok (.getfield 22, 3) := by decide +kernel
theorem dX1_pairsThatCan_41 : decode cX1_pairsThatCan 41 = .ok (.iload_n 3, 1) := by decide +kernel
theorem dX1_pairsThatCan_42 : decode cX1_pairsThatCan 42 = .ok (.iaload, 1) := by decide +kernel
theorem dX1_pairsThatCan_43 : decode cX1_pairsThatCan 43 = .ok (.bipush 7, 2) := by decide +kernel
theorem dX1_pairsThatCan_45 : decode cX1_pairsThatCan 45 = .ok (.imul, 1) := by decide +kernel
theorem dX1_pairsThatCan_46 : decode cX1_pairsThatCan 46 = .ok (.aload_n 0, 1) := by decide +kernel
theorem dX1_pairsThatCan_47 : decode cX1_pairsThatCan 47 = .ok (.getfield 22, 3) := by decide +kernel
theorem dX1_pairsThatCan_50 : decode cX1_pairsThatCan 50 = .ok (.iload 4, 2) := by decide +kernel
theorem dX1_pairsThatCan_52 : decode cX1_pairsThatCan 52 = .ok (.iaload, 1) := by decide +kernel
theorem dX1_pairsThatCan_53 : decode cX1_pairsThatCan 53 = .ok (.iadd, 1) := by decide +kernel
theorem dX1_pairsThatCan_54 : decode cX1_pairsThatCan 54 = .ok (.istore 5, 2) := by decide +kernel
theorem dX1_pairsThatCan_56 : decode cX1_pairsThatCan 56 = .ok (.aload_n 0, 1) := by decide +kernel
theorem dX1_pairsThatCan_57 : decode cX1_pairsThatCan 57 = .ok (.getfield 25, 3) := by decide +kernel
theorem dX1_pairsThatCan_60 : decode cX1_pairsThatCan 60 = .ok (.iload 5, 2) := by decide +kernel
theorem dX1_pairsThatCan_62 : decode cX1_pairsThatCan 62 = .ok (.iaload, 1) := by decide +kernel
theorem dX1_pairsThatCan_63 : decode cX1_pairsThatCan 63 = .ok (.iconst (-1), 1) := by decide +kernel
theorem dX1_pairsThatCan_101 : decode cX1_pairsThatCan 101 = .ok (.iload_n 2, 1) := by decide +kernel
theorem dX1_pairsThatCan_102 : decode cX1_pairsThatCan 102 = .ok (.aload_n 0, 1) := by decide +kernel
theorem dX1_pairsThatCan_103 : decode cX1_pairsThatCan 103 = .ok (.getfield 25, 3) := by decide +kernel
theorem dX1_pairsThatCan_106 : decode cX1_pairsThatCan 106 = .ok (.iload 5, 2) := by decide +kernel
theorem dX1_pairsThatCan_108 : decode cX1_pairsThatCan 108 = .ok (.iaload, 1) := by decide +kernel
theorem dX1_pairsThatCan_109 : decode cX1_pairsThatCan 109 = .ok (.iadd, 1) := by decide +kernel
theorem dX1_pairsThatCan_110 : decode cX1_pairsThatCan 110 = .ok (.istore_n 2, 1) := by decide +kernel
theorem dX1_pairsThatCan_111 : decode cX1_pairsThatCan 111 = .ok (.iinc 4 1, 3) := by decide +kernel
theorem dX1_pairsThatCan_114 : decode cX1_pairsThatCan 114 = .ok (.goto (-86), 3) := by decide +kernel
theorem dX1_pairsThatCan_64 : decode cX1_pairsThatCan 64 = .ok (.if_icmp .ne 37, 3) := by decide +kernel
theorem dX1_pairsThatCan_67 : decode cX1_pairsThatCan 67 = .ok (.aload_n 0, 1) := by decide +kernel
theorem dX1_pairsThatCan_68 : decode cX1_pairsThatCan 68 = .ok (.getfield 25, 3) := by decide +kernel
theorem dX1_pairsThatCan_71 : decode cX1_pairsThatCan 71 = .ok (.iload 5, 2) := by decide +kernel
theorem dX1_pairsThatCan_73 : decode cX1_pairsThatCan 73 = .ok (.aload_n 0, 1) := by decide +kernel
theorem dX1_pairsThatCan_74 : decode cX1_pairsThatCan 74 = .ok (.aload_n 1, 1) := by decide +kernel
theorem dX1_pairsThatCan_75 : decode cX1_pairsThatCan 75 = .ok (.aload_n 0, 1) := by decide +kernel
theorem dX1_pairsThatCan_76 : decode cX1_pairsThatCan 76 = .ok (.getfield 22, 3) := by decide +kernel
theorem dX1_pairsThatCan_79 : decode cX1_pairsThatCan 79 = .ok (.iload_n 3, 1) := by decide +kernel
theorem dX1_pairsThatCan_80 : decode cX1_pairsThatCan 80 = .ok (.iaload, 1) := by decide +kernel
theorem dX1_pairsThatCan_81 : decode cX1_pairsThatCan 81 = .ok (.aload_n 0, 1) := by decide +kernel
theorem dX1_pairsThatCan_82 : decode cX1_pairsThatCan 82 = .ok (.getfield 22, 3) := by decide +kernel
theorem dX1_pairsThatCan_85 : decode cX1_pairsThatCan 85 = .ok (.iload 4, 2) := by decide +kernel
theorem dX1_pairsThatCan_87 : decode cX1_pairsThatCan 87 = .ok (.iaload, 1) := by decide +kernel
theorem dX1_pairsThatCan_88 : decode cX1_pairsThatCan 88 = .ok (.iconst 0, 1) := by decide +kernel
theorem dX1_pairsThatCan_89 : decode cX1_pairsThatCan 89 = .ok (.invokevirtual 68, 3) := by decide +kernel
theorem dX1_pairsThatCan_100 : decode cX1_pairsThatCan 100 = .ok (.iastore, 1) := by decide +kernel
theorem dX1_pairsThatCan_92 : decode cX1_pairsThatCan 92 = .ok (.ifCond .eq 7, 3) := by decide +kernel
theorem dX1_pairsThatCan_99 : decode cX1_pairsThatCan 99 = .ok (.iconst 0, 1) := by decide +kernel
theorem dX1_pairsThatCan_95 : decode cX1_pairsThatCan 95 = .ok (.iconst 1, 1) := by decide +kernel
theorem dX1_pairsThatCan_96 : decode cX1_pairsThatCan 96 = .ok (.goto 4, 3) := by decide +kernel
theorem dX3_column_0 : decode cX3_column 0 = .ok (.iload_n 1, 1) := by decide +kernel
theorem dX3_column_1 : decode cX3_column 1 = .ok (.tableswitch 42 0 2 #[27, 32, 37], 27) := by decide +kernel
theorem dX3_column_28 : decode cX3_column 28 = .ok (.aload_n 0, 1) := by decide +kernel
theorem dX3_column_29 : decode cX3_column 29 = .ok (.getfield 9, 3) := by decide +kernel
theorem dX3_column_32 : decode cX3_column 32 = .ok (.areturn, 1) := by decide +kernel
theorem dX3_column_33 : decode cX3_column 33 = .ok (.aload_n 0, 1) := by decide +kernel
theorem dX3_column_34 : decode cX3_column 34 = .ok (.getfield 15, 3) := by decide +kernel
theorem dX3_column_37 : decode cX3_column 37 = .ok (.areturn, 1) := by decide +kernel
theorem dX3_column_38 : decode cX3_column 38 = .ok (.aload_n 0, 1) := by decide +kernel
theorem dX3_column_39 : decode cX3_column 39 = .ok (.getfield 18, 3) := by decide +kernel
theorem dX3_column_42 : decode cX3_column 42 = .ok (.areturn, 1) := by decide +kernel
theorem dX3_column_43 : decode cX3_column 43 = .ok (.aload_n 0, 1) := by decide +kernel
theorem dX3_column_44 : decode cX3_column 44 = .ok (.getfield 21, 3) := by decide +kernel
theorem dX3_column_47 : decode cX3_column 47 = .ok (.areturn, 1) := by decide +kernel
theorem dX0_stepAt_0 : decode cX0_stepAt 0 = .ok (.iload_n 1, 1) := by decide +kernel
theorem dX0_stepAt_1 : decode cX0_stepAt 1 = .ok (.ifCond .lt 19, 3) := by decide +kernel
theorem dX0_stepAt_20 : decode cX0_stepAt 20 = .ok (.iconst (-1), 1) := by decide +kernel
theorem dX0_stepAt_21 : decode cX0_stepAt 21 = .ok (.ireturn, 1) := by decide +kernel
theorem dX0_stepAt_4 : decode cX0_stepAt 4 = .ok (.iload_n 1, 1) := by decide +kernel
theorem dX0_stepAt_5 : decode cX0_stepAt 5 = .ok (.iconst 5, 1) := by decide +kernel
theorem dX0_stepAt_6 : decode cX0_stepAt 6 = .ok (.if_icmp .ge 14, 3) := by decide +kernel
theorem dX0_stepAt_9 : decode cX0_stepAt 9 = .ok (.aload_n 0, 1) := by decide +kernel
theorem dX0_stepAt_10 : decode cX0_stepAt 10 = .ok (.getfield 19, 3) := by decide +kernel
theorem dX0_stepAt_13 : decode cX0_stepAt 13 = .ok (.iconst 0, 1) := by decide +kernel
theorem dX0_stepAt_14 : decode cX0_stepAt 14 = .ok (.aaload, 1) := by decide +kernel
theorem dX0_stepAt_15 : decode cX0_stepAt 15 = .ok (.iload_n 1, 1) := by decide +kernel
theorem dX0_stepAt_16 : decode cX0_stepAt 16 = .ok (.iaload, 1) := by decide +kernel
theorem dX0_stepAt_17 : decode cX0_stepAt 17 = .ok (.goto 4, 3) := by decide +kernel
theorem dX0_keepWay_0 : decode cX0_keepWay 0 = .ok (.aload_n 0, 1) := by decide +kernel
theorem dX0_keepWay_1 : decode cX0_keepWay 1 = .ok (.getfield 19, 3) := by decide +kernel
theorem dX0_keepWay_4 : decode cX0_keepWay 4 = .ok (.iload_n 1, 1) := by decide +kernel
theorem dX0_keepWay_5 : decode cX0_keepWay 5 = .ok (.aaload, 1) := by decide +kernel
theorem dX0_keepWay_6 : decode cX0_keepWay 6 = .ok (.iload_n 1, 1) := by decide +kernel
theorem dX0_keepWay_7 : decode cX0_keepWay 7 = .ok (.iload_n 2, 1) := by decide +kernel
theorem dX0_keepWay_8 : decode cX0_keepWay 8 = .ok (.iastore, 1) := by decide +kernel
theorem dX0_keepWay_9 : decode cX0_keepWay 9 = .ok (.iload_n 1, 1) := by decide +kernel
theorem dX0_keepWay_10 : decode cX0_keepWay 10 = .ok (.iconst 1, 1) := by decide +kernel
theorem dX0_keepWay_11 : decode cX0_keepWay 11 = .ok (.iadd, 1) := by decide +kernel
theorem dX0_keepWay_12 : decode cX0_keepWay 12 = .ok (.istore_n 3, 1) := by decide +kernel
theorem dX0_keepWay_13 : decode cX0_keepWay 13 = .ok (.iload_n 3, 1) := by decide +kernel
theorem dX0_keepWay_14 : decode cX0_keepWay 14 = .ok (.iconst 5, 1) := by decide +kernel
theorem dX0_keepWay_15 : decode cX0_keepWay 15 = .ok (.if_icmp .ge 27, 3) := by decide +kernel
theorem dX0_keepWay_42 : decode cX0_keepWay 42 = .ok (.return_, 1) := by decide +kernel
theorem dX0_keepWay_18 : decode cX0_keepWay 18 = .ok (.aload_n 0, 1) := by decide +kernel
theorem dX0_keepWay_19 : decode cX0_keepWay 19 = .ok (.getfield 19, 3) := by decide +kernel
theorem dX0_keepWay_22 : decode cX0_keepWay 22 = .ok (.iload_n 1, 1) := by decide +kernel
theorem dX0_keepWay_23 : decode cX0_keepWay 23 = .ok (.aaload, 1) := by decide +kernel
theorem dX0_keepWay_24 : decode cX0_keepWay 24 = .ok (.iload_n 3, 1) := by decide +kernel
theorem dX0_keepWay_25 : decode cX0_keepWay 25 = .ok (.aload_n 0, 1) := by decide +kernel
theorem dX0_keepWay_26 : decode cX0_keepWay 26 = .ok (.getfield 19, 3) := by decide +kernel
theorem dX0_keepWay_29 : decode cX0_keepWay 29 = .ok (.iload_n 1, 1) := by decide +kernel
theorem dX0_keepWay_30 : decode cX0_keepWay 30 = .ok (.iconst 1, 1) := by decide +kernel
theorem dX0_keepWay_31 : decode cX0_keepWay 31 = .ok (.iadd, 1) := by decide +kernel
theorem dX0_keepWay_32 : decode cX0_keepWay 32 = .ok (.aaload, 1) := by decide +kernel
theorem dX0_keepWay_33 : decode cX0_keepWay 33 = .ok (.iload_n 3, 1) := by decide +kernel
theorem dX0_keepWay_34 : decode cX0_keepWay 34 = .ok (.iaload, 1) := by decide +kernel
theorem dX0_keepWay_35 : decode cX0_keepWay 35 = .ok (.iastore, 1) := by decide +kernel
theorem dX0_keepWay_36 : decode cX0_keepWay 36 = .ok (.iinc 3 1, 3) := by decide +kernel
theorem dX0_keepWay_39 : decode cX0_keepWay 39 = .ok (.goto (-26), 3) := by decide +kernel
theorem dX0_calling_0 : decode cX0_calling 0 = .ok (.iload_n 3, 1) := by decide +kernel
theorem dX0_calling_1 : decode cX0_calling 1 = .ok (.iconst 1, 1) := by decide +kernel
theorem dX0_calling_2 : decode cX0_calling 2 = .ok (.iadd, 1) := by decide +kernel
theorem dX0_calling_3 : decode cX0_calling 3 = .ok (.iload 4, 2) := by decide +kernel
theorem dX0_calling_15 : decode cX0_calling 15 = .ok (.aload_n 0, 1) := by decide +kernel
theorem dX0_calling_16 : decode cX0_calling 16 = .ok (.getfield 11, 3) := by decide +kernel
theorem dX0_calling_19 : decode cX0_calling 19 = .ok (.iload_n 3, 1) := by decide +kernel
theorem dX0_calling_20 : decode cX0_calling 20 = .ok (.aaload, 1) := by decide +kernel
theorem dX0_calling_21 : decode cX0_calling 21 = .ok (.aload_n 1, 1) := by decide +kernel
theorem dX0_calling_22 : decode cX0_calling 22 = .ok (.iload_n 2, 1) := by decide +kernel
theorem dX0_calling_23 : decode cX0_calling 23 = .ok (.iconst 0, 1) := by decide +kernel
theorem dX0_calling_24 : decode cX0_calling 24 = .ok (.invokevirtual 52, 3) := by decide +kernel
theorem dX0_calling_27 : decode cX0_calling 27 = .ok (.ireturn, 1) := by decide +kernel
theorem dX0_calling_5 : decode cX0_calling 5 = .ok (.if_icmp .ge 10, 3) := by decide +kernel
theorem dX0_seek_0 : decode cX0_seek 0 = .ok (.iload_n 3, 1) := by decide +kernel
theorem dX0_seek_1 : decode cX0_seek 1 = .ok (.iload 4, 2) := by decide +kernel
theorem dX0_seek_3 : decode cX0_seek 3 = .ok (.if_icmp .ge 8, 3) := by decide +kernel
theorem dX0_seek_11 : decode cX0_seek 11 = .ok (.iconst 0, 1) := by decide +kernel
theorem dX0_seek_12 : decode cX0_seek 12 = .ok (.ireturn, 1) := by decide +kernel
theorem dX0_seek_6 : decode cX0_seek 6 = .ok (.iload_n 3, 1) := by decide +kernel
theorem dX0_seek_7 : decode cX0_seek 7 = .ok (.iconst 5, 1) := by decide +kernel
theorem dX0_seek_8 : decode cX0_seek 8 = .ok (.if_icmp .lt 5, 3) := by decide +kernel
theorem dX0_seek_13 : decode cX0_seek 13 = .ok (.iconst (-1), 1) := by decide +kernel
theorem dX0_seek_14 : decode cX0_seek 14 = .ok (.istore 5, 2) := by decide +kernel
theorem dX0_seek_16 : decode cX0_seek 16 = .ok (.iconst 0, 1) := by decide +kernel
theorem dX0_seek_17 : decode cX0_seek 17 = .ok (.istore 6, 2) := by decide +kernel
theorem dX0_seek_19 : decode cX0_seek 19 = .ok (.iload 6, 2) := by decide +kernel
theorem dX0_seek_21 : decode cX0_seek 21 = .ok (.aload_n 1, 1) := by decide +kernel
theorem dX0_seek_22 : decode cX0_seek 22 = .ok (.getfield 35, 3) := by decide +kernel
theorem dX0_seek_25 : decode cX0_seek 25 = .ok (.if_icmp .ge 49, 3) := by decide +kernel
theorem dX0_seek_74 : decode cX0_seek 74 = .ok (.iload 5, 2) := by decide +kernel
theorem dX0_seek_76 : decode cX0_seek 76 = .ok (.ireturn, 1) := by decide +kernel
theorem dX0_seek_28 : decode cX0_seek 28 = .ok (.aload_n 1, 1) := by decide +kernel
theorem dX0_seek_29 : decode cX0_seek 29 = .ok (.iload_n 2, 1) := by decide +kernel
theorem dX0_seek_30 : decode cX0_seek 30 = .ok (.iload 6, 2) := by decide +kernel
theorem dX0_seek_32 : decode cX0_seek 32 = .ok (.invokevirtual 44, 3) := by decide +kernel
theorem dX0_seek_68 : decode cX0_seek 68 = .ok (.iinc 6 1, 3) := by decide +kernel
theorem dX0_seek_71 : decode cX0_seek 71 = .ok (.goto (-52), 3) := by decide +kernel
theorem dX0_seek_35 : decode cX0_seek 35 = .ok (.ifCond .eq 33, 3) := by decide +kernel
theorem dX0_seek_38 : decode cX0_seek 38 = .ok (.aload_n 0, 1) := by decide +kernel
theorem dX0_seek_39 : decode cX0_seek 39 = .ok (.aload_n 1, 1) := by decide +kernel
theorem dX0_seek_40 : decode cX0_seek 40 = .ok (.iload 6, 2) := by decide +kernel
theorem dX0_seek_42 : decode cX0_seek 42 = .ok (.iload_n 3, 1) := by decide +kernel
theorem dX0_seek_43 : decode cX0_seek 43 = .ok (.iload 4, 2) := by decide +kernel
theorem dX0_seek_45 : decode cX0_seek 45 = .ok (.invokevirtual 41, 3) := by decide +kernel
theorem dX0_seek_48 : decode cX0_seek 48 = .ok (.istore 7, 2) := by decide +kernel
theorem dX0_seek_50 : decode cX0_seek 50 = .ok (.iload 7, 2) := by decide +kernel
theorem dX0_seek_52 : decode cX0_seek 52 = .ok (.iload 5, 2) := by decide +kernel
theorem dX0_seek_54 : decode cX0_seek 54 = .ok (.if_icmp .le 14, 3) := by decide +kernel
theorem dX0_seek_57 : decode cX0_seek 57 = .ok (.iload 7, 2) := by decide +kernel
theorem dX0_seek_59 : decode cX0_seek 59 = .ok (.istore 5, 2) := by decide +kernel
theorem dX0_seek_61 : decode cX0_seek 61 = .ok (.aload_n 0, 1) := by decide +kernel
theorem dX0_seek_62 : decode cX0_seek 62 = .ok (.iload_n 3, 1) := by decide +kernel
theorem dX0_seek_63 : decode cX0_seek 63 = .ok (.iload 6, 2) := by decide +kernel
theorem dX0_seek_65 : decode cX0_seek 65 = .ok (.invokevirtual 48, 3) := by decide +kernel
theorem dX0_calling_8 : decode cX0_calling 8 = .ok (.iload_n 3, 1) := by decide +kernel
theorem dX0_calling_9 : decode cX0_calling 9 = .ok (.iconst 1, 1) := by decide +kernel
theorem dX0_calling_10 : decode cX0_calling 10 = .ok (.iadd, 1) := by decide +kernel
theorem dX0_calling_11 : decode cX0_calling 11 = .ok (.iconst 5, 1) := by decide +kernel
theorem dX0_calling_12 : decode cX0_calling 12 = .ok (.if_icmp .lt 16, 3) := by decide +kernel
theorem dX0_calling_28 : decode cX0_calling 28 = .ok (.aload_n 0, 1) := by decide +kernel
theorem dX0_calling_29 : decode cX0_calling 29 = .ok (.getfield 11, 3) := by decide +kernel
theorem dX0_calling_32 : decode cX0_calling 32 = .ok (.iload_n 3, 1) := by decide +kernel
theorem dX0_calling_33 : decode cX0_calling 33 = .ok (.iconst 1, 1) := by decide +kernel
theorem dX0_calling_34 : decode cX0_calling 34 = .ok (.iadd, 1) := by decide +kernel
theorem dX0_calling_35 : decode cX0_calling 35 = .ok (.aaload, 1) := by decide +kernel
theorem dX0_calling_36 : decode cX0_calling 36 = .ok (.astore 5, 2) := by decide +kernel
theorem dX0_calling_38 : decode cX0_calling 38 = .ok (.aload 5, 2) := by decide +kernel
theorem dX0_calling_40 : decode cX0_calling 40 = .ok (.aload_n 0, 1) := by decide +kernel
theorem dX0_calling_41 : decode cX0_calling 41 = .ok (.getfield 11, 3) := by decide +kernel
theorem dX0_calling_44 : decode cX0_calling 44 = .ok (.iload_n 3, 1) := by decide +kernel
theorem dX0_calling_45 : decode cX0_calling 45 = .ok (.aaload, 1) := by decide +kernel
theorem dX0_calling_46 : decode cX0_calling 46 = .ok (.invokevirtual 27, 3) := by decide +kernel
theorem dX0_calling_49 : decode cX0_calling 49 = .ok (.aload 5, 2) := by decide +kernel
theorem dX0_calling_51 : decode cX0_calling 51 = .ok (.aload_n 1, 1) := by decide +kernel
theorem dX0_calling_52 : decode cX0_calling 52 = .ok (.iload_n 2, 1) := by decide +kernel
theorem dX0_calling_53 : decode cX0_calling 53 = .ok (.iconst 0, 1) := by decide +kernel
theorem dX0_calling_54 : decode cX0_calling 54 = .ok (.invokevirtual 56, 3) := by decide +kernel
theorem dX0_calling_57 : decode cX0_calling 57 = .ok (.istore 6, 2) := by decide +kernel
theorem dX0_calling_59 : decode cX0_calling 59 = .ok (.iload 6, 2) := by decide +kernel
theorem dX0_calling_61 : decode cX0_calling 61 = .ok (.aload_n 0, 1) := by decide +kernel
theorem dX0_calling_62 : decode cX0_calling 62 = .ok (.aload_n 1, 1) := by decide +kernel
theorem dX0_calling_63 : decode cX0_calling 63 = .ok (.iload_n 2, 1) := by decide +kernel
theorem dX0_calling_64 : decode cX0_calling 64 = .ok (.iload_n 3, 1) := by decide +kernel
theorem dX0_calling_65 : decode cX0_calling 65 = .ok (.iconst 1, 1) := by decide +kernel
theorem dX0_calling_66 : decode cX0_calling 66 = .ok (.iadd, 1) := by decide +kernel
theorem dX0_calling_67 : decode cX0_calling 67 = .ok (.iload 4, 2) := by decide +kernel
theorem dX0_calling_69 : decode cX0_calling 69 = .ok (.invokevirtual 31, 3) := by decide +kernel
theorem dX0_calling_72 : decode cX0_calling 72 = .ok (.iadd, 1) := by decide +kernel
theorem dX0_calling_73 : decode cX0_calling 73 = .ok (.ireturn, 1) := by decide +kernel
theorem dX0_mostFrom_0 : decode cX0_mostFrom 0 = .ok (.aload_n 0, 1) := by decide +kernel
theorem dX0_mostFrom_1 : decode cX0_mostFrom 1 = .ok (.getfield 11, 3) := by decide +kernel
theorem dX0_mostFrom_4 : decode cX0_mostFrom 4 = .ok (.iconst 0, 1) := by decide +kernel
theorem dX0_mostFrom_5 : decode cX0_mostFrom 5 = .ok (.aaload, 1) := by decide +kernel
theorem dX0_mostFrom_6 : decode cX0_mostFrom 6 = .ok (.aload_n 2, 1) := by decide +kernel
theorem dX0_mostFrom_7 : decode cX0_mostFrom 7 = .ok (.invokevirtual 27, 3) := by decide +kernel
theorem dX0_mostFrom_10 : decode cX0_mostFrom 10 = .ok (.aload_n 0, 1) := by decide +kernel
theorem dX0_mostFrom_11 : decode cX0_mostFrom 11 = .ok (.aload_n 1, 1) := by decide +kernel
theorem dX0_mostFrom_12 : decode cX0_mostFrom 12 = .ok (.iload_n 3, 1) := by decide +kernel
theorem dX0_mostFrom_13 : decode cX0_mostFrom 13 = .ok (.iconst 0, 1) := by decide +kernel
theorem dX0_mostFrom_14 : decode cX0_mostFrom 14 = .ok (.iload 4, 2) := by decide +kernel
theorem dX0_mostFrom_16 : decode cX0_mostFrom 16 = .ok (.invokevirtual 31, 3) := by decide +kernel
theorem dX0_mostFrom_19 : decode cX0_mostFrom 19 = .ok (.ireturn, 1) := by decide +kernel
theorem dX0_bestStart_0 : decode cX0_bestStart 0 = .ok (.aload_n 0, 1) := by decide +kernel
theorem dX0_bestStart_1 : decode cX0_bestStart 1 = .ok (.getfield 11, 3) := by decide +kernel
theorem dX0_bestStart_4 : decode cX0_bestStart 4 = .ok (.iconst 0, 1) := by decide +kernel
theorem dX0_bestStart_5 : decode cX0_bestStart 5 = .ok (.aaload, 1) := by decide +kernel
theorem dX0_bestStart_6 : decode cX0_bestStart 6 = .ok (.aload_n 2, 1) := by decide +kernel
theorem dX0_bestStart_7 : decode cX0_bestStart 7 = .ok (.invokevirtual 27, 3) := by decide +kernel
theorem dX0_bestStart_10 : decode cX0_bestStart 10 = .ok (.iconst 0, 1) := by decide +kernel
theorem dX0_bestStart_11 : decode cX0_bestStart 11 = .ok (.istore 4, 2) := by decide +kernel
theorem dX0_bestStart_13 : decode cX0_bestStart 13 = .ok (.iload 4, 2) := by decide +kernel
theorem dX0_bestStart_15 : decode cX0_bestStart 15 = .ok (.aload_n 1, 1) := by decide +kernel
theorem dX0_bestStart_16 : decode cX0_bestStart 16 = .ok (.getfield 35, 3) := by decide +kernel
theorem dX0_bestStart_19 : decode cX0_bestStart 19 = .ok (.if_icmp .ge 34, 3) := by decide +kernel
theorem dX0_bestStart_53 : decode cX0_bestStart 53 = .ok (.iconst 0, 1) := by decide +kernel
theorem dX0_bestStart_54 : decode cX0_bestStart 54 = .ok (.istore 4, 2) := by decide +kernel
theorem dX0_bestStart_56 : decode cX0_bestStart 56 = .ok (.iconst (-1), 1) := by decide +kernel
theorem dX0_bestStart_57 : decode cX0_bestStart 57 = .ok (.istore 5, 2) := by decide +kernel
theorem dX0_bestStart_59 : decode cX0_bestStart 59 = .ok (.iconst 0, 1) := by decide +kernel
theorem dX0_bestStart_60 : decode cX0_bestStart 60 = .ok (.istore 6, 2) := by decide +kernel
theorem dX0_bestStart_62 : decode cX0_bestStart 62 = .ok (.iload 6, 2) := by decide +kernel
theorem dX0_bestStart_64 : decode cX0_bestStart 64 = .ok (.aload_n 1, 1) := by decide +kernel
theorem dX0_bestStart_65 : decode cX0_bestStart 65 = .ok (.getfield 35, 3) := by decide +kernel
theorem dX0_bestStart_68 : decode cX0_bestStart 68 = .ok (.if_icmp .ge 63, 3) := by decide +kernel
theorem dX0_bestStart_131 : decode cX0_bestStart 131 = .ok (.iload 4, 2) := by decide +kernel
theorem dX0_bestStart_133 : decode cX0_bestStart 133 = .ok (.ireturn, 1) := by decide +kernel
theorem dX0_bestStart_71 : decode cX0_bestStart 71 = .ok (.iconst 0, 1) := by decide +kernel
theorem dX0_bestStart_72 : decode cX0_bestStart 72 = .ok (.istore 7, 2) := by decide +kernel
theorem dX0_bestStart_74 : decode cX0_bestStart 74 = .ok (.iload 7, 2) := by decide +kernel
theorem dX0_bestStart_76 : decode cX0_bestStart 76 = .ok (.aload_n 1, 1) := by decide +kernel
theorem dX0_bestStart_77 : decode cX0_bestStart 77 = .ok (.getfield 35, 3) := by decide +kernel
theorem dX0_bestStart_80 : decode cX0_bestStart 80 = .ok (.if_icmp .ge 45, 3) := by decide +kernel
theorem dX0_bestStart_125 : decode cX0_bestStart 125 = .ok (.iinc 6 1, 3) := by decide +kernel
theorem dX0_bestStart_128 : decode cX0_bestStart 128 = .ok (.goto (-66), 3) := by decide +kernel
theorem dX0_bestStart_83 : decode cX0_bestStart 83 = .ok (.aload_n 1, 1) := by decide +kernel
theorem dX0_bestStart_84 : decode cX0_bestStart 84 = .ok (.iload 6, 2) := by decide +kernel
theorem dX0_bestStart_86 : decode cX0_bestStart 86 = .ok (.iload 7, 2) := by decide +kernel
theorem dX0_bestStart_88 : decode cX0_bestStart 88 = .ok (.invokevirtual 44, 3) := by decide +kernel
theorem dX0_bestStart_119 : decode cX0_bestStart 119 = .ok (.iinc 7 1, 3) := by decide +kernel
theorem dX0_bestStart_122 : decode cX0_bestStart 122 = .ok (.goto (-48), 3) := by decide +kernel
theorem dX0_bestStart_91 : decode cX0_bestStart 91 = .ok (.ifCond .eq 28, 3) := by decide +kernel
theorem dX0_bestStart_94 : decode cX0_bestStart 94 = .ok (.aload_n 0, 1) := by decide +kernel
theorem dX0_bestStart_95 : decode cX0_bestStart 95 = .ok (.getfield 22, 3) := by decide +kernel
theorem dX0_bestStart_98 : decode cX0_bestStart 98 = .ok (.iload 7, 2) := by decide +kernel
theorem dX0_bestStart_100 : decode cX0_bestStart 100 = .ok (.iaload, 1) := by decide +kernel
theorem dX0_bestStart_101 : decode cX0_bestStart 101 = .ok (.iload 5, 2) := by decide +kernel
theorem dX0_bestStart_103 : decode cX0_bestStart 103 = .ok (.if_icmp .le 16, 3) := by decide +kernel
theorem dX0_bestStart_106 : decode cX0_bestStart 106 = .ok (.aload_n 0, 1) := by decide +kernel
theorem dX0_bestStart_107 : decode cX0_bestStart 107 = .ok (.getfield 22, 3) := by decide +kernel
theorem dX0_bestStart_110 : decode cX0_bestStart 110 = .ok (.iload 7, 2) := by decide +kernel
theorem dX0_bestStart_112 : decode cX0_bestStart 112 = .ok (.iaload, 1) := by decide +kernel
theorem dX0_bestStart_113 : decode cX0_bestStart 113 = .ok (.istore 5, 2) := by decide +kernel
theorem dX0_bestStart_115 : decode cX0_bestStart 115 = .ok (.iload 6, 2) := by decide +kernel
theorem dX0_bestStart_117 : decode cX0_bestStart 117 = .ok (.istore 4, 2) := by decide +kernel
theorem dX0_bestStart_22 : decode cX0_bestStart 22 = .ok (.aload_n 0, 1) := by decide +kernel
theorem dX0_bestStart_23 : decode cX0_bestStart 23 = .ok (.getfield 22, 3) := by decide +kernel
theorem dX0_bestStart_26 : decode cX0_bestStart 26 = .ok (.iload 4, 2) := by decide +kernel
theorem dX0_bestStart_28 : decode cX0_bestStart 28 = .ok (.iload_n 3, 1) := by decide +kernel
theorem dX0_bestStart_29 : decode cX0_bestStart 29 = .ok (.iconst 1, 1) := by decide +kernel
theorem dX0_bestStart_46 : decode cX0_bestStart 46 = .ok (.iastore, 1) := by decide +kernel
theorem dX0_bestStart_47 : decode cX0_bestStart 47 = .ok (.iinc 4 1, 3) := by decide +kernel
theorem dX0_bestStart_50 : decode cX0_bestStart 50 = .ok (.goto (-37), 3) := by decide +kernel
theorem dX0_bestStart_30 : decode cX0_bestStart 30 = .ok (.if_icmp .ge 7, 3) := by decide +kernel
theorem dX0_bestStart_37 : decode cX0_bestStart 37 = .ok (.aload_n 0, 1) := by decide +kernel
theorem dX0_bestStart_38 : decode cX0_bestStart 38 = .ok (.aload_n 1, 1) := by decide +kernel
theorem dX0_bestStart_39 : decode cX0_bestStart 39 = .ok (.iload 4, 2) := by decide +kernel
theorem dX0_bestStart_41 : decode cX0_bestStart 41 = .ok (.iconst 0, 1) := by decide +kernel
theorem dX0_bestStart_42 : decode cX0_bestStart 42 = .ok (.iload_n 3, 1) := by decide +kernel
theorem dX0_bestStart_43 : decode cX0_bestStart 43 = .ok (.invokevirtual 41, 3) := by decide +kernel
theorem dX0_bestStart_33 : decode cX0_bestStart 33 = .ok (.iconst 0, 1) := by decide +kernel
theorem dX0_bestStart_34 : decode cX0_bestStart 34 = .ok (.goto 12, 3) := by decide +kernel
theorem dX10_isSlot_0 : decode cX10_isSlot 0 = .ok (.iload_n 1, 1) := by decide +kernel
theorem dX10_isSlot_1 : decode cX10_isSlot 1 = .ok (.ifCond .lt 12, 3) := by decide +kernel
theorem dX10_isSlot_13 : decode cX10_isSlot 13 = .ok (.iconst 0, 1) := by decide +kernel
theorem dX10_isSlot_14 : decode cX10_isSlot 14 = .ok (.ireturn, 1) := by decide +kernel
theorem dX10_isSlot_4 : decode cX10_isSlot 4 = .ok (.iload_n 1, 1) := by decide +kernel
theorem dX10_isSlot_5 : decode cX10_isSlot 5 = .ok (.iconst 4, 1) := by decide +kernel
theorem dX10_isSlot_6 : decode cX10_isSlot 6 = .ok (.if_icmp .ge 7, 3) := by decide +kernel
theorem dX10_isSlot_9 : decode cX10_isSlot 9 = .ok (.iconst 1, 1) := by decide +kernel
theorem dX10_isSlot_10 : decode cX10_isSlot 10 = .ok (.goto 4, 3) := by decide +kernel
theorem dX10_isPartOfMillion_0 : decode cX10_isPartOfMillion 0 = .ok (.iload_n 1, 1) := by decide +kernel
theorem dX10_isPartOfMillion_1 : decode cX10_isPartOfMillion 1 = .ok (.ifCond .lt 13, 3) := by decide +kernel
theorem dX10_isPartOfMillion_14 : decode cX10_isPartOfMillion 14 = .ok (.iconst 0, 1) := by decide +kernel
theorem dX10_isPartOfMillion_15 : decode cX10_isPartOfMillion 15 = .ok (.ireturn, 1) := by decide +kernel
theorem dX10_isPartOfMillion_4 : decode cX10_isPartOfMillion 4 = .ok (.iload_n 1, 1) := by decide +kernel
theorem dX10_isPartOfMillion_5 : decode cX10_isPartOfMillion 5 = .ok (.ldc 201, 2) := by decide +kernel
theorem dX10_isPartOfMillion_7 : decode cX10_isPartOfMillion 7 = .ok (.if_icmp .gt 7, 3) := by decide +kernel
theorem dX10_isPartOfMillion_10 : decode cX10_isPartOfMillion 10 = .ok (.iconst 1, 1) := by decide +kernel
theorem dX10_isPartOfMillion_11 : decode cX10_isPartOfMillion 11 = .ok (.goto 4, 3) := by decide +kernel
theorem dX10_isBestLength_0 : decode cX10_isBestLength 0 = .ok (.iload_n 1, 1) := by decide +kernel
theorem dX10_isBestLength_1 : decode cX10_isBestLength 1 = .ok (.ifCond .lt 12, 3) := by decide +kernel
theorem dX10_isBestLength_13 : decode cX10_isBestLength 13 = .ok (.iconst 0, 1) := by decide +kernel
theorem dX10_isBestLength_14 : decode cX10_isBestLength 14 = .ok (.ireturn, 1) := by decide +kernel
theorem dX10_isBestLength_4 : decode cX10_isBestLength 4 = .ok (.iload_n 1, 1) := by decide +kernel
theorem dX10_isBestLength_5 : decode cX10_isBestLength 5 = .ok (.iconst 5, 1) := by decide +kernel
theorem dX10_isBestLength_6 : decode cX10_isBestLength 6 = .ok (.if_icmp .gt 7, 3) := by decide +kernel
theorem dX10_isBestLength_9 : decode cX10_isBestLength 9 = .ok (.iconst 1, 1) := by decide +kernel
theorem dX10_isBestLength_10 : decode cX10_isBestLength 10 = .ok (.goto 4, 3) := by decide +kernel
theorem dX10_isSeed_0 : decode cX10_isSeed 0 = .ok (.iload_n 1, 1) := by decide +kernel
theorem dX10_isSeed_1 : decode cX10_isSeed 1 = .ok (.ifCond .lt 14, 3) := by decide +kernel
theorem dX10_isSeed_15 : decode cX10_isSeed 15 = .ok (.iconst 0, 1) := by decide +kernel
theorem dX10_isSeed_16 : decode cX10_isSeed 16 = .ok (.ireturn, 1) := by decide +kernel
theorem dX10_isSeed_4 : decode cX10_isSeed 4 = .ok (.iload_n 1, 1) := by decide +kernel
theorem dX10_isSeed_5 : decode cX10_isSeed 5 = .ok (.ldc_w 380, 3) := by decide +kernel
theorem dX10_isSeed_8 : decode cX10_isSeed 8 = .ok (.if_icmp .gt 7, 3) := by decide +kernel
theorem dX10_isSeed_11 : decode cX10_isSeed 11 = .ok (.iconst 1, 1) := by decide +kernel
theorem dX10_isSeed_12 : decode cX10_isSeed 12 = .ok (.goto 4, 3) := by decide +kernel
theorem dX10_hasHouse_0 : decode cX10_hasHouse 0 = .ok (.aload_n 0, 1) := by decide +kernel
theorem dX10_hasHouse_1 : decode cX10_hasHouse 1 = .ok (.getfield 31, 3) := by decide +kernel
theorem dX10_hasHouse_4 : decode cX10_hasHouse 4 = .ok (.getfield 98, 3) := by decide +kernel
theorem dX10_hasHouse_7 : decode cX10_hasHouse 7 = .ok (.getfield 111, 3) := by decide +kernel
theorem dX10_hasHouse_10 : decode cX10_hasHouse 10 = .ok (.ifCond .le 7, 3) := by decide +kernel
theorem dX10_hasHouse_17 : decode cX10_hasHouse 17 = .ok (.iconst 0, 1) := by decide +kernel
theorem dX10_hasHouse_18 : decode cX10_hasHouse 18 = .ok (.ireturn, 1) := by decide +kernel
theorem dX10_hasHouse_13 : decode cX10_hasHouse 13 = .ok (.iconst 1, 1) := by decide +kernel
theorem dX10_hasHouse_14 : decode cX10_hasHouse 14 = .ok (.goto 4, 3) := by decide +kernel
theorem dX10_isRoom_0 : decode cX10_isRoom 0 = .ok (.aload_n 0, 1) := by decide +kernel
theorem dX10_isRoom_1 : decode cX10_isRoom 1 = .ok (.getfield 31, 3) := by decide +kernel
theorem dX10_isRoom_4 : decode cX10_isRoom 4 = .ok (.getfield 98, 3) := by decide +kernel
theorem dX10_isRoom_7 : decode cX10_isRoom 7 = .ok (.iload_n 1, 1) := by decide +kernel
theorem dX10_isRoom_8 : decode cX10_isRoom 8 = .ok (.invokevirtual 377, 3) := by decide +kernel
theorem dX10_isRoom_11 : decode cX10_isRoom 11 = .ok (.ireturn, 1) := by decide +kernel
theorem dX10_isMan_0 : decode cX10_isMan 0 = .ok (.iload_n 1, 1) := by decide +kernel
theorem dX10_isMan_1 : decode cX10_isMan 1 = .ok (.ifCond .lt 21, 3) := by decide +kernel
theorem dX10_isMan_22 : decode cX10_isMan 22 = .ok (.iconst 0, 1) := by decide +kernel
theorem dX10_isMan_23 : decode cX10_isMan 23 = .ok (.ireturn, 1) := by decide +kernel
theorem dX10_isMan_4 : decode cX10_isMan 4 = .ok (.iload_n 1, 1) := by decide +kernel
theorem dX10_isMan_5 : decode cX10_isMan 5 = .ok (.aload_n 0, 1) := by decide +kernel
theorem dX10_isMan_6 : decode cX10_isMan 6 = .ok (.getfield 31, 3) := by decide +kernel
theorem dX10_isMan_9 : decode cX10_isMan 9 = .ok (.getfield 98, 3) := by decide +kernel
theorem dX10_isMan_12 : decode cX10_isMan 12 = .ok (.getfield 283, 3) := by decide +kernel
theorem dX10_isMan_15 : decode cX10_isMan 15 = .ok (.if_icmp .ge 7, 3) := by decide +kernel
theorem dX10_isMan_18 : decode cX10_isMan 18 = .ok (.iconst 1, 1) := by decide +kernel
theorem dX10_isMan_19 : decode cX10_isMan 19 = .ok (.goto 4, 3) := by decide +kernel
theorem dX10_isRoomOrOut_0 : decode cX10_isRoomOrOut 0 = .ok (.aload_n 0, 1) := by decide +kernel
theorem dX10_isRoomOrOut_1 : decode cX10_isRoomOrOut 1 = .ok (.invokevirtual 152, 3) := by decide +kernel
theorem dX10_isRoomOrOut_4 : decode cX10_isRoomOrOut 4 = .ok (.ifCond .eq 20, 3) := by decide +kernel
theorem dX10_isRoomOrOut_24 : decode cX10_isRoomOrOut 24 = .ok (.iconst 0, 1) := by decide +kernel
theorem dX10_isRoomOrOut_25 : decode cX10_isRoomOrOut 25 = .ok (.ireturn, 1) := by decide +kernel
theorem dX10_isRoomOrOut_7 : decode cX10_isRoomOrOut 7 = .ok (.iload_n 1, 1) := by decide +kernel
theorem dX10_isRoomOrOut_8 : decode cX10_isRoomOrOut 8 = .ok (.iconst (-1), 1) := by decide +kernel
theorem dX10_isRoomOrOut_9 : decode cX10_isRoomOrOut 9 = .ok (.if_icmp .eq 11, 3) := by decide +kernel
theorem dX10_isRoomOrOut_20 : decode cX10_isRoomOrOut 20 = .ok (.iconst 1, 1) := by decide +kernel
theorem dX10_isRoomOrOut_21 : decode cX10_isRoomOrOut 21 = .ok (.goto 4, 3) := by decide +kernel
theorem dX10_isRoomOrOut_12 : decode cX10_isRoomOrOut 12 = .ok (.aload_n 0, 1) := by decide +kernel
theorem dX10_isRoomOrOut_13 : decode cX10_isRoomOrOut 13 = .ok (.iload_n 1, 1) := by decide +kernel
theorem dX10_isRoomOrOut_14 : decode cX10_isRoomOrOut 14 = .ok (.invokevirtual 120, 3) := by decide +kernel
theorem dX10_isRoomOrOut_17 : decode cX10_isRoomOrOut 17 = .ok (.ifCond .eq 7, 3) := by decide +kernel
theorem dX10_isSet_0 : decode cX10_isSet 0 = .ok (.iload_n 1, 1) := by decide +kernel
theorem dX10_isSet_1 : decode cX10_isSet 1 = .ok (.iconst 1, 1) := by decide +kernel
theorem dX10_isSet_2 : decode cX10_isSet 2 = .ok (.if_icmp .lt 23, 3) := by decide +kernel
theorem dX10_isSet_25 : decode cX10_isSet 25 = .ok (.iconst 0, 1) := by decide +kernel
theorem dX10_isSet_26 : decode cX10_isSet 26 = .ok (.ireturn, 1) := by decide +kernel
theorem dX10_isSet_5 : decode cX10_isSet 5 = .ok (.iload_n 1, 1) := by decide +kernel
theorem dX10_isSet_6 : decode cX10_isSet 6 = .ok (.iconst 1, 1) := by decide +kernel
theorem dX10_isSet_7 : decode cX10_isSet 7 = .ok (.aload_n 0, 1) := by decide +kernel
theorem dX10_isSet_8 : decode cX10_isSet 8 = .ok (.getfield 31, 3) := by decide +kernel
theorem dX10_isSet_11 : decode cX10_isSet 11 = .ok (.getfield 98, 3) := by decide +kernel
theorem dX10_isSet_14 : decode cX10_isSet 14 = .ok (.getfield 283, 3) := by decide +kernel
theorem dX10_isSet_17 : decode cX10_isSet 17 = .ok (.ishl, 1) := by decide +kernel
theorem dX10_isSet_18 : decode cX10_isSet 18 = .ok (.if_icmp .ge 7, 3) := by decide +kernel
theorem dX10_isSet_21 : decode cX10_isSet 21 = .ok (.iconst 1, 1) := by decide +kernel
theorem dX10_isSet_22 : decode cX10_isSet 22 = .ok (.goto 4, 3) := by decide +kernel
theorem dX10_askRow_0 : decode cX10_askRow 0 = .ok (.aload_n 0, 1) := by decide +kernel
theorem dX10_askRow_1 : decode cX10_askRow 1 = .ok (.iload_n 1, 1) := by decide +kernel
theorem dX10_askRow_2 : decode cX10_askRow 2 = .ok (.invokevirtual 348, 3) := by decide +kernel
theorem dX10_askRow_5 : decode cX10_askRow 5 = .ok (.ifCond .eq 14, 3) := by decide +kernel
theorem dX10_askRow_19 : decode cX10_askRow 19 = .ok (.bipush (-2), 2) := by decide +kernel
theorem dX10_askRow_21 : decode cX10_askRow 21 = .ok (.ireturn, 1) := by decide +kernel
theorem dX10_askRow_8 : decode cX10_askRow 8 = .ok (.aload_n 0, 1) := by decide +kernel
theorem dX10_askRow_9 : decode cX10_askRow 9 = .ok (.invokevirtual 152, 3) := by decide +kernel
theorem dX10_askRow_12 : decode cX10_askRow 12 = .ok (.ifCond .eq 7, 3) := by decide +kernel
theorem dX10_askRow_15 : decode cX10_askRow 15 = .ok (.iload_n 2, 1) := by decide +kernel
theorem dX10_askRow_16 : decode cX10_askRow 16 = .ok (.ifCond .ne 6, 3) := by decide +kernel
theorem dX10_askRow_22 : decode cX10_askRow 22 = .ok (.aload_n 0, 1) := by decide +kernel
theorem dX10_askRow_23 : decode cX10_askRow 23 = .ok (.getfield 41, 3) := by decide +kernel
theorem dX10_askRow_26 : decode cX10_askRow 26 = .ok (.iload_n 1, 1) := by decide +kernel
theorem dX10_askRow_27 : decode cX10_askRow 27 = .ok (.aaload, 1) := by decide +kernel
theorem dX10_askRow_28 : decode cX10_askRow 28 = .ok (.getfield 354, 3) := by decide +kernel
theorem dX10_askRow_31 : decode cX10_askRow 31 = .ok (.ifCond .ne 6, 3) := by decide +kernel
theorem dX10_askRow_37 : decode cX10_askRow 37 = .ok (.aload_n 0, 1) := by decide +kernel
theorem dX10_askRow_38 : decode cX10_askRow 38 = .ok (.getfield 41, 3) := by decide +kernel
theorem dX10_askRow_41 : decode cX10_askRow 41 = .ok (.iload_n 1, 1) := by decide +kernel
theorem dX10_askRow_42 : decode cX10_askRow 42 = .ok (.aaload, 1) := by decide +kernel
theorem dX10_askRow_43 : decode cX10_askRow 43 = .ok (.iload_n 3, 1) := by decide +kernel
theorem dX10_askRow_44 : decode cX10_askRow 44 = .ok (.aload_n 0, 1) := by decide +kernel
theorem dX10_askRow_45 : decode cX10_askRow 45 = .ok (.getfield 31, 3) := by decide +kernel
theorem dX10_askRow_48 : decode cX10_askRow 48 = .ok (.getfield 98, 3) := by decide +kernel
theorem dX10_askRow_51 : decode cX10_askRow 51 = .ok (.getfield 159, 3) := by decide +kernel
theorem dX10_askRow_54 : decode cX10_askRow 54 = .ok (.iconst 1, 1) := by decide +kernel
theorem dX10_askRow_55 : decode cX10_askRow 55 = .ok (.isub, 1) := by decide +kernel
theorem dX10_askRow_56 : decode cX10_askRow 56 = .ok (.invokevirtual 385, 3) := by decide +kernel
theorem dX10_askRow_59 : decode cX10_askRow 59 = .ok (.ifCond .eq 7, 3) := by decide +kernel
theorem dX10_askRow_66 : decode cX10_askRow 66 = .ok (.bipush (-2), 2) := by decide +kernel
theorem dX10_askRow_68 : decode cX10_askRow 68 = .ok (.ireturn, 1) := by decide +kernel
theorem dX10_askRow_62 : decode cX10_askRow 62 = .ok (.iconst 0, 1) := by decide +kernel
theorem dX10_askRow_63 : decode cX10_askRow 63 = .ok (.goto 5, 3) := by decide +kernel
theorem dX10_askRow_34 : decode cX10_askRow 34 = .ok (.bipush (-6), 2) := by decide +kernel
theorem dX10_askRow_36 : decode cX10_askRow 36 = .ok (.ireturn, 1) := by decide +kernel
theorem dX10_askRound_0 : decode cX10_askRound 0 = .ok (.aload_n 0, 1) := by decide +kernel
theorem dX10_askRound_1 : decode cX10_askRound 1 = .ok (.iload_n 1, 1) := by decide +kernel
theorem dX10_askRound_2 : decode cX10_askRound 2 = .ok (.iload_n 2, 1) := by decide +kernel
theorem dX10_askRound_3 : decode cX10_askRound 3 = .ok (.iconst (-1), 1) := by decide +kernel
theorem dX10_askRound_4 : decode cX10_askRound 4 = .ok (.invokevirtual 381, 3) := by decide +kernel
theorem dX10_askRound_7 : decode cX10_askRound 7 = .ok (.ireturn, 1) := by decide +kernel
theorem dX10_askHabits_0 : decode cX10_askHabits 0 = .ok (.aload_n 0, 1) := by decide +kernel
theorem dX10_askHabits_1 : decode cX10_askHabits 1 = .ok (.iload_n 1, 1) := by decide +kernel
theorem dX10_askHabits_2 : decode cX10_askHabits 2 = .ok (.iload_n 2, 1) := by decide +kernel
theorem dX10_askHabits_3 : decode cX10_askHabits 3 = .ok (.iconst 0, 1) := by decide +kernel
theorem dX10_askHabits_4 : decode cX10_askHabits 4 = .ok (.invokevirtual 381, 3) := by decide +kernel
theorem dX10_askHabits_7 : decode cX10_askHabits 7 = .ok (.ireturn, 1) := by decide +kernel
theorem dX10_replay_0 : decode cX10_replay 0 = .ok (.aload_n 0, 1) := by decide +kernel
theorem dX10_replay_1 : decode cX10_replay 1 = .ok (.getfield 48, 3) := by decide +kernel
theorem dX10_replay_4 : decode cX10_replay 4 = .ok (.aload_n 0, 1) := by decide +kernel
theorem dX10_replay_5 : decode cX10_replay 5 = .ok (.getfield 31, 3) := by decide +kernel
theorem dX10_replay_8 : decode cX10_replay 8 = .ok (.getfield 98, 3) := by decide +kernel
theorem dX10_replay_11 : decode cX10_replay 11 = .ok (.invokevirtual 388, 3) := by decide +kernel
theorem dX10_replay_14 : decode cX10_replay 14 = .ok (.iconst 0, 1) := by decide +kernel
theorem dX10_replay_15 : decode cX10_replay 15 = .ok (.istore_n 1, 1) := by decide +kernel
theorem dX10_replay_16 : decode cX10_replay 16 = .ok (.iload_n 1, 1) := by decide +kernel
theorem dX10_replay_17 : decode cX10_replay 17 = .ok (.aload_n 0, 1) := by decide +kernel
theorem dX10_replay_18 : decode cX10_replay 18 = .ok (.getfield 31, 3) := by decide +kernel
theorem dX10_replay_21 : decode cX10_replay 21 = .ok (.getfield 105, 3) := by decide +kernel
theorem dX10_replay_24 : decode cX10_replay 24 = .ok (.if_icmp .ge 34, 3) := by decide +kernel
theorem dX10_replay_58 : decode cX10_replay 58 = .ok (.return_, 1) := by decide +kernel
theorem dX10_replay_27 : decode cX10_replay 27 = .ok (.aload_n 0, 1) := by decide +kernel
theorem dX10_replay_28 : decode cX10_replay 28 = .ok (.getfield 48, 3) := by decide +kernel
theorem dX10_replay_31 : decode cX10_replay 31 = .ok (.aload_n 0, 1) := by decide +kernel
theorem dX10_replay_32 : decode cX10_replay 32 = .ok (.getfield 31, 3) := by decide +kernel
theorem dX10_replay_35 : decode cX10_replay 35 = .ok (.getfield 98, 3) := by decide +kernel
theorem dX10_replay_38 : decode cX10_replay 38 = .ok (.aload_n 0, 1) := by decide +kernel
theorem dX10_replay_39 : decode cX10_replay 39 = .ok (.getfield 31, 3) := by decide +kernel
theorem dX10_replay_42 : decode cX10_replay 42 = .ok (.getfield 172, 3) := by decide +kernel
theorem dX10_replay_45 : decode cX10_replay 45 = .ok (.iload_n 1, 1) := by decide +kernel
theorem dX10_replay_46 : decode cX10_replay 46 = .ok (.iaload, 1) := by decide +kernel
theorem dX10_replay_47 : decode cX10_replay 47 = .ok (.iconst 0, 1) := by decide +kernel
theorem dX10_replay_48 : decode cX10_replay 48 = .ok (.invokevirtual 175, 3) := by decide +kernel
theorem dX10_replay_51 : decode cX10_replay 51 = .ok (.pop, 1) := by decide +kernel
theorem dX10_replay_52 : decode cX10_replay 52 = .ok (.iinc 1 1, 3) := by decide +kernel
theorem dX10_replay_55 : decode cX10_replay 55 = .ok (.goto (-39), 3) := by decide +kernel
theorem dX10_worthOf_0 : decode cX10_worthOf 0 = .ok (.aload_n 0, 1) := by decide +kernel
theorem dX10_worthOf_1 : decode cX10_worthOf 1 = .ok (.getfield 31, 3) := by decide +kernel
theorem dX10_worthOf_4 : decode cX10_worthOf 4 = .ok (.getfield 98, 3) := by decide +kernel
theorem dX10_worthOf_7 : decode cX10_worthOf 7 = .ok (.getfield 391, 3) := by decide +kernel
theorem dX10_worthOf_10 : decode cX10_worthOf 10 = .ok (.i2l, 1) := by decide +kernel
theorem dX10_worthOf_11 : decode cX10_worthOf 11 = .ok (.iload_n 1, 1) := by decide +kernel
theorem dX10_worthOf_12 : decode cX10_worthOf 12 = .ok (.i2l, 1) := by decide +kernel
theorem dX10_worthOf_13 : decode cX10_worthOf 13 = .ok (.lmul, 1) := by decide +kernel
theorem dX10_worthOf_14 : decode cX10_worthOf 14 = .ok (.ldc2_w 394, 3) := by decide +kernel
theorem dX10_worthOf_17 : decode cX10_worthOf 17 = .ok (.ldiv, 1) := by decide +kernel
theorem dX10_worthOf_18 : decode cX10_worthOf 18 = .ok (.l2i, 1) := by decide +kernel
theorem dX10_worthOf_19 : decode cX10_worthOf 19 = .ok (.ireturn, 1) := by decide +kernel
theorem dX10_gainOf_0 : decode cX10_gainOf 0 = .ok (.aload_n 0, 1) := by decide +kernel
theorem dX10_gainOf_1 : decode cX10_gainOf 1 = .ok (.iload_n 1, 1) := by decide +kernel
theorem dX10_gainOf_2 : decode cX10_gainOf 2 = .ok (.invokevirtual 232, 3) := by decide +kernel
theorem dX10_gainOf_5 : decode cX10_gainOf 5 = .ok (.aload_n 0, 1) := by decide +kernel
theorem dX10_gainOf_6 : decode cX10_gainOf 6 = .ok (.getfield 31, 3) := by decide +kernel
theorem dX10_gainOf_9 : decode cX10_gainOf 9 = .ok (.getfield 98, 3) := by decide +kernel
theorem dX10_gainOf_12 : decode cX10_gainOf 12 = .ok (.getfield 235, 3) := by decide +kernel
theorem dX10_gainOf_15 : decode cX10_gainOf 15 = .ok (.iload_n 2, 1) := by decide +kernel
theorem dX10_gainOf_16 : decode cX10_gainOf 16 = .ok (.imul, 1) := by decide +kernel
theorem dX10_gainOf_17 : decode cX10_gainOf 17 = .ok (.isub, 1) := by decide +kernel
theorem dX10_gainOf_18 : decode cX10_gainOf 18 = .ok (.ireturn, 1) := by decide +kernel
theorem dX10_foundIn_0 : decode cX10_foundIn 0 = .ok (.aload_n 0, 1) := by decide +kernel
theorem dX10_foundIn_1 : decode cX10_foundIn 1 = .ok (.getfield 52, 3) := by decide +kernel
theorem dX10_foundIn_4 : decode cX10_foundIn 4 = .ok (.aload_n 0, 1) := by decide +kernel
theorem dX10_foundIn_5 : decode cX10_foundIn 5 = .ok (.getfield 48, 3) := by decide +kernel
theorem dX10_foundIn_8 : decode cX10_foundIn 8 = .ok (.invokevirtual 179, 3) := by decide +kernel
theorem dX10_foundIn_11 : decode cX10_foundIn 11 = .ok (.iconst 0, 1) := by decide +kernel
theorem dX10_foundIn_12 : decode cX10_foundIn 12 = .ok (.istore_n 3, 1) := by decide +kernel
theorem dX10_foundIn_13 : decode cX10_foundIn 13 = .ok (.iload_n 3, 1) := by decide +kernel
theorem dX10_foundIn_14 : decode cX10_foundIn 14 = .ok (.aload_n 1, 1) := by decide +kernel
theorem dX10_foundIn_15 : decode cX10_foundIn 15 = .ok (.getfield 194, 3) := by decide +kernel
theorem dX10_foundIn_18 : decode cX10_foundIn 18 = .ok (.if_icmp .ge 30, 3) := by decide +kernel
theorem dX10_foundIn_48 : decode cX10_foundIn 48 = .ok (.aload_n 0, 1) := by decide +kernel
theorem dX10_foundIn_49 : decode cX10_foundIn 49 = .ok (.getfield 52, 3) := by decide +kernel
theorem dX10_foundIn_52 : decode cX10_foundIn 52 = .ok (.getfield 156, 3) := by decide +kernel
theorem dX10_foundIn_55 : decode cX10_foundIn 55 = .ok (.aload_n 0, 1) := by decide +kernel
theorem dX10_foundIn_56 : decode cX10_foundIn 56 = .ok (.getfield 48, 3) := by decide +kernel
theorem dX10_foundIn_59 : decode cX10_foundIn 59 = .ok (.getfield 156, 3) := by decide +kernel
theorem dX10_foundIn_62 : decode cX10_foundIn 62 = .ok (.isub, 1) := by decide +kernel
theorem dX10_foundIn_63 : decode cX10_foundIn 63 = .ok (.ireturn, 1) := by decide +kernel
theorem dX10_foundIn_21 : decode cX10_foundIn 21 = .ok (.aload_n 0, 1) := by decide +kernel
theorem dX10_foundIn_22 : decode cX10_foundIn 22 = .ok (.getfield 52, 3) := by decide +kernel
theorem dX10_foundIn_25 : decode cX10_foundIn 25 = .ok (.aload_n 0, 1) := by decide +kernel
theorem dX10_foundIn_26 : decode cX10_foundIn 26 = .ok (.getfield 31, 3) := by decide +kernel
theorem dX10_foundIn_29 : decode cX10_foundIn 29 = .ok (.getfield 98, 3) := by decide +kernel
theorem dX10_foundIn_32 : decode cX10_foundIn 32 = .ok (.aload_n 1, 1) := by decide +kernel
theorem dX10_foundIn_33 : decode cX10_foundIn 33 = .ok (.iload_n 3, 1) := by decide +kernel
theorem dX10_foundIn_34 : decode cX10_foundIn 34 = .ok (.invokevirtual 195, 3) := by decide +kernel
theorem dX10_foundIn_37 : decode cX10_foundIn 37 = .ok (.iload_n 2, 1) := by decide +kernel
theorem dX10_foundIn_38 : decode cX10_foundIn 38 = .ok (.invokevirtual 175, 3) := by decide +kernel
theorem dX10_foundIn_41 : decode cX10_foundIn 41 = .ok (.pop, 1) := by decide +kernel
theorem dX10_foundIn_42 : decode cX10_foundIn 42 = .ok (.iinc 3 1, 3) := by decide +kernel
theorem dX10_foundIn_45 : decode cX10_foundIn 45 = .ok (.goto (-32), 3) := by decide +kernel
theorem dX10_canWalk_0 : decode cX10_canWalk 0 = .ok (.iload_n 2, 1) := by decide +kernel
theorem dX10_canWalk_1 : decode cX10_canWalk 1 = .ok (.istore_n 3, 1) := by decide +kernel
theorem dX10_canWalk_2 : decode cX10_canWalk 2 = .ok (.iconst 0, 1) := by decide +kernel
theorem dX10_canWalk_3 : decode cX10_canWalk 3 = .ok (.istore 4, 2) := by decide +kernel
theorem dX10_canWalk_5 : decode cX10_canWalk 5 = .ok (.iload 4, 2) := by decide +kernel
theorem dX10_canWalk_7 : decode cX10_canWalk 7 = .ok (.aload_n 1, 1) := by decide +kernel
theorem dX10_canWalk_8 : decode cX10_canWalk 8 = .ok (.getfield 194, 3) := by decide +kernel
theorem dX10_canWalk_11 : decode cX10_canWalk 11 = .ok (.if_icmp .ge 44, 3) := by decide +kernel
theorem dX10_canWalk_55 : decode cX10_canWalk 55 = .ok (.iconst 1, 1) := by decide +kernel
theorem dX10_canWalk_56 : decode cX10_canWalk 56 = .ok (.ireturn, 1) := by decide +kernel
theorem dX10_canWalk_14 : decode cX10_canWalk 14 = .ok (.aload_n 1, 1) := by decide +kernel
theorem dX10_canWalk_15 : decode cX10_canWalk 15 = .ok (.iload 4, 2) := by decide +kernel
theorem dX10_canWalk_17 : decode cX10_canWalk 17 = .ok (.invokevirtual 195, 3) := by decide +kernel
theorem dX10_canWalk_20 : decode cX10_canWalk 20 = .ok (.istore 5, 2) := by decide +kernel
theorem dX10_canWalk_22 : decode cX10_canWalk 22 = .ok (.iload 5, 2) := by decide +kernel
theorem dX10_canWalk_24 : decode cX10_canWalk 24 = .ok (.iconst (-1), 1) := by decide +kernel
theorem dX10_canWalk_49 : decode cX10_canWalk 49 = .ok (.iinc 4 1, 3) := by decide +kernel
theorem dX10_canWalk_52 : decode cX10_canWalk 52 = .ok (.goto (-47), 3) := by decide +kernel
theorem dX10_canWalk_25 : decode cX10_canWalk 25 = .ok (.if_icmp .eq 24, 3) := by decide +kernel
theorem dX10_canWalk_28 : decode cX10_canWalk 28 = .ok (.aload_n 0, 1) := by decide +kernel
theorem dX10_canWalk_29 : decode cX10_canWalk 29 = .ok (.getfield 31, 3) := by decide +kernel
theorem dX10_canWalk_32 : decode cX10_canWalk 32 = .ok (.getfield 98, 3) := by decide +kernel
theorem dX10_canWalk_35 : decode cX10_canWalk 35 = .ok (.iload_n 3, 1) := by decide +kernel
theorem dX10_canWalk_36 : decode cX10_canWalk 36 = .ok (.iload 5, 2) := by decide +kernel
theorem dX10_canWalk_38 : decode cX10_canWalk 38 = .ok (.invokevirtual 396, 3) := by decide +kernel
theorem dX10_canWalk_41 : decode cX10_canWalk 41 = .ok (.ifCond .ne 5, 3) := by decide +kernel
theorem dX10_canWalk_46 : decode cX10_canWalk 46 = .ok (.iload 5, 2) := by decide +kernel
theorem dX10_canWalk_48 : decode cX10_canWalk 48 = .ok (.istore_n 3, 1) := by decide +kernel
theorem dX10_canWalk_44 : decode cX10_canWalk 44 = .ok (.iconst 0, 1) := by decide +kernel
theorem dX10_canWalk_45 : decode cX10_canWalk 45 = .ok (.ireturn, 1) := by decide +kernel
theorem dX10_mostFrequent_0 : decode cX10_mostFrequent 0 = .ok (.iconst (-1), 1) := by decide +kernel
theorem dX10_mostFrequent_1 : decode cX10_mostFrequent 1 = .ok (.istore_n 3, 1) := by decide +kernel
theorem dX10_mostFrequent_2 : decode cX10_mostFrequent 2 = .ok (.iconst 0, 1) := by decide +kernel
theorem dX10_mostFrequent_3 : decode cX10_mostFrequent 3 = .ok (.istore 4, 2) := by decide +kernel
theorem dX10_mostFrequent_5 : decode cX10_mostFrequent 5 = .ok (.iconst 0, 1) := by decide +kernel
theorem dX10_mostFrequent_6 : decode cX10_mostFrequent 6 = .ok (.istore 5, 2) := by decide +kernel
theorem dX10_mostFrequent_8 : decode cX10_mostFrequent 8 = .ok (.iload 5, 2) := by decide +kernel
theorem dX10_mostFrequent_10 : decode cX10_mostFrequent 10 = .ok (.aload_n 0, 1) := by decide +kernel
theorem dX10_mostFrequent_11 : decode cX10_mostFrequent 11 = .ok (.getfield 31, 3) := by decide +kernel
theorem dX10_mostFrequent_14 : decode cX10_mostFrequent 14 = .ok (.getfield 98, 3) := by decide +kernel
theorem dX10_mostFrequent_17 : decode cX10_mostFrequent 17 = .ok (.getfield 159, 3) := by decide +kernel
theorem dX10_mostFrequent_20 : decode cX10_mostFrequent 20 = .ok (.if_icmp .ge 32, 3) := by decide +kernel
theorem dX10_mostFrequent_52 : decode cX10_mostFrequent 52 = .ok (.iload_n 3, 1) := by decide +kernel
theorem dX10_mostFrequent_53 : decode cX10_mostFrequent 53 = .ok (.ireturn, 1) := by decide +kernel
theorem dX10_mostFrequent_23 : decode cX10_mostFrequent 23 = .ok (.aload_n 1, 1) := by decide +kernel
theorem dX10_mostFrequent_24 : decode cX10_mostFrequent 24 = .ok (.iload 5, 2) := by decide +kernel
theorem dX10_mostFrequent_26 : decode cX10_mostFrequent 26 = .ok (.iload_n 2, 1) := by decide +kernel
theorem dX10_mostFrequent_27 : decode cX10_mostFrequent 27 = .ok (.invokevirtual 402, 3) := by decide +kernel
theorem dX10_mostFrequent_30 : decode cX10_mostFrequent 30 = .ok (.istore 6, 2) := by decide +kernel
theorem dX10_mostFrequent_32 : decode cX10_mostFrequent 32 = .ok (.iload 6, 2) := by decide +kernel
theorem dX10_mostFrequent_34 : decode cX10_mostFrequent 34 = .ok (.iload 4, 2) := by decide +kernel
theorem dX10_mostFrequent_46 : decode cX10_mostFrequent 46 = .ok (.iinc 5 1, 3) := by decide +kernel
theorem dX10_mostFrequent_49 : decode cX10_mostFrequent 49 = .ok (.goto (-41), 3) := by decide +kernel
theorem dX10_mostFrequent_36 : decode cX10_mostFrequent 36 = .ok (.if_icmp .le 10, 3) := by decide +kernel
theorem dX10_mostFrequent_39 : decode cX10_mostFrequent 39 = .ok (.iload 6, 2) := by decide +kernel
theorem dX10_mostFrequent_41 : decode cX10_mostFrequent 41 = .ok (.istore 4, 2) := by decide +kernel
theorem dX10_mostFrequent_43 : decode cX10_mostFrequent 43 = .ok (.iload 5, 2) := by decide +kernel
theorem dX10_mostFrequent_45 : decode cX10_mostFrequent 45 = .ok (.istore_n 3, 1) := by decide +kernel
theorem dX10_foundAtOnce_0 : decode cX10_foundAtOnce 0 = .ok (.iconst 0, 1) := by decide +kernel
theorem dX10_foundAtOnce_1 : decode cX10_foundAtOnce 1 = .ok (.istore_n 2, 1) := by decide +kernel
theorem dX10_foundAtOnce_2 : decode cX10_foundAtOnce 2 = .ok (.iconst 0, 1) := by decide +kernel
theorem dX10_foundAtOnce_3 : decode cX10_foundAtOnce 3 = .ok (.istore_n 3, 1) := by decide +kernel
theorem dX10_foundAtOnce_4 : decode cX10_foundAtOnce 4 = .ok (.iload_n 3, 1) := by decide +kernel
theorem dX10_foundAtOnce_5 : decode cX10_foundAtOnce 5 = .ok (.aload_n 0, 1) := by decide +kernel
theorem dX10_foundAtOnce_6 : decode cX10_foundAtOnce 6 = .ok (.getfield 31, 3) := by decide +kernel
theorem dX10_foundAtOnce_9 : decode cX10_foundAtOnce 9 = .ok (.getfield 98, 3) := by decide +kernel
theorem dX10_foundAtOnce_12 : decode cX10_foundAtOnce 12 = .ok (.getfield 159, 3) := by decide +kernel
theorem dX10_foundAtOnce_15 : decode cX10_foundAtOnce 15 = .ok (.if_icmp .ge 36, 3) := by decide +kernel
theorem dX10_foundAtOnce_51 : decode cX10_foundAtOnce 51 = .ok (.iload_n 2, 1) := by decide +kernel
theorem dX10_foundAtOnce_52 : decode cX10_foundAtOnce 52 = .ok (.ireturn, 1) := by decide +kernel
theorem dX10_foundAtOnce_18 : decode cX10_foundAtOnce 18 = .ok (.iload_n 1, 1) := by decide +kernel
theorem dX10_foundAtOnce_19 : decode cX10_foundAtOnce 19 = .ok (.iload_n 3, 1) := by decide +kernel
theorem dX10_foundAtOnce_20 : decode cX10_foundAtOnce 20 = .ok (.ishr, 1) := by decide +kernel
theorem dX10_foundAtOnce_21 : decode cX10_foundAtOnce 21 = .ok (.iconst 1, 1) := by decide +kernel
theorem dX10_foundAtOnce_22 : decode cX10_foundAtOnce 22 = .ok (.iand, 1) := by decide +kernel
theorem dX10_foundAtOnce_45 : decode cX10_foundAtOnce 45 = .ok (.iinc 3 1, 3) := by decide +kernel
theorem dX10_foundAtOnce_48 : decode cX10_foundAtOnce 48 = .ok (.goto (-44), 3) := by decide +kernel
theorem dX10_foundAtOnce_23 : decode cX10_foundAtOnce 23 = .ok (.ifCond .eq 22, 3) := by decide +kernel
theorem dX10_foundAtOnce_26 : decode cX10_foundAtOnce 26 = .ok (.iload_n 2, 1) := by decide +kernel
theorem dX10_foundAtOnce_27 : decode cX10_foundAtOnce 27 = .ok (.aload_n 0, 1) := by decide +kernel
theorem dX10_foundAtOnce_28 : decode cX10_foundAtOnce 28 = .ok (.getfield 48, 3) := by decide +kernel
theorem dX10_foundAtOnce_31 : decode cX10_foundAtOnce 31 = .ok (.aload_n 0, 1) := by decide +kernel
theorem dX10_foundAtOnce_32 : decode cX10_foundAtOnce 32 = .ok (.getfield 31, 3) := by decide +kernel
theorem dX10_foundAtOnce_35 : decode cX10_foundAtOnce 35 = .ok (.getfield 98, 3) := by decide +kernel
theorem dX10_foundAtOnce_38 : decode cX10_foundAtOnce 38 = .ok (.iload_n 3, 1) := by decide +kernel
theorem dX10_foundAtOnce_39 : decode cX10_foundAtOnce 39 = .ok (.iconst 0, 1) := by decide +kernel
theorem dX10_foundAtOnce_40 : decode cX10_foundAtOnce 40 = .ok (.invokevirtual 399, 3) := by decide +kernel
theorem dX10_foundAtOnce_43 : decode cX10_foundAtOnce 43 = .ok (.iadd, 1) := by decide +kernel
theorem dX10_foundAtOnce_44 : decode cX10_foundAtOnce 44 = .ok (.istore_n 2, 1) := by decide +kernel
theorem dX10_peopleOf_0 : decode cX10_peopleOf 0 = .ok (.iconst 0, 1) := by decide +kernel
theorem dX10_peopleOf_1 : decode cX10_peopleOf 1 = .ok (.istore_n 2, 1) := by decide +kernel
theorem dX10_peopleOf_2 : decode cX10_peopleOf 2 = .ok (.iconst 0, 1) := by decide +kernel
theorem dX10_peopleOf_3 : decode cX10_peopleOf 3 = .ok (.istore_n 3, 1) := by decide +kernel
theorem dX10_peopleOf_4 : decode cX10_peopleOf 4 = .ok (.iload_n 3, 1) := by decide +kernel
theorem dX10_peopleOf_5 : decode cX10_peopleOf 5 = .ok (.aload_n 0, 1) := by decide +kernel
theorem dX10_peopleOf_6 : decode cX10_peopleOf 6 = .ok (.getfield 31, 3) := by decide +kernel
theorem dX10_peopleOf_9 : decode cX10_peopleOf 9 = .ok (.getfield 98, 3) := by decide +kernel
theorem dX10_peopleOf_12 : decode cX10_peopleOf 12 = .ok (.getfield 159, 3) := by decide +kernel
theorem dX10_peopleOf_15 : decode cX10_peopleOf 15 = .ok (.if_icmp .ge 32, 3) := by decide +kernel
theorem dX10_peopleOf_47 : decode cX10_peopleOf 47 = .ok (.iload_n 2, 1) := by decide +kernel
theorem dX10_peopleOf_48 : decode cX10_peopleOf 48 = .ok (.ireturn, 1) := by decide +kernel
theorem dX10_peopleOf_18 : decode cX10_peopleOf 18 = .ok (.iload_n 1, 1) := by decide +kernel
theorem dX10_peopleOf_19 : decode cX10_peopleOf 19 = .ok (.iload_n 3, 1) := by decide +kernel
theorem dX10_peopleOf_20 : decode cX10_peopleOf 20 = .ok (.ishr, 1) := by decide +kernel
theorem dX10_peopleOf_21 : decode cX10_peopleOf 21 = .ok (.iconst 1, 1) := by decide +kernel
theorem dX10_peopleOf_22 : decode cX10_peopleOf 22 = .ok (.iand, 1) := by decide +kernel
theorem dX10_peopleOf_41 : decode cX10_peopleOf 41 = .ok (.iinc 3 1, 3) := by decide +kernel
theorem dX10_peopleOf_44 : decode cX10_peopleOf 44 = .ok (.goto (-40), 3) := by decide +kernel
theorem dX10_peopleOf_23 : decode cX10_peopleOf 23 = .ok (.ifCond .eq 18, 3) := by decide +kernel
theorem dX10_peopleOf_26 : decode cX10_peopleOf 26 = .ok (.iload_n 2, 1) := by decide +kernel
theorem dX10_peopleOf_27 : decode cX10_peopleOf 27 = .ok (.aload_n 0, 1) := by decide +kernel
theorem dX10_peopleOf_28 : decode cX10_peopleOf 28 = .ok (.getfield 31, 3) := by decide +kernel
theorem dX10_peopleOf_31 : decode cX10_peopleOf 31 = .ok (.getfield 98, 3) := by decide +kernel
theorem dX10_peopleOf_34 : decode cX10_peopleOf 34 = .ok (.getfield 198, 3) := by decide +kernel
theorem dX10_peopleOf_37 : decode cX10_peopleOf 37 = .ok (.iload_n 3, 1) := by decide +kernel
theorem dX10_peopleOf_38 : decode cX10_peopleOf 38 = .ok (.iaload, 1) := by decide +kernel
theorem dX10_peopleOf_39 : decode cX10_peopleOf 39 = .ok (.iadd, 1) := by decide +kernel
theorem dX10_peopleOf_40 : decode cX10_peopleOf 40 = .ok (.istore_n 2, 1) := by decide +kernel
theorem dX10_quietestSet_0 : decode cX10_quietestSet 0 = .ok (.iconst (-1), 1) := by decide +kernel
theorem dX10_quietestSet_1 : decode cX10_quietestSet 1 = .ok (.istore_n 2, 1) := by decide +kernel
theorem dX10_quietestSet_2 : decode cX10_quietestSet 2 = .ok (.iconst 0, 1) := by decide +kernel
theorem dX10_quietestSet_3 : decode cX10_quietestSet 3 = .ok (.istore_n 3, 1) := by decide +kernel
theorem dX10_quietestSet_4 : decode cX10_quietestSet 4 = .ok (.iconst 0, 1) := by decide +kernel
theorem dX10_quietestSet_5 : decode cX10_quietestSet 5 = .ok (.istore 4, 2) := by decide +kernel
theorem dX10_quietestSet_7 : decode cX10_quietestSet 7 = .ok (.iload 4, 2) := by decide +kernel
theorem dX10_quietestSet_9 : decode cX10_quietestSet 9 = .ok (.aload_n 0, 1) := by decide +kernel
theorem dX10_quietestSet_10 : decode cX10_quietestSet 10 = .ok (.getfield 31, 3) := by decide +kernel
theorem dX10_quietestSet_13 : decode cX10_quietestSet 13 = .ok (.getfield 98, 3) := by decide +kernel
theorem dX10_quietestSet_16 : decode cX10_quietestSet 16 = .ok (.invokevirtual 238, 3) := by decide +kernel
theorem dX10_quietestSet_19 : decode cX10_quietestSet 19 = .ok (.if_icmp .gt 44, 3) := by decide +kernel
theorem dX10_quietestSet_63 : decode cX10_quietestSet 63 = .ok (.iload_n 2, 1) := by decide +kernel
theorem dX10_quietestSet_64 : decode cX10_quietestSet 64 = .ok (.ireturn, 1) := by decide +kernel
theorem dX10_quietestSet_22 : decode cX10_quietestSet 22 = .ok (.aload_n 0, 1) := by decide +kernel
theorem dX10_quietestSet_23 : decode cX10_quietestSet 23 = .ok (.iload 4, 2) := by decide +kernel
theorem dX10_quietestSet_25 : decode cX10_quietestSet 25 = .ok (.invokevirtual 241, 3) := by decide +kernel
theorem dX10_quietestSet_28 : decode cX10_quietestSet 28 = .ok (.iload_n 1, 1) := by decide +kernel
theorem dX10_quietestSet_57 : decode cX10_quietestSet 57 = .ok (.iinc 4 1, 3) := by decide +kernel
theorem dX10_quietestSet_60 : decode cX10_quietestSet 60 = .ok (.goto (-53), 3) := by decide +kernel
theorem dX10_quietestSet_29 : decode cX10_quietestSet 29 = .ok (.if_icmp .lt 28, 3) := by decide +kernel
theorem dX10_quietestSet_32 : decode cX10_quietestSet 32 = .ok (.aload_n 0, 1) := by decide +kernel
theorem dX10_quietestSet_33 : decode cX10_quietestSet 33 = .ok (.iload 4, 2) := by decide +kernel
theorem dX10_quietestSet_35 : decode cX10_quietestSet 35 = .ok (.invokevirtual 247, 3) := by decide +kernel
theorem dX10_quietestSet_38 : decode cX10_quietestSet 38 = .ok (.istore 5, 2) := by decide +kernel
theorem dX10_quietestSet_40 : decode cX10_quietestSet 40 = .ok (.iload_n 2, 1) := by decide +kernel
theorem dX10_quietestSet_41 : decode cX10_quietestSet 41 = .ok (.iconst (-1), 1) := by decide +kernel
theorem dX10_quietestSet_51 : decode cX10_quietestSet 51 = .ok (.iload 5, 2) := by decide +kernel
theorem dX10_quietestSet_53 : decode cX10_quietestSet 53 = .ok (.istore_n 3, 1) := by decide +kernel
theorem dX10_quietestSet_54 : decode cX10_quietestSet 54 = .ok (.iload 4, 2) := by decide +kernel
theorem dX10_quietestSet_56 : decode cX10_quietestSet 56 = .ok (.istore_n 2, 1) := by decide +kernel
theorem dX10_quietestSet_42 : decode cX10_quietestSet 42 = .ok (.if_icmp .eq 9, 3) := by decide +kernel
theorem dX10_quietestSet_45 : decode cX10_quietestSet 45 = .ok (.iload 5, 2) := by decide +kernel
theorem dX10_quietestSet_47 : decode cX10_quietestSet 47 = .ok (.iload_n 3, 1) := by decide +kernel
theorem dX10_quietestSet_48 : decode cX10_quietestSet 48 = .ok (.if_icmp .ge 9, 3) := by decide +kernel
theorem dX10_comesInto_0 : decode cX10_comesInto 0 = .ok (.aload_n 0, 1) := by decide +kernel
theorem dX10_comesInto_1 : decode cX10_comesInto 1 = .ok (.getfield 52, 3) := by decide +kernel
theorem dX10_comesInto_4 : decode cX10_comesInto 4 = .ok (.aload_n 0, 1) := by decide +kernel
theorem dX10_comesInto_5 : decode cX10_comesInto 5 = .ok (.getfield 48, 3) := by decide +kernel
theorem dX10_comesInto_8 : decode cX10_comesInto 8 = .ok (.invokevirtual 179, 3) := by decide +kernel
theorem dX10_comesInto_11 : decode cX10_comesInto 11 = .ok (.iconst 0, 1) := by decide +kernel
theorem dX10_comesInto_12 : decode cX10_comesInto 12 = .ok (.istore_n 3, 1) := by decide +kernel
theorem dX10_comesInto_13 : decode cX10_comesInto 13 = .ok (.iload_n 3, 1) := by decide +kernel
theorem dX10_comesInto_14 : decode cX10_comesInto 14 = .ok (.iload_n 2, 1) := by decide +kernel
theorem dX10_comesInto_15 : decode cX10_comesInto 15 = .ok (.if_icmp .ge 25, 3) := by decide +kernel
theorem dX10_comesInto_40 : decode cX10_comesInto 40 = .ok (.aload_n 0, 1) := by decide +kernel
theorem dX10_comesInto_41 : decode cX10_comesInto 41 = .ok (.getfield 52, 3) := by decide +kernel
theorem dX10_comesInto_44 : decode cX10_comesInto 44 = .ok (.iload_n 1, 1) := by decide +kernel
theorem dX10_comesInto_45 : decode cX10_comesInto 45 = .ok (.invokevirtual 148, 3) := by decide +kernel
theorem dX10_comesInto_48 : decode cX10_comesInto 48 = .ok (.ireturn, 1) := by decide +kernel
theorem dX10_comesInto_18 : decode cX10_comesInto 18 = .ok (.aload_n 0, 1) := by decide +kernel
theorem dX10_comesInto_19 : decode cX10_comesInto 19 = .ok (.getfield 52, 3) := by decide +kernel
theorem dX10_comesInto_22 : decode cX10_comesInto 22 = .ok (.aload_n 0, 1) := by decide +kernel
theorem dX10_comesInto_23 : decode cX10_comesInto 23 = .ok (.getfield 31, 3) := by decide +kernel
theorem dX10_comesInto_26 : decode cX10_comesInto 26 = .ok (.getfield 98, 3) := by decide +kernel
theorem dX10_comesInto_29 : decode cX10_comesInto 29 = .ok (.iload_n 1, 1) := by decide +kernel
theorem dX10_comesInto_30 : decode cX10_comesInto 30 = .ok (.invokevirtual 182, 3) := by decide +kernel
theorem dX10_comesInto_33 : decode cX10_comesInto 33 = .ok (.pop, 1) := by decide +kernel
theorem dX10_comesInto_34 : decode cX10_comesInto 34 = .ok (.iinc 3 1, 3) := by decide +kernel
theorem dX10_comesInto_37 : decode cX10_comesInto 37 = .ok (.goto (-24), 3) := by decide +kernel
theorem dX10_countRows_0 : decode cX10_countRows 0 = .ok (.iconst 0, 1) := by decide +kernel
theorem dX10_countRows_1 : decode cX10_countRows 1 = .ok (.istore_n 1, 1) := by decide +kernel
theorem dX10_countRows_2 : decode cX10_countRows 2 = .ok (.iconst 0, 1) := by decide +kernel
theorem dX10_countRows_3 : decode cX10_countRows 3 = .ok (.istore_n 2, 1) := by decide +kernel
theorem dX10_countRows_4 : decode cX10_countRows 4 = .ok (.iload_n 2, 1) := by decide +kernel
theorem dX10_countRows_5 : decode cX10_countRows 5 = .ok (.iconst 4, 1) := by decide +kernel
theorem dX10_countRows_6 : decode cX10_countRows 6 = .ok (.if_icmp .ge 24, 3) := by decide +kernel
theorem dX10_countRows_9 : decode cX10_countRows 9 = .ok (.aload_n 0, 1) := by decide +kernel
theorem dX10_countRows_10 : decode cX10_countRows 10 = .ok (.getfield 41, 3) := by decide +kernel
theorem dX10_countRows_13 : decode cX10_countRows 13 = .ok (.iload_n 2, 1) := by decide +kernel
theorem dX10_countRows_14 : decode cX10_countRows 14 = .ok (.aaload, 1) := by decide +kernel
theorem dX10_countRows_15 : decode cX10_countRows 15 = .ok (.getfield 354, 3) := by decide +kernel
theorem dX10_countRows_18 : decode cX10_countRows 18 = .ok (.ifCond .eq 6, 3) := by decide +kernel
theorem dX10_countRows_24 : decode cX10_countRows 24 = .ok (.iinc 2 1, 3) := by decide +kernel
theorem dX10_countRows_27 : decode cX10_countRows 27 = .ok (.goto (-23), 3) := by decide +kernel
theorem dX10_countRows_30 : decode cX10_countRows 30 = .ok (.iload_n 1, 1) := by decide +kernel
theorem dX10_countRows_31 : decode cX10_countRows 31 = .ok (.ireturn, 1) := by decide +kernel
theorem dX10_countRows_21 : decode cX10_countRows 21 = .ok (.iinc 1 1, 3) := by decide +kernel
theorem dX10_feed_0 : decode cX10_feed 0 = .ok (.aload_n 0, 1) := by decide +kernel
theorem dX10_feed_1 : decode cX10_feed 1 = .ok (.getfield 20, 3) := by decide +kernel
theorem dX10_feed_4 : decode cX10_feed 4 = .ok (.getfield 84, 3) := by decide +kernel
theorem dX10_feed_7 : decode cX10_feed 7 = .ok (.bipush 20, 2) := by decide +kernel
theorem dX10_feed_9 : decode cX10_feed 9 = .ok (.iadd, 1) := by decide +kernel
theorem dX10_feed_10 : decode cX10_feed 10 = .ok (.sipush 900, 3) := by decide +kernel
theorem dX10_feed_13 : decode cX10_feed 13 = .ok (.if_icmp .le 5, 3) := by decide +kernel
theorem dX10_feed_18 : decode cX10_feed 18 = .ok (.aload_n 0, 1) := by decide +kernel
theorem dX10_feed_19 : decode cX10_feed 19 = .ok (.getfield 20, 3) := by decide +kernel
theorem dX10_feed_22 : decode cX10_feed 22 = .ok (.iload_n 1, 1) := by decide +kernel
theorem dX10_feed_23 : decode cX10_feed 23 = .ok (.invokevirtual 90, 3) := by decide +kernel
theorem dX10_feed_26 : decode cX10_feed 26 = .ok (.aload_n 0, 1) := by decide +kernel
theorem dX10_feed_27 : decode cX10_feed 27 = .ok (.getfield 20, 3) := by decide +kernel
theorem dX10_feed_30 : decode cX10_feed 30 = .ok (.iload_n 2, 1) := by decide +kernel
theorem dX10_feed_31 : decode cX10_feed 31 = .ok (.invokevirtual 90, 3) := by decide +kernel
theorem dX10_feed_34 : decode cX10_feed 34 = .ok (.aload_n 0, 1) := by decide +kernel
theorem dX10_feed_35 : decode cX10_feed 35 = .ok (.getfield 20, 3) := by decide +kernel
theorem dX10_feed_38 : decode cX10_feed 38 = .ok (.iload_n 3, 1) := by decide +kernel
theorem dX10_feed_39 : decode cX10_feed 39 = .ok (.invokevirtual 90, 3) := by decide +kernel
theorem dX10_feed_42 : decode cX10_feed 42 = .ok (.aload_n 0, 1) := by decide +kernel
theorem dX10_feed_43 : decode cX10_feed 43 = .ok (.getfield 20, 3) := by decide +kernel
theorem dX10_feed_46 : decode cX10_feed 46 = .ok (.iload 4, 2) := by decide +kernel
theorem dX10_feed_48 : decode cX10_feed 48 = .ok (.invokevirtual 90, 3) := by decide +kernel
theorem dX10_feed_51 : decode cX10_feed 51 = .ok (.aload_n 0, 1) := by decide +kernel
theorem dX10_feed_52 : decode cX10_feed 52 = .ok (.getfield 20, 3) := by decide +kernel
theorem dX10_feed_55 : decode cX10_feed 55 = .ok (.iload 5, 2) := by decide +kernel
theorem dX10_feed_57 : decode cX10_feed 57 = .ok (.invokevirtual 90, 3) := by decide +kernel
theorem dX10_feed_60 : decode cX10_feed 60 = .ok (.aload_n 0, 1) := by decide +kernel
theorem dX10_feed_61 : decode cX10_feed 61 = .ok (.getfield 20, 3) := by decide +kernel
theorem dX10_feed_64 : decode cX10_feed 64 = .ok (.getfield 84, 3) := by decide +kernel
theorem dX10_feed_67 : decode cX10_feed 67 = .ok (.ireturn, 1) := by decide +kernel
theorem dX10_feed_16 : decode cX10_feed 16 = .ok (.iconst (-1), 1) := by decide +kernel
theorem dX10_feed_17 : decode cX10_feed 17 = .ok (.ireturn, 1) := by decide +kernel
theorem dX10_end_0 : decode cX10_end 0 = .ok (.iload_n 1, 1) := by decide +kernel
theorem dX10_end_1 : decode cX10_end 1 = .ok (.ifCond .lt 14, 3) := by decide +kernel
theorem dX10_end_15 : decode cX10_end 15 = .ok (.iconst (-1), 1) := by decide +kernel
theorem dX10_end_16 : decode cX10_end 16 = .ok (.ireturn, 1) := by decide +kernel
theorem dX10_end_4 : decode cX10_end 4 = .ok (.iload_n 1, 1) := by decide +kernel
theorem dX10_end_5 : decode cX10_end 5 = .ok (.aload_n 0, 1) := by decide +kernel
theorem dX10_end_6 : decode cX10_end 6 = .ok (.getfield 20, 3) := by decide +kernel
theorem dX10_end_9 : decode cX10_end 9 = .ok (.getfield 84, 3) := by decide +kernel
theorem dX10_end_12 : decode cX10_end 12 = .ok (.if_icmp .le 5, 3) := by decide +kernel
theorem dX10_end_17 : decode cX10_end 17 = .ok (.aload_n 0, 1) := by decide +kernel
theorem dX10_end_18 : decode cX10_end 18 = .ok (.getfield 20, 3) := by decide +kernel
theorem dX10_end_21 : decode cX10_end 21 = .ok (.iload_n 1, 1) := by decide +kernel
theorem dX10_end_22 : decode cX10_end 22 = .ok (.putfield 84, 3) := by decide +kernel
theorem dX10_end_25 : decode cX10_end 25 = .ok (.iload_n 1, 1) := by decide +kernel
theorem dX10_end_26 : decode cX10_end 26 = .ok (.ireturn, 1) := by decide +kernel
theorem dX10_house_0 : decode cX10_house 0 = .ok (.aload_n 0, 1) := by decide +kernel
theorem dX10_house_1 : decode cX10_house 1 = .ok (.getfield 10, 3) := by decide +kernel
theorem dX10_house_4 : decode cX10_house 4 = .ok (.aload_n 0, 1) := by decide +kernel
theorem dX10_house_5 : decode cX10_house 5 = .ok (.getfield 24, 3) := by decide +kernel
theorem dX10_house_8 : decode cX10_house 8 = .ok (.invokevirtual 94, 3) := by decide +kernel
theorem dX10_house_11 : decode cX10_house 11 = .ok (.ifCond .ne 6, 3) := by decide +kernel
theorem dX10_house_17 : decode cX10_house 17 = .ok (.aload_n 0, 1) := by decide +kernel
theorem dX10_house_18 : decode cX10_house 18 = .ok (.getfield 20, 3) := by decide +kernel
theorem dX10_house_21 : decode cX10_house 21 = .ok (.iconst 0, 1) := by decide +kernel
theorem dX10_house_22 : decode cX10_house 22 = .ok (.putfield 84, 3) := by decide +kernel
theorem dX10_house_25 : decode cX10_house 25 = .ok (.aload_n 0, 1) := by decide +kernel
theorem dX10_house_26 : decode cX10_house 26 = .ok (.getfield 31, 3) := by decide +kernel
theorem dX10_house_29 : decode cX10_house 29 = .ok (.getfield 98, 3) := by decide +kernel
theorem dX10_house_32 : decode cX10_house 32 = .ok (.aload_n 0, 1) := by decide +kernel
theorem dX10_house_33 : decode cX10_house 33 = .ok (.getfield 24, 3) := by decide +kernel
theorem dX10_house_36 : decode cX10_house 36 = .ok (.invokevirtual 101, 3) := by decide +kernel
theorem dX10_house_39 : decode cX10_house 39 = .ok (.aload_n 0, 1) := by decide +kernel
theorem dX10_house_40 : decode cX10_house 40 = .ok (.getfield 31, 3) := by decide +kernel
theorem dX10_house_43 : decode cX10_house 43 = .ok (.iconst 0, 1) := by decide +kernel
theorem dX10_house_44 : decode cX10_house 44 = .ok (.putfield 105, 3) := by decide +kernel
theorem dX10_house_47 : decode cX10_house 47 = .ok (.aload_n 0, 1) := by decide +kernel
theorem dX10_house_48 : decode cX10_house 48 = .ok (.invokevirtual 108, 3) := by decide +kernel
theorem dX10_house_51 : decode cX10_house 51 = .ok (.aload_n 0, 1) := by decide +kernel
theorem dX10_house_52 : decode cX10_house 52 = .ok (.getfield 31, 3) := by decide +kernel
theorem dX10_house_55 : decode cX10_house 55 = .ok (.getfield 98, 3) := by decide +kernel
theorem dX10_house_58 : decode cX10_house 58 = .ok (.getfield 111, 3) := by decide +kernel
theorem dX10_house_61 : decode cX10_house 61 = .ok (.ireturn, 1) := by decide +kernel
theorem dX10_house_14 : decode cX10_house 14 = .ok (.bipush (-4), 2) := by decide +kernel
theorem dX10_house_16 : decode cX10_house 16 = .ok (.ireturn, 1) := by decide +kernel
theorem dX10_fault_0 : decode cX10_fault 0 = .ok (.iload_n 1, 1) := by decide +kernel
theorem dX10_fault_1 : decode cX10_fault 1 = .ok (.lookupswitch 43 #[(0, 27), (1, 35)], 27) := by decide +kernel
theorem dX10_fault_44 : decode cX10_fault 44 = .ok (.iconst (-1), 1) := by decide +kernel
theorem dX10_fault_45 : decode cX10_fault 45 = .ok (.ireturn, 1) := by decide +kernel
theorem dX10_fault_28 : decode cX10_fault 28 = .ok (.aload_n 0, 1) := by decide +kernel
theorem dX10_fault_29 : decode cX10_fault 29 = .ok (.getfield 10, 3) := by decide +kernel
theorem dX10_fault_32 : decode cX10_fault 32 = .ok (.getfield 114, 3) := by decide +kernel
theorem dX10_fault_35 : decode cX10_fault 35 = .ok (.ireturn, 1) := by decide +kernel
theorem dX10_fault_36 : decode cX10_fault 36 = .ok (.aload_n 0, 1) := by decide +kernel
theorem dX10_fault_37 : decode cX10_fault 37 = .ok (.getfield 10, 3) := by decide +kernel
theorem dX10_fault_40 : decode cX10_fault 40 = .ok (.getfield 117, 3) := by decide +kernel
theorem dX10_fault_43 : decode cX10_fault 43 = .ok (.ireturn, 1) := by decide +kernel
theorem dX10_room_0 : decode cX10_room 0 = .ok (.aload_n 0, 1) := by decide +kernel
theorem dX10_room_1 : decode cX10_room 1 = .ok (.iload_n 1, 1) := by decide +kernel
theorem dX10_room_2 : decode cX10_room 2 = .ok (.invokevirtual 120, 3) := by decide +kernel
theorem dX10_room_5 : decode cX10_room 5 = .ok (.ifCond .eq 12, 3) := by decide +kernel
theorem dX10_room_17 : decode cX10_room 17 = .ok (.bipush (-2), 2) := by decide +kernel
theorem dX10_room_19 : decode cX10_room 19 = .ok (.ireturn, 1) := by decide +kernel
theorem dX10_room_8 : decode cX10_room 8 = .ok (.iload_n 2, 1) := by decide +kernel
theorem dX10_room_9 : decode cX10_room 9 = .ok (.ifCond .lt 8, 3) := by decide +kernel
theorem dX10_room_12 : decode cX10_room 12 = .ok (.iload_n 2, 1) := by decide +kernel
theorem dX10_room_13 : decode cX10_room 13 = .ok (.iconst 3, 1) := by decide +kernel
theorem dX10_room_14 : decode cX10_room 14 = .ok (.if_icmp .le 6, 3) := by decide +kernel
theorem dX10_room_20 : decode cX10_room 20 = .ok (.aload_n 0, 1) := by decide +kernel
theorem dX10_room_21 : decode cX10_room 21 = .ok (.getfield 31, 3) := by decide +kernel
theorem dX10_room_24 : decode cX10_room 24 = .ok (.getfield 98, 3) := by decide +kernel
theorem dX10_room_27 : decode cX10_room 27 = .ok (.iload_n 2, 1) := by decide +kernel
theorem dX10_room_28 : decode cX10_room 28 = .ok (.invokevirtual 124, 3) := by decide +kernel
theorem dX10_room_31 : decode cX10_room 31 = .ok (.iload_n 1, 1) := by decide +kernel
theorem dX10_room_32 : decode cX10_room 32 = .ok (.iaload, 1) := by decide +kernel
theorem dX10_room_33 : decode cX10_room 33 = .ok (.ireturn, 1) := by decide +kernel
theorem dX10_man_0 : decode cX10_man 0 = .ok (.aload_n 0, 1) := by decide +kernel
theorem dX10_man_1 : decode cX10_man 1 = .ok (.iload_n 1, 1) := by decide +kernel
theorem dX10_man_2 : decode cX10_man 2 = .ok (.invokevirtual 128, 3) := by decide +kernel
theorem dX10_man_5 : decode cX10_man 5 = .ok (.ifCond .eq 12, 3) := by decide +kernel
theorem dX10_man_17 : decode cX10_man 17 = .ok (.bipush (-2), 2) := by decide +kernel
theorem dX10_man_19 : decode cX10_man 19 = .ok (.ireturn, 1) := by decide +kernel
theorem dX10_man_8 : decode cX10_man 8 = .ok (.iload_n 2, 1) := by decide +kernel
theorem dX10_man_9 : decode cX10_man 9 = .ok (.ifCond .lt 8, 3) := by decide +kernel
theorem dX10_man_12 : decode cX10_man 12 = .ok (.iload_n 2, 1) := by decide +kernel
theorem dX10_man_13 : decode cX10_man 13 = .ok (.iconst 1, 1) := by decide +kernel
theorem dX10_man_14 : decode cX10_man 14 = .ok (.if_icmp .le 6, 3) := by decide +kernel
theorem dX10_man_20 : decode cX10_man 20 = .ok (.iload_n 2, 1) := by decide +kernel
theorem dX10_man_21 : decode cX10_man 21 = .ok (.ifCond .ne 18, 3) := by decide +kernel
theorem dX10_man_39 : decode cX10_man 39 = .ok (.aload_n 0, 1) := by decide +kernel
theorem dX10_man_40 : decode cX10_man 40 = .ok (.getfield 31, 3) := by decide +kernel
theorem dX10_man_43 : decode cX10_man 43 = .ok (.getfield 98, 3) := by decide +kernel
theorem dX10_man_46 : decode cX10_man 46 = .ok (.getfield 135, 3) := by decide +kernel
theorem dX10_man_49 : decode cX10_man 49 = .ok (.iload_n 1, 1) := by decide +kernel
theorem dX10_man_50 : decode cX10_man 50 = .ok (.iaload, 1) := by decide +kernel
theorem dX10_man_51 : decode cX10_man 51 = .ok (.ireturn, 1) := by decide +kernel
theorem dX10_man_24 : decode cX10_man 24 = .ok (.aload_n 0, 1) := by decide +kernel
theorem dX10_man_25 : decode cX10_man 25 = .ok (.getfield 31, 3) := by decide +kernel
theorem dX10_man_28 : decode cX10_man 28 = .ok (.getfield 98, 3) := by decide +kernel
theorem dX10_man_31 : decode cX10_man 31 = .ok (.getfield 131, 3) := by decide +kernel
theorem dX10_man_34 : decode cX10_man 34 = .ok (.iload_n 1, 1) := by decide +kernel
theorem dX10_man_35 : decode cX10_man 35 = .ok (.iaload, 1) := by decide +kernel
theorem dX10_man_36 : decode cX10_man 36 = .ok (.goto 15, 3) := by decide +kernel
theorem dX10_slate_0 : decode cX10_slate 0 = .ok (.aload_n 0, 1) := by decide +kernel
theorem dX10_slate_1 : decode cX10_slate 1 = .ok (.iload_n 1, 1) := by decide +kernel
theorem dX10_slate_2 : decode cX10_slate 2 = .ok (.invokevirtual 128, 3) := by decide +kernel
theorem dX10_slate_5 : decode cX10_slate 5 = .ok (.ifCond .eq 11, 3) := by decide +kernel
theorem dX10_slate_16 : decode cX10_slate 16 = .ok (.bipush (-2), 2) := by decide +kernel
theorem dX10_slate_18 : decode cX10_slate 18 = .ok (.ireturn, 1) := by decide +kernel
theorem dX10_slate_8 : decode cX10_slate 8 = .ok (.aload_n 0, 1) := by decide +kernel
theorem dX10_slate_9 : decode cX10_slate 9 = .ok (.iload_n 2, 1) := by decide +kernel
theorem dX10_slate_10 : decode cX10_slate 10 = .ok (.invokevirtual 128, 3) := by decide +kernel
theorem dX10_slate_13 : decode cX10_slate 13 = .ok (.ifCond .ne 6, 3) := by decide +kernel
theorem dX10_slate_19 : decode cX10_slate 19 = .ok (.aload_n 0, 1) := by decide +kernel
theorem dX10_slate_20 : decode cX10_slate 20 = .ok (.getfield 31, 3) := by decide +kernel
theorem dX10_slate_23 : decode cX10_slate 23 = .ok (.getfield 98, 3) := by decide +kernel
theorem dX10_slate_26 : decode cX10_slate 26 = .ok (.getfield 138, 3) := by decide +kernel
theorem dX10_slate_29 : decode cX10_slate 29 = .ok (.iload_n 1, 1) := by decide +kernel
theorem dX10_slate_30 : decode cX10_slate 30 = .ok (.bipush 6, 2) := by decide +kernel
theorem dX10_slate_32 : decode cX10_slate 32 = .ok (.imul, 1) := by decide +kernel
theorem dX10_slate_33 : decode cX10_slate 33 = .ok (.iload_n 2, 1) := by decide +kernel
theorem dX10_slate_34 : decode cX10_slate 34 = .ok (.iadd, 1) := by decide +kernel
theorem dX10_slate_35 : decode cX10_slate 35 = .ok (.iaload, 1) := by decide +kernel
theorem dX10_slate_36 : decode cX10_slate 36 = .ok (.ireturn, 1) := by decide +kernel
theorem dX10_hears_0 : decode cX10_hears 0 = .ok (.aload_n 0, 1) := by decide +kernel
theorem dX10_hears_1 : decode cX10_hears 1 = .ok (.iload_n 1, 1) := by decide +kernel
theorem dX10_hears_2 : decode cX10_hears 2 = .ok (.invokevirtual 120, 3) := by decide +kernel
theorem dX10_hears_5 : decode cX10_hears 5 = .ok (.ifCond .eq 13, 3) := by decide +kernel
theorem dX10_hears_18 : decode cX10_hears 18 = .ok (.bipush (-2), 2) := by decide +kernel
theorem dX10_hears_20 : decode cX10_hears 20 = .ok (.ireturn, 1) := by decide +kernel
theorem dX10_hears_8 : decode cX10_hears 8 = .ok (.iload_n 2, 1) := by decide +kernel
theorem dX10_hears_9 : decode cX10_hears 9 = .ok (.ifCond .lt 9, 3) := by decide +kernel
theorem dX10_hears_12 : decode cX10_hears 12 = .ok (.iload_n 2, 1) := by decide +kernel
theorem dX10_hears_13 : decode cX10_hears 13 = .ok (.bipush 9, 2) := by decide +kernel
theorem dX10_hears_15 : decode cX10_hears 15 = .ok (.if_icmp .le 6, 3) := by decide +kernel
theorem dX10_hears_21 : decode cX10_hears 21 = .ok (.aload_n 0, 1) := by decide +kernel
theorem dX10_hears_22 : decode cX10_hears 22 = .ok (.getfield 31, 3) := by decide +kernel
theorem dX10_hears_25 : decode cX10_hears 25 = .ok (.getfield 98, 3) := by decide +kernel
theorem dX10_hears_28 : decode cX10_hears 28 = .ok (.iload_n 1, 1) := by decide +kernel
theorem dX10_hears_29 : decode cX10_hears 29 = .ok (.iload_n 2, 1) := by decide +kernel
theorem dX10_hears_30 : decode cX10_hears 30 = .ok (.invokevirtual 141, 3) := by decide +kernel
theorem dX10_hears_33 : decode cX10_hears 33 = .ok (.ireturn, 1) := by decide +kernel
theorem dX10_parts_0 : decode cX10_parts 0 = .ok (.aload_n 0, 1) := by decide +kernel
theorem dX10_parts_1 : decode cX10_parts 1 = .ok (.iload_n 1, 1) := by decide +kernel
theorem dX10_parts_2 : decode cX10_parts 2 = .ok (.invokevirtual 145, 3) := by decide +kernel
theorem dX10_parts_5 : decode cX10_parts 5 = .ok (.ifCond .eq 14, 3) := by decide +kernel
theorem dX10_parts_19 : decode cX10_parts 19 = .ok (.bipush (-2), 2) := by decide +kernel
theorem dX10_parts_21 : decode cX10_parts 21 = .ok (.ireturn, 1) := by decide +kernel
theorem dX10_parts_8 : decode cX10_parts 8 = .ok (.aload_n 0, 1) := by decide +kernel
theorem dX10_parts_9 : decode cX10_parts 9 = .ok (.getfield 48, 3) := by decide +kernel
theorem dX10_parts_12 : decode cX10_parts 12 = .ok (.iload_n 1, 1) := by decide +kernel
theorem dX10_parts_13 : decode cX10_parts 13 = .ok (.invokevirtual 148, 3) := by decide +kernel
theorem dX10_parts_16 : decode cX10_parts 16 = .ok (.goto 5, 3) := by decide +kernel
theorem dX10_found_0 : decode cX10_found 0 = .ok (.aload_n 0, 1) := by decide +kernel
theorem dX10_found_1 : decode cX10_found 1 = .ok (.invokevirtual 152, 3) := by decide +kernel
theorem dX10_found_4 : decode cX10_found 4 = .ok (.ifCond .eq 13, 3) := by decide +kernel
theorem dX10_found_17 : decode cX10_found 17 = .ok (.bipush (-2), 2) := by decide +kernel
theorem dX10_found_19 : decode cX10_found 19 = .ok (.ireturn, 1) := by decide +kernel
theorem dX10_found_7 : decode cX10_found 7 = .ok (.aload_n 0, 1) := by decide +kernel
theorem dX10_found_8 : decode cX10_found 8 = .ok (.getfield 48, 3) := by decide +kernel
theorem dX10_found_11 : decode cX10_found 11 = .ok (.getfield 156, 3) := by decide +kernel
theorem dX10_found_14 : decode cX10_found 14 = .ok (.goto 5, 3) := by decide +kernel
theorem dX10_likely_0 : decode cX10_likely 0 = .ok (.aload_n 0, 1) := by decide +kernel
theorem dX10_likely_1 : decode cX10_likely 1 = .ok (.invokevirtual 152, 3) := by decide +kernel
theorem dX10_likely_4 : decode cX10_likely 4 = .ok (.ifCond .ne 6, 3) := by decide +kernel
theorem dX10_likely_10 : decode cX10_likely 10 = .ok (.iconst (-1), 1) := by decide +kernel
theorem dX10_likely_11 : decode cX10_likely 11 = .ok (.istore_n 1, 1) := by decide +kernel
theorem dX10_likely_12 : decode cX10_likely 12 = .ok (.iconst 0, 1) := by decide +kernel
theorem dX10_likely_13 : decode cX10_likely 13 = .ok (.istore_n 2, 1) := by decide +kernel
theorem dX10_likely_14 : decode cX10_likely 14 = .ok (.iload_n 2, 1) := by decide +kernel
theorem dX10_likely_15 : decode cX10_likely 15 = .ok (.aload_n 0, 1) := by decide +kernel
theorem dX10_likely_16 : decode cX10_likely 16 = .ok (.getfield 31, 3) := by decide +kernel
theorem dX10_likely_19 : decode cX10_likely 19 = .ok (.getfield 98, 3) := by decide +kernel
theorem dX10_likely_22 : decode cX10_likely 22 = .ok (.getfield 159, 3) := by decide +kernel
theorem dX10_likely_25 : decode cX10_likely 25 = .ok (.if_icmp .ge 37, 3) := by decide +kernel
theorem dX10_likely_62 : decode cX10_likely 62 = .ok (.iload_n 1, 1) := by decide +kernel
theorem dX10_likely_63 : decode cX10_likely 63 = .ok (.ireturn, 1) := by decide +kernel
theorem dX10_likely_28 : decode cX10_likely 28 = .ok (.iload_n 1, 1) := by decide +kernel
theorem dX10_likely_29 : decode cX10_likely 29 = .ok (.iconst (-1), 1) := by decide +kernel
theorem dX10_likely_56 : decode cX10_likely 56 = .ok (.iinc 2 1, 3) := by decide +kernel
theorem dX10_likely_59 : decode cX10_likely 59 = .ok (.goto (-45), 3) := by decide +kernel
theorem dX10_likely_54 : decode cX10_likely 54 = .ok (.iload_n 2, 1) := by decide +kernel
theorem dX10_likely_55 : decode cX10_likely 55 = .ok (.istore_n 1, 1) := by decide +kernel
theorem dX10_likely_30 : decode cX10_likely 30 = .ok (.if_icmp .eq 24, 3) := by decide +kernel
theorem dX10_likely_33 : decode cX10_likely 33 = .ok (.aload_n 0, 1) := by decide +kernel
theorem dX10_likely_34 : decode cX10_likely 34 = .ok (.getfield 48, 3) := by decide +kernel
theorem dX10_likely_37 : decode cX10_likely 37 = .ok (.getfield 162, 3) := by decide +kernel
theorem dX10_likely_40 : decode cX10_likely 40 = .ok (.iload_n 2, 1) := by decide +kernel
theorem dX10_likely_41 : decode cX10_likely 41 = .ok (.iaload, 1) := by decide +kernel
theorem dX10_likely_42 : decode cX10_likely 42 = .ok (.aload_n 0, 1) := by decide +kernel
theorem dX10_likely_43 : decode cX10_likely 43 = .ok (.getfield 48, 3) := by decide +kernel
theorem dX10_likely_46 : decode cX10_likely 46 = .ok (.getfield 162, 3) := by decide +kernel
theorem dX10_likely_49 : decode cX10_likely 49 = .ok (.iload_n 1, 1) := by decide +kernel
theorem dX10_likely_50 : decode cX10_likely 50 = .ok (.iaload, 1) := by decide +kernel
theorem dX10_likely_51 : decode cX10_likely 51 = .ok (.if_icmp .le 5, 3) := by decide +kernel
theorem dX10_likely_7 : decode cX10_likely 7 = .ok (.bipush (-2), 2) := by decide +kernel
theorem dX10_likely_9 : decode cX10_likely 9 = .ok (.ireturn, 1) := by decide +kernel
theorem dX10_here_0 : decode cX10_here 0 = .ok (.aload_n 0, 1) := by decide +kernel
theorem dX10_here_1 : decode cX10_here 1 = .ok (.invokevirtual 152, 3) := by decide +kernel
theorem dX10_here_4 : decode cX10_here 4 = .ok (.ifCond .eq 13, 3) := by decide +kernel
theorem dX10_here_17 : decode cX10_here 17 = .ok (.bipush (-2), 2) := by decide +kernel
theorem dX10_here_19 : decode cX10_here 19 = .ok (.ireturn, 1) := by decide +kernel
theorem dX10_here_7 : decode cX10_here 7 = .ok (.aload_n 0, 1) := by decide +kernel
theorem dX10_here_8 : decode cX10_here 8 = .ok (.getfield 48, 3) := by decide +kernel
theorem dX10_here_11 : decode cX10_here 11 = .ok (.invokevirtual 165, 3) := by decide +kernel
theorem dX10_here_14 : decode cX10_here 14 = .ok (.goto 5, 3) := by decide +kernel
theorem dX10_chance_0 : decode cX10_chance 0 = .ok (.aload_n 0, 1) := by decide +kernel
theorem dX10_chance_1 : decode cX10_chance 1 = .ok (.iload_n 1, 1) := by decide +kernel
theorem dX10_chance_2 : decode cX10_chance 2 = .ok (.invokevirtual 145, 3) := by decide +kernel
theorem dX10_chance_5 : decode cX10_chance 5 = .ok (.ifCond .eq 21, 3) := by decide +kernel
theorem dX10_chance_26 : decode cX10_chance 26 = .ok (.bipush (-2), 2) := by decide +kernel
theorem dX10_chance_28 : decode cX10_chance 28 = .ok (.ireturn, 1) := by decide +kernel
theorem dX10_chance_8 : decode cX10_chance 8 = .ok (.aload_n 0, 1) := by decide +kernel
theorem dX10_chance_9 : decode cX10_chance 9 = .ok (.getfield 48, 3) := by decide +kernel
theorem dX10_chance_12 : decode cX10_chance 12 = .ok (.aload_n 0, 1) := by decide +kernel
theorem dX10_chance_13 : decode cX10_chance 13 = .ok (.getfield 48, 3) := by decide +kernel
theorem dX10_chance_16 : decode cX10_chance 16 = .ok (.iload_n 1, 1) := by decide +kernel
theorem dX10_chance_17 : decode cX10_chance 17 = .ok (.invokevirtual 148, 3) := by decide +kernel
theorem dX10_chance_20 : decode cX10_chance 20 = .ok (.invokevirtual 169, 3) := by decide +kernel
theorem dX10_chance_23 : decode cX10_chance 23 = .ok (.goto 5, 3) := by decide +kernel
theorem dX10_call_0 : decode cX10_call 0 = .ok (.aload_n 0, 1) := by decide +kernel
theorem dX10_call_1 : decode cX10_call 1 = .ok (.iload_n 1, 1) := by decide +kernel
theorem dX10_call_2 : decode cX10_call 2 = .ok (.invokevirtual 145, 3) := by decide +kernel
theorem dX10_call_5 : decode cX10_call 5 = .ok (.ifCond .ne 6, 3) := by decide +kernel
theorem dX10_call_11 : decode cX10_call 11 = .ok (.aload_n 0, 1) := by decide +kernel
theorem dX10_call_12 : decode cX10_call 12 = .ok (.getfield 31, 3) := by decide +kernel
theorem dX10_call_15 : decode cX10_call 15 = .ok (.getfield 105, 3) := by decide +kernel
theorem dX10_call_18 : decode cX10_call 18 = .ok (.bipush 60, 2) := by decide +kernel
theorem dX10_call_20 : decode cX10_call 20 = .ok (.if_icmp .lt 6, 3) := by decide +kernel
theorem dX10_call_26 : decode cX10_call 26 = .ok (.aload_n 0, 1) := by decide +kernel
theorem dX10_call_27 : decode cX10_call 27 = .ok (.getfield 31, 3) := by decide +kernel
theorem dX10_call_30 : decode cX10_call 30 = .ok (.getfield 172, 3) := by decide +kernel
theorem dX10_call_33 : decode cX10_call 33 = .ok (.aload_n 0, 1) := by decide +kernel
theorem dX10_call_34 : decode cX10_call 34 = .ok (.getfield 31, 3) := by decide +kernel
theorem dX10_call_37 : decode cX10_call 37 = .ok (.getfield 105, 3) := by decide +kernel
theorem dX10_call_40 : decode cX10_call 40 = .ok (.iload_n 1, 1) := by decide +kernel
theorem dX10_call_41 : decode cX10_call 41 = .ok (.iastore, 1) := by decide +kernel
theorem dX10_call_42 : decode cX10_call 42 = .ok (.aload_n 0, 1) := by decide +kernel
theorem dX10_call_43 : decode cX10_call 43 = .ok (.getfield 31, 3) := by decide +kernel
theorem dX10_call_46 : decode cX10_call 46 = .ok (.dup, 1) := by decide +kernel
theorem dX10_call_47 : decode cX10_call 47 = .ok (.getfield 105, 3) := by decide +kernel
theorem dX10_call_50 : decode cX10_call 50 = .ok (.iconst 1, 1) := by decide +kernel
theorem dX10_call_51 : decode cX10_call 51 = .ok (.iadd, 1) := by decide +kernel
theorem dX10_call_52 : decode cX10_call 52 = .ok (.putfield 105, 3) := by decide +kernel
theorem dX10_call_55 : decode cX10_call 55 = .ok (.aload_n 0, 1) := by decide +kernel
theorem dX10_call_56 : decode cX10_call 56 = .ok (.getfield 48, 3) := by decide +kernel
theorem dX10_call_59 : decode cX10_call 59 = .ok (.aload_n 0, 1) := by decide +kernel
theorem dX10_call_60 : decode cX10_call 60 = .ok (.getfield 31, 3) := by decide +kernel
theorem dX10_call_63 : decode cX10_call 63 = .ok (.getfield 98, 3) := by decide +kernel
theorem dX10_call_66 : decode cX10_call 66 = .ok (.iload_n 1, 1) := by decide +kernel
theorem dX10_call_67 : decode cX10_call 67 = .ok (.iconst 0, 1) := by decide +kernel
theorem dX10_call_68 : decode cX10_call 68 = .ok (.invokevirtual 175, 3) := by decide +kernel
theorem dX10_call_71 : decode cX10_call 71 = .ok (.ireturn, 1) := by decide +kernel
theorem dX10_call_23 : decode cX10_call 23 = .ok (.bipush (-5), 2) := by decide +kernel
theorem dX10_call_25 : decode cX10_call 25 = .ok (.ireturn, 1) := by decide +kernel
theorem dX10_call_8 : decode cX10_call 8 = .ok (.bipush (-2), 2) := by decide +kernel
theorem dX10_call_10 : decode cX10_call 10 = .ok (.ireturn, 1) := by decide +kernel
theorem dX10_undo_0 : decode cX10_undo 0 = .ok (.aload_n 0, 1) := by decide +kernel
theorem dX10_undo_1 : decode cX10_undo 1 = .ok (.invokevirtual 152, 3) := by decide +kernel
theorem dX10_undo_4 : decode cX10_undo 4 = .ok (.ifCond .ne 6, 3) := by decide +kernel
theorem dX10_undo_10 : decode cX10_undo 10 = .ok (.aload_n 0, 1) := by decide +kernel
theorem dX10_undo_11 : decode cX10_undo 11 = .ok (.getfield 31, 3) := by decide +kernel
theorem dX10_undo_14 : decode cX10_undo 14 = .ok (.getfield 105, 3) := by decide +kernel
theorem dX10_undo_17 : decode cX10_undo 17 = .ok (.iconst 1, 1) := by decide +kernel
theorem dX10_undo_18 : decode cX10_undo 18 = .ok (.if_icmp .ge 6, 3) := by decide +kernel
theorem dX10_undo_24 : decode cX10_undo 24 = .ok (.aload_n 0, 1) := by decide +kernel
theorem dX10_undo_25 : decode cX10_undo 25 = .ok (.getfield 31, 3) := by decide +kernel
theorem dX10_undo_28 : decode cX10_undo 28 = .ok (.dup, 1) := by decide +kernel
theorem dX10_undo_29 : decode cX10_undo 29 = .ok (.getfield 105, 3) := by decide +kernel
theorem dX10_undo_32 : decode cX10_undo 32 = .ok (.iconst 1, 1) := by decide +kernel
theorem dX10_undo_33 : decode cX10_undo 33 = .ok (.isub, 1) := by decide +kernel
theorem dX10_undo_34 : decode cX10_undo 34 = .ok (.putfield 105, 3) := by decide +kernel
theorem dX10_undo_37 : decode cX10_undo 37 = .ok (.aload_n 0, 1) := by decide +kernel
theorem dX10_undo_38 : decode cX10_undo 38 = .ok (.invokevirtual 108, 3) := by decide +kernel
theorem dX10_undo_41 : decode cX10_undo 41 = .ok (.aload_n 0, 1) := by decide +kernel
theorem dX10_undo_42 : decode cX10_undo 42 = .ok (.getfield 31, 3) := by decide +kernel
theorem dX10_undo_45 : decode cX10_undo 45 = .ok (.getfield 105, 3) := by decide +kernel
theorem dX10_undo_48 : decode cX10_undo 48 = .ok (.ireturn, 1) := by decide +kernel
theorem dX10_undo_21 : decode cX10_undo 21 = .ok (.bipush (-5), 2) := by decide +kernel
theorem dX10_undo_23 : decode cX10_undo 23 = .ok (.ireturn, 1) := by decide +kernel
theorem dX10_undo_7 : decode cX10_undo 7 = .ok (.bipush (-2), 2) := by decide +kernel
theorem dX10_undo_9 : decode cX10_undo 9 = .ok (.ireturn, 1) := by decide +kernel
theorem dX10_anew_0 : decode cX10_anew 0 = .ok (.aload_n 0, 1) := by decide +kernel
theorem dX10_anew_1 : decode cX10_anew 1 = .ok (.invokevirtual 152, 3) := by decide +kernel
theorem dX10_anew_4 : decode cX10_anew 4 = .ok (.ifCond .ne 6, 3) := by decide +kernel
theorem dX10_anew_10 : decode cX10_anew 10 = .ok (.aload_n 0, 1) := by decide +kernel
theorem dX10_anew_11 : decode cX10_anew 11 = .ok (.getfield 31, 3) := by decide +kernel
theorem dX10_anew_14 : decode cX10_anew 14 = .ok (.getfield 105, 3) := by decide +kernel
theorem dX10_anew_17 : decode cX10_anew 17 = .ok (.istore_n 1, 1) := by decide +kernel
theorem dX10_anew_18 : decode cX10_anew 18 = .ok (.aload_n 0, 1) := by decide +kernel
theorem dX10_anew_19 : decode cX10_anew 19 = .ok (.getfield 31, 3) := by decide +kernel
theorem dX10_anew_22 : decode cX10_anew 22 = .ok (.iconst 0, 1) := by decide +kernel
theorem dX10_anew_23 : decode cX10_anew 23 = .ok (.putfield 105, 3) := by decide +kernel
theorem dX10_anew_26 : decode cX10_anew 26 = .ok (.aload_n 0, 1) := by decide +kernel
theorem dX10_anew_27 : decode cX10_anew 27 = .ok (.invokevirtual 108, 3) := by decide +kernel
theorem dX10_anew_30 : decode cX10_anew 30 = .ok (.iload_n 1, 1) := by decide +kernel
theorem dX10_anew_31 : decode cX10_anew 31 = .ok (.ireturn, 1) := by decide +kernel
theorem dX10_anew_7 : decode cX10_anew 7 = .ok (.bipush (-2), 2) := by decide +kernel
theorem dX10_anew_9 : decode cX10_anew 9 = .ok (.ireturn, 1) := by decide +kernel
theorem dX10_later_0 : decode cX10_later 0 = .ok (.aload_n 0, 1) := by decide +kernel
theorem dX10_later_1 : decode cX10_later 1 = .ok (.iload_n 1, 1) := by decide +kernel
theorem dX10_later_2 : decode cX10_later 2 = .ok (.invokevirtual 145, 3) := by decide +kernel
theorem dX10_later_5 : decode cX10_later 5 = .ok (.ifCond .eq 14, 3) := by decide +kernel
theorem dX10_later_19 : decode cX10_later 19 = .ok (.bipush (-2), 2) := by decide +kernel
theorem dX10_later_21 : decode cX10_later 21 = .ok (.ireturn, 1) := by decide +kernel
theorem dX10_later_8 : decode cX10_later 8 = .ok (.iload_n 2, 1) := by decide +kernel
theorem dX10_later_9 : decode cX10_later 9 = .ok (.ifCond .lt 10, 3) := by decide +kernel
theorem dX10_later_12 : decode cX10_later 12 = .ok (.iload_n 2, 1) := by decide +kernel
theorem dX10_later_13 : decode cX10_later 13 = .ok (.sipush 200, 3) := by decide +kernel
theorem dX10_later_16 : decode cX10_later 16 = .ok (.if_icmp .le 6, 3) := by decide +kernel
theorem dX10_later_22 : decode cX10_later 22 = .ok (.aload_n 0, 1) := by decide +kernel
theorem dX10_later_23 : decode cX10_later 23 = .ok (.getfield 52, 3) := by decide +kernel
theorem dX10_later_26 : decode cX10_later 26 = .ok (.aload_n 0, 1) := by decide +kernel
theorem dX10_later_27 : decode cX10_later 27 = .ok (.getfield 48, 3) := by decide +kernel
theorem dX10_later_30 : decode cX10_later 30 = .ok (.invokevirtual 179, 3) := by decide +kernel
theorem dX10_later_33 : decode cX10_later 33 = .ok (.iconst 0, 1) := by decide +kernel
theorem dX10_later_34 : decode cX10_later 34 = .ok (.istore_n 3, 1) := by decide +kernel
theorem dX10_later_35 : decode cX10_later 35 = .ok (.iload_n 3, 1) := by decide +kernel
theorem dX10_later_36 : decode cX10_later 36 = .ok (.iload_n 2, 1) := by decide +kernel
theorem dX10_later_37 : decode cX10_later 37 = .ok (.if_icmp .ge 25, 3) := by decide +kernel
theorem dX10_later_62 : decode cX10_later 62 = .ok (.aload_n 0, 1) := by decide +kernel
theorem dX10_later_63 : decode cX10_later 63 = .ok (.getfield 52, 3) := by decide +kernel
theorem dX10_later_66 : decode cX10_later 66 = .ok (.iload_n 1, 1) := by decide +kernel
theorem dX10_later_67 : decode cX10_later 67 = .ok (.invokevirtual 148, 3) := by decide +kernel
theorem dX10_later_70 : decode cX10_later 70 = .ok (.ireturn, 1) := by decide +kernel
theorem dX10_later_40 : decode cX10_later 40 = .ok (.aload_n 0, 1) := by decide +kernel
theorem dX10_later_41 : decode cX10_later 41 = .ok (.getfield 52, 3) := by decide +kernel
theorem dX10_later_44 : decode cX10_later 44 = .ok (.aload_n 0, 1) := by decide +kernel
theorem dX10_later_45 : decode cX10_later 45 = .ok (.getfield 31, 3) := by decide +kernel
theorem dX10_later_48 : decode cX10_later 48 = .ok (.getfield 98, 3) := by decide +kernel
theorem dX10_later_51 : decode cX10_later 51 = .ok (.iconst (-1), 1) := by decide +kernel
theorem dX10_later_52 : decode cX10_later 52 = .ok (.invokevirtual 182, 3) := by decide +kernel
theorem dX10_later_55 : decode cX10_later 55 = .ok (.pop, 1) := by decide +kernel
theorem dX10_later_56 : decode cX10_later 56 = .ok (.iinc 3 1, 3) := by decide +kernel
theorem dX10_later_59 : decode cX10_later 59 = .ok (.goto (-24), 3) := by decide +kernel
theorem dX10_round_0 : decode cX10_round 0 = .ok (.aload_n 0, 1) := by decide +kernel
theorem dX10_round_1 : decode cX10_round 1 = .ok (.iload_n 1, 1) := by decide +kernel
theorem dX10_round_2 : decode cX10_round 2 = .ok (.iconst 1, 1) := by decide +kernel
theorem dX10_round_3 : decode cX10_round 3 = .ok (.invokevirtual 186, 3) := by decide +kernel
theorem dX10_round_6 : decode cX10_round 6 = .ok (.istore_n 2, 1) := by decide +kernel
theorem dX10_round_7 : decode cX10_round 7 = .ok (.iload_n 2, 1) := by decide +kernel
theorem dX10_round_8 : decode cX10_round 8 = .ok (.ifCond .eq 7, 3) := by decide +kernel
theorem dX10_round_15 : decode cX10_round 15 = .ok (.aload_n 0, 1) := by decide +kernel
theorem dX10_round_16 : decode cX10_round 16 = .ok (.aload_n 0, 1) := by decide +kernel
theorem dX10_round_17 : decode cX10_round 17 = .ok (.getfield 41, 3) := by decide +kernel
theorem dX10_round_20 : decode cX10_round 20 = .ok (.iload_n 1, 1) := by decide +kernel
theorem dX10_round_21 : decode cX10_round 21 = .ok (.aaload, 1) := by decide +kernel
theorem dX10_round_22 : decode cX10_round 22 = .ok (.iconst 0, 1) := by decide +kernel
theorem dX10_round_23 : decode cX10_round 23 = .ok (.invokevirtual 190, 3) := by decide +kernel
theorem dX10_round_26 : decode cX10_round 26 = .ok (.ireturn, 1) := by decide +kernel
theorem dX10_round_11 : decode cX10_round 11 = .ok (.iload_n 2, 1) := by decide +kernel
theorem dX10_round_12 : decode cX10_round 12 = .ok (.goto 14, 3) := by decide +kernel
theorem dX10_disturbs_0 : decode cX10_disturbs 0 = .ok (.aload_n 0, 1) := by decide +kernel
theorem dX10_disturbs_1 : decode cX10_disturbs 1 = .ok (.iload_n 1, 1) := by decide +kernel
theorem dX10_disturbs_2 : decode cX10_disturbs 2 = .ok (.iconst 1, 1) := by decide +kernel
theorem dX10_disturbs_3 : decode cX10_disturbs 3 = .ok (.invokevirtual 186, 3) := by decide +kernel
theorem dX10_disturbs_6 : decode cX10_disturbs 6 = .ok (.istore_n 2, 1) := by decide +kernel
theorem dX10_disturbs_7 : decode cX10_disturbs 7 = .ok (.iload_n 2, 1) := by decide +kernel
theorem dX10_disturbs_8 : decode cX10_disturbs 8 = .ok (.ifCond .eq 5, 3) := by decide +kernel
theorem dX10_disturbs_13 : decode cX10_disturbs 13 = .ok (.aload_n 0, 1) := by decide +kernel
theorem dX10_disturbs_14 : decode cX10_disturbs 14 = .ok (.getfield 41, 3) := by decide +kernel
theorem dX10_disturbs_17 : decode cX10_disturbs 17 = .ok (.iload_n 1, 1) := by decide +kernel
theorem dX10_disturbs_18 : decode cX10_disturbs 18 = .ok (.aaload, 1) := by decide +kernel
theorem dX10_disturbs_19 : decode cX10_disturbs 19 = .ok (.astore_n 3, 1) := by decide +kernel
theorem dX10_disturbs_20 : decode cX10_disturbs 20 = .ok (.iconst 0, 1) := by decide +kernel
theorem dX10_disturbs_21 : decode cX10_disturbs 21 = .ok (.istore 4, 2) := by decide +kernel
theorem dX10_disturbs_23 : decode cX10_disturbs 23 = .ok (.iconst 0, 1) := by decide +kernel
theorem dX10_disturbs_24 : decode cX10_disturbs 24 = .ok (.istore 5, 2) := by decide +kernel
theorem dX10_disturbs_26 : decode cX10_disturbs 26 = .ok (.iload 5, 2) := by decide +kernel
theorem dX10_disturbs_28 : decode cX10_disturbs 28 = .ok (.aload_n 3, 1) := by decide +kernel
theorem dX10_disturbs_29 : decode cX10_disturbs 29 = .ok (.getfield 194, 3) := by decide +kernel
theorem dX10_disturbs_32 : decode cX10_disturbs 32 = .ok (.if_icmp .ge 41, 3) := by decide +kernel
theorem dX10_disturbs_73 : decode cX10_disturbs 73 = .ok (.iload 4, 2) := by decide +kernel
theorem dX10_disturbs_75 : decode cX10_disturbs 75 = .ok (.ireturn, 1) := by decide +kernel
theorem dX10_disturbs_35 : decode cX10_disturbs 35 = .ok (.aload_n 3, 1) := by decide +kernel
theorem dX10_disturbs_36 : decode cX10_disturbs 36 = .ok (.iload 5, 2) := by decide +kernel
theorem dX10_disturbs_38 : decode cX10_disturbs 38 = .ok (.invokevirtual 195, 3) := by decide +kernel
theorem dX10_disturbs_41 : decode cX10_disturbs 41 = .ok (.istore 6, 2) := by decide +kernel
theorem dX10_disturbs_43 : decode cX10_disturbs 43 = .ok (.iload 6, 2) := by decide +kernel
theorem dX10_disturbs_45 : decode cX10_disturbs 45 = .ok (.iconst (-1), 1) := by decide +kernel
theorem dX10_disturbs_67 : decode cX10_disturbs 67 = .ok (.iinc 5 1, 3) := by decide +kernel
theorem dX10_disturbs_70 : decode cX10_disturbs 70 = .ok (.goto (-44), 3) := by decide +kernel
theorem dX10_disturbs_46 : decode cX10_disturbs 46 = .ok (.if_icmp .eq 21, 3) := by decide +kernel
theorem dX10_disturbs_49 : decode cX10_disturbs 49 = .ok (.iload 4, 2) := by decide +kernel
theorem dX10_disturbs_51 : decode cX10_disturbs 51 = .ok (.aload_n 0, 1) := by decide +kernel
theorem dX10_disturbs_52 : decode cX10_disturbs 52 = .ok (.getfield 31, 3) := by decide +kernel
theorem dX10_disturbs_55 : decode cX10_disturbs 55 = .ok (.getfield 98, 3) := by decide +kernel
theorem dX10_disturbs_58 : decode cX10_disturbs 58 = .ok (.getfield 198, 3) := by decide +kernel
theorem dX10_disturbs_61 : decode cX10_disturbs 61 = .ok (.iload 6, 2) := by decide +kernel
theorem dX10_disturbs_63 : decode cX10_disturbs 63 = .ok (.iaload, 1) := by decide +kernel
theorem dX10_disturbs_64 : decode cX10_disturbs 64 = .ok (.iadd, 1) := by decide +kernel
theorem dX10_disturbs_65 : decode cX10_disturbs 65 = .ok (.istore 4, 2) := by decide +kernel
theorem dX10_disturbs_11 : decode cX10_disturbs 11 = .ok (.iload_n 2, 1) := by decide +kernel
theorem dX10_disturbs_12 : decode cX10_disturbs 12 = .ok (.ireturn, 1) := by decide +kernel
theorem dX10_gain_0 : decode cX10_gain 0 = .ok (.aload_n 0, 1) := by decide +kernel
theorem dX10_gain_1 : decode cX10_gain 1 = .ok (.iload_n 1, 1) := by decide +kernel
theorem dX10_gain_2 : decode cX10_gain 2 = .ok (.iconst 1, 1) := by decide +kernel
theorem dX10_gain_3 : decode cX10_gain 3 = .ok (.invokevirtual 186, 3) := by decide +kernel
theorem dX10_gain_6 : decode cX10_gain 6 = .ok (.istore_n 2, 1) := by decide +kernel
theorem dX10_gain_7 : decode cX10_gain 7 = .ok (.iload_n 2, 1) := by decide +kernel
theorem dX10_gain_8 : decode cX10_gain 8 = .ok (.ifCond .eq 8, 3) := by decide +kernel
theorem dX10_gain_16 : decode cX10_gain 16 = .ok (.aload_n 0, 1) := by decide +kernel
theorem dX10_gain_17 : decode cX10_gain 17 = .ok (.aload_n 0, 1) := by decide +kernel
theorem dX10_gain_18 : decode cX10_gain 18 = .ok (.aload_n 0, 1) := by decide +kernel
theorem dX10_gain_19 : decode cX10_gain 19 = .ok (.getfield 41, 3) := by decide +kernel
theorem dX10_gain_22 : decode cX10_gain 22 = .ok (.iload_n 1, 1) := by decide +kernel
theorem dX10_gain_23 : decode cX10_gain 23 = .ok (.aaload, 1) := by decide +kernel
theorem dX10_gain_24 : decode cX10_gain 24 = .ok (.iconst 0, 1) := by decide +kernel
theorem dX10_gain_25 : decode cX10_gain 25 = .ok (.invokevirtual 190, 3) := by decide +kernel
theorem dX10_gain_28 : decode cX10_gain 28 = .ok (.aload_n 0, 1) := by decide +kernel
theorem dX10_gain_29 : decode cX10_gain 29 = .ok (.getfield 41, 3) := by decide +kernel
theorem dX10_gain_32 : decode cX10_gain 32 = .ok (.iload_n 1, 1) := by decide +kernel
theorem dX10_gain_33 : decode cX10_gain 33 = .ok (.aaload, 1) := by decide +kernel
theorem dX10_gain_34 : decode cX10_gain 34 = .ok (.getfield 194, 3) := by decide +kernel
theorem dX10_gain_37 : decode cX10_gain 37 = .ok (.invokevirtual 202, 3) := by decide +kernel
theorem dX10_gain_40 : decode cX10_gain 40 = .ok (.ireturn, 1) := by decide +kernel
theorem dX10_gain_11 : decode cX10_gain 11 = .ok (.iload_n 2, 1) := by decide +kernel
theorem dX10_gain_12 : decode cX10_gain 12 = .ok (.ldc 201, 2) := by decide +kernel
theorem dX10_gain_14 : decode cX10_gain 14 = .ok (.imul, 1) := by decide +kernel
theorem dX10_gain_15 : decode cX10_gain 15 = .ok (.ireturn, 1) := by decide +kernel
theorem dX10_stop_0 : decode cX10_stop 0 = .ok (.aload_n 0, 1) := by decide +kernel
theorem dX10_stop_1 : decode cX10_stop 1 = .ok (.iload_n 1, 1) := by decide +kernel
theorem dX10_stop_2 : decode cX10_stop 2 = .ok (.iconst 1, 1) := by decide +kernel
theorem dX10_stop_3 : decode cX10_stop 3 = .ok (.invokevirtual 186, 3) := by decide +kernel
theorem dX10_stop_6 : decode cX10_stop 6 = .ok (.istore_n 2, 1) := by decide +kernel
theorem dX10_stop_7 : decode cX10_stop 7 = .ok (.iload_n 2, 1) := by decide +kernel
theorem dX10_stop_8 : decode cX10_stop 8 = .ok (.ifCond .eq 5, 3) := by decide +kernel
theorem dX10_stop_13 : decode cX10_stop 13 = .ok (.aload_n 0, 1) := by decide +kernel
theorem dX10_stop_14 : decode cX10_stop 14 = .ok (.getfield 41, 3) := by decide +kernel
theorem dX10_stop_17 : decode cX10_stop 17 = .ok (.iload_n 1, 1) := by decide +kernel
theorem dX10_stop_18 : decode cX10_stop 18 = .ok (.aaload, 1) := by decide +kernel
theorem dX10_stop_19 : decode cX10_stop 19 = .ok (.astore_n 3, 1) := by decide +kernel
theorem dX10_stop_20 : decode cX10_stop 20 = .ok (.aload_n 0, 1) := by decide +kernel
theorem dX10_stop_21 : decode cX10_stop 21 = .ok (.getfield 52, 3) := by decide +kernel
theorem dX10_stop_24 : decode cX10_stop 24 = .ok (.aload_n 0, 1) := by decide +kernel
theorem dX10_stop_25 : decode cX10_stop 25 = .ok (.getfield 48, 3) := by decide +kernel
theorem dX10_stop_28 : decode cX10_stop 28 = .ok (.invokevirtual 179, 3) := by decide +kernel
theorem dX10_stop_31 : decode cX10_stop 31 = .ok (.iconst 0, 1) := by decide +kernel
theorem dX10_stop_32 : decode cX10_stop 32 = .ok (.istore 4, 2) := by decide +kernel
theorem dX10_stop_34 : decode cX10_stop 34 = .ok (.iconst 0, 1) := by decide +kernel
theorem dX10_stop_35 : decode cX10_stop 35 = .ok (.istore 5, 2) := by decide +kernel
theorem dX10_stop_37 : decode cX10_stop 37 = .ok (.iconst 0, 1) := by decide +kernel
theorem dX10_stop_38 : decode cX10_stop 38 = .ok (.istore 6, 2) := by decide +kernel
theorem dX10_stop_40 : decode cX10_stop 40 = .ok (.iload 6, 2) := by decide +kernel
theorem dX10_stop_42 : decode cX10_stop 42 = .ok (.aload_n 3, 1) := by decide +kernel
theorem dX10_stop_43 : decode cX10_stop 43 = .ok (.getfield 194, 3) := by decide +kernel
theorem dX10_stop_46 : decode cX10_stop 46 = .ok (.if_icmp .ge 73, 3) := by decide +kernel
theorem dX10_stop_119 : decode cX10_stop 119 = .ok (.iload 5, 2) := by decide +kernel
theorem dX10_stop_121 : decode cX10_stop 121 = .ok (.ireturn, 1) := by decide +kernel
theorem dX10_stop_49 : decode cX10_stop 49 = .ok (.aload_n 0, 1) := by decide +kernel
theorem dX10_stop_50 : decode cX10_stop 50 = .ok (.getfield 52, 3) := by decide +kernel
theorem dX10_stop_53 : decode cX10_stop 53 = .ok (.aload_n 0, 1) := by decide +kernel
theorem dX10_stop_54 : decode cX10_stop 54 = .ok (.getfield 31, 3) := by decide +kernel
theorem dX10_stop_57 : decode cX10_stop 57 = .ok (.getfield 98, 3) := by decide +kernel
theorem dX10_stop_60 : decode cX10_stop 60 = .ok (.aload_n 3, 1) := by decide +kernel
theorem dX10_stop_61 : decode cX10_stop 61 = .ok (.iload 6, 2) := by decide +kernel
theorem dX10_stop_63 : decode cX10_stop 63 = .ok (.invokevirtual 195, 3) := by decide +kernel
theorem dX10_stop_66 : decode cX10_stop 66 = .ok (.iconst 0, 1) := by decide +kernel
theorem dX10_stop_67 : decode cX10_stop 67 = .ok (.invokevirtual 175, 3) := by decide +kernel
theorem dX10_stop_70 : decode cX10_stop 70 = .ok (.pop, 1) := by decide +kernel
theorem dX10_stop_71 : decode cX10_stop 71 = .ok (.aload_n 0, 1) := by decide +kernel
theorem dX10_stop_72 : decode cX10_stop 72 = .ok (.aload_n 0, 1) := by decide +kernel
theorem dX10_stop_73 : decode cX10_stop 73 = .ok (.getfield 52, 3) := by decide +kernel
theorem dX10_stop_76 : decode cX10_stop 76 = .ok (.getfield 156, 3) := by decide +kernel
theorem dX10_stop_79 : decode cX10_stop 79 = .ok (.aload_n 0, 1) := by decide +kernel
theorem dX10_stop_80 : decode cX10_stop 80 = .ok (.getfield 48, 3) := by decide +kernel
theorem dX10_stop_83 : decode cX10_stop 83 = .ok (.getfield 156, 3) := by decide +kernel
theorem dX10_stop_86 : decode cX10_stop 86 = .ok (.isub, 1) := by decide +kernel
theorem dX10_stop_87 : decode cX10_stop 87 = .ok (.iload 6, 2) := by decide +kernel
theorem dX10_stop_89 : decode cX10_stop 89 = .ok (.iconst 1, 1) := by decide +kernel
theorem dX10_stop_90 : decode cX10_stop 90 = .ok (.iadd, 1) := by decide +kernel
theorem dX10_stop_91 : decode cX10_stop 91 = .ok (.invokevirtual 202, 3) := by decide +kernel
theorem dX10_stop_94 : decode cX10_stop 94 = .ok (.istore 7, 2) := by decide +kernel
theorem dX10_stop_96 : decode cX10_stop 96 = .ok (.iload 7, 2) := by decide +kernel
theorem dX10_stop_98 : decode cX10_stop 98 = .ok (.iload 4, 2) := by decide +kernel
theorem dX10_stop_113 : decode cX10_stop 113 = .ok (.iinc 6 1, 3) := by decide +kernel
theorem dX10_stop_116 : decode cX10_stop 116 = .ok (.goto (-76), 3) := by decide +kernel
theorem dX10_stop_100 : decode cX10_stop 100 = .ok (.if_icmp .le 13, 3) := by decide +kernel
theorem dX10_stop_103 : decode cX10_stop 103 = .ok (.iload 7, 2) := by decide +kernel
theorem dX10_stop_105 : decode cX10_stop 105 = .ok (.istore 4, 2) := by decide +kernel
theorem dX10_stop_107 : decode cX10_stop 107 = .ok (.iload 6, 2) := by decide +kernel
theorem dX10_stop_109 : decode cX10_stop 109 = .ok (.iconst 1, 1) := by decide +kernel
theorem dX10_stop_110 : decode cX10_stop 110 = .ok (.iadd, 1) := by decide +kernel
theorem dX10_stop_111 : decode cX10_stop 111 = .ok (.istore 5, 2) := by decide +kernel
theorem dX10_stop_11 : decode cX10_stop 11 = .ok (.iload_n 2, 1) := by decide +kernel
theorem dX10_stop_12 : decode cX10_stop 12 = .ok (.ireturn, 1) := by decide +kernel
theorem dX10_penny_0 : decode cX10_penny 0 = .ok (.aload_n 0, 1) := by decide +kernel
theorem dX10_penny_1 : decode cX10_penny 1 = .ok (.iload_n 1, 1) := by decide +kernel
theorem dX10_penny_2 : decode cX10_penny 2 = .ok (.iconst 1, 1) := by decide +kernel
theorem dX10_penny_3 : decode cX10_penny 3 = .ok (.invokevirtual 186, 3) := by decide +kernel
theorem dX10_penny_6 : decode cX10_penny 6 = .ok (.istore_n 2, 1) := by decide +kernel
theorem dX10_penny_7 : decode cX10_penny 7 = .ok (.iload_n 2, 1) := by decide +kernel
theorem dX10_penny_8 : decode cX10_penny 8 = .ok (.ifCond .eq 5, 3) := by decide +kernel
theorem dX10_penny_13 : decode cX10_penny 13 = .ok (.aload_n 0, 1) := by decide +kernel
theorem dX10_penny_14 : decode cX10_penny 14 = .ok (.getfield 41, 3) := by decide +kernel
theorem dX10_penny_17 : decode cX10_penny 17 = .ok (.iload_n 1, 1) := by decide +kernel
theorem dX10_penny_18 : decode cX10_penny 18 = .ok (.aaload, 1) := by decide +kernel
theorem dX10_penny_19 : decode cX10_penny 19 = .ok (.astore_n 3, 1) := by decide +kernel
theorem dX10_penny_20 : decode cX10_penny 20 = .ok (.aload_n 3, 1) := by decide +kernel
theorem dX10_penny_21 : decode cX10_penny 21 = .ok (.invokevirtual 212, 3) := by decide +kernel
theorem dX10_penny_24 : decode cX10_penny 24 = .ok (.istore 4, 2) := by decide +kernel
theorem dX10_penny_26 : decode cX10_penny 26 = .ok (.iconst 0, 1) := by decide +kernel
theorem dX10_penny_27 : decode cX10_penny 27 = .ok (.istore 5, 2) := by decide +kernel
theorem dX10_penny_29 : decode cX10_penny 29 = .ok (.iconst 0, 1) := by decide +kernel
theorem dX10_penny_30 : decode cX10_penny 30 = .ok (.istore 6, 2) := by decide +kernel
theorem dX10_penny_32 : decode cX10_penny 32 = .ok (.iconst 0, 1) := by decide +kernel
theorem dX10_penny_33 : decode cX10_penny 33 = .ok (.istore 7, 2) := by decide +kernel
theorem dX10_penny_35 : decode cX10_penny 35 = .ok (.iload 7, 2) := by decide +kernel
theorem dX10_penny_37 : decode cX10_penny 37 = .ok (.bipush 9, 2) := by decide +kernel
theorem dX10_penny_39 : decode cX10_penny 39 = .ok (.if_icmp .gt 52, 3) := by decide +kernel
theorem dX10_penny_91 : decode cX10_penny 91 = .ok (.iload 5, 2) := by decide +kernel
theorem dX10_penny_93 : decode cX10_penny 93 = .ok (.ireturn, 1) := by decide +kernel
theorem dX10_penny_42 : decode cX10_penny 42 = .ok (.aload_n 0, 1) := by decide +kernel
theorem dX10_penny_43 : decode cX10_penny 43 = .ok (.aload_n 0, 1) := by decide +kernel
theorem dX10_penny_44 : decode cX10_penny 44 = .ok (.aload_n 3, 1) := by decide +kernel
theorem dX10_penny_45 : decode cX10_penny 45 = .ok (.iload 7, 2) := by decide +kernel
theorem dX10_penny_47 : decode cX10_penny 47 = .ok (.invokevirtual 190, 3) := by decide +kernel
theorem dX10_penny_50 : decode cX10_penny 50 = .ok (.aload_n 3, 1) := by decide +kernel
theorem dX10_penny_51 : decode cX10_penny 51 = .ok (.getfield 194, 3) := by decide +kernel
theorem dX10_penny_54 : decode cX10_penny 54 = .ok (.invokevirtual 202, 3) := by decide +kernel
theorem dX10_penny_57 : decode cX10_penny 57 = .ok (.iload 7, 2) := by decide +kernel
theorem dX10_penny_59 : decode cX10_penny 59 = .ok (.iload 4, 2) := by decide +kernel
theorem dX10_penny_61 : decode cX10_penny 61 = .ok (.imul, 1) := by decide +kernel
theorem dX10_penny_62 : decode cX10_penny 62 = .ok (.isub, 1) := by decide +kernel
theorem dX10_penny_63 : decode cX10_penny 63 = .ok (.istore 8, 2) := by decide +kernel
theorem dX10_penny_65 : decode cX10_penny 65 = .ok (.iload 7, 2) := by decide +kernel
theorem dX10_penny_85 : decode cX10_penny 85 = .ok (.iinc 7 1, 3) := by decide +kernel
theorem dX10_penny_88 : decode cX10_penny 88 = .ok (.goto (-53), 3) := by decide +kernel
theorem dX10_penny_77 : decode cX10_penny 77 = .ok (.iload 8, 2) := by decide +kernel
theorem dX10_penny_79 : decode cX10_penny 79 = .ok (.istore 6, 2) := by decide +kernel
theorem dX10_penny_81 : decode cX10_penny 81 = .ok (.iload 7, 2) := by decide +kernel
theorem dX10_penny_83 : decode cX10_penny 83 = .ok (.istore 5, 2) := by decide +kernel
theorem dX10_penny_67 : decode cX10_penny 67 = .ok (.ifCond .eq 10, 3) := by decide +kernel
theorem dX10_penny_70 : decode cX10_penny 70 = .ok (.iload 8, 2) := by decide +kernel
theorem dX10_penny_72 : decode cX10_penny 72 = .ok (.iload 6, 2) := by decide +kernel
theorem dX10_penny_74 : decode cX10_penny 74 = .ok (.if_icmp .le 11, 3) := by decide +kernel
theorem dX10_penny_11 : decode cX10_penny 11 = .ok (.iload_n 2, 1) := by decide +kernel
theorem dX10_penny_12 : decode cX10_penny 12 = .ok (.ireturn, 1) := by decide +kernel
theorem dX10_hangs_0 : decode cX10_hangs 0 = .ok (.aload_n 0, 1) := by decide +kernel
theorem dX10_hangs_1 : decode cX10_hangs 1 = .ok (.iload_n 1, 1) := by decide +kernel
theorem dX10_hangs_2 : decode cX10_hangs 2 = .ok (.iconst 1, 1) := by decide +kernel
theorem dX10_hangs_3 : decode cX10_hangs 3 = .ok (.invokevirtual 186, 3) := by decide +kernel
theorem dX10_hangs_6 : decode cX10_hangs 6 = .ok (.istore_n 2, 1) := by decide +kernel
theorem dX10_hangs_7 : decode cX10_hangs 7 = .ok (.iload_n 2, 1) := by decide +kernel
theorem dX10_hangs_8 : decode cX10_hangs 8 = .ok (.ifCond .eq 5, 3) := by decide +kernel
theorem dX10_hangs_13 : decode cX10_hangs 13 = .ok (.aload_n 0, 1) := by decide +kernel
theorem dX10_hangs_14 : decode cX10_hangs 14 = .ok (.getfield 41, 3) := by decide +kernel
theorem dX10_hangs_17 : decode cX10_hangs 17 = .ok (.iload_n 1, 1) := by decide +kernel
theorem dX10_hangs_18 : decode cX10_hangs 18 = .ok (.aaload, 1) := by decide +kernel
theorem dX10_hangs_19 : decode cX10_hangs 19 = .ok (.astore_n 3, 1) := by decide +kernel
theorem dX10_hangs_20 : decode cX10_hangs 20 = .ok (.aload_n 0, 1) := by decide +kernel
theorem dX10_hangs_21 : decode cX10_hangs 21 = .ok (.getfield 52, 3) := by decide +kernel
theorem dX10_hangs_24 : decode cX10_hangs 24 = .ok (.aload_n 0, 1) := by decide +kernel
theorem dX10_hangs_25 : decode cX10_hangs 25 = .ok (.getfield 48, 3) := by decide +kernel
theorem dX10_hangs_28 : decode cX10_hangs 28 = .ok (.invokevirtual 179, 3) := by decide +kernel
theorem dX10_hangs_31 : decode cX10_hangs 31 = .ok (.iconst 0, 1) := by decide +kernel
theorem dX10_hangs_32 : decode cX10_hangs 32 = .ok (.istore 4, 2) := by decide +kernel
theorem dX10_hangs_34 : decode cX10_hangs 34 = .ok (.iload 4, 2) := by decide +kernel
theorem dX10_hangs_36 : decode cX10_hangs 36 = .ok (.aload_n 3, 1) := by decide +kernel
theorem dX10_hangs_37 : decode cX10_hangs 37 = .ok (.getfield 194, 3) := by decide +kernel
theorem dX10_hangs_40 : decode cX10_hangs 40 = .ok (.if_icmp .ge 54, 3) := by decide +kernel
theorem dX10_hangs_94 : decode cX10_hangs 94 = .ok (.iconst (-1), 1) := by decide +kernel
theorem dX10_hangs_95 : decode cX10_hangs 95 = .ok (.ireturn, 1) := by decide +kernel
theorem dX10_hangs_43 : decode cX10_hangs 43 = .ok (.aload_n 0, 1) := by decide +kernel
theorem dX10_hangs_44 : decode cX10_hangs 44 = .ok (.getfield 52, 3) := by decide +kernel
theorem dX10_hangs_47 : decode cX10_hangs 47 = .ok (.aload_n 0, 1) := by decide +kernel
theorem dX10_hangs_48 : decode cX10_hangs 48 = .ok (.getfield 31, 3) := by decide +kernel
theorem dX10_hangs_51 : decode cX10_hangs 51 = .ok (.getfield 98, 3) := by decide +kernel
theorem dX10_hangs_54 : decode cX10_hangs 54 = .ok (.aload_n 3, 1) := by decide +kernel
theorem dX10_hangs_55 : decode cX10_hangs 55 = .ok (.iload 4, 2) := by decide +kernel
theorem dX10_hangs_57 : decode cX10_hangs 57 = .ok (.invokevirtual 195, 3) := by decide +kernel
theorem dX10_hangs_60 : decode cX10_hangs 60 = .ok (.iconst 0, 1) := by decide +kernel
theorem dX10_hangs_61 : decode cX10_hangs 61 = .ok (.invokevirtual 175, 3) := by decide +kernel
theorem dX10_hangs_64 : decode cX10_hangs 64 = .ok (.istore 5, 2) := by decide +kernel
theorem dX10_hangs_66 : decode cX10_hangs 66 = .ok (.aload_n 0, 1) := by decide +kernel
theorem dX10_hangs_67 : decode cX10_hangs 67 = .ok (.iload 5, 2) := by decide +kernel
theorem dX10_hangs_69 : decode cX10_hangs 69 = .ok (.invokevirtual 232, 3) := by decide +kernel
theorem dX10_hangs_72 : decode cX10_hangs 72 = .ok (.aload_n 0, 1) := by decide +kernel
theorem dX10_hangs_73 : decode cX10_hangs 73 = .ok (.getfield 31, 3) := by decide +kernel
theorem dX10_hangs_76 : decode cX10_hangs 76 = .ok (.getfield 98, 3) := by decide +kernel
theorem dX10_hangs_79 : decode cX10_hangs 79 = .ok (.getfield 235, 3) := by decide +kernel
theorem dX10_hangs_82 : decode cX10_hangs 82 = .ok (.if_icmp .ge 6, 3) := by decide +kernel
theorem dX10_hangs_88 : decode cX10_hangs 88 = .ok (.iinc 4 1, 3) := by decide +kernel
theorem dX10_hangs_91 : decode cX10_hangs 91 = .ok (.goto (-57), 3) := by decide +kernel
theorem dX10_hangs_85 : decode cX10_hangs 85 = .ok (.iload 4, 2) := by decide +kernel
theorem dX10_hangs_87 : decode cX10_hangs 87 = .ok (.ireturn, 1) := by decide +kernel
theorem dX10_hangs_11 : decode cX10_hangs 11 = .ok (.iload_n 2, 1) := by decide +kernel
theorem dX10_hangs_12 : decode cX10_hangs 12 = .ok (.ireturn, 1) := by decide +kernel
theorem dX10_habit_0 : decode cX10_habit 0 = .ok (.aload_n 0, 1) := by decide +kernel
theorem dX10_habit_1 : decode cX10_habit 1 = .ok (.iload_n 1, 1) := by decide +kernel
theorem dX10_habit_2 : decode cX10_habit 2 = .ok (.iconst 1, 1) := by decide +kernel
theorem dX10_habit_3 : decode cX10_habit 3 = .ok (.invokevirtual 299, 3) := by decide +kernel
theorem dX10_habit_6 : decode cX10_habit 6 = .ok (.istore_n 2, 1) := by decide +kernel
theorem dX10_habit_7 : decode cX10_habit 7 = .ok (.iload_n 2, 1) := by decide +kernel
theorem dX10_habit_8 : decode cX10_habit 8 = .ok (.ifCond .eq 5, 3) := by decide +kernel
theorem dX10_habit_13 : decode cX10_habit 13 = .ok (.aload_n 0, 1) := by decide +kernel
theorem dX10_habit_14 : decode cX10_habit 14 = .ok (.aload_n 0, 1) := by decide +kernel
theorem dX10_habit_15 : decode cX10_habit 15 = .ok (.getfield 41, 3) := by decide +kernel
theorem dX10_habit_18 : decode cX10_habit 18 = .ok (.iload_n 1, 1) := by decide +kernel
theorem dX10_habit_19 : decode cX10_habit 19 = .ok (.aaload, 1) := by decide +kernel
theorem dX10_habit_20 : decode cX10_habit 20 = .ok (.iconst (-1), 1) := by decide +kernel
theorem dX10_habit_21 : decode cX10_habit 21 = .ok (.invokevirtual 302, 3) := by decide +kernel
theorem dX10_habit_24 : decode cX10_habit 24 = .ok (.ireturn, 1) := by decide +kernel
theorem dX10_habit_11 : decode cX10_habit 11 = .ok (.iload_n 2, 1) := by decide +kernel
theorem dX10_habit_12 : decode cX10_habit 12 = .ok (.ireturn, 1) := by decide +kernel
theorem dX10_period_0 : decode cX10_period 0 = .ok (.aload_n 0, 1) := by decide +kernel
theorem dX10_period_1 : decode cX10_period 1 = .ok (.iload_n 1, 1) := by decide +kernel
theorem dX10_period_2 : decode cX10_period 2 = .ok (.iconst 1, 1) := by decide +kernel
theorem dX10_period_3 : decode cX10_period 3 = .ok (.invokevirtual 299, 3) := by decide +kernel
theorem dX10_period_6 : decode cX10_period 6 = .ok (.istore_n 2, 1) := by decide +kernel
theorem dX10_period_7 : decode cX10_period 7 = .ok (.iload_n 2, 1) := by decide +kernel
theorem dX10_period_8 : decode cX10_period 8 = .ok (.ifCond .eq 5, 3) := by decide +kernel
theorem dX10_period_13 : decode cX10_period 13 = .ok (.aload_n 0, 1) := by decide +kernel
theorem dX10_period_14 : decode cX10_period 14 = .ok (.getfield 41, 3) := by decide +kernel
theorem dX10_period_17 : decode cX10_period 17 = .ok (.iload_n 1, 1) := by decide +kernel
theorem dX10_period_18 : decode cX10_period 18 = .ok (.aaload, 1) := by decide +kernel
theorem dX10_period_19 : decode cX10_period 19 = .ok (.astore_n 3, 1) := by decide +kernel
theorem dX10_period_20 : decode cX10_period 20 = .ok (.iconst 1, 1) := by decide +kernel
theorem dX10_period_21 : decode cX10_period 21 = .ok (.istore 4, 2) := by decide +kernel
theorem dX10_period_23 : decode cX10_period 23 = .ok (.iload 4, 2) := by decide +kernel
theorem dX10_period_25 : decode cX10_period 25 = .ok (.aload_n 3, 1) := by decide +kernel
theorem dX10_period_26 : decode cX10_period 26 = .ok (.getfield 194, 3) := by decide +kernel
theorem dX10_period_29 : decode cX10_period 29 = .ok (.if_icmp .gt 21, 3) := by decide +kernel
theorem dX10_period_50 : decode cX10_period 50 = .ok (.iconst (-1), 1) := by decide +kernel
theorem dX10_period_51 : decode cX10_period 51 = .ok (.ireturn, 1) := by decide +kernel
theorem dX10_period_32 : decode cX10_period 32 = .ok (.aload_n 3, 1) := by decide +kernel
theorem dX10_period_33 : decode cX10_period 33 = .ok (.iload 4, 2) := by decide +kernel
theorem dX10_period_35 : decode cX10_period 35 = .ok (.invokevirtual 305, 3) := by decide +kernel
theorem dX10_period_38 : decode cX10_period 38 = .ok (.ifCond .eq 6, 3) := by decide +kernel
theorem dX10_period_44 : decode cX10_period 44 = .ok (.iinc 4 1, 3) := by decide +kernel
theorem dX10_period_47 : decode cX10_period 47 = .ok (.goto (-24), 3) := by decide +kernel
theorem dX10_period_41 : decode cX10_period 41 = .ok (.iload 4, 2) := by decide +kernel
theorem dX10_period_43 : decode cX10_period 43 = .ok (.ireturn, 1) := by decide +kernel
theorem dX10_period_11 : decode cX10_period 11 = .ok (.iload_n 2, 1) := by decide +kernel
theorem dX10_period_12 : decode cX10_period 12 = .ok (.ireturn, 1) := by decide +kernel
theorem dX10_behind_0 : decode cX10_behind 0 = .ok (.aload_n 0, 1) := by decide +kernel
theorem dX10_behind_1 : decode cX10_behind 1 = .ok (.iload_n 1, 1) := by decide +kernel
theorem dX10_behind_2 : decode cX10_behind 2 = .ok (.aload_n 0, 1) := by decide +kernel
theorem dX10_behind_3 : decode cX10_behind 3 = .ok (.iload_n 2, 1) := by decide +kernel
theorem dX10_behind_4 : decode cX10_behind 4 = .ok (.invokevirtual 120, 3) := by decide +kernel
theorem dX10_behind_7 : decode cX10_behind 7 = .ok (.invokevirtual 186, 3) := by decide +kernel
theorem dX10_behind_10 : decode cX10_behind 10 = .ok (.istore_n 3, 1) := by decide +kernel
theorem dX10_behind_11 : decode cX10_behind 11 = .ok (.iload_n 3, 1) := by decide +kernel
theorem dX10_behind_12 : decode cX10_behind 12 = .ok (.ifCond .eq 5, 3) := by decide +kernel
theorem dX10_behind_17 : decode cX10_behind 17 = .ok (.aload_n 0, 1) := by decide +kernel
theorem dX10_behind_18 : decode cX10_behind 18 = .ok (.aload_n 0, 1) := by decide +kernel
theorem dX10_behind_19 : decode cX10_behind 19 = .ok (.getfield 41, 3) := by decide +kernel
theorem dX10_behind_22 : decode cX10_behind 22 = .ok (.iload_n 1, 1) := by decide +kernel
theorem dX10_behind_23 : decode cX10_behind 23 = .ok (.aaload, 1) := by decide +kernel
theorem dX10_behind_24 : decode cX10_behind 24 = .ok (.iconst 0, 1) := by decide +kernel
theorem dX10_behind_25 : decode cX10_behind 25 = .ok (.invokevirtual 190, 3) := by decide +kernel
theorem dX10_behind_28 : decode cX10_behind 28 = .ok (.pop, 1) := by decide +kernel
theorem dX10_behind_29 : decode cX10_behind 29 = .ok (.aload_n 0, 1) := by decide +kernel
theorem dX10_behind_30 : decode cX10_behind 30 = .ok (.getfield 52, 3) := by decide +kernel
theorem dX10_behind_33 : decode cX10_behind 33 = .ok (.iload_n 2, 1) := by decide +kernel
theorem dX10_behind_34 : decode cX10_behind 34 = .ok (.invokevirtual 148, 3) := by decide +kernel
theorem dX10_behind_37 : decode cX10_behind 37 = .ok (.ireturn, 1) := by decide +kernel
theorem dX10_behind_15 : decode cX10_behind 15 = .ok (.iload_n 3, 1) := by decide +kernel
theorem dX10_behind_16 : decode cX10_behind 16 = .ok (.ireturn, 1) := by decide +kernel
theorem dX10_doubt_0 : decode cX10_doubt 0 = .ok (.aload_n 0, 1) := by decide +kernel
theorem dX10_doubt_1 : decode cX10_doubt 1 = .ok (.iload_n 1, 1) := by decide +kernel
theorem dX10_doubt_2 : decode cX10_doubt 2 = .ok (.aload_n 0, 1) := by decide +kernel
theorem dX10_doubt_3 : decode cX10_doubt 3 = .ok (.iload_n 2, 1) := by decide +kernel
theorem dX10_doubt_4 : decode cX10_doubt 4 = .ok (.invokevirtual 205, 3) := by decide +kernel
theorem dX10_doubt_7 : decode cX10_doubt 7 = .ok (.invokevirtual 186, 3) := by decide +kernel
theorem dX10_doubt_10 : decode cX10_doubt 10 = .ok (.istore_n 3, 1) := by decide +kernel
theorem dX10_doubt_11 : decode cX10_doubt 11 = .ok (.iload_n 3, 1) := by decide +kernel
theorem dX10_doubt_12 : decode cX10_doubt 12 = .ok (.ifCond .eq 5, 3) := by decide +kernel
theorem dX10_doubt_17 : decode cX10_doubt 17 = .ok (.aload_n 0, 1) := by decide +kernel
theorem dX10_doubt_18 : decode cX10_doubt 18 = .ok (.getfield 41, 3) := by decide +kernel
theorem dX10_doubt_21 : decode cX10_doubt 21 = .ok (.iload_n 1, 1) := by decide +kernel
theorem dX10_doubt_22 : decode cX10_doubt 22 = .ok (.aaload, 1) := by decide +kernel
theorem dX10_doubt_23 : decode cX10_doubt 23 = .ok (.astore 4, 2) := by decide +kernel
theorem dX10_doubt_25 : decode cX10_doubt 25 = .ok (.aload_n 0, 1) := by decide +kernel
theorem dX10_doubt_26 : decode cX10_doubt 26 = .ok (.getfield 52, 3) := by decide +kernel
theorem dX10_doubt_29 : decode cX10_doubt 29 = .ok (.aload_n 0, 1) := by decide +kernel
theorem dX10_doubt_30 : decode cX10_doubt 30 = .ok (.getfield 48, 3) := by decide +kernel
theorem dX10_doubt_33 : decode cX10_doubt 33 = .ok (.invokevirtual 179, 3) := by decide +kernel
theorem dX10_doubt_36 : decode cX10_doubt 36 = .ok (.iconst 0, 1) := by decide +kernel
theorem dX10_doubt_37 : decode cX10_doubt 37 = .ok (.istore 5, 2) := by decide +kernel
theorem dX10_doubt_39 : decode cX10_doubt 39 = .ok (.iload 5, 2) := by decide +kernel
theorem dX10_doubt_41 : decode cX10_doubt 41 = .ok (.aload 4, 2) := by decide +kernel
theorem dX10_doubt_43 : decode cX10_doubt 43 = .ok (.getfield 194, 3) := by decide +kernel
theorem dX10_doubt_46 : decode cX10_doubt 46 = .ok (.if_icmp .ge 46, 3) := by decide +kernel
theorem dX10_doubt_92 : decode cX10_doubt 92 = .ok (.iconst (-1), 1) := by decide +kernel
theorem dX10_doubt_93 : decode cX10_doubt 93 = .ok (.ireturn, 1) := by decide +kernel
theorem dX10_doubt_49 : decode cX10_doubt 49 = .ok (.aload_n 0, 1) := by decide +kernel
theorem dX10_doubt_50 : decode cX10_doubt 50 = .ok (.getfield 52, 3) := by decide +kernel
theorem dX10_doubt_53 : decode cX10_doubt 53 = .ok (.invokevirtual 165, 3) := by decide +kernel
theorem dX10_doubt_56 : decode cX10_doubt 56 = .ok (.iload_n 2, 1) := by decide +kernel
theorem dX10_doubt_57 : decode cX10_doubt 57 = .ok (.if_icmp .ge 6, 3) := by decide +kernel
theorem dX10_doubt_63 : decode cX10_doubt 63 = .ok (.aload_n 0, 1) := by decide +kernel
theorem dX10_doubt_64 : decode cX10_doubt 64 = .ok (.getfield 52, 3) := by decide +kernel
theorem dX10_doubt_67 : decode cX10_doubt 67 = .ok (.aload_n 0, 1) := by decide +kernel
theorem dX10_doubt_68 : decode cX10_doubt 68 = .ok (.getfield 31, 3) := by decide +kernel
theorem dX10_doubt_71 : decode cX10_doubt 71 = .ok (.getfield 98, 3) := by decide +kernel
theorem dX10_doubt_74 : decode cX10_doubt 74 = .ok (.aload 4, 2) := by decide +kernel
theorem dX10_doubt_76 : decode cX10_doubt 76 = .ok (.iload 5, 2) := by decide +kernel
theorem dX10_doubt_78 : decode cX10_doubt 78 = .ok (.invokevirtual 195, 3) := by decide +kernel
theorem dX10_doubt_81 : decode cX10_doubt 81 = .ok (.iconst 0, 1) := by decide +kernel
theorem dX10_doubt_82 : decode cX10_doubt 82 = .ok (.invokevirtual 175, 3) := by decide +kernel
theorem dX10_doubt_85 : decode cX10_doubt 85 = .ok (.pop, 1) := by decide +kernel
theorem dX10_doubt_86 : decode cX10_doubt 86 = .ok (.iinc 5 1, 3) := by decide +kernel
theorem dX10_doubt_89 : decode cX10_doubt 89 = .ok (.goto (-50), 3) := by decide +kernel
theorem dX10_doubt_60 : decode cX10_doubt 60 = .ok (.iload 5, 2) := by decide +kernel
theorem dX10_doubt_62 : decode cX10_doubt 62 = .ok (.ireturn, 1) := by decide +kernel
theorem dX10_doubt_15 : decode cX10_doubt 15 = .ok (.iload_n 3, 1) := by decide +kernel
theorem dX10_doubt_16 : decode cX10_doubt 16 = .ok (.ireturn, 1) := by decide +kernel
theorem dX10_walks_0 : decode cX10_walks 0 = .ok (.aload_n 0, 1) := by decide +kernel
theorem dX10_walks_1 : decode cX10_walks 1 = .ok (.iload_n 1, 1) := by decide +kernel
theorem dX10_walks_2 : decode cX10_walks 2 = .ok (.aload_n 0, 1) := by decide +kernel
theorem dX10_walks_3 : decode cX10_walks 3 = .ok (.iload_n 2, 1) := by decide +kernel
theorem dX10_walks_4 : decode cX10_walks 4 = .ok (.invokevirtual 120, 3) := by decide +kernel
theorem dX10_walks_7 : decode cX10_walks 7 = .ok (.invokevirtual 186, 3) := by decide +kernel
theorem dX10_walks_10 : decode cX10_walks 10 = .ok (.istore_n 3, 1) := by decide +kernel
theorem dX10_walks_11 : decode cX10_walks 11 = .ok (.iload_n 3, 1) := by decide +kernel
theorem dX10_walks_12 : decode cX10_walks 12 = .ok (.ifCond .eq 5, 3) := by decide +kernel
theorem dX10_walks_17 : decode cX10_walks 17 = .ok (.aload_n 0, 1) := by decide +kernel
theorem dX10_walks_18 : decode cX10_walks 18 = .ok (.aload_n 0, 1) := by decide +kernel
theorem dX10_walks_19 : decode cX10_walks 19 = .ok (.getfield 41, 3) := by decide +kernel
theorem dX10_walks_22 : decode cX10_walks 22 = .ok (.iload_n 1, 1) := by decide +kernel
theorem dX10_walks_23 : decode cX10_walks 23 = .ok (.aaload, 1) := by decide +kernel
theorem dX10_walks_24 : decode cX10_walks 24 = .ok (.iload_n 2, 1) := by decide +kernel
theorem dX10_walks_25 : decode cX10_walks 25 = .ok (.invokevirtual 208, 3) := by decide +kernel
theorem dX10_walks_28 : decode cX10_walks 28 = .ok (.ifCond .eq 7, 3) := by decide +kernel
theorem dX10_walks_35 : decode cX10_walks 35 = .ok (.iconst 0, 1) := by decide +kernel
theorem dX10_walks_36 : decode cX10_walks 36 = .ok (.ireturn, 1) := by decide +kernel
theorem dX10_walks_31 : decode cX10_walks 31 = .ok (.iconst 1, 1) := by decide +kernel
theorem dX10_walks_32 : decode cX10_walks 32 = .ok (.goto 4, 3) := by decide +kernel
theorem dX10_walks_15 : decode cX10_walks 15 = .ok (.iload_n 3, 1) := by decide +kernel
theorem dX10_walks_16 : decode cX10_walks 16 = .ok (.ireturn, 1) := by decide +kernel
theorem dX10_slips_0 : decode cX10_slips 0 = .ok (.aload_n 0, 1) := by decide +kernel
theorem dX10_slips_1 : decode cX10_slips 1 = .ok (.iload_n 1, 1) := by decide +kernel
theorem dX10_slips_2 : decode cX10_slips 2 = .ok (.aload_n 0, 1) := by decide +kernel
theorem dX10_slips_3 : decode cX10_slips 3 = .ok (.iload_n 2, 1) := by decide +kernel
theorem dX10_slips_4 : decode cX10_slips 4 = .ok (.invokevirtual 120, 3) := by decide +kernel
theorem dX10_slips_7 : decode cX10_slips 7 = .ok (.invokevirtual 186, 3) := by decide +kernel
theorem dX10_slips_10 : decode cX10_slips 10 = .ok (.istore_n 3, 1) := by decide +kernel
theorem dX10_slips_11 : decode cX10_slips 11 = .ok (.iload_n 3, 1) := by decide +kernel
theorem dX10_slips_12 : decode cX10_slips 12 = .ok (.ifCond .eq 5, 3) := by decide +kernel
theorem dX10_slips_17 : decode cX10_slips 17 = .ok (.aload_n 0, 1) := by decide +kernel
theorem dX10_slips_18 : decode cX10_slips 18 = .ok (.getfield 41, 3) := by decide +kernel
theorem dX10_slips_21 : decode cX10_slips 21 = .ok (.iload_n 1, 1) := by decide +kernel
theorem dX10_slips_22 : decode cX10_slips 22 = .ok (.aaload, 1) := by decide +kernel
theorem dX10_slips_23 : decode cX10_slips 23 = .ok (.astore 4, 2) := by decide +kernel
theorem dX10_slips_25 : decode cX10_slips 25 = .ok (.aload_n 0, 1) := by decide +kernel
theorem dX10_slips_26 : decode cX10_slips 26 = .ok (.aload 4, 2) := by decide +kernel
theorem dX10_slips_28 : decode cX10_slips 28 = .ok (.iload_n 2, 1) := by decide +kernel
theorem dX10_slips_29 : decode cX10_slips 29 = .ok (.invokevirtual 208, 3) := by decide +kernel
theorem dX10_slips_32 : decode cX10_slips 32 = .ok (.ifCond .ne 6, 3) := by decide +kernel
theorem dX10_slips_38 : decode cX10_slips 38 = .ok (.iload_n 2, 1) := by decide +kernel
theorem dX10_slips_39 : decode cX10_slips 39 = .ok (.istore 5, 2) := by decide +kernel
theorem dX10_slips_41 : decode cX10_slips 41 = .ok (.aload_n 0, 1) := by decide +kernel
theorem dX10_slips_42 : decode cX10_slips 42 = .ok (.getfield 31, 3) := by decide +kernel
theorem dX10_slips_45 : decode cX10_slips 45 = .ok (.getfield 98, 3) := by decide +kernel
theorem dX10_slips_48 : decode cX10_slips 48 = .ok (.invokevirtual 238, 3) := by decide +kernel
theorem dX10_slips_51 : decode cX10_slips 51 = .ok (.iconst 1, 1) := by decide +kernel
theorem dX10_slips_52 : decode cX10_slips 52 = .ok (.iload 5, 2) := by decide +kernel
theorem dX10_slips_54 : decode cX10_slips 54 = .ok (.ishl, 1) := by decide +kernel
theorem dX10_slips_55 : decode cX10_slips 55 = .ok (.iconst (-1), 1) := by decide +kernel
theorem dX10_slips_56 : decode cX10_slips 56 = .ok (.ixor, 1) := by decide +kernel
theorem dX10_slips_57 : decode cX10_slips 57 = .ok (.iand, 1) := by decide +kernel
theorem dX10_slips_58 : decode cX10_slips 58 = .ok (.istore 6, 2) := by decide +kernel
theorem dX10_slips_60 : decode cX10_slips 60 = .ok (.iconst 0, 1) := by decide +kernel
theorem dX10_slips_61 : decode cX10_slips 61 = .ok (.istore 7, 2) := by decide +kernel
theorem dX10_slips_63 : decode cX10_slips 63 = .ok (.iload 7, 2) := by decide +kernel
theorem dX10_slips_65 : decode cX10_slips 65 = .ok (.aload 4, 2) := by decide +kernel
theorem dX10_slips_67 : decode cX10_slips 67 = .ok (.getfield 194, 3) := by decide +kernel
theorem dX10_slips_70 : decode cX10_slips 70 = .ok (.if_icmp .ge 49, 3) := by decide +kernel
theorem dX10_slips_119 : decode cX10_slips 119 = .ok (.iload 6, 2) := by decide +kernel
theorem dX10_slips_121 : decode cX10_slips 121 = .ok (.ireturn, 1) := by decide +kernel
theorem dX10_slips_73 : decode cX10_slips 73 = .ok (.aload 4, 2) := by decide +kernel
theorem dX10_slips_75 : decode cX10_slips 75 = .ok (.iload 7, 2) := by decide +kernel
theorem dX10_slips_77 : decode cX10_slips 77 = .ok (.invokevirtual 195, 3) := by decide +kernel
theorem dX10_slips_80 : decode cX10_slips 80 = .ok (.istore 8, 2) := by decide +kernel
theorem dX10_slips_82 : decode cX10_slips 82 = .ok (.iload 8, 2) := by decide +kernel
theorem dX10_slips_84 : decode cX10_slips 84 = .ok (.iconst (-1), 1) := by decide +kernel
theorem dX10_slips_92 : decode cX10_slips 92 = .ok (.aload_n 0, 1) := by decide +kernel
theorem dX10_slips_93 : decode cX10_slips 93 = .ok (.getfield 31, 3) := by decide +kernel
theorem dX10_slips_96 : decode cX10_slips 96 = .ok (.getfield 98, 3) := by decide +kernel
theorem dX10_slips_99 : decode cX10_slips 99 = .ok (.iload 6, 2) := by decide +kernel
theorem dX10_slips_101 : decode cX10_slips 101 = .ok (.invokevirtual 229, 3) := by decide +kernel
theorem dX10_slips_104 : decode cX10_slips 104 = .ok (.iconst 1, 1) := by decide +kernel
theorem dX10_slips_105 : decode cX10_slips 105 = .ok (.iload 5, 2) := by decide +kernel
theorem dX10_slips_107 : decode cX10_slips 107 = .ok (.ishl, 1) := by decide +kernel
theorem dX10_slips_108 : decode cX10_slips 108 = .ok (.iconst (-1), 1) := by decide +kernel
theorem dX10_slips_109 : decode cX10_slips 109 = .ok (.ixor, 1) := by decide +kernel
theorem dX10_slips_110 : decode cX10_slips 110 = .ok (.iand, 1) := by decide +kernel
theorem dX10_slips_111 : decode cX10_slips 111 = .ok (.istore 6, 2) := by decide +kernel
theorem dX10_slips_113 : decode cX10_slips 113 = .ok (.iinc 7 1, 3) := by decide +kernel
theorem dX10_slips_116 : decode cX10_slips 116 = .ok (.goto (-53), 3) := by decide +kernel
theorem dX10_slips_85 : decode cX10_slips 85 = .ok (.if_icmp .eq 7, 3) := by decide +kernel
theorem dX10_slips_88 : decode cX10_slips 88 = .ok (.iload 8, 2) := by decide +kernel
theorem dX10_slips_90 : decode cX10_slips 90 = .ok (.istore 5, 2) := by decide +kernel
theorem dX10_slips_35 : decode cX10_slips 35 = .ok (.bipush (-5), 2) := by decide +kernel
theorem dX10_slips_37 : decode cX10_slips 37 = .ok (.ireturn, 1) := by decide +kernel
theorem dX10_slips_15 : decode cX10_slips 15 = .ok (.iload_n 3, 1) := by decide +kernel
theorem dX10_slips_16 : decode cX10_slips 16 = .ok (.ireturn, 1) := by decide +kernel
theorem dX10_follows_0 : decode cX10_follows 0 = .ok (.aload_n 0, 1) := by decide +kernel
theorem dX10_follows_1 : decode cX10_follows 1 = .ok (.iload_n 1, 1) := by decide +kernel
theorem dX10_follows_2 : decode cX10_follows 2 = .ok (.aload_n 0, 1) := by decide +kernel
theorem dX10_follows_3 : decode cX10_follows 3 = .ok (.iload_n 2, 1) := by decide +kernel
theorem dX10_follows_4 : decode cX10_follows 4 = .ok (.invokevirtual 120, 3) := by decide +kernel
theorem dX10_follows_7 : decode cX10_follows 7 = .ok (.invokevirtual 299, 3) := by decide +kernel
theorem dX10_follows_10 : decode cX10_follows 10 = .ok (.istore_n 3, 1) := by decide +kernel
theorem dX10_follows_11 : decode cX10_follows 11 = .ok (.iload_n 3, 1) := by decide +kernel
theorem dX10_follows_12 : decode cX10_follows 12 = .ok (.ifCond .eq 5, 3) := by decide +kernel
theorem dX10_follows_17 : decode cX10_follows 17 = .ok (.aload_n 0, 1) := by decide +kernel
theorem dX10_follows_18 : decode cX10_follows 18 = .ok (.aload_n 0, 1) := by decide +kernel
theorem dX10_follows_19 : decode cX10_follows 19 = .ok (.getfield 41, 3) := by decide +kernel
theorem dX10_follows_22 : decode cX10_follows 22 = .ok (.iload_n 1, 1) := by decide +kernel
theorem dX10_follows_23 : decode cX10_follows 23 = .ok (.aaload, 1) := by decide +kernel
theorem dX10_follows_24 : decode cX10_follows 24 = .ok (.iload_n 2, 1) := by decide +kernel
theorem dX10_follows_25 : decode cX10_follows 25 = .ok (.invokevirtual 302, 3) := by decide +kernel
theorem dX10_follows_28 : decode cX10_follows 28 = .ok (.ireturn, 1) := by decide +kernel
theorem dX10_follows_15 : decode cX10_follows 15 = .ok (.iload_n 3, 1) := by decide +kernel
theorem dX10_follows_16 : decode cX10_follows 16 = .ok (.ireturn, 1) := by decide +kernel
theorem dX10_drawn_0 : decode cX10_drawn 0 = .ok (.aload_n 0, 1) := by decide +kernel
theorem dX10_drawn_1 : decode cX10_drawn 1 = .ok (.iload_n 2, 1) := by decide +kernel
theorem dX10_drawn_2 : decode cX10_drawn 2 = .ok (.aload_n 0, 1) := by decide +kernel
theorem dX10_drawn_3 : decode cX10_drawn 3 = .ok (.iload_n 1, 1) := by decide +kernel
theorem dX10_drawn_4 : decode cX10_drawn 4 = .ok (.invokevirtual 308, 3) := by decide +kernel
theorem dX10_drawn_24 : decode cX10_drawn 24 = .ok (.invokevirtual 186, 3) := by decide +kernel
theorem dX10_drawn_27 : decode cX10_drawn 27 = .ok (.istore 4, 2) := by decide +kernel
theorem dX10_drawn_29 : decode cX10_drawn 29 = .ok (.iload 4, 2) := by decide +kernel
theorem dX10_drawn_31 : decode cX10_drawn 31 = .ok (.ifCond .eq 6, 3) := by decide +kernel
theorem dX10_drawn_37 : decode cX10_drawn 37 = .ok (.aload_n 0, 1) := by decide +kernel
theorem dX10_drawn_38 : decode cX10_drawn 38 = .ok (.getfield 79, 3) := by decide +kernel
theorem dX10_drawn_41 : decode cX10_drawn 41 = .ok (.aload_n 0, 1) := by decide +kernel
theorem dX10_drawn_42 : decode cX10_drawn 42 = .ok (.getfield 31, 3) := by decide +kernel
theorem dX10_drawn_45 : decode cX10_drawn 45 = .ok (.getfield 98, 3) := by decide +kernel
theorem dX10_drawn_48 : decode cX10_drawn 48 = .ok (.aload_n 0, 1) := by decide +kernel
theorem dX10_drawn_49 : decode cX10_drawn 49 = .ok (.getfield 41, 3) := by decide +kernel
theorem dX10_drawn_52 : decode cX10_drawn 52 = .ok (.iload_n 2, 1) := by decide +kernel
theorem dX10_drawn_53 : decode cX10_drawn 53 = .ok (.aaload, 1) := by decide +kernel
theorem dX10_drawn_54 : decode cX10_drawn 54 = .ok (.iload_n 1, 1) := by decide +kernel
theorem dX10_drawn_55 : decode cX10_drawn 55 = .ok (.i2l, 1) := by decide +kernel
theorem dX10_drawn_56 : decode cX10_drawn 56 = .ok (.invokevirtual 311, 3) := by decide +kernel
theorem dX10_drawn_59 : decode cX10_drawn 59 = .ok (.iload_n 3, 1) := by decide +kernel
theorem dX10_drawn_60 : decode cX10_drawn 60 = .ok (.ifCond .ne 13, 3) := by decide +kernel
theorem dX10_drawn_73 : decode cX10_drawn 73 = .ok (.aload_n 0, 1) := by decide +kernel
theorem dX10_drawn_74 : decode cX10_drawn 74 = .ok (.getfield 79, 3) := by decide +kernel
theorem dX10_drawn_77 : decode cX10_drawn 77 = .ok (.getfield 318, 3) := by decide +kernel
theorem dX10_drawn_80 : decode cX10_drawn 80 = .ok (.ireturn, 1) := by decide +kernel
theorem dX10_drawn_63 : decode cX10_drawn 63 = .ok (.aload_n 0, 1) := by decide +kernel
theorem dX10_drawn_64 : decode cX10_drawn 64 = .ok (.getfield 79, 3) := by decide +kernel
theorem dX10_drawn_67 : decode cX10_drawn 67 = .ok (.getfield 315, 3) := by decide +kernel
theorem dX10_drawn_70 : decode cX10_drawn 70 = .ok (.goto 10, 3) := by decide +kernel
theorem dX10_drawn_34 : decode cX10_drawn 34 = .ok (.iload 4, 2) := by decide +kernel
theorem dX10_drawn_36 : decode cX10_drawn 36 = .ok (.ireturn, 1) := by decide +kernel
theorem dX10_drawn_23 : decode cX10_drawn 23 = .ok (.iconst 0, 1) := by decide +kernel
theorem dX10_drawn_7 : decode cX10_drawn 7 = .ok (.ifCond .eq 16, 3) := by decide +kernel
theorem dX10_drawn_10 : decode cX10_drawn 10 = .ok (.iload_n 3, 1) := by decide +kernel
theorem dX10_drawn_11 : decode cX10_drawn 11 = .ok (.ifCond .lt 12, 3) := by decide +kernel
theorem dX10_drawn_14 : decode cX10_drawn 14 = .ok (.iload_n 3, 1) := by decide +kernel
theorem dX10_drawn_15 : decode cX10_drawn 15 = .ok (.iconst 1, 1) := by decide +kernel
theorem dX10_drawn_16 : decode cX10_drawn 16 = .ok (.if_icmp .gt 7, 3) := by decide +kernel
theorem dX10_drawn_19 : decode cX10_drawn 19 = .ok (.iconst 1, 1) := by decide +kernel
theorem dX10_drawn_20 : decode cX10_drawn 20 = .ok (.goto 4, 3) := by decide +kernel
theorem dX10_lot_0 : decode cX10_lot 0 = .ok (.aload_n 0, 1) := by decide +kernel
theorem dX10_lot_1 : decode cX10_lot 1 = .ok (.iload_n 2, 1) := by decide +kernel
theorem dX10_lot_2 : decode cX10_lot 2 = .ok (.aload_n 0, 1) := by decide +kernel
theorem dX10_lot_3 : decode cX10_lot 3 = .ok (.iload_n 1, 1) := by decide +kernel
theorem dX10_lot_4 : decode cX10_lot 4 = .ok (.invokevirtual 308, 3) := by decide +kernel
theorem dX10_lot_26 : decode cX10_lot 26 = .ok (.invokevirtual 186, 3) := by decide +kernel
theorem dX10_lot_29 : decode cX10_lot 29 = .ok (.istore 4, 2) := by decide +kernel
theorem dX10_lot_31 : decode cX10_lot 31 = .ok (.iload 4, 2) := by decide +kernel
theorem dX10_lot_33 : decode cX10_lot 33 = .ok (.ifCond .eq 6, 3) := by decide +kernel
theorem dX10_lot_39 : decode cX10_lot 39 = .ok (.iconst 0, 1) := by decide +kernel
theorem dX10_lot_40 : decode cX10_lot 40 = .ok (.istore 5, 2) := by decide +kernel
theorem dX10_lot_42 : decode cX10_lot 42 = .ok (.iconst 0, 1) := by decide +kernel
theorem dX10_lot_43 : decode cX10_lot 43 = .ok (.istore 6, 2) := by decide +kernel
theorem dX10_lot_45 : decode cX10_lot 45 = .ok (.iload 6, 2) := by decide +kernel
theorem dX10_lot_47 : decode cX10_lot 47 = .ok (.iload_n 3, 1) := by decide +kernel
theorem dX10_lot_48 : decode cX10_lot 48 = .ok (.if_icmp .ge 49, 3) := by decide +kernel
theorem dX10_lot_97 : decode cX10_lot 97 = .ok (.iload 5, 2) := by decide +kernel
theorem dX10_lot_99 : decode cX10_lot 99 = .ok (.ireturn, 1) := by decide +kernel
theorem dX10_lot_51 : decode cX10_lot 51 = .ok (.aload_n 0, 1) := by decide +kernel
theorem dX10_lot_52 : decode cX10_lot 52 = .ok (.getfield 79, 3) := by decide +kernel
theorem dX10_lot_55 : decode cX10_lot 55 = .ok (.aload_n 0, 1) := by decide +kernel
theorem dX10_lot_56 : decode cX10_lot 56 = .ok (.getfield 31, 3) := by decide +kernel
theorem dX10_lot_59 : decode cX10_lot 59 = .ok (.getfield 98, 3) := by decide +kernel
theorem dX10_lot_62 : decode cX10_lot 62 = .ok (.aload_n 0, 1) := by decide +kernel
theorem dX10_lot_63 : decode cX10_lot 63 = .ok (.getfield 41, 3) := by decide +kernel
theorem dX10_lot_66 : decode cX10_lot 66 = .ok (.iload_n 2, 1) := by decide +kernel
theorem dX10_lot_67 : decode cX10_lot 67 = .ok (.aaload, 1) := by decide +kernel
theorem dX10_lot_68 : decode cX10_lot 68 = .ok (.iload_n 1, 1) := by decide +kernel
theorem dX10_lot_69 : decode cX10_lot 69 = .ok (.i2l, 1) := by decide +kernel
theorem dX10_lot_70 : decode cX10_lot 70 = .ok (.iload 6, 2) := by decide +kernel
theorem dX10_lot_72 : decode cX10_lot 72 = .ok (.i2l, 1) := by decide +kernel
theorem dX10_lot_73 : decode cX10_lot 73 = .ok (.ladd, 1) := by decide +kernel
theorem dX10_lot_74 : decode cX10_lot 74 = .ok (.invokevirtual 311, 3) := by decide +kernel
theorem dX10_lot_77 : decode cX10_lot 77 = .ok (.aload_n 0, 1) := by decide +kernel
theorem dX10_lot_78 : decode cX10_lot 78 = .ok (.getfield 79, 3) := by decide +kernel
theorem dX10_lot_81 : decode cX10_lot 81 = .ok (.getfield 315, 3) := by decide +kernel
theorem dX10_lot_84 : decode cX10_lot 84 = .ok (.iconst (-1), 1) := by decide +kernel
theorem dX10_lot_91 : decode cX10_lot 91 = .ok (.iinc 6 1, 3) := by decide +kernel
theorem dX10_lot_94 : decode cX10_lot 94 = .ok (.goto (-49), 3) := by decide +kernel
theorem dX10_lot_85 : decode cX10_lot 85 = .ok (.if_icmp .eq 6, 3) := by decide +kernel
theorem dX10_lot_88 : decode cX10_lot 88 = .ok (.iinc 5 1, 3) := by decide +kernel
theorem dX10_lot_36 : decode cX10_lot 36 = .ok (.iload 4, 2) := by decide +kernel
theorem dX10_lot_38 : decode cX10_lot 38 = .ok (.ireturn, 1) := by decide +kernel
theorem dX10_lot_25 : decode cX10_lot 25 = .ok (.iconst 0, 1) := by decide +kernel
theorem dX10_lot_7 : decode cX10_lot 7 = .ok (.ifCond .eq 18, 3) := by decide +kernel
theorem dX10_lot_10 : decode cX10_lot 10 = .ok (.iload_n 3, 1) := by decide +kernel
theorem dX10_lot_11 : decode cX10_lot 11 = .ok (.iconst 1, 1) := by decide +kernel
theorem dX10_lot_12 : decode cX10_lot 12 = .ok (.if_icmp .lt 13, 3) := by decide +kernel
theorem dX10_lot_15 : decode cX10_lot 15 = .ok (.iload_n 3, 1) := by decide +kernel
theorem dX10_lot_16 : decode cX10_lot 16 = .ok (.bipush 20, 2) := by decide +kernel
theorem dX10_lot_18 : decode cX10_lot 18 = .ok (.if_icmp .gt 7, 3) := by decide +kernel
theorem dX10_lot_21 : decode cX10_lot 21 = .ok (.iconst 1, 1) := by decide +kernel
theorem dX10_lot_22 : decode cX10_lot 22 = .ok (.goto 4, 3) := by decide +kernel
theorem dX10_best_0 : decode cX10_best 0 = .ok (.aload_n 0, 1) := by decide +kernel
theorem dX10_best_1 : decode cX10_best 1 = .ok (.iload_n 1, 1) := by decide +kernel
theorem dX10_best_2 : decode cX10_best 2 = .ok (.invokevirtual 120, 3) := by decide +kernel
theorem dX10_best_5 : decode cX10_best 5 = .ok (.ifCond .eq 11, 3) := by decide +kernel
theorem dX10_best_16 : decode cX10_best 16 = .ok (.bipush (-2), 2) := by decide +kernel
theorem dX10_best_18 : decode cX10_best 18 = .ok (.ireturn, 1) := by decide +kernel
theorem dX10_best_8 : decode cX10_best 8 = .ok (.aload_n 0, 1) := by decide +kernel
theorem dX10_best_9 : decode cX10_best 9 = .ok (.iload_n 2, 1) := by decide +kernel
theorem dX10_best_10 : decode cX10_best 10 = .ok (.invokevirtual 215, 3) := by decide +kernel
theorem dX10_best_13 : decode cX10_best 13 = .ok (.ifCond .ne 6, 3) := by decide +kernel
theorem dX10_best_19 : decode cX10_best 19 = .ok (.aload_n 0, 1) := by decide +kernel
theorem dX10_best_20 : decode cX10_best 20 = .ok (.getfield 58, 3) := by decide +kernel
theorem dX10_best_23 : decode cX10_best 23 = .ok (.aload_n 0, 1) := by decide +kernel
theorem dX10_best_24 : decode cX10_best 24 = .ok (.getfield 31, 3) := by decide +kernel
theorem dX10_best_27 : decode cX10_best 27 = .ok (.getfield 98, 3) := by decide +kernel
theorem dX10_best_30 : decode cX10_best 30 = .ok (.aload_n 0, 1) := by decide +kernel
theorem dX10_best_31 : decode cX10_best 31 = .ok (.getfield 48, 3) := by decide +kernel
theorem dX10_best_34 : decode cX10_best 34 = .ok (.iload_n 1, 1) := by decide +kernel
theorem dX10_best_35 : decode cX10_best 35 = .ok (.iload_n 2, 1) := by decide +kernel
theorem dX10_best_36 : decode cX10_best 36 = .ok (.invokevirtual 218, 3) := by decide +kernel
theorem dX10_best_39 : decode cX10_best 39 = .ok (.ireturn, 1) := by decide +kernel
theorem dX10_goes_0 : decode cX10_goes 0 = .ok (.aload_n 0, 1) := by decide +kernel
theorem dX10_goes_1 : decode cX10_goes 1 = .ok (.iload_n 1, 1) := by decide +kernel
theorem dX10_goes_2 : decode cX10_goes 2 = .ok (.invokevirtual 120, 3) := by decide +kernel
theorem dX10_goes_5 : decode cX10_goes 5 = .ok (.ifCond .eq 11, 3) := by decide +kernel
theorem dX10_goes_16 : decode cX10_goes 16 = .ok (.bipush (-2), 2) := by decide +kernel
theorem dX10_goes_18 : decode cX10_goes 18 = .ok (.ireturn, 1) := by decide +kernel
theorem dX10_goes_8 : decode cX10_goes 8 = .ok (.aload_n 0, 1) := by decide +kernel
theorem dX10_goes_9 : decode cX10_goes 9 = .ok (.iload_n 2, 1) := by decide +kernel
theorem dX10_goes_10 : decode cX10_goes 10 = .ok (.invokevirtual 215, 3) := by decide +kernel
theorem dX10_goes_13 : decode cX10_goes 13 = .ok (.ifCond .ne 6, 3) := by decide +kernel
theorem dX10_goes_19 : decode cX10_goes 19 = .ok (.iload_n 3, 1) := by decide +kernel
theorem dX10_goes_20 : decode cX10_goes 20 = .ok (.ifCond .lt 8, 3) := by decide +kernel
theorem dX10_goes_28 : decode cX10_goes 28 = .ok (.iconst (-1), 1) := by decide +kernel
theorem dX10_goes_29 : decode cX10_goes 29 = .ok (.ireturn, 1) := by decide +kernel
theorem dX10_goes_23 : decode cX10_goes 23 = .ok (.iload_n 3, 1) := by decide +kernel
theorem dX10_goes_24 : decode cX10_goes 24 = .ok (.iload_n 2, 1) := by decide +kernel
theorem dX10_goes_25 : decode cX10_goes 25 = .ok (.if_icmp .lt 5, 3) := by decide +kernel
theorem dX10_goes_30 : decode cX10_goes 30 = .ok (.aload_n 0, 1) := by decide +kernel
theorem dX10_goes_31 : decode cX10_goes 31 = .ok (.getfield 58, 3) := by decide +kernel
theorem dX10_goes_34 : decode cX10_goes 34 = .ok (.aload_n 0, 1) := by decide +kernel
theorem dX10_goes_35 : decode cX10_goes 35 = .ok (.getfield 31, 3) := by decide +kernel
theorem dX10_goes_38 : decode cX10_goes 38 = .ok (.getfield 98, 3) := by decide +kernel
theorem dX10_goes_41 : decode cX10_goes 41 = .ok (.aload_n 0, 1) := by decide +kernel
theorem dX10_goes_42 : decode cX10_goes 42 = .ok (.getfield 48, 3) := by decide +kernel
theorem dX10_goes_45 : decode cX10_goes 45 = .ok (.iload_n 1, 1) := by decide +kernel
theorem dX10_goes_46 : decode cX10_goes 46 = .ok (.iload_n 2, 1) := by decide +kernel
theorem dX10_goes_47 : decode cX10_goes 47 = .ok (.invokevirtual 218, 3) := by decide +kernel
theorem dX10_goes_50 : decode cX10_goes 50 = .ok (.pop, 1) := by decide +kernel
theorem dX10_goes_51 : decode cX10_goes 51 = .ok (.aload_n 0, 1) := by decide +kernel
theorem dX10_goes_52 : decode cX10_goes 52 = .ok (.getfield 58, 3) := by decide +kernel
theorem dX10_goes_55 : decode cX10_goes 55 = .ok (.iload_n 3, 1) := by decide +kernel
theorem dX10_goes_56 : decode cX10_goes 56 = .ok (.invokevirtual 222, 3) := by decide +kernel
theorem dX10_goes_59 : decode cX10_goes 59 = .ok (.ireturn, 1) := by decide +kernel
theorem dX10_begins_0 : decode cX10_begins 0 = .ok (.aload_n 0, 1) := by decide +kernel
theorem dX10_begins_1 : decode cX10_begins 1 = .ok (.getfield 31, 3) := by decide +kernel
theorem dX10_begins_4 : decode cX10_begins 4 = .ok (.getfield 98, 3) := by decide +kernel
theorem dX10_begins_7 : decode cX10_begins 7 = .ok (.getfield 159, 3) := by decide +kernel
theorem dX10_begins_10 : decode cX10_begins 10 = .ok (.iconst 1, 1) := by decide +kernel
theorem dX10_begins_11 : decode cX10_begins 11 = .ok (.if_icmp .lt 11, 3) := by decide +kernel
theorem dX10_begins_22 : decode cX10_begins 22 = .ok (.bipush (-2), 2) := by decide +kernel
theorem dX10_begins_24 : decode cX10_begins 24 = .ok (.ireturn, 1) := by decide +kernel
theorem dX10_begins_14 : decode cX10_begins 14 = .ok (.aload_n 0, 1) := by decide +kernel
theorem dX10_begins_15 : decode cX10_begins 15 = .ok (.iload_n 1, 1) := by decide +kernel
theorem dX10_begins_16 : decode cX10_begins 16 = .ok (.invokevirtual 215, 3) := by decide +kernel
theorem dX10_begins_19 : decode cX10_begins 19 = .ok (.ifCond .ne 6, 3) := by decide +kernel
theorem dX10_begins_25 : decode cX10_begins 25 = .ok (.aload_n 0, 1) := by decide +kernel
theorem dX10_begins_26 : decode cX10_begins 26 = .ok (.getfield 58, 3) := by decide +kernel
theorem dX10_begins_29 : decode cX10_begins 29 = .ok (.aload_n 0, 1) := by decide +kernel
theorem dX10_begins_30 : decode cX10_begins 30 = .ok (.getfield 31, 3) := by decide +kernel
theorem dX10_begins_33 : decode cX10_begins 33 = .ok (.getfield 98, 3) := by decide +kernel
theorem dX10_begins_36 : decode cX10_begins 36 = .ok (.aload_n 0, 1) := by decide +kernel
theorem dX10_begins_37 : decode cX10_begins 37 = .ok (.getfield 48, 3) := by decide +kernel
theorem dX10_begins_40 : decode cX10_begins 40 = .ok (.iload_n 1, 1) := by decide +kernel
theorem dX10_begins_41 : decode cX10_begins 41 = .ok (.invokevirtual 225, 3) := by decide +kernel
theorem dX10_begins_44 : decode cX10_begins 44 = .ok (.ireturn, 1) := by decide +kernel
theorem dX10_soon_0 : decode cX10_soon 0 = .ok (.aload_n 0, 1) := by decide +kernel
theorem dX10_soon_1 : decode cX10_soon 1 = .ok (.iload_n 1, 1) := by decide +kernel
theorem dX10_soon_2 : decode cX10_soon 2 = .ok (.invokevirtual 120, 3) := by decide +kernel
theorem dX10_soon_5 : decode cX10_soon 5 = .ok (.ifCond .eq 11, 3) := by decide +kernel
theorem dX10_soon_16 : decode cX10_soon 16 = .ok (.bipush (-2), 2) := by decide +kernel
theorem dX10_soon_18 : decode cX10_soon 18 = .ok (.ireturn, 1) := by decide +kernel
theorem dX10_soon_8 : decode cX10_soon 8 = .ok (.aload_n 0, 1) := by decide +kernel
theorem dX10_soon_9 : decode cX10_soon 9 = .ok (.iload_n 2, 1) := by decide +kernel
theorem dX10_soon_10 : decode cX10_soon 10 = .ok (.invokevirtual 205, 3) := by decide +kernel
theorem dX10_soon_13 : decode cX10_soon 13 = .ok (.ifCond .ne 6, 3) := by decide +kernel
theorem dX10_soon_19 : decode cX10_soon 19 = .ok (.iconst 0, 1) := by decide +kernel
theorem dX10_soon_20 : decode cX10_soon 20 = .ok (.istore_n 3, 1) := by decide +kernel
theorem dX10_soon_21 : decode cX10_soon 21 = .ok (.iload_n 3, 1) := by decide +kernel
theorem dX10_soon_22 : decode cX10_soon 22 = .ok (.iconst 5, 1) := by decide +kernel
theorem dX10_soon_23 : decode cX10_soon 23 = .ok (.if_icmp .gt 35, 3) := by decide +kernel
theorem dX10_soon_58 : decode cX10_soon 58 = .ok (.iconst (-1), 1) := by decide +kernel
theorem dX10_soon_59 : decode cX10_soon 59 = .ok (.ireturn, 1) := by decide +kernel
theorem dX10_soon_26 : decode cX10_soon 26 = .ok (.aload_n 0, 1) := by decide +kernel
theorem dX10_soon_27 : decode cX10_soon 27 = .ok (.getfield 58, 3) := by decide +kernel
theorem dX10_soon_30 : decode cX10_soon 30 = .ok (.aload_n 0, 1) := by decide +kernel
theorem dX10_soon_31 : decode cX10_soon 31 = .ok (.getfield 31, 3) := by decide +kernel
theorem dX10_soon_34 : decode cX10_soon 34 = .ok (.getfield 98, 3) := by decide +kernel
theorem dX10_soon_37 : decode cX10_soon 37 = .ok (.aload_n 0, 1) := by decide +kernel
theorem dX10_soon_38 : decode cX10_soon 38 = .ok (.getfield 48, 3) := by decide +kernel
theorem dX10_soon_41 : decode cX10_soon 41 = .ok (.iload_n 1, 1) := by decide +kernel
theorem dX10_soon_42 : decode cX10_soon 42 = .ok (.iload_n 3, 1) := by decide +kernel
theorem dX10_soon_43 : decode cX10_soon 43 = .ok (.invokevirtual 218, 3) := by decide +kernel
theorem dX10_soon_46 : decode cX10_soon 46 = .ok (.iload_n 2, 1) := by decide +kernel
theorem dX10_soon_47 : decode cX10_soon 47 = .ok (.if_icmp .lt 5, 3) := by decide +kernel
theorem dX10_soon_52 : decode cX10_soon 52 = .ok (.iinc 3 1, 3) := by decide +kernel
theorem dX10_soon_55 : decode cX10_soon 55 = .ok (.goto (-34), 3) := by decide +kernel
theorem dX10_soon_50 : decode cX10_soon 50 = .ok (.iload_n 3, 1) := by decide +kernel
theorem dX10_soon_51 : decode cX10_soon 51 = .ok (.ireturn, 1) := by decide +kernel
theorem dX10_far_0 : decode cX10_far 0 = .ok (.aload_n 0, 1) := by decide +kernel
theorem dX10_far_1 : decode cX10_far 1 = .ok (.iload_n 1, 1) := by decide +kernel
theorem dX10_far_2 : decode cX10_far 2 = .ok (.invokevirtual 120, 3) := by decide +kernel
theorem dX10_far_5 : decode cX10_far 5 = .ok (.ifCond .eq 11, 3) := by decide +kernel
theorem dX10_far_16 : decode cX10_far 16 = .ok (.bipush (-2), 2) := by decide +kernel
theorem dX10_far_18 : decode cX10_far 18 = .ok (.ireturn, 1) := by decide +kernel
theorem dX10_far_8 : decode cX10_far 8 = .ok (.aload_n 0, 1) := by decide +kernel
theorem dX10_far_9 : decode cX10_far 9 = .ok (.iload_n 2, 1) := by decide +kernel
theorem dX10_far_10 : decode cX10_far 10 = .ok (.invokevirtual 120, 3) := by decide +kernel
theorem dX10_far_13 : decode cX10_far 13 = .ok (.ifCond .ne 6, 3) := by decide +kernel
theorem dX10_far_19 : decode cX10_far 19 = .ok (.iconst 1, 1) := by decide +kernel
theorem dX10_far_20 : decode cX10_far 20 = .ok (.iload_n 1, 1) := by decide +kernel
theorem dX10_far_21 : decode cX10_far 21 = .ok (.ishl, 1) := by decide +kernel
theorem dX10_far_22 : decode cX10_far 22 = .ok (.istore_n 3, 1) := by decide +kernel
theorem dX10_far_23 : decode cX10_far 23 = .ok (.iconst 0, 1) := by decide +kernel
theorem dX10_far_24 : decode cX10_far 24 = .ok (.istore 4, 2) := by decide +kernel
theorem dX10_far_26 : decode cX10_far 26 = .ok (.iload 4, 2) := by decide +kernel
theorem dX10_far_28 : decode cX10_far 28 = .ok (.bipush 7, 2) := by decide +kernel
theorem dX10_far_30 : decode cX10_far 30 = .ok (.if_icmp .ge 32, 3) := by decide +kernel
theorem dX10_far_62 : decode cX10_far 62 = .ok (.iconst (-1), 1) := by decide +kernel
theorem dX10_far_63 : decode cX10_far 63 = .ok (.ireturn, 1) := by decide +kernel
theorem dX10_far_33 : decode cX10_far 33 = .ok (.iload_n 3, 1) := by decide +kernel
theorem dX10_far_34 : decode cX10_far 34 = .ok (.iload_n 2, 1) := by decide +kernel
theorem dX10_far_35 : decode cX10_far 35 = .ok (.ishr, 1) := by decide +kernel
theorem dX10_far_36 : decode cX10_far 36 = .ok (.iconst 1, 1) := by decide +kernel
theorem dX10_far_37 : decode cX10_far 37 = .ok (.iand, 1) := by decide +kernel
theorem dX10_far_38 : decode cX10_far 38 = .ok (.ifCond .eq 6, 3) := by decide +kernel
theorem dX10_far_44 : decode cX10_far 44 = .ok (.aload_n 0, 1) := by decide +kernel
theorem dX10_far_45 : decode cX10_far 45 = .ok (.getfield 31, 3) := by decide +kernel
theorem dX10_far_48 : decode cX10_far 48 = .ok (.getfield 98, 3) := by decide +kernel
theorem dX10_far_51 : decode cX10_far 51 = .ok (.iload_n 3, 1) := by decide +kernel
theorem dX10_far_52 : decode cX10_far 52 = .ok (.invokevirtual 229, 3) := by decide +kernel
theorem dX10_far_55 : decode cX10_far 55 = .ok (.istore_n 3, 1) := by decide +kernel
theorem dX10_far_56 : decode cX10_far 56 = .ok (.iinc 4 1, 3) := by decide +kernel
theorem dX10_far_59 : decode cX10_far 59 = .ok (.goto (-33), 3) := by decide +kernel
theorem dX10_far_41 : decode cX10_far 41 = .ok (.iload 4, 2) := by decide +kernel
theorem dX10_far_43 : decode cX10_far 43 = .ok (.ireturn, 1) := by decide +kernel
theorem dX10_rest_0 : decode cX10_rest 0 = .ok (.aload_n 0, 1) := by decide +kernel
theorem dX10_rest_1 : decode cX10_rest 1 = .ok (.invokevirtual 152, 3) := by decide +kernel
theorem dX10_rest_4 : decode cX10_rest 4 = .ok (.ifCond .ne 6, 3) := by decide +kernel
theorem dX10_rest_10 : decode cX10_rest 10 = .ok (.aload_n 0, 1) := by decide +kernel
theorem dX10_rest_11 : decode cX10_rest 11 = .ok (.getfield 52, 3) := by decide +kernel
theorem dX10_rest_14 : decode cX10_rest 14 = .ok (.aload_n 0, 1) := by decide +kernel
theorem dX10_rest_15 : decode cX10_rest 15 = .ok (.getfield 48, 3) := by decide +kernel
theorem dX10_rest_18 : decode cX10_rest 18 = .ok (.invokevirtual 179, 3) := by decide +kernel
theorem dX10_rest_21 : decode cX10_rest 21 = .ok (.iconst 0, 1) := by decide +kernel
theorem dX10_rest_22 : decode cX10_rest 22 = .ok (.istore_n 1, 1) := by decide +kernel
theorem dX10_rest_23 : decode cX10_rest 23 = .ok (.iload_n 1, 1) := by decide +kernel
theorem dX10_rest_24 : decode cX10_rest 24 = .ok (.sipush 200, 3) := by decide +kernel
theorem dX10_rest_27 : decode cX10_rest 27 = .ok (.if_icmp .gt 29, 3) := by decide +kernel
theorem dX10_rest_56 : decode cX10_rest 56 = .ok (.iconst (-1), 1) := by decide +kernel
theorem dX10_rest_57 : decode cX10_rest 57 = .ok (.ireturn, 1) := by decide +kernel
theorem dX10_rest_30 : decode cX10_rest 30 = .ok (.aload_n 0, 1) := by decide +kernel
theorem dX10_rest_31 : decode cX10_rest 31 = .ok (.getfield 52, 3) := by decide +kernel
theorem dX10_rest_34 : decode cX10_rest 34 = .ok (.aload_n 0, 1) := by decide +kernel
theorem dX10_rest_35 : decode cX10_rest 35 = .ok (.getfield 31, 3) := by decide +kernel
theorem dX10_rest_38 : decode cX10_rest 38 = .ok (.getfield 98, 3) := by decide +kernel
theorem dX10_rest_41 : decode cX10_rest 41 = .ok (.iconst (-1), 1) := by decide +kernel
theorem dX10_rest_42 : decode cX10_rest 42 = .ok (.invokevirtual 182, 3) := by decide +kernel
theorem dX10_rest_45 : decode cX10_rest 45 = .ok (.ifCond .ne 5, 3) := by decide +kernel
theorem dX10_rest_50 : decode cX10_rest 50 = .ok (.iinc 1 1, 3) := by decide +kernel
theorem dX10_rest_53 : decode cX10_rest 53 = .ok (.goto (-30), 3) := by decide +kernel
theorem dX10_rest_48 : decode cX10_rest 48 = .ok (.iload_n 1, 1) := by decide +kernel
theorem dX10_rest_49 : decode cX10_rest 49 = .ok (.ireturn, 1) := by decide +kernel
theorem dX10_rest_7 : decode cX10_rest 7 = .ok (.bipush (-2), 2) := by decide +kernel
theorem dX10_rest_9 : decode cX10_rest 9 = .ok (.ireturn, 1) := by decide +kernel
theorem dX10_trumpet_0 : decode cX10_trumpet 0 = .ok (.aload_n 0, 1) := by decide +kernel
theorem dX10_trumpet_1 : decode cX10_trumpet 1 = .ok (.invokevirtual 152, 3) := by decide +kernel
theorem dX10_trumpet_4 : decode cX10_trumpet 4 = .ok (.ifCond .eq 20, 3) := by decide +kernel
theorem dX10_trumpet_24 : decode cX10_trumpet 24 = .ok (.bipush (-2), 2) := by decide +kernel
theorem dX10_trumpet_26 : decode cX10_trumpet 26 = .ok (.ireturn, 1) := by decide +kernel
theorem dX10_trumpet_7 : decode cX10_trumpet 7 = .ok (.aload_n 0, 1) := by decide +kernel
theorem dX10_trumpet_8 : decode cX10_trumpet 8 = .ok (.aload_n 0, 1) := by decide +kernel
theorem dX10_trumpet_9 : decode cX10_trumpet 9 = .ok (.getfield 31, 3) := by decide +kernel
theorem dX10_trumpet_12 : decode cX10_trumpet 12 = .ok (.getfield 98, 3) := by decide +kernel
theorem dX10_trumpet_15 : decode cX10_trumpet 15 = .ok (.invokevirtual 238, 3) := by decide +kernel
theorem dX10_trumpet_18 : decode cX10_trumpet 18 = .ok (.invokevirtual 241, 3) := by decide +kernel
theorem dX10_trumpet_21 : decode cX10_trumpet 21 = .ok (.goto 5, 3) := by decide +kernel
theorem dX10_quiet_0 : decode cX10_quiet 0 = .ok (.aload_n 0, 1) := by decide +kernel
theorem dX10_quiet_1 : decode cX10_quiet 1 = .ok (.invokevirtual 152, 3) := by decide +kernel
theorem dX10_quiet_4 : decode cX10_quiet 4 = .ok (.ifCond .eq 11, 3) := by decide +kernel
theorem dX10_quiet_15 : decode cX10_quiet 15 = .ok (.bipush (-2), 2) := by decide +kernel
theorem dX10_quiet_17 : decode cX10_quiet 17 = .ok (.ireturn, 1) := by decide +kernel
theorem dX10_quiet_7 : decode cX10_quiet 7 = .ok (.aload_n 0, 1) := by decide +kernel
theorem dX10_quiet_8 : decode cX10_quiet 8 = .ok (.iload_n 1, 1) := by decide +kernel
theorem dX10_quiet_9 : decode cX10_quiet 9 = .ok (.invokevirtual 205, 3) := by decide +kernel
theorem dX10_quiet_12 : decode cX10_quiet 12 = .ok (.ifCond .ne 6, 3) := by decide +kernel
theorem dX10_quiet_18 : decode cX10_quiet 18 = .ok (.aload_n 0, 1) := by decide +kernel
theorem dX10_quiet_19 : decode cX10_quiet 19 = .ok (.iload_n 1, 1) := by decide +kernel
theorem dX10_quiet_20 : decode cX10_quiet 20 = .ok (.invokevirtual 244, 3) := by decide +kernel
theorem dX10_quiet_23 : decode cX10_quiet 23 = .ok (.istore_n 2, 1) := by decide +kernel
theorem dX10_quiet_24 : decode cX10_quiet 24 = .ok (.iload_n 2, 1) := by decide +kernel
theorem dX10_quiet_25 : decode cX10_quiet 25 = .ok (.iconst (-1), 1) := by decide +kernel
theorem dX10_quiet_26 : decode cX10_quiet 26 = .ok (.if_icmp .ne 7, 3) := by decide +kernel
theorem dX10_quiet_33 : decode cX10_quiet 33 = .ok (.aload_n 0, 1) := by decide +kernel
theorem dX10_quiet_34 : decode cX10_quiet 34 = .ok (.iload_n 2, 1) := by decide +kernel
theorem dX10_quiet_35 : decode cX10_quiet 35 = .ok (.invokevirtual 247, 3) := by decide +kernel
theorem dX10_quiet_38 : decode cX10_quiet 38 = .ok (.ireturn, 1) := by decide +kernel
theorem dX10_quiet_29 : decode cX10_quiet 29 = .ok (.iconst (-1), 1) := by decide +kernel
theorem dX10_quiet_30 : decode cX10_quiet 30 = .ok (.goto 8, 3) := by decide +kernel
theorem dX10_quietly_0 : decode cX10_quietly 0 = .ok (.aload_n 0, 1) := by decide +kernel
theorem dX10_quietly_1 : decode cX10_quietly 1 = .ok (.invokevirtual 152, 3) := by decide +kernel
theorem dX10_quietly_4 : decode cX10_quietly 4 = .ok (.ifCond .eq 11, 3) := by decide +kernel
theorem dX10_quietly_15 : decode cX10_quietly 15 = .ok (.bipush (-2), 2) := by decide +kernel
theorem dX10_quietly_17 : decode cX10_quietly 17 = .ok (.ireturn, 1) := by decide +kernel
theorem dX10_quietly_7 : decode cX10_quietly 7 = .ok (.aload_n 0, 1) := by decide +kernel
theorem dX10_quietly_8 : decode cX10_quietly 8 = .ok (.iload_n 1, 1) := by decide +kernel
theorem dX10_quietly_9 : decode cX10_quietly 9 = .ok (.invokevirtual 205, 3) := by decide +kernel
theorem dX10_quietly_12 : decode cX10_quietly 12 = .ok (.ifCond .ne 6, 3) := by decide +kernel
theorem dX10_quietly_18 : decode cX10_quietly 18 = .ok (.aload_n 0, 1) := by decide +kernel
theorem dX10_quietly_19 : decode cX10_quietly 19 = .ok (.iload_n 1, 1) := by decide +kernel
theorem dX10_quietly_20 : decode cX10_quietly 20 = .ok (.invokevirtual 244, 3) := by decide +kernel
theorem dX10_quietly_23 : decode cX10_quietly 23 = .ok (.ireturn, 1) := by decide +kernel
theorem dX10_card_0 : decode cX10_card 0 = .ok (.aload_n 0, 1) := by decide +kernel
theorem dX10_card_1 : decode cX10_card 1 = .ok (.iload_n 1, 1) := by decide +kernel
theorem dX10_card_2 : decode cX10_card 2 = .ok (.invokevirtual 120, 3) := by decide +kernel
theorem dX10_card_5 : decode cX10_card 5 = .ok (.ifCond .eq 14, 3) := by decide +kernel
theorem dX10_card_19 : decode cX10_card 19 = .ok (.bipush (-2), 2) := by decide +kernel
theorem dX10_card_21 : decode cX10_card 21 = .ok (.ireturn, 1) := by decide +kernel
theorem dX10_card_8 : decode cX10_card 8 = .ok (.iload_n 2, 1) := by decide +kernel
theorem dX10_card_9 : decode cX10_card 9 = .ok (.ifCond .lt 10, 3) := by decide +kernel
theorem dX10_card_12 : decode cX10_card 12 = .ok (.iload_n 2, 1) := by decide +kernel
theorem dX10_card_13 : decode cX10_card 13 = .ok (.sipush 200, 3) := by decide +kernel
theorem dX10_card_16 : decode cX10_card 16 = .ok (.if_icmp .le 6, 3) := by decide +kernel
theorem dX10_card_22 : decode cX10_card 22 = .ok (.aload_n 0, 1) := by decide +kernel
theorem dX10_card_23 : decode cX10_card 23 = .ok (.iload_n 1, 1) := by decide +kernel
theorem dX10_card_24 : decode cX10_card 24 = .ok (.iload_n 2, 1) := by decide +kernel
theorem dX10_card_25 : decode cX10_card 25 = .ok (.invokevirtual 250, 3) := by decide +kernel
theorem dX10_card_28 : decode cX10_card 28 = .ok (.ireturn, 1) := by decide +kernel
theorem dX10_desk_0 : decode cX10_desk 0 = .ok (.aload_n 0, 1) := by decide +kernel
theorem dX10_desk_1 : decode cX10_desk 1 = .ok (.getfield 31, 3) := by decide +kernel
theorem dX10_desk_4 : decode cX10_desk 4 = .ok (.getfield 98, 3) := by decide +kernel
theorem dX10_desk_7 : decode cX10_desk 7 = .ok (.getfield 159, 3) := by decide +kernel
theorem dX10_desk_10 : decode cX10_desk 10 = .ok (.iconst 1, 1) := by decide +kernel
theorem dX10_desk_11 : decode cX10_desk 11 = .ok (.if_icmp .lt 14, 3) := by decide +kernel
theorem dX10_desk_25 : decode cX10_desk 25 = .ok (.bipush (-2), 2) := by decide +kernel
theorem dX10_desk_27 : decode cX10_desk 27 = .ok (.ireturn, 1) := by decide +kernel
theorem dX10_desk_14 : decode cX10_desk 14 = .ok (.iload_n 1, 1) := by decide +kernel
theorem dX10_desk_15 : decode cX10_desk 15 = .ok (.ifCond .lt 10, 3) := by decide +kernel
theorem dX10_desk_18 : decode cX10_desk 18 = .ok (.iload_n 1, 1) := by decide +kernel
theorem dX10_desk_19 : decode cX10_desk 19 = .ok (.sipush 200, 3) := by decide +kernel
theorem dX10_desk_22 : decode cX10_desk 22 = .ok (.if_icmp .le 6, 3) := by decide +kernel
theorem dX10_desk_28 : decode cX10_desk 28 = .ok (.iconst 0, 1) := by decide +kernel
theorem dX10_desk_29 : decode cX10_desk 29 = .ok (.istore_n 2, 1) := by decide +kernel
theorem dX10_desk_30 : decode cX10_desk 30 = .ok (.iconst (-1), 1) := by decide +kernel
theorem dX10_desk_31 : decode cX10_desk 31 = .ok (.istore_n 3, 1) := by decide +kernel
theorem dX10_desk_32 : decode cX10_desk 32 = .ok (.iconst 0, 1) := by decide +kernel
theorem dX10_desk_33 : decode cX10_desk 33 = .ok (.istore 4, 2) := by decide +kernel
theorem dX10_desk_35 : decode cX10_desk 35 = .ok (.iload 4, 2) := by decide +kernel
theorem dX10_desk_37 : decode cX10_desk 37 = .ok (.aload_n 0, 1) := by decide +kernel
theorem dX10_desk_38 : decode cX10_desk 38 = .ok (.getfield 31, 3) := by decide +kernel
theorem dX10_desk_41 : decode cX10_desk 41 = .ok (.getfield 98, 3) := by decide +kernel
theorem dX10_desk_44 : decode cX10_desk 44 = .ok (.getfield 159, 3) := by decide +kernel
theorem dX10_desk_47 : decode cX10_desk 47 = .ok (.if_icmp .ge 30, 3) := by decide +kernel
theorem dX10_desk_77 : decode cX10_desk 77 = .ok (.iload_n 2, 1) := by decide +kernel
theorem dX10_desk_78 : decode cX10_desk 78 = .ok (.ireturn, 1) := by decide +kernel
theorem dX10_desk_50 : decode cX10_desk 50 = .ok (.aload_n 0, 1) := by decide +kernel
theorem dX10_desk_51 : decode cX10_desk 51 = .ok (.iload 4, 2) := by decide +kernel
theorem dX10_desk_53 : decode cX10_desk 53 = .ok (.iload_n 1, 1) := by decide +kernel
theorem dX10_desk_54 : decode cX10_desk 54 = .ok (.invokevirtual 250, 3) := by decide +kernel
theorem dX10_desk_57 : decode cX10_desk 57 = .ok (.istore 5, 2) := by decide +kernel
theorem dX10_desk_59 : decode cX10_desk 59 = .ok (.iload 5, 2) := by decide +kernel
theorem dX10_desk_61 : decode cX10_desk 61 = .ok (.iload_n 3, 1) := by decide +kernel
theorem dX10_desk_71 : decode cX10_desk 71 = .ok (.iinc 4 1, 3) := by decide +kernel
theorem dX10_desk_74 : decode cX10_desk 74 = .ok (.goto (-39), 3) := by decide +kernel
theorem dX10_desk_62 : decode cX10_desk 62 = .ok (.if_icmp .le 9, 3) := by decide +kernel
theorem dX10_desk_65 : decode cX10_desk 65 = .ok (.iload 5, 2) := by decide +kernel
theorem dX10_desk_67 : decode cX10_desk 67 = .ok (.istore_n 3, 1) := by decide +kernel
theorem dX10_desk_68 : decode cX10_desk 68 = .ok (.iload 4, 2) := by decide +kernel
theorem dX10_desk_70 : decode cX10_desk 70 = .ok (.istore_n 2, 1) := by decide +kernel
theorem dX10_one_0 : decode cX10_one 0 = .ok (.aload_n 0, 1) := by decide +kernel
theorem dX10_one_1 : decode cX10_one 1 = .ok (.iload_n 1, 1) := by decide +kernel
theorem dX10_one_2 : decode cX10_one 2 = .ok (.invokevirtual 120, 3) := by decide +kernel
theorem dX10_one_5 : decode cX10_one 5 = .ok (.ifCond .ne 6, 3) := by decide +kernel
theorem dX10_one_11 : decode cX10_one 11 = .ok (.aload_n 0, 1) := by decide +kernel
theorem dX10_one_12 : decode cX10_one 12 = .ok (.getfield 65, 3) := by decide +kernel
theorem dX10_one_15 : decode cX10_one 15 = .ok (.aload_n 0, 1) := by decide +kernel
theorem dX10_one_16 : decode cX10_one 16 = .ok (.getfield 31, 3) := by decide +kernel
theorem dX10_one_19 : decode cX10_one 19 = .ok (.getfield 98, 3) := by decide +kernel
theorem dX10_one_22 : decode cX10_one 22 = .ok (.iload_n 1, 1) := by decide +kernel
theorem dX10_one_23 : decode cX10_one 23 = .ok (.iload_n 1, 1) := by decide +kernel
theorem dX10_one_24 : decode cX10_one 24 = .ok (.iconst 1, 1) := by decide +kernel
theorem dX10_one_25 : decode cX10_one 25 = .ok (.invokevirtual 253, 3) := by decide +kernel
theorem dX10_one_28 : decode cX10_one 28 = .ok (.pop, 1) := by decide +kernel
theorem dX10_one_29 : decode cX10_one 29 = .ok (.aload_n 0, 1) := by decide +kernel
theorem dX10_one_30 : decode cX10_one 30 = .ok (.getfield 65, 3) := by decide +kernel
theorem dX10_one_33 : decode cX10_one 33 = .ok (.invokevirtual 257, 3) := by decide +kernel
theorem dX10_one_36 : decode cX10_one 36 = .ok (.ireturn, 1) := by decide +kernel
theorem dX10_one_8 : decode cX10_one 8 = .ok (.bipush (-2), 2) := by decide +kernel
theorem dX10_one_10 : decode cX10_one 10 = .ok (.ireturn, 1) := by decide +kernel
theorem dX10_two_0 : decode cX10_two 0 = .ok (.aload_n 0, 1) := by decide +kernel
theorem dX10_two_1 : decode cX10_two 1 = .ok (.iload_n 1, 1) := by decide +kernel
theorem dX10_two_2 : decode cX10_two 2 = .ok (.invokevirtual 120, 3) := by decide +kernel
theorem dX10_two_5 : decode cX10_two 5 = .ok (.ifCond .eq 11, 3) := by decide +kernel
theorem dX10_two_16 : decode cX10_two 16 = .ok (.bipush (-2), 2) := by decide +kernel
theorem dX10_two_18 : decode cX10_two 18 = .ok (.ireturn, 1) := by decide +kernel
theorem dX10_two_8 : decode cX10_two 8 = .ok (.aload_n 0, 1) := by decide +kernel
theorem dX10_two_9 : decode cX10_two 9 = .ok (.iload_n 2, 1) := by decide +kernel
theorem dX10_two_10 : decode cX10_two 10 = .ok (.invokevirtual 120, 3) := by decide +kernel
theorem dX10_two_13 : decode cX10_two 13 = .ok (.ifCond .ne 6, 3) := by decide +kernel
theorem dX10_two_19 : decode cX10_two 19 = .ok (.aload_n 0, 1) := by decide +kernel
theorem dX10_two_20 : decode cX10_two 20 = .ok (.getfield 65, 3) := by decide +kernel
theorem dX10_two_23 : decode cX10_two 23 = .ok (.aload_n 0, 1) := by decide +kernel
theorem dX10_two_24 : decode cX10_two 24 = .ok (.getfield 31, 3) := by decide +kernel
theorem dX10_two_27 : decode cX10_two 27 = .ok (.getfield 98, 3) := by decide +kernel
theorem dX10_two_30 : decode cX10_two 30 = .ok (.iload_n 1, 1) := by decide +kernel
theorem dX10_two_31 : decode cX10_two 31 = .ok (.iload_n 2, 1) := by decide +kernel
theorem dX10_two_32 : decode cX10_two 32 = .ok (.iconst 0, 1) := by decide +kernel
theorem dX10_two_33 : decode cX10_two 33 = .ok (.invokevirtual 253, 3) := by decide +kernel
theorem dX10_two_36 : decode cX10_two 36 = .ok (.pop, 1) := by decide +kernel
theorem dX10_two_37 : decode cX10_two 37 = .ok (.aload_n 0, 1) := by decide +kernel
theorem dX10_two_38 : decode cX10_two 38 = .ok (.getfield 65, 3) := by decide +kernel
theorem dX10_two_41 : decode cX10_two 41 = .ok (.invokevirtual 257, 3) := by decide +kernel
theorem dX10_two_44 : decode cX10_two 44 = .ok (.ireturn, 1) := by decide +kernel
theorem dX10_way_0 : decode cX10_way 0 = .ok (.aload_n 0, 1) := by decide +kernel
theorem dX10_way_1 : decode cX10_way 1 = .ok (.iload_n 1, 1) := by decide +kernel
theorem dX10_way_2 : decode cX10_way 2 = .ok (.invokevirtual 120, 3) := by decide +kernel
theorem dX10_way_5 : decode cX10_way 5 = .ok (.ifCond .eq 20, 3) := by decide +kernel
theorem dX10_way_25 : decode cX10_way 25 = .ok (.bipush (-2), 2) := by decide +kernel
theorem dX10_way_27 : decode cX10_way 27 = .ok (.ireturn, 1) := by decide +kernel
theorem dX10_way_8 : decode cX10_way 8 = .ok (.aload_n 0, 1) := by decide +kernel
theorem dX10_way_9 : decode cX10_way 9 = .ok (.iload_n 2, 1) := by decide +kernel
theorem dX10_way_10 : decode cX10_way 10 = .ok (.invokevirtual 120, 3) := by decide +kernel
theorem dX10_way_13 : decode cX10_way 13 = .ok (.ifCond .eq 12, 3) := by decide +kernel
theorem dX10_way_16 : decode cX10_way 16 = .ok (.iload_n 3, 1) := by decide +kernel
theorem dX10_way_17 : decode cX10_way 17 = .ok (.ifCond .lt 8, 3) := by decide +kernel
theorem dX10_way_20 : decode cX10_way 20 = .ok (.iload_n 3, 1) := by decide +kernel
theorem dX10_way_21 : decode cX10_way 21 = .ok (.iconst 1, 1) := by decide +kernel
theorem dX10_way_22 : decode cX10_way 22 = .ok (.if_icmp .le 6, 3) := by decide +kernel
theorem dX10_way_28 : decode cX10_way 28 = .ok (.aload_n 0, 1) := by decide +kernel
theorem dX10_way_29 : decode cX10_way 29 = .ok (.getfield 65, 3) := by decide +kernel
theorem dX10_way_32 : decode cX10_way 32 = .ok (.aload_n 0, 1) := by decide +kernel
theorem dX10_way_33 : decode cX10_way 33 = .ok (.getfield 31, 3) := by decide +kernel
theorem dX10_way_36 : decode cX10_way 36 = .ok (.getfield 98, 3) := by decide +kernel
theorem dX10_way_39 : decode cX10_way 39 = .ok (.iload_n 1, 1) := by decide +kernel
theorem dX10_way_40 : decode cX10_way 40 = .ok (.iload_n 2, 1) := by decide +kernel
theorem dX10_way_41 : decode cX10_way 41 = .ok (.iconst 0, 1) := by decide +kernel
theorem dX10_way_42 : decode cX10_way 42 = .ok (.invokevirtual 253, 3) := by decide +kernel
theorem dX10_way_45 : decode cX10_way 45 = .ok (.pop, 1) := by decide +kernel
theorem dX10_way_46 : decode cX10_way 46 = .ok (.aload_n 0, 1) := by decide +kernel
theorem dX10_way_47 : decode cX10_way 47 = .ok (.getfield 65, 3) := by decide +kernel
theorem dX10_way_50 : decode cX10_way 50 = .ok (.iload_n 3, 1) := by decide +kernel
theorem dX10_way_51 : decode cX10_way 51 = .ok (.iload 4, 2) := by decide +kernel
theorem dX10_way_53 : decode cX10_way 53 = .ok (.invokevirtual 260, 3) := by decide +kernel
theorem dX10_way_56 : decode cX10_way 56 = .ok (.ireturn, 1) := by decide +kernel
theorem dX10_boys_0 : decode cX10_boys 0 = .ok (.aload_n 0, 1) := by decide +kernel
theorem dX10_boys_1 : decode cX10_boys 1 = .ok (.getfield 31, 3) := by decide +kernel
theorem dX10_boys_4 : decode cX10_boys 4 = .ok (.getfield 98, 3) := by decide +kernel
theorem dX10_boys_7 : decode cX10_boys 7 = .ok (.getfield 159, 3) := by decide +kernel
theorem dX10_boys_10 : decode cX10_boys 10 = .ok (.iconst 1, 1) := by decide +kernel
theorem dX10_boys_11 : decode cX10_boys 11 = .ok (.if_icmp .ge 6, 3) := by decide +kernel
theorem dX10_boys_17 : decode cX10_boys 17 = .ok (.iconst 0, 1) := by decide +kernel
theorem dX10_boys_18 : decode cX10_boys 18 = .ok (.istore_n 1, 1) := by decide +kernel
theorem dX10_boys_19 : decode cX10_boys 19 = .ok (.iload_n 1, 1) := by decide +kernel
theorem dX10_boys_20 : decode cX10_boys 20 = .ok (.aload_n 0, 1) := by decide +kernel
theorem dX10_boys_21 : decode cX10_boys 21 = .ok (.getfield 31, 3) := by decide +kernel
theorem dX10_boys_24 : decode cX10_boys 24 = .ok (.getfield 98, 3) := by decide +kernel
theorem dX10_boys_27 : decode cX10_boys 27 = .ok (.getfield 159, 3) := by decide +kernel
theorem dX10_boys_30 : decode cX10_boys 30 = .ok (.if_icmp .ge 31, 3) := by decide +kernel
theorem dX10_boys_61 : decode cX10_boys 61 = .ok (.aload_n 0, 1) := by decide +kernel
theorem dX10_boys_62 : decode cX10_boys 62 = .ok (.getfield 65, 3) := by decide +kernel
theorem dX10_boys_65 : decode cX10_boys 65 = .ok (.aload_n 0, 1) := by decide +kernel
theorem dX10_boys_66 : decode cX10_boys 66 = .ok (.getfield 31, 3) := by decide +kernel
theorem dX10_boys_69 : decode cX10_boys 69 = .ok (.getfield 98, 3) := by decide +kernel
theorem dX10_boys_72 : decode cX10_boys 72 = .ok (.invokevirtual 263, 3) := by decide +kernel
theorem dX10_boys_75 : decode cX10_boys 75 = .ok (.ifCond .le 7, 3) := by decide +kernel
theorem dX10_boys_82 : decode cX10_boys 82 = .ok (.iconst 3, 1) := by decide +kernel
theorem dX10_boys_83 : decode cX10_boys 83 = .ok (.ireturn, 1) := by decide +kernel
theorem dX10_boys_78 : decode cX10_boys 78 = .ok (.iconst 2, 1) := by decide +kernel
theorem dX10_boys_79 : decode cX10_boys 79 = .ok (.goto 4, 3) := by decide +kernel
theorem dX10_boys_33 : decode cX10_boys 33 = .ok (.aload_n 0, 1) := by decide +kernel
theorem dX10_boys_34 : decode cX10_boys 34 = .ok (.getfield 65, 3) := by decide +kernel
theorem dX10_boys_37 : decode cX10_boys 37 = .ok (.aload_n 0, 1) := by decide +kernel
theorem dX10_boys_38 : decode cX10_boys 38 = .ok (.getfield 31, 3) := by decide +kernel
theorem dX10_boys_41 : decode cX10_boys 41 = .ok (.getfield 98, 3) := by decide +kernel
theorem dX10_boys_44 : decode cX10_boys 44 = .ok (.iload_n 1, 1) := by decide +kernel
theorem dX10_boys_45 : decode cX10_boys 45 = .ok (.iload_n 1, 1) := by decide +kernel
theorem dX10_boys_46 : decode cX10_boys 46 = .ok (.iconst 1, 1) := by decide +kernel
theorem dX10_boys_47 : decode cX10_boys 47 = .ok (.invokevirtual 253, 3) := by decide +kernel
theorem dX10_boys_50 : decode cX10_boys 50 = .ok (.ifCond .eq 5, 3) := by decide +kernel
theorem dX10_boys_55 : decode cX10_boys 55 = .ok (.iinc 1 1, 3) := by decide +kernel
theorem dX10_boys_58 : decode cX10_boys 58 = .ok (.goto (-39), 3) := by decide +kernel
theorem dX10_boys_53 : decode cX10_boys 53 = .ok (.iconst 1, 1) := by decide +kernel
theorem dX10_boys_54 : decode cX10_boys 54 = .ok (.ireturn, 1) := by decide +kernel
theorem dX10_boys_14 : decode cX10_boys 14 = .ok (.bipush (-2), 2) := by decide +kernel
theorem dX10_boys_16 : decode cX10_boys 16 = .ok (.ireturn, 1) := by decide +kernel
theorem dX10_pairs_0 : decode cX10_pairs 0 = .ok (.aload_n 0, 1) := by decide +kernel
theorem dX10_pairs_1 : decode cX10_pairs 1 = .ok (.getfield 31, 3) := by decide +kernel
theorem dX10_pairs_4 : decode cX10_pairs 4 = .ok (.getfield 98, 3) := by decide +kernel
theorem dX10_pairs_7 : decode cX10_pairs 7 = .ok (.getfield 159, 3) := by decide +kernel
theorem dX10_pairs_10 : decode cX10_pairs 10 = .ok (.iconst 1, 1) := by decide +kernel
theorem dX10_pairs_11 : decode cX10_pairs 11 = .ok (.if_icmp .ge 8, 3) := by decide +kernel
theorem dX10_pairs_19 : decode cX10_pairs 19 = .ok (.aload_n 0, 1) := by decide +kernel
theorem dX10_pairs_20 : decode cX10_pairs 20 = .ok (.getfield 65, 3) := by decide +kernel
theorem dX10_pairs_23 : decode cX10_pairs 23 = .ok (.aload_n 0, 1) := by decide +kernel
theorem dX10_pairs_24 : decode cX10_pairs 24 = .ok (.getfield 31, 3) := by decide +kernel
theorem dX10_pairs_27 : decode cX10_pairs 27 = .ok (.getfield 98, 3) := by decide +kernel
theorem dX10_pairs_30 : decode cX10_pairs 30 = .ok (.invokevirtual 263, 3) := by decide +kernel
theorem dX10_pairs_33 : decode cX10_pairs 33 = .ok (.ireturn, 1) := by decide +kernel
theorem dX10_pairs_14 : decode cX10_pairs 14 = .ok (.bipush (-2), 2) := by decide +kernel
theorem dX10_pairs_16 : decode cX10_pairs 16 = .ok (.goto 17, 3) := by decide +kernel
theorem dX10_which_0 : decode cX10_which 0 = .ok (.aload_n 0, 1) := by decide +kernel
theorem dX10_which_1 : decode cX10_which 1 = .ok (.iload_n 1, 1) := by decide +kernel
theorem dX10_which_2 : decode cX10_which 2 = .ok (.invokevirtual 267, 3) := by decide +kernel
theorem dX10_which_5 : decode cX10_which 5 = .ok (.ifCond .eq 21, 3) := by decide +kernel
theorem dX10_which_26 : decode cX10_which 26 = .ok (.bipush (-2), 2) := by decide +kernel
theorem dX10_which_28 : decode cX10_which 28 = .ok (.ireturn, 1) := by decide +kernel
theorem dX10_which_8 : decode cX10_which 8 = .ok (.aload_n 0, 1) := by decide +kernel
theorem dX10_which_9 : decode cX10_which 9 = .ok (.getfield 72, 3) := by decide +kernel
theorem dX10_which_12 : decode cX10_which 12 = .ok (.aload_n 0, 1) := by decide +kernel
theorem dX10_which_13 : decode cX10_which 13 = .ok (.getfield 31, 3) := by decide +kernel
theorem dX10_which_16 : decode cX10_which 16 = .ok (.getfield 98, 3) := by decide +kernel
theorem dX10_which_19 : decode cX10_which 19 = .ok (.iload_n 1, 1) := by decide +kernel
theorem dX10_which_20 : decode cX10_which 20 = .ok (.invokevirtual 270, 3) := by decide +kernel
theorem dX10_which_23 : decode cX10_which 23 = .ok (.goto 5, 3) := by decide +kernel
theorem dX10_question_0 : decode cX10_question 0 = .ok (.aload_n 0, 1) := by decide +kernel
theorem dX10_question_1 : decode cX10_question 1 = .ok (.iload_n 1, 1) := by decide +kernel
theorem dX10_question_2 : decode cX10_question 2 = .ok (.invokevirtual 267, 3) := by decide +kernel
theorem dX10_question_5 : decode cX10_question 5 = .ok (.ifCond .eq 21, 3) := by decide +kernel
theorem dX10_question_26 : decode cX10_question 26 = .ok (.bipush (-2), 2) := by decide +kernel
theorem dX10_question_28 : decode cX10_question 28 = .ok (.ireturn, 1) := by decide +kernel
theorem dX10_question_8 : decode cX10_question 8 = .ok (.aload_n 0, 1) := by decide +kernel
theorem dX10_question_9 : decode cX10_question 9 = .ok (.getfield 72, 3) := by decide +kernel
theorem dX10_question_12 : decode cX10_question 12 = .ok (.aload_n 0, 1) := by decide +kernel
theorem dX10_question_13 : decode cX10_question 13 = .ok (.getfield 31, 3) := by decide +kernel
theorem dX10_question_16 : decode cX10_question 16 = .ok (.getfield 98, 3) := by decide +kernel
theorem dX10_question_19 : decode cX10_question 19 = .ok (.iload_n 1, 1) := by decide +kernel
theorem dX10_question_20 : decode cX10_question 20 = .ok (.invokevirtual 274, 3) := by decide +kernel
theorem dX10_question_23 : decode cX10_question 23 = .ok (.goto 5, 3) := by decide +kernel
theorem dX10_yes_0 : decode cX10_yes 0 = .ok (.aload_n 0, 1) := by decide +kernel
theorem dX10_yes_1 : decode cX10_yes 1 = .ok (.iload_n 1, 1) := by decide +kernel
theorem dX10_yes_2 : decode cX10_yes 2 = .ok (.invokevirtual 267, 3) := by decide +kernel
theorem dX10_yes_5 : decode cX10_yes 5 = .ok (.ifCond .eq 13, 3) := by decide +kernel
theorem dX10_yes_18 : decode cX10_yes 18 = .ok (.bipush (-2), 2) := by decide +kernel
theorem dX10_yes_20 : decode cX10_yes 20 = .ok (.ireturn, 1) := by decide +kernel
theorem dX10_yes_8 : decode cX10_yes 8 = .ok (.iload_n 2, 1) := by decide +kernel
theorem dX10_yes_9 : decode cX10_yes 9 = .ok (.ifCond .lt 9, 3) := by decide +kernel
theorem dX10_yes_12 : decode cX10_yes 12 = .ok (.iload_n 2, 1) := by decide +kernel
theorem dX10_yes_13 : decode cX10_yes 13 = .ok (.bipush 6, 2) := by decide +kernel
theorem dX10_yes_15 : decode cX10_yes 15 = .ok (.if_icmp .lt 6, 3) := by decide +kernel
theorem dX10_yes_21 : decode cX10_yes 21 = .ok (.aload_n 0, 1) := by decide +kernel
theorem dX10_yes_22 : decode cX10_yes 22 = .ok (.getfield 31, 3) := by decide +kernel
theorem dX10_yes_25 : decode cX10_yes 25 = .ok (.getfield 98, 3) := by decide +kernel
theorem dX10_yes_28 : decode cX10_yes 28 = .ok (.iload_n 1, 1) := by decide +kernel
theorem dX10_yes_29 : decode cX10_yes 29 = .ok (.iload_n 2, 1) := by decide +kernel
theorem dX10_yes_30 : decode cX10_yes 30 = .ok (.invokevirtual 277, 3) := by decide +kernel
theorem dX10_yes_33 : decode cX10_yes 33 = .ok (.ireturn, 1) := by decide +kernel
theorem dX10_list_0 : decode cX10_list 0 = .ok (.aload_n 0, 1) := by decide +kernel
theorem dX10_list_1 : decode cX10_list 1 = .ok (.iload_n 1, 1) := by decide +kernel
theorem dX10_list_2 : decode cX10_list 2 = .ok (.invokevirtual 267, 3) := by decide +kernel
theorem dX10_list_5 : decode cX10_list 5 = .ok (.ifCond .eq 21, 3) := by decide +kernel
theorem dX10_list_26 : decode cX10_list 26 = .ok (.bipush (-2), 2) := by decide +kernel
theorem dX10_list_28 : decode cX10_list 28 = .ok (.ireturn, 1) := by decide +kernel
theorem dX10_list_8 : decode cX10_list 8 = .ok (.aload_n 0, 1) := by decide +kernel
theorem dX10_list_9 : decode cX10_list 9 = .ok (.getfield 72, 3) := by decide +kernel
theorem dX10_list_12 : decode cX10_list 12 = .ok (.aload_n 0, 1) := by decide +kernel
theorem dX10_list_13 : decode cX10_list 13 = .ok (.getfield 31, 3) := by decide +kernel
theorem dX10_list_16 : decode cX10_list 16 = .ok (.getfield 98, 3) := by decide +kernel
theorem dX10_list_19 : decode cX10_list 19 = .ok (.iload_n 1, 1) := by decide +kernel
theorem dX10_list_20 : decode cX10_list 20 = .ok (.invokevirtual 280, 3) := by decide +kernel
theorem dX10_list_23 : decode cX10_list 23 = .ok (.goto 5, 3) := by decide +kernel
theorem dX10_meant_0 : decode cX10_meant 0 = .ok (.aload_n 0, 1) := by decide +kernel
theorem dX10_meant_1 : decode cX10_meant 1 = .ok (.iload_n 1, 1) := by decide +kernel
theorem dX10_meant_2 : decode cX10_meant 2 = .ok (.invokevirtual 267, 3) := by decide +kernel
theorem dX10_meant_5 : decode cX10_meant 5 = .ok (.ifCond .eq 28, 3) := by decide +kernel
theorem dX10_meant_33 : decode cX10_meant 33 = .ok (.bipush (-2), 2) := by decide +kernel
theorem dX10_meant_35 : decode cX10_meant 35 = .ok (.ireturn, 1) := by decide +kernel
theorem dX10_meant_8 : decode cX10_meant 8 = .ok (.aload_n 0, 1) := by decide +kernel
theorem dX10_meant_9 : decode cX10_meant 9 = .ok (.iload_n 2, 1) := by decide +kernel
theorem dX10_meant_10 : decode cX10_meant 10 = .ok (.invokevirtual 128, 3) := by decide +kernel
theorem dX10_meant_13 : decode cX10_meant 13 = .ok (.ifCond .eq 20, 3) := by decide +kernel
theorem dX10_meant_16 : decode cX10_meant 16 = .ok (.iload_n 1, 1) := by decide +kernel
theorem dX10_meant_17 : decode cX10_meant 17 = .ok (.iload_n 2, 1) := by decide +kernel
theorem dX10_meant_18 : decode cX10_meant 18 = .ok (.ishr, 1) := by decide +kernel
theorem dX10_meant_19 : decode cX10_meant 19 = .ok (.iconst 1, 1) := by decide +kernel
theorem dX10_meant_20 : decode cX10_meant 20 = .ok (.iand, 1) := by decide +kernel
theorem dX10_meant_21 : decode cX10_meant 21 = .ok (.ifCond .eq 12, 3) := by decide +kernel
theorem dX10_meant_24 : decode cX10_meant 24 = .ok (.iload_n 3, 1) := by decide +kernel
theorem dX10_meant_25 : decode cX10_meant 25 = .ok (.ifCond .lt 8, 3) := by decide +kernel
theorem dX10_meant_28 : decode cX10_meant 28 = .ok (.iload_n 3, 1) := by decide +kernel
theorem dX10_meant_29 : decode cX10_meant 29 = .ok (.iconst 1, 1) := by decide +kernel
theorem dX10_meant_30 : decode cX10_meant 30 = .ok (.if_icmp .le 6, 3) := by decide +kernel
theorem dX10_meant_36 : decode cX10_meant 36 = .ok (.iconst 0, 1) := by decide +kernel
theorem dX10_meant_37 : decode cX10_meant 37 = .ok (.istore 4, 2) := by decide +kernel
theorem dX10_meant_39 : decode cX10_meant 39 = .ok (.iconst 0, 1) := by decide +kernel
theorem dX10_meant_40 : decode cX10_meant 40 = .ok (.istore 5, 2) := by decide +kernel
theorem dX10_meant_42 : decode cX10_meant 42 = .ok (.iload 5, 2) := by decide +kernel
theorem dX10_meant_44 : decode cX10_meant 44 = .ok (.aload_n 0, 1) := by decide +kernel
theorem dX10_meant_45 : decode cX10_meant 45 = .ok (.getfield 31, 3) := by decide +kernel
theorem dX10_meant_48 : decode cX10_meant 48 = .ok (.getfield 98, 3) := by decide +kernel
theorem dX10_meant_51 : decode cX10_meant 51 = .ok (.getfield 283, 3) := by decide +kernel
theorem dX10_meant_54 : decode cX10_meant 54 = .ok (.if_icmp .ge 36, 3) := by decide +kernel
theorem dX10_meant_90 : decode cX10_meant 90 = .ok (.aload_n 0, 1) := by decide +kernel
theorem dX10_meant_91 : decode cX10_meant 91 = .ok (.getfield 72, 3) := by decide +kernel
theorem dX10_meant_94 : decode cX10_meant 94 = .ok (.aload_n 0, 1) := by decide +kernel
theorem dX10_meant_95 : decode cX10_meant 95 = .ok (.getfield 31, 3) := by decide +kernel
theorem dX10_meant_98 : decode cX10_meant 98 = .ok (.getfield 98, 3) := by decide +kernel
theorem dX10_meant_101 : decode cX10_meant 101 = .ok (.getfield 131, 3) := by decide +kernel
theorem dX10_meant_104 : decode cX10_meant 104 = .ok (.iload_n 2, 1) := by decide +kernel
theorem dX10_meant_105 : decode cX10_meant 105 = .ok (.iaload, 1) := by decide +kernel
theorem dX10_meant_106 : decode cX10_meant 106 = .ok (.i2l, 1) := by decide +kernel
theorem dX10_meant_107 : decode cX10_meant 107 = .ok (.iload 4, 2) := by decide +kernel
theorem dX10_meant_109 : decode cX10_meant 109 = .ok (.i2l, 1) := by decide +kernel
theorem dX10_meant_110 : decode cX10_meant 110 = .ok (.iload_n 3, 1) := by decide +kernel
theorem dX10_meant_111 : decode cX10_meant 111 = .ok (.invokevirtual 285, 3) := by decide +kernel
theorem dX10_meant_114 : decode cX10_meant 114 = .ok (.l2i, 1) := by decide +kernel
theorem dX10_meant_115 : decode cX10_meant 115 = .ok (.ireturn, 1) := by decide +kernel
theorem dX10_meant_57 : decode cX10_meant 57 = .ok (.iload_n 1, 1) := by decide +kernel
theorem dX10_meant_58 : decode cX10_meant 58 = .ok (.iload 5, 2) := by decide +kernel
theorem dX10_meant_60 : decode cX10_meant 60 = .ok (.ishr, 1) := by decide +kernel
theorem dX10_meant_61 : decode cX10_meant 61 = .ok (.iconst 1, 1) := by decide +kernel
theorem dX10_meant_62 : decode cX10_meant 62 = .ok (.iand, 1) := by decide +kernel
theorem dX10_meant_84 : decode cX10_meant 84 = .ok (.iinc 5 1, 3) := by decide +kernel
theorem dX10_meant_87 : decode cX10_meant 87 = .ok (.goto (-45), 3) := by decide +kernel
theorem dX10_meant_63 : decode cX10_meant 63 = .ok (.ifCond .eq 21, 3) := by decide +kernel
theorem dX10_meant_66 : decode cX10_meant 66 = .ok (.iload 4, 2) := by decide +kernel
theorem dX10_meant_68 : decode cX10_meant 68 = .ok (.aload_n 0, 1) := by decide +kernel
theorem dX10_meant_69 : decode cX10_meant 69 = .ok (.getfield 31, 3) := by decide +kernel
theorem dX10_meant_72 : decode cX10_meant 72 = .ok (.getfield 98, 3) := by decide +kernel
theorem dX10_meant_75 : decode cX10_meant 75 = .ok (.getfield 131, 3) := by decide +kernel
theorem dX10_meant_78 : decode cX10_meant 78 = .ok (.iload 5, 2) := by decide +kernel
theorem dX10_meant_80 : decode cX10_meant 80 = .ok (.iaload, 1) := by decide +kernel
theorem dX10_meant_81 : decode cX10_meant 81 = .ok (.iadd, 1) := by decide +kernel
theorem dX10_meant_82 : decode cX10_meant 82 = .ok (.istore 4, 2) := by decide +kernel
theorem dX10_read_0 : decode cX10_read 0 = .ok (.aload_n 0, 1) := by decide +kernel
theorem dX10_read_1 : decode cX10_read 1 = .ok (.iload_n 1, 1) := by decide +kernel
theorem dX10_read_2 : decode cX10_read 2 = .ok (.invokevirtual 128, 3) := by decide +kernel
theorem dX10_read_5 : decode cX10_read 5 = .ok (.ifCond .eq 20, 3) := by decide +kernel
theorem dX10_read_25 : decode cX10_read 25 = .ok (.ldc2_w 289, 3) := by decide +kernel
theorem dX10_read_28 : decode cX10_read 28 = .ok (.lreturn, 1) := by decide +kernel
theorem dX10_read_8 : decode cX10_read 8 = .ok (.aload_n 0, 1) := by decide +kernel
theorem dX10_read_9 : decode cX10_read 9 = .ok (.iload_n 2, 1) := by decide +kernel
theorem dX10_read_10 : decode cX10_read 10 = .ok (.invokevirtual 128, 3) := by decide +kernel
theorem dX10_read_13 : decode cX10_read 13 = .ok (.ifCond .eq 12, 3) := by decide +kernel
theorem dX10_read_16 : decode cX10_read 16 = .ok (.iload_n 3, 1) := by decide +kernel
theorem dX10_read_17 : decode cX10_read 17 = .ok (.ifCond .lt 8, 3) := by decide +kernel
theorem dX10_read_20 : decode cX10_read 20 = .ok (.iload_n 3, 1) := by decide +kernel
theorem dX10_read_21 : decode cX10_read 21 = .ok (.iconst 1, 1) := by decide +kernel
theorem dX10_read_22 : decode cX10_read 22 = .ok (.if_icmp .le 7, 3) := by decide +kernel
theorem dX10_read_29 : decode cX10_read 29 = .ok (.aload_n 0, 1) := by decide +kernel
theorem dX10_read_30 : decode cX10_read 30 = .ok (.getfield 72, 3) := by decide +kernel
theorem dX10_read_33 : decode cX10_read 33 = .ok (.aload_n 0, 1) := by decide +kernel
theorem dX10_read_34 : decode cX10_read 34 = .ok (.getfield 72, 3) := by decide +kernel
theorem dX10_read_37 : decode cX10_read 37 = .ok (.aload_n 0, 1) := by decide +kernel
theorem dX10_read_38 : decode cX10_read 38 = .ok (.getfield 31, 3) := by decide +kernel
theorem dX10_read_41 : decode cX10_read 41 = .ok (.getfield 98, 3) := by decide +kernel
theorem dX10_read_44 : decode cX10_read 44 = .ok (.iload_n 1, 1) := by decide +kernel
theorem dX10_read_45 : decode cX10_read 45 = .ok (.iload_n 2, 1) := by decide +kernel
theorem dX10_read_46 : decode cX10_read 46 = .ok (.invokevirtual 291, 3) := by decide +kernel
theorem dX10_read_49 : decode cX10_read 49 = .ok (.aload_n 0, 1) := by decide +kernel
theorem dX10_read_50 : decode cX10_read 50 = .ok (.getfield 72, 3) := by decide +kernel
theorem dX10_read_53 : decode cX10_read 53 = .ok (.aload_n 0, 1) := by decide +kernel
theorem dX10_read_54 : decode cX10_read 54 = .ok (.getfield 31, 3) := by decide +kernel
theorem dX10_read_57 : decode cX10_read 57 = .ok (.getfield 98, 3) := by decide +kernel
theorem dX10_read_60 : decode cX10_read 60 = .ok (.iload_n 2, 1) := by decide +kernel
theorem dX10_read_61 : decode cX10_read 61 = .ok (.invokevirtual 295, 3) := by decide +kernel
theorem dX10_read_64 : decode cX10_read 64 = .ok (.iload_n 3, 1) := by decide +kernel
theorem dX10_read_65 : decode cX10_read 65 = .ok (.invokevirtual 285, 3) := by decide +kernel
theorem dX10_read_68 : decode cX10_read 68 = .ok (.lreturn, 1) := by decide +kernel
theorem dX10_guess_0 : decode cX10_guess 0 = .ok (.aload_n 0, 1) := by decide +kernel
theorem dX10_guess_1 : decode cX10_guess 1 = .ok (.iload_n 1, 1) := by decide +kernel
theorem dX10_guess_2 : decode cX10_guess 2 = .ok (.invokevirtual 128, 3) := by decide +kernel
theorem dX10_guess_5 : decode cX10_guess 5 = .ok (.ifCond .ne 6, 3) := by decide +kernel
theorem dX10_guess_11 : decode cX10_guess 11 = .ok (.iconst (-1), 1) := by decide +kernel
theorem dX10_guess_12 : decode cX10_guess 12 = .ok (.istore_n 2, 1) := by decide +kernel
theorem dX10_guess_13 : decode cX10_guess 13 = .ok (.lconst 0, 1) := by decide +kernel
theorem dX10_guess_14 : decode cX10_guess 14 = .ok (.lstore_n 3, 1) := by decide +kernel
theorem dX10_guess_15 : decode cX10_guess 15 = .ok (.iconst 0, 1) := by decide +kernel
theorem dX10_guess_16 : decode cX10_guess 16 = .ok (.istore 5, 2) := by decide +kernel
theorem dX10_guess_18 : decode cX10_guess 18 = .ok (.iload 5, 2) := by decide +kernel
theorem dX10_guess_20 : decode cX10_guess 20 = .ok (.aload_n 0, 1) := by decide +kernel
theorem dX10_guess_21 : decode cX10_guess 21 = .ok (.getfield 31, 3) := by decide +kernel
theorem dX10_guess_24 : decode cX10_guess 24 = .ok (.getfield 98, 3) := by decide +kernel
theorem dX10_guess_27 : decode cX10_guess 27 = .ok (.getfield 283, 3) := by decide +kernel
theorem dX10_guess_30 : decode cX10_guess 30 = .ok (.if_icmp .ge 41, 3) := by decide +kernel
theorem dX10_guess_71 : decode cX10_guess 71 = .ok (.iload_n 2, 1) := by decide +kernel
theorem dX10_guess_72 : decode cX10_guess 72 = .ok (.ireturn, 1) := by decide +kernel
theorem dX10_guess_33 : decode cX10_guess 33 = .ok (.aload_n 0, 1) := by decide +kernel
theorem dX10_guess_34 : decode cX10_guess 34 = .ok (.getfield 72, 3) := by decide +kernel
theorem dX10_guess_37 : decode cX10_guess 37 = .ok (.aload_n 0, 1) := by decide +kernel
theorem dX10_guess_38 : decode cX10_guess 38 = .ok (.getfield 31, 3) := by decide +kernel
theorem dX10_guess_41 : decode cX10_guess 41 = .ok (.getfield 98, 3) := by decide +kernel
theorem dX10_guess_44 : decode cX10_guess 44 = .ok (.iload 5, 2) := by decide +kernel
theorem dX10_guess_46 : decode cX10_guess 46 = .ok (.iload_n 1, 1) := by decide +kernel
theorem dX10_guess_47 : decode cX10_guess 47 = .ok (.invokevirtual 291, 3) := by decide +kernel
theorem dX10_guess_50 : decode cX10_guess 50 = .ok (.lstore 6, 2) := by decide +kernel
theorem dX10_guess_52 : decode cX10_guess 52 = .ok (.lload 6, 2) := by decide +kernel
theorem dX10_guess_54 : decode cX10_guess 54 = .ok (.lload_n 3, 1) := by decide +kernel
theorem dX10_guess_55 : decode cX10_guess 55 = .ok (.lcmp, 1) := by decide +kernel
theorem dX10_guess_65 : decode cX10_guess 65 = .ok (.iinc 5 1, 3) := by decide +kernel
theorem dX10_guess_68 : decode cX10_guess 68 = .ok (.goto (-50), 3) := by decide +kernel
theorem dX10_guess_56 : decode cX10_guess 56 = .ok (.ifCond .le 9, 3) := by decide +kernel
theorem dX10_guess_59 : decode cX10_guess 59 = .ok (.lload 6, 2) := by decide +kernel
theorem dX10_guess_61 : decode cX10_guess 61 = .ok (.lstore_n 3, 1) := by decide +kernel
theorem dX10_guess_62 : decode cX10_guess 62 = .ok (.iload 5, 2) := by decide +kernel
theorem dX10_guess_64 : decode cX10_guess 64 = .ok (.istore_n 2, 1) := by decide +kernel
theorem dX10_guess_8 : decode cX10_guess 8 = .ok (.bipush (-2), 2) := by decide +kernel
theorem dX10_guess_10 : decode cX10_guess 10 = .ok (.ireturn, 1) := by decide +kernel
theorem dX10_right_0 : decode cX10_right 0 = .ok (.aload_n 0, 1) := by decide +kernel
theorem dX10_right_1 : decode cX10_right 1 = .ok (.getfield 31, 3) := by decide +kernel
theorem dX10_right_4 : decode cX10_right 4 = .ok (.getfield 98, 3) := by decide +kernel
theorem dX10_right_7 : decode cX10_right 7 = .ok (.getfield 283, 3) := by decide +kernel
theorem dX10_right_10 : decode cX10_right 10 = .ok (.iconst 1, 1) := by decide +kernel
theorem dX10_right_11 : decode cX10_right 11 = .ok (.if_icmp .lt 12, 3) := by decide +kernel
theorem dX10_right_23 : decode cX10_right 23 = .ok (.ldc2_w 289, 3) := by decide +kernel
theorem dX10_right_26 : decode cX10_right 26 = .ok (.lreturn, 1) := by decide +kernel
theorem dX10_right_14 : decode cX10_right 14 = .ok (.iload_n 1, 1) := by decide +kernel
theorem dX10_right_15 : decode cX10_right 15 = .ok (.ifCond .lt 8, 3) := by decide +kernel
theorem dX10_right_18 : decode cX10_right 18 = .ok (.iload_n 1, 1) := by decide +kernel
theorem dX10_right_19 : decode cX10_right 19 = .ok (.iconst 1, 1) := by decide +kernel
theorem dX10_right_20 : decode cX10_right 20 = .ok (.if_icmp .le 7, 3) := by decide +kernel
theorem dX10_right_27 : decode cX10_right 27 = .ok (.lconst 0, 1) := by decide +kernel
theorem dX10_right_28 : decode cX10_right 28 = .ok (.lstore_n 2, 1) := by decide +kernel
theorem dX10_right_29 : decode cX10_right 29 = .ok (.lconst 0, 1) := by decide +kernel
theorem dX10_right_30 : decode cX10_right 30 = .ok (.lstore 4, 2) := by decide +kernel
theorem dX10_right_32 : decode cX10_right 32 = .ok (.iconst 0, 1) := by decide +kernel
theorem dX10_right_33 : decode cX10_right 33 = .ok (.istore 6, 2) := by decide +kernel
theorem dX10_right_35 : decode cX10_right 35 = .ok (.iload 6, 2) := by decide +kernel
theorem dX10_right_37 : decode cX10_right 37 = .ok (.aload_n 0, 1) := by decide +kernel
theorem dX10_right_38 : decode cX10_right 38 = .ok (.getfield 31, 3) := by decide +kernel
theorem dX10_right_41 : decode cX10_right 41 = .ok (.getfield 98, 3) := by decide +kernel
theorem dX10_right_44 : decode cX10_right 44 = .ok (.getfield 283, 3) := by decide +kernel
theorem dX10_right_47 : decode cX10_right 47 = .ok (.if_icmp .ge 51, 3) := by decide +kernel
theorem dX10_right_98 : decode cX10_right 98 = .ok (.aload_n 0, 1) := by decide +kernel
theorem dX10_right_99 : decode cX10_right 99 = .ok (.getfield 72, 3) := by decide +kernel
theorem dX10_right_102 : decode cX10_right 102 = .ok (.lload_n 2, 1) := by decide +kernel
theorem dX10_right_103 : decode cX10_right 103 = .ok (.lload 4, 2) := by decide +kernel
theorem dX10_right_105 : decode cX10_right 105 = .ok (.iload_n 1, 1) := by decide +kernel
theorem dX10_right_106 : decode cX10_right 106 = .ok (.invokevirtual 285, 3) := by decide +kernel
theorem dX10_right_109 : decode cX10_right 109 = .ok (.lreturn, 1) := by decide +kernel
theorem dX10_right_50 : decode cX10_right 50 = .ok (.lload_n 2, 1) := by decide +kernel
theorem dX10_right_51 : decode cX10_right 51 = .ok (.aload_n 0, 1) := by decide +kernel
theorem dX10_right_52 : decode cX10_right 52 = .ok (.getfield 72, 3) := by decide +kernel
theorem dX10_right_55 : decode cX10_right 55 = .ok (.aload_n 0, 1) := by decide +kernel
theorem dX10_right_56 : decode cX10_right 56 = .ok (.getfield 31, 3) := by decide +kernel
theorem dX10_right_59 : decode cX10_right 59 = .ok (.getfield 98, 3) := by decide +kernel
theorem dX10_right_62 : decode cX10_right 62 = .ok (.iload 6, 2) := by decide +kernel
theorem dX10_right_64 : decode cX10_right 64 = .ok (.iload 6, 2) := by decide +kernel
theorem dX10_right_66 : decode cX10_right 66 = .ok (.invokevirtual 291, 3) := by decide +kernel
theorem dX10_right_69 : decode cX10_right 69 = .ok (.ladd, 1) := by decide +kernel
theorem dX10_right_70 : decode cX10_right 70 = .ok (.lstore_n 2, 1) := by decide +kernel
theorem dX10_right_71 : decode cX10_right 71 = .ok (.lload 4, 2) := by decide +kernel
theorem dX10_right_73 : decode cX10_right 73 = .ok (.aload_n 0, 1) := by decide +kernel
theorem dX10_right_74 : decode cX10_right 74 = .ok (.getfield 72, 3) := by decide +kernel
theorem dX10_right_77 : decode cX10_right 77 = .ok (.aload_n 0, 1) := by decide +kernel
theorem dX10_right_78 : decode cX10_right 78 = .ok (.getfield 31, 3) := by decide +kernel
theorem dX10_right_81 : decode cX10_right 81 = .ok (.getfield 98, 3) := by decide +kernel
theorem dX10_right_84 : decode cX10_right 84 = .ok (.iload 6, 2) := by decide +kernel
theorem dX10_right_86 : decode cX10_right 86 = .ok (.invokevirtual 295, 3) := by decide +kernel
theorem dX10_right_89 : decode cX10_right 89 = .ok (.ladd, 1) := by decide +kernel
theorem dX10_right_90 : decode cX10_right 90 = .ok (.lstore 4, 2) := by decide +kernel
theorem dX10_right_92 : decode cX10_right 92 = .ok (.iinc 6 1, 3) := by decide +kernel
theorem dX10_right_95 : decode cX10_right 95 = .ok (.goto (-60), 3) := by decide +kernel
theorem dX10_tell_0 : decode cX10_tell 0 = .ok (.aload_n 0, 1) := by decide +kernel
theorem dX10_tell_1 : decode cX10_tell 1 = .ok (.iload_n 1, 1) := by decide +kernel
theorem dX10_tell_2 : decode cX10_tell 2 = .ok (.invokevirtual 120, 3) := by decide +kernel
theorem dX10_tell_5 : decode cX10_tell 5 = .ok (.ifCond .eq 24, 3) := by decide +kernel
theorem dX10_tell_29 : decode cX10_tell 29 = .ok (.bipush (-2), 2) := by decide +kernel
theorem dX10_tell_31 : decode cX10_tell 31 = .ok (.ireturn, 1) := by decide +kernel
theorem dX10_tell_8 : decode cX10_tell 8 = .ok (.iload_n 2, 1) := by decide +kernel
theorem dX10_tell_9 : decode cX10_tell 9 = .ok (.ifCond .lt 20, 3) := by decide +kernel
theorem dX10_tell_12 : decode cX10_tell 12 = .ok (.iload_n 2, 1) := by decide +kernel
theorem dX10_tell_13 : decode cX10_tell 13 = .ok (.iconst 2, 1) := by decide +kernel
theorem dX10_tell_14 : decode cX10_tell 14 = .ok (.if_icmp .gt 15, 3) := by decide +kernel
theorem dX10_tell_17 : decode cX10_tell 17 = .ok (.iload_n 3, 1) := by decide +kernel
theorem dX10_tell_18 : decode cX10_tell 18 = .ok (.ifCond .lt 11, 3) := by decide +kernel
theorem dX10_tell_21 : decode cX10_tell 21 = .ok (.iload_n 3, 1) := by decide +kernel
theorem dX10_tell_22 : decode cX10_tell 22 = .ok (.iload_n 2, 1) := by decide +kernel
theorem dX10_tell_23 : decode cX10_tell 23 = .ok (.invokestatic 321, 3) := by decide +kernel
theorem dX10_tell_26 : decode cX10_tell 26 = .ok (.if_icmp .le 6, 3) := by decide +kernel
theorem dX10_tell_32 : decode cX10_tell 32 = .ok (.aload_n 0, 1) := by decide +kernel
theorem dX10_tell_33 : decode cX10_tell 33 = .ok (.getfield 31, 3) := by decide +kernel
theorem dX10_tell_36 : decode cX10_tell 36 = .ok (.getfield 105, 3) := by decide +kernel
theorem dX10_tell_39 : decode cX10_tell 39 = .ok (.ifCond .le 6, 3) := by decide +kernel
theorem dX10_tell_45 : decode cX10_tell 45 = .ok (.aload_n 0, 1) := by decide +kernel
theorem dX10_tell_46 : decode cX10_tell 46 = .ok (.getfield 31, 3) := by decide +kernel
theorem dX10_tell_49 : decode cX10_tell 49 = .ok (.getfield 98, 3) := by decide +kernel
theorem dX10_tell_52 : decode cX10_tell 52 = .ok (.iload_n 2, 1) := by decide +kernel
theorem dX10_tell_53 : decode cX10_tell 53 = .ok (.invokevirtual 124, 3) := by decide +kernel
theorem dX10_tell_56 : decode cX10_tell 56 = .ok (.astore 4, 2) := by decide +kernel
theorem dX10_tell_58 : decode cX10_tell 58 = .ok (.aload 4, 2) := by decide +kernel
theorem dX10_tell_60 : decode cX10_tell 60 = .ok (.iload_n 1, 1) := by decide +kernel
theorem dX10_tell_61 : decode cX10_tell 61 = .ok (.iaload, 1) := by decide +kernel
theorem dX10_tell_62 : decode cX10_tell 62 = .ok (.istore 5, 2) := by decide +kernel
theorem dX10_tell_64 : decode cX10_tell 64 = .ok (.aload 4, 2) := by decide +kernel
theorem dX10_tell_66 : decode cX10_tell 66 = .ok (.iload_n 1, 1) := by decide +kernel
theorem dX10_tell_67 : decode cX10_tell 67 = .ok (.iload_n 3, 1) := by decide +kernel
theorem dX10_tell_68 : decode cX10_tell 68 = .ok (.iastore, 1) := by decide +kernel
theorem dX10_tell_69 : decode cX10_tell 69 = .ok (.aload_n 0, 1) := by decide +kernel
theorem dX10_tell_70 : decode cX10_tell 70 = .ok (.invokevirtual 108, 3) := by decide +kernel
theorem dX10_tell_73 : decode cX10_tell 73 = .ok (.iload 5, 2) := by decide +kernel
theorem dX10_tell_75 : decode cX10_tell 75 = .ok (.ireturn, 1) := by decide +kernel
theorem dX10_tell_42 : decode cX10_tell 42 = .ok (.bipush (-5), 2) := by decide +kernel
theorem dX10_tell_44 : decode cX10_tell 44 = .ok (.ireturn, 1) := by decide +kernel
theorem dX10_shut_0 : decode cX10_shut 0 = .ok (.aload_n 0, 1) := by decide +kernel
theorem dX10_shut_1 : decode cX10_shut 1 = .ok (.iload_n 1, 1) := by decide +kernel
theorem dX10_shut_2 : decode cX10_shut 2 = .ok (.invokevirtual 120, 3) := by decide +kernel
theorem dX10_shut_5 : decode cX10_shut 5 = .ok (.ifCond .eq 25, 3) := by decide +kernel
theorem dX10_shut_30 : decode cX10_shut 30 = .ok (.bipush (-2), 2) := by decide +kernel
theorem dX10_shut_32 : decode cX10_shut 32 = .ok (.ireturn, 1) := by decide +kernel
theorem dX10_shut_8 : decode cX10_shut 8 = .ok (.aload_n 0, 1) := by decide +kernel
theorem dX10_shut_9 : decode cX10_shut 9 = .ok (.iload_n 2, 1) := by decide +kernel
theorem dX10_shut_10 : decode cX10_shut 10 = .ok (.invokevirtual 120, 3) := by decide +kernel
theorem dX10_shut_13 : decode cX10_shut 13 = .ok (.ifCond .eq 17, 3) := by decide +kernel
theorem dX10_shut_16 : decode cX10_shut 16 = .ok (.iload_n 1, 1) := by decide +kernel
theorem dX10_shut_17 : decode cX10_shut 17 = .ok (.iload_n 2, 1) := by decide +kernel
theorem dX10_shut_18 : decode cX10_shut 18 = .ok (.if_icmp .eq 12, 3) := by decide +kernel
theorem dX10_shut_21 : decode cX10_shut 21 = .ok (.iload_n 3, 1) := by decide +kernel
theorem dX10_shut_22 : decode cX10_shut 22 = .ok (.ifCond .lt 8, 3) := by decide +kernel
theorem dX10_shut_25 : decode cX10_shut 25 = .ok (.iload_n 3, 1) := by decide +kernel
theorem dX10_shut_26 : decode cX10_shut 26 = .ok (.iconst 1, 1) := by decide +kernel
theorem dX10_shut_27 : decode cX10_shut 27 = .ok (.if_icmp .le 6, 3) := by decide +kernel
theorem dX10_shut_33 : decode cX10_shut 33 = .ok (.aload_n 0, 1) := by decide +kernel
theorem dX10_shut_34 : decode cX10_shut 34 = .ok (.getfield 31, 3) := by decide +kernel
theorem dX10_shut_37 : decode cX10_shut 37 = .ok (.getfield 105, 3) := by decide +kernel
theorem dX10_shut_40 : decode cX10_shut 40 = .ok (.ifCond .le 6, 3) := by decide +kernel
theorem dX10_shut_46 : decode cX10_shut 46 = .ok (.aload_n 0, 1) := by decide +kernel
theorem dX10_shut_47 : decode cX10_shut 47 = .ok (.getfield 31, 3) := by decide +kernel
theorem dX10_shut_50 : decode cX10_shut 50 = .ok (.getfield 98, 3) := by decide +kernel
theorem dX10_shut_53 : decode cX10_shut 53 = .ok (.iload_n 1, 1) := by decide +kernel
theorem dX10_shut_54 : decode cX10_shut 54 = .ok (.iload_n 2, 1) := by decide +kernel
theorem dX10_shut_55 : decode cX10_shut 55 = .ok (.invokevirtual 324, 3) := by decide +kernel
theorem dX10_shut_58 : decode cX10_shut 58 = .ok (.istore 4, 2) := by decide +kernel
theorem dX10_shut_60 : decode cX10_shut 60 = .ok (.iload_n 3, 1) := by decide +kernel
theorem dX10_shut_61 : decode cX10_shut 61 = .ok (.iconst 1, 1) := by decide +kernel
theorem dX10_shut_92 : decode cX10_shut 92 = .ok (.iload 4, 2) := by decide +kernel
theorem dX10_shut_94 : decode cX10_shut 94 = .ok (.ifCond .eq 7, 3) := by decide +kernel
theorem dX10_shut_101 : decode cX10_shut 101 = .ok (.iconst 0, 1) := by decide +kernel
theorem dX10_shut_102 : decode cX10_shut 102 = .ok (.ireturn, 1) := by decide +kernel
theorem dX10_shut_97 : decode cX10_shut 97 = .ok (.iconst 1, 1) := by decide +kernel
theorem dX10_shut_98 : decode cX10_shut 98 = .ok (.goto 4, 3) := by decide +kernel
theorem dX10_shut_62 : decode cX10_shut 62 = .ok (.if_icmp .ne 18, 3) := by decide +kernel
theorem dX10_shut_80 : decode cX10_shut 80 = .ok (.aload_n 0, 1) := by decide +kernel
theorem dX10_shut_81 : decode cX10_shut 81 = .ok (.getfield 31, 3) := by decide +kernel
theorem dX10_shut_84 : decode cX10_shut 84 = .ok (.getfield 98, 3) := by decide +kernel
theorem dX10_shut_87 : decode cX10_shut 87 = .ok (.iload_n 1, 1) := by decide +kernel
theorem dX10_shut_88 : decode cX10_shut 88 = .ok (.iload_n 2, 1) := by decide +kernel
theorem dX10_shut_89 : decode cX10_shut 89 = .ok (.invokevirtual 332, 3) := by decide +kernel
theorem dX10_shut_65 : decode cX10_shut 65 = .ok (.aload_n 0, 1) := by decide +kernel
theorem dX10_shut_66 : decode cX10_shut 66 = .ok (.getfield 31, 3) := by decide +kernel
theorem dX10_shut_69 : decode cX10_shut 69 = .ok (.getfield 98, 3) := by decide +kernel
theorem dX10_shut_72 : decode cX10_shut 72 = .ok (.iload_n 1, 1) := by decide +kernel
theorem dX10_shut_73 : decode cX10_shut 73 = .ok (.iload_n 2, 1) := by decide +kernel
theorem dX10_shut_74 : decode cX10_shut 74 = .ok (.invokevirtual 328, 3) := by decide +kernel
theorem dX10_shut_77 : decode cX10_shut 77 = .ok (.goto 15, 3) := by decide +kernel
theorem dX10_shut_43 : decode cX10_shut 43 = .ok (.bipush (-5), 2) := by decide +kernel
theorem dX10_shut_45 : decode cX10_shut 45 = .ok (.ireturn, 1) := by decide +kernel
theorem dX10_count_0 : decode cX10_count 0 = .ok (.iload_n 1, 1) := by decide +kernel
theorem dX10_count_1 : decode cX10_count 1 = .ok (.tableswitch 127 0 7 #[47, 58, 69, 80, 95, 106, 114, 122], 47) := by decide +kernel
theorem dX10_count_128 : decode cX10_count 128 = .ok (.iconst (-1), 1) := by decide +kernel
theorem dX10_count_129 : decode cX10_count 129 = .ok (.ireturn, 1) := by decide +kernel
theorem dX10_count_48 : decode cX10_count 48 = .ok (.aload_n 0, 1) := by decide +kernel
theorem dX10_count_49 : decode cX10_count 49 = .ok (.getfield 31, 3) := by decide +kernel
theorem dX10_count_52 : decode cX10_count 52 = .ok (.getfield 98, 3) := by decide +kernel
theorem dX10_count_55 : decode cX10_count 55 = .ok (.getfield 159, 3) := by decide +kernel
theorem dX10_count_58 : decode cX10_count 58 = .ok (.ireturn, 1) := by decide +kernel
theorem dX10_count_59 : decode cX10_count 59 = .ok (.aload_n 0, 1) := by decide +kernel
theorem dX10_count_60 : decode cX10_count 60 = .ok (.getfield 31, 3) := by decide +kernel
theorem dX10_count_63 : decode cX10_count 63 = .ok (.getfield 98, 3) := by decide +kernel
theorem dX10_count_66 : decode cX10_count 66 = .ok (.invokevirtual 335, 3) := by decide +kernel
theorem dX10_count_69 : decode cX10_count 69 = .ok (.ireturn, 1) := by decide +kernel
theorem dX10_count_70 : decode cX10_count 70 = .ok (.aload_n 0, 1) := by decide +kernel
theorem dX10_count_71 : decode cX10_count 71 = .ok (.getfield 31, 3) := by decide +kernel
theorem dX10_count_74 : decode cX10_count 74 = .ok (.getfield 98, 3) := by decide +kernel
theorem dX10_count_77 : decode cX10_count 77 = .ok (.getfield 283, 3) := by decide +kernel
theorem dX10_count_80 : decode cX10_count 80 = .ok (.ireturn, 1) := by decide +kernel
theorem dX10_count_81 : decode cX10_count 81 = .ok (.aload_n 0, 1) := by decide +kernel
theorem dX10_count_82 : decode cX10_count 82 = .ok (.aload_n 0, 1) := by decide +kernel
theorem dX10_count_83 : decode cX10_count 83 = .ok (.getfield 31, 3) := by decide +kernel
theorem dX10_count_86 : decode cX10_count 86 = .ok (.getfield 98, 3) := by decide +kernel
theorem dX10_count_89 : decode cX10_count 89 = .ok (.invokevirtual 238, 3) := by decide +kernel
theorem dX10_count_92 : decode cX10_count 92 = .ok (.invokevirtual 247, 3) := by decide +kernel
theorem dX10_count_95 : decode cX10_count 95 = .ok (.ireturn, 1) := by decide +kernel
theorem dX10_count_96 : decode cX10_count 96 = .ok (.aload_n 0, 1) := by decide +kernel
theorem dX10_count_97 : decode cX10_count 97 = .ok (.getfield 31, 3) := by decide +kernel
theorem dX10_count_100 : decode cX10_count 100 = .ok (.getfield 98, 3) := by decide +kernel
theorem dX10_count_103 : decode cX10_count 103 = .ok (.getfield 111, 3) := by decide +kernel
theorem dX10_count_106 : decode cX10_count 106 = .ok (.ireturn, 1) := by decide +kernel
theorem dX10_count_107 : decode cX10_count 107 = .ok (.aload_n 0, 1) := by decide +kernel
theorem dX10_count_108 : decode cX10_count 108 = .ok (.getfield 20, 3) := by decide +kernel
theorem dX10_count_111 : decode cX10_count 111 = .ok (.getfield 84, 3) := by decide +kernel
theorem dX10_count_114 : decode cX10_count 114 = .ok (.ireturn, 1) := by decide +kernel
theorem dX10_count_115 : decode cX10_count 115 = .ok (.aload_n 0, 1) := by decide +kernel
theorem dX10_count_116 : decode cX10_count 116 = .ok (.getfield 31, 3) := by decide +kernel
theorem dX10_count_119 : decode cX10_count 119 = .ok (.getfield 105, 3) := by decide +kernel
theorem dX10_count_122 : decode cX10_count 122 = .ok (.ireturn, 1) := by decide +kernel
theorem dX10_count_123 : decode cX10_count 123 = .ok (.aload_n 0, 1) := by decide +kernel
theorem dX10_count_124 : decode cX10_count 124 = .ok (.invokevirtual 338, 3) := by decide +kernel
theorem dX10_count_127 : decode cX10_count 127 = .ok (.ireturn, 1) := by decide +kernel
theorem dX10_image_0 : decode cX10_image 0 = .ok (.iload_n 1, 1) := by decide +kernel
theorem dX10_image_1 : decode cX10_image 1 = .ok (.ifCond .lt 8, 3) := by decide +kernel
theorem dX10_image_4 : decode cX10_image 4 = .ok (.iload_n 1, 1) := by decide +kernel
theorem dX10_image_5 : decode cX10_image 5 = .ok (.iconst 3, 1) := by decide +kernel
theorem dX10_image_6 : decode cX10_image 6 = .ok (.if_icmp .lt 6, 3) := by decide +kernel
theorem dX10_image_12 : decode cX10_image 12 = .ok (.aload_n 0, 1) := by decide +kernel
theorem dX10_image_13 : decode cX10_image 13 = .ok (.getfield 35, 3) := by decide +kernel
theorem dX10_image_16 : decode cX10_image 16 = .ok (.iload_n 1, 1) := by decide +kernel
theorem dX10_image_17 : decode cX10_image 17 = .ok (.aaload, 1) := by decide +kernel
theorem dX10_image_18 : decode cX10_image 18 = .ok (.aload_n 0, 1) := by decide +kernel
theorem dX10_image_19 : decode cX10_image 19 = .ok (.getfield 31, 3) := by decide +kernel
theorem dX10_image_22 : decode cX10_image 22 = .ok (.invokevirtual 341, 3) := by decide +kernel
theorem dX10_image_25 : decode cX10_image 25 = .ok (.aload_n 0, 1) := by decide +kernel
theorem dX10_image_26 : decode cX10_image 26 = .ok (.getfield 35, 3) := by decide +kernel
theorem dX10_image_29 : decode cX10_image 29 = .ok (.iload_n 1, 1) := by decide +kernel
theorem dX10_image_30 : decode cX10_image 30 = .ok (.aaload, 1) := by decide +kernel
theorem dX10_image_31 : decode cX10_image 31 = .ok (.iconst 1, 1) := by decide +kernel
theorem dX10_image_32 : decode cX10_image 32 = .ok (.putfield 344, 3) := by decide +kernel
theorem dX10_image_35 : decode cX10_image 35 = .ok (.iconst 0, 1) := by decide +kernel
theorem dX10_image_36 : decode cX10_image 36 = .ok (.ireturn, 1) := by decide +kernel
theorem dX10_back_0 : decode cX10_back 0 = .ok (.iload_n 1, 1) := by decide +kernel
theorem dX10_back_1 : decode cX10_back 1 = .ok (.ifCond .lt 8, 3) := by decide +kernel
theorem dX10_back_4 : decode cX10_back 4 = .ok (.iload_n 1, 1) := by decide +kernel
theorem dX10_back_5 : decode cX10_back 5 = .ok (.iconst 3, 1) := by decide +kernel
theorem dX10_back_6 : decode cX10_back 6 = .ok (.if_icmp .lt 6, 3) := by decide +kernel
theorem dX10_back_12 : decode cX10_back 12 = .ok (.aload_n 0, 1) := by decide +kernel
theorem dX10_back_13 : decode cX10_back 13 = .ok (.getfield 35, 3) := by decide +kernel
theorem dX10_back_16 : decode cX10_back 16 = .ok (.iload_n 1, 1) := by decide +kernel
theorem dX10_back_17 : decode cX10_back 17 = .ok (.aaload, 1) := by decide +kernel
theorem dX10_back_18 : decode cX10_back 18 = .ok (.getfield 344, 3) := by decide +kernel
theorem dX10_back_21 : decode cX10_back 21 = .ok (.ifCond .ne 6, 3) := by decide +kernel
theorem dX10_back_27 : decode cX10_back 27 = .ok (.aload_n 0, 1) := by decide +kernel
theorem dX10_back_28 : decode cX10_back 28 = .ok (.getfield 31, 3) := by decide +kernel
theorem dX10_back_31 : decode cX10_back 31 = .ok (.aload_n 0, 1) := by decide +kernel
theorem dX10_back_32 : decode cX10_back 32 = .ok (.getfield 35, 3) := by decide +kernel
theorem dX10_back_35 : decode cX10_back 35 = .ok (.iload_n 1, 1) := by decide +kernel
theorem dX10_back_36 : decode cX10_back 36 = .ok (.aaload, 1) := by decide +kernel
theorem dX10_back_37 : decode cX10_back 37 = .ok (.invokevirtual 341, 3) := by decide +kernel
theorem dX10_back_40 : decode cX10_back 40 = .ok (.aload_n 0, 1) := by decide +kernel
theorem dX10_back_41 : decode cX10_back 41 = .ok (.invokevirtual 108, 3) := by decide +kernel
theorem dX10_back_44 : decode cX10_back 44 = .ok (.iconst 0, 1) := by decide +kernel
theorem dX10_back_45 : decode cX10_back 45 = .ok (.ireturn, 1) := by decide +kernel
theorem dX10_back_24 : decode cX10_back 24 = .ok (.bipush (-6), 2) := by decide +kernel
theorem dX10_back_26 : decode cX10_back 26 = .ok (.ireturn, 1) := by decide +kernel
theorem dX10_image_9 : decode cX10_image 9 = .ok (.bipush (-2), 2) := by decide +kernel
theorem dX10_image_11 : decode cX10_image 11 = .ok (.ireturn, 1) := by decide +kernel
theorem dX10_back_9 : decode cX10_back 9 = .ok (.bipush (-2), 2) := by decide +kernel
theorem dX10_back_11 : decode cX10_back 11 = .ok (.ireturn, 1) := by decide +kernel
theorem dX10_row_0 : decode cX10_row 0 = .ok (.aload_n 0, 1) := by decide +kernel
theorem dX10_row_1 : decode cX10_row 1 = .ok (.iload_n 1, 1) := by decide +kernel
theorem dX10_row_2 : decode cX10_row 2 = .ok (.invokevirtual 348, 3) := by decide +kernel
theorem dX10_row_5 : decode cX10_row 5 = .ok (.ifCond .eq 18, 3) := by decide +kernel
theorem dX10_row_23 : decode cX10_row 23 = .ok (.bipush (-2), 2) := by decide +kernel
theorem dX10_row_25 : decode cX10_row 25 = .ok (.ireturn, 1) := by decide +kernel
theorem dX10_row_8 : decode cX10_row 8 = .ok (.iload_n 2, 1) := by decide +kernel
theorem dX10_row_9 : decode cX10_row 9 = .ok (.ifCond .lt 14, 3) := by decide +kernel
theorem dX10_row_12 : decode cX10_row 12 = .ok (.iload_n 2, 1) := by decide +kernel
theorem dX10_row_13 : decode cX10_row 13 = .ok (.iconst 3, 1) := by decide +kernel
theorem dX10_row_14 : decode cX10_row 14 = .ok (.if_icmp .gt 9, 3) := by decide +kernel
theorem dX10_row_17 : decode cX10_row 17 = .ok (.iload_n 3, 1) := by decide +kernel
theorem dX10_row_18 : decode cX10_row 18 = .ok (.bipush 60, 2) := by decide +kernel
theorem dX10_row_20 : decode cX10_row 20 = .ok (.if_icmp .le 6, 3) := by decide +kernel
theorem dX10_row_26 : decode cX10_row 26 = .ok (.iload_n 3, 1) := by decide +kernel
theorem dX10_row_27 : decode cX10_row 27 = .ok (.ifCond .ge 6, 3) := by decide +kernel
theorem dX10_row_33 : decode cX10_row 33 = .ok (.aload_n 0, 1) := by decide +kernel
theorem dX10_row_34 : decode cX10_row 34 = .ok (.getfield 41, 3) := by decide +kernel
theorem dX10_row_37 : decode cX10_row 37 = .ok (.iload_n 1, 1) := by decide +kernel
theorem dX10_row_38 : decode cX10_row 38 = .ok (.aaload, 1) := by decide +kernel
theorem dX10_row_39 : decode cX10_row 39 = .ok (.iload_n 2, 1) := by decide +kernel
theorem dX10_row_40 : decode cX10_row 40 = .ok (.iload_n 3, 1) := by decide +kernel
theorem dX10_row_41 : decode cX10_row 41 = .ok (.invokevirtual 351, 3) := by decide +kernel
theorem dX10_row_44 : decode cX10_row 44 = .ok (.iconst 0, 1) := by decide +kernel
theorem dX10_row_45 : decode cX10_row 45 = .ok (.ireturn, 1) := by decide +kernel
theorem dX10_row_30 : decode cX10_row 30 = .ok (.bipush (-3), 2) := by decide +kernel
theorem dX10_row_32 : decode cX10_row 32 = .ok (.ireturn, 1) := by decide +kernel
theorem dX10_write_0 : decode cX10_write 0 = .ok (.aload_n 0, 1) := by decide +kernel
theorem dX10_write_1 : decode cX10_write 1 = .ok (.iload_n 1, 1) := by decide +kernel
theorem dX10_write_2 : decode cX10_write 2 = .ok (.invokevirtual 348, 3) := by decide +kernel
theorem dX10_write_5 : decode cX10_write 5 = .ok (.ifCond .ne 6, 3) := by decide +kernel
theorem dX10_write_11 : decode cX10_write 11 = .ok (.aload_n 0, 1) := by decide +kernel
theorem dX10_write_12 : decode cX10_write 12 = .ok (.getfield 41, 3) := by decide +kernel
theorem dX10_write_15 : decode cX10_write 15 = .ok (.iload_n 1, 1) := by decide +kernel
theorem dX10_write_16 : decode cX10_write 16 = .ok (.aaload, 1) := by decide +kernel
theorem dX10_write_17 : decode cX10_write 17 = .ok (.astore 5, 2) := by decide +kernel
theorem dX10_write_19 : decode cX10_write 19 = .ok (.aload 5, 2) := by decide +kernel
theorem dX10_write_21 : decode cX10_write 21 = .ok (.getfield 354, 3) := by decide +kernel
theorem dX10_write_24 : decode cX10_write 24 = .ok (.ifCond .ne 6, 3) := by decide +kernel
theorem dX10_write_30 : decode cX10_write 30 = .ok (.iload_n 2, 1) := by decide +kernel
theorem dX10_write_31 : decode cX10_write 31 = .ok (.ifCond .lt 12, 3) := by decide +kernel
theorem dX10_write_43 : decode cX10_write 43 = .ok (.bipush (-7), 2) := by decide +kernel
theorem dX10_write_45 : decode cX10_write 45 = .ok (.ireturn, 1) := by decide +kernel
theorem dX10_write_34 : decode cX10_write 34 = .ok (.iload_n 2, 1) := by decide +kernel
theorem dX10_write_35 : decode cX10_write 35 = .ok (.aload 5, 2) := by decide +kernel
theorem dX10_write_37 : decode cX10_write 37 = .ok (.getfield 194, 3) := by decide +kernel
theorem dX10_write_40 : decode cX10_write 40 = .ok (.if_icmp .lt 6, 3) := by decide +kernel
theorem dX10_write_46 : decode cX10_write 46 = .ok (.aload 5, 2) := by decide +kernel
theorem dX10_write_48 : decode cX10_write 48 = .ok (.getfield 357, 3) := by decide +kernel
theorem dX10_write_51 : decode cX10_write 51 = .ok (.iload_n 2, 1) := by decide +kernel
theorem dX10_write_52 : decode cX10_write 52 = .ok (.aload 5, 2) := by decide +kernel
theorem dX10_write_54 : decode cX10_write 54 = .ok (.lload_n 3, 1) := by decide +kernel
theorem dX10_write_55 : decode cX10_write 55 = .ok (.invokevirtual 361, 3) := by decide +kernel
theorem dX10_write_58 : decode cX10_write 58 = .ok (.lastore, 1) := by decide +kernel
theorem dX10_write_59 : decode cX10_write 59 = .ok (.iconst 0, 1) := by decide +kernel
theorem dX10_write_60 : decode cX10_write 60 = .ok (.ireturn, 1) := by decide +kernel
theorem dX10_write_27 : decode cX10_write 27 = .ok (.bipush (-6), 2) := by decide +kernel
theorem dX10_write_29 : decode cX10_write 29 = .ok (.ireturn, 1) := by decide +kernel
theorem dX10_write_8 : decode cX10_write 8 = .ok (.bipush (-2), 2) := by decide +kernel
theorem dX10_write_10 : decode cX10_write 10 = .ok (.ireturn, 1) := by decide +kernel
theorem dX10_paste_0 : decode cX10_paste 0 = .ok (.aload_n 0, 1) := by decide +kernel
theorem dX10_paste_1 : decode cX10_paste 1 = .ok (.iload_n 1, 1) := by decide +kernel
theorem dX10_paste_2 : decode cX10_paste 2 = .ok (.invokevirtual 348, 3) := by decide +kernel
theorem dX10_paste_5 : decode cX10_paste 5 = .ok (.ifCond .eq 11, 3) := by decide +kernel
theorem dX10_paste_16 : decode cX10_paste 16 = .ok (.bipush (-2), 2) := by decide +kernel
theorem dX10_paste_18 : decode cX10_paste 18 = .ok (.ireturn, 1) := by decide +kernel
theorem dX10_paste_8 : decode cX10_paste 8 = .ok (.aload_n 0, 1) := by decide +kernel
theorem dX10_paste_9 : decode cX10_paste 9 = .ok (.iload_n 3, 1) := by decide +kernel
theorem dX10_paste_10 : decode cX10_paste 10 = .ok (.invokevirtual 348, 3) := by decide +kernel
theorem dX10_paste_13 : decode cX10_paste 13 = .ok (.ifCond .ne 6, 3) := by decide +kernel
theorem dX10_paste_19 : decode cX10_paste 19 = .ok (.aload_n 0, 1) := by decide +kernel
theorem dX10_paste_20 : decode cX10_paste 20 = .ok (.getfield 41, 3) := by decide +kernel
theorem dX10_paste_23 : decode cX10_paste 23 = .ok (.iload_n 1, 1) := by decide +kernel
theorem dX10_paste_24 : decode cX10_paste 24 = .ok (.aaload, 1) := by decide +kernel
theorem dX10_paste_25 : decode cX10_paste 25 = .ok (.astore 6, 2) := by decide +kernel
theorem dX10_paste_27 : decode cX10_paste 27 = .ok (.aload_n 0, 1) := by decide +kernel
theorem dX10_paste_28 : decode cX10_paste 28 = .ok (.getfield 41, 3) := by decide +kernel
theorem dX10_paste_31 : decode cX10_paste 31 = .ok (.iload_n 3, 1) := by decide +kernel
theorem dX10_paste_32 : decode cX10_paste 32 = .ok (.aaload, 1) := by decide +kernel
theorem dX10_paste_33 : decode cX10_paste 33 = .ok (.astore 7, 2) := by decide +kernel
theorem dX10_paste_35 : decode cX10_paste 35 = .ok (.aload 6, 2) := by decide +kernel
theorem dX10_paste_37 : decode cX10_paste 37 = .ok (.getfield 354, 3) := by decide +kernel
theorem dX10_paste_40 : decode cX10_paste 40 = .ok (.ifCond .eq 11, 3) := by decide +kernel
theorem dX10_paste_51 : decode cX10_paste 51 = .ok (.bipush (-6), 2) := by decide +kernel
theorem dX10_paste_53 : decode cX10_paste 53 = .ok (.ireturn, 1) := by decide +kernel
theorem dX10_paste_43 : decode cX10_paste 43 = .ok (.aload 7, 2) := by decide +kernel
theorem dX10_paste_45 : decode cX10_paste 45 = .ok (.getfield 354, 3) := by decide +kernel
theorem dX10_paste_48 : decode cX10_paste 48 = .ok (.ifCond .ne 6, 3) := by decide +kernel
theorem dX10_paste_54 : decode cX10_paste 54 = .ok (.aload 6, 2) := by decide +kernel
theorem dX10_paste_56 : decode cX10_paste 56 = .ok (.getfield 365, 3) := by decide +kernel
theorem dX10_paste_59 : decode cX10_paste 59 = .ok (.aload 7, 2) := by decide +kernel
theorem dX10_paste_61 : decode cX10_paste 61 = .ok (.getfield 365, 3) := by decide +kernel
theorem dX10_paste_64 : decode cX10_paste 64 = .ok (.if_icmp .eq 6, 3) := by decide +kernel
theorem dX10_paste_70 : decode cX10_paste 70 = .ok (.aload 6, 2) := by decide +kernel
theorem dX10_paste_72 : decode cX10_paste 72 = .ok (.iload_n 2, 1) := by decide +kernel
theorem dX10_paste_73 : decode cX10_paste 73 = .ok (.iload 5, 2) := by decide +kernel
theorem dX10_paste_75 : decode cX10_paste 75 = .ok (.invokevirtual 368, 3) := by decide +kernel
theorem dX10_paste_78 : decode cX10_paste 78 = .ok (.ifCond .eq 15, 3) := by decide +kernel
theorem dX10_paste_93 : decode cX10_paste 93 = .ok (.bipush (-7), 2) := by decide +kernel
theorem dX10_paste_95 : decode cX10_paste 95 = .ok (.ireturn, 1) := by decide +kernel
theorem dX10_paste_81 : decode cX10_paste 81 = .ok (.aload 7, 2) := by decide +kernel
theorem dX10_paste_83 : decode cX10_paste 83 = .ok (.iload 4, 2) := by decide +kernel
theorem dX10_paste_85 : decode cX10_paste 85 = .ok (.iload 5, 2) := by decide +kernel
theorem dX10_paste_87 : decode cX10_paste 87 = .ok (.invokevirtual 368, 3) := by decide +kernel
theorem dX10_paste_90 : decode cX10_paste 90 = .ok (.ifCond .ne 6, 3) := by decide +kernel
theorem dX10_paste_96 : decode cX10_paste 96 = .ok (.aload 6, 2) := by decide +kernel
theorem dX10_paste_98 : decode cX10_paste 98 = .ok (.getfield 357, 3) := by decide +kernel
theorem dX10_paste_101 : decode cX10_paste 101 = .ok (.iload_n 2, 1) := by decide +kernel
theorem dX10_paste_102 : decode cX10_paste 102 = .ok (.aload 7, 2) := by decide +kernel
theorem dX10_paste_104 : decode cX10_paste 104 = .ok (.getfield 357, 3) := by decide +kernel
theorem dX10_paste_107 : decode cX10_paste 107 = .ok (.iload 4, 2) := by decide +kernel
theorem dX10_paste_109 : decode cX10_paste 109 = .ok (.iload 5, 2) := by decide +kernel
theorem dX10_paste_111 : decode cX10_paste 111 = .ok (.invokestatic 371, 3) := by decide +kernel
theorem dX10_paste_114 : decode cX10_paste 114 = .ok (.iconst 0, 1) := by decide +kernel
theorem dX10_paste_115 : decode cX10_paste 115 = .ok (.ireturn, 1) := by decide +kernel
theorem dX10_paste_67 : decode cX10_paste 67 = .ok (.bipush (-8), 2) := by decide +kernel
theorem dX10_paste_69 : decode cX10_paste 69 = .ok (.ireturn, 1) := by decide +kernel
