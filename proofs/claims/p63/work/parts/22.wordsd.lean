theorem dX11_in_0 : decode cX11_in 0 = .ok (.lload_n 0, 1) := by decide +kernel
theorem dX11_in_1 : decode cX11_in 1 = .ok (.lload_n 2, 1) := by decide +kernel
theorem dX11_in_2 : decode cX11_in 2 = .ok (.lcmp, 1) := by decide +kernel
theorem dX11_in_3 : decode cX11_in 3 = .ok (.ifCond .lt 14, 3) := by decide +kernel
theorem dX11_in_17 : decode cX11_in 17 = .ok (.iconst 0, 1) := by decide +kernel
theorem dX11_in_18 : decode cX11_in 18 = .ok (.ireturn, 1) := by decide +kernel
theorem dX11_in_6 : decode cX11_in 6 = .ok (.lload_n 0, 1) := by decide +kernel
theorem dX11_in_7 : decode cX11_in 7 = .ok (.lload 4, 2) := by decide +kernel
theorem dX11_in_9 : decode cX11_in 9 = .ok (.lcmp, 1) := by decide +kernel
theorem dX11_in_10 : decode cX11_in 10 = .ok (.ifCond .gt 7, 3) := by decide +kernel
theorem dX11_in_13 : decode cX11_in 13 = .ok (.iconst 1, 1) := by decide +kernel
theorem dX11_in_14 : decode cX11_in 14 = .ok (.goto 4, 3) := by decide +kernel
theorem dX11_bit_0 : decode cX11_bit 0 = .ok (.iload_n 0, 1) := by decide +kernel
theorem dX11_bit_1 : decode cX11_bit 1 = .ok (.iload_n 1, 1) := by decide +kernel
theorem dX11_bit_2 : decode cX11_bit 2 = .ok (.ishr, 1) := by decide +kernel
theorem dX11_bit_3 : decode cX11_bit 3 = .ok (.iconst 1, 1) := by decide +kernel
theorem dX11_bit_4 : decode cX11_bit 4 = .ok (.iand, 1) := by decide +kernel
theorem dX11_bit_5 : decode cX11_bit 5 = .ok (.ireturn, 1) := by decide +kernel
theorem dX11_bits_0 : decode cX11_bits 0 = .ok (.iconst 0, 1) := by decide +kernel
theorem dX11_bits_1 : decode cX11_bits 1 = .ok (.istore_n 1, 1) := by decide +kernel
theorem dX11_bits_2 : decode cX11_bits 2 = .ok (.iconst 0, 1) := by decide +kernel
theorem dX11_bits_3 : decode cX11_bits 3 = .ok (.istore_n 2, 1) := by decide +kernel
theorem dX11_bits_4 : decode cX11_bits 4 = .ok (.iload_n 2, 1) := by decide +kernel
theorem dX11_bits_5 : decode cX11_bits 5 = .ok (.bipush 8, 2) := by decide +kernel
theorem dX11_bits_7 : decode cX11_bits 7 = .ok (.if_icmp .ge 17, 3) := by decide +kernel
theorem dX11_bits_24 : decode cX11_bits 24 = .ok (.iload_n 1, 1) := by decide +kernel
theorem dX11_bits_25 : decode cX11_bits 25 = .ok (.ireturn, 1) := by decide +kernel
theorem dX11_bits_10 : decode cX11_bits 10 = .ok (.iload_n 1, 1) := by decide +kernel
theorem dX11_bits_11 : decode cX11_bits 11 = .ok (.iload_n 0, 1) := by decide +kernel
theorem dX11_bits_12 : decode cX11_bits 12 = .ok (.iload_n 2, 1) := by decide +kernel
theorem dX11_bits_13 : decode cX11_bits 13 = .ok (.ishr, 1) := by decide +kernel
theorem dX11_bits_14 : decode cX11_bits 14 = .ok (.iconst 1, 1) := by decide +kernel
theorem dX11_bits_15 : decode cX11_bits 15 = .ok (.iand, 1) := by decide +kernel
theorem dX11_bits_16 : decode cX11_bits 16 = .ok (.iadd, 1) := by decide +kernel
theorem dX11_bits_17 : decode cX11_bits 17 = .ok (.istore_n 1, 1) := by decide +kernel
theorem dX11_bits_18 : decode cX11_bits 18 = .ok (.iinc 2 1, 3) := by decide +kernel
theorem dX11_bits_21 : decode cX11_bits 21 = .ok (.goto (-17), 3) := by decide +kernel
theorem dX11_isHouse_0 : decode cX11_isHouse 0 = .ok (.aload_n 0, 1) := by decide +kernel
theorem dX11_isHouse_1 : decode cX11_isHouse 1 = .ok (.getfield 9, 3) := by decide +kernel
theorem dX11_isHouse_4 : decode cX11_isHouse 4 = .ok (.bipush 6, 2) := by decide +kernel
theorem dX11_isHouse_6 : decode cX11_isHouse 6 = .ok (.iaload, 1) := by decide +kernel
theorem dX11_isHouse_7 : decode cX11_isHouse 7 = .ok (.ifCond .le 7, 3) := by decide +kernel
theorem dX11_isHouse_14 : decode cX11_isHouse 14 = .ok (.iconst 0, 1) := by decide +kernel
theorem dX11_isHouse_15 : decode cX11_isHouse 15 = .ok (.ireturn, 1) := by decide +kernel
theorem dX11_isHouse_10 : decode cX11_isHouse 10 = .ok (.iconst 1, 1) := by decide +kernel
theorem dX11_isHouse_11 : decode cX11_isHouse 11 = .ok (.goto 4, 3) := by decide +kernel
theorem dX11_isRoom_0 : decode cX11_isRoom 0 = .ok (.lload_n 1, 1) := by decide +kernel
theorem dX11_isRoom_1 : decode cX11_isRoom 1 = .ok (.lconst 0, 1) := by decide +kernel
theorem dX11_isRoom_2 : decode cX11_isRoom 2 = .ok (.aload_n 0, 1) := by decide +kernel
theorem dX11_isRoom_3 : decode cX11_isRoom 3 = .ok (.getfield 9, 3) := by decide +kernel
theorem dX11_isRoom_6 : decode cX11_isRoom 6 = .ok (.iconst 4, 1) := by decide +kernel
theorem dX11_isRoom_7 : decode cX11_isRoom 7 = .ok (.iaload, 1) := by decide +kernel
theorem dX11_isRoom_8 : decode cX11_isRoom 8 = .ok (.iconst 1, 1) := by decide +kernel
theorem dX11_isRoom_9 : decode cX11_isRoom 9 = .ok (.isub, 1) := by decide +kernel
theorem dX11_isRoom_10 : decode cX11_isRoom 10 = .ok (.i2l, 1) := by decide +kernel
theorem dX11_isRoom_11 : decode cX11_isRoom 11 = .ok (.invokestatic 79, 3) := by decide +kernel
theorem dX11_isRoom_14 : decode cX11_isRoom 14 = .ok (.ireturn, 1) := by decide +kernel
theorem dX11_isRoomOrNone_0 : decode cX11_isRoomOrNone 0 = .ok (.aload_n 0, 1) := by decide +kernel
theorem dX11_isRoomOrNone_1 : decode cX11_isRoomOrNone 1 = .ok (.invokevirtual 83, 3) := by decide +kernel
theorem dX11_isRoomOrNone_15 : decode cX11_isRoomOrNone 15 = .ok (.aload_n 0, 1) := by decide +kernel
theorem dX11_isRoomOrNone_16 : decode cX11_isRoomOrNone 16 = .ok (.lload_n 1, 1) := by decide +kernel
theorem dX11_isRoomOrNone_17 : decode cX11_isRoomOrNone 17 = .ok (.invokevirtual 89, 3) := by decide +kernel
theorem dX11_isRoomOrNone_20 : decode cX11_isRoomOrNone 20 = .ok (.ifCond .eq 7, 3) := by decide +kernel
theorem dX11_isRoomOrNone_27 : decode cX11_isRoomOrNone 27 = .ok (.iconst 0, 1) := by decide +kernel
theorem dX11_isRoomOrNone_28 : decode cX11_isRoomOrNone 28 = .ok (.ireturn, 1) := by decide +kernel
theorem dX11_isRoomOrNone_23 : decode cX11_isRoomOrNone 23 = .ok (.iconst 1, 1) := by decide +kernel
theorem dX11_isRoomOrNone_24 : decode cX11_isRoomOrNone 24 = .ok (.goto 4, 3) := by decide +kernel
theorem dX11_isRoomOrNone_4 : decode cX11_isRoomOrNone 4 = .ok (.ifCond .eq 11, 3) := by decide +kernel
theorem dX11_isRoomOrNone_7 : decode cX11_isRoomOrNone 7 = .ok (.lload_n 1, 1) := by decide +kernel
theorem dX11_isRoomOrNone_8 : decode cX11_isRoomOrNone 8 = .ok (.ldc2_w 87, 3) := by decide +kernel
theorem dX11_isRoomOrNone_11 : decode cX11_isRoomOrNone 11 = .ok (.lcmp, 1) := by decide +kernel
theorem dX11_isRoomOrNone_12 : decode cX11_isRoomOrNone 12 = .ok (.ifCond .eq 11, 3) := by decide +kernel
theorem dX11_isMan_0 : decode cX11_isMan 0 = .ok (.iload_n 1, 1) := by decide +kernel
theorem dX11_isMan_1 : decode cX11_isMan 1 = .ok (.i2l, 1) := by decide +kernel
theorem dX11_isMan_2 : decode cX11_isMan 2 = .ok (.lconst 0, 1) := by decide +kernel
theorem dX11_isMan_3 : decode cX11_isMan 3 = .ok (.aload_n 0, 1) := by decide +kernel
theorem dX11_isMan_4 : decode cX11_isMan 4 = .ok (.getfield 9, 3) := by decide +kernel
theorem dX11_isMan_7 : decode cX11_isMan 7 = .ok (.iconst 5, 1) := by decide +kernel
theorem dX11_isMan_8 : decode cX11_isMan 8 = .ok (.iaload, 1) := by decide +kernel
theorem dX11_isMan_9 : decode cX11_isMan 9 = .ok (.iconst 1, 1) := by decide +kernel
theorem dX11_isMan_10 : decode cX11_isMan 10 = .ok (.isub, 1) := by decide +kernel
theorem dX11_isMan_11 : decode cX11_isMan 11 = .ok (.i2l, 1) := by decide +kernel
theorem dX11_isMan_12 : decode cX11_isMan 12 = .ok (.invokestatic 79, 3) := by decide +kernel
theorem dX11_isMan_15 : decode cX11_isMan 15 = .ok (.ireturn, 1) := by decide +kernel
theorem dX11_isSlot_0 : decode cX11_isSlot 0 = .ok (.iload_n 0, 1) := by decide +kernel
theorem dX11_isSlot_1 : decode cX11_isSlot 1 = .ok (.i2l, 1) := by decide +kernel
theorem dX11_isSlot_2 : decode cX11_isSlot 2 = .ok (.lconst 0, 1) := by decide +kernel
theorem dX11_isSlot_3 : decode cX11_isSlot 3 = .ok (.ldc2_w 225, 3) := by decide +kernel
theorem dX11_isSlot_6 : decode cX11_isSlot 6 = .ok (.invokestatic 79, 3) := by decide +kernel
theorem dX11_isSlot_9 : decode cX11_isSlot 9 = .ok (.ireturn, 1) := by decide +kernel
theorem dX11_isSeed_0 : decode cX11_isSeed 0 = .ok (.iload_n 0, 1) := by decide +kernel
theorem dX11_isSeed_1 : decode cX11_isSeed 1 = .ok (.i2l, 1) := by decide +kernel
theorem dX11_isSeed_2 : decode cX11_isSeed 2 = .ok (.lconst 0, 1) := by decide +kernel
theorem dX11_isSeed_3 : decode cX11_isSeed 3 = .ok (.ldc2_w 439, 3) := by decide +kernel
theorem dX11_isSeed_6 : decode cX11_isSeed 6 = .ok (.invokestatic 79, 3) := by decide +kernel
theorem dX11_isSeed_9 : decode cX11_isSeed 9 = .ok (.ireturn, 1) := by decide +kernel
