theorem dX11_in_0 : decode cX11_in 0 = .ok (.lload_n 0, 1) := by decide +kernel
theorem dX11_in_1 : decode cX11_in 1 = .ok (.lload_n 2, 1) := by decide +kernel
theorem dX11_in_2 : decode cX11_in 2 = .ok (.lcmp, 1) := by decide +kernel
theorem dX11_in_3 : decode cX11_in 3 = .ok (.ifCond .lt 14, 3) := by decide +kernel
theorem dX11_in_17 : decode cX11_in 17 = .ok (.iconst 0, 1) := by decide +kernel
theorem dX11_in_18 : decode cX11_in 18 = .ok (.ireturn, 1) := by decide +kernel
theorem dX11_in_6 : decode cX11_in 6 = .ok (.lload_n 0, 1) := by decide +kernel
theorem dX11_in_7 : decode cX11_in 7 = .ok (.lload 4, 2) := by decide +kernel
theorem dX11_in_9 : decode cX11_in 9 = .ok (.lcmp, 1) := by decide +kernel
theorem dX11_in_10 : decode cX11_in 10 = .ok (.ifCond .gt 7, 3) := by decide +kernel
theorem dX11_in_13 : decode cX11_in 13 = .ok (.iconst 1, 1) := by decide +kernel
theorem dX11_in_14 : decode cX11_in 14 = .ok (.goto 4, 3) := by decide +kernel
theorem dX11_bits_0 : decode cX11_bits 0 = .ok (.iconst 0, 1) := by decide +kernel
theorem dX11_bits_1 : decode cX11_bits 1 = .ok (.istore_n 1, 1) := by decide +kernel
theorem dX11_bits_2 : decode cX11_bits 2 = .ok (.iconst 0, 1) := by decide +kernel
theorem dX11_bits_3 : decode cX11_bits 3 = .ok (.istore_n 2, 1) := by decide +kernel
theorem dX11_bits_4 : decode cX11_bits 4 = .ok (.iload_n 2, 1) := by decide +kernel
theorem dX11_bits_5 : decode cX11_bits 5 = .ok (.bipush 8, 2) := by decide +kernel
theorem dX11_bits_7 : decode cX11_bits 7 = .ok (.if_icmp .ge 17, 3) := by decide +kernel
theorem dX11_bits_24 : decode cX11_bits 24 = .ok (.iload_n 1, 1) := by decide +kernel
theorem dX11_bits_25 : decode cX11_bits 25 = .ok (.ireturn, 1) := by decide +kernel
theorem dX11_bits_10 : decode cX11_bits 10 = .ok (.iload_n 1, 1) := by decide +kernel
theorem dX11_bits_11 : decode cX11_bits 11 = .ok (.iload_n 0, 1) := by decide +kernel
theorem dX11_bits_12 : decode cX11_bits 12 = .ok (.iload_n 2, 1) := by decide +kernel
theorem dX11_bits_13 : decode cX11_bits 13 = .ok (.ishr, 1) := by decide +kernel
theorem dX11_bits_14 : decode cX11_bits 14 = .ok (.iconst 1, 1) := by decide +kernel
theorem dX11_bits_15 : decode cX11_bits 15 = .ok (.iand, 1) := by decide +kernel
theorem dX11_bits_16 : decode cX11_bits 16 = .ok (.iadd, 1) := by decide +kernel
theorem dX11_bits_17 : decode cX11_bits 17 = .ok (.istore_n 1, 1) := by decide +kernel
theorem dX11_bits_18 : decode cX11_bits 18 = .ok (.iinc 2 1, 3) := by decide +kernel
theorem dX11_bits_21 : decode cX11_bits 21 = .ok (.goto (-17), 3) := by decide +kernel
theorem dX11_bit_0 : decode cX11_bit 0 = .ok (.iload_n 0, 1) := by decide +kernel
theorem dX11_bit_1 : decode cX11_bit 1 = .ok (.iload_n 1, 1) := by decide +kernel
theorem dX11_bit_2 : decode cX11_bit 2 = .ok (.ishr, 1) := by decide +kernel
theorem dX11_bit_3 : decode cX11_bit 3 = .ok (.iconst 1, 1) := by decide +kernel
theorem dX11_bit_4 : decode cX11_bit 4 = .ok (.iand, 1) := by decide +kernel
theorem dX11_bit_5 : decode cX11_bit 5 = .ok (.ireturn, 1) := by decide +kernel
theorem dX11_image_0 : decode cX11_image 0 = .ok (.iload_n 1, 1) := by decide +kernel
theorem dX11_image_1 : decode cX11_image 1 = .ok (.i2l, 1) := by decide +kernel
theorem dX11_image_2 : decode cX11_image 2 = .ok (.lconst 0, 1) := by decide +kernel
theorem dX11_image_3 : decode cX11_image 3 = .ok (.ldc2_w 77, 3) := by decide +kernel
theorem dX11_image_6 : decode cX11_image 6 = .ok (.invokestatic 79, 3) := by decide +kernel
theorem dX11_image_9 : decode cX11_image 9 = .ok (.ifCond .ne 6, 3) := by decide +kernel
theorem dX11_image_15 : decode cX11_image 15 = .ok (.iconst 0, 1) := by decide +kernel
theorem dX11_image_16 : decode cX11_image 16 = .ok (.istore_n 2, 1) := by decide +kernel
theorem dX11_image_17 : decode cX11_image 17 = .ok (.iload_n 2, 1) := by decide +kernel
theorem dX11_image_18 : decode cX11_image 18 = .ok (.sipush 144, 3) := by decide +kernel
theorem dX11_image_21 : decode cX11_image 21 = .ok (.if_icmp .ge 27, 3) := by decide +kernel
theorem dX11_image_48 : decode cX11_image 48 = .ok (.aload_n 0, 1) := by decide +kernel
theorem dX11_image_49 : decode cX11_image 49 = .ok (.getfield 16, 3) := by decide +kernel
theorem dX11_image_52 : decode cX11_image 52 = .ok (.iload_n 1, 1) := by decide +kernel
theorem dX11_image_53 : decode cX11_image 53 = .ok (.iconst 1, 1) := by decide +kernel
theorem dX11_image_54 : decode cX11_image 54 = .ok (.bastore, 1) := by decide +kernel
theorem dX11_image_55 : decode cX11_image 55 = .ok (.iconst 0, 1) := by decide +kernel
theorem dX11_image_56 : decode cX11_image 56 = .ok (.ireturn, 1) := by decide +kernel
theorem dX11_image_24 : decode cX11_image 24 = .ok (.aload_n 0, 1) := by decide +kernel
theorem dX11_image_25 : decode cX11_image 25 = .ok (.getfield 13, 3) := by decide +kernel
theorem dX11_image_28 : decode cX11_image 28 = .ok (.sipush 144, 3) := by decide +kernel
theorem dX11_image_31 : decode cX11_image 31 = .ok (.iload_n 1, 1) := by decide +kernel
theorem dX11_image_32 : decode cX11_image 32 = .ok (.imul, 1) := by decide +kernel
theorem dX11_image_33 : decode cX11_image 33 = .ok (.iload_n 2, 1) := by decide +kernel
theorem dX11_image_34 : decode cX11_image 34 = .ok (.iadd, 1) := by decide +kernel
theorem dX11_image_35 : decode cX11_image 35 = .ok (.aload_n 0, 1) := by decide +kernel
theorem dX11_image_36 : decode cX11_image 36 = .ok (.getfield 9, 3) := by decide +kernel
theorem dX11_image_39 : decode cX11_image 39 = .ok (.iload_n 2, 1) := by decide +kernel
theorem dX11_image_40 : decode cX11_image 40 = .ok (.iaload, 1) := by decide +kernel
theorem dX11_image_41 : decode cX11_image 41 = .ok (.iastore, 1) := by decide +kernel
theorem dX11_image_42 : decode cX11_image 42 = .ok (.iinc 2 1, 3) := by decide +kernel
theorem dX11_image_45 : decode cX11_image 45 = .ok (.goto (-28), 3) := by decide +kernel
theorem dX11_image_12 : decode cX11_image 12 = .ok (.bipush (-2), 2) := by decide +kernel
theorem dX11_image_14 : decode cX11_image 14 = .ok (.ireturn, 1) := by decide +kernel
theorem dX11_back_0 : decode cX11_back 0 = .ok (.iload_n 1, 1) := by decide +kernel
theorem dX11_back_1 : decode cX11_back 1 = .ok (.i2l, 1) := by decide +kernel
theorem dX11_back_2 : decode cX11_back 2 = .ok (.lconst 0, 1) := by decide +kernel
theorem dX11_back_3 : decode cX11_back 3 = .ok (.ldc2_w 77, 3) := by decide +kernel
theorem dX11_back_6 : decode cX11_back 6 = .ok (.invokestatic 79, 3) := by decide +kernel
theorem dX11_back_9 : decode cX11_back 9 = .ok (.ifCond .ne 6, 3) := by decide +kernel
theorem dX11_back_15 : decode cX11_back 15 = .ok (.aload_n 0, 1) := by decide +kernel
theorem dX11_back_16 : decode cX11_back 16 = .ok (.getfield 16, 3) := by decide +kernel
theorem dX11_back_19 : decode cX11_back 19 = .ok (.iload_n 1, 1) := by decide +kernel
theorem dX11_back_20 : decode cX11_back 20 = .ok (.baload, 1) := by decide +kernel
theorem dX11_back_21 : decode cX11_back 21 = .ok (.ifCond .ne 6, 3) := by decide +kernel
theorem dX11_back_27 : decode cX11_back 27 = .ok (.iconst 0, 1) := by decide +kernel
theorem dX11_back_28 : decode cX11_back 28 = .ok (.istore_n 2, 1) := by decide +kernel
theorem dX11_back_29 : decode cX11_back 29 = .ok (.iload_n 2, 1) := by decide +kernel
theorem dX11_back_30 : decode cX11_back 30 = .ok (.sipush 144, 3) := by decide +kernel
theorem dX11_back_33 : decode cX11_back 33 = .ok (.if_icmp .ge 27, 3) := by decide +kernel
theorem dX11_back_60 : decode cX11_back 60 = .ok (.iconst 0, 1) := by decide +kernel
theorem dX11_back_61 : decode cX11_back 61 = .ok (.ireturn, 1) := by decide +kernel
theorem dX11_back_36 : decode cX11_back 36 = .ok (.aload_n 0, 1) := by decide +kernel
theorem dX11_back_37 : decode cX11_back 37 = .ok (.getfield 9, 3) := by decide +kernel
theorem dX11_back_40 : decode cX11_back 40 = .ok (.iload_n 2, 1) := by decide +kernel
theorem dX11_back_41 : decode cX11_back 41 = .ok (.aload_n 0, 1) := by decide +kernel
theorem dX11_back_42 : decode cX11_back 42 = .ok (.getfield 13, 3) := by decide +kernel
theorem dX11_back_45 : decode cX11_back 45 = .ok (.sipush 144, 3) := by decide +kernel
theorem dX11_back_48 : decode cX11_back 48 = .ok (.iload_n 1, 1) := by decide +kernel
theorem dX11_back_49 : decode cX11_back 49 = .ok (.imul, 1) := by decide +kernel
theorem dX11_back_50 : decode cX11_back 50 = .ok (.iload_n 2, 1) := by decide +kernel
theorem dX11_back_51 : decode cX11_back 51 = .ok (.iadd, 1) := by decide +kernel
theorem dX11_back_52 : decode cX11_back 52 = .ok (.iaload, 1) := by decide +kernel
theorem dX11_back_53 : decode cX11_back 53 = .ok (.iastore, 1) := by decide +kernel
theorem dX11_back_54 : decode cX11_back 54 = .ok (.iinc 2 1, 3) := by decide +kernel
theorem dX11_back_57 : decode cX11_back 57 = .ok (.goto (-28), 3) := by decide +kernel
theorem dX11_back_24 : decode cX11_back 24 = .ok (.bipush (-6), 2) := by decide +kernel
theorem dX11_back_26 : decode cX11_back 26 = .ok (.ireturn, 1) := by decide +kernel
theorem dX11_back_12 : decode cX11_back 12 = .ok (.bipush (-2), 2) := by decide +kernel
theorem dX11_back_14 : decode cX11_back 14 = .ok (.ireturn, 1) := by decide +kernel
theorem dX11_isHouse_0 : decode cX11_isHouse 0 = .ok (.aload_n 0, 1) := by decide +kernel
theorem dX11_isHouse_1 : decode cX11_isHouse 1 = .ok (.getfield 9, 3) := by decide +kernel
theorem dX11_isHouse_4 : decode cX11_isHouse 4 = .ok (.bipush 6, 2) := by decide +kernel
theorem dX11_isHouse_6 : decode cX11_isHouse 6 = .ok (.iaload, 1) := by decide +kernel
theorem dX11_isHouse_7 : decode cX11_isHouse 7 = .ok (.ifCond .le 7, 3) := by decide +kernel
theorem dX11_isHouse_14 : decode cX11_isHouse 14 = .ok (.iconst 0, 1) := by decide +kernel
theorem dX11_isHouse_15 : decode cX11_isHouse 15 = .ok (.ireturn, 1) := by decide +kernel
theorem dX11_isHouse_10 : decode cX11_isHouse 10 = .ok (.iconst 1, 1) := by decide +kernel
theorem dX11_isHouse_11 : decode cX11_isHouse 11 = .ok (.goto 4, 3) := by decide +kernel
theorem dX11_isRoom_0 : decode cX11_isRoom 0 = .ok (.lload_n 1, 1) := by decide +kernel
theorem dX11_isRoom_1 : decode cX11_isRoom 1 = .ok (.lconst 0, 1) := by decide +kernel
theorem dX11_isRoom_2 : decode cX11_isRoom 2 = .ok (.aload_n 0, 1) := by decide +kernel
theorem dX11_isRoom_3 : decode cX11_isRoom 3 = .ok (.getfield 9, 3) := by decide +kernel
theorem dX11_isRoom_6 : decode cX11_isRoom 6 = .ok (.iconst 4, 1) := by decide +kernel
theorem dX11_isRoom_7 : decode cX11_isRoom 7 = .ok (.iaload, 1) := by decide +kernel
theorem dX11_isRoom_8 : decode cX11_isRoom 8 = .ok (.iconst 1, 1) := by decide +kernel
theorem dX11_isRoom_9 : decode cX11_isRoom 9 = .ok (.isub, 1) := by decide +kernel
theorem dX11_isRoom_10 : decode cX11_isRoom 10 = .ok (.i2l, 1) := by decide +kernel
theorem dX11_isRoom_11 : decode cX11_isRoom 11 = .ok (.invokestatic 79, 3) := by decide +kernel
theorem dX11_isRoom_14 : decode cX11_isRoom 14 = .ok (.ireturn, 1) := by decide +kernel
theorem dX11_isRoomOrNone_0 : decode cX11_isRoomOrNone 0 = .ok (.aload_n 0, 1) := by decide +kernel
theorem dX11_isRoomOrNone_1 : decode cX11_isRoomOrNone 1 = .ok (.invokevirtual 83, 3) := by decide +kernel
theorem dX11_isRoomOrNone_15 : decode cX11_isRoomOrNone 15 = .ok (.aload_n 0, 1) := by decide +kernel
theorem dX11_isRoomOrNone_16 : decode cX11_isRoomOrNone 16 = .ok (.lload_n 1, 1) := by decide +kernel
theorem dX11_isRoomOrNone_17 : decode cX11_isRoomOrNone 17 = .ok (.invokevirtual 89, 3) := by decide +kernel
theorem dX11_isRoomOrNone_20 : decode cX11_isRoomOrNone 20 = .ok (.ifCond .eq 7, 3) := by decide +kernel
theorem dX11_isRoomOrNone_27 : decode cX11_isRoomOrNone 27 = .ok (.iconst 0, 1) := by decide +kernel
theorem dX11_isRoomOrNone_28 : decode cX11_isRoomOrNone 28 = .ok (.ireturn, 1) := by decide +kernel
theorem dX11_isRoomOrNone_23 : decode cX11_isRoomOrNone 23 = .ok (.iconst 1, 1) := by decide +kernel
theorem dX11_isRoomOrNone_24 : decode cX11_isRoomOrNone 24 = .ok (.goto 4, 3) := by decide +kernel
theorem dX11_isRoomOrNone_4 : decode cX11_isRoomOrNone 4 = .ok (.ifCond .eq 11, 3) := by decide +kernel
theorem dX11_isRoomOrNone_7 : decode cX11_isRoomOrNone 7 = .ok (.lload_n 1, 1) := by decide +kernel
theorem dX11_isRoomOrNone_8 : decode cX11_isRoomOrNone 8 = .ok (.ldc2_w 87, 3) := by decide +kernel
theorem dX11_isRoomOrNone_11 : decode cX11_isRoomOrNone 11 = .ok (.lcmp, 1) := by decide +kernel
theorem dX11_isRoomOrNone_12 : decode cX11_isRoomOrNone 12 = .ok (.ifCond .eq 11, 3) := by decide +kernel
theorem dX11_isMan_0 : decode cX11_isMan 0 = .ok (.iload_n 1, 1) := by decide +kernel
theorem dX11_isMan_1 : decode cX11_isMan 1 = .ok (.i2l, 1) := by decide +kernel
theorem dX11_isMan_2 : decode cX11_isMan 2 = .ok (.lconst 0, 1) := by decide +kernel
theorem dX11_isMan_3 : decode cX11_isMan 3 = .ok (.aload_n 0, 1) := by decide +kernel
theorem dX11_isMan_4 : decode cX11_isMan 4 = .ok (.getfield 9, 3) := by decide +kernel
theorem dX11_isMan_7 : decode cX11_isMan 7 = .ok (.iconst 5, 1) := by decide +kernel
theorem dX11_isMan_8 : decode cX11_isMan 8 = .ok (.iaload, 1) := by decide +kernel
theorem dX11_isMan_9 : decode cX11_isMan 9 = .ok (.iconst 1, 1) := by decide +kernel
theorem dX11_isMan_10 : decode cX11_isMan 10 = .ok (.isub, 1) := by decide +kernel
theorem dX11_isMan_11 : decode cX11_isMan 11 = .ok (.i2l, 1) := by decide +kernel
theorem dX11_isMan_12 : decode cX11_isMan 12 = .ok (.invokestatic 79, 3) := by decide +kernel
theorem dX11_isMan_15 : decode cX11_isMan 15 = .ok (.ireturn, 1) := by decide +kernel
theorem dX11_areMen_0 : decode cX11_areMen 0 = .ok (.aload_n 0, 1) := by decide +kernel
theorem dX11_areMen_1 : decode cX11_areMen 1 = .ok (.invokevirtual 83, 3) := by decide +kernel
theorem dX11_areMen_4 : decode cX11_areMen 4 = .ok (.ifCond .eq 27, 3) := by decide +kernel
theorem dX11_areMen_31 : decode cX11_areMen 31 = .ok (.iconst 0, 1) := by decide +kernel
theorem dX11_areMen_32 : decode cX11_areMen 32 = .ok (.ireturn, 1) := by decide +kernel
theorem dX11_areMen_7 : decode cX11_areMen 7 = .ok (.iload_n 1, 1) := by decide +kernel
theorem dX11_areMen_8 : decode cX11_areMen 8 = .ok (.i2l, 1) := by decide +kernel
theorem dX11_areMen_9 : decode cX11_areMen 9 = .ok (.lconst 1, 1) := by decide +kernel
theorem dX11_areMen_10 : decode cX11_areMen 10 = .ok (.iconst 1, 1) := by decide +kernel
theorem dX11_areMen_11 : decode cX11_areMen 11 = .ok (.aload_n 0, 1) := by decide +kernel
theorem dX11_areMen_12 : decode cX11_areMen 12 = .ok (.getfield 9, 3) := by decide +kernel
theorem dX11_areMen_15 : decode cX11_areMen 15 = .ok (.iconst 5, 1) := by decide +kernel
theorem dX11_areMen_16 : decode cX11_areMen 16 = .ok (.iaload, 1) := by decide +kernel
theorem dX11_areMen_17 : decode cX11_areMen 17 = .ok (.ishl, 1) := by decide +kernel
theorem dX11_areMen_18 : decode cX11_areMen 18 = .ok (.iconst 1, 1) := by decide +kernel
theorem dX11_areMen_19 : decode cX11_areMen 19 = .ok (.isub, 1) := by decide +kernel
theorem dX11_areMen_20 : decode cX11_areMen 20 = .ok (.i2l, 1) := by decide +kernel
theorem dX11_areMen_21 : decode cX11_areMen 21 = .ok (.invokestatic 79, 3) := by decide +kernel
theorem dX11_areMen_24 : decode cX11_areMen 24 = .ok (.ifCond .eq 7, 3) := by decide +kernel
theorem dX11_areMen_27 : decode cX11_areMen 27 = .ok (.iconst 1, 1) := by decide +kernel
theorem dX11_areMen_28 : decode cX11_areMen 28 = .ok (.goto 4, 3) := by decide +kernel
theorem dX11_of_0 : decode cX11_of 0 = .ok (.aload_n 0, 1) := by decide +kernel
theorem dX11_of_1 : decode cX11_of 1 = .ok (.getfield 9, 3) := by decide +kernel
theorem dX11_of_4 : decode cX11_of 4 = .ok (.bipush 8, 2) := by decide +kernel
theorem dX11_of_6 : decode cX11_of 6 = .ok (.iconst 4, 1) := by decide +kernel
theorem dX11_of_7 : decode cX11_of 7 = .ok (.iload_n 1, 1) := by decide +kernel
theorem dX11_of_8 : decode cX11_of 8 = .ok (.imul, 1) := by decide +kernel
theorem dX11_of_9 : decode cX11_of 9 = .ok (.iadd, 1) := by decide +kernel
theorem dX11_of_10 : decode cX11_of 10 = .ok (.iload_n 2, 1) := by decide +kernel
theorem dX11_of_11 : decode cX11_of 11 = .ok (.iadd, 1) := by decide +kernel
theorem dX11_of_12 : decode cX11_of 12 = .ok (.iaload, 1) := by decide +kernel
theorem dX11_of_13 : decode cX11_of 13 = .ok (.ireturn, 1) := by decide +kernel
theorem dX11_ofMan_0 : decode cX11_ofMan 0 = .ok (.aload_n 0, 1) := by decide +kernel
theorem dX11_ofMan_1 : decode cX11_ofMan 1 = .ok (.getfield 9, 3) := by decide +kernel
theorem dX11_ofMan_4 : decode cX11_ofMan 4 = .ok (.bipush 36, 2) := by decide +kernel
theorem dX11_ofMan_6 : decode cX11_ofMan 6 = .ok (.bipush 8, 2) := by decide +kernel
theorem dX11_ofMan_8 : decode cX11_ofMan 8 = .ok (.iload_n 1, 1) := by decide +kernel
theorem dX11_ofMan_9 : decode cX11_ofMan 9 = .ok (.imul, 1) := by decide +kernel
theorem dX11_ofMan_10 : decode cX11_ofMan 10 = .ok (.iadd, 1) := by decide +kernel
theorem dX11_ofMan_11 : decode cX11_ofMan 11 = .ok (.iload_n 2, 1) := by decide +kernel
theorem dX11_ofMan_12 : decode cX11_ofMan 12 = .ok (.iadd, 1) := by decide +kernel
theorem dX11_ofMan_13 : decode cX11_ofMan 13 = .ok (.iaload, 1) := by decide +kernel
theorem dX11_ofMan_14 : decode cX11_ofMan 14 = .ok (.ireturn, 1) := by decide +kernel
theorem dX11_allRooms_0 : decode cX11_allRooms 0 = .ok (.iconst 1, 1) := by decide +kernel
theorem dX11_allRooms_1 : decode cX11_allRooms 1 = .ok (.aload_n 0, 1) := by decide +kernel
theorem dX11_allRooms_2 : decode cX11_allRooms 2 = .ok (.getfield 9, 3) := by decide +kernel
theorem dX11_allRooms_5 : decode cX11_allRooms 5 = .ok (.iconst 4, 1) := by decide +kernel
theorem dX11_allRooms_6 : decode cX11_allRooms 6 = .ok (.iaload, 1) := by decide +kernel
theorem dX11_allRooms_7 : decode cX11_allRooms 7 = .ok (.ishl, 1) := by decide +kernel
theorem dX11_allRooms_8 : decode cX11_allRooms 8 = .ok (.iconst 1, 1) := by decide +kernel
theorem dX11_allRooms_9 : decode cX11_allRooms 9 = .ok (.isub, 1) := by decide +kernel
theorem dX11_allRooms_10 : decode cX11_allRooms 10 = .ok (.ireturn, 1) := by decide +kernel
theorem dX11_feed_0 : decode cX11_feed 0 = .ok (.aload_n 0, 1) := by decide +kernel
theorem dX11_feed_1 : decode cX11_feed 1 = .ok (.getfield 93, 3) := by decide +kernel
theorem dX11_feed_4 : decode cX11_feed 4 = .ok (.bipush 20, 2) := by decide +kernel
theorem dX11_feed_6 : decode cX11_feed 6 = .ok (.iadd, 1) := by decide +kernel
theorem dX11_feed_7 : decode cX11_feed 7 = .ok (.sipush 900, 3) := by decide +kernel
theorem dX11_feed_10 : decode cX11_feed 10 = .ok (.if_icmp .le 5, 3) := by decide +kernel
theorem dX11_feed_15 : decode cX11_feed 15 = .ok (.aload_n 0, 1) := by decide +kernel
theorem dX11_feed_16 : decode cX11_feed 16 = .ok (.getfield 24, 3) := by decide +kernel
theorem dX11_feed_19 : decode cX11_feed 19 = .ok (.iconst 0, 1) := by decide +kernel
theorem dX11_feed_20 : decode cX11_feed 20 = .ok (.iload_n 1, 1) := by decide +kernel
theorem dX11_feed_21 : decode cX11_feed 21 = .ok (.iastore, 1) := by decide +kernel
theorem dX11_feed_22 : decode cX11_feed 22 = .ok (.aload_n 0, 1) := by decide +kernel
theorem dX11_feed_23 : decode cX11_feed 23 = .ok (.getfield 24, 3) := by decide +kernel
theorem dX11_feed_26 : decode cX11_feed 26 = .ok (.iconst 1, 1) := by decide +kernel
theorem dX11_feed_27 : decode cX11_feed 27 = .ok (.iload_n 2, 1) := by decide +kernel
theorem dX11_feed_28 : decode cX11_feed 28 = .ok (.iastore, 1) := by decide +kernel
theorem dX11_feed_29 : decode cX11_feed 29 = .ok (.aload_n 0, 1) := by decide +kernel
theorem dX11_feed_30 : decode cX11_feed 30 = .ok (.getfield 24, 3) := by decide +kernel
theorem dX11_feed_33 : decode cX11_feed 33 = .ok (.iconst 2, 1) := by decide +kernel
theorem dX11_feed_34 : decode cX11_feed 34 = .ok (.iload_n 3, 1) := by decide +kernel
theorem dX11_feed_35 : decode cX11_feed 35 = .ok (.iastore, 1) := by decide +kernel
theorem dX11_feed_36 : decode cX11_feed 36 = .ok (.aload_n 0, 1) := by decide +kernel
theorem dX11_feed_37 : decode cX11_feed 37 = .ok (.getfield 24, 3) := by decide +kernel
theorem dX11_feed_40 : decode cX11_feed 40 = .ok (.iconst 3, 1) := by decide +kernel
theorem dX11_feed_41 : decode cX11_feed 41 = .ok (.iload 4, 2) := by decide +kernel
theorem dX11_feed_43 : decode cX11_feed 43 = .ok (.iastore, 1) := by decide +kernel
theorem dX11_feed_44 : decode cX11_feed 44 = .ok (.aload_n 0, 1) := by decide +kernel
theorem dX11_feed_45 : decode cX11_feed 45 = .ok (.getfield 24, 3) := by decide +kernel
theorem dX11_feed_48 : decode cX11_feed 48 = .ok (.iconst 4, 1) := by decide +kernel
theorem dX11_feed_49 : decode cX11_feed 49 = .ok (.iload 5, 2) := by decide +kernel
theorem dX11_feed_51 : decode cX11_feed 51 = .ok (.iastore, 1) := by decide +kernel
theorem dX11_feed_52 : decode cX11_feed 52 = .ok (.iconst 0, 1) := by decide +kernel
theorem dX11_feed_53 : decode cX11_feed 53 = .ok (.istore 6, 2) := by decide +kernel
theorem dX11_feed_55 : decode cX11_feed 55 = .ok (.iload 6, 2) := by decide +kernel
theorem dX11_feed_57 : decode cX11_feed 57 = .ok (.bipush 20, 2) := by decide +kernel
theorem dX11_feed_59 : decode cX11_feed 59 = .ok (.if_icmp .ge 42, 3) := by decide +kernel
theorem dX11_feed_101 : decode cX11_feed 101 = .ok (.aload_n 0, 1) := by decide +kernel
theorem dX11_feed_102 : decode cX11_feed 102 = .ok (.dup, 1) := by decide +kernel
theorem dX11_feed_103 : decode cX11_feed 103 = .ok (.getfield 93, 3) := by decide +kernel
theorem dX11_feed_106 : decode cX11_feed 106 = .ok (.bipush 20, 2) := by decide +kernel
theorem dX11_feed_108 : decode cX11_feed 108 = .ok (.iadd, 1) := by decide +kernel
theorem dX11_feed_109 : decode cX11_feed 109 = .ok (.putfield 93, 3) := by decide +kernel
theorem dX11_feed_112 : decode cX11_feed 112 = .ok (.aload_n 0, 1) := by decide +kernel
theorem dX11_feed_113 : decode cX11_feed 113 = .ok (.getfield 93, 3) := by decide +kernel
theorem dX11_feed_116 : decode cX11_feed 116 = .ok (.ireturn, 1) := by decide +kernel
theorem dX11_feed_62 : decode cX11_feed 62 = .ok (.aload_n 0, 1) := by decide +kernel
theorem dX11_feed_63 : decode cX11_feed 63 = .ok (.getfield 20, 3) := by decide +kernel
theorem dX11_feed_66 : decode cX11_feed 66 = .ok (.aload_n 0, 1) := by decide +kernel
theorem dX11_feed_67 : decode cX11_feed 67 = .ok (.getfield 93, 3) := by decide +kernel
theorem dX11_feed_70 : decode cX11_feed 70 = .ok (.iload 6, 2) := by decide +kernel
theorem dX11_feed_72 : decode cX11_feed 72 = .ok (.iadd, 1) := by decide +kernel
theorem dX11_feed_73 : decode cX11_feed 73 = .ok (.aload_n 0, 1) := by decide +kernel
theorem dX11_feed_74 : decode cX11_feed 74 = .ok (.getfield 24, 3) := by decide +kernel
theorem dX11_feed_77 : decode cX11_feed 77 = .ok (.iload 6, 2) := by decide +kernel
theorem dX11_feed_79 : decode cX11_feed 79 = .ok (.iconst 4, 1) := by decide +kernel
theorem dX11_feed_80 : decode cX11_feed 80 = .ok (.idiv, 1) := by decide +kernel
theorem dX11_feed_81 : decode cX11_feed 81 = .ok (.iaload, 1) := by decide +kernel
theorem dX11_feed_82 : decode cX11_feed 82 = .ok (.bipush 24, 2) := by decide +kernel
theorem dX11_feed_84 : decode cX11_feed 84 = .ok (.bipush 8, 2) := by decide +kernel
theorem dX11_feed_86 : decode cX11_feed 86 = .ok (.iload 6, 2) := by decide +kernel
theorem dX11_feed_88 : decode cX11_feed 88 = .ok (.iconst 4, 1) := by decide +kernel
theorem dX11_feed_89 : decode cX11_feed 89 = .ok (.irem, 1) := by decide +kernel
theorem dX11_feed_90 : decode cX11_feed 90 = .ok (.imul, 1) := by decide +kernel
theorem dX11_feed_91 : decode cX11_feed 91 = .ok (.isub, 1) := by decide +kernel
theorem dX11_feed_92 : decode cX11_feed 92 = .ok (.ishr, 1) := by decide +kernel
theorem dX11_feed_93 : decode cX11_feed 93 = .ok (.i2b, 1) := by decide +kernel
theorem dX11_feed_94 : decode cX11_feed 94 = .ok (.bastore, 1) := by decide +kernel
theorem dX11_feed_95 : decode cX11_feed 95 = .ok (.iinc 6 1, 3) := by decide +kernel
theorem dX11_feed_98 : decode cX11_feed 98 = .ok (.goto (-43), 3) := by decide +kernel
theorem dX11_feed_13 : decode cX11_feed 13 = .ok (.iconst (-1), 1) := by decide +kernel
theorem dX11_feed_14 : decode cX11_feed 14 = .ok (.ireturn, 1) := by decide +kernel
theorem dX11_end_0 : decode cX11_end 0 = .ok (.iload_n 1, 1) := by decide +kernel
theorem dX11_end_1 : decode cX11_end 1 = .ok (.i2l, 1) := by decide +kernel
theorem dX11_end_2 : decode cX11_end 2 = .ok (.lconst 0, 1) := by decide +kernel
theorem dX11_end_3 : decode cX11_end 3 = .ok (.aload_n 0, 1) := by decide +kernel
theorem dX11_end_4 : decode cX11_end 4 = .ok (.getfield 93, 3) := by decide +kernel
theorem dX11_end_7 : decode cX11_end 7 = .ok (.i2l, 1) := by decide +kernel
theorem dX11_end_8 : decode cX11_end 8 = .ok (.invokestatic 79, 3) := by decide +kernel
theorem dX11_end_11 : decode cX11_end 11 = .ok (.ifCond .ne 5, 3) := by decide +kernel
theorem dX11_end_16 : decode cX11_end 16 = .ok (.aload_n 0, 1) := by decide +kernel
theorem dX11_end_17 : decode cX11_end 17 = .ok (.iload_n 1, 1) := by decide +kernel
theorem dX11_end_18 : decode cX11_end 18 = .ok (.putfield 93, 3) := by decide +kernel
theorem dX11_end_21 : decode cX11_end 21 = .ok (.iload_n 1, 1) := by decide +kernel
theorem dX11_end_22 : decode cX11_end 22 = .ok (.ireturn, 1) := by decide +kernel
theorem dX11_end_14 : decode cX11_end 14 = .ok (.iconst (-1), 1) := by decide +kernel
theorem dX11_end_15 : decode cX11_end 15 = .ok (.ireturn, 1) := by decide +kernel
theorem dX11_see_0 : decode cX11_see 0 = .ok (.iload_n 1, 1) := by decide +kernel
theorem dX11_see_1 : decode cX11_see 1 = .ok (.aload_n 0, 1) := by decide +kernel
theorem dX11_see_2 : decode cX11_see 2 = .ok (.getfield 96, 3) := by decide +kernel
theorem dX11_see_5 : decode cX11_see 5 = .ok (.if_icmp .ge 16, 3) := by decide +kernel
theorem dX11_see_21 : decode cX11_see 21 = .ok (.iconst (-1), 1) := by decide +kernel
theorem dX11_see_22 : decode cX11_see 22 = .ok (.ireturn, 1) := by decide +kernel
theorem dX11_see_8 : decode cX11_see 8 = .ok (.aload_n 0, 1) := by decide +kernel
theorem dX11_see_9 : decode cX11_see 9 = .ok (.getfield 20, 3) := by decide +kernel
theorem dX11_see_12 : decode cX11_see 12 = .ok (.iload_n 1, 1) := by decide +kernel
theorem dX11_see_13 : decode cX11_see 13 = .ok (.baload, 1) := by decide +kernel
theorem dX11_see_14 : decode cX11_see 14 = .ok (.sipush 255, 3) := by decide +kernel
theorem dX11_see_17 : decode cX11_see 17 = .ok (.iand, 1) := by decide +kernel
theorem dX11_see_18 : decode cX11_see 18 = .ok (.goto 4, 3) := by decide +kernel
theorem dX11_good_0 : decode cX11_good 0 = .ok (.aload_n 0, 1) := by decide +kernel
theorem dX11_good_1 : decode cX11_good 1 = .ok (.getfield 130, 3) := by decide +kernel
theorem dX11_good_4 : decode cX11_good 4 = .ok (.ifCond .ne 7, 3) := by decide +kernel
theorem dX11_good_11 : decode cX11_good 11 = .ok (.iconst 0, 1) := by decide +kernel
theorem dX11_good_12 : decode cX11_good 12 = .ok (.ireturn, 1) := by decide +kernel
theorem dX11_good_7 : decode cX11_good 7 = .ok (.iconst 1, 1) := by decide +kernel
theorem dX11_good_8 : decode cX11_good 8 = .ok (.goto 4, 3) := by decide +kernel
theorem dX11_errs_0 : decode cX11_errs 0 = .ok (.aload_n 0, 1) := by decide +kernel
theorem dX11_errs_1 : decode cX11_errs 1 = .ok (.invokevirtual 133, 3) := by decide +kernel
theorem dX11_errs_4 : decode cX11_errs 4 = .ok (.ifCond .ne 4, 3) := by decide +kernel
theorem dX11_errs_8 : decode cX11_errs 8 = .ok (.aload_n 0, 1) := by decide +kernel
theorem dX11_errs_9 : decode cX11_errs 9 = .ok (.iload_n 1, 1) := by decide +kernel
theorem dX11_errs_10 : decode cX11_errs 10 = .ok (.putfield 130, 3) := by decide +kernel
theorem dX11_errs_13 : decode cX11_errs 13 = .ok (.aload_n 0, 1) := by decide +kernel
theorem dX11_errs_14 : decode cX11_errs 14 = .ok (.aload_n 0, 1) := by decide +kernel
theorem dX11_errs_15 : decode cX11_errs 15 = .ok (.getfield 106, 3) := by decide +kernel
theorem dX11_errs_18 : decode cX11_errs 18 = .ok (.putfield 27, 3) := by decide +kernel
theorem dX11_errs_21 : decode cX11_errs 21 = .ok (.return_, 1) := by decide +kernel
theorem dX11_errs_7 : decode cX11_errs 7 = .ok (.return_, 1) := by decide +kernel
theorem dX11_fault_0 : decode cX11_fault 0 = .ok (.iload_n 1, 1) := by decide +kernel
theorem dX11_fault_1 : decode cX11_fault 1 = .ok (.ifCond .ne 10, 3) := by decide +kernel
theorem dX11_fault_11 : decode cX11_fault 11 = .ok (.iload_n 1, 1) := by decide +kernel
theorem dX11_fault_12 : decode cX11_fault 12 = .ok (.iconst 1, 1) := by decide +kernel
theorem dX11_fault_13 : decode cX11_fault 13 = .ok (.if_icmp .ne 10, 3) := by decide +kernel
theorem dX11_fault_23 : decode cX11_fault 23 = .ok (.iconst (-1), 1) := by decide +kernel
theorem dX11_fault_24 : decode cX11_fault 24 = .ok (.ireturn, 1) := by decide +kernel
theorem dX11_fault_16 : decode cX11_fault 16 = .ok (.aload_n 0, 1) := by decide +kernel
theorem dX11_fault_17 : decode cX11_fault 17 = .ok (.getfield 27, 3) := by decide +kernel
theorem dX11_fault_20 : decode cX11_fault 20 = .ok (.goto 4, 3) := by decide +kernel
theorem dX11_fault_4 : decode cX11_fault 4 = .ok (.aload_n 0, 1) := by decide +kernel
theorem dX11_fault_5 : decode cX11_fault 5 = .ok (.getfield 130, 3) := by decide +kernel
theorem dX11_fault_8 : decode cX11_fault 8 = .ok (.goto 16, 3) := by decide +kernel
theorem dX11_room_0 : decode cX11_room 0 = .ok (.aload_n 0, 1) := by decide +kernel
theorem dX11_room_1 : decode cX11_room 1 = .ok (.iload_n 1, 1) := by decide +kernel
theorem dX11_room_2 : decode cX11_room 2 = .ok (.i2l, 1) := by decide +kernel
theorem dX11_room_3 : decode cX11_room 3 = .ok (.invokevirtual 89, 3) := by decide +kernel
theorem dX11_room_6 : decode cX11_room 6 = .ok (.ifCond .eq 24, 3) := by decide +kernel
theorem dX11_room_30 : decode cX11_room 30 = .ok (.bipush (-2), 2) := by decide +kernel
theorem dX11_room_32 : decode cX11_room 32 = .ok (.ireturn, 1) := by decide +kernel
theorem dX11_room_9 : decode cX11_room 9 = .ok (.iload_n 2, 1) := by decide +kernel
theorem dX11_room_10 : decode cX11_room 10 = .ok (.i2l, 1) := by decide +kernel
theorem dX11_room_11 : decode cX11_room 11 = .ok (.lconst 0, 1) := by decide +kernel
theorem dX11_room_12 : decode cX11_room 12 = .ok (.ldc2_w 225, 3) := by decide +kernel
theorem dX11_room_15 : decode cX11_room 15 = .ok (.invokestatic 79, 3) := by decide +kernel
theorem dX11_room_18 : decode cX11_room 18 = .ok (.ifCond .eq 12, 3) := by decide +kernel
theorem dX11_room_21 : decode cX11_room 21 = .ok (.aload_n 0, 1) := by decide +kernel
theorem dX11_room_22 : decode cX11_room 22 = .ok (.iload_n 1, 1) := by decide +kernel
theorem dX11_room_23 : decode cX11_room 23 = .ok (.iload_n 2, 1) := by decide +kernel
theorem dX11_room_24 : decode cX11_room 24 = .ok (.invokevirtual 227, 3) := by decide +kernel
theorem dX11_room_27 : decode cX11_room 27 = .ok (.goto 5, 3) := by decide +kernel
theorem dX11_man_0 : decode cX11_man 0 = .ok (.aload_n 0, 1) := by decide +kernel
theorem dX11_man_1 : decode cX11_man 1 = .ok (.iload_n 1, 1) := by decide +kernel
theorem dX11_man_2 : decode cX11_man 2 = .ok (.invokevirtual 230, 3) := by decide +kernel
theorem dX11_man_5 : decode cX11_man 5 = .ok (.ifCond .eq 22, 3) := by decide +kernel
theorem dX11_man_27 : decode cX11_man 27 = .ok (.bipush (-2), 2) := by decide +kernel
theorem dX11_man_29 : decode cX11_man 29 = .ok (.ireturn, 1) := by decide +kernel
theorem dX11_man_8 : decode cX11_man 8 = .ok (.iload_n 2, 1) := by decide +kernel
theorem dX11_man_9 : decode cX11_man 9 = .ok (.i2l, 1) := by decide +kernel
theorem dX11_man_10 : decode cX11_man 10 = .ok (.lconst 0, 1) := by decide +kernel
theorem dX11_man_11 : decode cX11_man 11 = .ok (.lconst 1, 1) := by decide +kernel
theorem dX11_man_12 : decode cX11_man 12 = .ok (.invokestatic 79, 3) := by decide +kernel
theorem dX11_man_15 : decode cX11_man 15 = .ok (.ifCond .eq 12, 3) := by decide +kernel
theorem dX11_man_18 : decode cX11_man 18 = .ok (.aload_n 0, 1) := by decide +kernel
theorem dX11_man_19 : decode cX11_man 19 = .ok (.iload_n 1, 1) := by decide +kernel
theorem dX11_man_20 : decode cX11_man 20 = .ok (.iload_n 2, 1) := by decide +kernel
theorem dX11_man_21 : decode cX11_man 21 = .ok (.invokevirtual 234, 3) := by decide +kernel
theorem dX11_man_24 : decode cX11_man 24 = .ok (.goto 5, 3) := by decide +kernel
theorem dX11_slate_0 : decode cX11_slate 0 = .ok (.aload_n 0, 1) := by decide +kernel
theorem dX11_slate_1 : decode cX11_slate 1 = .ok (.iload_n 1, 1) := by decide +kernel
theorem dX11_slate_2 : decode cX11_slate 2 = .ok (.invokevirtual 230, 3) := by decide +kernel
theorem dX11_slate_5 : decode cX11_slate 5 = .ok (.ifCond .eq 22, 3) := by decide +kernel
theorem dX11_slate_27 : decode cX11_slate 27 = .ok (.bipush (-2), 2) := by decide +kernel
theorem dX11_slate_29 : decode cX11_slate 29 = .ok (.ireturn, 1) := by decide +kernel
theorem dX11_slate_8 : decode cX11_slate 8 = .ok (.aload_n 0, 1) := by decide +kernel
theorem dX11_slate_9 : decode cX11_slate 9 = .ok (.iload_n 2, 1) := by decide +kernel
theorem dX11_slate_10 : decode cX11_slate 10 = .ok (.invokevirtual 230, 3) := by decide +kernel
theorem dX11_slate_13 : decode cX11_slate 13 = .ok (.ifCond .eq 14, 3) := by decide +kernel
theorem dX11_slate_16 : decode cX11_slate 16 = .ok (.aload_n 0, 1) := by decide +kernel
theorem dX11_slate_17 : decode cX11_slate 17 = .ok (.iload_n 1, 1) := by decide +kernel
theorem dX11_slate_18 : decode cX11_slate 18 = .ok (.iconst 2, 1) := by decide +kernel
theorem dX11_slate_19 : decode cX11_slate 19 = .ok (.iload_n 2, 1) := by decide +kernel
theorem dX11_slate_20 : decode cX11_slate 20 = .ok (.iadd, 1) := by decide +kernel
theorem dX11_slate_21 : decode cX11_slate 21 = .ok (.invokevirtual 234, 3) := by decide +kernel
theorem dX11_slate_24 : decode cX11_slate 24 = .ok (.goto 5, 3) := by decide +kernel
theorem dX11_hearsBy_0 : decode cX11_hearsBy 0 = .ok (.bipush 100, 2) := by decide +kernel
theorem dX11_hearsBy_2 : decode cX11_hearsBy 2 = .ok (.bipush 100, 2) := by decide +kernel
theorem dX11_hearsBy_4 : decode cX11_hearsBy 4 = .ok (.aload_n 0, 1) := by decide +kernel
theorem dX11_hearsBy_5 : decode cX11_hearsBy 5 = .ok (.iload_n 1, 1) := by decide +kernel
theorem dX11_hearsBy_6 : decode cX11_hearsBy 6 = .ok (.iconst 1, 1) := by decide +kernel
theorem dX11_hearsBy_7 : decode cX11_hearsBy 7 = .ok (.invokevirtual 227, 3) := by decide +kernel
theorem dX11_hearsBy_10 : decode cX11_hearsBy 10 = .ok (.isub, 1) := by decide +kernel
theorem dX11_hearsBy_11 : decode cX11_hearsBy 11 = .ok (.iload_n 2, 1) := by decide +kernel
theorem dX11_hearsBy_12 : decode cX11_hearsBy 12 = .ok (.iconst 1, 1) := by decide +kernel
theorem dX11_hearsBy_13 : decode cX11_hearsBy 13 = .ok (.iadd, 1) := by decide +kernel
theorem dX11_hearsBy_14 : decode cX11_hearsBy 14 = .ok (.idiv, 1) := by decide +kernel
theorem dX11_hearsBy_15 : decode cX11_hearsBy 15 = .ok (.isub, 1) := by decide +kernel
theorem dX11_hearsBy_16 : decode cX11_hearsBy 16 = .ok (.ireturn, 1) := by decide +kernel
theorem dX11_hears_0 : decode cX11_hears 0 = .ok (.aload_n 0, 1) := by decide +kernel
theorem dX11_hears_1 : decode cX11_hears 1 = .ok (.iload_n 1, 1) := by decide +kernel
theorem dX11_hears_2 : decode cX11_hears 2 = .ok (.i2l, 1) := by decide +kernel
theorem dX11_hears_3 : decode cX11_hears 3 = .ok (.invokevirtual 89, 3) := by decide +kernel
theorem dX11_hears_6 : decode cX11_hears 6 = .ok (.ifCond .eq 24, 3) := by decide +kernel
theorem dX11_hears_30 : decode cX11_hears 30 = .ok (.bipush (-2), 2) := by decide +kernel
theorem dX11_hears_32 : decode cX11_hears 32 = .ok (.ireturn, 1) := by decide +kernel
theorem dX11_hears_9 : decode cX11_hears 9 = .ok (.iload_n 2, 1) := by decide +kernel
theorem dX11_hears_10 : decode cX11_hears 10 = .ok (.i2l, 1) := by decide +kernel
theorem dX11_hears_11 : decode cX11_hears 11 = .ok (.lconst 0, 1) := by decide +kernel
theorem dX11_hears_12 : decode cX11_hears 12 = .ok (.ldc2_w 237, 3) := by decide +kernel
theorem dX11_hears_15 : decode cX11_hears 15 = .ok (.invokestatic 79, 3) := by decide +kernel
theorem dX11_hears_18 : decode cX11_hears 18 = .ok (.ifCond .eq 12, 3) := by decide +kernel
theorem dX11_hears_21 : decode cX11_hears 21 = .ok (.aload_n 0, 1) := by decide +kernel
theorem dX11_hears_22 : decode cX11_hears 22 = .ok (.iload_n 1, 1) := by decide +kernel
theorem dX11_hears_23 : decode cX11_hears 23 = .ok (.iload_n 2, 1) := by decide +kernel
theorem dX11_hears_24 : decode cX11_hears 24 = .ok (.invokevirtual 239, 3) := by decide +kernel
theorem dX11_hears_27 : decode cX11_hears 27 = .ok (.goto 5, 3) := by decide +kernel
theorem dX11_allSits_0 : decode cX11_allSits 0 = .ok (.iconst 0, 1) := by decide +kernel
theorem dX11_allSits_1 : decode cX11_allSits 1 = .ok (.istore_n 1, 1) := by decide +kernel
theorem dX11_allSits_2 : decode cX11_allSits 2 = .ok (.iconst 0, 1) := by decide +kernel
theorem dX11_allSits_3 : decode cX11_allSits 3 = .ok (.istore_n 2, 1) := by decide +kernel
theorem dX11_allSits_4 : decode cX11_allSits 4 = .ok (.iload_n 2, 1) := by decide +kernel
theorem dX11_allSits_5 : decode cX11_allSits 5 = .ok (.aload_n 0, 1) := by decide +kernel
theorem dX11_allSits_6 : decode cX11_allSits 6 = .ok (.getfield 9, 3) := by decide +kernel
theorem dX11_allSits_9 : decode cX11_allSits 9 = .ok (.iconst 4, 1) := by decide +kernel
theorem dX11_allSits_10 : decode cX11_allSits 10 = .ok (.iaload, 1) := by decide +kernel
theorem dX11_allSits_11 : decode cX11_allSits 11 = .ok (.if_icmp .ge 18, 3) := by decide +kernel
theorem dX11_allSits_29 : decode cX11_allSits 29 = .ok (.iload_n 1, 1) := by decide +kernel
theorem dX11_allSits_30 : decode cX11_allSits 30 = .ok (.ireturn, 1) := by decide +kernel
theorem dX11_allSits_14 : decode cX11_allSits 14 = .ok (.iload_n 1, 1) := by decide +kernel
theorem dX11_allSits_15 : decode cX11_allSits 15 = .ok (.aload_n 0, 1) := by decide +kernel
theorem dX11_allSits_16 : decode cX11_allSits 16 = .ok (.iload_n 2, 1) := by decide +kernel
theorem dX11_allSits_17 : decode cX11_allSits 17 = .ok (.iconst 2, 1) := by decide +kernel
theorem dX11_allSits_18 : decode cX11_allSits 18 = .ok (.invokevirtual 227, 3) := by decide +kernel
theorem dX11_allSits_21 : decode cX11_allSits 21 = .ok (.iadd, 1) := by decide +kernel
theorem dX11_allSits_22 : decode cX11_allSits 22 = .ok (.istore_n 1, 1) := by decide +kernel
theorem dX11_allSits_23 : decode cX11_allSits 23 = .ok (.iinc 2 1, 3) := by decide +kernel
theorem dX11_allSits_26 : decode cX11_allSits 26 = .ok (.goto (-22), 3) := by decide +kernel
theorem dX11_beAtFirst_0 : decode cX11_beAtFirst 0 = .ok (.aload_n 0, 1) := by decide +kernel
theorem dX11_beAtFirst_1 : decode cX11_beAtFirst 1 = .ok (.invokevirtual 242, 3) := by decide +kernel
theorem dX11_beAtFirst_4 : decode cX11_beAtFirst 4 = .ok (.istore_n 1, 1) := by decide +kernel
theorem dX11_beAtFirst_5 : decode cX11_beAtFirst 5 = .ok (.aload_n 0, 1) := by decide +kernel
theorem dX11_beAtFirst_6 : decode cX11_beAtFirst 6 = .ok (.ldc 245, 2) := by decide +kernel
theorem dX11_beAtFirst_8 : decode cX11_beAtFirst 8 = .ok (.putfield 246, 3) := by decide +kernel
theorem dX11_beAtFirst_11 : decode cX11_beAtFirst 11 = .ok (.aload_n 0, 1) := by decide +kernel
theorem dX11_beAtFirst_12 : decode cX11_beAtFirst 12 = .ok (.iconst 0, 1) := by decide +kernel
theorem dX11_beAtFirst_13 : decode cX11_beAtFirst 13 = .ok (.putfield 249, 3) := by decide +kernel
theorem dX11_beAtFirst_16 : decode cX11_beAtFirst 16 = .ok (.iconst 0, 1) := by decide +kernel
theorem dX11_beAtFirst_17 : decode cX11_beAtFirst 17 = .ok (.istore_n 2, 1) := by decide +kernel
theorem dX11_beAtFirst_18 : decode cX11_beAtFirst 18 = .ok (.iload_n 2, 1) := by decide +kernel
theorem dX11_beAtFirst_19 : decode cX11_beAtFirst 19 = .ok (.bipush 7, 2) := by decide +kernel
theorem dX11_beAtFirst_21 : decode cX11_beAtFirst 21 = .ok (.if_icmp .ge 67, 3) := by decide +kernel
theorem dX11_beAtFirst_88 : decode cX11_beAtFirst 88 = .ok (.return_, 1) := by decide +kernel
theorem dX11_beAtFirst_24 : decode cX11_beAtFirst 24 = .ok (.aload_n 0, 1) := by decide +kernel
theorem dX11_beAtFirst_25 : decode cX11_beAtFirst 25 = .ok (.getfield 34, 3) := by decide +kernel
theorem dX11_beAtFirst_28 : decode cX11_beAtFirst 28 = .ok (.iload_n 2, 1) := by decide +kernel
theorem dX11_beAtFirst_29 : decode cX11_beAtFirst 29 = .ok (.iload_n 2, 1) := by decide +kernel
theorem dX11_beAtFirst_30 : decode cX11_beAtFirst 30 = .ok (.aload_n 0, 1) := by decide +kernel
theorem dX11_beAtFirst_31 : decode cX11_beAtFirst 31 = .ok (.getfield 9, 3) := by decide +kernel
theorem dX11_beAtFirst_34 : decode cX11_beAtFirst 34 = .ok (.iconst 4, 1) := by decide +kernel
theorem dX11_beAtFirst_35 : decode cX11_beAtFirst 35 = .ok (.iaload, 1) := by decide +kernel
theorem dX11_beAtFirst_66 : decode cX11_beAtFirst 66 = .ok (.iastore, 1) := by decide +kernel
theorem dX11_beAtFirst_67 : decode cX11_beAtFirst 67 = .ok (.aload_n 0, 1) := by decide +kernel
theorem dX11_beAtFirst_68 : decode cX11_beAtFirst 68 = .ok (.dup, 1) := by decide +kernel
theorem dX11_beAtFirst_69 : decode cX11_beAtFirst 69 = .ok (.getfield 246, 3) := by decide +kernel
theorem dX11_beAtFirst_72 : decode cX11_beAtFirst 72 = .ok (.aload_n 0, 1) := by decide +kernel
theorem dX11_beAtFirst_73 : decode cX11_beAtFirst 73 = .ok (.getfield 34, 3) := by decide +kernel
theorem dX11_beAtFirst_76 : decode cX11_beAtFirst 76 = .ok (.iload_n 2, 1) := by decide +kernel
theorem dX11_beAtFirst_77 : decode cX11_beAtFirst 77 = .ok (.iaload, 1) := by decide +kernel
theorem dX11_beAtFirst_78 : decode cX11_beAtFirst 78 = .ok (.isub, 1) := by decide +kernel
theorem dX11_beAtFirst_79 : decode cX11_beAtFirst 79 = .ok (.putfield 246, 3) := by decide +kernel
theorem dX11_beAtFirst_82 : decode cX11_beAtFirst 82 = .ok (.iinc 2 1, 3) := by decide +kernel
theorem dX11_beAtFirst_85 : decode cX11_beAtFirst 85 = .ok (.goto (-67), 3) := by decide +kernel
theorem dX11_beAtFirst_65 : decode cX11_beAtFirst 65 = .ok (.iconst 0, 1) := by decide +kernel
theorem dX11_beAtFirst_36 : decode cX11_beAtFirst 36 = .ok (.if_icmp .ge 29, 3) := by decide +kernel
theorem dX11_beAtFirst_39 : decode cX11_beAtFirst 39 = .ok (.iload_n 1, 1) := by decide +kernel
theorem dX11_beAtFirst_40 : decode cX11_beAtFirst 40 = .ok (.ifCond .le 25, 3) := by decide +kernel
theorem dX11_beAtFirst_43 : decode cX11_beAtFirst 43 = .ok (.aload_n 0, 1) := by decide +kernel
theorem dX11_beAtFirst_44 : decode cX11_beAtFirst 44 = .ok (.getfield 9, 3) := by decide +kernel
theorem dX11_beAtFirst_47 : decode cX11_beAtFirst 47 = .ok (.iconst 1, 1) := by decide +kernel
theorem dX11_beAtFirst_48 : decode cX11_beAtFirst 48 = .ok (.iaload, 1) := by decide +kernel
theorem dX11_beAtFirst_49 : decode cX11_beAtFirst 49 = .ok (.sipush 10000, 3) := by decide +kernel
theorem dX11_beAtFirst_52 : decode cX11_beAtFirst 52 = .ok (.imul, 1) := by decide +kernel
theorem dX11_beAtFirst_53 : decode cX11_beAtFirst 53 = .ok (.aload_n 0, 1) := by decide +kernel
theorem dX11_beAtFirst_54 : decode cX11_beAtFirst 54 = .ok (.iload_n 2, 1) := by decide +kernel
theorem dX11_beAtFirst_55 : decode cX11_beAtFirst 55 = .ok (.iconst 2, 1) := by decide +kernel
theorem dX11_beAtFirst_56 : decode cX11_beAtFirst 56 = .ok (.invokevirtual 227, 3) := by decide +kernel
theorem dX11_beAtFirst_59 : decode cX11_beAtFirst 59 = .ok (.imul, 1) := by decide +kernel
theorem dX11_beAtFirst_60 : decode cX11_beAtFirst 60 = .ok (.iload_n 1, 1) := by decide +kernel
theorem dX11_beAtFirst_61 : decode cX11_beAtFirst 61 = .ok (.idiv, 1) := by decide +kernel
theorem dX11_beAtFirst_62 : decode cX11_beAtFirst 62 = .ok (.goto 4, 3) := by decide +kernel
theorem dX11_wouldFind_0 : decode cX11_wouldFind 0 = .ok (.aload_n 0, 1) := by decide +kernel
theorem dX11_wouldFind_1 : decode cX11_wouldFind 1 = .ok (.getfield 34, 3) := by decide +kernel
theorem dX11_wouldFind_4 : decode cX11_wouldFind 4 = .ok (.iload_n 1, 1) := by decide +kernel
theorem dX11_wouldFind_5 : decode cX11_wouldFind 5 = .ok (.iaload, 1) := by decide +kernel
theorem dX11_wouldFind_6 : decode cX11_wouldFind 6 = .ok (.aload_n 0, 1) := by decide +kernel
theorem dX11_wouldFind_7 : decode cX11_wouldFind 7 = .ok (.iload_n 1, 1) := by decide +kernel
theorem dX11_wouldFind_8 : decode cX11_wouldFind 8 = .ok (.iload_n 2, 1) := by decide +kernel
theorem dX11_wouldFind_9 : decode cX11_wouldFind 9 = .ok (.invokevirtual 239, 3) := by decide +kernel
theorem dX11_wouldFind_12 : decode cX11_wouldFind 12 = .ok (.imul, 1) := by decide +kernel
theorem dX11_wouldFind_13 : decode cX11_wouldFind 13 = .ok (.bipush 100, 2) := by decide +kernel
theorem dX11_wouldFind_15 : decode cX11_wouldFind 15 = .ok (.idiv, 1) := by decide +kernel
theorem dX11_wouldFind_16 : decode cX11_wouldFind 16 = .ok (.ireturn, 1) := by decide +kernel
theorem dX11_callIn_0 : decode cX11_callIn 0 = .ok (.iload_n 1, 1) := by decide +kernel
theorem dX11_callIn_1 : decode cX11_callIn 1 = .ok (.iconst (-1), 1) := by decide +kernel
theorem dX11_callIn_2 : decode cX11_callIn 2 = .ok (.if_icmp .ne 5, 3) := by decide +kernel
theorem dX11_callIn_7 : decode cX11_callIn 7 = .ok (.aload_n 0, 1) := by decide +kernel
theorem dX11_callIn_8 : decode cX11_callIn 8 = .ok (.iload_n 1, 1) := by decide +kernel
theorem dX11_callIn_9 : decode cX11_callIn 9 = .ok (.iload_n 2, 1) := by decide +kernel
theorem dX11_callIn_10 : decode cX11_callIn 10 = .ok (.invokevirtual 252, 3) := by decide +kernel
theorem dX11_callIn_13 : decode cX11_callIn 13 = .ok (.istore_n 3, 1) := by decide +kernel
theorem dX11_callIn_14 : decode cX11_callIn 14 = .ok (.aload_n 0, 1) := by decide +kernel
theorem dX11_callIn_15 : decode cX11_callIn 15 = .ok (.getfield 34, 3) := by decide +kernel
theorem dX11_callIn_18 : decode cX11_callIn 18 = .ok (.iload_n 1, 1) := by decide +kernel
theorem dX11_callIn_19 : decode cX11_callIn 19 = .ok (.dup2, 1) := by decide +kernel
theorem dX11_callIn_20 : decode cX11_callIn 20 = .ok (.iaload, 1) := by decide +kernel
theorem dX11_callIn_21 : decode cX11_callIn 21 = .ok (.iload_n 3, 1) := by decide +kernel
theorem dX11_callIn_22 : decode cX11_callIn 22 = .ok (.isub, 1) := by decide +kernel
theorem dX11_callIn_23 : decode cX11_callIn 23 = .ok (.iastore, 1) := by decide +kernel
theorem dX11_callIn_24 : decode cX11_callIn 24 = .ok (.aload_n 0, 1) := by decide +kernel
theorem dX11_callIn_25 : decode cX11_callIn 25 = .ok (.dup, 1) := by decide +kernel
theorem dX11_callIn_26 : decode cX11_callIn 26 = .ok (.getfield 249, 3) := by decide +kernel
theorem dX11_callIn_29 : decode cX11_callIn 29 = .ok (.iload_n 3, 1) := by decide +kernel
theorem dX11_callIn_30 : decode cX11_callIn 30 = .ok (.iadd, 1) := by decide +kernel
theorem dX11_callIn_31 : decode cX11_callIn 31 = .ok (.putfield 249, 3) := by decide +kernel
theorem dX11_callIn_34 : decode cX11_callIn 34 = .ok (.iload_n 3, 1) := by decide +kernel
theorem dX11_callIn_35 : decode cX11_callIn 35 = .ok (.ireturn, 1) := by decide +kernel
theorem dX11_callIn_5 : decode cX11_callIn 5 = .ok (.iconst 0, 1) := by decide +kernel
theorem dX11_callIn_6 : decode cX11_callIn 6 = .ok (.ireturn, 1) := by decide +kernel
theorem dX11_goMinute_0 : decode cX11_goMinute 0 = .ok (.iconst 0, 1) := by decide +kernel
theorem dX11_goMinute_1 : decode cX11_goMinute 1 = .ok (.istore_n 2, 1) := by decide +kernel
theorem dX11_goMinute_2 : decode cX11_goMinute 2 = .ok (.iload_n 2, 1) := by decide +kernel
theorem dX11_goMinute_3 : decode cX11_goMinute 3 = .ok (.bipush 7, 2) := by decide +kernel
theorem dX11_goMinute_5 : decode cX11_goMinute 5 = .ok (.if_icmp .ge 16, 3) := by decide +kernel
theorem dX11_goMinute_21 : decode cX11_goMinute 21 = .ok (.iconst 0, 1) := by decide +kernel
theorem dX11_goMinute_22 : decode cX11_goMinute 22 = .ok (.istore_n 2, 1) := by decide +kernel
theorem dX11_goMinute_23 : decode cX11_goMinute 23 = .ok (.iload_n 2, 1) := by decide +kernel
theorem dX11_goMinute_24 : decode cX11_goMinute 24 = .ok (.aload_n 0, 1) := by decide +kernel
theorem dX11_goMinute_25 : decode cX11_goMinute 25 = .ok (.getfield 9, 3) := by decide +kernel
theorem dX11_goMinute_28 : decode cX11_goMinute 28 = .ok (.iconst 4, 1) := by decide +kernel
theorem dX11_goMinute_29 : decode cX11_goMinute 29 = .ok (.iaload, 1) := by decide +kernel
theorem dX11_goMinute_30 : decode cX11_goMinute 30 = .ok (.if_icmp .ge 108, 3) := by decide +kernel
theorem dX11_goMinute_138 : decode cX11_goMinute 138 = .ok (.iconst 0, 1) := by decide +kernel
theorem dX11_goMinute_139 : decode cX11_goMinute 139 = .ok (.istore_n 2, 1) := by decide +kernel
theorem dX11_goMinute_140 : decode cX11_goMinute 140 = .ok (.iload_n 2, 1) := by decide +kernel
theorem dX11_goMinute_141 : decode cX11_goMinute 141 = .ok (.bipush 7, 2) := by decide +kernel
theorem dX11_goMinute_143 : decode cX11_goMinute 143 = .ok (.if_icmp .ge 24, 3) := by decide +kernel
theorem dX11_goMinute_167 : decode cX11_goMinute 167 = .ok (.return_, 1) := by decide +kernel
theorem dX11_goMinute_146 : decode cX11_goMinute 146 = .ok (.aload_n 0, 1) := by decide +kernel
theorem dX11_goMinute_147 : decode cX11_goMinute 147 = .ok (.getfield 34, 3) := by decide +kernel
theorem dX11_goMinute_150 : decode cX11_goMinute 150 = .ok (.iload_n 2, 1) := by decide +kernel
theorem dX11_goMinute_151 : decode cX11_goMinute 151 = .ok (.dup2, 1) := by decide +kernel
theorem dX11_goMinute_152 : decode cX11_goMinute 152 = .ok (.iaload, 1) := by decide +kernel
theorem dX11_goMinute_153 : decode cX11_goMinute 153 = .ok (.aload_n 0, 1) := by decide +kernel
theorem dX11_goMinute_154 : decode cX11_goMinute 154 = .ok (.getfield 37, 3) := by decide +kernel
theorem dX11_goMinute_157 : decode cX11_goMinute 157 = .ok (.iload_n 2, 1) := by decide +kernel
theorem dX11_goMinute_158 : decode cX11_goMinute 158 = .ok (.iaload, 1) := by decide +kernel
theorem dX11_goMinute_159 : decode cX11_goMinute 159 = .ok (.iadd, 1) := by decide +kernel
theorem dX11_goMinute_160 : decode cX11_goMinute 160 = .ok (.iastore, 1) := by decide +kernel
theorem dX11_goMinute_161 : decode cX11_goMinute 161 = .ok (.iinc 2 1, 3) := by decide +kernel
theorem dX11_goMinute_164 : decode cX11_goMinute 164 = .ok (.goto (-24), 3) := by decide +kernel
theorem dX11_goMinute_33 : decode cX11_goMinute 33 = .ok (.aload_n 0, 1) := by decide +kernel
theorem dX11_goMinute_34 : decode cX11_goMinute 34 = .ok (.iload_n 2, 1) := by decide +kernel
theorem dX11_goMinute_35 : decode cX11_goMinute 35 = .ok (.iconst 3, 1) := by decide +kernel
theorem dX11_goMinute_36 : decode cX11_goMinute 36 = .ok (.invokevirtual 227, 3) := by decide +kernel
theorem dX11_goMinute_39 : decode cX11_goMinute 39 = .ok (.invokestatic 255, 3) := by decide +kernel
theorem dX11_goMinute_42 : decode cX11_goMinute 42 = .ok (.istore_n 3, 1) := by decide +kernel
theorem dX11_goMinute_43 : decode cX11_goMinute 43 = .ok (.iload_n 3, 1) := by decide +kernel
theorem dX11_goMinute_132 : decode cX11_goMinute 132 = .ok (.iinc 2 1, 3) := by decide +kernel
theorem dX11_goMinute_135 : decode cX11_goMinute 135 = .ok (.goto (-112), 3) := by decide +kernel
theorem dX11_goMinute_44 : decode cX11_goMinute 44 = .ok (.ifCond .eq 88, 3) := by decide +kernel
theorem dX11_goMinute_47 : decode cX11_goMinute 47 = .ok (.iload_n 2, 1) := by decide +kernel
theorem dX11_goMinute_48 : decode cX11_goMinute 48 = .ok (.iload_n 1, 1) := by decide +kernel
theorem dX11_goMinute_49 : decode cX11_goMinute 49 = .ok (.if_icmp .ne 6, 3) := by decide +kernel
theorem dX11_goMinute_55 : decode cX11_goMinute 55 = .ok (.aload_n 0, 1) := by decide +kernel
theorem dX11_goMinute_56 : decode cX11_goMinute 56 = .ok (.getfield 34, 3) := by decide +kernel
theorem dX11_goMinute_59 : decode cX11_goMinute 59 = .ok (.iload_n 2, 1) := by decide +kernel
theorem dX11_goMinute_60 : decode cX11_goMinute 60 = .ok (.iaload, 1) := by decide +kernel
theorem dX11_goMinute_61 : decode cX11_goMinute 61 = .ok (.aload_n 0, 1) := by decide +kernel
theorem dX11_goMinute_62 : decode cX11_goMinute 62 = .ok (.getfield 9, 3) := by decide +kernel
theorem dX11_goMinute_65 : decode cX11_goMinute 65 = .ok (.iconst 0, 1) := by decide +kernel
theorem dX11_goMinute_66 : decode cX11_goMinute 66 = .ok (.iaload, 1) := by decide +kernel
theorem dX11_goMinute_67 : decode cX11_goMinute 67 = .ok (.imul, 1) := by decide +kernel
theorem dX11_goMinute_68 : decode cX11_goMinute 68 = .ok (.bipush 100, 2) := by decide +kernel
theorem dX11_goMinute_70 : decode cX11_goMinute 70 = .ok (.idiv, 1) := by decide +kernel
theorem dX11_goMinute_71 : decode cX11_goMinute 71 = .ok (.iload_n 3, 1) := by decide +kernel
theorem dX11_goMinute_72 : decode cX11_goMinute 72 = .ok (.idiv, 1) := by decide +kernel
theorem dX11_goMinute_73 : decode cX11_goMinute 73 = .ok (.istore 4, 2) := by decide +kernel
theorem dX11_goMinute_75 : decode cX11_goMinute 75 = .ok (.aload_n 0, 1) := by decide +kernel
theorem dX11_goMinute_76 : decode cX11_goMinute 76 = .ok (.getfield 37, 3) := by decide +kernel
theorem dX11_goMinute_79 : decode cX11_goMinute 79 = .ok (.iload_n 2, 1) := by decide +kernel
theorem dX11_goMinute_80 : decode cX11_goMinute 80 = .ok (.dup2, 1) := by decide +kernel
theorem dX11_goMinute_81 : decode cX11_goMinute 81 = .ok (.iaload, 1) := by decide +kernel
theorem dX11_goMinute_82 : decode cX11_goMinute 82 = .ok (.iload 4, 2) := by decide +kernel
theorem dX11_goMinute_84 : decode cX11_goMinute 84 = .ok (.iload_n 3, 1) := by decide +kernel
theorem dX11_goMinute_85 : decode cX11_goMinute 85 = .ok (.imul, 1) := by decide +kernel
theorem dX11_goMinute_86 : decode cX11_goMinute 86 = .ok (.isub, 1) := by decide +kernel
theorem dX11_goMinute_87 : decode cX11_goMinute 87 = .ok (.iastore, 1) := by decide +kernel
theorem dX11_goMinute_88 : decode cX11_goMinute 88 = .ok (.iconst 0, 1) := by decide +kernel
theorem dX11_goMinute_89 : decode cX11_goMinute 89 = .ok (.istore 5, 2) := by decide +kernel
theorem dX11_goMinute_91 : decode cX11_goMinute 91 = .ok (.iload 5, 2) := by decide +kernel
theorem dX11_goMinute_93 : decode cX11_goMinute 93 = .ok (.aload_n 0, 1) := by decide +kernel
theorem dX11_goMinute_94 : decode cX11_goMinute 94 = .ok (.getfield 9, 3) := by decide +kernel
theorem dX11_goMinute_97 : decode cX11_goMinute 97 = .ok (.iconst 4, 1) := by decide +kernel
theorem dX11_goMinute_98 : decode cX11_goMinute 98 = .ok (.iaload, 1) := by decide +kernel
theorem dX11_goMinute_99 : decode cX11_goMinute 99 = .ok (.if_icmp .ge 33, 3) := by decide +kernel
theorem dX11_goMinute_102 : decode cX11_goMinute 102 = .ok (.aload_n 0, 1) := by decide +kernel
theorem dX11_goMinute_103 : decode cX11_goMinute 103 = .ok (.getfield 37, 3) := by decide +kernel
theorem dX11_goMinute_106 : decode cX11_goMinute 106 = .ok (.iload 5, 2) := by decide +kernel
theorem dX11_goMinute_108 : decode cX11_goMinute 108 = .ok (.dup2, 1) := by decide +kernel
theorem dX11_goMinute_109 : decode cX11_goMinute 109 = .ok (.iaload, 1) := by decide +kernel
theorem dX11_goMinute_110 : decode cX11_goMinute 110 = .ok (.aload_n 0, 1) := by decide +kernel
theorem dX11_goMinute_111 : decode cX11_goMinute 111 = .ok (.iload_n 2, 1) := by decide +kernel
theorem dX11_goMinute_112 : decode cX11_goMinute 112 = .ok (.iconst 3, 1) := by decide +kernel
theorem dX11_goMinute_113 : decode cX11_goMinute 113 = .ok (.invokevirtual 227, 3) := by decide +kernel
theorem dX11_goMinute_116 : decode cX11_goMinute 116 = .ok (.iload 5, 2) := by decide +kernel
theorem dX11_goMinute_118 : decode cX11_goMinute 118 = .ok (.invokestatic 258, 3) := by decide +kernel
theorem dX11_goMinute_121 : decode cX11_goMinute 121 = .ok (.iload 4, 2) := by decide +kernel
theorem dX11_goMinute_123 : decode cX11_goMinute 123 = .ok (.imul, 1) := by decide +kernel
theorem dX11_goMinute_124 : decode cX11_goMinute 124 = .ok (.iadd, 1) := by decide +kernel
theorem dX11_goMinute_125 : decode cX11_goMinute 125 = .ok (.iastore, 1) := by decide +kernel
theorem dX11_goMinute_126 : decode cX11_goMinute 126 = .ok (.iinc 5 1, 3) := by decide +kernel
theorem dX11_goMinute_129 : decode cX11_goMinute 129 = .ok (.goto (-38), 3) := by decide +kernel
theorem dX11_goMinute_52 : decode cX11_goMinute 52 = .ok (.goto 80, 3) := by decide +kernel
theorem dX11_goMinute_8 : decode cX11_goMinute 8 = .ok (.aload_n 0, 1) := by decide +kernel
theorem dX11_goMinute_9 : decode cX11_goMinute 9 = .ok (.getfield 37, 3) := by decide +kernel
theorem dX11_goMinute_12 : decode cX11_goMinute 12 = .ok (.iload_n 2, 1) := by decide +kernel
theorem dX11_goMinute_13 : decode cX11_goMinute 13 = .ok (.iconst 0, 1) := by decide +kernel
theorem dX11_goMinute_14 : decode cX11_goMinute 14 = .ok (.iastore, 1) := by decide +kernel
theorem dX11_goMinute_15 : decode cX11_goMinute 15 = .ok (.iinc 2 1, 3) := by decide +kernel
theorem dX11_goMinute_18 : decode cX11_goMinute 18 = .ok (.goto (-16), 3) := by decide +kernel
theorem dX11_asItIs_0 : decode cX11_asItIs 0 = .ok (.aload_n 0, 1) := by decide +kernel
theorem dX11_asItIs_1 : decode cX11_asItIs 1 = .ok (.invokevirtual 261, 3) := by decide +kernel
theorem dX11_asItIs_4 : decode cX11_asItIs 4 = .ok (.iconst 0, 1) := by decide +kernel
theorem dX11_asItIs_5 : decode cX11_asItIs 5 = .ok (.istore_n 1, 1) := by decide +kernel
theorem dX11_asItIs_6 : decode cX11_asItIs 6 = .ok (.iload_n 1, 1) := by decide +kernel
theorem dX11_asItIs_7 : decode cX11_asItIs 7 = .ok (.aload_n 0, 1) := by decide +kernel
theorem dX11_asItIs_8 : decode cX11_asItIs 8 = .ok (.getfield 9, 3) := by decide +kernel
theorem dX11_asItIs_11 : decode cX11_asItIs 11 = .ok (.bipush 7, 2) := by decide +kernel
theorem dX11_asItIs_13 : decode cX11_asItIs 13 = .ok (.iaload, 1) := by decide +kernel
theorem dX11_asItIs_14 : decode cX11_asItIs 14 = .ok (.if_icmp .ge 29, 3) := by decide +kernel
theorem dX11_asItIs_43 : decode cX11_asItIs 43 = .ok (.return_, 1) := by decide +kernel
theorem dX11_asItIs_17 : decode cX11_asItIs 17 = .ok (.aload_n 0, 1) := by decide +kernel
theorem dX11_asItIs_18 : decode cX11_asItIs 18 = .ok (.aload_n 0, 1) := by decide +kernel
theorem dX11_asItIs_19 : decode cX11_asItIs 19 = .ok (.getfield 9, 3) := by decide +kernel
theorem dX11_asItIs_22 : decode cX11_asItIs 22 = .ok (.bipush 84, 2) := by decide +kernel
theorem dX11_asItIs_24 : decode cX11_asItIs 24 = .ok (.iload_n 1, 1) := by decide +kernel
theorem dX11_asItIs_25 : decode cX11_asItIs 25 = .ok (.iadd, 1) := by decide +kernel
theorem dX11_asItIs_26 : decode cX11_asItIs 26 = .ok (.iaload, 1) := by decide +kernel
theorem dX11_asItIs_27 : decode cX11_asItIs 27 = .ok (.iconst 0, 1) := by decide +kernel
theorem dX11_asItIs_28 : decode cX11_asItIs 28 = .ok (.invokevirtual 264, 3) := by decide +kernel
theorem dX11_asItIs_31 : decode cX11_asItIs 31 = .ok (.pop, 1) := by decide +kernel
theorem dX11_asItIs_32 : decode cX11_asItIs 32 = .ok (.aload_n 0, 1) := by decide +kernel
theorem dX11_asItIs_33 : decode cX11_asItIs 33 = .ok (.iconst (-1), 1) := by decide +kernel
theorem dX11_asItIs_34 : decode cX11_asItIs 34 = .ok (.invokevirtual 267, 3) := by decide +kernel
theorem dX11_asItIs_37 : decode cX11_asItIs 37 = .ok (.iinc 1 1, 3) := by decide +kernel
theorem dX11_asItIs_40 : decode cX11_asItIs 40 = .ok (.goto (-34), 3) := by decide +kernel
theorem dX11_inHouse_0 : decode cX11_inHouse 0 = .ok (.iconst 0, 1) := by decide +kernel
theorem dX11_inHouse_1 : decode cX11_inHouse 1 = .ok (.istore_n 1, 1) := by decide +kernel
theorem dX11_inHouse_2 : decode cX11_inHouse 2 = .ok (.iconst 0, 1) := by decide +kernel
theorem dX11_inHouse_3 : decode cX11_inHouse 3 = .ok (.istore_n 2, 1) := by decide +kernel
theorem dX11_inHouse_4 : decode cX11_inHouse 4 = .ok (.iload_n 2, 1) := by decide +kernel
theorem dX11_inHouse_5 : decode cX11_inHouse 5 = .ok (.aload_n 0, 1) := by decide +kernel
theorem dX11_inHouse_6 : decode cX11_inHouse 6 = .ok (.getfield 9, 3) := by decide +kernel
theorem dX11_inHouse_9 : decode cX11_inHouse 9 = .ok (.iconst 4, 1) := by decide +kernel
theorem dX11_inHouse_10 : decode cX11_inHouse 10 = .ok (.iaload, 1) := by decide +kernel
theorem dX11_inHouse_11 : decode cX11_inHouse 11 = .ok (.if_icmp .ge 18, 3) := by decide +kernel
theorem dX11_inHouse_29 : decode cX11_inHouse 29 = .ok (.iload_n 1, 1) := by decide +kernel
theorem dX11_inHouse_30 : decode cX11_inHouse 30 = .ok (.ireturn, 1) := by decide +kernel
theorem dX11_inHouse_14 : decode cX11_inHouse 14 = .ok (.iload_n 1, 1) := by decide +kernel
theorem dX11_inHouse_15 : decode cX11_inHouse 15 = .ok (.aload_n 0, 1) := by decide +kernel
theorem dX11_inHouse_16 : decode cX11_inHouse 16 = .ok (.getfield 34, 3) := by decide +kernel
theorem dX11_inHouse_19 : decode cX11_inHouse 19 = .ok (.iload_n 2, 1) := by decide +kernel
theorem dX11_inHouse_20 : decode cX11_inHouse 20 = .ok (.iaload, 1) := by decide +kernel
theorem dX11_inHouse_21 : decode cX11_inHouse 21 = .ok (.iadd, 1) := by decide +kernel
theorem dX11_inHouse_22 : decode cX11_inHouse 22 = .ok (.istore_n 1, 1) := by decide +kernel
theorem dX11_inHouse_23 : decode cX11_inHouse 23 = .ok (.iinc 2 1, 3) := by decide +kernel
theorem dX11_inHouse_26 : decode cX11_inHouse 26 = .ok (.goto (-22), 3) := by decide +kernel
theorem dX11_inMillion_0 : decode cX11_inMillion 0 = .ok (.aload_n 0, 1) := by decide +kernel
theorem dX11_inMillion_1 : decode cX11_inMillion 1 = .ok (.invokevirtual 270, 3) := by decide +kernel
theorem dX11_inMillion_4 : decode cX11_inMillion 4 = .ok (.aload_n 0, 1) := by decide +kernel
theorem dX11_inMillion_5 : decode cX11_inMillion 5 = .ok (.getfield 246, 3) := by decide +kernel
theorem dX11_inMillion_8 : decode cX11_inMillion 8 = .ok (.iadd, 1) := by decide +kernel
theorem dX11_inMillion_9 : decode cX11_inMillion 9 = .ok (.istore_n 2, 1) := by decide +kernel
theorem dX11_inMillion_10 : decode cX11_inMillion 10 = .ok (.iload_n 2, 1) := by decide +kernel
theorem dX11_inMillion_11 : decode cX11_inMillion 11 = .ok (.ifCond .ne 7, 3) := by decide +kernel
theorem dX11_inMillion_18 : decode cX11_inMillion 18 = .ok (.iload_n 1, 1) := by decide +kernel
theorem dX11_inMillion_19 : decode cX11_inMillion 19 = .ok (.i2l, 1) := by decide +kernel
theorem dX11_inMillion_20 : decode cX11_inMillion 20 = .ok (.ldc2_w 273, 3) := by decide +kernel
theorem dX11_inMillion_23 : decode cX11_inMillion 23 = .ok (.lmul, 1) := by decide +kernel
theorem dX11_inMillion_24 : decode cX11_inMillion 24 = .ok (.iload_n 2, 1) := by decide +kernel
theorem dX11_inMillion_25 : decode cX11_inMillion 25 = .ok (.i2l, 1) := by decide +kernel
theorem dX11_inMillion_26 : decode cX11_inMillion 26 = .ok (.ldiv, 1) := by decide +kernel
theorem dX11_inMillion_27 : decode cX11_inMillion 27 = .ok (.l2i, 1) := by decide +kernel
theorem dX11_inMillion_28 : decode cX11_inMillion 28 = .ok (.ireturn, 1) := by decide +kernel
theorem dX11_inMillion_14 : decode cX11_inMillion 14 = .ok (.iconst 0, 1) := by decide +kernel
theorem dX11_inMillion_15 : decode cX11_inMillion 15 = .ok (.goto 13, 3) := by decide +kernel
theorem dX11_parts_0 : decode cX11_parts 0 = .ok (.aload_n 0, 1) := by decide +kernel
theorem dX11_parts_1 : decode cX11_parts 1 = .ok (.iload_n 1, 1) := by decide +kernel
theorem dX11_parts_2 : decode cX11_parts 2 = .ok (.i2l, 1) := by decide +kernel
theorem dX11_parts_3 : decode cX11_parts 3 = .ok (.invokevirtual 275, 3) := by decide +kernel
theorem dX11_parts_6 : decode cX11_parts 6 = .ok (.ifCond .ne 6, 3) := by decide +kernel
theorem dX11_parts_12 : decode cX11_parts 12 = .ok (.aload_n 0, 1) := by decide +kernel
theorem dX11_parts_13 : decode cX11_parts 13 = .ok (.invokevirtual 278, 3) := by decide +kernel
theorem dX11_parts_16 : decode cX11_parts 16 = .ok (.iload_n 1, 1) := by decide +kernel
theorem dX11_parts_17 : decode cX11_parts 17 = .ok (.iconst (-1), 1) := by decide +kernel
theorem dX11_parts_18 : decode cX11_parts 18 = .ok (.if_icmp .ne 10, 3) := by decide +kernel
theorem dX11_parts_28 : decode cX11_parts 28 = .ok (.aload_n 0, 1) := by decide +kernel
theorem dX11_parts_29 : decode cX11_parts 29 = .ok (.getfield 34, 3) := by decide +kernel
theorem dX11_parts_32 : decode cX11_parts 32 = .ok (.iload_n 1, 1) := by decide +kernel
theorem dX11_parts_33 : decode cX11_parts 33 = .ok (.iaload, 1) := by decide +kernel
theorem dX11_parts_34 : decode cX11_parts 34 = .ok (.ireturn, 1) := by decide +kernel
theorem dX11_parts_21 : decode cX11_parts 21 = .ok (.aload_n 0, 1) := by decide +kernel
theorem dX11_parts_22 : decode cX11_parts 22 = .ok (.getfield 246, 3) := by decide +kernel
theorem dX11_parts_25 : decode cX11_parts 25 = .ok (.goto 9, 3) := by decide +kernel
theorem dX11_parts_9 : decode cX11_parts 9 = .ok (.bipush (-2), 2) := by decide +kernel
theorem dX11_parts_11 : decode cX11_parts 11 = .ok (.ireturn, 1) := by decide +kernel
theorem dX11_found_0 : decode cX11_found 0 = .ok (.aload_n 0, 1) := by decide +kernel
theorem dX11_found_1 : decode cX11_found 1 = .ok (.invokevirtual 83, 3) := by decide +kernel
theorem dX11_found_4 : decode cX11_found 4 = .ok (.ifCond .ne 6, 3) := by decide +kernel
theorem dX11_found_10 : decode cX11_found 10 = .ok (.aload_n 0, 1) := by decide +kernel
theorem dX11_found_11 : decode cX11_found 11 = .ok (.invokevirtual 278, 3) := by decide +kernel
theorem dX11_found_14 : decode cX11_found 14 = .ok (.aload_n 0, 1) := by decide +kernel
theorem dX11_found_15 : decode cX11_found 15 = .ok (.getfield 249, 3) := by decide +kernel
theorem dX11_found_18 : decode cX11_found 18 = .ok (.ireturn, 1) := by decide +kernel
theorem dX11_found_7 : decode cX11_found 7 = .ok (.bipush (-2), 2) := by decide +kernel
theorem dX11_found_9 : decode cX11_found 9 = .ok (.ireturn, 1) := by decide +kernel
theorem dX11_likely_0 : decode cX11_likely 0 = .ok (.aload_n 0, 1) := by decide +kernel
theorem dX11_likely_1 : decode cX11_likely 1 = .ok (.invokevirtual 83, 3) := by decide +kernel
theorem dX11_likely_4 : decode cX11_likely 4 = .ok (.ifCond .ne 6, 3) := by decide +kernel
theorem dX11_likely_10 : decode cX11_likely 10 = .ok (.aload_n 0, 1) := by decide +kernel
theorem dX11_likely_11 : decode cX11_likely 11 = .ok (.invokevirtual 278, 3) := by decide +kernel
theorem dX11_likely_14 : decode cX11_likely 14 = .ok (.iconst (-1), 1) := by decide +kernel
theorem dX11_likely_15 : decode cX11_likely 15 = .ok (.istore_n 1, 1) := by decide +kernel
theorem dX11_likely_16 : decode cX11_likely 16 = .ok (.iconst 0, 1) := by decide +kernel
theorem dX11_likely_17 : decode cX11_likely 17 = .ok (.istore_n 2, 1) := by decide +kernel
theorem dX11_likely_18 : decode cX11_likely 18 = .ok (.iload_n 2, 1) := by decide +kernel
theorem dX11_likely_19 : decode cX11_likely 19 = .ok (.aload_n 0, 1) := by decide +kernel
theorem dX11_likely_20 : decode cX11_likely 20 = .ok (.getfield 9, 3) := by decide +kernel
theorem dX11_likely_23 : decode cX11_likely 23 = .ok (.iconst 4, 1) := by decide +kernel
theorem dX11_likely_24 : decode cX11_likely 24 = .ok (.iaload, 1) := by decide +kernel
theorem dX11_likely_25 : decode cX11_likely 25 = .ok (.if_icmp .ge 35, 3) := by decide +kernel
theorem dX11_likely_60 : decode cX11_likely 60 = .ok (.iload_n 1, 1) := by decide +kernel
theorem dX11_likely_61 : decode cX11_likely 61 = .ok (.ireturn, 1) := by decide +kernel
theorem dX11_likely_28 : decode cX11_likely 28 = .ok (.iload_n 1, 1) := by decide +kernel
theorem dX11_likely_29 : decode cX11_likely 29 = .ok (.iconst (-1), 1) := by decide +kernel
theorem dX11_likely_53 : decode cX11_likely 53 = .ok (.istore_n 1, 1) := by decide +kernel
theorem dX11_likely_54 : decode cX11_likely 54 = .ok (.iinc 2 1, 3) := by decide +kernel
theorem dX11_likely_57 : decode cX11_likely 57 = .ok (.goto (-39), 3) := by decide +kernel
theorem dX11_likely_48 : decode cX11_likely 48 = .ok (.iload_n 2, 1) := by decide +kernel
theorem dX11_likely_49 : decode cX11_likely 49 = .ok (.goto 4, 3) := by decide +kernel
theorem dX11_likely_30 : decode cX11_likely 30 = .ok (.if_icmp .eq 18, 3) := by decide +kernel
theorem dX11_likely_33 : decode cX11_likely 33 = .ok (.aload_n 0, 1) := by decide +kernel
theorem dX11_likely_34 : decode cX11_likely 34 = .ok (.getfield 34, 3) := by decide +kernel
theorem dX11_likely_37 : decode cX11_likely 37 = .ok (.iload_n 2, 1) := by decide +kernel
theorem dX11_likely_38 : decode cX11_likely 38 = .ok (.iaload, 1) := by decide +kernel
theorem dX11_likely_39 : decode cX11_likely 39 = .ok (.aload_n 0, 1) := by decide +kernel
theorem dX11_likely_40 : decode cX11_likely 40 = .ok (.getfield 34, 3) := by decide +kernel
theorem dX11_likely_43 : decode cX11_likely 43 = .ok (.iload_n 1, 1) := by decide +kernel
theorem dX11_likely_44 : decode cX11_likely 44 = .ok (.iaload, 1) := by decide +kernel
theorem dX11_likely_45 : decode cX11_likely 45 = .ok (.if_icmp .le 7, 3) := by decide +kernel
theorem dX11_likely_52 : decode cX11_likely 52 = .ok (.iload_n 1, 1) := by decide +kernel
theorem dX11_likely_7 : decode cX11_likely 7 = .ok (.bipush (-2), 2) := by decide +kernel
theorem dX11_likely_9 : decode cX11_likely 9 = .ok (.ireturn, 1) := by decide +kernel
theorem dX11_here_0 : decode cX11_here 0 = .ok (.aload_n 0, 1) := by decide +kernel
theorem dX11_here_1 : decode cX11_here 1 = .ok (.invokevirtual 83, 3) := by decide +kernel
theorem dX11_here_4 : decode cX11_here 4 = .ok (.ifCond .ne 6, 3) := by decide +kernel
theorem dX11_here_10 : decode cX11_here 10 = .ok (.aload_n 0, 1) := by decide +kernel
theorem dX11_here_11 : decode cX11_here 11 = .ok (.invokevirtual 278, 3) := by decide +kernel
theorem dX11_here_14 : decode cX11_here 14 = .ok (.aload_n 0, 1) := by decide +kernel
theorem dX11_here_15 : decode cX11_here 15 = .ok (.aload_n 0, 1) := by decide +kernel
theorem dX11_here_16 : decode cX11_here 16 = .ok (.invokevirtual 270, 3) := by decide +kernel
theorem dX11_here_19 : decode cX11_here 19 = .ok (.invokevirtual 281, 3) := by decide +kernel
theorem dX11_here_22 : decode cX11_here 22 = .ok (.ireturn, 1) := by decide +kernel
theorem dX11_here_7 : decode cX11_here 7 = .ok (.bipush (-2), 2) := by decide +kernel
theorem dX11_here_9 : decode cX11_here 9 = .ok (.ireturn, 1) := by decide +kernel
theorem dX11_chance_0 : decode cX11_chance 0 = .ok (.aload_n 0, 1) := by decide +kernel
theorem dX11_chance_1 : decode cX11_chance 1 = .ok (.iload_n 1, 1) := by decide +kernel
theorem dX11_chance_2 : decode cX11_chance 2 = .ok (.i2l, 1) := by decide +kernel
theorem dX11_chance_3 : decode cX11_chance 3 = .ok (.invokevirtual 275, 3) := by decide +kernel
theorem dX11_chance_6 : decode cX11_chance 6 = .ok (.ifCond .ne 6, 3) := by decide +kernel
theorem dX11_chance_12 : decode cX11_chance 12 = .ok (.aload_n 0, 1) := by decide +kernel
theorem dX11_chance_13 : decode cX11_chance 13 = .ok (.invokevirtual 278, 3) := by decide +kernel
theorem dX11_chance_16 : decode cX11_chance 16 = .ok (.aload_n 0, 1) := by decide +kernel
theorem dX11_chance_17 : decode cX11_chance 17 = .ok (.iload_n 1, 1) := by decide +kernel
theorem dX11_chance_18 : decode cX11_chance 18 = .ok (.iconst (-1), 1) := by decide +kernel
theorem dX11_chance_19 : decode cX11_chance 19 = .ok (.if_icmp .ne 10, 3) := by decide +kernel
theorem dX11_chance_29 : decode cX11_chance 29 = .ok (.aload_n 0, 1) := by decide +kernel
theorem dX11_chance_30 : decode cX11_chance 30 = .ok (.getfield 34, 3) := by decide +kernel
theorem dX11_chance_33 : decode cX11_chance 33 = .ok (.iload_n 1, 1) := by decide +kernel
theorem dX11_chance_34 : decode cX11_chance 34 = .ok (.iaload, 1) := by decide +kernel
theorem dX11_chance_35 : decode cX11_chance 35 = .ok (.invokevirtual 281, 3) := by decide +kernel
theorem dX11_chance_38 : decode cX11_chance 38 = .ok (.ireturn, 1) := by decide +kernel
theorem dX11_chance_22 : decode cX11_chance 22 = .ok (.aload_n 0, 1) := by decide +kernel
theorem dX11_chance_23 : decode cX11_chance 23 = .ok (.getfield 246, 3) := by decide +kernel
theorem dX11_chance_26 : decode cX11_chance 26 = .ok (.goto 9, 3) := by decide +kernel
theorem dX11_chance_9 : decode cX11_chance 9 = .ok (.bipush (-2), 2) := by decide +kernel
theorem dX11_chance_11 : decode cX11_chance 11 = .ok (.ireturn, 1) := by decide +kernel
theorem dX11_call_0 : decode cX11_call 0 = .ok (.aload_n 0, 1) := by decide +kernel
theorem dX11_call_1 : decode cX11_call 1 = .ok (.iload_n 1, 1) := by decide +kernel
theorem dX11_call_2 : decode cX11_call 2 = .ok (.i2l, 1) := by decide +kernel
theorem dX11_call_3 : decode cX11_call 3 = .ok (.invokevirtual 275, 3) := by decide +kernel
theorem dX11_call_6 : decode cX11_call 6 = .ok (.ifCond .ne 6, 3) := by decide +kernel
theorem dX11_call_12 : decode cX11_call 12 = .ok (.aload_n 0, 1) := by decide +kernel
theorem dX11_call_13 : decode cX11_call 13 = .ok (.getfield 9, 3) := by decide +kernel
theorem dX11_call_16 : decode cX11_call 16 = .ok (.bipush 7, 2) := by decide +kernel
theorem dX11_call_18 : decode cX11_call 18 = .ok (.iaload, 1) := by decide +kernel
theorem dX11_call_19 : decode cX11_call 19 = .ok (.bipush 60, 2) := by decide +kernel
theorem dX11_call_21 : decode cX11_call 21 = .ok (.if_icmp .ne 6, 3) := by decide +kernel
theorem dX11_call_27 : decode cX11_call 27 = .ok (.aload_n 0, 1) := by decide +kernel
theorem dX11_call_28 : decode cX11_call 28 = .ok (.invokevirtual 278, 3) := by decide +kernel
theorem dX11_call_31 : decode cX11_call 31 = .ok (.aload_n 0, 1) := by decide +kernel
theorem dX11_call_32 : decode cX11_call 32 = .ok (.getfield 9, 3) := by decide +kernel
theorem dX11_call_35 : decode cX11_call 35 = .ok (.bipush 84, 2) := by decide +kernel
theorem dX11_call_37 : decode cX11_call 37 = .ok (.aload_n 0, 1) := by decide +kernel
theorem dX11_call_38 : decode cX11_call 38 = .ok (.getfield 9, 3) := by decide +kernel
theorem dX11_call_41 : decode cX11_call 41 = .ok (.bipush 7, 2) := by decide +kernel
theorem dX11_call_43 : decode cX11_call 43 = .ok (.iaload, 1) := by decide +kernel
theorem dX11_call_44 : decode cX11_call 44 = .ok (.iadd, 1) := by decide +kernel
theorem dX11_call_45 : decode cX11_call 45 = .ok (.iload_n 1, 1) := by decide +kernel
theorem dX11_call_46 : decode cX11_call 46 = .ok (.iastore, 1) := by decide +kernel
theorem dX11_call_47 : decode cX11_call 47 = .ok (.aload_n 0, 1) := by decide +kernel
theorem dX11_call_48 : decode cX11_call 48 = .ok (.getfield 9, 3) := by decide +kernel
theorem dX11_call_51 : decode cX11_call 51 = .ok (.bipush 7, 2) := by decide +kernel
theorem dX11_call_53 : decode cX11_call 53 = .ok (.dup2, 1) := by decide +kernel
theorem dX11_call_54 : decode cX11_call 54 = .ok (.iaload, 1) := by decide +kernel
theorem dX11_call_55 : decode cX11_call 55 = .ok (.iconst 1, 1) := by decide +kernel
theorem dX11_call_56 : decode cX11_call 56 = .ok (.iadd, 1) := by decide +kernel
theorem dX11_call_57 : decode cX11_call 57 = .ok (.iastore, 1) := by decide +kernel
theorem dX11_call_58 : decode cX11_call 58 = .ok (.aload_n 0, 1) := by decide +kernel
theorem dX11_call_59 : decode cX11_call 59 = .ok (.iload_n 1, 1) := by decide +kernel
theorem dX11_call_60 : decode cX11_call 60 = .ok (.iconst 0, 1) := by decide +kernel
theorem dX11_call_61 : decode cX11_call 61 = .ok (.invokevirtual 264, 3) := by decide +kernel
theorem dX11_call_64 : decode cX11_call 64 = .ok (.ireturn, 1) := by decide +kernel
theorem dX11_call_24 : decode cX11_call 24 = .ok (.bipush (-5), 2) := by decide +kernel
theorem dX11_call_26 : decode cX11_call 26 = .ok (.ireturn, 1) := by decide +kernel
theorem dX11_call_9 : decode cX11_call 9 = .ok (.bipush (-2), 2) := by decide +kernel
theorem dX11_call_11 : decode cX11_call 11 = .ok (.ireturn, 1) := by decide +kernel
theorem dX11_undo_0 : decode cX11_undo 0 = .ok (.aload_n 0, 1) := by decide +kernel
theorem dX11_undo_1 : decode cX11_undo 1 = .ok (.invokevirtual 83, 3) := by decide +kernel
theorem dX11_undo_4 : decode cX11_undo 4 = .ok (.ifCond .ne 6, 3) := by decide +kernel
theorem dX11_undo_10 : decode cX11_undo 10 = .ok (.aload_n 0, 1) := by decide +kernel
theorem dX11_undo_11 : decode cX11_undo 11 = .ok (.getfield 9, 3) := by decide +kernel
theorem dX11_undo_14 : decode cX11_undo 14 = .ok (.bipush 7, 2) := by decide +kernel
theorem dX11_undo_16 : decode cX11_undo 16 = .ok (.iaload, 1) := by decide +kernel
theorem dX11_undo_17 : decode cX11_undo 17 = .ok (.ifCond .ne 6, 3) := by decide +kernel
theorem dX11_undo_23 : decode cX11_undo 23 = .ok (.aload_n 0, 1) := by decide +kernel
theorem dX11_undo_24 : decode cX11_undo 24 = .ok (.getfield 9, 3) := by decide +kernel
theorem dX11_undo_27 : decode cX11_undo 27 = .ok (.bipush 7, 2) := by decide +kernel
theorem dX11_undo_29 : decode cX11_undo 29 = .ok (.dup2, 1) := by decide +kernel
theorem dX11_undo_30 : decode cX11_undo 30 = .ok (.iaload, 1) := by decide +kernel
theorem dX11_undo_31 : decode cX11_undo 31 = .ok (.iconst 1, 1) := by decide +kernel
theorem dX11_undo_32 : decode cX11_undo 32 = .ok (.isub, 1) := by decide +kernel
theorem dX11_undo_33 : decode cX11_undo 33 = .ok (.iastore, 1) := by decide +kernel
theorem dX11_undo_34 : decode cX11_undo 34 = .ok (.aload_n 0, 1) := by decide +kernel
theorem dX11_undo_35 : decode cX11_undo 35 = .ok (.getfield 9, 3) := by decide +kernel
theorem dX11_undo_38 : decode cX11_undo 38 = .ok (.bipush 7, 2) := by decide +kernel
theorem dX11_undo_40 : decode cX11_undo 40 = .ok (.iaload, 1) := by decide +kernel
theorem dX11_undo_41 : decode cX11_undo 41 = .ok (.ireturn, 1) := by decide +kernel
theorem dX11_undo_20 : decode cX11_undo 20 = .ok (.bipush (-5), 2) := by decide +kernel
theorem dX11_undo_22 : decode cX11_undo 22 = .ok (.ireturn, 1) := by decide +kernel
theorem dX11_undo_7 : decode cX11_undo 7 = .ok (.bipush (-2), 2) := by decide +kernel
theorem dX11_undo_9 : decode cX11_undo 9 = .ok (.ireturn, 1) := by decide +kernel
theorem dX11_anew_0 : decode cX11_anew 0 = .ok (.aload_n 0, 1) := by decide +kernel
theorem dX11_anew_1 : decode cX11_anew 1 = .ok (.invokevirtual 83, 3) := by decide +kernel
theorem dX11_anew_4 : decode cX11_anew 4 = .ok (.ifCond .ne 6, 3) := by decide +kernel
theorem dX11_anew_10 : decode cX11_anew 10 = .ok (.aload_n 0, 1) := by decide +kernel
theorem dX11_anew_11 : decode cX11_anew 11 = .ok (.getfield 9, 3) := by decide +kernel
theorem dX11_anew_14 : decode cX11_anew 14 = .ok (.bipush 7, 2) := by decide +kernel
theorem dX11_anew_16 : decode cX11_anew 16 = .ok (.iaload, 1) := by decide +kernel
theorem dX11_anew_17 : decode cX11_anew 17 = .ok (.istore_n 1, 1) := by decide +kernel
theorem dX11_anew_18 : decode cX11_anew 18 = .ok (.aload_n 0, 1) := by decide +kernel
theorem dX11_anew_19 : decode cX11_anew 19 = .ok (.getfield 9, 3) := by decide +kernel
theorem dX11_anew_22 : decode cX11_anew 22 = .ok (.bipush 7, 2) := by decide +kernel
theorem dX11_anew_24 : decode cX11_anew 24 = .ok (.iconst 0, 1) := by decide +kernel
theorem dX11_anew_25 : decode cX11_anew 25 = .ok (.iastore, 1) := by decide +kernel
theorem dX11_anew_26 : decode cX11_anew 26 = .ok (.iload_n 1, 1) := by decide +kernel
theorem dX11_anew_27 : decode cX11_anew 27 = .ok (.ireturn, 1) := by decide +kernel
theorem dX11_anew_7 : decode cX11_anew 7 = .ok (.bipush (-2), 2) := by decide +kernel
theorem dX11_anew_9 : decode cX11_anew 9 = .ok (.ireturn, 1) := by decide +kernel
theorem dX11_later_0 : decode cX11_later 0 = .ok (.aload_n 0, 1) := by decide +kernel
theorem dX11_later_1 : decode cX11_later 1 = .ok (.iload_n 1, 1) := by decide +kernel
theorem dX11_later_2 : decode cX11_later 2 = .ok (.i2l, 1) := by decide +kernel
theorem dX11_later_3 : decode cX11_later 3 = .ok (.invokevirtual 275, 3) := by decide +kernel
theorem dX11_later_6 : decode cX11_later 6 = .ok (.ifCond .eq 15, 3) := by decide +kernel
theorem dX11_later_21 : decode cX11_later 21 = .ok (.bipush (-2), 2) := by decide +kernel
theorem dX11_later_23 : decode cX11_later 23 = .ok (.ireturn, 1) := by decide +kernel
theorem dX11_later_9 : decode cX11_later 9 = .ok (.iload_n 2, 1) := by decide +kernel
theorem dX11_later_10 : decode cX11_later 10 = .ok (.i2l, 1) := by decide +kernel
theorem dX11_later_11 : decode cX11_later 11 = .ok (.lconst 0, 1) := by decide +kernel
theorem dX11_later_12 : decode cX11_later 12 = .ok (.ldc2_w 284, 3) := by decide +kernel
theorem dX11_later_15 : decode cX11_later 15 = .ok (.invokestatic 79, 3) := by decide +kernel
theorem dX11_later_18 : decode cX11_later 18 = .ok (.ifCond .ne 6, 3) := by decide +kernel
theorem dX11_later_24 : decode cX11_later 24 = .ok (.aload_n 0, 1) := by decide +kernel
theorem dX11_later_25 : decode cX11_later 25 = .ok (.invokevirtual 278, 3) := by decide +kernel
theorem dX11_later_28 : decode cX11_later 28 = .ok (.iconst 0, 1) := by decide +kernel
theorem dX11_later_29 : decode cX11_later 29 = .ok (.istore_n 3, 1) := by decide +kernel
theorem dX11_later_30 : decode cX11_later 30 = .ok (.iload_n 3, 1) := by decide +kernel
theorem dX11_later_31 : decode cX11_later 31 = .ok (.iload_n 2, 1) := by decide +kernel
theorem dX11_later_32 : decode cX11_later 32 = .ok (.if_icmp .ge 14, 3) := by decide +kernel
theorem dX11_later_46 : decode cX11_later 46 = .ok (.iload_n 1, 1) := by decide +kernel
theorem dX11_later_47 : decode cX11_later 47 = .ok (.iconst (-1), 1) := by decide +kernel
theorem dX11_later_48 : decode cX11_later 48 = .ok (.if_icmp .ne 10, 3) := by decide +kernel
theorem dX11_later_58 : decode cX11_later 58 = .ok (.aload_n 0, 1) := by decide +kernel
theorem dX11_later_59 : decode cX11_later 59 = .ok (.getfield 34, 3) := by decide +kernel
theorem dX11_later_62 : decode cX11_later 62 = .ok (.iload_n 1, 1) := by decide +kernel
theorem dX11_later_63 : decode cX11_later 63 = .ok (.iaload, 1) := by decide +kernel
theorem dX11_later_64 : decode cX11_later 64 = .ok (.ireturn, 1) := by decide +kernel
theorem dX11_later_51 : decode cX11_later 51 = .ok (.aload_n 0, 1) := by decide +kernel
theorem dX11_later_52 : decode cX11_later 52 = .ok (.getfield 246, 3) := by decide +kernel
theorem dX11_later_55 : decode cX11_later 55 = .ok (.goto 9, 3) := by decide +kernel
theorem dX11_later_35 : decode cX11_later 35 = .ok (.aload_n 0, 1) := by decide +kernel
theorem dX11_later_36 : decode cX11_later 36 = .ok (.iconst (-1), 1) := by decide +kernel
theorem dX11_later_37 : decode cX11_later 37 = .ok (.invokevirtual 267, 3) := by decide +kernel
theorem dX11_later_40 : decode cX11_later 40 = .ok (.iinc 3 1, 3) := by decide +kernel
theorem dX11_later_43 : decode cX11_later 43 = .ok (.goto (-13), 3) := by decide +kernel
theorem dX11_numberAt_0 : decode cX11_numberAt 0 = .ok (.aload_n 0, 1) := by decide +kernel
theorem dX11_numberAt_1 : decode cX11_numberAt 1 = .ok (.getfield 67, 3) := by decide +kernel
theorem dX11_numberAt_4 : decode cX11_numberAt 4 = .ok (.bipush 60, 2) := by decide +kernel
theorem dX11_numberAt_6 : decode cX11_numberAt 6 = .ok (.iload_n 1, 1) := by decide +kernel
theorem dX11_numberAt_7 : decode cX11_numberAt 7 = .ok (.imul, 1) := by decide +kernel
theorem dX11_numberAt_8 : decode cX11_numberAt 8 = .ok (.iload_n 2, 1) := by decide +kernel
theorem dX11_numberAt_9 : decode cX11_numberAt 9 = .ok (.iadd, 1) := by decide +kernel
theorem dX11_numberAt_10 : decode cX11_numberAt 10 = .ok (.laload, 1) := by decide +kernel
theorem dX11_numberAt_11 : decode cX11_numberAt 11 = .ok (.lreturn, 1) := by decide +kernel
theorem dX11_roomAt_0 : decode cX11_roomAt 0 = .ok (.aload_n 0, 1) := by decide +kernel
theorem dX11_roomAt_1 : decode cX11_roomAt 1 = .ok (.iload_n 1, 1) := by decide +kernel
theorem dX11_roomAt_2 : decode cX11_roomAt 2 = .ok (.iload_n 2, 1) := by decide +kernel
theorem dX11_roomAt_3 : decode cX11_roomAt 3 = .ok (.invokevirtual 286, 3) := by decide +kernel
theorem dX11_roomAt_6 : decode cX11_roomAt 6 = .ok (.l2i, 1) := by decide +kernel
theorem dX11_roomAt_7 : decode cX11_roomAt 7 = .ok (.ireturn, 1) := by decide +kernel
theorem dX11_goRound_0 : decode cX11_goRound 0 = .ok (.aload_n 0, 1) := by decide +kernel
theorem dX11_goRound_1 : decode cX11_goRound 1 = .ok (.invokevirtual 278, 3) := by decide +kernel
theorem dX11_goRound_4 : decode cX11_goRound 4 = .ok (.iconst 0, 1) := by decide +kernel
theorem dX11_goRound_5 : decode cX11_goRound 5 = .ok (.istore 4, 2) := by decide +kernel
theorem dX11_goRound_7 : decode cX11_goRound 7 = .ok (.iconst 0, 1) := by decide +kernel
theorem dX11_goRound_8 : decode cX11_goRound 8 = .ok (.istore 5, 2) := by decide +kernel
theorem dX11_goRound_10 : decode cX11_goRound 10 = .ok (.iload 5, 2) := by decide +kernel
theorem dX11_goRound_12 : decode cX11_goRound 12 = .ok (.iload_n 2, 1) := by decide +kernel
theorem dX11_goRound_13 : decode cX11_goRound 13 = .ok (.if_icmp .ge 31, 3) := by decide +kernel
theorem dX11_goRound_44 : decode cX11_goRound 44 = .ok (.iload 4, 2) := by decide +kernel
theorem dX11_goRound_46 : decode cX11_goRound 46 = .ok (.ireturn, 1) := by decide +kernel
theorem dX11_goRound_16 : decode cX11_goRound 16 = .ok (.iload 4, 2) := by decide +kernel
theorem dX11_goRound_18 : decode cX11_goRound 18 = .ok (.aload_n 0, 1) := by decide +kernel
theorem dX11_goRound_19 : decode cX11_goRound 19 = .ok (.aload_n 0, 1) := by decide +kernel
theorem dX11_goRound_20 : decode cX11_goRound 20 = .ok (.iload_n 1, 1) := by decide +kernel
theorem dX11_goRound_21 : decode cX11_goRound 21 = .ok (.iload 5, 2) := by decide +kernel
theorem dX11_goRound_23 : decode cX11_goRound 23 = .ok (.invokevirtual 293, 3) := by decide +kernel
theorem dX11_goRound_26 : decode cX11_goRound 26 = .ok (.iload_n 3, 1) := by decide +kernel
theorem dX11_goRound_27 : decode cX11_goRound 27 = .ok (.invokevirtual 264, 3) := by decide +kernel
theorem dX11_goRound_30 : decode cX11_goRound 30 = .ok (.iadd, 1) := by decide +kernel
theorem dX11_goRound_31 : decode cX11_goRound 31 = .ok (.istore 4, 2) := by decide +kernel
theorem dX11_goRound_33 : decode cX11_goRound 33 = .ok (.aload_n 0, 1) := by decide +kernel
theorem dX11_goRound_34 : decode cX11_goRound 34 = .ok (.iconst (-1), 1) := by decide +kernel
theorem dX11_goRound_35 : decode cX11_goRound 35 = .ok (.invokevirtual 267, 3) := by decide +kernel
theorem dX11_goRound_38 : decode cX11_goRound 38 = .ok (.iinc 5 1, 3) := by decide +kernel
theorem dX11_goRound_41 : decode cX11_goRound 41 = .ok (.goto (-31), 3) := by decide +kernel
theorem dX11_worthOf_0 : decode cX11_worthOf 0 = .ok (.aload_n 0, 1) := by decide +kernel
theorem dX11_worthOf_1 : decode cX11_worthOf 1 = .ok (.getfield 9, 3) := by decide +kernel
theorem dX11_worthOf_4 : decode cX11_worthOf 4 = .ok (.iconst 2, 1) := by decide +kernel
theorem dX11_worthOf_5 : decode cX11_worthOf 5 = .ok (.iaload, 1) := by decide +kernel
theorem dX11_worthOf_6 : decode cX11_worthOf 6 = .ok (.i2l, 1) := by decide +kernel
theorem dX11_worthOf_7 : decode cX11_worthOf 7 = .ok (.iload_n 1, 1) := by decide +kernel
theorem dX11_worthOf_8 : decode cX11_worthOf 8 = .ok (.i2l, 1) := by decide +kernel
theorem dX11_worthOf_9 : decode cX11_worthOf 9 = .ok (.lmul, 1) := by decide +kernel
theorem dX11_worthOf_10 : decode cX11_worthOf 10 = .ok (.ldc2_w 273, 3) := by decide +kernel
theorem dX11_worthOf_13 : decode cX11_worthOf 13 = .ok (.ldiv, 1) := by decide +kernel
theorem dX11_worthOf_14 : decode cX11_worthOf 14 = .ok (.l2i, 1) := by decide +kernel
theorem dX11_worthOf_15 : decode cX11_worthOf 15 = .ok (.ireturn, 1) := by decide +kernel
theorem dX11_gainOf_0 : decode cX11_gainOf 0 = .ok (.aload_n 0, 1) := by decide +kernel
theorem dX11_gainOf_1 : decode cX11_gainOf 1 = .ok (.aload_n 0, 1) := by decide +kernel
theorem dX11_gainOf_2 : decode cX11_gainOf 2 = .ok (.iload_n 1, 1) := by decide +kernel
theorem dX11_gainOf_3 : decode cX11_gainOf 3 = .ok (.iload_n 2, 1) := by decide +kernel
theorem dX11_gainOf_4 : decode cX11_gainOf 4 = .ok (.iload_n 3, 1) := by decide +kernel
theorem dX11_gainOf_5 : decode cX11_gainOf 5 = .ok (.invokevirtual 296, 3) := by decide +kernel
theorem dX11_gainOf_8 : decode cX11_gainOf 8 = .ok (.invokevirtual 300, 3) := by decide +kernel
theorem dX11_gainOf_11 : decode cX11_gainOf 11 = .ok (.aload_n 0, 1) := by decide +kernel
theorem dX11_gainOf_12 : decode cX11_gainOf 12 = .ok (.getfield 9, 3) := by decide +kernel
theorem dX11_gainOf_15 : decode cX11_gainOf 15 = .ok (.iconst 3, 1) := by decide +kernel
theorem dX11_gainOf_16 : decode cX11_gainOf 16 = .ok (.iaload, 1) := by decide +kernel
theorem dX11_gainOf_17 : decode cX11_gainOf 17 = .ok (.iload_n 2, 1) := by decide +kernel
theorem dX11_gainOf_18 : decode cX11_gainOf 18 = .ok (.imul, 1) := by decide +kernel
theorem dX11_gainOf_19 : decode cX11_gainOf 19 = .ok (.isub, 1) := by decide +kernel
theorem dX11_gainOf_20 : decode cX11_gainOf 20 = .ok (.ireturn, 1) := by decide +kernel
theorem dX11_goesTo_0 : decode cX11_goesTo 0 = .ok (.iload_n 1, 1) := by decide +kernel
theorem dX11_goesTo_1 : decode cX11_goesTo 1 = .ok (.iload_n 2, 1) := by decide +kernel
theorem dX11_goesTo_2 : decode cX11_goesTo 2 = .ok (.if_icmp .eq 17, 3) := by decide +kernel
theorem dX11_goesTo_19 : decode cX11_goesTo 19 = .ok (.iconst 1, 1) := by decide +kernel
theorem dX11_goesTo_20 : decode cX11_goesTo 20 = .ok (.goto 4, 3) := by decide +kernel
theorem dX11_goesTo_24 : decode cX11_goesTo 24 = .ok (.ireturn, 1) := by decide +kernel
theorem dX11_goesTo_5 : decode cX11_goesTo 5 = .ok (.aload_n 0, 1) := by decide +kernel
theorem dX11_goesTo_6 : decode cX11_goesTo 6 = .ok (.iload_n 1, 1) := by decide +kernel
theorem dX11_goesTo_7 : decode cX11_goesTo 7 = .ok (.iconst 3, 1) := by decide +kernel
theorem dX11_goesTo_8 : decode cX11_goesTo 8 = .ok (.invokevirtual 227, 3) := by decide +kernel
theorem dX11_goesTo_11 : decode cX11_goesTo 11 = .ok (.iload_n 2, 1) := by decide +kernel
theorem dX11_goesTo_12 : decode cX11_goesTo 12 = .ok (.invokestatic 258, 3) := by decide +kernel
theorem dX11_goesTo_15 : decode cX11_goesTo 15 = .ok (.iconst 1, 1) := by decide +kernel
theorem dX11_goesTo_16 : decode cX11_goesTo 16 = .ok (.if_icmp .ne 7, 3) := by decide +kernel
theorem dX11_goesTo_23 : decode cX11_goesTo 23 = .ok (.iconst 0, 1) := by decide +kernel
theorem dX11_canWalk_0 : decode cX11_canWalk 0 = .ok (.iload_n 2, 1) := by decide +kernel
theorem dX11_canWalk_1 : decode cX11_canWalk 1 = .ok (.istore_n 3, 1) := by decide +kernel
theorem dX11_canWalk_2 : decode cX11_canWalk 2 = .ok (.iconst 0, 1) := by decide +kernel
theorem dX11_canWalk_3 : decode cX11_canWalk 3 = .ok (.istore 4, 2) := by decide +kernel
theorem dX11_canWalk_5 : decode cX11_canWalk 5 = .ok (.iload 4, 2) := by decide +kernel
theorem dX11_canWalk_7 : decode cX11_canWalk 7 = .ok (.aload_n 0, 1) := by decide +kernel
theorem dX11_canWalk_8 : decode cX11_canWalk 8 = .ok (.getfield 61, 3) := by decide +kernel
theorem dX11_canWalk_11 : decode cX11_canWalk 11 = .ok (.iload_n 1, 1) := by decide +kernel
theorem dX11_canWalk_12 : decode cX11_canWalk 12 = .ok (.iaload, 1) := by decide +kernel
theorem dX11_canWalk_13 : decode cX11_canWalk 13 = .ok (.if_icmp .ge 48, 3) := by decide +kernel
theorem dX11_canWalk_61 : decode cX11_canWalk 61 = .ok (.iconst 1, 1) := by decide +kernel
theorem dX11_canWalk_62 : decode cX11_canWalk 62 = .ok (.ireturn, 1) := by decide +kernel
theorem dX11_canWalk_16 : decode cX11_canWalk 16 = .ok (.aload_n 0, 1) := by decide +kernel
theorem dX11_canWalk_17 : decode cX11_canWalk 17 = .ok (.iload_n 1, 1) := by decide +kernel
theorem dX11_canWalk_18 : decode cX11_canWalk 18 = .ok (.iload 4, 2) := by decide +kernel
theorem dX11_canWalk_20 : decode cX11_canWalk 20 = .ok (.invokevirtual 293, 3) := by decide +kernel
theorem dX11_canWalk_23 : decode cX11_canWalk 23 = .ok (.iconst (-1), 1) := by decide +kernel
theorem dX11_canWalk_38 : decode cX11_canWalk 38 = .ok (.istore 5, 2) := by decide +kernel
theorem dX11_canWalk_40 : decode cX11_canWalk 40 = .ok (.aload_n 0, 1) := by decide +kernel
theorem dX11_canWalk_41 : decode cX11_canWalk 41 = .ok (.iload_n 3, 1) := by decide +kernel
theorem dX11_canWalk_42 : decode cX11_canWalk 42 = .ok (.iload 5, 2) := by decide +kernel
theorem dX11_canWalk_44 : decode cX11_canWalk 44 = .ok (.invokevirtual 312, 3) := by decide +kernel
theorem dX11_canWalk_47 : decode cX11_canWalk 47 = .ok (.ifCond .ne 5, 3) := by decide +kernel
theorem dX11_canWalk_52 : decode cX11_canWalk 52 = .ok (.iload 5, 2) := by decide +kernel
theorem dX11_canWalk_54 : decode cX11_canWalk 54 = .ok (.istore_n 3, 1) := by decide +kernel
theorem dX11_canWalk_55 : decode cX11_canWalk 55 = .ok (.iinc 4 1, 3) := by decide +kernel
theorem dX11_canWalk_58 : decode cX11_canWalk 58 = .ok (.goto (-53), 3) := by decide +kernel
theorem dX11_canWalk_50 : decode cX11_canWalk 50 = .ok (.iconst 0, 1) := by decide +kernel
theorem dX11_canWalk_51 : decode cX11_canWalk 51 = .ok (.ireturn, 1) := by decide +kernel
theorem dX11_canWalk_24 : decode cX11_canWalk 24 = .ok (.if_icmp .ne 7, 3) := by decide +kernel
theorem dX11_canWalk_31 : decode cX11_canWalk 31 = .ok (.aload_n 0, 1) := by decide +kernel
theorem dX11_canWalk_32 : decode cX11_canWalk 32 = .ok (.iload_n 1, 1) := by decide +kernel
theorem dX11_canWalk_33 : decode cX11_canWalk 33 = .ok (.iload 4, 2) := by decide +kernel
theorem dX11_canWalk_35 : decode cX11_canWalk 35 = .ok (.invokevirtual 293, 3) := by decide +kernel
theorem dX11_canWalk_27 : decode cX11_canWalk 27 = .ok (.iload_n 3, 1) := by decide +kernel
theorem dX11_canWalk_28 : decode cX11_canWalk 28 = .ok (.goto 10, 3) := by decide +kernel
theorem dX11_nextWay_0 : decode cX11_nextWay 0 = .ok (.iload_n 1, 1) := by decide +kernel
theorem dX11_nextWay_1 : decode cX11_nextWay 1 = .ok (.iconst 1, 1) := by decide +kernel
theorem dX11_nextWay_2 : decode cX11_nextWay 2 = .ok (.isub, 1) := by decide +kernel
theorem dX11_nextWay_3 : decode cX11_nextWay 3 = .ok (.istore_n 2, 1) := by decide +kernel
theorem dX11_nextWay_4 : decode cX11_nextWay 4 = .ok (.iload_n 2, 1) := by decide +kernel
theorem dX11_nextWay_5 : decode cX11_nextWay 5 = .ok (.ifCond .lt 43, 3) := by decide +kernel
theorem dX11_nextWay_48 : decode cX11_nextWay 48 = .ok (.iconst 0, 1) := by decide +kernel
theorem dX11_nextWay_49 : decode cX11_nextWay 49 = .ok (.ireturn, 1) := by decide +kernel
theorem dX11_nextWay_8 : decode cX11_nextWay 8 = .ok (.aload_n 0, 1) := by decide +kernel
theorem dX11_nextWay_9 : decode cX11_nextWay 9 = .ok (.getfield 40, 3) := by decide +kernel
theorem dX11_nextWay_12 : decode cX11_nextWay 12 = .ok (.iload_n 2, 1) := by decide +kernel
theorem dX11_nextWay_13 : decode cX11_nextWay 13 = .ok (.dup2, 1) := by decide +kernel
theorem dX11_nextWay_14 : decode cX11_nextWay 14 = .ok (.iaload, 1) := by decide +kernel
theorem dX11_nextWay_15 : decode cX11_nextWay 15 = .ok (.iconst 1, 1) := by decide +kernel
theorem dX11_nextWay_16 : decode cX11_nextWay 16 = .ok (.iadd, 1) := by decide +kernel
theorem dX11_nextWay_17 : decode cX11_nextWay 17 = .ok (.iastore, 1) := by decide +kernel
theorem dX11_nextWay_18 : decode cX11_nextWay 18 = .ok (.aload_n 0, 1) := by decide +kernel
theorem dX11_nextWay_19 : decode cX11_nextWay 19 = .ok (.getfield 40, 3) := by decide +kernel
theorem dX11_nextWay_22 : decode cX11_nextWay 22 = .ok (.iload_n 2, 1) := by decide +kernel
theorem dX11_nextWay_23 : decode cX11_nextWay 23 = .ok (.iaload, 1) := by decide +kernel
theorem dX11_nextWay_24 : decode cX11_nextWay 24 = .ok (.aload_n 0, 1) := by decide +kernel
theorem dX11_nextWay_25 : decode cX11_nextWay 25 = .ok (.getfield 9, 3) := by decide +kernel
theorem dX11_nextWay_28 : decode cX11_nextWay 28 = .ok (.iconst 4, 1) := by decide +kernel
theorem dX11_nextWay_29 : decode cX11_nextWay 29 = .ok (.iaload, 1) := by decide +kernel
theorem dX11_nextWay_30 : decode cX11_nextWay 30 = .ok (.if_icmp .ge 5, 3) := by decide +kernel
theorem dX11_nextWay_35 : decode cX11_nextWay 35 = .ok (.aload_n 0, 1) := by decide +kernel
theorem dX11_nextWay_36 : decode cX11_nextWay 36 = .ok (.getfield 40, 3) := by decide +kernel
theorem dX11_nextWay_39 : decode cX11_nextWay 39 = .ok (.iload_n 2, 1) := by decide +kernel
theorem dX11_nextWay_40 : decode cX11_nextWay 40 = .ok (.iconst 0, 1) := by decide +kernel
theorem dX11_nextWay_41 : decode cX11_nextWay 41 = .ok (.iastore, 1) := by decide +kernel
theorem dX11_nextWay_42 : decode cX11_nextWay 42 = .ok (.iinc 2 (-1), 3) := by decide +kernel
theorem dX11_nextWay_45 : decode cX11_nextWay 45 = .ok (.goto (-41), 3) := by decide +kernel
theorem dX11_nextWay_33 : decode cX11_nextWay 33 = .ok (.iconst 1, 1) := by decide +kernel
theorem dX11_nextWay_34 : decode cX11_nextWay 34 = .ok (.ireturn, 1) := by decide +kernel
theorem dX11_isWay_0 : decode cX11_isWay 0 = .ok (.iload_n 1, 1) := by decide +kernel
theorem dX11_isWay_1 : decode cX11_isWay 1 = .ok (.istore_n 3, 1) := by decide +kernel
theorem dX11_isWay_2 : decode cX11_isWay 2 = .ok (.iconst 0, 1) := by decide +kernel
theorem dX11_isWay_3 : decode cX11_isWay 3 = .ok (.istore 4, 2) := by decide +kernel
theorem dX11_isWay_5 : decode cX11_isWay 5 = .ok (.iload 4, 2) := by decide +kernel
theorem dX11_isWay_7 : decode cX11_isWay 7 = .ok (.iload_n 2, 1) := by decide +kernel
theorem dX11_isWay_8 : decode cX11_isWay 8 = .ok (.if_icmp .ge 34, 3) := by decide +kernel
theorem dX11_isWay_42 : decode cX11_isWay 42 = .ok (.iconst 1, 1) := by decide +kernel
theorem dX11_isWay_43 : decode cX11_isWay 43 = .ok (.ireturn, 1) := by decide +kernel
theorem dX11_isWay_11 : decode cX11_isWay 11 = .ok (.aload_n 0, 1) := by decide +kernel
theorem dX11_isWay_12 : decode cX11_isWay 12 = .ok (.iload_n 3, 1) := by decide +kernel
theorem dX11_isWay_13 : decode cX11_isWay 13 = .ok (.aload_n 0, 1) := by decide +kernel
theorem dX11_isWay_14 : decode cX11_isWay 14 = .ok (.getfield 40, 3) := by decide +kernel
theorem dX11_isWay_17 : decode cX11_isWay 17 = .ok (.iload 4, 2) := by decide +kernel
theorem dX11_isWay_19 : decode cX11_isWay 19 = .ok (.iaload, 1) := by decide +kernel
theorem dX11_isWay_20 : decode cX11_isWay 20 = .ok (.invokevirtual 312, 3) := by decide +kernel
theorem dX11_isWay_23 : decode cX11_isWay 23 = .ok (.ifCond .ne 5, 3) := by decide +kernel
theorem dX11_isWay_28 : decode cX11_isWay 28 = .ok (.aload_n 0, 1) := by decide +kernel
theorem dX11_isWay_29 : decode cX11_isWay 29 = .ok (.getfield 40, 3) := by decide +kernel
theorem dX11_isWay_32 : decode cX11_isWay 32 = .ok (.iload 4, 2) := by decide +kernel
theorem dX11_isWay_34 : decode cX11_isWay 34 = .ok (.iaload, 1) := by decide +kernel
theorem dX11_isWay_35 : decode cX11_isWay 35 = .ok (.istore_n 3, 1) := by decide +kernel
theorem dX11_isWay_36 : decode cX11_isWay 36 = .ok (.iinc 4 1, 3) := by decide +kernel
theorem dX11_isWay_39 : decode cX11_isWay 39 = .ok (.goto (-34), 3) := by decide +kernel
theorem dX11_isWay_26 : decode cX11_isWay 26 = .ok (.iconst 0, 1) := by decide +kernel
theorem dX11_isWay_27 : decode cX11_isWay 27 = .ok (.ireturn, 1) := by decide +kernel
theorem dX11_bestFrom_0 : decode cX11_bestFrom 0 = .ok (.aload_n 0, 1) := by decide +kernel
theorem dX11_bestFrom_1 : decode cX11_bestFrom 1 = .ok (.invokevirtual 278, 3) := by decide +kernel
theorem dX11_bestFrom_4 : decode cX11_bestFrom 4 = .ok (.iconst 0, 1) := by decide +kernel
theorem dX11_bestFrom_5 : decode cX11_bestFrom 5 = .ok (.istore_n 3, 1) := by decide +kernel
theorem dX11_bestFrom_6 : decode cX11_bestFrom 6 = .ok (.iload_n 3, 1) := by decide +kernel
theorem dX11_bestFrom_7 : decode cX11_bestFrom 7 = .ok (.bipush 7, 2) := by decide +kernel
theorem dX11_bestFrom_9 : decode cX11_bestFrom 9 = .ok (.if_icmp .ge 21, 3) := by decide +kernel
theorem dX11_bestFrom_30 : decode cX11_bestFrom 30 = .ok (.iconst 0, 1) := by decide +kernel
theorem dX11_bestFrom_31 : decode cX11_bestFrom 31 = .ok (.istore_n 3, 1) := by decide +kernel
theorem dX11_bestFrom_32 : decode cX11_bestFrom 32 = .ok (.iload_n 3, 1) := by decide +kernel
theorem dX11_bestFrom_33 : decode cX11_bestFrom 33 = .ok (.iconst 5, 1) := by decide +kernel
theorem dX11_bestFrom_34 : decode cX11_bestFrom 34 = .ok (.if_icmp .ge 16, 3) := by decide +kernel
theorem dX11_bestFrom_50 : decode cX11_bestFrom 50 = .ok (.iconst (-1), 1) := by decide +kernel
theorem dX11_bestFrom_51 : decode cX11_bestFrom 51 = .ok (.istore_n 3, 1) := by decide +kernel
theorem dX11_bestFrom_52 : decode cX11_bestFrom 52 = .ok (.aload_n 0, 1) := by decide +kernel
theorem dX11_bestFrom_53 : decode cX11_bestFrom 53 = .ok (.iload_n 1, 1) := by decide +kernel
theorem dX11_bestFrom_54 : decode cX11_bestFrom 54 = .ok (.iload_n 2, 1) := by decide +kernel
theorem dX11_bestFrom_55 : decode cX11_bestFrom 55 = .ok (.invokevirtual 319, 3) := by decide +kernel
theorem dX11_bestFrom_175 : decode cX11_bestFrom 175 = .ok (.aload_n 0, 1) := by decide +kernel
theorem dX11_bestFrom_176 : decode cX11_bestFrom 176 = .ok (.iload_n 2, 1) := by decide +kernel
theorem dX11_bestFrom_177 : decode cX11_bestFrom 177 = .ok (.invokevirtual 322, 3) := by decide +kernel
theorem dX11_bestFrom_180 : decode cX11_bestFrom 180 = .ok (.ifCond .ne (-128), 3) := by decide +kernel
theorem dX11_bestFrom_183 : decode cX11_bestFrom 183 = .ok (.iload_n 3, 1) := by decide +kernel
theorem dX11_bestFrom_184 : decode cX11_bestFrom 184 = .ok (.ireturn, 1) := by decide +kernel
theorem dX11_bestFrom_58 : decode cX11_bestFrom 58 = .ok (.ifCond .ne 6, 3) := by decide +kernel
theorem dX11_bestFrom_64 : decode cX11_bestFrom 64 = .ok (.iconst 0, 1) := by decide +kernel
theorem dX11_bestFrom_65 : decode cX11_bestFrom 65 = .ok (.istore 4, 2) := by decide +kernel
theorem dX11_bestFrom_67 : decode cX11_bestFrom 67 = .ok (.iload 4, 2) := by decide +kernel
theorem dX11_bestFrom_69 : decode cX11_bestFrom 69 = .ok (.bipush 7, 2) := by decide +kernel
theorem dX11_bestFrom_71 : decode cX11_bestFrom 71 = .ok (.if_icmp .ge 23, 3) := by decide +kernel
theorem dX11_bestFrom_94 : decode cX11_bestFrom 94 = .ok (.iconst 0, 1) := by decide +kernel
theorem dX11_bestFrom_95 : decode cX11_bestFrom 95 = .ok (.istore 4, 2) := by decide +kernel
theorem dX11_bestFrom_97 : decode cX11_bestFrom 97 = .ok (.iconst 0, 1) := by decide +kernel
theorem dX11_bestFrom_98 : decode cX11_bestFrom 98 = .ok (.istore 5, 2) := by decide +kernel
theorem dX11_bestFrom_100 : decode cX11_bestFrom 100 = .ok (.iload 5, 2) := by decide +kernel
theorem dX11_bestFrom_102 : decode cX11_bestFrom 102 = .ok (.iload_n 2, 1) := by decide +kernel
theorem dX11_bestFrom_103 : decode cX11_bestFrom 103 = .ok (.if_icmp .ge 31, 3) := by decide +kernel
theorem dX11_bestFrom_134 : decode cX11_bestFrom 134 = .ok (.iload 4, 2) := by decide +kernel
theorem dX11_bestFrom_136 : decode cX11_bestFrom 136 = .ok (.iload_n 3, 1) := by decide +kernel
theorem dX11_bestFrom_137 : decode cX11_bestFrom 137 = .ok (.if_icmp .gt 6, 3) := by decide +kernel
theorem dX11_bestFrom_143 : decode cX11_bestFrom 143 = .ok (.iload 4, 2) := by decide +kernel
theorem dX11_bestFrom_145 : decode cX11_bestFrom 145 = .ok (.istore_n 3, 1) := by decide +kernel
theorem dX11_bestFrom_146 : decode cX11_bestFrom 146 = .ok (.iconst 0, 1) := by decide +kernel
theorem dX11_bestFrom_147 : decode cX11_bestFrom 147 = .ok (.istore 5, 2) := by decide +kernel
theorem dX11_bestFrom_149 : decode cX11_bestFrom 149 = .ok (.iload 5, 2) := by decide +kernel
theorem dX11_bestFrom_151 : decode cX11_bestFrom 151 = .ok (.iload_n 2, 1) := by decide +kernel
theorem dX11_bestFrom_152 : decode cX11_bestFrom 152 = .ok (.if_icmp .ge 23, 3) := by decide +kernel
theorem dX11_bestFrom_155 : decode cX11_bestFrom 155 = .ok (.aload_n 0, 1) := by decide +kernel
theorem dX11_bestFrom_156 : decode cX11_bestFrom 156 = .ok (.getfield 43, 3) := by decide +kernel
theorem dX11_bestFrom_159 : decode cX11_bestFrom 159 = .ok (.iload 5, 2) := by decide +kernel
theorem dX11_bestFrom_161 : decode cX11_bestFrom 161 = .ok (.aload_n 0, 1) := by decide +kernel
theorem dX11_bestFrom_162 : decode cX11_bestFrom 162 = .ok (.getfield 40, 3) := by decide +kernel
theorem dX11_bestFrom_165 : decode cX11_bestFrom 165 = .ok (.iload 5, 2) := by decide +kernel
theorem dX11_bestFrom_167 : decode cX11_bestFrom 167 = .ok (.iaload, 1) := by decide +kernel
theorem dX11_bestFrom_168 : decode cX11_bestFrom 168 = .ok (.iastore, 1) := by decide +kernel
theorem dX11_bestFrom_169 : decode cX11_bestFrom 169 = .ok (.iinc 5 1, 3) := by decide +kernel
theorem dX11_bestFrom_172 : decode cX11_bestFrom 172 = .ok (.goto (-23), 3) := by decide +kernel
theorem dX11_bestFrom_140 : decode cX11_bestFrom 140 = .ok (.goto 35, 3) := by decide +kernel
theorem dX11_bestFrom_106 : decode cX11_bestFrom 106 = .ok (.iload 4, 2) := by decide +kernel
theorem dX11_bestFrom_108 : decode cX11_bestFrom 108 = .ok (.aload_n 0, 1) := by decide +kernel
theorem dX11_bestFrom_109 : decode cX11_bestFrom 109 = .ok (.aload_n 0, 1) := by decide +kernel
theorem dX11_bestFrom_110 : decode cX11_bestFrom 110 = .ok (.getfield 40, 3) := by decide +kernel
theorem dX11_bestFrom_113 : decode cX11_bestFrom 113 = .ok (.iload 5, 2) := by decide +kernel
theorem dX11_bestFrom_115 : decode cX11_bestFrom 115 = .ok (.iaload, 1) := by decide +kernel
theorem dX11_bestFrom_116 : decode cX11_bestFrom 116 = .ok (.iconst 0, 1) := by decide +kernel
theorem dX11_bestFrom_117 : decode cX11_bestFrom 117 = .ok (.invokevirtual 264, 3) := by decide +kernel
theorem dX11_bestFrom_120 : decode cX11_bestFrom 120 = .ok (.iadd, 1) := by decide +kernel
theorem dX11_bestFrom_121 : decode cX11_bestFrom 121 = .ok (.istore 4, 2) := by decide +kernel
theorem dX11_bestFrom_123 : decode cX11_bestFrom 123 = .ok (.aload_n 0, 1) := by decide +kernel
theorem dX11_bestFrom_124 : decode cX11_bestFrom 124 = .ok (.iconst (-1), 1) := by decide +kernel
theorem dX11_bestFrom_125 : decode cX11_bestFrom 125 = .ok (.invokevirtual 267, 3) := by decide +kernel
theorem dX11_bestFrom_128 : decode cX11_bestFrom 128 = .ok (.iinc 5 1, 3) := by decide +kernel
theorem dX11_bestFrom_131 : decode cX11_bestFrom 131 = .ok (.goto (-31), 3) := by decide +kernel
theorem dX11_bestFrom_74 : decode cX11_bestFrom 74 = .ok (.aload_n 0, 1) := by decide +kernel
theorem dX11_bestFrom_75 : decode cX11_bestFrom 75 = .ok (.getfield 34, 3) := by decide +kernel
theorem dX11_bestFrom_78 : decode cX11_bestFrom 78 = .ok (.iload 4, 2) := by decide +kernel
theorem dX11_bestFrom_80 : decode cX11_bestFrom 80 = .ok (.aload_n 0, 1) := by decide +kernel
theorem dX11_bestFrom_81 : decode cX11_bestFrom 81 = .ok (.getfield 46, 3) := by decide +kernel
theorem dX11_bestFrom_84 : decode cX11_bestFrom 84 = .ok (.iload 4, 2) := by decide +kernel
theorem dX11_bestFrom_86 : decode cX11_bestFrom 86 = .ok (.iaload, 1) := by decide +kernel
theorem dX11_bestFrom_87 : decode cX11_bestFrom 87 = .ok (.iastore, 1) := by decide +kernel
theorem dX11_bestFrom_88 : decode cX11_bestFrom 88 = .ok (.iinc 4 1, 3) := by decide +kernel
theorem dX11_bestFrom_91 : decode cX11_bestFrom 91 = .ok (.goto (-24), 3) := by decide +kernel
theorem dX11_bestFrom_61 : decode cX11_bestFrom 61 = .ok (.goto 114, 3) := by decide +kernel
theorem dX11_bestFrom_37 : decode cX11_bestFrom 37 = .ok (.aload_n 0, 1) := by decide +kernel
theorem dX11_bestFrom_38 : decode cX11_bestFrom 38 = .ok (.getfield 40, 3) := by decide +kernel
theorem dX11_bestFrom_41 : decode cX11_bestFrom 41 = .ok (.iload_n 3, 1) := by decide +kernel
theorem dX11_bestFrom_42 : decode cX11_bestFrom 42 = .ok (.iconst 0, 1) := by decide +kernel
theorem dX11_bestFrom_43 : decode cX11_bestFrom 43 = .ok (.iastore, 1) := by decide +kernel
theorem dX11_bestFrom_44 : decode cX11_bestFrom 44 = .ok (.iinc 3 1, 3) := by decide +kernel
theorem dX11_bestFrom_47 : decode cX11_bestFrom 47 = .ok (.goto (-15), 3) := by decide +kernel
theorem dX11_bestFrom_12 : decode cX11_bestFrom 12 = .ok (.aload_n 0, 1) := by decide +kernel
theorem dX11_bestFrom_13 : decode cX11_bestFrom 13 = .ok (.getfield 46, 3) := by decide +kernel
theorem dX11_bestFrom_16 : decode cX11_bestFrom 16 = .ok (.iload_n 3, 1) := by decide +kernel
theorem dX11_bestFrom_17 : decode cX11_bestFrom 17 = .ok (.aload_n 0, 1) := by decide +kernel
theorem dX11_bestFrom_18 : decode cX11_bestFrom 18 = .ok (.getfield 34, 3) := by decide +kernel
theorem dX11_bestFrom_21 : decode cX11_bestFrom 21 = .ok (.iload_n 3, 1) := by decide +kernel
theorem dX11_bestFrom_22 : decode cX11_bestFrom 22 = .ok (.iaload, 1) := by decide +kernel
theorem dX11_bestFrom_23 : decode cX11_bestFrom 23 = .ok (.iastore, 1) := by decide +kernel
theorem dX11_bestFrom_24 : decode cX11_bestFrom 24 = .ok (.iinc 3 1, 3) := by decide +kernel
theorem dX11_bestFrom_27 : decode cX11_bestFrom 27 = .ok (.goto (-21), 3) := by decide +kernel
theorem dX11_best_0 : decode cX11_best 0 = .ok (.aload_n 0, 1) := by decide +kernel
theorem dX11_best_1 : decode cX11_best 1 = .ok (.iload_n 1, 1) := by decide +kernel
theorem dX11_best_2 : decode cX11_best 2 = .ok (.i2l, 1) := by decide +kernel
theorem dX11_best_3 : decode cX11_best 3 = .ok (.invokevirtual 89, 3) := by decide +kernel
theorem dX11_best_6 : decode cX11_best 6 = .ok (.ifCond .eq 24, 3) := by decide +kernel
theorem dX11_best_30 : decode cX11_best 30 = .ok (.bipush (-2), 2) := by decide +kernel
theorem dX11_best_32 : decode cX11_best 32 = .ok (.ireturn, 1) := by decide +kernel
theorem dX11_best_9 : decode cX11_best 9 = .ok (.iload_n 2, 1) := by decide +kernel
theorem dX11_best_10 : decode cX11_best 10 = .ok (.i2l, 1) := by decide +kernel
theorem dX11_best_11 : decode cX11_best 11 = .ok (.lconst 0, 1) := by decide +kernel
theorem dX11_best_12 : decode cX11_best 12 = .ok (.ldc2_w 325, 3) := by decide +kernel
theorem dX11_best_15 : decode cX11_best 15 = .ok (.invokestatic 79, 3) := by decide +kernel
theorem dX11_best_18 : decode cX11_best 18 = .ok (.ifCond .eq 12, 3) := by decide +kernel
theorem dX11_best_21 : decode cX11_best 21 = .ok (.aload_n 0, 1) := by decide +kernel
theorem dX11_best_22 : decode cX11_best 22 = .ok (.iload_n 1, 1) := by decide +kernel
theorem dX11_best_23 : decode cX11_best 23 = .ok (.iload_n 2, 1) := by decide +kernel
theorem dX11_best_24 : decode cX11_best 24 = .ok (.invokevirtual 327, 3) := by decide +kernel
theorem dX11_best_27 : decode cX11_best 27 = .ok (.goto 5, 3) := by decide +kernel
theorem dX11_goes_0 : decode cX11_goes 0 = .ok (.aload_n 0, 1) := by decide +kernel
theorem dX11_goes_1 : decode cX11_goes 1 = .ok (.iload_n 1, 1) := by decide +kernel
theorem dX11_goes_2 : decode cX11_goes 2 = .ok (.i2l, 1) := by decide +kernel
theorem dX11_goes_3 : decode cX11_goes 3 = .ok (.invokevirtual 89, 3) := by decide +kernel
theorem dX11_goes_6 : decode cX11_goes 6 = .ok (.ifCond .eq 15, 3) := by decide +kernel
theorem dX11_goes_21 : decode cX11_goes 21 = .ok (.bipush (-2), 2) := by decide +kernel
theorem dX11_goes_23 : decode cX11_goes 23 = .ok (.ireturn, 1) := by decide +kernel
theorem dX11_goes_9 : decode cX11_goes 9 = .ok (.iload_n 2, 1) := by decide +kernel
theorem dX11_goes_10 : decode cX11_goes 10 = .ok (.i2l, 1) := by decide +kernel
theorem dX11_goes_11 : decode cX11_goes 11 = .ok (.lconst 0, 1) := by decide +kernel
theorem dX11_goes_12 : decode cX11_goes 12 = .ok (.ldc2_w 325, 3) := by decide +kernel
theorem dX11_goes_15 : decode cX11_goes 15 = .ok (.invokestatic 79, 3) := by decide +kernel
theorem dX11_goes_18 : decode cX11_goes 18 = .ok (.ifCond .ne 6, 3) := by decide +kernel
theorem dX11_goes_24 : decode cX11_goes 24 = .ok (.aload_n 0, 1) := by decide +kernel
theorem dX11_goes_25 : decode cX11_goes 25 = .ok (.iload_n 1, 1) := by decide +kernel
theorem dX11_goes_26 : decode cX11_goes 26 = .ok (.iload_n 2, 1) := by decide +kernel
theorem dX11_goes_27 : decode cX11_goes 27 = .ok (.invokevirtual 327, 3) := by decide +kernel
theorem dX11_goes_30 : decode cX11_goes 30 = .ok (.pop, 1) := by decide +kernel
theorem dX11_goes_31 : decode cX11_goes 31 = .ok (.iload_n 3, 1) := by decide +kernel
theorem dX11_goes_32 : decode cX11_goes 32 = .ok (.i2l, 1) := by decide +kernel
theorem dX11_goes_33 : decode cX11_goes 33 = .ok (.lconst 0, 1) := by decide +kernel
theorem dX11_goes_34 : decode cX11_goes 34 = .ok (.iload_n 2, 1) := by decide +kernel
theorem dX11_goes_35 : decode cX11_goes 35 = .ok (.iconst 1, 1) := by decide +kernel
theorem dX11_goes_36 : decode cX11_goes 36 = .ok (.isub, 1) := by decide +kernel
theorem dX11_goes_37 : decode cX11_goes 37 = .ok (.i2l, 1) := by decide +kernel
theorem dX11_goes_38 : decode cX11_goes 38 = .ok (.invokestatic 79, 3) := by decide +kernel
theorem dX11_goes_41 : decode cX11_goes 41 = .ok (.ifCond .eq 12, 3) := by decide +kernel
theorem dX11_goes_53 : decode cX11_goes 53 = .ok (.iconst (-1), 1) := by decide +kernel
theorem dX11_goes_54 : decode cX11_goes 54 = .ok (.ireturn, 1) := by decide +kernel
theorem dX11_goes_44 : decode cX11_goes 44 = .ok (.aload_n 0, 1) := by decide +kernel
theorem dX11_goes_45 : decode cX11_goes 45 = .ok (.getfield 43, 3) := by decide +kernel
theorem dX11_goes_48 : decode cX11_goes 48 = .ok (.iload_n 3, 1) := by decide +kernel
theorem dX11_goes_49 : decode cX11_goes 49 = .ok (.iaload, 1) := by decide +kernel
theorem dX11_goes_50 : decode cX11_goes 50 = .ok (.goto 4, 3) := by decide +kernel
theorem dX11_begins_0 : decode cX11_begins 0 = .ok (.iload_n 1, 1) := by decide +kernel
theorem dX11_begins_1 : decode cX11_begins 1 = .ok (.i2l, 1) := by decide +kernel
theorem dX11_begins_2 : decode cX11_begins 2 = .ok (.lconst 0, 1) := by decide +kernel
theorem dX11_begins_3 : decode cX11_begins 3 = .ok (.ldc2_w 325, 3) := by decide +kernel
theorem dX11_begins_6 : decode cX11_begins 6 = .ok (.invokestatic 79, 3) := by decide +kernel
theorem dX11_begins_9 : decode cX11_begins 9 = .ok (.ifCond .eq 12, 3) := by decide +kernel
theorem dX11_begins_21 : decode cX11_begins 21 = .ok (.bipush (-2), 2) := by decide +kernel
theorem dX11_begins_23 : decode cX11_begins 23 = .ok (.ireturn, 1) := by decide +kernel
theorem dX11_begins_12 : decode cX11_begins 12 = .ok (.aload_n 0, 1) := by decide +kernel
theorem dX11_begins_13 : decode cX11_begins 13 = .ok (.getfield 9, 3) := by decide +kernel
theorem dX11_begins_16 : decode cX11_begins 16 = .ok (.iconst 4, 1) := by decide +kernel
theorem dX11_begins_17 : decode cX11_begins 17 = .ok (.iaload, 1) := by decide +kernel
theorem dX11_begins_18 : decode cX11_begins 18 = .ok (.ifCond .ne 6, 3) := by decide +kernel
theorem dX11_begins_24 : decode cX11_begins 24 = .ok (.iconst (-1), 1) := by decide +kernel
theorem dX11_begins_25 : decode cX11_begins 25 = .ok (.istore_n 2, 1) := by decide +kernel
theorem dX11_begins_26 : decode cX11_begins 26 = .ok (.iconst (-1), 1) := by decide +kernel
theorem dX11_begins_27 : decode cX11_begins 27 = .ok (.istore_n 3, 1) := by decide +kernel
theorem dX11_begins_28 : decode cX11_begins 28 = .ok (.iconst 0, 1) := by decide +kernel
theorem dX11_begins_29 : decode cX11_begins 29 = .ok (.istore 4, 2) := by decide +kernel
theorem dX11_begins_31 : decode cX11_begins 31 = .ok (.iload 4, 2) := by decide +kernel
theorem dX11_begins_33 : decode cX11_begins 33 = .ok (.aload_n 0, 1) := by decide +kernel
theorem dX11_begins_34 : decode cX11_begins 34 = .ok (.getfield 9, 3) := by decide +kernel
theorem dX11_begins_37 : decode cX11_begins 37 = .ok (.iconst 4, 1) := by decide +kernel
theorem dX11_begins_38 : decode cX11_begins 38 = .ok (.iaload, 1) := by decide +kernel
theorem dX11_begins_39 : decode cX11_begins 39 = .ok (.if_icmp .ge 33, 3) := by decide +kernel
theorem dX11_begins_72 : decode cX11_begins 72 = .ok (.iload_n 2, 1) := by decide +kernel
theorem dX11_begins_73 : decode cX11_begins 73 = .ok (.ireturn, 1) := by decide +kernel
theorem dX11_begins_42 : decode cX11_begins 42 = .ok (.aload_n 0, 1) := by decide +kernel
theorem dX11_begins_43 : decode cX11_begins 43 = .ok (.iload 4, 2) := by decide +kernel
theorem dX11_begins_45 : decode cX11_begins 45 = .ok (.iload_n 1, 1) := by decide +kernel
theorem dX11_begins_46 : decode cX11_begins 46 = .ok (.invokevirtual 327, 3) := by decide +kernel
theorem dX11_begins_49 : decode cX11_begins 49 = .ok (.istore 5, 2) := by decide +kernel
theorem dX11_begins_51 : decode cX11_begins 51 = .ok (.iload 5, 2) := by decide +kernel
theorem dX11_begins_53 : decode cX11_begins 53 = .ok (.iload_n 3, 1) := by decide +kernel
theorem dX11_begins_66 : decode cX11_begins 66 = .ok (.iinc 4 1, 3) := by decide +kernel
theorem dX11_begins_69 : decode cX11_begins 69 = .ok (.goto (-38), 3) := by decide +kernel
theorem dX11_begins_54 : decode cX11_begins 54 = .ok (.if_icmp .gt 6, 3) := by decide +kernel
theorem dX11_begins_60 : decode cX11_begins 60 = .ok (.iload 5, 2) := by decide +kernel
theorem dX11_begins_62 : decode cX11_begins 62 = .ok (.istore_n 3, 1) := by decide +kernel
theorem dX11_begins_63 : decode cX11_begins 63 = .ok (.iload 4, 2) := by decide +kernel
theorem dX11_begins_65 : decode cX11_begins 65 = .ok (.istore_n 2, 1) := by decide +kernel
theorem dX11_begins_57 : decode cX11_begins 57 = .ok (.goto 9, 3) := by decide +kernel
theorem dX11_soon_0 : decode cX11_soon 0 = .ok (.aload_n 0, 1) := by decide +kernel
theorem dX11_soon_1 : decode cX11_soon 1 = .ok (.iload_n 1, 1) := by decide +kernel
theorem dX11_soon_2 : decode cX11_soon 2 = .ok (.i2l, 1) := by decide +kernel
theorem dX11_soon_3 : decode cX11_soon 3 = .ok (.invokevirtual 89, 3) := by decide +kernel
theorem dX11_soon_6 : decode cX11_soon 6 = .ok (.ifCond .eq 15, 3) := by decide +kernel
theorem dX11_soon_21 : decode cX11_soon 21 = .ok (.bipush (-2), 2) := by decide +kernel
theorem dX11_soon_23 : decode cX11_soon 23 = .ok (.ireturn, 1) := by decide +kernel
theorem dX11_soon_9 : decode cX11_soon 9 = .ok (.iload_n 2, 1) := by decide +kernel
theorem dX11_soon_10 : decode cX11_soon 10 = .ok (.i2l, 1) := by decide +kernel
theorem dX11_soon_11 : decode cX11_soon 11 = .ok (.lconst 0, 1) := by decide +kernel
theorem dX11_soon_12 : decode cX11_soon 12 = .ok (.ldc2_w 273, 3) := by decide +kernel
theorem dX11_soon_15 : decode cX11_soon 15 = .ok (.invokestatic 79, 3) := by decide +kernel
theorem dX11_soon_18 : decode cX11_soon 18 = .ok (.ifCond .ne 6, 3) := by decide +kernel
theorem dX11_soon_24 : decode cX11_soon 24 = .ok (.iconst 0, 1) := by decide +kernel
theorem dX11_soon_25 : decode cX11_soon 25 = .ok (.istore_n 3, 1) := by decide +kernel
theorem dX11_soon_26 : decode cX11_soon 26 = .ok (.iload_n 3, 1) := by decide +kernel
theorem dX11_soon_27 : decode cX11_soon 27 = .ok (.iconst 5, 1) := by decide +kernel
theorem dX11_soon_28 : decode cX11_soon 28 = .ok (.if_icmp .gt 21, 3) := by decide +kernel
theorem dX11_soon_49 : decode cX11_soon 49 = .ok (.iconst (-1), 1) := by decide +kernel
theorem dX11_soon_50 : decode cX11_soon 50 = .ok (.ireturn, 1) := by decide +kernel
theorem dX11_soon_31 : decode cX11_soon 31 = .ok (.aload_n 0, 1) := by decide +kernel
theorem dX11_soon_32 : decode cX11_soon 32 = .ok (.iload_n 1, 1) := by decide +kernel
theorem dX11_soon_33 : decode cX11_soon 33 = .ok (.iload_n 3, 1) := by decide +kernel
theorem dX11_soon_34 : decode cX11_soon 34 = .ok (.invokevirtual 327, 3) := by decide +kernel
theorem dX11_soon_37 : decode cX11_soon 37 = .ok (.iload_n 2, 1) := by decide +kernel
theorem dX11_soon_38 : decode cX11_soon 38 = .ok (.if_icmp .lt 5, 3) := by decide +kernel
theorem dX11_soon_43 : decode cX11_soon 43 = .ok (.iinc 3 1, 3) := by decide +kernel
theorem dX11_soon_46 : decode cX11_soon 46 = .ok (.goto (-20), 3) := by decide +kernel
theorem dX11_soon_41 : decode cX11_soon 41 = .ok (.iload_n 3, 1) := by decide +kernel
theorem dX11_soon_42 : decode cX11_soon 42 = .ok (.ireturn, 1) := by decide +kernel
theorem dX11_wider_0 : decode cX11_wider 0 = .ok (.iload_n 1, 1) := by decide +kernel
theorem dX11_wider_1 : decode cX11_wider 1 = .ok (.istore_n 2, 1) := by decide +kernel
theorem dX11_wider_2 : decode cX11_wider 2 = .ok (.iconst 0, 1) := by decide +kernel
theorem dX11_wider_3 : decode cX11_wider 3 = .ok (.istore_n 3, 1) := by decide +kernel
theorem dX11_wider_4 : decode cX11_wider 4 = .ok (.iload_n 3, 1) := by decide +kernel
theorem dX11_wider_5 : decode cX11_wider 5 = .ok (.aload_n 0, 1) := by decide +kernel
theorem dX11_wider_6 : decode cX11_wider 6 = .ok (.getfield 9, 3) := by decide +kernel
theorem dX11_wider_9 : decode cX11_wider 9 = .ok (.iconst 4, 1) := by decide +kernel
theorem dX11_wider_10 : decode cX11_wider 10 = .ok (.iaload, 1) := by decide +kernel
theorem dX11_wider_11 : decode cX11_wider 11 = .ok (.if_icmp .ge 31, 3) := by decide +kernel
theorem dX11_wider_42 : decode cX11_wider 42 = .ok (.iload_n 2, 1) := by decide +kernel
theorem dX11_wider_43 : decode cX11_wider 43 = .ok (.ireturn, 1) := by decide +kernel
theorem dX11_wider_14 : decode cX11_wider 14 = .ok (.iload_n 2, 1) := by decide +kernel
theorem dX11_wider_15 : decode cX11_wider 15 = .ok (.iload_n 1, 1) := by decide +kernel
theorem dX11_wider_16 : decode cX11_wider 16 = .ok (.iload_n 3, 1) := by decide +kernel
theorem dX11_wider_17 : decode cX11_wider 17 = .ok (.invokestatic 258, 3) := by decide +kernel
theorem dX11_wider_20 : decode cX11_wider 20 = .ok (.iconst 1, 1) := by decide +kernel
theorem dX11_wider_34 : decode cX11_wider 34 = .ok (.ior, 1) := by decide +kernel
theorem dX11_wider_35 : decode cX11_wider 35 = .ok (.istore_n 2, 1) := by decide +kernel
theorem dX11_wider_36 : decode cX11_wider 36 = .ok (.iinc 3 1, 3) := by decide +kernel
theorem dX11_wider_39 : decode cX11_wider 39 = .ok (.goto (-35), 3) := by decide +kernel
theorem dX11_wider_21 : decode cX11_wider 21 = .ok (.if_icmp .ne 12, 3) := by decide +kernel
theorem dX11_wider_33 : decode cX11_wider 33 = .ok (.iconst 0, 1) := by decide +kernel
theorem dX11_wider_24 : decode cX11_wider 24 = .ok (.aload_n 0, 1) := by decide +kernel
theorem dX11_wider_25 : decode cX11_wider 25 = .ok (.iload_n 3, 1) := by decide +kernel
theorem dX11_wider_26 : decode cX11_wider 26 = .ok (.iconst 3, 1) := by decide +kernel
theorem dX11_wider_27 : decode cX11_wider 27 = .ok (.invokevirtual 227, 3) := by decide +kernel
theorem dX11_wider_30 : decode cX11_wider 30 = .ok (.goto 4, 3) := by decide +kernel
theorem dX11_far_0 : decode cX11_far 0 = .ok (.aload_n 0, 1) := by decide +kernel
theorem dX11_far_1 : decode cX11_far 1 = .ok (.iload_n 1, 1) := by decide +kernel
theorem dX11_far_2 : decode cX11_far 2 = .ok (.i2l, 1) := by decide +kernel
theorem dX11_far_3 : decode cX11_far 3 = .ok (.invokevirtual 89, 3) := by decide +kernel
theorem dX11_far_6 : decode cX11_far 6 = .ok (.ifCond .eq 12, 3) := by decide +kernel
theorem dX11_far_18 : decode cX11_far 18 = .ok (.bipush (-2), 2) := by decide +kernel
theorem dX11_far_20 : decode cX11_far 20 = .ok (.ireturn, 1) := by decide +kernel
theorem dX11_far_9 : decode cX11_far 9 = .ok (.aload_n 0, 1) := by decide +kernel
theorem dX11_far_10 : decode cX11_far 10 = .ok (.iload_n 2, 1) := by decide +kernel
theorem dX11_far_11 : decode cX11_far 11 = .ok (.i2l, 1) := by decide +kernel
theorem dX11_far_12 : decode cX11_far 12 = .ok (.invokevirtual 89, 3) := by decide +kernel
theorem dX11_far_15 : decode cX11_far 15 = .ok (.ifCond .ne 6, 3) := by decide +kernel
theorem dX11_far_21 : decode cX11_far 21 = .ok (.iconst 1, 1) := by decide +kernel
theorem dX11_far_22 : decode cX11_far 22 = .ok (.iload_n 1, 1) := by decide +kernel
theorem dX11_far_23 : decode cX11_far 23 = .ok (.ishl, 1) := by decide +kernel
theorem dX11_far_24 : decode cX11_far 24 = .ok (.istore_n 3, 1) := by decide +kernel
theorem dX11_far_25 : decode cX11_far 25 = .ok (.iconst 0, 1) := by decide +kernel
theorem dX11_far_26 : decode cX11_far 26 = .ok (.istore 4, 2) := by decide +kernel
theorem dX11_far_28 : decode cX11_far 28 = .ok (.iload 4, 2) := by decide +kernel
theorem dX11_far_30 : decode cX11_far 30 = .ok (.bipush 7, 2) := by decide +kernel
theorem dX11_far_32 : decode cX11_far 32 = .ok (.if_icmp .ge 27, 3) := by decide +kernel
theorem dX11_far_59 : decode cX11_far 59 = .ok (.iconst (-1), 1) := by decide +kernel
theorem dX11_far_60 : decode cX11_far 60 = .ok (.ireturn, 1) := by decide +kernel
theorem dX11_far_35 : decode cX11_far 35 = .ok (.iload_n 3, 1) := by decide +kernel
theorem dX11_far_36 : decode cX11_far 36 = .ok (.iload_n 2, 1) := by decide +kernel
theorem dX11_far_37 : decode cX11_far 37 = .ok (.invokestatic 258, 3) := by decide +kernel
theorem dX11_far_40 : decode cX11_far 40 = .ok (.iconst 1, 1) := by decide +kernel
theorem dX11_far_41 : decode cX11_far 41 = .ok (.if_icmp .ne 6, 3) := by decide +kernel
theorem dX11_far_47 : decode cX11_far 47 = .ok (.aload_n 0, 1) := by decide +kernel
theorem dX11_far_48 : decode cX11_far 48 = .ok (.iload_n 3, 1) := by decide +kernel
theorem dX11_far_49 : decode cX11_far 49 = .ok (.invokevirtual 330, 3) := by decide +kernel
theorem dX11_far_52 : decode cX11_far 52 = .ok (.istore_n 3, 1) := by decide +kernel
theorem dX11_far_53 : decode cX11_far 53 = .ok (.iinc 4 1, 3) := by decide +kernel
theorem dX11_far_56 : decode cX11_far 56 = .ok (.goto (-28), 3) := by decide +kernel
theorem dX11_far_44 : decode cX11_far 44 = .ok (.iload 4, 2) := by decide +kernel
theorem dX11_far_46 : decode cX11_far 46 = .ok (.ireturn, 1) := by decide +kernel
theorem dX11_rest_0 : decode cX11_rest 0 = .ok (.aload_n 0, 1) := by decide +kernel
theorem dX11_rest_1 : decode cX11_rest 1 = .ok (.invokevirtual 83, 3) := by decide +kernel
theorem dX11_rest_4 : decode cX11_rest 4 = .ok (.ifCond .ne 6, 3) := by decide +kernel
theorem dX11_rest_10 : decode cX11_rest 10 = .ok (.aload_n 0, 1) := by decide +kernel
theorem dX11_rest_11 : decode cX11_rest 11 = .ok (.invokevirtual 278, 3) := by decide +kernel
theorem dX11_rest_14 : decode cX11_rest 14 = .ok (.iconst 0, 1) := by decide +kernel
theorem dX11_rest_15 : decode cX11_rest 15 = .ok (.istore_n 1, 1) := by decide +kernel
theorem dX11_rest_16 : decode cX11_rest 16 = .ok (.iload_n 1, 1) := by decide +kernel
theorem dX11_rest_17 : decode cX11_rest 17 = .ok (.sipush 200, 3) := by decide +kernel
theorem dX11_rest_20 : decode cX11_rest 20 = .ok (.if_icmp .gt 55, 3) := by decide +kernel
theorem dX11_rest_75 : decode cX11_rest 75 = .ok (.iconst (-1), 1) := by decide +kernel
theorem dX11_rest_76 : decode cX11_rest 76 = .ok (.ireturn, 1) := by decide +kernel
theorem dX11_rest_23 : decode cX11_rest 23 = .ok (.aload_n 0, 1) := by decide +kernel
theorem dX11_rest_24 : decode cX11_rest 24 = .ok (.iconst (-1), 1) := by decide +kernel
theorem dX11_rest_25 : decode cX11_rest 25 = .ok (.invokevirtual 267, 3) := by decide +kernel
theorem dX11_rest_28 : decode cX11_rest 28 = .ok (.iconst 1, 1) := by decide +kernel
theorem dX11_rest_29 : decode cX11_rest 29 = .ok (.istore_n 2, 1) := by decide +kernel
theorem dX11_rest_30 : decode cX11_rest 30 = .ok (.iconst 0, 1) := by decide +kernel
theorem dX11_rest_31 : decode cX11_rest 31 = .ok (.istore_n 3, 1) := by decide +kernel
theorem dX11_rest_32 : decode cX11_rest 32 = .ok (.iload_n 3, 1) := by decide +kernel
theorem dX11_rest_33 : decode cX11_rest 33 = .ok (.bipush 7, 2) := by decide +kernel
theorem dX11_rest_63 : decode cX11_rest 63 = .ok (.iload_n 2, 1) := by decide +kernel
theorem dX11_rest_64 : decode cX11_rest 64 = .ok (.ifCond .eq 5, 3) := by decide +kernel
theorem dX11_rest_69 : decode cX11_rest 69 = .ok (.iinc 1 1, 3) := by decide +kernel
theorem dX11_rest_72 : decode cX11_rest 72 = .ok (.goto (-56), 3) := by decide +kernel
theorem dX11_rest_67 : decode cX11_rest 67 = .ok (.iload_n 1, 1) := by decide +kernel
theorem dX11_rest_68 : decode cX11_rest 68 = .ok (.ireturn, 1) := by decide +kernel
theorem dX11_rest_35 : decode cX11_rest 35 = .ok (.if_icmp .ge 28, 3) := by decide +kernel
theorem dX11_rest_38 : decode cX11_rest 38 = .ok (.iload_n 2, 1) := by decide +kernel
theorem dX11_rest_39 : decode cX11_rest 39 = .ok (.ifCond .eq 24, 3) := by decide +kernel
theorem dX11_rest_42 : decode cX11_rest 42 = .ok (.aload_n 0, 1) := by decide +kernel
theorem dX11_rest_43 : decode cX11_rest 43 = .ok (.getfield 37, 3) := by decide +kernel
theorem dX11_rest_46 : decode cX11_rest 46 = .ok (.iload_n 3, 1) := by decide +kernel
theorem dX11_rest_47 : decode cX11_rest 47 = .ok (.iaload, 1) := by decide +kernel
theorem dX11_rest_56 : decode cX11_rest 56 = .ok (.istore_n 2, 1) := by decide +kernel
theorem dX11_rest_57 : decode cX11_rest 57 = .ok (.iinc 3 1, 3) := by decide +kernel
theorem dX11_rest_60 : decode cX11_rest 60 = .ok (.goto (-28), 3) := by decide +kernel
theorem dX11_rest_48 : decode cX11_rest 48 = .ok (.ifCond .ne 7, 3) := by decide +kernel
theorem dX11_rest_55 : decode cX11_rest 55 = .ok (.iconst 0, 1) := by decide +kernel
theorem dX11_rest_51 : decode cX11_rest 51 = .ok (.iconst 1, 1) := by decide +kernel
theorem dX11_rest_52 : decode cX11_rest 52 = .ok (.goto 4, 3) := by decide +kernel
theorem dX11_rest_7 : decode cX11_rest 7 = .ok (.bipush (-2), 2) := by decide +kernel
theorem dX11_rest_9 : decode cX11_rest 9 = .ok (.ireturn, 1) := by decide +kernel
theorem dX11_trumpet_0 : decode cX11_trumpet 0 = .ok (.aload_n 0, 1) := by decide +kernel
theorem dX11_trumpet_1 : decode cX11_trumpet 1 = .ok (.invokevirtual 83, 3) := by decide +kernel
theorem dX11_trumpet_4 : decode cX11_trumpet 4 = .ok (.ifCond .ne 6, 3) := by decide +kernel
theorem dX11_trumpet_10 : decode cX11_trumpet 10 = .ok (.aload_n 0, 1) := by decide +kernel
theorem dX11_trumpet_11 : decode cX11_trumpet 11 = .ok (.invokevirtual 278, 3) := by decide +kernel
theorem dX11_trumpet_14 : decode cX11_trumpet 14 = .ok (.iconst 0, 1) := by decide +kernel
theorem dX11_trumpet_15 : decode cX11_trumpet 15 = .ok (.istore_n 1, 1) := by decide +kernel
theorem dX11_trumpet_16 : decode cX11_trumpet 16 = .ok (.iconst 0, 1) := by decide +kernel
theorem dX11_trumpet_17 : decode cX11_trumpet 17 = .ok (.istore_n 2, 1) := by decide +kernel
theorem dX11_trumpet_18 : decode cX11_trumpet 18 = .ok (.iload_n 2, 1) := by decide +kernel
theorem dX11_trumpet_19 : decode cX11_trumpet 19 = .ok (.aload_n 0, 1) := by decide +kernel
theorem dX11_trumpet_20 : decode cX11_trumpet 20 = .ok (.getfield 9, 3) := by decide +kernel
theorem dX11_trumpet_23 : decode cX11_trumpet 23 = .ok (.iconst 4, 1) := by decide +kernel
theorem dX11_trumpet_24 : decode cX11_trumpet 24 = .ok (.iaload, 1) := by decide +kernel
theorem dX11_trumpet_25 : decode cX11_trumpet 25 = .ok (.if_icmp .ge 18, 3) := by decide +kernel
theorem dX11_trumpet_43 : decode cX11_trumpet 43 = .ok (.iload_n 1, 1) := by decide +kernel
theorem dX11_trumpet_44 : decode cX11_trumpet 44 = .ok (.ireturn, 1) := by decide +kernel
theorem dX11_trumpet_28 : decode cX11_trumpet 28 = .ok (.iload_n 1, 1) := by decide +kernel
theorem dX11_trumpet_29 : decode cX11_trumpet 29 = .ok (.aload_n 0, 1) := by decide +kernel
theorem dX11_trumpet_30 : decode cX11_trumpet 30 = .ok (.iload_n 2, 1) := by decide +kernel
theorem dX11_trumpet_31 : decode cX11_trumpet 31 = .ok (.iconst 0, 1) := by decide +kernel
theorem dX11_trumpet_32 : decode cX11_trumpet 32 = .ok (.invokevirtual 252, 3) := by decide +kernel
theorem dX11_trumpet_35 : decode cX11_trumpet 35 = .ok (.iadd, 1) := by decide +kernel
theorem dX11_trumpet_36 : decode cX11_trumpet 36 = .ok (.istore_n 1, 1) := by decide +kernel
theorem dX11_trumpet_37 : decode cX11_trumpet 37 = .ok (.iinc 2 1, 3) := by decide +kernel
theorem dX11_trumpet_40 : decode cX11_trumpet 40 = .ok (.goto (-22), 3) := by decide +kernel
theorem dX11_trumpet_7 : decode cX11_trumpet 7 = .ok (.bipush (-2), 2) := by decide +kernel
theorem dX11_trumpet_9 : decode cX11_trumpet 9 = .ok (.ireturn, 1) := by decide +kernel
theorem dX11_quietBy_0 : decode cX11_quietBy 0 = .ok (.aload_n 0, 1) := by decide +kernel
theorem dX11_quietBy_1 : decode cX11_quietBy 1 = .ok (.invokevirtual 278, 3) := by decide +kernel
theorem dX11_quietBy_4 : decode cX11_quietBy 4 = .ok (.aload_n 0, 1) := by decide +kernel
theorem dX11_quietBy_5 : decode cX11_quietBy 5 = .ok (.ldc_w 333, 3) := by decide +kernel
theorem dX11_quietBy_8 : decode cX11_quietBy 8 = .ok (.putfield 334, 3) := by decide +kernel
theorem dX11_quietBy_11 : decode cX11_quietBy 11 = .ok (.iconst (-1), 1) := by decide +kernel
theorem dX11_quietBy_12 : decode cX11_quietBy 12 = .ok (.istore_n 2, 1) := by decide +kernel
theorem dX11_quietBy_13 : decode cX11_quietBy 13 = .ok (.iconst 0, 1) := by decide +kernel
theorem dX11_quietBy_14 : decode cX11_quietBy 14 = .ok (.istore_n 3, 1) := by decide +kernel
theorem dX11_quietBy_15 : decode cX11_quietBy 15 = .ok (.iload_n 3, 1) := by decide +kernel
theorem dX11_quietBy_16 : decode cX11_quietBy 16 = .ok (.aload_n 0, 1) := by decide +kernel
theorem dX11_quietBy_17 : decode cX11_quietBy 17 = .ok (.invokevirtual 337, 3) := by decide +kernel
theorem dX11_quietBy_20 : decode cX11_quietBy 20 = .ok (.if_icmp .gt 99, 3) := by decide +kernel
theorem dX11_quietBy_119 : decode cX11_quietBy 119 = .ok (.iload_n 2, 1) := by decide +kernel
theorem dX11_quietBy_120 : decode cX11_quietBy 120 = .ok (.ireturn, 1) := by decide +kernel
theorem dX11_quietBy_23 : decode cX11_quietBy 23 = .ok (.iconst 0, 1) := by decide +kernel
theorem dX11_quietBy_24 : decode cX11_quietBy 24 = .ok (.istore 4, 2) := by decide +kernel
theorem dX11_quietBy_26 : decode cX11_quietBy 26 = .ok (.iconst 0, 1) := by decide +kernel
theorem dX11_quietBy_27 : decode cX11_quietBy 27 = .ok (.istore 5, 2) := by decide +kernel
theorem dX11_quietBy_29 : decode cX11_quietBy 29 = .ok (.iconst 0, 1) := by decide +kernel
theorem dX11_quietBy_30 : decode cX11_quietBy 30 = .ok (.istore 6, 2) := by decide +kernel
theorem dX11_quietBy_32 : decode cX11_quietBy 32 = .ok (.iload 6, 2) := by decide +kernel
theorem dX11_quietBy_34 : decode cX11_quietBy 34 = .ok (.aload_n 0, 1) := by decide +kernel
theorem dX11_quietBy_35 : decode cX11_quietBy 35 = .ok (.getfield 9, 3) := by decide +kernel
theorem dX11_quietBy_38 : decode cX11_quietBy 38 = .ok (.iconst 4, 1) := by decide +kernel
theorem dX11_quietBy_39 : decode cX11_quietBy 39 = .ok (.iaload, 1) := by decide +kernel
theorem dX11_quietBy_40 : decode cX11_quietBy 40 = .ok (.if_icmp .ge 47, 3) := by decide +kernel
theorem dX11_quietBy_87 : decode cX11_quietBy 87 = .ok (.iload 4, 2) := by decide +kernel
theorem dX11_quietBy_89 : decode cX11_quietBy 89 = .ok (.iload_n 1, 1) := by decide +kernel
theorem dX11_quietBy_113 : decode cX11_quietBy 113 = .ok (.iinc 3 1, 3) := by decide +kernel
theorem dX11_quietBy_116 : decode cX11_quietBy 116 = .ok (.goto (-101), 3) := by decide +kernel
theorem dX11_quietBy_90 : decode cX11_quietBy 90 = .ok (.if_icmp .lt 23, 3) := by decide +kernel
theorem dX11_quietBy_93 : decode cX11_quietBy 93 = .ok (.iload 5, 2) := by decide +kernel
theorem dX11_quietBy_95 : decode cX11_quietBy 95 = .ok (.aload_n 0, 1) := by decide +kernel
theorem dX11_quietBy_96 : decode cX11_quietBy 96 = .ok (.getfield 334, 3) := by decide +kernel
theorem dX11_quietBy_99 : decode cX11_quietBy 99 = .ok (.if_icmp .lt 6, 3) := by decide +kernel
theorem dX11_quietBy_105 : decode cX11_quietBy 105 = .ok (.aload_n 0, 1) := by decide +kernel
theorem dX11_quietBy_106 : decode cX11_quietBy 106 = .ok (.iload 5, 2) := by decide +kernel
theorem dX11_quietBy_108 : decode cX11_quietBy 108 = .ok (.putfield 334, 3) := by decide +kernel
theorem dX11_quietBy_111 : decode cX11_quietBy 111 = .ok (.iload_n 3, 1) := by decide +kernel
theorem dX11_quietBy_112 : decode cX11_quietBy 112 = .ok (.istore_n 2, 1) := by decide +kernel
theorem dX11_quietBy_102 : decode cX11_quietBy 102 = .ok (.goto 11, 3) := by decide +kernel
theorem dX11_quietBy_43 : decode cX11_quietBy 43 = .ok (.iload 4, 2) := by decide +kernel
theorem dX11_quietBy_45 : decode cX11_quietBy 45 = .ok (.iload_n 3, 1) := by decide +kernel
theorem dX11_quietBy_46 : decode cX11_quietBy 46 = .ok (.iload 6, 2) := by decide +kernel
theorem dX11_quietBy_48 : decode cX11_quietBy 48 = .ok (.invokestatic 258, 3) := by decide +kernel
theorem dX11_quietBy_51 : decode cX11_quietBy 51 = .ok (.aload_n 0, 1) := by decide +kernel
theorem dX11_quietBy_52 : decode cX11_quietBy 52 = .ok (.iload 6, 2) := by decide +kernel
theorem dX11_quietBy_54 : decode cX11_quietBy 54 = .ok (.iconst 0, 1) := by decide +kernel
theorem dX11_quietBy_55 : decode cX11_quietBy 55 = .ok (.invokevirtual 252, 3) := by decide +kernel
theorem dX11_quietBy_58 : decode cX11_quietBy 58 = .ok (.imul, 1) := by decide +kernel
theorem dX11_quietBy_59 : decode cX11_quietBy 59 = .ok (.iadd, 1) := by decide +kernel
theorem dX11_quietBy_60 : decode cX11_quietBy 60 = .ok (.istore 4, 2) := by decide +kernel
theorem dX11_quietBy_62 : decode cX11_quietBy 62 = .ok (.iload 5, 2) := by decide +kernel
theorem dX11_quietBy_64 : decode cX11_quietBy 64 = .ok (.iload_n 3, 1) := by decide +kernel
theorem dX11_quietBy_65 : decode cX11_quietBy 65 = .ok (.iload 6, 2) := by decide +kernel
theorem dX11_quietBy_67 : decode cX11_quietBy 67 = .ok (.invokestatic 258, 3) := by decide +kernel
theorem dX11_quietBy_70 : decode cX11_quietBy 70 = .ok (.aload_n 0, 1) := by decide +kernel
theorem dX11_quietBy_71 : decode cX11_quietBy 71 = .ok (.iload 6, 2) := by decide +kernel
theorem dX11_quietBy_73 : decode cX11_quietBy 73 = .ok (.iconst 0, 1) := by decide +kernel
theorem dX11_quietBy_74 : decode cX11_quietBy 74 = .ok (.invokevirtual 227, 3) := by decide +kernel
theorem dX11_quietBy_77 : decode cX11_quietBy 77 = .ok (.imul, 1) := by decide +kernel
theorem dX11_quietBy_78 : decode cX11_quietBy 78 = .ok (.iadd, 1) := by decide +kernel
theorem dX11_quietBy_79 : decode cX11_quietBy 79 = .ok (.istore 5, 2) := by decide +kernel
theorem dX11_quietBy_81 : decode cX11_quietBy 81 = .ok (.iinc 6 1, 3) := by decide +kernel
theorem dX11_quietBy_84 : decode cX11_quietBy 84 = .ok (.goto (-52), 3) := by decide +kernel
theorem dX11_quiet_0 : decode cX11_quiet 0 = .ok (.aload_n 0, 1) := by decide +kernel
theorem dX11_quiet_1 : decode cX11_quiet 1 = .ok (.invokevirtual 83, 3) := by decide +kernel
theorem dX11_quiet_4 : decode cX11_quiet 4 = .ok (.ifCond .eq 15, 3) := by decide +kernel
theorem dX11_quiet_19 : decode cX11_quiet 19 = .ok (.bipush (-2), 2) := by decide +kernel
theorem dX11_quiet_21 : decode cX11_quiet 21 = .ok (.ireturn, 1) := by decide +kernel
theorem dX11_quiet_7 : decode cX11_quiet 7 = .ok (.iload_n 1, 1) := by decide +kernel
theorem dX11_quiet_8 : decode cX11_quiet 8 = .ok (.i2l, 1) := by decide +kernel
theorem dX11_quiet_9 : decode cX11_quiet 9 = .ok (.lconst 0, 1) := by decide +kernel
theorem dX11_quiet_10 : decode cX11_quiet 10 = .ok (.ldc2_w 273, 3) := by decide +kernel
theorem dX11_quiet_13 : decode cX11_quiet 13 = .ok (.invokestatic 79, 3) := by decide +kernel
theorem dX11_quiet_16 : decode cX11_quiet 16 = .ok (.ifCond .ne 6, 3) := by decide +kernel
theorem dX11_quiet_22 : decode cX11_quiet 22 = .ok (.aload_n 0, 1) := by decide +kernel
theorem dX11_quiet_23 : decode cX11_quiet 23 = .ok (.iload_n 1, 1) := by decide +kernel
theorem dX11_quiet_24 : decode cX11_quiet 24 = .ok (.invokevirtual 340, 3) := by decide +kernel
theorem dX11_quiet_27 : decode cX11_quiet 27 = .ok (.iconst (-1), 1) := by decide +kernel
theorem dX11_quiet_28 : decode cX11_quiet 28 = .ok (.if_icmp .ne 7, 3) := by decide +kernel
theorem dX11_quiet_35 : decode cX11_quiet 35 = .ok (.aload_n 0, 1) := by decide +kernel
theorem dX11_quiet_36 : decode cX11_quiet 36 = .ok (.getfield 334, 3) := by decide +kernel
theorem dX11_quiet_39 : decode cX11_quiet 39 = .ok (.ireturn, 1) := by decide +kernel
theorem dX11_quiet_31 : decode cX11_quiet 31 = .ok (.iconst (-1), 1) := by decide +kernel
theorem dX11_quiet_32 : decode cX11_quiet 32 = .ok (.goto 7, 3) := by decide +kernel
theorem dX11_quietly_0 : decode cX11_quietly 0 = .ok (.aload_n 0, 1) := by decide +kernel
theorem dX11_quietly_1 : decode cX11_quietly 1 = .ok (.invokevirtual 83, 3) := by decide +kernel
theorem dX11_quietly_4 : decode cX11_quietly 4 = .ok (.ifCond .eq 23, 3) := by decide +kernel
theorem dX11_quietly_27 : decode cX11_quietly 27 = .ok (.bipush (-2), 2) := by decide +kernel
theorem dX11_quietly_29 : decode cX11_quietly 29 = .ok (.ireturn, 1) := by decide +kernel
theorem dX11_quietly_7 : decode cX11_quietly 7 = .ok (.iload_n 1, 1) := by decide +kernel
theorem dX11_quietly_8 : decode cX11_quietly 8 = .ok (.i2l, 1) := by decide +kernel
theorem dX11_quietly_9 : decode cX11_quietly 9 = .ok (.lconst 0, 1) := by decide +kernel
theorem dX11_quietly_10 : decode cX11_quietly 10 = .ok (.ldc2_w 273, 3) := by decide +kernel
theorem dX11_quietly_13 : decode cX11_quietly 13 = .ok (.invokestatic 79, 3) := by decide +kernel
theorem dX11_quietly_16 : decode cX11_quietly 16 = .ok (.ifCond .eq 11, 3) := by decide +kernel
theorem dX11_quietly_19 : decode cX11_quietly 19 = .ok (.aload_n 0, 1) := by decide +kernel
theorem dX11_quietly_20 : decode cX11_quietly 20 = .ok (.iload_n 1, 1) := by decide +kernel
theorem dX11_quietly_21 : decode cX11_quietly 21 = .ok (.invokevirtual 340, 3) := by decide +kernel
theorem dX11_quietly_24 : decode cX11_quietly 24 = .ok (.goto 5, 3) := by decide +kernel
theorem dX11_cardIn_0 : decode cX11_cardIn 0 = .ok (.aload_n 0, 1) := by decide +kernel
theorem dX11_cardIn_1 : decode cX11_cardIn 1 = .ok (.invokevirtual 278, 3) := by decide +kernel
theorem dX11_cardIn_4 : decode cX11_cardIn 4 = .ok (.iconst 0, 1) := by decide +kernel
theorem dX11_cardIn_5 : decode cX11_cardIn 5 = .ok (.istore_n 3, 1) := by decide +kernel
theorem dX11_cardIn_6 : decode cX11_cardIn 6 = .ok (.iload_n 3, 1) := by decide +kernel
theorem dX11_cardIn_7 : decode cX11_cardIn 7 = .ok (.iload_n 2, 1) := by decide +kernel
theorem dX11_cardIn_8 : decode cX11_cardIn 8 = .ok (.if_icmp .ge 14, 3) := by decide +kernel
theorem dX11_cardIn_22 : decode cX11_cardIn 22 = .ok (.aload_n 0, 1) := by decide +kernel
theorem dX11_cardIn_23 : decode cX11_cardIn 23 = .ok (.getfield 34, 3) := by decide +kernel
theorem dX11_cardIn_26 : decode cX11_cardIn 26 = .ok (.iload_n 1, 1) := by decide +kernel
theorem dX11_cardIn_27 : decode cX11_cardIn 27 = .ok (.iaload, 1) := by decide +kernel
theorem dX11_cardIn_28 : decode cX11_cardIn 28 = .ok (.ireturn, 1) := by decide +kernel
theorem dX11_cardIn_11 : decode cX11_cardIn 11 = .ok (.aload_n 0, 1) := by decide +kernel
theorem dX11_cardIn_12 : decode cX11_cardIn 12 = .ok (.iload_n 1, 1) := by decide +kernel
theorem dX11_cardIn_13 : decode cX11_cardIn 13 = .ok (.invokevirtual 267, 3) := by decide +kernel
theorem dX11_cardIn_16 : decode cX11_cardIn 16 = .ok (.iinc 3 1, 3) := by decide +kernel
theorem dX11_cardIn_19 : decode cX11_cardIn 19 = .ok (.goto (-13), 3) := by decide +kernel
theorem dX11_card_0 : decode cX11_card 0 = .ok (.aload_n 0, 1) := by decide +kernel
theorem dX11_card_1 : decode cX11_card 1 = .ok (.iload_n 1, 1) := by decide +kernel
theorem dX11_card_2 : decode cX11_card 2 = .ok (.i2l, 1) := by decide +kernel
theorem dX11_card_3 : decode cX11_card 3 = .ok (.invokevirtual 89, 3) := by decide +kernel
theorem dX11_card_6 : decode cX11_card 6 = .ok (.ifCond .eq 24, 3) := by decide +kernel
theorem dX11_card_30 : decode cX11_card 30 = .ok (.bipush (-2), 2) := by decide +kernel
theorem dX11_card_32 : decode cX11_card 32 = .ok (.ireturn, 1) := by decide +kernel
theorem dX11_card_9 : decode cX11_card 9 = .ok (.iload_n 2, 1) := by decide +kernel
theorem dX11_card_10 : decode cX11_card 10 = .ok (.i2l, 1) := by decide +kernel
theorem dX11_card_11 : decode cX11_card 11 = .ok (.lconst 0, 1) := by decide +kernel
theorem dX11_card_12 : decode cX11_card 12 = .ok (.ldc2_w 284, 3) := by decide +kernel
theorem dX11_card_15 : decode cX11_card 15 = .ok (.invokestatic 79, 3) := by decide +kernel
theorem dX11_card_18 : decode cX11_card 18 = .ok (.ifCond .eq 12, 3) := by decide +kernel
theorem dX11_card_21 : decode cX11_card 21 = .ok (.aload_n 0, 1) := by decide +kernel
theorem dX11_card_22 : decode cX11_card 22 = .ok (.iload_n 1, 1) := by decide +kernel
theorem dX11_card_23 : decode cX11_card 23 = .ok (.iload_n 2, 1) := by decide +kernel
theorem dX11_card_24 : decode cX11_card 24 = .ok (.invokevirtual 343, 3) := by decide +kernel
theorem dX11_card_27 : decode cX11_card 27 = .ok (.goto 5, 3) := by decide +kernel
theorem dX11_desk_0 : decode cX11_desk 0 = .ok (.aload_n 0, 1) := by decide +kernel
theorem dX11_desk_1 : decode cX11_desk 1 = .ok (.getfield 9, 3) := by decide +kernel
theorem dX11_desk_4 : decode cX11_desk 4 = .ok (.iconst 4, 1) := by decide +kernel
theorem dX11_desk_5 : decode cX11_desk 5 = .ok (.iaload, 1) := by decide +kernel
theorem dX11_desk_6 : decode cX11_desk 6 = .ok (.ifCond .eq 15, 3) := by decide +kernel
theorem dX11_desk_21 : decode cX11_desk 21 = .ok (.bipush (-2), 2) := by decide +kernel
theorem dX11_desk_23 : decode cX11_desk 23 = .ok (.ireturn, 1) := by decide +kernel
theorem dX11_desk_9 : decode cX11_desk 9 = .ok (.iload_n 1, 1) := by decide +kernel
theorem dX11_desk_10 : decode cX11_desk 10 = .ok (.i2l, 1) := by decide +kernel
theorem dX11_desk_11 : decode cX11_desk 11 = .ok (.lconst 0, 1) := by decide +kernel
theorem dX11_desk_12 : decode cX11_desk 12 = .ok (.ldc2_w 284, 3) := by decide +kernel
theorem dX11_desk_15 : decode cX11_desk 15 = .ok (.invokestatic 79, 3) := by decide +kernel
theorem dX11_desk_18 : decode cX11_desk 18 = .ok (.ifCond .ne 6, 3) := by decide +kernel
theorem dX11_desk_24 : decode cX11_desk 24 = .ok (.iconst (-1), 1) := by decide +kernel
theorem dX11_desk_25 : decode cX11_desk 25 = .ok (.istore_n 2, 1) := by decide +kernel
theorem dX11_desk_26 : decode cX11_desk 26 = .ok (.iconst (-1), 1) := by decide +kernel
theorem dX11_desk_27 : decode cX11_desk 27 = .ok (.istore_n 3, 1) := by decide +kernel
theorem dX11_desk_28 : decode cX11_desk 28 = .ok (.iconst 0, 1) := by decide +kernel
theorem dX11_desk_29 : decode cX11_desk 29 = .ok (.istore 4, 2) := by decide +kernel
theorem dX11_desk_31 : decode cX11_desk 31 = .ok (.iload 4, 2) := by decide +kernel
theorem dX11_desk_33 : decode cX11_desk 33 = .ok (.aload_n 0, 1) := by decide +kernel
theorem dX11_desk_34 : decode cX11_desk 34 = .ok (.getfield 9, 3) := by decide +kernel
theorem dX11_desk_37 : decode cX11_desk 37 = .ok (.iconst 4, 1) := by decide +kernel
theorem dX11_desk_38 : decode cX11_desk 38 = .ok (.iaload, 1) := by decide +kernel
theorem dX11_desk_39 : decode cX11_desk 39 = .ok (.if_icmp .ge 33, 3) := by decide +kernel
theorem dX11_desk_72 : decode cX11_desk 72 = .ok (.iload_n 2, 1) := by decide +kernel
theorem dX11_desk_73 : decode cX11_desk 73 = .ok (.ireturn, 1) := by decide +kernel
theorem dX11_desk_42 : decode cX11_desk 42 = .ok (.aload_n 0, 1) := by decide +kernel
theorem dX11_desk_43 : decode cX11_desk 43 = .ok (.iload 4, 2) := by decide +kernel
theorem dX11_desk_45 : decode cX11_desk 45 = .ok (.iload_n 1, 1) := by decide +kernel
theorem dX11_desk_46 : decode cX11_desk 46 = .ok (.invokevirtual 343, 3) := by decide +kernel
theorem dX11_desk_49 : decode cX11_desk 49 = .ok (.istore 5, 2) := by decide +kernel
theorem dX11_desk_51 : decode cX11_desk 51 = .ok (.iload 5, 2) := by decide +kernel
theorem dX11_desk_53 : decode cX11_desk 53 = .ok (.iload_n 3, 1) := by decide +kernel
theorem dX11_desk_66 : decode cX11_desk 66 = .ok (.iinc 4 1, 3) := by decide +kernel
theorem dX11_desk_69 : decode cX11_desk 69 = .ok (.goto (-38), 3) := by decide +kernel
theorem dX11_desk_54 : decode cX11_desk 54 = .ok (.if_icmp .gt 6, 3) := by decide +kernel
theorem dX11_desk_60 : decode cX11_desk 60 = .ok (.iload 5, 2) := by decide +kernel
theorem dX11_desk_62 : decode cX11_desk 62 = .ok (.istore_n 3, 1) := by decide +kernel
theorem dX11_desk_63 : decode cX11_desk 63 = .ok (.iload 4, 2) := by decide +kernel
theorem dX11_desk_65 : decode cX11_desk 65 = .ok (.istore_n 2, 1) := by decide +kernel
theorem dX11_desk_57 : decode cX11_desk 57 = .ok (.goto 9, 3) := by decide +kernel
theorem dX11_state_0 : decode cX11_state 0 = .ok (.bipush 7, 2) := by decide +kernel
theorem dX11_state_2 : decode cX11_state 2 = .ok (.iload_n 0, 1) := by decide +kernel
theorem dX11_state_3 : decode cX11_state 3 = .ok (.imul, 1) := by decide +kernel
theorem dX11_state_4 : decode cX11_state 4 = .ok (.iload_n 1, 1) := by decide +kernel
theorem dX11_state_5 : decode cX11_state 5 = .ok (.iadd, 1) := by decide +kernel
theorem dX11_state_6 : decode cX11_state 6 = .ok (.sipush 128, 3) := by decide +kernel
theorem dX11_state_9 : decode cX11_state 9 = .ok (.imul, 1) := by decide +kernel
theorem dX11_state_10 : decode cX11_state 10 = .ok (.iload_n 2, 1) := by decide +kernel
theorem dX11_state_11 : decode cX11_state 11 = .ok (.iadd, 1) := by decide +kernel
theorem dX11_state_12 : decode cX11_state 12 = .ok (.ireturn, 1) := by decide +kernel
theorem dX11_meet_0 : decode cX11_meet 0 = .ok (.aload_n 0, 1) := by decide +kernel
theorem dX11_meet_1 : decode cX11_meet 1 = .ok (.getfield 52, 3) := by decide +kernel
theorem dX11_meet_4 : decode cX11_meet 4 = .ok (.iload_n 1, 1) := by decide +kernel
theorem dX11_meet_5 : decode cX11_meet 5 = .ok (.iaload, 1) := by decide +kernel
theorem dX11_meet_6 : decode cX11_meet 6 = .ok (.iconst (-1), 1) := by decide +kernel
theorem dX11_meet_7 : decode cX11_meet 7 = .ok (.if_icmp .eq 4, 3) := by decide +kernel
theorem dX11_meet_11 : decode cX11_meet 11 = .ok (.aload_n 0, 1) := by decide +kernel
theorem dX11_meet_12 : decode cX11_meet 12 = .ok (.getfield 52, 3) := by decide +kernel
theorem dX11_meet_15 : decode cX11_meet 15 = .ok (.iload_n 1, 1) := by decide +kernel
theorem dX11_meet_16 : decode cX11_meet 16 = .ok (.iload_n 2, 1) := by decide +kernel
theorem dX11_meet_17 : decode cX11_meet 17 = .ok (.iastore, 1) := by decide +kernel
theorem dX11_meet_18 : decode cX11_meet 18 = .ok (.aload_n 0, 1) := by decide +kernel
theorem dX11_meet_19 : decode cX11_meet 19 = .ok (.getfield 55, 3) := by decide +kernel
theorem dX11_meet_22 : decode cX11_meet 22 = .ok (.iload_n 1, 1) := by decide +kernel
theorem dX11_meet_23 : decode cX11_meet 23 = .ok (.iload_n 3, 1) := by decide +kernel
theorem dX11_meet_24 : decode cX11_meet 24 = .ok (.iastore, 1) := by decide +kernel
theorem dX11_meet_25 : decode cX11_meet 25 = .ok (.aload_n 0, 1) := by decide +kernel
theorem dX11_meet_26 : decode cX11_meet 26 = .ok (.getfield 49, 3) := by decide +kernel
theorem dX11_meet_29 : decode cX11_meet 29 = .ok (.aload_n 0, 1) := by decide +kernel
theorem dX11_meet_30 : decode cX11_meet 30 = .ok (.getfield 346, 3) := by decide +kernel
theorem dX11_meet_33 : decode cX11_meet 33 = .ok (.iload_n 1, 1) := by decide +kernel
theorem dX11_meet_34 : decode cX11_meet 34 = .ok (.iastore, 1) := by decide +kernel
theorem dX11_meet_35 : decode cX11_meet 35 = .ok (.aload_n 0, 1) := by decide +kernel
theorem dX11_meet_36 : decode cX11_meet 36 = .ok (.dup, 1) := by decide +kernel
theorem dX11_meet_37 : decode cX11_meet 37 = .ok (.getfield 346, 3) := by decide +kernel
theorem dX11_meet_40 : decode cX11_meet 40 = .ok (.iconst 1, 1) := by decide +kernel
theorem dX11_meet_41 : decode cX11_meet 41 = .ok (.iadd, 1) := by decide +kernel
theorem dX11_meet_42 : decode cX11_meet 42 = .ok (.putfield 346, 3) := by decide +kernel
theorem dX11_meet_45 : decode cX11_meet 45 = .ok (.return_, 1) := by decide +kernel
theorem dX11_meet_10 : decode cX11_meet 10 = .ok (.return_, 1) := by decide +kernel
theorem dX11_chase_0 : decode cX11_chase 0 = .ok (.iconst 0, 1) := by decide +kernel
theorem dX11_chase_1 : decode cX11_chase 1 = .ok (.istore 4, 2) := by decide +kernel
theorem dX11_chase_3 : decode cX11_chase 3 = .ok (.iload 4, 2) := by decide +kernel
theorem dX11_chase_5 : decode cX11_chase 5 = .ok (.sipush 6272, 3) := by decide +kernel
theorem dX11_chase_8 : decode cX11_chase 8 = .ok (.if_icmp .ge 17, 3) := by decide +kernel
theorem dX11_chase_25 : decode cX11_chase 25 = .ok (.aload_n 0, 1) := by decide +kernel
theorem dX11_chase_26 : decode cX11_chase 26 = .ok (.iconst 0, 1) := by decide +kernel
theorem dX11_chase_27 : decode cX11_chase 27 = .ok (.putfield 346, 3) := by decide +kernel
theorem dX11_chase_30 : decode cX11_chase 30 = .ok (.aload_n 0, 1) := by decide +kernel
theorem dX11_chase_31 : decode cX11_chase 31 = .ok (.iload_n 1, 1) := by decide +kernel
theorem dX11_chase_32 : decode cX11_chase 32 = .ok (.iload_n 2, 1) := by decide +kernel
theorem dX11_chase_33 : decode cX11_chase 33 = .ok (.aload_n 0, 1) := by decide +kernel
theorem dX11_chase_34 : decode cX11_chase 34 = .ok (.invokevirtual 337, 3) := by decide +kernel
theorem dX11_chase_37 : decode cX11_chase 37 = .ok (.iconst 1, 1) := by decide +kernel
theorem dX11_chase_38 : decode cX11_chase 38 = .ok (.iload_n 1, 1) := by decide +kernel
theorem dX11_chase_39 : decode cX11_chase 39 = .ok (.ishl, 1) := by decide +kernel
theorem dX11_chase_40 : decode cX11_chase 40 = .ok (.iconst (-1), 1) := by decide +kernel
theorem dX11_chase_41 : decode cX11_chase 41 = .ok (.ixor, 1) := by decide +kernel
theorem dX11_chase_42 : decode cX11_chase 42 = .ok (.iand, 1) := by decide +kernel
theorem dX11_chase_43 : decode cX11_chase 43 = .ok (.iconst 1, 1) := by decide +kernel
theorem dX11_chase_44 : decode cX11_chase 44 = .ok (.iload_n 2, 1) := by decide +kernel
theorem dX11_chase_45 : decode cX11_chase 45 = .ok (.ishl, 1) := by decide +kernel
theorem dX11_chase_46 : decode cX11_chase 46 = .ok (.iconst (-1), 1) := by decide +kernel
theorem dX11_chase_47 : decode cX11_chase 47 = .ok (.ixor, 1) := by decide +kernel
theorem dX11_chase_48 : decode cX11_chase 48 = .ok (.iand, 1) := by decide +kernel
theorem dX11_chase_49 : decode cX11_chase 49 = .ok (.invokestatic 349, 3) := by decide +kernel
theorem dX11_chase_52 : decode cX11_chase 52 = .ok (.iconst 0, 1) := by decide +kernel
theorem dX11_chase_53 : decode cX11_chase 53 = .ok (.iconst (-1), 1) := by decide +kernel
theorem dX11_chase_54 : decode cX11_chase 54 = .ok (.invokevirtual 352, 3) := by decide +kernel
theorem dX11_chase_57 : decode cX11_chase 57 = .ok (.iconst 0, 1) := by decide +kernel
theorem dX11_chase_58 : decode cX11_chase 58 = .ok (.istore 4, 2) := by decide +kernel
theorem dX11_chase_60 : decode cX11_chase 60 = .ok (.iload 4, 2) := by decide +kernel
theorem dX11_chase_62 : decode cX11_chase 62 = .ok (.aload_n 0, 1) := by decide +kernel
theorem dX11_chase_63 : decode cX11_chase 63 = .ok (.getfield 346, 3) := by decide +kernel
theorem dX11_chase_66 : decode cX11_chase 66 = .ok (.if_icmp .ge 177, 3) := by decide +kernel
theorem dX11_chase_243 : decode cX11_chase 243 = .ok (.iconst (-1), 1) := by decide +kernel
theorem dX11_chase_244 : decode cX11_chase 244 = .ok (.ireturn, 1) := by decide +kernel
theorem dX11_chase_69 : decode cX11_chase 69 = .ok (.aload_n 0, 1) := by decide +kernel
theorem dX11_chase_70 : decode cX11_chase 70 = .ok (.getfield 49, 3) := by decide +kernel
theorem dX11_chase_73 : decode cX11_chase 73 = .ok (.iload 4, 2) := by decide +kernel
theorem dX11_chase_75 : decode cX11_chase 75 = .ok (.iaload, 1) := by decide +kernel
theorem dX11_chase_76 : decode cX11_chase 76 = .ok (.istore 5, 2) := by decide +kernel
theorem dX11_chase_78 : decode cX11_chase 78 = .ok (.iload 5, 2) := by decide +kernel
theorem dX11_chase_80 : decode cX11_chase 80 = .ok (.sipush 128, 3) := by decide +kernel
theorem dX11_chase_83 : decode cX11_chase 83 = .ok (.irem, 1) := by decide +kernel
theorem dX11_chase_84 : decode cX11_chase 84 = .ok (.ifCond .ne 6, 3) := by decide +kernel
theorem dX11_chase_90 : decode cX11_chase 90 = .ok (.iload 5, 2) := by decide +kernel
theorem dX11_chase_92 : decode cX11_chase 92 = .ok (.sipush 128, 3) := by decide +kernel
theorem dX11_chase_95 : decode cX11_chase 95 = .ok (.idiv, 1) := by decide +kernel
theorem dX11_chase_96 : decode cX11_chase 96 = .ok (.bipush 7, 2) := by decide +kernel
theorem dX11_chase_98 : decode cX11_chase 98 = .ok (.idiv, 1) := by decide +kernel
theorem dX11_chase_99 : decode cX11_chase 99 = .ok (.istore 6, 2) := by decide +kernel
theorem dX11_chase_101 : decode cX11_chase 101 = .ok (.iload 5, 2) := by decide +kernel
theorem dX11_chase_103 : decode cX11_chase 103 = .ok (.sipush 128, 3) := by decide +kernel
theorem dX11_chase_106 : decode cX11_chase 106 = .ok (.idiv, 1) := by decide +kernel
theorem dX11_chase_107 : decode cX11_chase 107 = .ok (.bipush 7, 2) := by decide +kernel
theorem dX11_chase_109 : decode cX11_chase 109 = .ok (.irem, 1) := by decide +kernel
theorem dX11_chase_110 : decode cX11_chase 110 = .ok (.istore 7, 2) := by decide +kernel
theorem dX11_chase_112 : decode cX11_chase 112 = .ok (.iconst 0, 1) := by decide +kernel
theorem dX11_chase_113 : decode cX11_chase 113 = .ok (.istore 8, 2) := by decide +kernel
theorem dX11_chase_115 : decode cX11_chase 115 = .ok (.iload 8, 2) := by decide +kernel
theorem dX11_chase_117 : decode cX11_chase 117 = .ok (.aload_n 0, 1) := by decide +kernel
theorem dX11_chase_118 : decode cX11_chase 118 = .ok (.getfield 9, 3) := by decide +kernel
theorem dX11_chase_121 : decode cX11_chase 121 = .ok (.iconst 4, 1) := by decide +kernel
theorem dX11_chase_122 : decode cX11_chase 122 = .ok (.iaload, 1) := by decide +kernel
theorem dX11_chase_123 : decode cX11_chase 123 = .ok (.if_icmp .ge 114, 3) := by decide +kernel
theorem dX11_chase_237 : decode cX11_chase 237 = .ok (.iinc 4 1, 3) := by decide +kernel
theorem dX11_chase_240 : decode cX11_chase 240 = .ok (.goto (-180), 3) := by decide +kernel
theorem dX11_chase_126 : decode cX11_chase 126 = .ok (.aload_n 0, 1) := by decide +kernel
theorem dX11_chase_127 : decode cX11_chase 127 = .ok (.iload 6, 2) := by decide +kernel
theorem dX11_chase_129 : decode cX11_chase 129 = .ok (.iload 8, 2) := by decide +kernel
theorem dX11_chase_131 : decode cX11_chase 131 = .ok (.invokevirtual 312, 3) := by decide +kernel
theorem dX11_chase_231 : decode cX11_chase 231 = .ok (.iinc 8 1, 3) := by decide +kernel
theorem dX11_chase_234 : decode cX11_chase 234 = .ok (.goto (-119), 3) := by decide +kernel
theorem dX11_chase_134 : decode cX11_chase 134 = .ok (.ifCond .ne 6, 3) := by decide +kernel
theorem dX11_chase_140 : decode cX11_chase 140 = .ok (.iconst 0, 1) := by decide +kernel
theorem dX11_chase_141 : decode cX11_chase 141 = .ok (.istore 9, 2) := by decide +kernel
theorem dX11_chase_143 : decode cX11_chase 143 = .ok (.iload 9, 2) := by decide +kernel
theorem dX11_chase_145 : decode cX11_chase 145 = .ok (.aload_n 0, 1) := by decide +kernel
theorem dX11_chase_146 : decode cX11_chase 146 = .ok (.getfield 9, 3) := by decide +kernel
theorem dX11_chase_149 : decode cX11_chase 149 = .ok (.iconst 4, 1) := by decide +kernel
theorem dX11_chase_150 : decode cX11_chase 150 = .ok (.iaload, 1) := by decide +kernel
theorem dX11_chase_151 : decode cX11_chase 151 = .ok (.if_icmp .ge 80, 3) := by decide +kernel
theorem dX11_chase_154 : decode cX11_chase 154 = .ok (.iload_n 3, 1) := by decide +kernel
theorem dX11_chase_225 : decode cX11_chase 225 = .ok (.iinc 9 1, 3) := by decide +kernel
theorem dX11_chase_228 : decode cX11_chase 228 = .ok (.goto (-85), 3) := by decide +kernel
theorem dX11_chase_179 : decode cX11_chase 179 = .ok (.aload_n 0, 1) := by decide +kernel
theorem dX11_chase_180 : decode cX11_chase 180 = .ok (.iload 8, 2) := by decide +kernel
theorem dX11_chase_182 : decode cX11_chase 182 = .ok (.iload 9, 2) := by decide +kernel
theorem dX11_chase_184 : decode cX11_chase 184 = .ok (.aload_n 0, 1) := by decide +kernel
theorem dX11_chase_185 : decode cX11_chase 185 = .ok (.iload 5, 2) := by decide +kernel
theorem dX11_chase_187 : decode cX11_chase 187 = .ok (.sipush 128, 3) := by decide +kernel
theorem dX11_chase_190 : decode cX11_chase 190 = .ok (.irem, 1) := by decide +kernel
theorem dX11_chase_191 : decode cX11_chase 191 = .ok (.invokevirtual 330, 3) := by decide +kernel
theorem dX11_chase_194 : decode cX11_chase 194 = .ok (.iconst 1, 1) := by decide +kernel
theorem dX11_chase_195 : decode cX11_chase 195 = .ok (.iload 8, 2) := by decide +kernel
theorem dX11_chase_197 : decode cX11_chase 197 = .ok (.ishl, 1) := by decide +kernel
theorem dX11_chase_198 : decode cX11_chase 198 = .ok (.iconst (-1), 1) := by decide +kernel
theorem dX11_chase_199 : decode cX11_chase 199 = .ok (.ixor, 1) := by decide +kernel
theorem dX11_chase_200 : decode cX11_chase 200 = .ok (.iand, 1) := by decide +kernel
theorem dX11_chase_201 : decode cX11_chase 201 = .ok (.iconst 1, 1) := by decide +kernel
theorem dX11_chase_202 : decode cX11_chase 202 = .ok (.iload 9, 2) := by decide +kernel
theorem dX11_chase_204 : decode cX11_chase 204 = .ok (.ishl, 1) := by decide +kernel
theorem dX11_chase_205 : decode cX11_chase 205 = .ok (.iconst (-1), 1) := by decide +kernel
theorem dX11_chase_206 : decode cX11_chase 206 = .ok (.ixor, 1) := by decide +kernel
theorem dX11_chase_207 : decode cX11_chase 207 = .ok (.iand, 1) := by decide +kernel
theorem dX11_chase_208 : decode cX11_chase 208 = .ok (.invokestatic 349, 3) := by decide +kernel
theorem dX11_chase_211 : decode cX11_chase 211 = .ok (.aload_n 0, 1) := by decide +kernel
theorem dX11_chase_212 : decode cX11_chase 212 = .ok (.getfield 52, 3) := by decide +kernel
theorem dX11_chase_215 : decode cX11_chase 215 = .ok (.iload 5, 2) := by decide +kernel
theorem dX11_chase_217 : decode cX11_chase 217 = .ok (.iaload, 1) := by decide +kernel
theorem dX11_chase_218 : decode cX11_chase 218 = .ok (.iconst 1, 1) := by decide +kernel
theorem dX11_chase_219 : decode cX11_chase 219 = .ok (.iadd, 1) := by decide +kernel
theorem dX11_chase_220 : decode cX11_chase 220 = .ok (.iload 5, 2) := by decide +kernel
theorem dX11_chase_222 : decode cX11_chase 222 = .ok (.invokevirtual 352, 3) := by decide +kernel
theorem dX11_chase_155 : decode cX11_chase 155 = .ok (.ifCond .eq 13, 3) := by decide +kernel
theorem dX11_chase_168 : decode cX11_chase 168 = .ok (.aload_n 0, 1) := by decide +kernel
theorem dX11_chase_169 : decode cX11_chase 169 = .ok (.iload 7, 2) := by decide +kernel
theorem dX11_chase_171 : decode cX11_chase 171 = .ok (.iload 9, 2) := by decide +kernel
theorem dX11_chase_173 : decode cX11_chase 173 = .ok (.invokevirtual 312, 3) := by decide +kernel
theorem dX11_chase_176 : decode cX11_chase 176 = .ok (.ifCond .eq 49, 3) := by decide +kernel
theorem dX11_chase_158 : decode cX11_chase 158 = .ok (.iload 9, 2) := by decide +kernel
theorem dX11_chase_160 : decode cX11_chase 160 = .ok (.iload 8, 2) := by decide +kernel
theorem dX11_chase_162 : decode cX11_chase 162 = .ok (.if_icmp .ne 63, 3) := by decide +kernel
theorem dX11_chase_165 : decode cX11_chase 165 = .ok (.goto 14, 3) := by decide +kernel
theorem dX11_chase_137 : decode cX11_chase 137 = .ok (.goto 94, 3) := by decide +kernel
theorem dX11_chase_87 : decode cX11_chase 87 = .ok (.iload 5, 2) := by decide +kernel
theorem dX11_chase_89 : decode cX11_chase 89 = .ok (.ireturn, 1) := by decide +kernel
theorem dX11_chase_11 : decode cX11_chase 11 = .ok (.aload_n 0, 1) := by decide +kernel
theorem dX11_chase_12 : decode cX11_chase 12 = .ok (.getfield 52, 3) := by decide +kernel
theorem dX11_chase_15 : decode cX11_chase 15 = .ok (.iload 4, 2) := by decide +kernel
theorem dX11_chase_17 : decode cX11_chase 17 = .ok (.iconst (-1), 1) := by decide +kernel
theorem dX11_chase_18 : decode cX11_chase 18 = .ok (.iastore, 1) := by decide +kernel
theorem dX11_chase_19 : decode cX11_chase 19 = .ok (.iinc 4 1, 3) := by decide +kernel
theorem dX11_chase_22 : decode cX11_chase 22 = .ok (.goto (-19), 3) := by decide +kernel
theorem dX11_farTo_0 : decode cX11_farTo 0 = .ok (.iload_n 1, 1) := by decide +kernel
theorem dX11_farTo_1 : decode cX11_farTo 1 = .ok (.iconst (-1), 1) := by decide +kernel
theorem dX11_farTo_2 : decode cX11_farTo 2 = .ok (.if_icmp .ne 7, 3) := by decide +kernel
theorem dX11_farTo_9 : decode cX11_farTo 9 = .ok (.aload_n 0, 1) := by decide +kernel
theorem dX11_farTo_10 : decode cX11_farTo 10 = .ok (.getfield 52, 3) := by decide +kernel
theorem dX11_farTo_13 : decode cX11_farTo 13 = .ok (.iload_n 1, 1) := by decide +kernel
theorem dX11_farTo_14 : decode cX11_farTo 14 = .ok (.iaload, 1) := by decide +kernel
theorem dX11_farTo_15 : decode cX11_farTo 15 = .ok (.ireturn, 1) := by decide +kernel
theorem dX11_farTo_5 : decode cX11_farTo 5 = .ok (.iconst (-1), 1) := by decide +kernel
theorem dX11_farTo_6 : decode cX11_farTo 6 = .ok (.goto 9, 3) := by decide +kernel
theorem dX11_one_0 : decode cX11_one 0 = .ok (.aload_n 0, 1) := by decide +kernel
theorem dX11_one_1 : decode cX11_one 1 = .ok (.iload_n 1, 1) := by decide +kernel
theorem dX11_one_2 : decode cX11_one 2 = .ok (.i2l, 1) := by decide +kernel
theorem dX11_one_3 : decode cX11_one 3 = .ok (.invokevirtual 89, 3) := by decide +kernel
theorem dX11_one_6 : decode cX11_one 6 = .ok (.ifCond .eq 17, 3) := by decide +kernel
theorem dX11_one_23 : decode cX11_one 23 = .ok (.bipush (-2), 2) := by decide +kernel
theorem dX11_one_25 : decode cX11_one 25 = .ok (.ireturn, 1) := by decide +kernel
theorem dX11_one_9 : decode cX11_one 9 = .ok (.aload_n 0, 1) := by decide +kernel
theorem dX11_one_10 : decode cX11_one 10 = .ok (.aload_n 0, 1) := by decide +kernel
theorem dX11_one_11 : decode cX11_one 11 = .ok (.iload_n 1, 1) := by decide +kernel
theorem dX11_one_12 : decode cX11_one 12 = .ok (.iload_n 1, 1) := by decide +kernel
theorem dX11_one_13 : decode cX11_one 13 = .ok (.iconst 1, 1) := by decide +kernel
theorem dX11_one_14 : decode cX11_one 14 = .ok (.invokevirtual 356, 3) := by decide +kernel
theorem dX11_one_17 : decode cX11_one 17 = .ok (.invokevirtual 360, 3) := by decide +kernel
theorem dX11_one_20 : decode cX11_one 20 = .ok (.goto 5, 3) := by decide +kernel
theorem dX11_two_0 : decode cX11_two 0 = .ok (.aload_n 0, 1) := by decide +kernel
theorem dX11_two_1 : decode cX11_two 1 = .ok (.iload_n 1, 1) := by decide +kernel
theorem dX11_two_2 : decode cX11_two 2 = .ok (.i2l, 1) := by decide +kernel
theorem dX11_two_3 : decode cX11_two 3 = .ok (.invokevirtual 89, 3) := by decide +kernel
theorem dX11_two_6 : decode cX11_two 6 = .ok (.ifCond .eq 26, 3) := by decide +kernel
theorem dX11_two_32 : decode cX11_two 32 = .ok (.bipush (-2), 2) := by decide +kernel
theorem dX11_two_34 : decode cX11_two 34 = .ok (.ireturn, 1) := by decide +kernel
theorem dX11_two_9 : decode cX11_two 9 = .ok (.aload_n 0, 1) := by decide +kernel
theorem dX11_two_10 : decode cX11_two 10 = .ok (.iload_n 2, 1) := by decide +kernel
theorem dX11_two_11 : decode cX11_two 11 = .ok (.i2l, 1) := by decide +kernel
theorem dX11_two_12 : decode cX11_two 12 = .ok (.invokevirtual 89, 3) := by decide +kernel
theorem dX11_two_15 : decode cX11_two 15 = .ok (.ifCond .eq 17, 3) := by decide +kernel
theorem dX11_two_18 : decode cX11_two 18 = .ok (.aload_n 0, 1) := by decide +kernel
theorem dX11_two_19 : decode cX11_two 19 = .ok (.aload_n 0, 1) := by decide +kernel
theorem dX11_two_20 : decode cX11_two 20 = .ok (.iload_n 1, 1) := by decide +kernel
theorem dX11_two_21 : decode cX11_two 21 = .ok (.iload_n 2, 1) := by decide +kernel
theorem dX11_two_22 : decode cX11_two 22 = .ok (.iconst 0, 1) := by decide +kernel
theorem dX11_two_23 : decode cX11_two 23 = .ok (.invokevirtual 356, 3) := by decide +kernel
theorem dX11_two_26 : decode cX11_two 26 = .ok (.invokevirtual 360, 3) := by decide +kernel
theorem dX11_two_29 : decode cX11_two 29 = .ok (.goto 5, 3) := by decide +kernel
theorem dX11_way_0 : decode cX11_way 0 = .ok (.aload_n 0, 1) := by decide +kernel
theorem dX11_way_1 : decode cX11_way 1 = .ok (.iload_n 1, 1) := by decide +kernel
theorem dX11_way_2 : decode cX11_way 2 = .ok (.i2l, 1) := by decide +kernel
theorem dX11_way_3 : decode cX11_way 3 = .ok (.invokevirtual 89, 3) := by decide +kernel
theorem dX11_way_6 : decode cX11_way 6 = .ok (.ifCond .eq 22, 3) := by decide +kernel
theorem dX11_way_28 : decode cX11_way 28 = .ok (.bipush (-2), 2) := by decide +kernel
theorem dX11_way_30 : decode cX11_way 30 = .ok (.ireturn, 1) := by decide +kernel
theorem dX11_way_9 : decode cX11_way 9 = .ok (.aload_n 0, 1) := by decide +kernel
theorem dX11_way_10 : decode cX11_way 10 = .ok (.iload_n 2, 1) := by decide +kernel
theorem dX11_way_11 : decode cX11_way 11 = .ok (.i2l, 1) := by decide +kernel
theorem dX11_way_12 : decode cX11_way 12 = .ok (.invokevirtual 89, 3) := by decide +kernel
theorem dX11_way_15 : decode cX11_way 15 = .ok (.ifCond .eq 13, 3) := by decide +kernel
theorem dX11_way_18 : decode cX11_way 18 = .ok (.iload_n 3, 1) := by decide +kernel
theorem dX11_way_19 : decode cX11_way 19 = .ok (.i2l, 1) := by decide +kernel
theorem dX11_way_20 : decode cX11_way 20 = .ok (.lconst 0, 1) := by decide +kernel
theorem dX11_way_21 : decode cX11_way 21 = .ok (.lconst 1, 1) := by decide +kernel
theorem dX11_way_22 : decode cX11_way 22 = .ok (.invokestatic 79, 3) := by decide +kernel
theorem dX11_way_25 : decode cX11_way 25 = .ok (.ifCond .ne 6, 3) := by decide +kernel
theorem dX11_way_31 : decode cX11_way 31 = .ok (.aload_n 0, 1) := by decide +kernel
theorem dX11_way_32 : decode cX11_way 32 = .ok (.iload_n 1, 1) := by decide +kernel
theorem dX11_way_33 : decode cX11_way 33 = .ok (.iload_n 2, 1) := by decide +kernel
theorem dX11_way_34 : decode cX11_way 34 = .ok (.iconst 0, 1) := by decide +kernel
theorem dX11_way_35 : decode cX11_way 35 = .ok (.invokevirtual 356, 3) := by decide +kernel
theorem dX11_way_38 : decode cX11_way 38 = .ok (.istore 5, 2) := by decide +kernel
theorem dX11_way_40 : decode cX11_way 40 = .ok (.iload 5, 2) := by decide +kernel
theorem dX11_way_42 : decode cX11_way 42 = .ok (.iconst (-1), 1) := by decide +kernel
theorem dX11_way_43 : decode cX11_way 43 = .ok (.if_icmp .eq 23, 3) := by decide +kernel
theorem dX11_way_66 : decode cX11_way 66 = .ok (.iconst (-1), 1) := by decide +kernel
theorem dX11_way_67 : decode cX11_way 67 = .ok (.ireturn, 1) := by decide +kernel
theorem dX11_way_46 : decode cX11_way 46 = .ok (.iload 4, 2) := by decide +kernel
theorem dX11_way_48 : decode cX11_way 48 = .ok (.i2l, 1) := by decide +kernel
theorem dX11_way_49 : decode cX11_way 49 = .ok (.lconst 0, 1) := by decide +kernel
theorem dX11_way_50 : decode cX11_way 50 = .ok (.aload_n 0, 1) := by decide +kernel
theorem dX11_way_51 : decode cX11_way 51 = .ok (.getfield 52, 3) := by decide +kernel
theorem dX11_way_54 : decode cX11_way 54 = .ok (.iload 5, 2) := by decide +kernel
theorem dX11_way_56 : decode cX11_way 56 = .ok (.iaload, 1) := by decide +kernel
theorem dX11_way_57 : decode cX11_way 57 = .ok (.iconst 1, 1) := by decide +kernel
theorem dX11_way_58 : decode cX11_way 58 = .ok (.isub, 1) := by decide +kernel
theorem dX11_way_59 : decode cX11_way 59 = .ok (.i2l, 1) := by decide +kernel
theorem dX11_way_60 : decode cX11_way 60 = .ok (.invokestatic 79, 3) := by decide +kernel
theorem dX11_way_63 : decode cX11_way 63 = .ok (.ifCond .ne 5, 3) := by decide +kernel
theorem dX11_way_68 : decode cX11_way 68 = .ok (.aload_n 0, 1) := by decide +kernel
theorem dX11_way_69 : decode cX11_way 69 = .ok (.getfield 52, 3) := by decide +kernel
theorem dX11_way_72 : decode cX11_way 72 = .ok (.iload 5, 2) := by decide +kernel
theorem dX11_way_74 : decode cX11_way 74 = .ok (.iaload, 1) := by decide +kernel
theorem dX11_way_75 : decode cX11_way 75 = .ok (.iload 4, 2) := by decide +kernel
theorem dX11_way_77 : decode cX11_way 77 = .ok (.iconst 1, 1) := by decide +kernel
theorem dX11_way_78 : decode cX11_way 78 = .ok (.iadd, 1) := by decide +kernel
theorem dX11_way_79 : decode cX11_way 79 = .ok (.if_icmp .le 15, 3) := by decide +kernel
theorem dX11_way_94 : decode cX11_way 94 = .ok (.iload_n 3, 1) := by decide +kernel
theorem dX11_way_95 : decode cX11_way 95 = .ok (.ifCond .ne 15, 3) := by decide +kernel
theorem dX11_way_110 : decode cX11_way 110 = .ok (.iload 5, 2) := by decide +kernel
theorem dX11_way_112 : decode cX11_way 112 = .ok (.sipush 128, 3) := by decide +kernel
theorem dX11_way_115 : decode cX11_way 115 = .ok (.idiv, 1) := by decide +kernel
theorem dX11_way_116 : decode cX11_way 116 = .ok (.bipush 7, 2) := by decide +kernel
theorem dX11_way_118 : decode cX11_way 118 = .ok (.irem, 1) := by decide +kernel
theorem dX11_way_119 : decode cX11_way 119 = .ok (.ireturn, 1) := by decide +kernel
theorem dX11_way_98 : decode cX11_way 98 = .ok (.iload 5, 2) := by decide +kernel
theorem dX11_way_100 : decode cX11_way 100 = .ok (.sipush 128, 3) := by decide +kernel
theorem dX11_way_103 : decode cX11_way 103 = .ok (.idiv, 1) := by decide +kernel
theorem dX11_way_104 : decode cX11_way 104 = .ok (.bipush 7, 2) := by decide +kernel
theorem dX11_way_106 : decode cX11_way 106 = .ok (.idiv, 1) := by decide +kernel
theorem dX11_way_107 : decode cX11_way 107 = .ok (.goto 12, 3) := by decide +kernel
theorem dX11_way_82 : decode cX11_way 82 = .ok (.aload_n 0, 1) := by decide +kernel
theorem dX11_way_83 : decode cX11_way 83 = .ok (.getfield 55, 3) := by decide +kernel
theorem dX11_way_86 : decode cX11_way 86 = .ok (.iload 5, 2) := by decide +kernel
theorem dX11_way_88 : decode cX11_way 88 = .ok (.iaload, 1) := by decide +kernel
theorem dX11_way_89 : decode cX11_way 89 = .ok (.istore 5, 2) := by decide +kernel
theorem dX11_way_91 : decode cX11_way 91 = .ok (.goto (-23), 3) := by decide +kernel
theorem dX11_pairs_0 : decode cX11_pairs 0 = .ok (.aload_n 0, 1) := by decide +kernel
theorem dX11_pairs_1 : decode cX11_pairs 1 = .ok (.getfield 9, 3) := by decide +kernel
theorem dX11_pairs_4 : decode cX11_pairs 4 = .ok (.iconst 4, 1) := by decide +kernel
theorem dX11_pairs_5 : decode cX11_pairs 5 = .ok (.iaload, 1) := by decide +kernel
theorem dX11_pairs_6 : decode cX11_pairs 6 = .ok (.ifCond .ne 6, 3) := by decide +kernel
theorem dX11_pairs_12 : decode cX11_pairs 12 = .ok (.iconst 0, 1) := by decide +kernel
theorem dX11_pairs_13 : decode cX11_pairs 13 = .ok (.istore_n 1, 1) := by decide +kernel
theorem dX11_pairs_14 : decode cX11_pairs 14 = .ok (.iconst 0, 1) := by decide +kernel
theorem dX11_pairs_15 : decode cX11_pairs 15 = .ok (.istore_n 2, 1) := by decide +kernel
theorem dX11_pairs_16 : decode cX11_pairs 16 = .ok (.iload_n 2, 1) := by decide +kernel
theorem dX11_pairs_17 : decode cX11_pairs 17 = .ok (.aload_n 0, 1) := by decide +kernel
theorem dX11_pairs_18 : decode cX11_pairs 18 = .ok (.getfield 9, 3) := by decide +kernel
theorem dX11_pairs_21 : decode cX11_pairs 21 = .ok (.iconst 4, 1) := by decide +kernel
theorem dX11_pairs_22 : decode cX11_pairs 22 = .ok (.iaload, 1) := by decide +kernel
theorem dX11_pairs_23 : decode cX11_pairs 23 = .ok (.if_icmp .ge 46, 3) := by decide +kernel
theorem dX11_pairs_69 : decode cX11_pairs 69 = .ok (.iload_n 1, 1) := by decide +kernel
theorem dX11_pairs_70 : decode cX11_pairs 70 = .ok (.ireturn, 1) := by decide +kernel
theorem dX11_pairs_26 : decode cX11_pairs 26 = .ok (.iload_n 2, 1) := by decide +kernel
theorem dX11_pairs_27 : decode cX11_pairs 27 = .ok (.istore_n 3, 1) := by decide +kernel
theorem dX11_pairs_28 : decode cX11_pairs 28 = .ok (.iload_n 3, 1) := by decide +kernel
theorem dX11_pairs_29 : decode cX11_pairs 29 = .ok (.aload_n 0, 1) := by decide +kernel
theorem dX11_pairs_30 : decode cX11_pairs 30 = .ok (.getfield 9, 3) := by decide +kernel
theorem dX11_pairs_33 : decode cX11_pairs 33 = .ok (.iconst 4, 1) := by decide +kernel
theorem dX11_pairs_34 : decode cX11_pairs 34 = .ok (.iaload, 1) := by decide +kernel
theorem dX11_pairs_35 : decode cX11_pairs 35 = .ok (.if_icmp .ge 28, 3) := by decide +kernel
theorem dX11_pairs_63 : decode cX11_pairs 63 = .ok (.iinc 2 1, 3) := by decide +kernel
theorem dX11_pairs_66 : decode cX11_pairs 66 = .ok (.goto (-50), 3) := by decide +kernel
theorem dX11_pairs_38 : decode cX11_pairs 38 = .ok (.iload_n 1, 1) := by decide +kernel
theorem dX11_pairs_39 : decode cX11_pairs 39 = .ok (.aload_n 0, 1) := by decide +kernel
theorem dX11_pairs_40 : decode cX11_pairs 40 = .ok (.iload_n 2, 1) := by decide +kernel
theorem dX11_pairs_41 : decode cX11_pairs 41 = .ok (.iload_n 3, 1) := by decide +kernel
theorem dX11_pairs_42 : decode cX11_pairs 42 = .ok (.iconst 0, 1) := by decide +kernel
theorem dX11_pairs_43 : decode cX11_pairs 43 = .ok (.invokevirtual 356, 3) := by decide +kernel
theorem dX11_pairs_46 : decode cX11_pairs 46 = .ok (.iconst (-1), 1) := by decide +kernel
theorem dX11_pairs_55 : decode cX11_pairs 55 = .ok (.iadd, 1) := by decide +kernel
theorem dX11_pairs_56 : decode cX11_pairs 56 = .ok (.istore_n 1, 1) := by decide +kernel
theorem dX11_pairs_57 : decode cX11_pairs 57 = .ok (.iinc 3 1, 3) := by decide +kernel
theorem dX11_pairs_60 : decode cX11_pairs 60 = .ok (.goto (-32), 3) := by decide +kernel
theorem dX11_pairs_47 : decode cX11_pairs 47 = .ok (.if_icmp .eq 7, 3) := by decide +kernel
theorem dX11_pairs_54 : decode cX11_pairs 54 = .ok (.iconst 0, 1) := by decide +kernel
theorem dX11_pairs_50 : decode cX11_pairs 50 = .ok (.iconst 1, 1) := by decide +kernel
theorem dX11_pairs_51 : decode cX11_pairs 51 = .ok (.goto 4, 3) := by decide +kernel
theorem dX11_pairs_9 : decode cX11_pairs 9 = .ok (.bipush (-2), 2) := by decide +kernel
theorem dX11_pairs_11 : decode cX11_pairs 11 = .ok (.ireturn, 1) := by decide +kernel
theorem dX11_saying_0 : decode cX11_saying 0 = .ok (.iconst 0, 1) := by decide +kernel
theorem dX11_saying_1 : decode cX11_saying 1 = .ok (.istore_n 3, 1) := by decide +kernel
theorem dX11_saying_2 : decode cX11_saying 2 = .ok (.iconst 0, 1) := by decide +kernel
theorem dX11_saying_3 : decode cX11_saying 3 = .ok (.istore 4, 2) := by decide +kernel
theorem dX11_saying_5 : decode cX11_saying 5 = .ok (.iload 4, 2) := by decide +kernel
theorem dX11_saying_7 : decode cX11_saying 7 = .ok (.aload_n 0, 1) := by decide +kernel
theorem dX11_saying_8 : decode cX11_saying 8 = .ok (.getfield 9, 3) := by decide +kernel
theorem dX11_saying_11 : decode cX11_saying 11 = .ok (.iconst 5, 1) := by decide +kernel
theorem dX11_saying_12 : decode cX11_saying 12 = .ok (.iaload, 1) := by decide +kernel
theorem dX11_saying_13 : decode cX11_saying 13 = .ok (.if_icmp .ge 45, 3) := by decide +kernel
theorem dX11_saying_58 : decode cX11_saying 58 = .ok (.iload_n 3, 1) := by decide +kernel
theorem dX11_saying_59 : decode cX11_saying 59 = .ok (.ireturn, 1) := by decide +kernel
theorem dX11_saying_16 : decode cX11_saying 16 = .ok (.iload_n 3, 1) := by decide +kernel
theorem dX11_saying_17 : decode cX11_saying 17 = .ok (.iload_n 1, 1) := by decide +kernel
theorem dX11_saying_18 : decode cX11_saying 18 = .ok (.iload 4, 2) := by decide +kernel
theorem dX11_saying_20 : decode cX11_saying 20 = .ok (.invokestatic 258, 3) := by decide +kernel
theorem dX11_saying_23 : decode cX11_saying 23 = .ok (.iconst 1, 1) := by decide +kernel
theorem dX11_saying_50 : decode cX11_saying 50 = .ok (.ior, 1) := by decide +kernel
theorem dX11_saying_51 : decode cX11_saying 51 = .ok (.istore_n 3, 1) := by decide +kernel
theorem dX11_saying_52 : decode cX11_saying 52 = .ok (.iinc 4 1, 3) := by decide +kernel
theorem dX11_saying_55 : decode cX11_saying 55 = .ok (.goto (-50), 3) := by decide +kernel
theorem dX11_saying_49 : decode cX11_saying 49 = .ok (.iconst 0, 1) := by decide +kernel
theorem dX11_saying_24 : decode cX11_saying 24 = .ok (.if_icmp .ne 25, 3) := by decide +kernel
theorem dX11_saying_27 : decode cX11_saying 27 = .ok (.aload_n 0, 1) := by decide +kernel
theorem dX11_saying_28 : decode cX11_saying 28 = .ok (.iload 4, 2) := by decide +kernel
theorem dX11_saying_30 : decode cX11_saying 30 = .ok (.iconst 1, 1) := by decide +kernel
theorem dX11_saying_31 : decode cX11_saying 31 = .ok (.invokevirtual 234, 3) := by decide +kernel
theorem dX11_saying_34 : decode cX11_saying 34 = .ok (.iload_n 2, 1) := by decide +kernel
theorem dX11_saying_35 : decode cX11_saying 35 = .ok (.invokestatic 258, 3) := by decide +kernel
theorem dX11_saying_38 : decode cX11_saying 38 = .ok (.iconst 1, 1) := by decide +kernel
theorem dX11_saying_39 : decode cX11_saying 39 = .ok (.if_icmp .ne 10, 3) := by decide +kernel
theorem dX11_saying_42 : decode cX11_saying 42 = .ok (.iconst 1, 1) := by decide +kernel
theorem dX11_saying_43 : decode cX11_saying 43 = .ok (.iload 4, 2) := by decide +kernel
theorem dX11_saying_45 : decode cX11_saying 45 = .ok (.ishl, 1) := by decide +kernel
theorem dX11_saying_46 : decode cX11_saying 46 = .ok (.goto 4, 3) := by decide +kernel
theorem dX11_askedBy_0 : decode cX11_askedBy 0 = .ok (.aload_n 0, 1) := by decide +kernel
theorem dX11_askedBy_1 : decode cX11_askedBy 1 = .ok (.iload_n 1, 1) := by decide +kernel
theorem dX11_askedBy_2 : decode cX11_askedBy 2 = .ok (.iload_n 2, 1) := by decide +kernel
theorem dX11_askedBy_3 : decode cX11_askedBy 3 = .ok (.invokevirtual 366, 3) := by decide +kernel
theorem dX11_askedBy_6 : decode cX11_askedBy 6 = .ok (.istore_n 3, 1) := by decide +kernel
theorem dX11_askedBy_7 : decode cX11_askedBy 7 = .ok (.iload_n 3, 1) := by decide +kernel
theorem dX11_askedBy_8 : decode cX11_askedBy 8 = .ok (.ifCond .eq 8, 3) := by decide +kernel
theorem dX11_askedBy_16 : decode cX11_askedBy 16 = .ok (.ldc_w 333, 3) := by decide +kernel
theorem dX11_askedBy_19 : decode cX11_askedBy 19 = .ok (.goto 24, 3) := by decide +kernel
theorem dX11_askedBy_43 : decode cX11_askedBy 43 = .ok (.ireturn, 1) := by decide +kernel
theorem dX11_askedBy_11 : decode cX11_askedBy 11 = .ok (.iload_n 3, 1) := by decide +kernel
theorem dX11_askedBy_12 : decode cX11_askedBy 12 = .ok (.iload_n 1, 1) := by decide +kernel
theorem dX11_askedBy_13 : decode cX11_askedBy 13 = .ok (.if_icmp .ne 9, 3) := by decide +kernel
theorem dX11_askedBy_22 : decode cX11_askedBy 22 = .ok (.iconst 1, 1) := by decide +kernel
theorem dX11_askedBy_23 : decode cX11_askedBy 23 = .ok (.aload_n 0, 1) := by decide +kernel
theorem dX11_askedBy_24 : decode cX11_askedBy 24 = .ok (.getfield 58, 3) := by decide +kernel
theorem dX11_askedBy_27 : decode cX11_askedBy 27 = .ok (.iload_n 3, 1) := by decide +kernel
theorem dX11_askedBy_28 : decode cX11_askedBy 28 = .ok (.iaload, 1) := by decide +kernel
theorem dX11_askedBy_29 : decode cX11_askedBy 29 = .ok (.aload_n 0, 1) := by decide +kernel
theorem dX11_askedBy_30 : decode cX11_askedBy 30 = .ok (.getfield 58, 3) := by decide +kernel
theorem dX11_askedBy_33 : decode cX11_askedBy 33 = .ok (.iload_n 1, 1) := by decide +kernel
theorem dX11_askedBy_34 : decode cX11_askedBy 34 = .ok (.iload_n 3, 1) := by decide +kernel
theorem dX11_askedBy_35 : decode cX11_askedBy 35 = .ok (.iconst (-1), 1) := by decide +kernel
theorem dX11_askedBy_36 : decode cX11_askedBy 36 = .ok (.ixor, 1) := by decide +kernel
theorem dX11_askedBy_37 : decode cX11_askedBy 37 = .ok (.iand, 1) := by decide +kernel
theorem dX11_askedBy_38 : decode cX11_askedBy 38 = .ok (.iaload, 1) := by decide +kernel
theorem dX11_askedBy_39 : decode cX11_askedBy 39 = .ok (.invokestatic 369, 3) := by decide +kernel
theorem dX11_askedBy_42 : decode cX11_askedBy 42 = .ok (.iadd, 1) := by decide +kernel
theorem dX11_fillAsked_0 : decode cX11_fillAsked 0 = .ok (.iconst 0, 1) := by decide +kernel
theorem dX11_fillAsked_1 : decode cX11_fillAsked 1 = .ok (.istore_n 1, 1) := by decide +kernel
theorem dX11_fillAsked_2 : decode cX11_fillAsked 2 = .ok (.iload_n 1, 1) := by decide +kernel
theorem dX11_fillAsked_3 : decode cX11_fillAsked 3 = .ok (.iconst 1, 1) := by decide +kernel
theorem dX11_fillAsked_4 : decode cX11_fillAsked 4 = .ok (.aload_n 0, 1) := by decide +kernel
theorem dX11_fillAsked_5 : decode cX11_fillAsked 5 = .ok (.getfield 9, 3) := by decide +kernel
theorem dX11_fillAsked_8 : decode cX11_fillAsked 8 = .ok (.iconst 5, 1) := by decide +kernel
theorem dX11_fillAsked_9 : decode cX11_fillAsked 9 = .ok (.iaload, 1) := by decide +kernel
theorem dX11_fillAsked_10 : decode cX11_fillAsked 10 = .ok (.ishl, 1) := by decide +kernel
theorem dX11_fillAsked_11 : decode cX11_fillAsked 11 = .ok (.if_icmp .ge 61, 3) := by decide +kernel
theorem dX11_fillAsked_72 : decode cX11_fillAsked 72 = .ok (.return_, 1) := by decide +kernel
theorem dX11_fillAsked_14 : decode cX11_fillAsked 14 = .ok (.iload_n 1, 1) := by decide +kernel
theorem dX11_fillAsked_15 : decode cX11_fillAsked 15 = .ok (.invokestatic 255, 3) := by decide +kernel
theorem dX11_fillAsked_18 : decode cX11_fillAsked 18 = .ok (.iconst 1, 1) := by decide +kernel
theorem dX11_fillAsked_29 : decode cX11_fillAsked 29 = .ok (.istore_n 2, 1) := by decide +kernel
theorem dX11_fillAsked_30 : decode cX11_fillAsked 30 = .ok (.iconst 0, 1) := by decide +kernel
theorem dX11_fillAsked_31 : decode cX11_fillAsked 31 = .ok (.istore_n 3, 1) := by decide +kernel
theorem dX11_fillAsked_32 : decode cX11_fillAsked 32 = .ok (.iload_n 3, 1) := by decide +kernel
theorem dX11_fillAsked_33 : decode cX11_fillAsked 33 = .ok (.bipush 6, 2) := by decide +kernel
theorem dX11_fillAsked_59 : decode cX11_fillAsked 59 = .ok (.aload_n 0, 1) := by decide +kernel
theorem dX11_fillAsked_60 : decode cX11_fillAsked 60 = .ok (.getfield 58, 3) := by decide +kernel
theorem dX11_fillAsked_63 : decode cX11_fillAsked 63 = .ok (.iload_n 1, 1) := by decide +kernel
theorem dX11_fillAsked_64 : decode cX11_fillAsked 64 = .ok (.iload_n 2, 1) := by decide +kernel
theorem dX11_fillAsked_65 : decode cX11_fillAsked 65 = .ok (.iastore, 1) := by decide +kernel
theorem dX11_fillAsked_66 : decode cX11_fillAsked 66 = .ok (.iinc 1 1, 3) := by decide +kernel
theorem dX11_fillAsked_69 : decode cX11_fillAsked 69 = .ok (.goto (-67), 3) := by decide +kernel
theorem dX11_fillAsked_35 : decode cX11_fillAsked 35 = .ok (.if_icmp .ge 24, 3) := by decide +kernel
theorem dX11_fillAsked_38 : decode cX11_fillAsked 38 = .ok (.iload_n 2, 1) := by decide +kernel
theorem dX11_fillAsked_39 : decode cX11_fillAsked 39 = .ok (.ifCond .le 20, 3) := by decide +kernel
theorem dX11_fillAsked_42 : decode cX11_fillAsked 42 = .ok (.iload_n 2, 1) := by decide +kernel
theorem dX11_fillAsked_43 : decode cX11_fillAsked 43 = .ok (.aload_n 0, 1) := by decide +kernel
theorem dX11_fillAsked_44 : decode cX11_fillAsked 44 = .ok (.iload_n 1, 1) := by decide +kernel
theorem dX11_fillAsked_45 : decode cX11_fillAsked 45 = .ok (.iload_n 3, 1) := by decide +kernel
theorem dX11_fillAsked_46 : decode cX11_fillAsked 46 = .ok (.invokevirtual 372, 3) := by decide +kernel
theorem dX11_fillAsked_49 : decode cX11_fillAsked 49 = .ok (.invokestatic 124, 3) := by decide +kernel
theorem dX11_fillAsked_52 : decode cX11_fillAsked 52 = .ok (.istore_n 2, 1) := by decide +kernel
theorem dX11_fillAsked_53 : decode cX11_fillAsked 53 = .ok (.iinc 3 1, 3) := by decide +kernel
theorem dX11_fillAsked_56 : decode cX11_fillAsked 56 = .ok (.goto (-24), 3) := by decide +kernel
theorem dX11_fillAsked_19 : decode cX11_fillAsked 19 = .ok (.if_icmp .gt 7, 3) := by decide +kernel
theorem dX11_fillAsked_26 : decode cX11_fillAsked 26 = .ok (.ldc_w 333, 3) := by decide +kernel
theorem dX11_fillAsked_22 : decode cX11_fillAsked 22 = .ok (.iconst 0, 1) := by decide +kernel
theorem dX11_fillAsked_23 : decode cX11_fillAsked 23 = .ok (.goto 6, 3) := by decide +kernel
theorem dX11_which_0 : decode cX11_which 0 = .ok (.aload_n 0, 1) := by decide +kernel
theorem dX11_which_1 : decode cX11_which 1 = .ok (.iload_n 1, 1) := by decide +kernel
theorem dX11_which_2 : decode cX11_which 2 = .ok (.invokevirtual 375, 3) := by decide +kernel
theorem dX11_which_5 : decode cX11_which 5 = .ok (.ifCond .ne 6, 3) := by decide +kernel
theorem dX11_which_11 : decode cX11_which 11 = .ok (.aload_n 0, 1) := by decide +kernel
theorem dX11_which_12 : decode cX11_which 12 = .ok (.invokevirtual 378, 3) := by decide +kernel
theorem dX11_which_15 : decode cX11_which 15 = .ok (.aload_n 0, 1) := by decide +kernel
theorem dX11_which_16 : decode cX11_which 16 = .ok (.getfield 58, 3) := by decide +kernel
theorem dX11_which_19 : decode cX11_which 19 = .ok (.iload_n 1, 1) := by decide +kernel
theorem dX11_which_20 : decode cX11_which 20 = .ok (.iaload, 1) := by decide +kernel
theorem dX11_which_21 : decode cX11_which 21 = .ok (.ldc_w 333, 3) := by decide +kernel
theorem dX11_which_24 : decode cX11_which 24 = .ok (.if_icmp .lt 7, 3) := by decide +kernel
theorem dX11_which_31 : decode cX11_which 31 = .ok (.aload_n 0, 1) := by decide +kernel
theorem dX11_which_32 : decode cX11_which 32 = .ok (.getfield 58, 3) := by decide +kernel
theorem dX11_which_35 : decode cX11_which 35 = .ok (.iload_n 1, 1) := by decide +kernel
theorem dX11_which_36 : decode cX11_which 36 = .ok (.iaload, 1) := by decide +kernel
theorem dX11_which_37 : decode cX11_which 37 = .ok (.ireturn, 1) := by decide +kernel
theorem dX11_which_27 : decode cX11_which 27 = .ok (.iconst (-1), 1) := by decide +kernel
theorem dX11_which_28 : decode cX11_which 28 = .ok (.goto 9, 3) := by decide +kernel
theorem dX11_which_8 : decode cX11_which 8 = .ok (.bipush (-2), 2) := by decide +kernel
theorem dX11_which_10 : decode cX11_which 10 = .ok (.ireturn, 1) := by decide +kernel
theorem dX11_question_0 : decode cX11_question 0 = .ok (.aload_n 0, 1) := by decide +kernel
theorem dX11_question_1 : decode cX11_question 1 = .ok (.iload_n 1, 1) := by decide +kernel
theorem dX11_question_2 : decode cX11_question 2 = .ok (.invokevirtual 375, 3) := by decide +kernel
theorem dX11_question_5 : decode cX11_question 5 = .ok (.ifCond .ne 6, 3) := by decide +kernel
theorem dX11_question_11 : decode cX11_question 11 = .ok (.aload_n 0, 1) := by decide +kernel
theorem dX11_question_12 : decode cX11_question 12 = .ok (.invokevirtual 378, 3) := by decide +kernel
theorem dX11_question_15 : decode cX11_question 15 = .ok (.aload_n 0, 1) := by decide +kernel
theorem dX11_question_16 : decode cX11_question 16 = .ok (.getfield 58, 3) := by decide +kernel
theorem dX11_question_19 : decode cX11_question 19 = .ok (.iload_n 1, 1) := by decide +kernel
theorem dX11_question_20 : decode cX11_question 20 = .ok (.iaload, 1) := by decide +kernel
theorem dX11_question_21 : decode cX11_question 21 = .ok (.ifCond .eq 15, 3) := by decide +kernel
theorem dX11_question_36 : decode cX11_question 36 = .ok (.iconst (-1), 1) := by decide +kernel
theorem dX11_question_37 : decode cX11_question 37 = .ok (.ireturn, 1) := by decide +kernel
theorem dX11_question_24 : decode cX11_question 24 = .ok (.aload_n 0, 1) := by decide +kernel
theorem dX11_question_25 : decode cX11_question 25 = .ok (.getfield 58, 3) := by decide +kernel
theorem dX11_question_28 : decode cX11_question 28 = .ok (.iload_n 1, 1) := by decide +kernel
theorem dX11_question_29 : decode cX11_question 29 = .ok (.iaload, 1) := by decide +kernel
theorem dX11_question_30 : decode cX11_question 30 = .ok (.ldc_w 333, 3) := by decide +kernel
theorem dX11_question_33 : decode cX11_question 33 = .ok (.if_icmp .lt 5, 3) := by decide +kernel
theorem dX11_question_38 : decode cX11_question 38 = .ok (.iconst 0, 1) := by decide +kernel
theorem dX11_question_39 : decode cX11_question 39 = .ok (.istore_n 2, 1) := by decide +kernel
theorem dX11_question_40 : decode cX11_question 40 = .ok (.aload_n 0, 1) := by decide +kernel
theorem dX11_question_41 : decode cX11_question 41 = .ok (.iload_n 1, 1) := by decide +kernel
theorem dX11_question_42 : decode cX11_question 42 = .ok (.iload_n 2, 1) := by decide +kernel
theorem dX11_question_43 : decode cX11_question 43 = .ok (.invokevirtual 372, 3) := by decide +kernel
theorem dX11_question_46 : decode cX11_question 46 = .ok (.aload_n 0, 1) := by decide +kernel
theorem dX11_question_47 : decode cX11_question 47 = .ok (.getfield 58, 3) := by decide +kernel
theorem dX11_question_50 : decode cX11_question 50 = .ok (.iload_n 1, 1) := by decide +kernel
theorem dX11_question_51 : decode cX11_question 51 = .ok (.iaload, 1) := by decide +kernel
theorem dX11_question_52 : decode cX11_question 52 = .ok (.if_icmp .eq 9, 3) := by decide +kernel
theorem dX11_question_61 : decode cX11_question 61 = .ok (.iload_n 2, 1) := by decide +kernel
theorem dX11_question_62 : decode cX11_question 62 = .ok (.ireturn, 1) := by decide +kernel
theorem dX11_question_55 : decode cX11_question 55 = .ok (.iinc 2 1, 3) := by decide +kernel
theorem dX11_question_58 : decode cX11_question 58 = .ok (.goto (-18), 3) := by decide +kernel
theorem dX11_question_8 : decode cX11_question 8 = .ok (.bipush (-2), 2) := by decide +kernel
theorem dX11_question_10 : decode cX11_question 10 = .ok (.ireturn, 1) := by decide +kernel
theorem dX11_yes_0 : decode cX11_yes 0 = .ok (.aload_n 0, 1) := by decide +kernel
theorem dX11_yes_1 : decode cX11_yes 1 = .ok (.iload_n 1, 1) := by decide +kernel
theorem dX11_yes_2 : decode cX11_yes 2 = .ok (.invokevirtual 375, 3) := by decide +kernel
theorem dX11_yes_5 : decode cX11_yes 5 = .ok (.ifCond .eq 24, 3) := by decide +kernel
theorem dX11_yes_29 : decode cX11_yes 29 = .ok (.bipush (-2), 2) := by decide +kernel
theorem dX11_yes_31 : decode cX11_yes 31 = .ok (.ireturn, 1) := by decide +kernel
theorem dX11_yes_8 : decode cX11_yes 8 = .ok (.iload_n 2, 1) := by decide +kernel
theorem dX11_yes_9 : decode cX11_yes 9 = .ok (.i2l, 1) := by decide +kernel
theorem dX11_yes_10 : decode cX11_yes 10 = .ok (.lconst 0, 1) := by decide +kernel
theorem dX11_yes_11 : decode cX11_yes 11 = .ok (.ldc2_w 325, 3) := by decide +kernel
theorem dX11_yes_14 : decode cX11_yes 14 = .ok (.invokestatic 79, 3) := by decide +kernel
theorem dX11_yes_17 : decode cX11_yes 17 = .ok (.ifCond .eq 12, 3) := by decide +kernel
theorem dX11_yes_20 : decode cX11_yes 20 = .ok (.aload_n 0, 1) := by decide +kernel
theorem dX11_yes_21 : decode cX11_yes 21 = .ok (.iload_n 1, 1) := by decide +kernel
theorem dX11_yes_22 : decode cX11_yes 22 = .ok (.iload_n 2, 1) := by decide +kernel
theorem dX11_yes_23 : decode cX11_yes 23 = .ok (.invokevirtual 366, 3) := by decide +kernel
theorem dX11_yes_26 : decode cX11_yes 26 = .ok (.goto 5, 3) := by decide +kernel
theorem dX11_tellsApart_0 : decode cX11_tellsApart 0 = .ok (.iconst 0, 1) := by decide +kernel
theorem dX11_tellsApart_1 : decode cX11_tellsApart 1 = .ok (.istore_n 3, 1) := by decide +kernel
theorem dX11_tellsApart_2 : decode cX11_tellsApart 2 = .ok (.iload_n 3, 1) := by decide +kernel
theorem dX11_tellsApart_3 : decode cX11_tellsApart 3 = .ok (.aload_n 0, 1) := by decide +kernel
theorem dX11_tellsApart_4 : decode cX11_tellsApart 4 = .ok (.getfield 9, 3) := by decide +kernel
theorem dX11_tellsApart_7 : decode cX11_tellsApart 7 = .ok (.iconst 5, 1) := by decide +kernel
theorem dX11_tellsApart_8 : decode cX11_tellsApart 8 = .ok (.iaload, 1) := by decide +kernel
theorem dX11_tellsApart_9 : decode cX11_tellsApart 9 = .ok (.if_icmp .ge 64, 3) := by decide +kernel
theorem dX11_tellsApart_73 : decode cX11_tellsApart 73 = .ok (.iconst 1, 1) := by decide +kernel
theorem dX11_tellsApart_74 : decode cX11_tellsApart 74 = .ok (.ireturn, 1) := by decide +kernel
theorem dX11_tellsApart_12 : decode cX11_tellsApart 12 = .ok (.iconst 0, 1) := by decide +kernel
theorem dX11_tellsApart_13 : decode cX11_tellsApart 13 = .ok (.istore 4, 2) := by decide +kernel
theorem dX11_tellsApart_15 : decode cX11_tellsApart 15 = .ok (.iload 4, 2) := by decide +kernel
theorem dX11_tellsApart_17 : decode cX11_tellsApart 17 = .ok (.iload_n 3, 1) := by decide +kernel
theorem dX11_tellsApart_18 : decode cX11_tellsApart 18 = .ok (.if_icmp .ge 49, 3) := by decide +kernel
theorem dX11_tellsApart_67 : decode cX11_tellsApart 67 = .ok (.iinc 3 1, 3) := by decide +kernel
theorem dX11_tellsApart_70 : decode cX11_tellsApart 70 = .ok (.goto (-68), 3) := by decide +kernel
theorem dX11_tellsApart_21 : decode cX11_tellsApart 21 = .ok (.iload_n 1, 1) := by decide +kernel
theorem dX11_tellsApart_22 : decode cX11_tellsApart 22 = .ok (.iload_n 3, 1) := by decide +kernel
theorem dX11_tellsApart_23 : decode cX11_tellsApart 23 = .ok (.invokestatic 258, 3) := by decide +kernel
theorem dX11_tellsApart_26 : decode cX11_tellsApart 26 = .ok (.iconst 1, 1) := by decide +kernel
theorem dX11_tellsApart_61 : decode cX11_tellsApart 61 = .ok (.iinc 4 1, 3) := by decide +kernel
theorem dX11_tellsApart_64 : decode cX11_tellsApart 64 = .ok (.goto (-49), 3) := by decide +kernel
theorem dX11_tellsApart_27 : decode cX11_tellsApart 27 = .ok (.if_icmp .ne 34, 3) := by decide +kernel
theorem dX11_tellsApart_30 : decode cX11_tellsApart 30 = .ok (.iload_n 1, 1) := by decide +kernel
theorem dX11_tellsApart_31 : decode cX11_tellsApart 31 = .ok (.iload 4, 2) := by decide +kernel
theorem dX11_tellsApart_33 : decode cX11_tellsApart 33 = .ok (.invokestatic 258, 3) := by decide +kernel
theorem dX11_tellsApart_36 : decode cX11_tellsApart 36 = .ok (.iconst 1, 1) := by decide +kernel
theorem dX11_tellsApart_37 : decode cX11_tellsApart 37 = .ok (.if_icmp .ne 24, 3) := by decide +kernel
theorem dX11_tellsApart_40 : decode cX11_tellsApart 40 = .ok (.aload_n 0, 1) := by decide +kernel
theorem dX11_tellsApart_41 : decode cX11_tellsApart 41 = .ok (.iload_n 3, 1) := by decide +kernel
theorem dX11_tellsApart_42 : decode cX11_tellsApart 42 = .ok (.iconst 1, 1) := by decide +kernel
theorem dX11_tellsApart_43 : decode cX11_tellsApart 43 = .ok (.invokevirtual 234, 3) := by decide +kernel
theorem dX11_tellsApart_46 : decode cX11_tellsApart 46 = .ok (.aload_n 0, 1) := by decide +kernel
theorem dX11_tellsApart_47 : decode cX11_tellsApart 47 = .ok (.iload 4, 2) := by decide +kernel
theorem dX11_tellsApart_49 : decode cX11_tellsApart 49 = .ok (.iconst 1, 1) := by decide +kernel
theorem dX11_tellsApart_50 : decode cX11_tellsApart 50 = .ok (.invokevirtual 234, 3) := by decide +kernel
theorem dX11_tellsApart_53 : decode cX11_tellsApart 53 = .ok (.ixor, 1) := by decide +kernel
theorem dX11_tellsApart_54 : decode cX11_tellsApart 54 = .ok (.iload_n 2, 1) := by decide +kernel
theorem dX11_tellsApart_55 : decode cX11_tellsApart 55 = .ok (.iand, 1) := by decide +kernel
theorem dX11_tellsApart_56 : decode cX11_tellsApart 56 = .ok (.ifCond .ne 5, 3) := by decide +kernel
theorem dX11_tellsApart_59 : decode cX11_tellsApart 59 = .ok (.iconst 0, 1) := by decide +kernel
theorem dX11_tellsApart_60 : decode cX11_tellsApart 60 = .ok (.ireturn, 1) := by decide +kernel
theorem dX11_list_0 : decode cX11_list 0 = .ok (.aload_n 0, 1) := by decide +kernel
theorem dX11_list_1 : decode cX11_list 1 = .ok (.iload_n 1, 1) := by decide +kernel
theorem dX11_list_2 : decode cX11_list 2 = .ok (.invokevirtual 375, 3) := by decide +kernel
theorem dX11_list_5 : decode cX11_list 5 = .ok (.ifCond .ne 6, 3) := by decide +kernel
theorem dX11_list_11 : decode cX11_list 11 = .ok (.iconst (-1), 1) := by decide +kernel
theorem dX11_list_12 : decode cX11_list 12 = .ok (.istore_n 2, 1) := by decide +kernel
theorem dX11_list_13 : decode cX11_list 13 = .ok (.iconst 0, 1) := by decide +kernel
theorem dX11_list_14 : decode cX11_list 14 = .ok (.istore_n 3, 1) := by decide +kernel
theorem dX11_list_15 : decode cX11_list 15 = .ok (.iload_n 3, 1) := by decide +kernel
theorem dX11_list_16 : decode cX11_list 16 = .ok (.bipush 64, 2) := by decide +kernel
theorem dX11_list_18 : decode cX11_list 18 = .ok (.if_icmp .ge 40, 3) := by decide +kernel
theorem dX11_list_58 : decode cX11_list 58 = .ok (.iload_n 2, 1) := by decide +kernel
theorem dX11_list_59 : decode cX11_list 59 = .ok (.ireturn, 1) := by decide +kernel
theorem dX11_list_21 : decode cX11_list 21 = .ok (.iload_n 2, 1) := by decide +kernel
theorem dX11_list_22 : decode cX11_list 22 = .ok (.iconst (-1), 1) := by decide +kernel
theorem dX11_list_51 : decode cX11_list 51 = .ok (.istore_n 2, 1) := by decide +kernel
theorem dX11_list_52 : decode cX11_list 52 = .ok (.iinc 3 1, 3) := by decide +kernel
theorem dX11_list_55 : decode cX11_list 55 = .ok (.goto (-40), 3) := by decide +kernel
theorem dX11_list_50 : decode cX11_list 50 = .ok (.iload_n 2, 1) := by decide +kernel
theorem dX11_list_37 : decode cX11_list 37 = .ok (.aload_n 0, 1) := by decide +kernel
theorem dX11_list_38 : decode cX11_list 38 = .ok (.iload_n 1, 1) := by decide +kernel
theorem dX11_list_39 : decode cX11_list 39 = .ok (.iload_n 3, 1) := by decide +kernel
theorem dX11_list_40 : decode cX11_list 40 = .ok (.invokevirtual 381, 3) := by decide +kernel
theorem dX11_list_43 : decode cX11_list 43 = .ok (.ifCond .eq 7, 3) := by decide +kernel
theorem dX11_list_46 : decode cX11_list 46 = .ok (.iload_n 3, 1) := by decide +kernel
theorem dX11_list_47 : decode cX11_list 47 = .ok (.goto 4, 3) := by decide +kernel
theorem dX11_list_23 : decode cX11_list 23 = .ok (.if_icmp .eq 14, 3) := by decide +kernel
theorem dX11_list_26 : decode cX11_list 26 = .ok (.iload_n 3, 1) := by decide +kernel
theorem dX11_list_27 : decode cX11_list 27 = .ok (.invokestatic 255, 3) := by decide +kernel
theorem dX11_list_30 : decode cX11_list 30 = .ok (.iload_n 2, 1) := by decide +kernel
theorem dX11_list_31 : decode cX11_list 31 = .ok (.invokestatic 255, 3) := by decide +kernel
theorem dX11_list_34 : decode cX11_list 34 = .ok (.if_icmp .ge 16, 3) := by decide +kernel
theorem dX11_list_8 : decode cX11_list 8 = .ok (.bipush (-2), 2) := by decide +kernel
theorem dX11_list_10 : decode cX11_list 10 = .ok (.ireturn, 1) := by decide +kernel
theorem dX11_divisor_0 : decode cX11_divisor 0 = .ok (.lload_n 0, 1) := by decide +kernel
theorem dX11_divisor_1 : decode cX11_divisor 1 = .ok (.lstore 4, 2) := by decide +kernel
theorem dX11_divisor_3 : decode cX11_divisor 3 = .ok (.lload_n 2, 1) := by decide +kernel
theorem dX11_divisor_4 : decode cX11_divisor 4 = .ok (.lstore 6, 2) := by decide +kernel
theorem dX11_divisor_6 : decode cX11_divisor 6 = .ok (.lload 6, 2) := by decide +kernel
theorem dX11_divisor_8 : decode cX11_divisor 8 = .ok (.lconst 0, 1) := by decide +kernel
theorem dX11_divisor_9 : decode cX11_divisor 9 = .ok (.lcmp, 1) := by decide +kernel
theorem dX11_divisor_10 : decode cX11_divisor 10 = .ok (.ifCond .eq 21, 3) := by decide +kernel
theorem dX11_divisor_31 : decode cX11_divisor 31 = .ok (.lload 4, 2) := by decide +kernel
theorem dX11_divisor_33 : decode cX11_divisor 33 = .ok (.lreturn, 1) := by decide +kernel
theorem dX11_divisor_13 : decode cX11_divisor 13 = .ok (.lload 4, 2) := by decide +kernel
theorem dX11_divisor_15 : decode cX11_divisor 15 = .ok (.lload 6, 2) := by decide +kernel
theorem dX11_divisor_17 : decode cX11_divisor 17 = .ok (.lrem, 1) := by decide +kernel
theorem dX11_divisor_18 : decode cX11_divisor 18 = .ok (.lstore 8, 2) := by decide +kernel
theorem dX11_divisor_20 : decode cX11_divisor 20 = .ok (.lload 6, 2) := by decide +kernel
theorem dX11_divisor_22 : decode cX11_divisor 22 = .ok (.lstore 4, 2) := by decide +kernel
theorem dX11_divisor_24 : decode cX11_divisor 24 = .ok (.lload 8, 2) := by decide +kernel
theorem dX11_divisor_26 : decode cX11_divisor 26 = .ok (.lstore 6, 2) := by decide +kernel
theorem dX11_divisor_28 : decode cX11_divisor 28 = .ok (.goto (-22), 3) := by decide +kernel
theorem dX11_part_0 : decode cX11_part 0 = .ok (.iload 4, 2) := by decide +kernel
theorem dX11_part_2 : decode cX11_part 2 = .ok (.ifCond .ne 7, 3) := by decide +kernel
theorem dX11_part_9 : decode cX11_part 9 = .ok (.lload_n 2, 1) := by decide +kernel
theorem dX11_part_10 : decode cX11_part 10 = .ok (.lload_n 0, 1) := by decide +kernel
theorem dX11_part_11 : decode cX11_part 11 = .ok (.lload_n 2, 1) := by decide +kernel
theorem dX11_part_12 : decode cX11_part 12 = .ok (.invokestatic 384, 3) := by decide +kernel
theorem dX11_part_15 : decode cX11_part 15 = .ok (.ldiv, 1) := by decide +kernel
theorem dX11_part_16 : decode cX11_part 16 = .ok (.lreturn, 1) := by decide +kernel
theorem dX11_part_5 : decode cX11_part 5 = .ok (.lload_n 0, 1) := by decide +kernel
theorem dX11_part_6 : decode cX11_part 6 = .ok (.goto 4, 3) := by decide +kernel
theorem dX11_meant_0 : decode cX11_meant 0 = .ok (.aload_n 0, 1) := by decide +kernel
theorem dX11_meant_1 : decode cX11_meant 1 = .ok (.iload_n 1, 1) := by decide +kernel
theorem dX11_meant_2 : decode cX11_meant 2 = .ok (.invokevirtual 375, 3) := by decide +kernel
theorem dX11_meant_5 : decode cX11_meant 5 = .ok (.ifCond .eq 21, 3) := by decide +kernel
theorem dX11_meant_26 : decode cX11_meant 26 = .ok (.bipush (-2), 2) := by decide +kernel
theorem dX11_meant_28 : decode cX11_meant 28 = .ok (.ireturn, 1) := by decide +kernel
theorem dX11_meant_8 : decode cX11_meant 8 = .ok (.aload_n 0, 1) := by decide +kernel
theorem dX11_meant_9 : decode cX11_meant 9 = .ok (.iload_n 2, 1) := by decide +kernel
theorem dX11_meant_10 : decode cX11_meant 10 = .ok (.invokevirtual 230, 3) := by decide +kernel
theorem dX11_meant_13 : decode cX11_meant 13 = .ok (.ifCond .eq 13, 3) := by decide +kernel
theorem dX11_meant_16 : decode cX11_meant 16 = .ok (.iload_n 3, 1) := by decide +kernel
theorem dX11_meant_17 : decode cX11_meant 17 = .ok (.i2l, 1) := by decide +kernel
theorem dX11_meant_18 : decode cX11_meant 18 = .ok (.lconst 0, 1) := by decide +kernel
theorem dX11_meant_19 : decode cX11_meant 19 = .ok (.lconst 1, 1) := by decide +kernel
theorem dX11_meant_20 : decode cX11_meant 20 = .ok (.invokestatic 79, 3) := by decide +kernel
theorem dX11_meant_23 : decode cX11_meant 23 = .ok (.ifCond .ne 6, 3) := by decide +kernel
theorem dX11_meant_29 : decode cX11_meant 29 = .ok (.iconst 0, 1) := by decide +kernel
theorem dX11_meant_30 : decode cX11_meant 30 = .ok (.istore 4, 2) := by decide +kernel
theorem dX11_meant_32 : decode cX11_meant 32 = .ok (.iconst 0, 1) := by decide +kernel
theorem dX11_meant_33 : decode cX11_meant 33 = .ok (.istore 5, 2) := by decide +kernel
theorem dX11_meant_35 : decode cX11_meant 35 = .ok (.iload 5, 2) := by decide +kernel
theorem dX11_meant_37 : decode cX11_meant 37 = .ok (.aload_n 0, 1) := by decide +kernel
theorem dX11_meant_38 : decode cX11_meant 38 = .ok (.getfield 9, 3) := by decide +kernel
theorem dX11_meant_41 : decode cX11_meant 41 = .ok (.iconst 5, 1) := by decide +kernel
theorem dX11_meant_42 : decode cX11_meant 42 = .ok (.iaload, 1) := by decide +kernel
theorem dX11_meant_43 : decode cX11_meant 43 = .ok (.if_icmp .ge 28, 3) := by decide +kernel
theorem dX11_meant_71 : decode cX11_meant 71 = .ok (.iload_n 1, 1) := by decide +kernel
theorem dX11_meant_72 : decode cX11_meant 72 = .ok (.iload_n 2, 1) := by decide +kernel
theorem dX11_meant_73 : decode cX11_meant 73 = .ok (.invokestatic 258, 3) := by decide +kernel
theorem dX11_meant_76 : decode cX11_meant 76 = .ok (.aload_n 0, 1) := by decide +kernel
theorem dX11_meant_77 : decode cX11_meant 77 = .ok (.iload_n 2, 1) := by decide +kernel
theorem dX11_meant_78 : decode cX11_meant 78 = .ok (.iconst 0, 1) := by decide +kernel
theorem dX11_meant_79 : decode cX11_meant 79 = .ok (.invokevirtual 234, 3) := by decide +kernel
theorem dX11_meant_82 : decode cX11_meant 82 = .ok (.imul, 1) := by decide +kernel
theorem dX11_meant_83 : decode cX11_meant 83 = .ok (.i2l, 1) := by decide +kernel
theorem dX11_meant_84 : decode cX11_meant 84 = .ok (.iload 4, 2) := by decide +kernel
theorem dX11_meant_86 : decode cX11_meant 86 = .ok (.i2l, 1) := by decide +kernel
theorem dX11_meant_87 : decode cX11_meant 87 = .ok (.iload_n 3, 1) := by decide +kernel
theorem dX11_meant_88 : decode cX11_meant 88 = .ok (.invokestatic 388, 3) := by decide +kernel
theorem dX11_meant_91 : decode cX11_meant 91 = .ok (.l2i, 1) := by decide +kernel
theorem dX11_meant_92 : decode cX11_meant 92 = .ok (.ireturn, 1) := by decide +kernel
theorem dX11_meant_46 : decode cX11_meant 46 = .ok (.iload 4, 2) := by decide +kernel
theorem dX11_meant_48 : decode cX11_meant 48 = .ok (.iload_n 1, 1) := by decide +kernel
theorem dX11_meant_49 : decode cX11_meant 49 = .ok (.iload 5, 2) := by decide +kernel
theorem dX11_meant_51 : decode cX11_meant 51 = .ok (.invokestatic 258, 3) := by decide +kernel
theorem dX11_meant_54 : decode cX11_meant 54 = .ok (.aload_n 0, 1) := by decide +kernel
theorem dX11_meant_55 : decode cX11_meant 55 = .ok (.iload 5, 2) := by decide +kernel
theorem dX11_meant_57 : decode cX11_meant 57 = .ok (.iconst 0, 1) := by decide +kernel
theorem dX11_meant_58 : decode cX11_meant 58 = .ok (.invokevirtual 234, 3) := by decide +kernel
theorem dX11_meant_61 : decode cX11_meant 61 = .ok (.imul, 1) := by decide +kernel
theorem dX11_meant_62 : decode cX11_meant 62 = .ok (.iadd, 1) := by decide +kernel
theorem dX11_meant_63 : decode cX11_meant 63 = .ok (.istore 4, 2) := by decide +kernel
theorem dX11_meant_65 : decode cX11_meant 65 = .ok (.iinc 5 1, 3) := by decide +kernel
theorem dX11_meant_68 : decode cX11_meant 68 = .ok (.goto (-33), 3) := by decide +kernel
theorem dX11_slateAll_0 : decode cX11_slateAll 0 = .ok (.lconst 0, 1) := by decide +kernel
theorem dX11_slateAll_1 : decode cX11_slateAll 1 = .ok (.lstore_n 2, 1) := by decide +kernel
theorem dX11_slateAll_2 : decode cX11_slateAll 2 = .ok (.iconst 0, 1) := by decide +kernel
theorem dX11_slateAll_3 : decode cX11_slateAll 3 = .ok (.istore 4, 2) := by decide +kernel
theorem dX11_slateAll_5 : decode cX11_slateAll 5 = .ok (.iload 4, 2) := by decide +kernel
theorem dX11_slateAll_7 : decode cX11_slateAll 7 = .ok (.aload_n 0, 1) := by decide +kernel
theorem dX11_slateAll_8 : decode cX11_slateAll 8 = .ok (.getfield 9, 3) := by decide +kernel
theorem dX11_slateAll_11 : decode cX11_slateAll 11 = .ok (.iconst 5, 1) := by decide +kernel
theorem dX11_slateAll_12 : decode cX11_slateAll 12 = .ok (.iaload, 1) := by decide +kernel
theorem dX11_slateAll_13 : decode cX11_slateAll 13 = .ok (.if_icmp .ge 22, 3) := by decide +kernel
theorem dX11_slateAll_35 : decode cX11_slateAll 35 = .ok (.lload_n 2, 1) := by decide +kernel
theorem dX11_slateAll_36 : decode cX11_slateAll 36 = .ok (.lconst 0, 1) := by decide +kernel
theorem dX11_slateAll_37 : decode cX11_slateAll 37 = .ok (.lcmp, 1) := by decide +kernel
theorem dX11_slateAll_38 : decode cX11_slateAll 38 = .ok (.ifCond .ne 7, 3) := by decide +kernel
theorem dX11_slateAll_45 : decode cX11_slateAll 45 = .ok (.lload_n 2, 1) := by decide +kernel
theorem dX11_slateAll_46 : decode cX11_slateAll 46 = .ok (.lreturn, 1) := by decide +kernel
theorem dX11_slateAll_41 : decode cX11_slateAll 41 = .ok (.lconst 1, 1) := by decide +kernel
theorem dX11_slateAll_42 : decode cX11_slateAll 42 = .ok (.goto 4, 3) := by decide +kernel
theorem dX11_slateAll_16 : decode cX11_slateAll 16 = .ok (.lload_n 2, 1) := by decide +kernel
theorem dX11_slateAll_17 : decode cX11_slateAll 17 = .ok (.aload_n 0, 1) := by decide +kernel
theorem dX11_slateAll_18 : decode cX11_slateAll 18 = .ok (.iload_n 1, 1) := by decide +kernel
theorem dX11_slateAll_19 : decode cX11_slateAll 19 = .ok (.iconst 2, 1) := by decide +kernel
theorem dX11_slateAll_20 : decode cX11_slateAll 20 = .ok (.iload 4, 2) := by decide +kernel
theorem dX11_slateAll_22 : decode cX11_slateAll 22 = .ok (.iadd, 1) := by decide +kernel
theorem dX11_slateAll_23 : decode cX11_slateAll 23 = .ok (.invokevirtual 234, 3) := by decide +kernel
theorem dX11_slateAll_26 : decode cX11_slateAll 26 = .ok (.i2l, 1) := by decide +kernel
theorem dX11_slateAll_27 : decode cX11_slateAll 27 = .ok (.ladd, 1) := by decide +kernel
theorem dX11_slateAll_28 : decode cX11_slateAll 28 = .ok (.lstore_n 2, 1) := by decide +kernel
theorem dX11_slateAll_29 : decode cX11_slateAll 29 = .ok (.iinc 4 1, 3) := by decide +kernel
theorem dX11_slateAll_32 : decode cX11_slateAll 32 = .ok (.goto (-27), 3) := by decide +kernel
theorem dX11_slateOf_0 : decode cX11_slateOf 0 = .ok (.lconst 0, 1) := by decide +kernel
theorem dX11_slateOf_1 : decode cX11_slateOf 1 = .ok (.lstore_n 3, 1) := by decide +kernel
theorem dX11_slateOf_2 : decode cX11_slateOf 2 = .ok (.iconst 0, 1) := by decide +kernel
theorem dX11_slateOf_3 : decode cX11_slateOf 3 = .ok (.istore 5, 2) := by decide +kernel
theorem dX11_slateOf_5 : decode cX11_slateOf 5 = .ok (.iload 5, 2) := by decide +kernel
theorem dX11_slateOf_7 : decode cX11_slateOf 7 = .ok (.aload_n 0, 1) := by decide +kernel
theorem dX11_slateOf_8 : decode cX11_slateOf 8 = .ok (.getfield 9, 3) := by decide +kernel
theorem dX11_slateOf_11 : decode cX11_slateOf 11 = .ok (.iconst 5, 1) := by decide +kernel
theorem dX11_slateOf_12 : decode cX11_slateOf 12 = .ok (.iaload, 1) := by decide +kernel
theorem dX11_slateOf_13 : decode cX11_slateOf 13 = .ok (.if_icmp .ge 22, 3) := by decide +kernel
theorem dX11_slateOf_35 : decode cX11_slateOf 35 = .ok (.lload_n 3, 1) := by decide +kernel
theorem dX11_slateOf_36 : decode cX11_slateOf 36 = .ok (.lconst 0, 1) := by decide +kernel
theorem dX11_slateOf_37 : decode cX11_slateOf 37 = .ok (.lcmp, 1) := by decide +kernel
theorem dX11_slateOf_38 : decode cX11_slateOf 38 = .ok (.ifCond .ne 16, 3) := by decide +kernel
theorem dX11_slateOf_54 : decode cX11_slateOf 54 = .ok (.aload_n 0, 1) := by decide +kernel
theorem dX11_slateOf_55 : decode cX11_slateOf 55 = .ok (.iload_n 1, 1) := by decide +kernel
theorem dX11_slateOf_56 : decode cX11_slateOf 56 = .ok (.iconst 2, 1) := by decide +kernel
theorem dX11_slateOf_57 : decode cX11_slateOf 57 = .ok (.iload_n 2, 1) := by decide +kernel
theorem dX11_slateOf_58 : decode cX11_slateOf 58 = .ok (.iadd, 1) := by decide +kernel
theorem dX11_slateOf_59 : decode cX11_slateOf 59 = .ok (.invokevirtual 234, 3) := by decide +kernel
theorem dX11_slateOf_62 : decode cX11_slateOf 62 = .ok (.i2l, 1) := by decide +kernel
theorem dX11_slateOf_63 : decode cX11_slateOf 63 = .ok (.lreturn, 1) := by decide +kernel
theorem dX11_slateOf_41 : decode cX11_slateOf 41 = .ok (.iload_n 1, 1) := by decide +kernel
theorem dX11_slateOf_42 : decode cX11_slateOf 42 = .ok (.iload_n 2, 1) := by decide +kernel
theorem dX11_slateOf_43 : decode cX11_slateOf 43 = .ok (.if_icmp .ne 7, 3) := by decide +kernel
theorem dX11_slateOf_50 : decode cX11_slateOf 50 = .ok (.lconst 0, 1) := by decide +kernel
theorem dX11_slateOf_51 : decode cX11_slateOf 51 = .ok (.goto 12, 3) := by decide +kernel
theorem dX11_slateOf_46 : decode cX11_slateOf 46 = .ok (.lconst 1, 1) := by decide +kernel
theorem dX11_slateOf_47 : decode cX11_slateOf 47 = .ok (.goto 16, 3) := by decide +kernel
theorem dX11_slateOf_16 : decode cX11_slateOf 16 = .ok (.lload_n 3, 1) := by decide +kernel
theorem dX11_slateOf_17 : decode cX11_slateOf 17 = .ok (.aload_n 0, 1) := by decide +kernel
theorem dX11_slateOf_18 : decode cX11_slateOf 18 = .ok (.iload_n 1, 1) := by decide +kernel
theorem dX11_slateOf_19 : decode cX11_slateOf 19 = .ok (.iconst 2, 1) := by decide +kernel
theorem dX11_slateOf_20 : decode cX11_slateOf 20 = .ok (.iload 5, 2) := by decide +kernel
theorem dX11_slateOf_22 : decode cX11_slateOf 22 = .ok (.iadd, 1) := by decide +kernel
theorem dX11_slateOf_23 : decode cX11_slateOf 23 = .ok (.invokevirtual 234, 3) := by decide +kernel
theorem dX11_slateOf_26 : decode cX11_slateOf 26 = .ok (.i2l, 1) := by decide +kernel
theorem dX11_slateOf_27 : decode cX11_slateOf 27 = .ok (.ladd, 1) := by decide +kernel
theorem dX11_slateOf_28 : decode cX11_slateOf 28 = .ok (.lstore_n 3, 1) := by decide +kernel
theorem dX11_slateOf_29 : decode cX11_slateOf 29 = .ok (.iinc 5 1, 3) := by decide +kernel
theorem dX11_slateOf_32 : decode cX11_slateOf 32 = .ok (.goto (-27), 3) := by decide +kernel
theorem dX11_likelyRead_0 : decode cX11_likelyRead 0 = .ok (.aload_n 0, 1) := by decide +kernel
theorem dX11_likelyRead_1 : decode cX11_likelyRead 1 = .ok (.iload_n 1, 1) := by decide +kernel
theorem dX11_likelyRead_2 : decode cX11_likelyRead 2 = .ok (.iconst 0, 1) := by decide +kernel
theorem dX11_likelyRead_3 : decode cX11_likelyRead 3 = .ok (.invokevirtual 234, 3) := by decide +kernel
theorem dX11_likelyRead_6 : decode cX11_likelyRead 6 = .ok (.i2l, 1) := by decide +kernel
theorem dX11_likelyRead_7 : decode cX11_likelyRead 7 = .ok (.aload_n 0, 1) := by decide +kernel
theorem dX11_likelyRead_8 : decode cX11_likelyRead 8 = .ok (.iload_n 1, 1) := by decide +kernel
theorem dX11_likelyRead_9 : decode cX11_likelyRead 9 = .ok (.iload_n 2, 1) := by decide +kernel
theorem dX11_likelyRead_10 : decode cX11_likelyRead 10 = .ok (.invokevirtual 391, 3) := by decide +kernel
theorem dX11_likelyRead_13 : decode cX11_likelyRead 13 = .ok (.lmul, 1) := by decide +kernel
theorem dX11_likelyRead_14 : decode cX11_likelyRead 14 = .ok (.lstore_n 3, 1) := by decide +kernel
theorem dX11_likelyRead_15 : decode cX11_likelyRead 15 = .ok (.iconst 0, 1) := by decide +kernel
theorem dX11_likelyRead_16 : decode cX11_likelyRead 16 = .ok (.istore 5, 2) := by decide +kernel
theorem dX11_likelyRead_18 : decode cX11_likelyRead 18 = .ok (.iload 5, 2) := by decide +kernel
theorem dX11_likelyRead_20 : decode cX11_likelyRead 20 = .ok (.aload_n 0, 1) := by decide +kernel
theorem dX11_likelyRead_21 : decode cX11_likelyRead 21 = .ok (.getfield 9, 3) := by decide +kernel
theorem dX11_likelyRead_24 : decode cX11_likelyRead 24 = .ok (.iconst 5, 1) := by decide +kernel
theorem dX11_likelyRead_25 : decode cX11_likelyRead 25 = .ok (.iaload, 1) := by decide +kernel
theorem dX11_likelyRead_26 : decode cX11_likelyRead 26 = .ok (.if_icmp .ge 28, 3) := by decide +kernel
theorem dX11_likelyRead_54 : decode cX11_likelyRead 54 = .ok (.lload_n 3, 1) := by decide +kernel
theorem dX11_likelyRead_55 : decode cX11_likelyRead 55 = .ok (.lreturn, 1) := by decide +kernel
theorem dX11_likelyRead_29 : decode cX11_likelyRead 29 = .ok (.lload_n 3, 1) := by decide +kernel
theorem dX11_likelyRead_30 : decode cX11_likelyRead 30 = .ok (.iload 5, 2) := by decide +kernel
theorem dX11_likelyRead_32 : decode cX11_likelyRead 32 = .ok (.iload_n 1, 1) := by decide +kernel
theorem dX11_likelyRead_46 : decode cX11_likelyRead 46 = .ok (.lmul, 1) := by decide +kernel
theorem dX11_likelyRead_47 : decode cX11_likelyRead 47 = .ok (.lstore_n 3, 1) := by decide +kernel
theorem dX11_likelyRead_48 : decode cX11_likelyRead 48 = .ok (.iinc 5 1, 3) := by decide +kernel
theorem dX11_likelyRead_51 : decode cX11_likelyRead 51 = .ok (.goto (-33), 3) := by decide +kernel
theorem dX11_likelyRead_33 : decode cX11_likelyRead 33 = .ok (.if_icmp .ne 7, 3) := by decide +kernel
theorem dX11_likelyRead_40 : decode cX11_likelyRead 40 = .ok (.aload_n 0, 1) := by decide +kernel
theorem dX11_likelyRead_41 : decode cX11_likelyRead 41 = .ok (.iload 5, 2) := by decide +kernel
theorem dX11_likelyRead_43 : decode cX11_likelyRead 43 = .ok (.invokevirtual 394, 3) := by decide +kernel
theorem dX11_likelyRead_36 : decode cX11_likelyRead 36 = .ok (.lconst 1, 1) := by decide +kernel
theorem dX11_likelyRead_37 : decode cX11_likelyRead 37 = .ok (.goto 9, 3) := by decide +kernel
theorem dX11_allRead_0 : decode cX11_allRead 0 = .ok (.lconst 0, 1) := by decide +kernel
theorem dX11_allRead_1 : decode cX11_allRead 1 = .ok (.lstore_n 2, 1) := by decide +kernel
theorem dX11_allRead_2 : decode cX11_allRead 2 = .ok (.iconst 0, 1) := by decide +kernel
theorem dX11_allRead_3 : decode cX11_allRead 3 = .ok (.istore 4, 2) := by decide +kernel
theorem dX11_allRead_5 : decode cX11_allRead 5 = .ok (.iload 4, 2) := by decide +kernel
theorem dX11_allRead_7 : decode cX11_allRead 7 = .ok (.aload_n 0, 1) := by decide +kernel
theorem dX11_allRead_8 : decode cX11_allRead 8 = .ok (.getfield 9, 3) := by decide +kernel
theorem dX11_allRead_11 : decode cX11_allRead 11 = .ok (.iconst 5, 1) := by decide +kernel
theorem dX11_allRead_12 : decode cX11_allRead 12 = .ok (.iaload, 1) := by decide +kernel
theorem dX11_allRead_13 : decode cX11_allRead 13 = .ok (.if_icmp .ge 19, 3) := by decide +kernel
theorem dX11_allRead_32 : decode cX11_allRead 32 = .ok (.lload_n 2, 1) := by decide +kernel
theorem dX11_allRead_33 : decode cX11_allRead 33 = .ok (.lreturn, 1) := by decide +kernel
theorem dX11_allRead_16 : decode cX11_allRead 16 = .ok (.lload_n 2, 1) := by decide +kernel
theorem dX11_allRead_17 : decode cX11_allRead 17 = .ok (.aload_n 0, 1) := by decide +kernel
theorem dX11_allRead_18 : decode cX11_allRead 18 = .ok (.iload 4, 2) := by decide +kernel
theorem dX11_allRead_20 : decode cX11_allRead 20 = .ok (.iload_n 1, 1) := by decide +kernel
theorem dX11_allRead_21 : decode cX11_allRead 21 = .ok (.invokevirtual 398, 3) := by decide +kernel
theorem dX11_allRead_24 : decode cX11_allRead 24 = .ok (.ladd, 1) := by decide +kernel
theorem dX11_allRead_25 : decode cX11_allRead 25 = .ok (.lstore_n 2, 1) := by decide +kernel
theorem dX11_allRead_26 : decode cX11_allRead 26 = .ok (.iinc 4 1, 3) := by decide +kernel
theorem dX11_allRead_29 : decode cX11_allRead 29 = .ok (.goto (-24), 3) := by decide +kernel
theorem dX11_read_0 : decode cX11_read 0 = .ok (.aload_n 0, 1) := by decide +kernel
theorem dX11_read_1 : decode cX11_read 1 = .ok (.iload_n 1, 1) := by decide +kernel
theorem dX11_read_2 : decode cX11_read 2 = .ok (.invokevirtual 230, 3) := by decide +kernel
theorem dX11_read_5 : decode cX11_read 5 = .ok (.ifCond .eq 21, 3) := by decide +kernel
theorem dX11_read_26 : decode cX11_read 26 = .ok (.ldc2_w 401, 3) := by decide +kernel
theorem dX11_read_29 : decode cX11_read 29 = .ok (.lreturn, 1) := by decide +kernel
theorem dX11_read_8 : decode cX11_read 8 = .ok (.aload_n 0, 1) := by decide +kernel
theorem dX11_read_9 : decode cX11_read 9 = .ok (.iload_n 2, 1) := by decide +kernel
theorem dX11_read_10 : decode cX11_read 10 = .ok (.invokevirtual 230, 3) := by decide +kernel
theorem dX11_read_13 : decode cX11_read 13 = .ok (.ifCond .eq 13, 3) := by decide +kernel
theorem dX11_read_16 : decode cX11_read 16 = .ok (.iload_n 3, 1) := by decide +kernel
theorem dX11_read_17 : decode cX11_read 17 = .ok (.i2l, 1) := by decide +kernel
theorem dX11_read_18 : decode cX11_read 18 = .ok (.lconst 0, 1) := by decide +kernel
theorem dX11_read_19 : decode cX11_read 19 = .ok (.lconst 1, 1) := by decide +kernel
theorem dX11_read_20 : decode cX11_read 20 = .ok (.invokestatic 79, 3) := by decide +kernel
theorem dX11_read_23 : decode cX11_read 23 = .ok (.ifCond .ne 7, 3) := by decide +kernel
theorem dX11_read_30 : decode cX11_read 30 = .ok (.aload_n 0, 1) := by decide +kernel
theorem dX11_read_31 : decode cX11_read 31 = .ok (.iload_n 2, 1) := by decide +kernel
theorem dX11_read_32 : decode cX11_read 32 = .ok (.invokevirtual 403, 3) := by decide +kernel
theorem dX11_read_35 : decode cX11_read 35 = .ok (.lconst 0, 1) := by decide +kernel
theorem dX11_read_36 : decode cX11_read 36 = .ok (.lcmp, 1) := by decide +kernel
theorem dX11_read_37 : decode cX11_read 37 = .ok (.ifCond .ne 8, 3) := by decide +kernel
theorem dX11_read_45 : decode cX11_read 45 = .ok (.aload_n 0, 1) := by decide +kernel
theorem dX11_read_46 : decode cX11_read 46 = .ok (.iload_n 1, 1) := by decide +kernel
theorem dX11_read_47 : decode cX11_read 47 = .ok (.iload_n 2, 1) := by decide +kernel
theorem dX11_read_48 : decode cX11_read 48 = .ok (.invokevirtual 398, 3) := by decide +kernel
theorem dX11_read_51 : decode cX11_read 51 = .ok (.aload_n 0, 1) := by decide +kernel
theorem dX11_read_52 : decode cX11_read 52 = .ok (.iload_n 2, 1) := by decide +kernel
theorem dX11_read_53 : decode cX11_read 53 = .ok (.invokevirtual 403, 3) := by decide +kernel
theorem dX11_read_56 : decode cX11_read 56 = .ok (.iload_n 3, 1) := by decide +kernel
theorem dX11_read_57 : decode cX11_read 57 = .ok (.invokestatic 388, 3) := by decide +kernel
theorem dX11_read_60 : decode cX11_read 60 = .ok (.lreturn, 1) := by decide +kernel
theorem dX11_read_40 : decode cX11_read 40 = .ok (.iload_n 3, 1) := by decide +kernel
theorem dX11_read_41 : decode cX11_read 41 = .ok (.i2l, 1) := by decide +kernel
theorem dX11_read_42 : decode cX11_read 42 = .ok (.goto 18, 3) := by decide +kernel
theorem dX11_guess_0 : decode cX11_guess 0 = .ok (.aload_n 0, 1) := by decide +kernel
theorem dX11_guess_1 : decode cX11_guess 1 = .ok (.iload_n 1, 1) := by decide +kernel
theorem dX11_guess_2 : decode cX11_guess 2 = .ok (.invokevirtual 230, 3) := by decide +kernel
theorem dX11_guess_5 : decode cX11_guess 5 = .ok (.ifCond .ne 6, 3) := by decide +kernel
theorem dX11_guess_11 : decode cX11_guess 11 = .ok (.aload_n 0, 1) := by decide +kernel
theorem dX11_guess_12 : decode cX11_guess 12 = .ok (.iload_n 1, 1) := by decide +kernel
theorem dX11_guess_13 : decode cX11_guess 13 = .ok (.invokevirtual 403, 3) := by decide +kernel
theorem dX11_guess_16 : decode cX11_guess 16 = .ok (.lconst 0, 1) := by decide +kernel
theorem dX11_guess_17 : decode cX11_guess 17 = .ok (.lcmp, 1) := by decide +kernel
theorem dX11_guess_18 : decode cX11_guess 18 = .ok (.ifCond .ne 5, 3) := by decide +kernel
theorem dX11_guess_23 : decode cX11_guess 23 = .ok (.iconst 0, 1) := by decide +kernel
theorem dX11_guess_24 : decode cX11_guess 24 = .ok (.istore_n 2, 1) := by decide +kernel
theorem dX11_guess_25 : decode cX11_guess 25 = .ok (.iconst 1, 1) := by decide +kernel
theorem dX11_guess_26 : decode cX11_guess 26 = .ok (.istore_n 3, 1) := by decide +kernel
theorem dX11_guess_27 : decode cX11_guess 27 = .ok (.iload_n 3, 1) := by decide +kernel
theorem dX11_guess_28 : decode cX11_guess 28 = .ok (.aload_n 0, 1) := by decide +kernel
theorem dX11_guess_29 : decode cX11_guess 29 = .ok (.getfield 9, 3) := by decide +kernel
theorem dX11_guess_32 : decode cX11_guess 32 = .ok (.iconst 5, 1) := by decide +kernel
theorem dX11_guess_33 : decode cX11_guess 33 = .ok (.iaload, 1) := by decide +kernel
theorem dX11_guess_34 : decode cX11_guess 34 = .ok (.if_icmp .ge 31, 3) := by decide +kernel
theorem dX11_guess_65 : decode cX11_guess 65 = .ok (.iload_n 2, 1) := by decide +kernel
theorem dX11_guess_66 : decode cX11_guess 66 = .ok (.ireturn, 1) := by decide +kernel
theorem dX11_guess_37 : decode cX11_guess 37 = .ok (.aload_n 0, 1) := by decide +kernel
theorem dX11_guess_38 : decode cX11_guess 38 = .ok (.iload_n 3, 1) := by decide +kernel
theorem dX11_guess_39 : decode cX11_guess 39 = .ok (.iload_n 1, 1) := by decide +kernel
theorem dX11_guess_40 : decode cX11_guess 40 = .ok (.invokevirtual 398, 3) := by decide +kernel
theorem dX11_guess_43 : decode cX11_guess 43 = .ok (.aload_n 0, 1) := by decide +kernel
theorem dX11_guess_44 : decode cX11_guess 44 = .ok (.iload_n 2, 1) := by decide +kernel
theorem dX11_guess_45 : decode cX11_guess 45 = .ok (.iload_n 1, 1) := by decide +kernel
theorem dX11_guess_46 : decode cX11_guess 46 = .ok (.invokevirtual 398, 3) := by decide +kernel
theorem dX11_guess_49 : decode cX11_guess 49 = .ok (.lcmp, 1) := by decide +kernel
theorem dX11_guess_58 : decode cX11_guess 58 = .ok (.istore_n 2, 1) := by decide +kernel
theorem dX11_guess_59 : decode cX11_guess 59 = .ok (.iinc 3 1, 3) := by decide +kernel
theorem dX11_guess_62 : decode cX11_guess 62 = .ok (.goto (-35), 3) := by decide +kernel
theorem dX11_guess_50 : decode cX11_guess 50 = .ok (.ifCond .le 7, 3) := by decide +kernel
theorem dX11_guess_57 : decode cX11_guess 57 = .ok (.iload_n 2, 1) := by decide +kernel
theorem dX11_guess_53 : decode cX11_guess 53 = .ok (.iload_n 3, 1) := by decide +kernel
theorem dX11_guess_54 : decode cX11_guess 54 = .ok (.goto 4, 3) := by decide +kernel
theorem dX11_guess_21 : decode cX11_guess 21 = .ok (.iconst (-1), 1) := by decide +kernel
theorem dX11_guess_22 : decode cX11_guess 22 = .ok (.ireturn, 1) := by decide +kernel
theorem dX11_guess_8 : decode cX11_guess 8 = .ok (.bipush (-2), 2) := by decide +kernel
theorem dX11_guess_10 : decode cX11_guess 10 = .ok (.ireturn, 1) := by decide +kernel
theorem dX11_right_0 : decode cX11_right 0 = .ok (.aload_n 0, 1) := by decide +kernel
theorem dX11_right_1 : decode cX11_right 1 = .ok (.getfield 9, 3) := by decide +kernel
theorem dX11_right_4 : decode cX11_right 4 = .ok (.iconst 5, 1) := by decide +kernel
theorem dX11_right_5 : decode cX11_right 5 = .ok (.iaload, 1) := by decide +kernel
theorem dX11_right_6 : decode cX11_right 6 = .ok (.ifCond .eq 13, 3) := by decide +kernel
theorem dX11_right_19 : decode cX11_right 19 = .ok (.ldc2_w 401, 3) := by decide +kernel
theorem dX11_right_22 : decode cX11_right 22 = .ok (.lreturn, 1) := by decide +kernel
theorem dX11_right_9 : decode cX11_right 9 = .ok (.iload_n 1, 1) := by decide +kernel
theorem dX11_right_10 : decode cX11_right 10 = .ok (.i2l, 1) := by decide +kernel
theorem dX11_right_11 : decode cX11_right 11 = .ok (.lconst 0, 1) := by decide +kernel
theorem dX11_right_12 : decode cX11_right 12 = .ok (.lconst 1, 1) := by decide +kernel
theorem dX11_right_13 : decode cX11_right 13 = .ok (.invokestatic 79, 3) := by decide +kernel
theorem dX11_right_16 : decode cX11_right 16 = .ok (.ifCond .ne 7, 3) := by decide +kernel
theorem dX11_right_23 : decode cX11_right 23 = .ok (.lconst 0, 1) := by decide +kernel
theorem dX11_right_24 : decode cX11_right 24 = .ok (.lstore_n 2, 1) := by decide +kernel
theorem dX11_right_25 : decode cX11_right 25 = .ok (.lconst 0, 1) := by decide +kernel
theorem dX11_right_26 : decode cX11_right 26 = .ok (.lstore 4, 2) := by decide +kernel
theorem dX11_right_28 : decode cX11_right 28 = .ok (.iconst 0, 1) := by decide +kernel
theorem dX11_right_29 : decode cX11_right 29 = .ok (.istore 6, 2) := by decide +kernel
theorem dX11_right_31 : decode cX11_right 31 = .ok (.iload 6, 2) := by decide +kernel
theorem dX11_right_33 : decode cX11_right 33 = .ok (.aload_n 0, 1) := by decide +kernel
theorem dX11_right_34 : decode cX11_right 34 = .ok (.getfield 9, 3) := by decide +kernel
theorem dX11_right_37 : decode cX11_right 37 = .ok (.iconst 5, 1) := by decide +kernel
theorem dX11_right_38 : decode cX11_right 38 = .ok (.iaload, 1) := by decide +kernel
theorem dX11_right_39 : decode cX11_right 39 = .ok (.if_icmp .ge 53, 3) := by decide +kernel
theorem dX11_right_92 : decode cX11_right 92 = .ok (.lload_n 2, 1) := by decide +kernel
theorem dX11_right_93 : decode cX11_right 93 = .ok (.lload 4, 2) := by decide +kernel
theorem dX11_right_95 : decode cX11_right 95 = .ok (.iload_n 1, 1) := by decide +kernel
theorem dX11_right_96 : decode cX11_right 96 = .ok (.invokestatic 388, 3) := by decide +kernel
theorem dX11_right_99 : decode cX11_right 99 = .ok (.lreturn, 1) := by decide +kernel
theorem dX11_right_42 : decode cX11_right 42 = .ok (.lload_n 2, 1) := by decide +kernel
theorem dX11_right_43 : decode cX11_right 43 = .ok (.aload_n 0, 1) := by decide +kernel
theorem dX11_right_44 : decode cX11_right 44 = .ok (.iload 6, 2) := by decide +kernel
theorem dX11_right_46 : decode cX11_right 46 = .ok (.iload 6, 2) := by decide +kernel
theorem dX11_right_48 : decode cX11_right 48 = .ok (.invokevirtual 398, 3) := by decide +kernel
theorem dX11_right_51 : decode cX11_right 51 = .ok (.ladd, 1) := by decide +kernel
theorem dX11_right_52 : decode cX11_right 52 = .ok (.lstore_n 2, 1) := by decide +kernel
theorem dX11_right_53 : decode cX11_right 53 = .ok (.iconst 0, 1) := by decide +kernel
theorem dX11_right_54 : decode cX11_right 54 = .ok (.istore 7, 2) := by decide +kernel
theorem dX11_right_56 : decode cX11_right 56 = .ok (.iload 7, 2) := by decide +kernel
theorem dX11_right_58 : decode cX11_right 58 = .ok (.aload_n 0, 1) := by decide +kernel
theorem dX11_right_59 : decode cX11_right 59 = .ok (.getfield 9, 3) := by decide +kernel
theorem dX11_right_62 : decode cX11_right 62 = .ok (.iconst 5, 1) := by decide +kernel
theorem dX11_right_63 : decode cX11_right 63 = .ok (.iaload, 1) := by decide +kernel
theorem dX11_right_64 : decode cX11_right 64 = .ok (.if_icmp .ge 22, 3) := by decide +kernel
theorem dX11_right_86 : decode cX11_right 86 = .ok (.iinc 6 1, 3) := by decide +kernel
theorem dX11_right_89 : decode cX11_right 89 = .ok (.goto (-58), 3) := by decide +kernel
theorem dX11_right_67 : decode cX11_right 67 = .ok (.lload 4, 2) := by decide +kernel
theorem dX11_right_69 : decode cX11_right 69 = .ok (.aload_n 0, 1) := by decide +kernel
theorem dX11_right_70 : decode cX11_right 70 = .ok (.iload 6, 2) := by decide +kernel
theorem dX11_right_72 : decode cX11_right 72 = .ok (.iload 7, 2) := by decide +kernel
theorem dX11_right_74 : decode cX11_right 74 = .ok (.invokevirtual 398, 3) := by decide +kernel
theorem dX11_right_77 : decode cX11_right 77 = .ok (.ladd, 1) := by decide +kernel
theorem dX11_right_78 : decode cX11_right 78 = .ok (.lstore 4, 2) := by decide +kernel
theorem dX11_right_80 : decode cX11_right 80 = .ok (.iinc 7 1, 3) := by decide +kernel
theorem dX11_right_83 : decode cX11_right 83 = .ok (.goto (-27), 3) := by decide +kernel
theorem dX11_oftenest_0 : decode cX11_oftenest 0 = .ok (.iconst (-1), 1) := by decide +kernel
theorem dX11_oftenest_1 : decode cX11_oftenest 1 = .ok (.istore_n 3, 1) := by decide +kernel
theorem dX11_oftenest_2 : decode cX11_oftenest 2 = .ok (.iconst 0, 1) := by decide +kernel
theorem dX11_oftenest_3 : decode cX11_oftenest 3 = .ok (.istore 4, 2) := by decide +kernel
theorem dX11_oftenest_5 : decode cX11_oftenest 5 = .ok (.iconst 0, 1) := by decide +kernel
theorem dX11_oftenest_6 : decode cX11_oftenest 6 = .ok (.istore 5, 2) := by decide +kernel
theorem dX11_oftenest_8 : decode cX11_oftenest 8 = .ok (.iload 5, 2) := by decide +kernel
theorem dX11_oftenest_10 : decode cX11_oftenest 10 = .ok (.aload_n 0, 1) := by decide +kernel
theorem dX11_oftenest_11 : decode cX11_oftenest 11 = .ok (.getfield 9, 3) := by decide +kernel
theorem dX11_oftenest_14 : decode cX11_oftenest 14 = .ok (.iconst 4, 1) := by decide +kernel
theorem dX11_oftenest_15 : decode cX11_oftenest 15 = .ok (.iaload, 1) := by decide +kernel
theorem dX11_oftenest_16 : decode cX11_oftenest 16 = .ok (.if_icmp .ge 98, 3) := by decide +kernel
theorem dX11_oftenest_114 : decode cX11_oftenest 114 = .ok (.iload_n 3, 1) := by decide +kernel
theorem dX11_oftenest_115 : decode cX11_oftenest 115 = .ok (.ireturn, 1) := by decide +kernel
theorem dX11_oftenest_19 : decode cX11_oftenest 19 = .ok (.iconst 0, 1) := by decide +kernel
theorem dX11_oftenest_20 : decode cX11_oftenest 20 = .ok (.istore 6, 2) := by decide +kernel
theorem dX11_oftenest_22 : decode cX11_oftenest 22 = .ok (.iload_n 2, 1) := by decide +kernel
theorem dX11_oftenest_23 : decode cX11_oftenest 23 = .ok (.iconst (-1), 1) := by decide +kernel
theorem dX11_oftenest_32 : decode cX11_oftenest 32 = .ok (.istore 7, 2) := by decide +kernel
theorem dX11_oftenest_34 : decode cX11_oftenest 34 = .ok (.iload 7, 2) := by decide +kernel
theorem dX11_oftenest_36 : decode cX11_oftenest 36 = .ok (.aload_n 0, 1) := by decide +kernel
theorem dX11_oftenest_37 : decode cX11_oftenest 37 = .ok (.getfield 61, 3) := by decide +kernel
theorem dX11_oftenest_40 : decode cX11_oftenest 40 = .ok (.iload_n 1, 1) := by decide +kernel
theorem dX11_oftenest_41 : decode cX11_oftenest 41 = .ok (.iaload, 1) := by decide +kernel
theorem dX11_oftenest_42 : decode cX11_oftenest 42 = .ok (.if_icmp .ge 49, 3) := by decide +kernel
theorem dX11_oftenest_91 : decode cX11_oftenest 91 = .ok (.iload 6, 2) := by decide +kernel
theorem dX11_oftenest_93 : decode cX11_oftenest 93 = .ok (.iload 4, 2) := by decide +kernel
theorem dX11_oftenest_108 : decode cX11_oftenest 108 = .ok (.iinc 5 1, 3) := by decide +kernel
theorem dX11_oftenest_111 : decode cX11_oftenest 111 = .ok (.goto (-103), 3) := by decide +kernel
theorem dX11_oftenest_95 : decode cX11_oftenest 95 = .ok (.if_icmp .gt 6, 3) := by decide +kernel
theorem dX11_oftenest_101 : decode cX11_oftenest 101 = .ok (.iload 6, 2) := by decide +kernel
theorem dX11_oftenest_103 : decode cX11_oftenest 103 = .ok (.istore 4, 2) := by decide +kernel
theorem dX11_oftenest_105 : decode cX11_oftenest 105 = .ok (.iload 5, 2) := by decide +kernel
theorem dX11_oftenest_107 : decode cX11_oftenest 107 = .ok (.istore_n 3, 1) := by decide +kernel
theorem dX11_oftenest_98 : decode cX11_oftenest 98 = .ok (.goto 10, 3) := by decide +kernel
theorem dX11_oftenest_45 : decode cX11_oftenest 45 = .ok (.iload 6, 2) := by decide +kernel
theorem dX11_oftenest_47 : decode cX11_oftenest 47 = .ok (.aload_n 0, 1) := by decide +kernel
theorem dX11_oftenest_48 : decode cX11_oftenest 48 = .ok (.iload_n 1, 1) := by decide +kernel
theorem dX11_oftenest_49 : decode cX11_oftenest 49 = .ok (.iload 7, 2) := by decide +kernel
theorem dX11_oftenest_51 : decode cX11_oftenest 51 = .ok (.invokevirtual 293, 3) := by decide +kernel
theorem dX11_oftenest_54 : decode cX11_oftenest 54 = .ok (.iload 5, 2) := by decide +kernel
theorem dX11_oftenest_82 : decode cX11_oftenest 82 = .ok (.iadd, 1) := by decide +kernel
theorem dX11_oftenest_83 : decode cX11_oftenest 83 = .ok (.istore 6, 2) := by decide +kernel
theorem dX11_oftenest_85 : decode cX11_oftenest 85 = .ok (.iinc 7 1, 3) := by decide +kernel
theorem dX11_oftenest_88 : decode cX11_oftenest 88 = .ok (.goto (-54), 3) := by decide +kernel
theorem dX11_oftenest_81 : decode cX11_oftenest 81 = .ok (.iconst 0, 1) := by decide +kernel
theorem dX11_oftenest_56 : decode cX11_oftenest 56 = .ok (.if_icmp .ne 25, 3) := by decide +kernel
theorem dX11_oftenest_59 : decode cX11_oftenest 59 = .ok (.iload_n 2, 1) := by decide +kernel
theorem dX11_oftenest_60 : decode cX11_oftenest 60 = .ok (.iconst (-1), 1) := by decide +kernel
theorem dX11_oftenest_77 : decode cX11_oftenest 77 = .ok (.iconst 1, 1) := by decide +kernel
theorem dX11_oftenest_78 : decode cX11_oftenest 78 = .ok (.goto 4, 3) := by decide +kernel
theorem dX11_oftenest_61 : decode cX11_oftenest 61 = .ok (.if_icmp .eq 16, 3) := by decide +kernel
theorem dX11_oftenest_64 : decode cX11_oftenest 64 = .ok (.aload_n 0, 1) := by decide +kernel
theorem dX11_oftenest_65 : decode cX11_oftenest 65 = .ok (.iload_n 1, 1) := by decide +kernel
theorem dX11_oftenest_66 : decode cX11_oftenest 66 = .ok (.iload 7, 2) := by decide +kernel
theorem dX11_oftenest_68 : decode cX11_oftenest 68 = .ok (.iconst 1, 1) := by decide +kernel
theorem dX11_oftenest_69 : decode cX11_oftenest 69 = .ok (.isub, 1) := by decide +kernel
theorem dX11_oftenest_70 : decode cX11_oftenest 70 = .ok (.invokevirtual 293, 3) := by decide +kernel
theorem dX11_oftenest_73 : decode cX11_oftenest 73 = .ok (.iload_n 2, 1) := by decide +kernel
theorem dX11_oftenest_74 : decode cX11_oftenest 74 = .ok (.if_icmp .ne 7, 3) := by decide +kernel
theorem dX11_oftenest_24 : decode cX11_oftenest 24 = .ok (.if_icmp .ne 7, 3) := by decide +kernel
theorem dX11_oftenest_31 : decode cX11_oftenest 31 = .ok (.iconst 1, 1) := by decide +kernel
theorem dX11_oftenest_27 : decode cX11_oftenest 27 = .ok (.iconst 0, 1) := by decide +kernel
theorem dX11_oftenest_28 : decode cX11_oftenest 28 = .ok (.goto 4, 3) := by decide +kernel
theorem dX11_draw_0 : decode cX11_draw 0 = .ok (.aload_n 0, 1) := by decide +kernel
theorem dX11_draw_1 : decode cX11_draw 1 = .ok (.ldc2_w 412, 3) := by decide +kernel
theorem dX11_draw_4 : decode cX11_draw 4 = .ok (.aload_n 0, 1) := by decide +kernel
theorem dX11_draw_5 : decode cX11_draw 5 = .ok (.getfield 414, 3) := by decide +kernel
theorem dX11_draw_8 : decode cX11_draw 8 = .ok (.lmul, 1) := by decide +kernel
theorem dX11_draw_9 : decode cX11_draw 9 = .ok (.ldc2_w 418, 3) := by decide +kernel
theorem dX11_draw_12 : decode cX11_draw 12 = .ok (.ladd, 1) := by decide +kernel
theorem dX11_draw_13 : decode cX11_draw 13 = .ok (.ldc2_w 420, 3) := by decide +kernel
theorem dX11_draw_16 : decode cX11_draw 16 = .ok (.lrem, 1) := by decide +kernel
theorem dX11_draw_17 : decode cX11_draw 17 = .ok (.putfield 414, 3) := by decide +kernel
theorem dX11_draw_20 : decode cX11_draw 20 = .ok (.aload_n 0, 1) := by decide +kernel
theorem dX11_draw_21 : decode cX11_draw 21 = .ok (.getfield 414, 3) := by decide +kernel
theorem dX11_draw_24 : decode cX11_draw 24 = .ok (.ldc2_w 422, 3) := by decide +kernel
theorem dX11_draw_27 : decode cX11_draw 27 = .ok (.ldiv, 1) := by decide +kernel
theorem dX11_draw_28 : decode cX11_draw 28 = .ok (.iload_n 1, 1) := by decide +kernel
theorem dX11_draw_29 : decode cX11_draw 29 = .ok (.i2l, 1) := by decide +kernel
theorem dX11_draw_30 : decode cX11_draw 30 = .ok (.lrem, 1) := by decide +kernel
theorem dX11_draw_31 : decode cX11_draw 31 = .ok (.l2i, 1) := by decide +kernel
theorem dX11_draw_32 : decode cX11_draw 32 = .ok (.ireturn, 1) := by decide +kernel
theorem dX11_firstRoom_0 : decode cX11_firstRoom 0 = .ok (.aload_n 0, 1) := by decide +kernel
theorem dX11_firstRoom_1 : decode cX11_firstRoom 1 = .ok (.bipush 100, 2) := by decide +kernel
theorem dX11_firstRoom_3 : decode cX11_firstRoom 3 = .ok (.invokevirtual 424, 3) := by decide +kernel
theorem dX11_firstRoom_6 : decode cX11_firstRoom 6 = .ok (.aload_n 0, 1) := by decide +kernel
theorem dX11_firstRoom_7 : decode cX11_firstRoom 7 = .ok (.getfield 9, 3) := by decide +kernel
theorem dX11_firstRoom_10 : decode cX11_firstRoom 10 = .ok (.iconst 1, 1) := by decide +kernel
theorem dX11_firstRoom_11 : decode cX11_firstRoom 11 = .ok (.iaload, 1) := by decide +kernel
theorem dX11_firstRoom_12 : decode cX11_firstRoom 12 = .ok (.if_icmp .ge 10, 3) := by decide +kernel
theorem dX11_firstRoom_22 : decode cX11_firstRoom 22 = .ok (.iconst (-1), 1) := by decide +kernel
theorem dX11_firstRoom_23 : decode cX11_firstRoom 23 = .ok (.ireturn, 1) := by decide +kernel
theorem dX11_firstRoom_15 : decode cX11_firstRoom 15 = .ok (.aload_n 0, 1) := by decide +kernel
theorem dX11_firstRoom_16 : decode cX11_firstRoom 16 = .ok (.invokevirtual 242, 3) := by decide +kernel
theorem dX11_firstRoom_19 : decode cX11_firstRoom 19 = .ok (.ifCond .ne 5, 3) := by decide +kernel
theorem dX11_firstRoom_24 : decode cX11_firstRoom 24 = .ok (.aload_n 0, 1) := by decide +kernel
theorem dX11_firstRoom_25 : decode cX11_firstRoom 25 = .ok (.aload_n 0, 1) := by decide +kernel
theorem dX11_firstRoom_26 : decode cX11_firstRoom 26 = .ok (.invokevirtual 242, 3) := by decide +kernel
theorem dX11_firstRoom_29 : decode cX11_firstRoom 29 = .ok (.invokevirtual 424, 3) := by decide +kernel
theorem dX11_firstRoom_32 : decode cX11_firstRoom 32 = .ok (.istore_n 1, 1) := by decide +kernel
theorem dX11_firstRoom_33 : decode cX11_firstRoom 33 = .ok (.iconst 0, 1) := by decide +kernel
theorem dX11_firstRoom_34 : decode cX11_firstRoom 34 = .ok (.istore_n 2, 1) := by decide +kernel
theorem dX11_firstRoom_35 : decode cX11_firstRoom 35 = .ok (.aload_n 0, 1) := by decide +kernel
theorem dX11_firstRoom_36 : decode cX11_firstRoom 36 = .ok (.iconst 0, 1) := by decide +kernel
theorem dX11_firstRoom_37 : decode cX11_firstRoom 37 = .ok (.iconst 2, 1) := by decide +kernel
theorem dX11_firstRoom_38 : decode cX11_firstRoom 38 = .ok (.invokevirtual 227, 3) := by decide +kernel
theorem dX11_firstRoom_41 : decode cX11_firstRoom 41 = .ok (.istore_n 3, 1) := by decide +kernel
theorem dX11_firstRoom_42 : decode cX11_firstRoom 42 = .ok (.iload_n 3, 1) := by decide +kernel
theorem dX11_firstRoom_43 : decode cX11_firstRoom 43 = .ok (.iload_n 1, 1) := by decide +kernel
theorem dX11_firstRoom_44 : decode cX11_firstRoom 44 = .ok (.if_icmp .gt 18, 3) := by decide +kernel
theorem dX11_firstRoom_62 : decode cX11_firstRoom 62 = .ok (.iload_n 2, 1) := by decide +kernel
theorem dX11_firstRoom_63 : decode cX11_firstRoom 63 = .ok (.ireturn, 1) := by decide +kernel
theorem dX11_firstRoom_47 : decode cX11_firstRoom 47 = .ok (.iinc 2 1, 3) := by decide +kernel
theorem dX11_firstRoom_50 : decode cX11_firstRoom 50 = .ok (.iload_n 3, 1) := by decide +kernel
theorem dX11_firstRoom_51 : decode cX11_firstRoom 51 = .ok (.aload_n 0, 1) := by decide +kernel
theorem dX11_firstRoom_52 : decode cX11_firstRoom 52 = .ok (.iload_n 2, 1) := by decide +kernel
theorem dX11_firstRoom_53 : decode cX11_firstRoom 53 = .ok (.iconst 2, 1) := by decide +kernel
theorem dX11_firstRoom_54 : decode cX11_firstRoom 54 = .ok (.invokevirtual 227, 3) := by decide +kernel
theorem dX11_firstRoom_57 : decode cX11_firstRoom 57 = .ok (.iadd, 1) := by decide +kernel
theorem dX11_firstRoom_58 : decode cX11_firstRoom 58 = .ok (.istore_n 3, 1) := by decide +kernel
theorem dX11_firstRoom_59 : decode cX11_firstRoom 59 = .ok (.goto (-17), 3) := by decide +kernel
theorem dX11_doorFrom_0 : decode cX11_doorFrom 0 = .ok (.iload_n 2, 1) := by decide +kernel
theorem dX11_doorFrom_1 : decode cX11_doorFrom 1 = .ok (.istore_n 3, 1) := by decide +kernel
theorem dX11_doorFrom_2 : decode cX11_doorFrom 2 = .ok (.iconst 0, 1) := by decide +kernel
theorem dX11_doorFrom_3 : decode cX11_doorFrom 3 = .ok (.istore 4, 2) := by decide +kernel
theorem dX11_doorFrom_5 : decode cX11_doorFrom 5 = .ok (.iload 4, 2) := by decide +kernel
theorem dX11_doorFrom_7 : decode cX11_doorFrom 7 = .ok (.aload_n 0, 1) := by decide +kernel
theorem dX11_doorFrom_8 : decode cX11_doorFrom 8 = .ok (.getfield 9, 3) := by decide +kernel
theorem dX11_doorFrom_11 : decode cX11_doorFrom 11 = .ok (.iconst 4, 1) := by decide +kernel
theorem dX11_doorFrom_12 : decode cX11_doorFrom 12 = .ok (.iaload, 1) := by decide +kernel
theorem dX11_doorFrom_13 : decode cX11_doorFrom 13 = .ok (.if_icmp .ge 36, 3) := by decide +kernel
theorem dX11_doorFrom_49 : decode cX11_doorFrom 49 = .ok (.iconst (-1), 1) := by decide +kernel
theorem dX11_doorFrom_50 : decode cX11_doorFrom 50 = .ok (.ireturn, 1) := by decide +kernel
theorem dX11_doorFrom_16 : decode cX11_doorFrom 16 = .ok (.aload_n 0, 1) := by decide +kernel
theorem dX11_doorFrom_17 : decode cX11_doorFrom 17 = .ok (.iload_n 1, 1) := by decide +kernel
theorem dX11_doorFrom_18 : decode cX11_doorFrom 18 = .ok (.iconst 3, 1) := by decide +kernel
theorem dX11_doorFrom_19 : decode cX11_doorFrom 19 = .ok (.invokevirtual 227, 3) := by decide +kernel
theorem dX11_doorFrom_22 : decode cX11_doorFrom 22 = .ok (.iload 4, 2) := by decide +kernel
theorem dX11_doorFrom_24 : decode cX11_doorFrom 24 = .ok (.invokestatic 258, 3) := by decide +kernel
theorem dX11_doorFrom_43 : decode cX11_doorFrom 43 = .ok (.iinc 4 1, 3) := by decide +kernel
theorem dX11_doorFrom_46 : decode cX11_doorFrom 46 = .ok (.goto (-41), 3) := by decide +kernel
theorem dX11_doorFrom_27 : decode cX11_doorFrom 27 = .ok (.ifCond .ne 6, 3) := by decide +kernel
theorem dX11_doorFrom_33 : decode cX11_doorFrom 33 = .ok (.iload_n 3, 1) := by decide +kernel
theorem dX11_doorFrom_34 : decode cX11_doorFrom 34 = .ok (.ifCond .ne 6, 3) := by decide +kernel
theorem dX11_doorFrom_40 : decode cX11_doorFrom 40 = .ok (.iinc 3 (-1), 3) := by decide +kernel
theorem dX11_doorFrom_37 : decode cX11_doorFrom 37 = .ok (.iload 4, 2) := by decide +kernel
theorem dX11_doorFrom_39 : decode cX11_doorFrom 39 = .ok (.ireturn, 1) := by decide +kernel
theorem dX11_doorFrom_30 : decode cX11_doorFrom 30 = .ok (.goto 13, 3) := by decide +kernel
theorem dX11_goEvening_0 : decode cX11_goEvening 0 = .ok (.aload_n 0, 1) := by decide +kernel
theorem dX11_goEvening_1 : decode cX11_goEvening 1 = .ok (.lload_n 1, 1) := by decide +kernel
theorem dX11_goEvening_2 : decode cX11_goEvening 2 = .ok (.putfield 414, 3) := by decide +kernel
theorem dX11_goEvening_5 : decode cX11_goEvening 5 = .ok (.aload_n 0, 1) := by decide +kernel
theorem dX11_goEvening_6 : decode cX11_goEvening 6 = .ok (.iconst (-1), 1) := by decide +kernel
theorem dX11_goEvening_7 : decode cX11_goEvening 7 = .ok (.putfield 427, 3) := by decide +kernel
theorem dX11_goEvening_10 : decode cX11_goEvening 10 = .ok (.aload_n 0, 1) := by decide +kernel
theorem dX11_goEvening_11 : decode cX11_goEvening 11 = .ok (.aload_n 0, 1) := by decide +kernel
theorem dX11_goEvening_12 : decode cX11_goEvening 12 = .ok (.invokevirtual 430, 3) := by decide +kernel
theorem dX11_goEvening_15 : decode cX11_goEvening 15 = .ok (.putfield 433, 3) := by decide +kernel
theorem dX11_goEvening_18 : decode cX11_goEvening 18 = .ok (.iconst 0, 1) := by decide +kernel
theorem dX11_goEvening_19 : decode cX11_goEvening 19 = .ok (.istore 4, 2) := by decide +kernel
theorem dX11_goEvening_21 : decode cX11_goEvening 21 = .ok (.iload 4, 2) := by decide +kernel
theorem dX11_goEvening_23 : decode cX11_goEvening 23 = .ok (.aload_n 0, 1) := by decide +kernel
theorem dX11_goEvening_24 : decode cX11_goEvening 24 = .ok (.getfield 61, 3) := by decide +kernel
theorem dX11_goEvening_27 : decode cX11_goEvening 27 = .ok (.iload_n 3, 1) := by decide +kernel
theorem dX11_goEvening_28 : decode cX11_goEvening 28 = .ok (.iaload, 1) := by decide +kernel
theorem dX11_goEvening_29 : decode cX11_goEvening 29 = .ok (.if_icmp .ge 108, 3) := by decide +kernel
theorem dX11_goEvening_137 : decode cX11_goEvening 137 = .ok (.return_, 1) := by decide +kernel
theorem dX11_goEvening_32 : decode cX11_goEvening 32 = .ok (.aload_n 0, 1) := by decide +kernel
theorem dX11_goEvening_33 : decode cX11_goEvening 33 = .ok (.getfield 433, 3) := by decide +kernel
theorem dX11_goEvening_36 : decode cX11_goEvening 36 = .ok (.iconst (-1), 1) := by decide +kernel
theorem dX11_goEvening_37 : decode cX11_goEvening 37 = .ok (.if_icmp .eq 100, 3) := by decide +kernel
theorem dX11_goEvening_40 : decode cX11_goEvening 40 = .ok (.aload_n 0, 1) := by decide +kernel
theorem dX11_goEvening_41 : decode cX11_goEvening 41 = .ok (.iload_n 3, 1) := by decide +kernel
theorem dX11_goEvening_42 : decode cX11_goEvening 42 = .ok (.iload 4, 2) := by decide +kernel
theorem dX11_goEvening_44 : decode cX11_goEvening 44 = .ok (.invokevirtual 293, 3) := by decide +kernel
theorem dX11_goEvening_47 : decode cX11_goEvening 47 = .ok (.aload_n 0, 1) := by decide +kernel
theorem dX11_goEvening_48 : decode cX11_goEvening 48 = .ok (.getfield 433, 3) := by decide +kernel
theorem dX11_goEvening_79 : decode cX11_goEvening 79 = .ok (.aload_n 0, 1) := by decide +kernel
theorem dX11_goEvening_80 : decode cX11_goEvening 80 = .ok (.aload_n 0, 1) := by decide +kernel
theorem dX11_goEvening_81 : decode cX11_goEvening 81 = .ok (.getfield 433, 3) := by decide +kernel
theorem dX11_goEvening_84 : decode cX11_goEvening 84 = .ok (.iconst 3, 1) := by decide +kernel
theorem dX11_goEvening_85 : decode cX11_goEvening 85 = .ok (.invokevirtual 227, 3) := by decide +kernel
theorem dX11_goEvening_88 : decode cX11_goEvening 88 = .ok (.invokestatic 255, 3) := by decide +kernel
theorem dX11_goEvening_91 : decode cX11_goEvening 91 = .ok (.istore 5, 2) := by decide +kernel
theorem dX11_goEvening_93 : decode cX11_goEvening 93 = .ok (.iload 5, 2) := by decide +kernel
theorem dX11_goEvening_131 : decode cX11_goEvening 131 = .ok (.iinc 4 1, 3) := by decide +kernel
theorem dX11_goEvening_134 : decode cX11_goEvening 134 = .ok (.goto (-113), 3) := by decide +kernel
theorem dX11_goEvening_95 : decode cX11_goEvening 95 = .ok (.ifCond .le 36, 3) := by decide +kernel
theorem dX11_goEvening_98 : decode cX11_goEvening 98 = .ok (.aload_n 0, 1) := by decide +kernel
theorem dX11_goEvening_99 : decode cX11_goEvening 99 = .ok (.bipush 100, 2) := by decide +kernel
theorem dX11_goEvening_101 : decode cX11_goEvening 101 = .ok (.invokevirtual 424, 3) := by decide +kernel
theorem dX11_goEvening_104 : decode cX11_goEvening 104 = .ok (.aload_n 0, 1) := by decide +kernel
theorem dX11_goEvening_105 : decode cX11_goEvening 105 = .ok (.getfield 9, 3) := by decide +kernel
theorem dX11_goEvening_108 : decode cX11_goEvening 108 = .ok (.iconst 0, 1) := by decide +kernel
theorem dX11_goEvening_109 : decode cX11_goEvening 109 = .ok (.iaload, 1) := by decide +kernel
theorem dX11_goEvening_110 : decode cX11_goEvening 110 = .ok (.if_icmp .ge 21, 3) := by decide +kernel
theorem dX11_goEvening_113 : decode cX11_goEvening 113 = .ok (.aload_n 0, 1) := by decide +kernel
theorem dX11_goEvening_114 : decode cX11_goEvening 114 = .ok (.aload_n 0, 1) := by decide +kernel
theorem dX11_goEvening_115 : decode cX11_goEvening 115 = .ok (.aload_n 0, 1) := by decide +kernel
theorem dX11_goEvening_116 : decode cX11_goEvening 116 = .ok (.getfield 433, 3) := by decide +kernel
theorem dX11_goEvening_119 : decode cX11_goEvening 119 = .ok (.aload_n 0, 1) := by decide +kernel
theorem dX11_goEvening_120 : decode cX11_goEvening 120 = .ok (.iload 5, 2) := by decide +kernel
theorem dX11_goEvening_122 : decode cX11_goEvening 122 = .ok (.invokevirtual 424, 3) := by decide +kernel
theorem dX11_goEvening_125 : decode cX11_goEvening 125 = .ok (.invokevirtual 436, 3) := by decide +kernel
theorem dX11_goEvening_128 : decode cX11_goEvening 128 = .ok (.putfield 433, 3) := by decide +kernel
theorem dX11_goEvening_51 : decode cX11_goEvening 51 = .ok (.if_icmp .ne 28, 3) := by decide +kernel
theorem dX11_goEvening_54 : decode cX11_goEvening 54 = .ok (.aload_n 0, 1) := by decide +kernel
theorem dX11_goEvening_55 : decode cX11_goEvening 55 = .ok (.bipush 100, 2) := by decide +kernel
theorem dX11_goEvening_57 : decode cX11_goEvening 57 = .ok (.invokevirtual 424, 3) := by decide +kernel
theorem dX11_goEvening_60 : decode cX11_goEvening 60 = .ok (.aload_n 0, 1) := by decide +kernel
theorem dX11_goEvening_61 : decode cX11_goEvening 61 = .ok (.aload_n 0, 1) := by decide +kernel
theorem dX11_goEvening_62 : decode cX11_goEvening 62 = .ok (.getfield 433, 3) := by decide +kernel
theorem dX11_goEvening_65 : decode cX11_goEvening 65 = .ok (.iconst 1, 1) := by decide +kernel
theorem dX11_goEvening_66 : decode cX11_goEvening 66 = .ok (.invokevirtual 227, 3) := by decide +kernel
theorem dX11_goEvening_69 : decode cX11_goEvening 69 = .ok (.if_icmp .ge 10, 3) := by decide +kernel
theorem dX11_goEvening_72 : decode cX11_goEvening 72 = .ok (.aload_n 0, 1) := by decide +kernel
theorem dX11_goEvening_73 : decode cX11_goEvening 73 = .ok (.iload 4, 2) := by decide +kernel
theorem dX11_goEvening_75 : decode cX11_goEvening 75 = .ok (.putfield 427, 3) := by decide +kernel
theorem dX11_goEvening_78 : decode cX11_goEvening 78 = .ok (.return_, 1) := by decide +kernel
theorem dX11_isSeed_0 : decode cX11_isSeed 0 = .ok (.iload_n 0, 1) := by decide +kernel
theorem dX11_isSeed_1 : decode cX11_isSeed 1 = .ok (.i2l, 1) := by decide +kernel
theorem dX11_isSeed_2 : decode cX11_isSeed 2 = .ok (.lconst 0, 1) := by decide +kernel
theorem dX11_isSeed_3 : decode cX11_isSeed 3 = .ok (.ldc2_w 439, 3) := by decide +kernel
theorem dX11_isSeed_6 : decode cX11_isSeed 6 = .ok (.invokestatic 79, 3) := by decide +kernel
theorem dX11_isSeed_9 : decode cX11_isSeed 9 = .ok (.ireturn, 1) := by decide +kernel
theorem dX11_tell_0 : decode cX11_tell 0 = .ok (.aload_n 0, 1) := by decide +kernel
theorem dX11_tell_1 : decode cX11_tell 1 = .ok (.iload_n 1, 1) := by decide +kernel
theorem dX11_tell_2 : decode cX11_tell 2 = .ok (.i2l, 1) := by decide +kernel
theorem dX11_tell_3 : decode cX11_tell 3 = .ok (.invokevirtual 89, 3) := by decide +kernel
theorem dX11_tell_6 : decode cX11_tell 6 = .ok (.ifCond .eq 48, 3) := by decide +kernel
theorem dX11_tell_54 : decode cX11_tell 54 = .ok (.bipush (-2), 2) := by decide +kernel
theorem dX11_tell_56 : decode cX11_tell 56 = .ok (.ireturn, 1) := by decide +kernel
theorem dX11_tell_9 : decode cX11_tell 9 = .ok (.iload_n 2, 1) := by decide +kernel
theorem dX11_tell_10 : decode cX11_tell 10 = .ok (.i2l, 1) := by decide +kernel
theorem dX11_tell_11 : decode cX11_tell 11 = .ok (.lconst 0, 1) := by decide +kernel
theorem dX11_tell_12 : decode cX11_tell 12 = .ok (.ldc2_w 77, 3) := by decide +kernel
theorem dX11_tell_15 : decode cX11_tell 15 = .ok (.invokestatic 79, 3) := by decide +kernel
theorem dX11_tell_18 : decode cX11_tell 18 = .ok (.ifCond .eq 36, 3) := by decide +kernel
theorem dX11_tell_21 : decode cX11_tell 21 = .ok (.iload_n 3, 1) := by decide +kernel
theorem dX11_tell_22 : decode cX11_tell 22 = .ok (.i2l, 1) := by decide +kernel
theorem dX11_tell_23 : decode cX11_tell 23 = .ok (.lconst 0, 1) := by decide +kernel
theorem dX11_tell_24 : decode cX11_tell 24 = .ok (.iload_n 2, 1) := by decide +kernel
theorem dX11_tell_48 : decode cX11_tell 48 = .ok (.invokestatic 79, 3) := by decide +kernel
theorem dX11_tell_51 : decode cX11_tell 51 = .ok (.ifCond .ne 6, 3) := by decide +kernel
theorem dX11_tell_57 : decode cX11_tell 57 = .ok (.aload_n 0, 1) := by decide +kernel
theorem dX11_tell_58 : decode cX11_tell 58 = .ok (.getfield 9, 3) := by decide +kernel
theorem dX11_tell_61 : decode cX11_tell 61 = .ok (.bipush 7, 2) := by decide +kernel
theorem dX11_tell_63 : decode cX11_tell 63 = .ok (.iaload, 1) := by decide +kernel
theorem dX11_tell_64 : decode cX11_tell 64 = .ok (.ifCond .le 6, 3) := by decide +kernel
theorem dX11_tell_70 : decode cX11_tell 70 = .ok (.aload_n 0, 1) := by decide +kernel
theorem dX11_tell_71 : decode cX11_tell 71 = .ok (.iload_n 1, 1) := by decide +kernel
theorem dX11_tell_72 : decode cX11_tell 72 = .ok (.iload_n 2, 1) := by decide +kernel
theorem dX11_tell_73 : decode cX11_tell 73 = .ok (.invokevirtual 227, 3) := by decide +kernel
theorem dX11_tell_76 : decode cX11_tell 76 = .ok (.istore 4, 2) := by decide +kernel
theorem dX11_tell_78 : decode cX11_tell 78 = .ok (.aload_n 0, 1) := by decide +kernel
theorem dX11_tell_79 : decode cX11_tell 79 = .ok (.getfield 9, 3) := by decide +kernel
theorem dX11_tell_82 : decode cX11_tell 82 = .ok (.bipush 8, 2) := by decide +kernel
theorem dX11_tell_84 : decode cX11_tell 84 = .ok (.iconst 4, 1) := by decide +kernel
theorem dX11_tell_85 : decode cX11_tell 85 = .ok (.iload_n 1, 1) := by decide +kernel
theorem dX11_tell_86 : decode cX11_tell 86 = .ok (.imul, 1) := by decide +kernel
theorem dX11_tell_87 : decode cX11_tell 87 = .ok (.iadd, 1) := by decide +kernel
theorem dX11_tell_88 : decode cX11_tell 88 = .ok (.iload_n 2, 1) := by decide +kernel
theorem dX11_tell_89 : decode cX11_tell 89 = .ok (.iadd, 1) := by decide +kernel
theorem dX11_tell_90 : decode cX11_tell 90 = .ok (.iload_n 3, 1) := by decide +kernel
theorem dX11_tell_91 : decode cX11_tell 91 = .ok (.iastore, 1) := by decide +kernel
theorem dX11_tell_92 : decode cX11_tell 92 = .ok (.iload 4, 2) := by decide +kernel
theorem dX11_tell_94 : decode cX11_tell 94 = .ok (.ireturn, 1) := by decide +kernel
theorem dX11_tell_67 : decode cX11_tell 67 = .ok (.bipush (-5), 2) := by decide +kernel
theorem dX11_tell_69 : decode cX11_tell 69 = .ok (.ireturn, 1) := by decide +kernel
theorem dX11_tell_25 : decode cX11_tell 25 = .ok (.ifCond .ne 9, 3) := by decide +kernel
theorem dX11_tell_34 : decode cX11_tell 34 = .ok (.iload_n 2, 1) := by decide +kernel
theorem dX11_tell_35 : decode cX11_tell 35 = .ok (.iconst 1, 1) := by decide +kernel
theorem dX11_tell_36 : decode cX11_tell 36 = .ok (.if_icmp .ne 9, 3) := by decide +kernel
theorem dX11_tell_45 : decode cX11_tell 45 = .ok (.ldc2_w 454, 3) := by decide +kernel
theorem dX11_tell_39 : decode cX11_tell 39 = .ok (.ldc2_w 452, 3) := by decide +kernel
theorem dX11_tell_42 : decode cX11_tell 42 = .ok (.goto 6, 3) := by decide +kernel
theorem dX11_tell_28 : decode cX11_tell 28 = .ok (.ldc2_w 450, 3) := by decide +kernel
theorem dX11_tell_31 : decode cX11_tell 31 = .ok (.goto 17, 3) := by decide +kernel
theorem dX11_door_0 : decode cX11_door 0 = .ok (.bipush 8, 2) := by decide +kernel
theorem dX11_door_2 : decode cX11_door 2 = .ok (.iconst 4, 1) := by decide +kernel
theorem dX11_door_3 : decode cX11_door 3 = .ok (.iload_n 1, 1) := by decide +kernel
theorem dX11_door_4 : decode cX11_door 4 = .ok (.imul, 1) := by decide +kernel
theorem dX11_door_5 : decode cX11_door 5 = .ok (.iadd, 1) := by decide +kernel
theorem dX11_door_6 : decode cX11_door 6 = .ok (.iconst 3, 1) := by decide +kernel
theorem dX11_door_7 : decode cX11_door 7 = .ok (.iadd, 1) := by decide +kernel
theorem dX11_door_8 : decode cX11_door 8 = .ok (.istore 4, 2) := by decide +kernel
theorem dX11_door_10 : decode cX11_door 10 = .ok (.aload_n 0, 1) := by decide +kernel
theorem dX11_door_11 : decode cX11_door 11 = .ok (.getfield 9, 3) := by decide +kernel
theorem dX11_door_14 : decode cX11_door 14 = .ok (.iload 4, 2) := by decide +kernel
theorem dX11_door_16 : decode cX11_door 16 = .ok (.aload_n 0, 1) := by decide +kernel
theorem dX11_door_17 : decode cX11_door 17 = .ok (.getfield 9, 3) := by decide +kernel
theorem dX11_door_20 : decode cX11_door 20 = .ok (.iload 4, 2) := by decide +kernel
theorem dX11_door_22 : decode cX11_door 22 = .ok (.iaload, 1) := by decide +kernel
theorem dX11_door_23 : decode cX11_door 23 = .ok (.iconst 1, 1) := by decide +kernel
theorem dX11_door_24 : decode cX11_door 24 = .ok (.iload_n 2, 1) := by decide +kernel
theorem dX11_door_25 : decode cX11_door 25 = .ok (.ishl, 1) := by decide +kernel
theorem dX11_door_26 : decode cX11_door 26 = .ok (.iconst (-1), 1) := by decide +kernel
theorem dX11_door_27 : decode cX11_door 27 = .ok (.ixor, 1) := by decide +kernel
theorem dX11_door_28 : decode cX11_door 28 = .ok (.iand, 1) := by decide +kernel
theorem dX11_door_29 : decode cX11_door 29 = .ok (.iload_n 3, 1) := by decide +kernel
theorem dX11_door_30 : decode cX11_door 30 = .ok (.iload_n 2, 1) := by decide +kernel
theorem dX11_door_31 : decode cX11_door 31 = .ok (.ishl, 1) := by decide +kernel
theorem dX11_door_32 : decode cX11_door 32 = .ok (.ior, 1) := by decide +kernel
theorem dX11_door_33 : decode cX11_door 33 = .ok (.iastore, 1) := by decide +kernel
theorem dX11_door_34 : decode cX11_door 34 = .ok (.return_, 1) := by decide +kernel
theorem dX11_shut_0 : decode cX11_shut 0 = .ok (.aload_n 0, 1) := by decide +kernel
theorem dX11_shut_1 : decode cX11_shut 1 = .ok (.iload_n 1, 1) := by decide +kernel
theorem dX11_shut_2 : decode cX11_shut 2 = .ok (.i2l, 1) := by decide +kernel
theorem dX11_shut_3 : decode cX11_shut 3 = .ok (.invokevirtual 89, 3) := by decide +kernel
theorem dX11_shut_6 : decode cX11_shut 6 = .ok (.ifCond .eq 27, 3) := by decide +kernel
theorem dX11_shut_33 : decode cX11_shut 33 = .ok (.bipush (-2), 2) := by decide +kernel
theorem dX11_shut_35 : decode cX11_shut 35 = .ok (.ireturn, 1) := by decide +kernel
theorem dX11_shut_9 : decode cX11_shut 9 = .ok (.aload_n 0, 1) := by decide +kernel
theorem dX11_shut_10 : decode cX11_shut 10 = .ok (.iload_n 2, 1) := by decide +kernel
theorem dX11_shut_11 : decode cX11_shut 11 = .ok (.i2l, 1) := by decide +kernel
theorem dX11_shut_12 : decode cX11_shut 12 = .ok (.invokevirtual 89, 3) := by decide +kernel
theorem dX11_shut_15 : decode cX11_shut 15 = .ok (.ifCond .eq 18, 3) := by decide +kernel
theorem dX11_shut_18 : decode cX11_shut 18 = .ok (.iload_n 1, 1) := by decide +kernel
theorem dX11_shut_19 : decode cX11_shut 19 = .ok (.iload_n 2, 1) := by decide +kernel
theorem dX11_shut_20 : decode cX11_shut 20 = .ok (.if_icmp .eq 13, 3) := by decide +kernel
theorem dX11_shut_23 : decode cX11_shut 23 = .ok (.iload_n 3, 1) := by decide +kernel
theorem dX11_shut_24 : decode cX11_shut 24 = .ok (.i2l, 1) := by decide +kernel
theorem dX11_shut_25 : decode cX11_shut 25 = .ok (.lconst 0, 1) := by decide +kernel
theorem dX11_shut_26 : decode cX11_shut 26 = .ok (.lconst 1, 1) := by decide +kernel
theorem dX11_shut_27 : decode cX11_shut 27 = .ok (.invokestatic 79, 3) := by decide +kernel
theorem dX11_shut_30 : decode cX11_shut 30 = .ok (.ifCond .ne 6, 3) := by decide +kernel
theorem dX11_shut_36 : decode cX11_shut 36 = .ok (.aload_n 0, 1) := by decide +kernel
theorem dX11_shut_37 : decode cX11_shut 37 = .ok (.getfield 9, 3) := by decide +kernel
theorem dX11_shut_40 : decode cX11_shut 40 = .ok (.bipush 7, 2) := by decide +kernel
theorem dX11_shut_42 : decode cX11_shut 42 = .ok (.iaload, 1) := by decide +kernel
theorem dX11_shut_43 : decode cX11_shut 43 = .ok (.ifCond .le 6, 3) := by decide +kernel
theorem dX11_shut_49 : decode cX11_shut 49 = .ok (.aload_n 0, 1) := by decide +kernel
theorem dX11_shut_50 : decode cX11_shut 50 = .ok (.iload_n 1, 1) := by decide +kernel
theorem dX11_shut_51 : decode cX11_shut 51 = .ok (.iconst 3, 1) := by decide +kernel
theorem dX11_shut_52 : decode cX11_shut 52 = .ok (.invokevirtual 227, 3) := by decide +kernel
theorem dX11_shut_55 : decode cX11_shut 55 = .ok (.iload_n 2, 1) := by decide +kernel
theorem dX11_shut_56 : decode cX11_shut 56 = .ok (.invokestatic 258, 3) := by decide +kernel
theorem dX11_shut_59 : decode cX11_shut 59 = .ok (.istore 4, 2) := by decide +kernel
theorem dX11_shut_61 : decode cX11_shut 61 = .ok (.aload_n 0, 1) := by decide +kernel
theorem dX11_shut_62 : decode cX11_shut 62 = .ok (.iload_n 1, 1) := by decide +kernel
theorem dX11_shut_63 : decode cX11_shut 63 = .ok (.iload_n 2, 1) := by decide +kernel
theorem dX11_shut_64 : decode cX11_shut 64 = .ok (.iload_n 3, 1) := by decide +kernel
theorem dX11_shut_65 : decode cX11_shut 65 = .ok (.invokevirtual 456, 3) := by decide +kernel
theorem dX11_shut_68 : decode cX11_shut 68 = .ok (.aload_n 0, 1) := by decide +kernel
theorem dX11_shut_69 : decode cX11_shut 69 = .ok (.iload_n 2, 1) := by decide +kernel
theorem dX11_shut_70 : decode cX11_shut 70 = .ok (.iload_n 1, 1) := by decide +kernel
theorem dX11_shut_71 : decode cX11_shut 71 = .ok (.iload_n 3, 1) := by decide +kernel
theorem dX11_shut_72 : decode cX11_shut 72 = .ok (.invokevirtual 456, 3) := by decide +kernel
theorem dX11_shut_75 : decode cX11_shut 75 = .ok (.iload 4, 2) := by decide +kernel
theorem dX11_shut_77 : decode cX11_shut 77 = .ok (.ireturn, 1) := by decide +kernel
theorem dX11_shut_46 : decode cX11_shut 46 = .ok (.bipush (-5), 2) := by decide +kernel
theorem dX11_shut_48 : decode cX11_shut 48 = .ok (.ireturn, 1) := by decide +kernel
theorem dX11_count_0 : decode cX11_count 0 = .ok (.iconst 0, 1) := by decide +kernel
theorem dX11_count_1 : decode cX11_count 1 = .ok (.istore_n 2, 1) := by decide +kernel
theorem dX11_count_2 : decode cX11_count 2 = .ok (.iload_n 1, 1) := by decide +kernel
theorem dX11_count_3 : decode cX11_count 3 = .ok (.tableswitch 176 0 7 #[45, 52, 86, 93, 122, 130, 135, 143], 45) := by decide +kernel
theorem dX11_count_179 : decode cX11_count 179 = .ok (.iconst (-1), 1) := by decide +kernel
theorem dX11_count_180 : decode cX11_count 180 = .ok (.ireturn, 1) := by decide +kernel
theorem dX11_count_48 : decode cX11_count 48 = .ok (.aload_n 0, 1) := by decide +kernel
theorem dX11_count_49 : decode cX11_count 49 = .ok (.getfield 9, 3) := by decide +kernel
theorem dX11_count_52 : decode cX11_count 52 = .ok (.iconst 4, 1) := by decide +kernel
theorem dX11_count_53 : decode cX11_count 53 = .ok (.iaload, 1) := by decide +kernel
theorem dX11_count_54 : decode cX11_count 54 = .ok (.ireturn, 1) := by decide +kernel
theorem dX11_count_55 : decode cX11_count 55 = .ok (.iconst 0, 1) := by decide +kernel
theorem dX11_count_56 : decode cX11_count 56 = .ok (.istore_n 3, 1) := by decide +kernel
theorem dX11_count_57 : decode cX11_count 57 = .ok (.iload_n 3, 1) := by decide +kernel
theorem dX11_count_58 : decode cX11_count 58 = .ok (.aload_n 0, 1) := by decide +kernel
theorem dX11_count_59 : decode cX11_count 59 = .ok (.getfield 9, 3) := by decide +kernel
theorem dX11_count_62 : decode cX11_count 62 = .ok (.iconst 4, 1) := by decide +kernel
theorem dX11_count_63 : decode cX11_count 63 = .ok (.iaload, 1) := by decide +kernel
theorem dX11_count_64 : decode cX11_count 64 = .ok (.if_icmp .ge 21, 3) := by decide +kernel
theorem dX11_count_85 : decode cX11_count 85 = .ok (.iload_n 2, 1) := by decide +kernel
theorem dX11_count_86 : decode cX11_count 86 = .ok (.iconst 2, 1) := by decide +kernel
theorem dX11_count_87 : decode cX11_count 87 = .ok (.idiv, 1) := by decide +kernel
theorem dX11_count_88 : decode cX11_count 88 = .ok (.ireturn, 1) := by decide +kernel
theorem dX11_count_67 : decode cX11_count 67 = .ok (.iload_n 2, 1) := by decide +kernel
theorem dX11_count_68 : decode cX11_count 68 = .ok (.aload_n 0, 1) := by decide +kernel
theorem dX11_count_69 : decode cX11_count 69 = .ok (.iload_n 3, 1) := by decide +kernel
theorem dX11_count_70 : decode cX11_count 70 = .ok (.iconst 3, 1) := by decide +kernel
theorem dX11_count_71 : decode cX11_count 71 = .ok (.invokevirtual 227, 3) := by decide +kernel
theorem dX11_count_74 : decode cX11_count 74 = .ok (.invokestatic 255, 3) := by decide +kernel
theorem dX11_count_77 : decode cX11_count 77 = .ok (.iadd, 1) := by decide +kernel
theorem dX11_count_78 : decode cX11_count 78 = .ok (.istore_n 2, 1) := by decide +kernel
theorem dX11_count_79 : decode cX11_count 79 = .ok (.iinc 3 1, 3) := by decide +kernel
theorem dX11_count_82 : decode cX11_count 82 = .ok (.goto (-25), 3) := by decide +kernel
theorem dX11_count_89 : decode cX11_count 89 = .ok (.aload_n 0, 1) := by decide +kernel
theorem dX11_count_90 : decode cX11_count 90 = .ok (.getfield 9, 3) := by decide +kernel
theorem dX11_count_93 : decode cX11_count 93 = .ok (.iconst 5, 1) := by decide +kernel
theorem dX11_count_94 : decode cX11_count 94 = .ok (.iaload, 1) := by decide +kernel
theorem dX11_count_95 : decode cX11_count 95 = .ok (.ireturn, 1) := by decide +kernel
theorem dX11_count_96 : decode cX11_count 96 = .ok (.iconst 0, 1) := by decide +kernel
theorem dX11_count_97 : decode cX11_count 97 = .ok (.istore_n 3, 1) := by decide +kernel
theorem dX11_count_98 : decode cX11_count 98 = .ok (.iload_n 3, 1) := by decide +kernel
theorem dX11_count_99 : decode cX11_count 99 = .ok (.aload_n 0, 1) := by decide +kernel
theorem dX11_count_100 : decode cX11_count 100 = .ok (.getfield 9, 3) := by decide +kernel
theorem dX11_count_103 : decode cX11_count 103 = .ok (.iconst 4, 1) := by decide +kernel
theorem dX11_count_104 : decode cX11_count 104 = .ok (.iaload, 1) := by decide +kernel
theorem dX11_count_105 : decode cX11_count 105 = .ok (.if_icmp .ge 18, 3) := by decide +kernel
theorem dX11_count_123 : decode cX11_count 123 = .ok (.iload_n 2, 1) := by decide +kernel
theorem dX11_count_124 : decode cX11_count 124 = .ok (.ireturn, 1) := by decide +kernel
theorem dX11_count_108 : decode cX11_count 108 = .ok (.iload_n 2, 1) := by decide +kernel
theorem dX11_count_109 : decode cX11_count 109 = .ok (.aload_n 0, 1) := by decide +kernel
theorem dX11_count_110 : decode cX11_count 110 = .ok (.iload_n 3, 1) := by decide +kernel
theorem dX11_count_111 : decode cX11_count 111 = .ok (.iconst 0, 1) := by decide +kernel
theorem dX11_count_112 : decode cX11_count 112 = .ok (.invokevirtual 227, 3) := by decide +kernel
theorem dX11_count_115 : decode cX11_count 115 = .ok (.iadd, 1) := by decide +kernel
theorem dX11_count_116 : decode cX11_count 116 = .ok (.istore_n 2, 1) := by decide +kernel
theorem dX11_count_117 : decode cX11_count 117 = .ok (.iinc 3 1, 3) := by decide +kernel
theorem dX11_count_120 : decode cX11_count 120 = .ok (.goto (-22), 3) := by decide +kernel
theorem dX11_count_125 : decode cX11_count 125 = .ok (.aload_n 0, 1) := by decide +kernel
theorem dX11_count_126 : decode cX11_count 126 = .ok (.getfield 9, 3) := by decide +kernel
theorem dX11_count_129 : decode cX11_count 129 = .ok (.bipush 6, 2) := by decide +kernel
theorem dX11_count_131 : decode cX11_count 131 = .ok (.iaload, 1) := by decide +kernel
theorem dX11_count_132 : decode cX11_count 132 = .ok (.ireturn, 1) := by decide +kernel
theorem dX11_count_133 : decode cX11_count 133 = .ok (.aload_n 0, 1) := by decide +kernel
theorem dX11_count_134 : decode cX11_count 134 = .ok (.getfield 93, 3) := by decide +kernel
theorem dX11_count_137 : decode cX11_count 137 = .ok (.ireturn, 1) := by decide +kernel
theorem dX11_count_138 : decode cX11_count 138 = .ok (.aload_n 0, 1) := by decide +kernel
theorem dX11_count_139 : decode cX11_count 139 = .ok (.getfield 9, 3) := by decide +kernel
theorem dX11_count_142 : decode cX11_count 142 = .ok (.bipush 7, 2) := by decide +kernel
theorem dX11_count_144 : decode cX11_count 144 = .ok (.iaload, 1) := by decide +kernel
theorem dX11_count_145 : decode cX11_count 145 = .ok (.ireturn, 1) := by decide +kernel
theorem dX11_count_146 : decode cX11_count 146 = .ok (.iconst 0, 1) := by decide +kernel
theorem dX11_count_147 : decode cX11_count 147 = .ok (.istore_n 3, 1) := by decide +kernel
theorem dX11_count_148 : decode cX11_count 148 = .ok (.iload_n 3, 1) := by decide +kernel
theorem dX11_count_149 : decode cX11_count 149 = .ok (.iconst 4, 1) := by decide +kernel
theorem dX11_count_150 : decode cX11_count 150 = .ok (.if_icmp .ge 27, 3) := by decide +kernel
theorem dX11_count_177 : decode cX11_count 177 = .ok (.iload_n 2, 1) := by decide +kernel
theorem dX11_count_178 : decode cX11_count 178 = .ok (.ireturn, 1) := by decide +kernel
theorem dX11_count_153 : decode cX11_count 153 = .ok (.iload_n 2, 1) := by decide +kernel
theorem dX11_count_154 : decode cX11_count 154 = .ok (.aload_n 0, 1) := by decide +kernel
theorem dX11_count_155 : decode cX11_count 155 = .ok (.getfield 61, 3) := by decide +kernel
theorem dX11_count_158 : decode cX11_count 158 = .ok (.iload_n 3, 1) := by decide +kernel
theorem dX11_count_159 : decode cX11_count 159 = .ok (.iaload, 1) := by decide +kernel
theorem dX11_count_160 : decode cX11_count 160 = .ok (.iconst (-1), 1) := by decide +kernel
theorem dX11_count_169 : decode cX11_count 169 = .ok (.iadd, 1) := by decide +kernel
theorem dX11_count_170 : decode cX11_count 170 = .ok (.istore_n 2, 1) := by decide +kernel
theorem dX11_count_171 : decode cX11_count 171 = .ok (.iinc 3 1, 3) := by decide +kernel
theorem dX11_count_174 : decode cX11_count 174 = .ok (.goto (-26), 3) := by decide +kernel
theorem dX11_count_161 : decode cX11_count 161 = .ok (.if_icmp .ne 7, 3) := by decide +kernel
theorem dX11_count_168 : decode cX11_count 168 = .ok (.iconst 1, 1) := by decide +kernel
theorem dX11_count_164 : decode cX11_count 164 = .ok (.iconst 0, 1) := by decide +kernel
theorem dX11_count_165 : decode cX11_count 165 = .ok (.goto 4, 3) := by decide +kernel
theorem dX11_isSlot_0 : decode cX11_isSlot 0 = .ok (.iload_n 0, 1) := by decide +kernel
theorem dX11_isSlot_1 : decode cX11_isSlot 1 = .ok (.i2l, 1) := by decide +kernel
theorem dX11_isSlot_2 : decode cX11_isSlot 2 = .ok (.lconst 0, 1) := by decide +kernel
theorem dX11_isSlot_3 : decode cX11_isSlot 3 = .ok (.ldc2_w 225, 3) := by decide +kernel
theorem dX11_isSlot_6 : decode cX11_isSlot 6 = .ok (.invokestatic 79, 3) := by decide +kernel
theorem dX11_isSlot_9 : decode cX11_isSlot 9 = .ok (.ireturn, 1) := by decide +kernel
theorem dX11_cut_0 : decode cX11_cut 0 = .ok (.bipush 64, 2) := by decide +kernel
theorem dX11_cut_2 : decode cX11_cut 2 = .ok (.bipush 8, 2) := by decide +kernel
theorem dX11_cut_4 : decode cX11_cut 4 = .ok (.iload_n 2, 1) := by decide +kernel
theorem dX11_cut_5 : decode cX11_cut 5 = .ok (.ishl, 1) := by decide +kernel
theorem dX11_cut_6 : decode cX11_cut 6 = .ok (.isub, 1) := by decide +kernel
theorem dX11_cut_7 : decode cX11_cut 7 = .ok (.istore_n 3, 1) := by decide +kernel
theorem dX11_cut_8 : decode cX11_cut 8 = .ok (.lload_n 0, 1) := by decide +kernel
theorem dX11_cut_9 : decode cX11_cut 9 = .ok (.iload_n 3, 1) := by decide +kernel
theorem dX11_cut_10 : decode cX11_cut 10 = .ok (.lshl, 1) := by decide +kernel
theorem dX11_cut_11 : decode cX11_cut 11 = .ok (.iload_n 3, 1) := by decide +kernel
theorem dX11_cut_12 : decode cX11_cut 12 = .ok (.lshr, 1) := by decide +kernel
theorem dX11_cut_13 : decode cX11_cut 13 = .ok (.lreturn, 1) := by decide +kernel
theorem dX11_row_0 : decode cX11_row 0 = .ok (.iload_n 1, 1) := by decide +kernel
theorem dX11_row_1 : decode cX11_row 1 = .ok (.invokestatic 290, 3) := by decide +kernel
theorem dX11_row_4 : decode cX11_row 4 = .ok (.ifCond .eq 21, 3) := by decide +kernel
theorem dX11_row_25 : decode cX11_row 25 = .ok (.bipush (-2), 2) := by decide +kernel
theorem dX11_row_27 : decode cX11_row 27 = .ok (.ireturn, 1) := by decide +kernel
theorem dX11_row_7 : decode cX11_row 7 = .ok (.iload_n 2, 1) := by decide +kernel
theorem dX11_row_8 : decode cX11_row 8 = .ok (.i2l, 1) := by decide +kernel
theorem dX11_row_9 : decode cX11_row 9 = .ok (.lconst 0, 1) := by decide +kernel
theorem dX11_row_10 : decode cX11_row 10 = .ok (.ldc2_w 225, 3) := by decide +kernel
theorem dX11_row_13 : decode cX11_row 13 = .ok (.invokestatic 79, 3) := by decide +kernel
theorem dX11_row_16 : decode cX11_row 16 = .ok (.ifCond .eq 9, 3) := by decide +kernel
theorem dX11_row_19 : decode cX11_row 19 = .ok (.iload_n 3, 1) := by decide +kernel
theorem dX11_row_20 : decode cX11_row 20 = .ok (.bipush 60, 2) := by decide +kernel
theorem dX11_row_22 : decode cX11_row 22 = .ok (.if_icmp .le 6, 3) := by decide +kernel
theorem dX11_row_28 : decode cX11_row 28 = .ok (.iload_n 3, 1) := by decide +kernel
theorem dX11_row_29 : decode cX11_row 29 = .ok (.ifCond .ge 6, 3) := by decide +kernel
theorem dX11_row_35 : decode cX11_row 35 = .ok (.aload_n 0, 1) := by decide +kernel
theorem dX11_row_36 : decode cX11_row 36 = .ok (.getfield 61, 3) := by decide +kernel
theorem dX11_row_39 : decode cX11_row 39 = .ok (.iload_n 1, 1) := by decide +kernel
theorem dX11_row_40 : decode cX11_row 40 = .ok (.iload_n 3, 1) := by decide +kernel
theorem dX11_row_41 : decode cX11_row 41 = .ok (.iastore, 1) := by decide +kernel
theorem dX11_row_42 : decode cX11_row 42 = .ok (.aload_n 0, 1) := by decide +kernel
theorem dX11_row_43 : decode cX11_row 43 = .ok (.getfield 64, 3) := by decide +kernel
theorem dX11_row_46 : decode cX11_row 46 = .ok (.iload_n 1, 1) := by decide +kernel
theorem dX11_row_47 : decode cX11_row 47 = .ok (.iload_n 2, 1) := by decide +kernel
theorem dX11_row_48 : decode cX11_row 48 = .ok (.iastore, 1) := by decide +kernel
theorem dX11_row_49 : decode cX11_row 49 = .ok (.iconst 0, 1) := by decide +kernel
theorem dX11_row_50 : decode cX11_row 50 = .ok (.istore 4, 2) := by decide +kernel
theorem dX11_row_52 : decode cX11_row 52 = .ok (.iload 4, 2) := by decide +kernel
theorem dX11_row_54 : decode cX11_row 54 = .ok (.bipush 60, 2) := by decide +kernel
theorem dX11_row_56 : decode cX11_row 56 = .ok (.if_icmp .ge 22, 3) := by decide +kernel
theorem dX11_row_78 : decode cX11_row 78 = .ok (.iconst 0, 1) := by decide +kernel
theorem dX11_row_79 : decode cX11_row 79 = .ok (.ireturn, 1) := by decide +kernel
theorem dX11_row_59 : decode cX11_row 59 = .ok (.aload_n 0, 1) := by decide +kernel
theorem dX11_row_60 : decode cX11_row 60 = .ok (.getfield 67, 3) := by decide +kernel
theorem dX11_row_63 : decode cX11_row 63 = .ok (.bipush 60, 2) := by decide +kernel
theorem dX11_row_65 : decode cX11_row 65 = .ok (.iload_n 1, 1) := by decide +kernel
theorem dX11_row_66 : decode cX11_row 66 = .ok (.imul, 1) := by decide +kernel
theorem dX11_row_67 : decode cX11_row 67 = .ok (.iload 4, 2) := by decide +kernel
theorem dX11_row_69 : decode cX11_row 69 = .ok (.iadd, 1) := by decide +kernel
theorem dX11_row_70 : decode cX11_row 70 = .ok (.lconst 0, 1) := by decide +kernel
theorem dX11_row_71 : decode cX11_row 71 = .ok (.lastore, 1) := by decide +kernel
theorem dX11_row_72 : decode cX11_row 72 = .ok (.iinc 4 1, 3) := by decide +kernel
theorem dX11_row_75 : decode cX11_row 75 = .ok (.goto (-23), 3) := by decide +kernel
theorem dX11_row_32 : decode cX11_row 32 = .ok (.bipush (-3), 2) := by decide +kernel
theorem dX11_row_34 : decode cX11_row 34 = .ok (.ireturn, 1) := by decide +kernel
theorem dX11_write_0 : decode cX11_write 0 = .ok (.iload_n 1, 1) := by decide +kernel
theorem dX11_write_1 : decode cX11_write 1 = .ok (.invokestatic 290, 3) := by decide +kernel
theorem dX11_write_4 : decode cX11_write 4 = .ok (.ifCond .ne 6, 3) := by decide +kernel
theorem dX11_write_10 : decode cX11_write 10 = .ok (.aload_n 0, 1) := by decide +kernel
theorem dX11_write_11 : decode cX11_write 11 = .ok (.getfield 61, 3) := by decide +kernel
theorem dX11_write_14 : decode cX11_write 14 = .ok (.iload_n 1, 1) := by decide +kernel
theorem dX11_write_15 : decode cX11_write 15 = .ok (.iaload, 1) := by decide +kernel
theorem dX11_write_16 : decode cX11_write 16 = .ok (.iconst (-1), 1) := by decide +kernel
theorem dX11_write_17 : decode cX11_write 17 = .ok (.if_icmp .ne 6, 3) := by decide +kernel
theorem dX11_write_23 : decode cX11_write 23 = .ok (.iload_n 2, 1) := by decide +kernel
theorem dX11_write_24 : decode cX11_write 24 = .ok (.i2l, 1) := by decide +kernel
theorem dX11_write_25 : decode cX11_write 25 = .ok (.lconst 0, 1) := by decide +kernel
theorem dX11_write_26 : decode cX11_write 26 = .ok (.aload_n 0, 1) := by decide +kernel
theorem dX11_write_27 : decode cX11_write 27 = .ok (.getfield 61, 3) := by decide +kernel
theorem dX11_write_30 : decode cX11_write 30 = .ok (.iload_n 1, 1) := by decide +kernel
theorem dX11_write_31 : decode cX11_write 31 = .ok (.iaload, 1) := by decide +kernel
theorem dX11_write_32 : decode cX11_write 32 = .ok (.iconst 1, 1) := by decide +kernel
theorem dX11_write_33 : decode cX11_write 33 = .ok (.isub, 1) := by decide +kernel
theorem dX11_write_34 : decode cX11_write 34 = .ok (.i2l, 1) := by decide +kernel
theorem dX11_write_35 : decode cX11_write 35 = .ok (.invokestatic 79, 3) := by decide +kernel
theorem dX11_write_38 : decode cX11_write 38 = .ok (.ifCond .ne 6, 3) := by decide +kernel
theorem dX11_write_44 : decode cX11_write 44 = .ok (.aload_n 0, 1) := by decide +kernel
theorem dX11_write_45 : decode cX11_write 45 = .ok (.getfield 67, 3) := by decide +kernel
theorem dX11_write_48 : decode cX11_write 48 = .ok (.bipush 60, 2) := by decide +kernel
theorem dX11_write_50 : decode cX11_write 50 = .ok (.iload_n 1, 1) := by decide +kernel
theorem dX11_write_51 : decode cX11_write 51 = .ok (.imul, 1) := by decide +kernel
theorem dX11_write_52 : decode cX11_write 52 = .ok (.iload_n 2, 1) := by decide +kernel
theorem dX11_write_53 : decode cX11_write 53 = .ok (.iadd, 1) := by decide +kernel
theorem dX11_write_54 : decode cX11_write 54 = .ok (.lload_n 3, 1) := by decide +kernel
theorem dX11_write_55 : decode cX11_write 55 = .ok (.aload_n 0, 1) := by decide +kernel
theorem dX11_write_56 : decode cX11_write 56 = .ok (.getfield 64, 3) := by decide +kernel
theorem dX11_write_59 : decode cX11_write 59 = .ok (.iload_n 1, 1) := by decide +kernel
theorem dX11_write_60 : decode cX11_write 60 = .ok (.iaload, 1) := by decide +kernel
theorem dX11_write_61 : decode cX11_write 61 = .ok (.invokestatic 458, 3) := by decide +kernel
theorem dX11_write_64 : decode cX11_write 64 = .ok (.lastore, 1) := by decide +kernel
theorem dX11_write_65 : decode cX11_write 65 = .ok (.iconst 0, 1) := by decide +kernel
theorem dX11_write_66 : decode cX11_write 66 = .ok (.ireturn, 1) := by decide +kernel
theorem dX11_write_41 : decode cX11_write 41 = .ok (.bipush (-7), 2) := by decide +kernel
theorem dX11_write_43 : decode cX11_write 43 = .ok (.ireturn, 1) := by decide +kernel
theorem dX11_write_20 : decode cX11_write 20 = .ok (.bipush (-6), 2) := by decide +kernel
theorem dX11_write_22 : decode cX11_write 22 = .ok (.ireturn, 1) := by decide +kernel
theorem dX11_write_7 : decode cX11_write 7 = .ok (.bipush (-2), 2) := by decide +kernel
theorem dX11_write_9 : decode cX11_write 9 = .ok (.ireturn, 1) := by decide +kernel
theorem dX11_paste_0 : decode cX11_paste 0 = .ok (.iload_n 1, 1) := by decide +kernel
theorem dX11_paste_1 : decode cX11_paste 1 = .ok (.invokestatic 290, 3) := by decide +kernel
theorem dX11_paste_4 : decode cX11_paste 4 = .ok (.ifCond .eq 10, 3) := by decide +kernel
theorem dX11_paste_14 : decode cX11_paste 14 = .ok (.bipush (-2), 2) := by decide +kernel
theorem dX11_paste_16 : decode cX11_paste 16 = .ok (.ireturn, 1) := by decide +kernel
theorem dX11_paste_7 : decode cX11_paste 7 = .ok (.iload_n 3, 1) := by decide +kernel
theorem dX11_paste_8 : decode cX11_paste 8 = .ok (.invokestatic 290, 3) := by decide +kernel
theorem dX11_paste_11 : decode cX11_paste 11 = .ok (.ifCond .ne 6, 3) := by decide +kernel
theorem dX11_paste_17 : decode cX11_paste 17 = .ok (.aload_n 0, 1) := by decide +kernel
theorem dX11_paste_18 : decode cX11_paste 18 = .ok (.getfield 61, 3) := by decide +kernel
theorem dX11_paste_21 : decode cX11_paste 21 = .ok (.iload_n 1, 1) := by decide +kernel
theorem dX11_paste_22 : decode cX11_paste 22 = .ok (.iaload, 1) := by decide +kernel
theorem dX11_paste_23 : decode cX11_paste 23 = .ok (.iconst (-1), 1) := by decide +kernel
theorem dX11_paste_24 : decode cX11_paste 24 = .ok (.if_icmp .eq 13, 3) := by decide +kernel
theorem dX11_paste_37 : decode cX11_paste 37 = .ok (.bipush (-6), 2) := by decide +kernel
theorem dX11_paste_39 : decode cX11_paste 39 = .ok (.ireturn, 1) := by decide +kernel
theorem dX11_paste_27 : decode cX11_paste 27 = .ok (.aload_n 0, 1) := by decide +kernel
theorem dX11_paste_28 : decode cX11_paste 28 = .ok (.getfield 61, 3) := by decide +kernel
theorem dX11_paste_31 : decode cX11_paste 31 = .ok (.iload_n 3, 1) := by decide +kernel
theorem dX11_paste_32 : decode cX11_paste 32 = .ok (.iaload, 1) := by decide +kernel
theorem dX11_paste_33 : decode cX11_paste 33 = .ok (.iconst (-1), 1) := by decide +kernel
theorem dX11_paste_34 : decode cX11_paste 34 = .ok (.if_icmp .ne 6, 3) := by decide +kernel
theorem dX11_paste_40 : decode cX11_paste 40 = .ok (.aload_n 0, 1) := by decide +kernel
theorem dX11_paste_41 : decode cX11_paste 41 = .ok (.getfield 64, 3) := by decide +kernel
theorem dX11_paste_44 : decode cX11_paste 44 = .ok (.iload_n 1, 1) := by decide +kernel
theorem dX11_paste_45 : decode cX11_paste 45 = .ok (.iaload, 1) := by decide +kernel
theorem dX11_paste_46 : decode cX11_paste 46 = .ok (.aload_n 0, 1) := by decide +kernel
theorem dX11_paste_47 : decode cX11_paste 47 = .ok (.getfield 64, 3) := by decide +kernel
theorem dX11_paste_50 : decode cX11_paste 50 = .ok (.iload_n 3, 1) := by decide +kernel
theorem dX11_paste_51 : decode cX11_paste 51 = .ok (.iaload, 1) := by decide +kernel
theorem dX11_paste_52 : decode cX11_paste 52 = .ok (.if_icmp .eq 6, 3) := by decide +kernel
theorem dX11_paste_58 : decode cX11_paste 58 = .ok (.iload_n 2, 1) := by decide +kernel
theorem dX11_paste_59 : decode cX11_paste 59 = .ok (.ifCond .lt 48, 3) := by decide +kernel
theorem dX11_paste_107 : decode cX11_paste 107 = .ok (.bipush (-7), 2) := by decide +kernel
theorem dX11_paste_109 : decode cX11_paste 109 = .ok (.ireturn, 1) := by decide +kernel
theorem dX11_paste_62 : decode cX11_paste 62 = .ok (.iload 4, 2) := by decide +kernel
theorem dX11_paste_64 : decode cX11_paste 64 = .ok (.ifCond .lt 43, 3) := by decide +kernel
theorem dX11_paste_67 : decode cX11_paste 67 = .ok (.iload 5, 2) := by decide +kernel
theorem dX11_paste_69 : decode cX11_paste 69 = .ok (.ifCond .lt 38, 3) := by decide +kernel
theorem dX11_paste_72 : decode cX11_paste 72 = .ok (.iload_n 2, 1) := by decide +kernel
theorem dX11_paste_73 : decode cX11_paste 73 = .ok (.i2l, 1) := by decide +kernel
theorem dX11_paste_74 : decode cX11_paste 74 = .ok (.iload 5, 2) := by decide +kernel
theorem dX11_paste_76 : decode cX11_paste 76 = .ok (.i2l, 1) := by decide +kernel
theorem dX11_paste_77 : decode cX11_paste 77 = .ok (.ladd, 1) := by decide +kernel
theorem dX11_paste_78 : decode cX11_paste 78 = .ok (.aload_n 0, 1) := by decide +kernel
theorem dX11_paste_79 : decode cX11_paste 79 = .ok (.getfield 61, 3) := by decide +kernel
theorem dX11_paste_82 : decode cX11_paste 82 = .ok (.iload_n 1, 1) := by decide +kernel
theorem dX11_paste_83 : decode cX11_paste 83 = .ok (.iaload, 1) := by decide +kernel
theorem dX11_paste_84 : decode cX11_paste 84 = .ok (.i2l, 1) := by decide +kernel
theorem dX11_paste_85 : decode cX11_paste 85 = .ok (.lcmp, 1) := by decide +kernel
theorem dX11_paste_86 : decode cX11_paste 86 = .ok (.ifCond .gt 21, 3) := by decide +kernel
theorem dX11_paste_89 : decode cX11_paste 89 = .ok (.iload 4, 2) := by decide +kernel
theorem dX11_paste_91 : decode cX11_paste 91 = .ok (.i2l, 1) := by decide +kernel
theorem dX11_paste_92 : decode cX11_paste 92 = .ok (.iload 5, 2) := by decide +kernel
theorem dX11_paste_94 : decode cX11_paste 94 = .ok (.i2l, 1) := by decide +kernel
theorem dX11_paste_95 : decode cX11_paste 95 = .ok (.ladd, 1) := by decide +kernel
theorem dX11_paste_96 : decode cX11_paste 96 = .ok (.aload_n 0, 1) := by decide +kernel
theorem dX11_paste_97 : decode cX11_paste 97 = .ok (.getfield 61, 3) := by decide +kernel
theorem dX11_paste_100 : decode cX11_paste 100 = .ok (.iload_n 3, 1) := by decide +kernel
theorem dX11_paste_101 : decode cX11_paste 101 = .ok (.iaload, 1) := by decide +kernel
theorem dX11_paste_102 : decode cX11_paste 102 = .ok (.i2l, 1) := by decide +kernel
theorem dX11_paste_103 : decode cX11_paste 103 = .ok (.lcmp, 1) := by decide +kernel
theorem dX11_paste_104 : decode cX11_paste 104 = .ok (.ifCond .le 6, 3) := by decide +kernel
theorem dX11_paste_110 : decode cX11_paste 110 = .ok (.iconst 0, 1) := by decide +kernel
theorem dX11_paste_111 : decode cX11_paste 111 = .ok (.istore 6, 2) := by decide +kernel
theorem dX11_paste_113 : decode cX11_paste 113 = .ok (.iload 6, 2) := by decide +kernel
theorem dX11_paste_115 : decode cX11_paste 115 = .ok (.iload 5, 2) := by decide +kernel
theorem dX11_paste_117 : decode cX11_paste 117 = .ok (.if_icmp .ge 30, 3) := by decide +kernel
theorem dX11_paste_147 : decode cX11_paste 147 = .ok (.iconst 0, 1) := by decide +kernel
theorem dX11_paste_148 : decode cX11_paste 148 = .ok (.istore 6, 2) := by decide +kernel
theorem dX11_paste_150 : decode cX11_paste 150 = .ok (.iload 6, 2) := by decide +kernel
theorem dX11_paste_152 : decode cX11_paste 152 = .ok (.iload 5, 2) := by decide +kernel
theorem dX11_paste_154 : decode cX11_paste 154 = .ok (.if_icmp .ge 31, 3) := by decide +kernel
theorem dX11_paste_185 : decode cX11_paste 185 = .ok (.iconst 0, 1) := by decide +kernel
theorem dX11_paste_186 : decode cX11_paste 186 = .ok (.ireturn, 1) := by decide +kernel
theorem dX11_paste_157 : decode cX11_paste 157 = .ok (.aload_n 0, 1) := by decide +kernel
theorem dX11_paste_158 : decode cX11_paste 158 = .ok (.getfield 67, 3) := by decide +kernel
theorem dX11_paste_161 : decode cX11_paste 161 = .ok (.bipush 60, 2) := by decide +kernel
theorem dX11_paste_163 : decode cX11_paste 163 = .ok (.iload_n 3, 1) := by decide +kernel
theorem dX11_paste_164 : decode cX11_paste 164 = .ok (.imul, 1) := by decide +kernel
theorem dX11_paste_165 : decode cX11_paste 165 = .ok (.iload 4, 2) := by decide +kernel
theorem dX11_paste_167 : decode cX11_paste 167 = .ok (.iadd, 1) := by decide +kernel
theorem dX11_paste_168 : decode cX11_paste 168 = .ok (.iload 6, 2) := by decide +kernel
theorem dX11_paste_170 : decode cX11_paste 170 = .ok (.iadd, 1) := by decide +kernel
theorem dX11_paste_171 : decode cX11_paste 171 = .ok (.aload_n 0, 1) := by decide +kernel
theorem dX11_paste_172 : decode cX11_paste 172 = .ok (.getfield 71, 3) := by decide +kernel
theorem dX11_paste_175 : decode cX11_paste 175 = .ok (.iload 6, 2) := by decide +kernel
theorem dX11_paste_177 : decode cX11_paste 177 = .ok (.laload, 1) := by decide +kernel
theorem dX11_paste_178 : decode cX11_paste 178 = .ok (.lastore, 1) := by decide +kernel
theorem dX11_paste_179 : decode cX11_paste 179 = .ok (.iinc 6 1, 3) := by decide +kernel
theorem dX11_paste_182 : decode cX11_paste 182 = .ok (.goto (-32), 3) := by decide +kernel
theorem dX11_paste_120 : decode cX11_paste 120 = .ok (.aload_n 0, 1) := by decide +kernel
theorem dX11_paste_121 : decode cX11_paste 121 = .ok (.getfield 71, 3) := by decide +kernel
theorem dX11_paste_124 : decode cX11_paste 124 = .ok (.iload 6, 2) := by decide +kernel
theorem dX11_paste_126 : decode cX11_paste 126 = .ok (.aload_n 0, 1) := by decide +kernel
theorem dX11_paste_127 : decode cX11_paste 127 = .ok (.getfield 67, 3) := by decide +kernel
theorem dX11_paste_130 : decode cX11_paste 130 = .ok (.bipush 60, 2) := by decide +kernel
theorem dX11_paste_132 : decode cX11_paste 132 = .ok (.iload_n 1, 1) := by decide +kernel
theorem dX11_paste_133 : decode cX11_paste 133 = .ok (.imul, 1) := by decide +kernel
theorem dX11_paste_134 : decode cX11_paste 134 = .ok (.iload_n 2, 1) := by decide +kernel
theorem dX11_paste_135 : decode cX11_paste 135 = .ok (.iadd, 1) := by decide +kernel
theorem dX11_paste_136 : decode cX11_paste 136 = .ok (.iload 6, 2) := by decide +kernel
theorem dX11_paste_138 : decode cX11_paste 138 = .ok (.iadd, 1) := by decide +kernel
theorem dX11_paste_139 : decode cX11_paste 139 = .ok (.laload, 1) := by decide +kernel
theorem dX11_paste_140 : decode cX11_paste 140 = .ok (.lastore, 1) := by decide +kernel
theorem dX11_paste_141 : decode cX11_paste 141 = .ok (.iinc 6 1, 3) := by decide +kernel
theorem dX11_paste_144 : decode cX11_paste 144 = .ok (.goto (-31), 3) := by decide +kernel
theorem dX11_paste_55 : decode cX11_paste 55 = .ok (.bipush (-8), 2) := by decide +kernel
theorem dX11_paste_57 : decode cX11_paste 57 = .ok (.ireturn, 1) := by decide +kernel
theorem dX11_asksRound_0 : decode cX11_asksRound 0 = .ok (.iload_n 1, 1) := by decide +kernel
theorem dX11_asksRound_1 : decode cX11_asksRound 1 = .ok (.invokestatic 290, 3) := by decide +kernel
theorem dX11_asksRound_4 : decode cX11_asksRound 4 = .ok (.ifCond .eq 14, 3) := by decide +kernel
theorem dX11_asksRound_18 : decode cX11_asksRound 18 = .ok (.bipush (-2), 2) := by decide +kernel
theorem dX11_asksRound_20 : decode cX11_asksRound 20 = .ok (.ireturn, 1) := by decide +kernel
theorem dX11_asksRound_7 : decode cX11_asksRound 7 = .ok (.aload_n 0, 1) := by decide +kernel
theorem dX11_asksRound_8 : decode cX11_asksRound 8 = .ok (.invokevirtual 83, 3) := by decide +kernel
theorem dX11_asksRound_11 : decode cX11_asksRound 11 = .ok (.ifCond .eq 7, 3) := by decide +kernel
theorem dX11_asksRound_14 : decode cX11_asksRound 14 = .ok (.iload_n 2, 1) := by decide +kernel
theorem dX11_asksRound_15 : decode cX11_asksRound 15 = .ok (.ifCond .ne 6, 3) := by decide +kernel
theorem dX11_asksRound_21 : decode cX11_asksRound 21 = .ok (.aload_n 0, 1) := by decide +kernel
theorem dX11_asksRound_22 : decode cX11_asksRound 22 = .ok (.getfield 61, 3) := by decide +kernel
theorem dX11_asksRound_25 : decode cX11_asksRound 25 = .ok (.iload_n 1, 1) := by decide +kernel
theorem dX11_asksRound_26 : decode cX11_asksRound 26 = .ok (.iaload, 1) := by decide +kernel
theorem dX11_asksRound_27 : decode cX11_asksRound 27 = .ok (.iconst (-1), 1) := by decide +kernel
theorem dX11_asksRound_28 : decode cX11_asksRound 28 = .ok (.if_icmp .ne 6, 3) := by decide +kernel
theorem dX11_asksRound_34 : decode cX11_asksRound 34 = .ok (.iconst 0, 1) := by decide +kernel
theorem dX11_asksRound_35 : decode cX11_asksRound 35 = .ok (.istore_n 3, 1) := by decide +kernel
theorem dX11_asksRound_36 : decode cX11_asksRound 36 = .ok (.iload_n 3, 1) := by decide +kernel
theorem dX11_asksRound_37 : decode cX11_asksRound 37 = .ok (.aload_n 0, 1) := by decide +kernel
theorem dX11_asksRound_38 : decode cX11_asksRound 38 = .ok (.getfield 61, 3) := by decide +kernel
theorem dX11_asksRound_41 : decode cX11_asksRound 41 = .ok (.iload_n 1, 1) := by decide +kernel
theorem dX11_asksRound_42 : decode cX11_asksRound 42 = .ok (.iaload, 1) := by decide +kernel
theorem dX11_asksRound_43 : decode cX11_asksRound 43 = .ok (.if_icmp .ge 25, 3) := by decide +kernel
theorem dX11_asksRound_68 : decode cX11_asksRound 68 = .ok (.iconst 0, 1) := by decide +kernel
theorem dX11_asksRound_69 : decode cX11_asksRound 69 = .ok (.ireturn, 1) := by decide +kernel
theorem dX11_asksRound_46 : decode cX11_asksRound 46 = .ok (.aload_n 0, 1) := by decide +kernel
theorem dX11_asksRound_47 : decode cX11_asksRound 47 = .ok (.aload_n 0, 1) := by decide +kernel
theorem dX11_asksRound_48 : decode cX11_asksRound 48 = .ok (.iload_n 1, 1) := by decide +kernel
theorem dX11_asksRound_49 : decode cX11_asksRound 49 = .ok (.iload_n 3, 1) := by decide +kernel
theorem dX11_asksRound_50 : decode cX11_asksRound 50 = .ok (.invokevirtual 286, 3) := by decide +kernel
theorem dX11_asksRound_53 : decode cX11_asksRound 53 = .ok (.invokevirtual 275, 3) := by decide +kernel
theorem dX11_asksRound_56 : decode cX11_asksRound 56 = .ok (.ifCond .ne 6, 3) := by decide +kernel
theorem dX11_asksRound_62 : decode cX11_asksRound 62 = .ok (.iinc 3 1, 3) := by decide +kernel
theorem dX11_asksRound_65 : decode cX11_asksRound 65 = .ok (.goto (-29), 3) := by decide +kernel
theorem dX11_asksRound_59 : decode cX11_asksRound 59 = .ok (.bipush (-2), 2) := by decide +kernel
theorem dX11_asksRound_61 : decode cX11_asksRound 61 = .ok (.ireturn, 1) := by decide +kernel
theorem dX11_asksRound_31 : decode cX11_asksRound 31 = .ok (.bipush (-6), 2) := by decide +kernel
theorem dX11_asksRound_33 : decode cX11_asksRound 33 = .ok (.ireturn, 1) := by decide +kernel
theorem dX11_round_0 : decode cX11_round 0 = .ok (.aload_n 0, 1) := by decide +kernel
theorem dX11_round_1 : decode cX11_round 1 = .ok (.iload_n 1, 1) := by decide +kernel
theorem dX11_round_2 : decode cX11_round 2 = .ok (.iconst 1, 1) := by decide +kernel
theorem dX11_round_3 : decode cX11_round 3 = .ok (.invokevirtual 303, 3) := by decide +kernel
theorem dX11_round_6 : decode cX11_round 6 = .ok (.istore_n 2, 1) := by decide +kernel
theorem dX11_round_7 : decode cX11_round 7 = .ok (.iload_n 2, 1) := by decide +kernel
theorem dX11_round_8 : decode cX11_round 8 = .ok (.ifCond .ge 7, 3) := by decide +kernel
theorem dX11_round_15 : decode cX11_round 15 = .ok (.aload_n 0, 1) := by decide +kernel
theorem dX11_round_16 : decode cX11_round 16 = .ok (.iload_n 1, 1) := by decide +kernel
theorem dX11_round_17 : decode cX11_round 17 = .ok (.aload_n 0, 1) := by decide +kernel
theorem dX11_round_18 : decode cX11_round 18 = .ok (.getfield 61, 3) := by decide +kernel
theorem dX11_round_21 : decode cX11_round 21 = .ok (.iload_n 1, 1) := by decide +kernel
theorem dX11_round_22 : decode cX11_round 22 = .ok (.iaload, 1) := by decide +kernel
theorem dX11_round_23 : decode cX11_round 23 = .ok (.iconst 0, 1) := by decide +kernel
theorem dX11_round_24 : decode cX11_round 24 = .ok (.invokevirtual 296, 3) := by decide +kernel
theorem dX11_round_27 : decode cX11_round 27 = .ok (.ireturn, 1) := by decide +kernel
theorem dX11_round_11 : decode cX11_round 11 = .ok (.iload_n 2, 1) := by decide +kernel
theorem dX11_round_12 : decode cX11_round 12 = .ok (.goto 15, 3) := by decide +kernel
theorem dX11_behind_0 : decode cX11_behind 0 = .ok (.aload_n 0, 1) := by decide +kernel
theorem dX11_behind_1 : decode cX11_behind 1 = .ok (.iload_n 1, 1) := by decide +kernel
theorem dX11_behind_2 : decode cX11_behind 2 = .ok (.aload_n 0, 1) := by decide +kernel
theorem dX11_behind_3 : decode cX11_behind 3 = .ok (.iload_n 2, 1) := by decide +kernel
theorem dX11_behind_4 : decode cX11_behind 4 = .ok (.i2l, 1) := by decide +kernel
theorem dX11_behind_5 : decode cX11_behind 5 = .ok (.invokevirtual 89, 3) := by decide +kernel
theorem dX11_behind_8 : decode cX11_behind 8 = .ok (.invokevirtual 303, 3) := by decide +kernel
theorem dX11_behind_11 : decode cX11_behind 11 = .ok (.istore_n 3, 1) := by decide +kernel
theorem dX11_behind_12 : decode cX11_behind 12 = .ok (.iload_n 3, 1) := by decide +kernel
theorem dX11_behind_13 : decode cX11_behind 13 = .ok (.ifCond .ge 5, 3) := by decide +kernel
theorem dX11_behind_18 : decode cX11_behind 18 = .ok (.aload_n 0, 1) := by decide +kernel
theorem dX11_behind_19 : decode cX11_behind 19 = .ok (.iload_n 1, 1) := by decide +kernel
theorem dX11_behind_20 : decode cX11_behind 20 = .ok (.aload_n 0, 1) := by decide +kernel
theorem dX11_behind_21 : decode cX11_behind 21 = .ok (.getfield 61, 3) := by decide +kernel
theorem dX11_behind_24 : decode cX11_behind 24 = .ok (.iload_n 1, 1) := by decide +kernel
theorem dX11_behind_25 : decode cX11_behind 25 = .ok (.iaload, 1) := by decide +kernel
theorem dX11_behind_26 : decode cX11_behind 26 = .ok (.iconst 0, 1) := by decide +kernel
theorem dX11_behind_27 : decode cX11_behind 27 = .ok (.invokevirtual 296, 3) := by decide +kernel
theorem dX11_behind_30 : decode cX11_behind 30 = .ok (.pop, 1) := by decide +kernel
theorem dX11_behind_31 : decode cX11_behind 31 = .ok (.aload_n 0, 1) := by decide +kernel
theorem dX11_behind_32 : decode cX11_behind 32 = .ok (.getfield 34, 3) := by decide +kernel
theorem dX11_behind_35 : decode cX11_behind 35 = .ok (.iload_n 2, 1) := by decide +kernel
theorem dX11_behind_36 : decode cX11_behind 36 = .ok (.iaload, 1) := by decide +kernel
theorem dX11_behind_37 : decode cX11_behind 37 = .ok (.ireturn, 1) := by decide +kernel
theorem dX11_behind_16 : decode cX11_behind 16 = .ok (.iload_n 3, 1) := by decide +kernel
theorem dX11_behind_17 : decode cX11_behind 17 = .ok (.ireturn, 1) := by decide +kernel
theorem dX11_disturbs_0 : decode cX11_disturbs 0 = .ok (.aload_n 0, 1) := by decide +kernel
theorem dX11_disturbs_1 : decode cX11_disturbs 1 = .ok (.iload_n 1, 1) := by decide +kernel
theorem dX11_disturbs_2 : decode cX11_disturbs 2 = .ok (.iconst 1, 1) := by decide +kernel
theorem dX11_disturbs_3 : decode cX11_disturbs 3 = .ok (.invokevirtual 303, 3) := by decide +kernel
theorem dX11_disturbs_6 : decode cX11_disturbs 6 = .ok (.istore_n 2, 1) := by decide +kernel
theorem dX11_disturbs_7 : decode cX11_disturbs 7 = .ok (.iload_n 2, 1) := by decide +kernel
theorem dX11_disturbs_8 : decode cX11_disturbs 8 = .ok (.ifCond .ge 5, 3) := by decide +kernel
theorem dX11_disturbs_13 : decode cX11_disturbs 13 = .ok (.iconst 0, 1) := by decide +kernel
theorem dX11_disturbs_14 : decode cX11_disturbs 14 = .ok (.istore_n 3, 1) := by decide +kernel
theorem dX11_disturbs_15 : decode cX11_disturbs 15 = .ok (.iconst 0, 1) := by decide +kernel
theorem dX11_disturbs_16 : decode cX11_disturbs 16 = .ok (.istore 4, 2) := by decide +kernel
theorem dX11_disturbs_18 : decode cX11_disturbs 18 = .ok (.iload 4, 2) := by decide +kernel
theorem dX11_disturbs_20 : decode cX11_disturbs 20 = .ok (.aload_n 0, 1) := by decide +kernel
theorem dX11_disturbs_21 : decode cX11_disturbs 21 = .ok (.getfield 61, 3) := by decide +kernel
theorem dX11_disturbs_24 : decode cX11_disturbs 24 = .ok (.iload_n 1, 1) := by decide +kernel
theorem dX11_disturbs_25 : decode cX11_disturbs 25 = .ok (.iaload, 1) := by decide +kernel
theorem dX11_disturbs_26 : decode cX11_disturbs 26 = .ok (.if_icmp .ge 39, 3) := by decide +kernel
theorem dX11_disturbs_65 : decode cX11_disturbs 65 = .ok (.iload_n 3, 1) := by decide +kernel
theorem dX11_disturbs_66 : decode cX11_disturbs 66 = .ok (.ireturn, 1) := by decide +kernel
theorem dX11_disturbs_29 : decode cX11_disturbs 29 = .ok (.iload_n 3, 1) := by decide +kernel
theorem dX11_disturbs_30 : decode cX11_disturbs 30 = .ok (.aload_n 0, 1) := by decide +kernel
theorem dX11_disturbs_31 : decode cX11_disturbs 31 = .ok (.iload_n 1, 1) := by decide +kernel
theorem dX11_disturbs_32 : decode cX11_disturbs 32 = .ok (.iload 4, 2) := by decide +kernel
theorem dX11_disturbs_34 : decode cX11_disturbs 34 = .ok (.invokevirtual 293, 3) := by decide +kernel
theorem dX11_disturbs_37 : decode cX11_disturbs 37 = .ok (.iconst (-1), 1) := by decide +kernel
theorem dX11_disturbs_57 : decode cX11_disturbs 57 = .ok (.iadd, 1) := by decide +kernel
theorem dX11_disturbs_58 : decode cX11_disturbs 58 = .ok (.istore_n 3, 1) := by decide +kernel
theorem dX11_disturbs_59 : decode cX11_disturbs 59 = .ok (.iinc 4 1, 3) := by decide +kernel
theorem dX11_disturbs_62 : decode cX11_disturbs 62 = .ok (.goto (-44), 3) := by decide +kernel
theorem dX11_disturbs_38 : decode cX11_disturbs 38 = .ok (.if_icmp .ne 7, 3) := by decide +kernel
theorem dX11_disturbs_45 : decode cX11_disturbs 45 = .ok (.aload_n 0, 1) := by decide +kernel
theorem dX11_disturbs_46 : decode cX11_disturbs 46 = .ok (.aload_n 0, 1) := by decide +kernel
theorem dX11_disturbs_47 : decode cX11_disturbs 47 = .ok (.iload_n 1, 1) := by decide +kernel
theorem dX11_disturbs_48 : decode cX11_disturbs 48 = .ok (.iload 4, 2) := by decide +kernel
theorem dX11_disturbs_50 : decode cX11_disturbs 50 = .ok (.invokevirtual 293, 3) := by decide +kernel
theorem dX11_disturbs_53 : decode cX11_disturbs 53 = .ok (.iconst 0, 1) := by decide +kernel
theorem dX11_disturbs_54 : decode cX11_disturbs 54 = .ok (.invokevirtual 227, 3) := by decide +kernel
theorem dX11_disturbs_41 : decode cX11_disturbs 41 = .ok (.iconst 0, 1) := by decide +kernel
theorem dX11_disturbs_42 : decode cX11_disturbs 42 = .ok (.goto 15, 3) := by decide +kernel
theorem dX11_disturbs_11 : decode cX11_disturbs 11 = .ok (.iload_n 2, 1) := by decide +kernel
theorem dX11_disturbs_12 : decode cX11_disturbs 12 = .ok (.ireturn, 1) := by decide +kernel
theorem dX11_gain_0 : decode cX11_gain 0 = .ok (.aload_n 0, 1) := by decide +kernel
theorem dX11_gain_1 : decode cX11_gain 1 = .ok (.iload_n 1, 1) := by decide +kernel
theorem dX11_gain_2 : decode cX11_gain 2 = .ok (.iconst 1, 1) := by decide +kernel
theorem dX11_gain_3 : decode cX11_gain 3 = .ok (.invokevirtual 303, 3) := by decide +kernel
theorem dX11_gain_6 : decode cX11_gain 6 = .ok (.istore_n 2, 1) := by decide +kernel
theorem dX11_gain_7 : decode cX11_gain 7 = .ok (.iload_n 2, 1) := by decide +kernel
theorem dX11_gain_8 : decode cX11_gain 8 = .ok (.bipush (-2), 2) := by decide +kernel
theorem dX11_gain_10 : decode cX11_gain 10 = .ok (.if_icmp .ne 9, 3) := by decide +kernel
theorem dX11_gain_19 : decode cX11_gain 19 = .ok (.iload_n 2, 1) := by decide +kernel
theorem dX11_gain_20 : decode cX11_gain 20 = .ok (.bipush (-6), 2) := by decide +kernel
theorem dX11_gain_22 : decode cX11_gain 22 = .ok (.if_icmp .ne 9, 3) := by decide +kernel
theorem dX11_gain_31 : decode cX11_gain 31 = .ok (.aload_n 0, 1) := by decide +kernel
theorem dX11_gain_32 : decode cX11_gain 32 = .ok (.iload_n 1, 1) := by decide +kernel
theorem dX11_gain_33 : decode cX11_gain 33 = .ok (.aload_n 0, 1) := by decide +kernel
theorem dX11_gain_34 : decode cX11_gain 34 = .ok (.getfield 61, 3) := by decide +kernel
theorem dX11_gain_37 : decode cX11_gain 37 = .ok (.iload_n 1, 1) := by decide +kernel
theorem dX11_gain_38 : decode cX11_gain 38 = .ok (.iaload, 1) := by decide +kernel
theorem dX11_gain_39 : decode cX11_gain 39 = .ok (.iconst 0, 1) := by decide +kernel
theorem dX11_gain_40 : decode cX11_gain 40 = .ok (.invokevirtual 309, 3) := by decide +kernel
theorem dX11_gain_43 : decode cX11_gain 43 = .ok (.ireturn, 1) := by decide +kernel
theorem dX11_gain_25 : decode cX11_gain 25 = .ok (.ldc_w 308, 3) := by decide +kernel
theorem dX11_gain_28 : decode cX11_gain 28 = .ok (.goto 15, 3) := by decide +kernel
theorem dX11_gain_13 : decode cX11_gain 13 = .ok (.ldc_w 307, 3) := by decide +kernel
theorem dX11_gain_16 : decode cX11_gain 16 = .ok (.goto 27, 3) := by decide +kernel
theorem dX11_stop_0 : decode cX11_stop 0 = .ok (.aload_n 0, 1) := by decide +kernel
theorem dX11_stop_1 : decode cX11_stop 1 = .ok (.iload_n 1, 1) := by decide +kernel
theorem dX11_stop_2 : decode cX11_stop 2 = .ok (.iconst 1, 1) := by decide +kernel
theorem dX11_stop_3 : decode cX11_stop 3 = .ok (.invokevirtual 303, 3) := by decide +kernel
theorem dX11_stop_6 : decode cX11_stop 6 = .ok (.istore_n 2, 1) := by decide +kernel
theorem dX11_stop_7 : decode cX11_stop 7 = .ok (.iload_n 2, 1) := by decide +kernel
theorem dX11_stop_8 : decode cX11_stop 8 = .ok (.ifCond .ge 5, 3) := by decide +kernel
theorem dX11_stop_13 : decode cX11_stop 13 = .ok (.iconst 0, 1) := by decide +kernel
theorem dX11_stop_14 : decode cX11_stop 14 = .ok (.istore_n 3, 1) := by decide +kernel
theorem dX11_stop_15 : decode cX11_stop 15 = .ok (.iconst 1, 1) := by decide +kernel
theorem dX11_stop_16 : decode cX11_stop 16 = .ok (.istore 4, 2) := by decide +kernel
theorem dX11_stop_18 : decode cX11_stop 18 = .ok (.iload 4, 2) := by decide +kernel
theorem dX11_stop_20 : decode cX11_stop 20 = .ok (.aload_n 0, 1) := by decide +kernel
theorem dX11_stop_21 : decode cX11_stop 21 = .ok (.getfield 61, 3) := by decide +kernel
theorem dX11_stop_24 : decode cX11_stop 24 = .ok (.iload_n 1, 1) := by decide +kernel
theorem dX11_stop_25 : decode cX11_stop 25 = .ok (.iaload, 1) := by decide +kernel
theorem dX11_stop_26 : decode cX11_stop 26 = .ok (.if_icmp .gt 34, 3) := by decide +kernel
theorem dX11_stop_60 : decode cX11_stop 60 = .ok (.iload_n 3, 1) := by decide +kernel
theorem dX11_stop_61 : decode cX11_stop 61 = .ok (.ireturn, 1) := by decide +kernel
theorem dX11_stop_29 : decode cX11_stop 29 = .ok (.aload_n 0, 1) := by decide +kernel
theorem dX11_stop_30 : decode cX11_stop 30 = .ok (.iload_n 1, 1) := by decide +kernel
theorem dX11_stop_31 : decode cX11_stop 31 = .ok (.iload 4, 2) := by decide +kernel
theorem dX11_stop_33 : decode cX11_stop 33 = .ok (.iconst 0, 1) := by decide +kernel
theorem dX11_stop_34 : decode cX11_stop 34 = .ok (.invokevirtual 309, 3) := by decide +kernel
theorem dX11_stop_37 : decode cX11_stop 37 = .ok (.aload_n 0, 1) := by decide +kernel
theorem dX11_stop_38 : decode cX11_stop 38 = .ok (.iload_n 1, 1) := by decide +kernel
theorem dX11_stop_39 : decode cX11_stop 39 = .ok (.iload_n 3, 1) := by decide +kernel
theorem dX11_stop_40 : decode cX11_stop 40 = .ok (.iconst 0, 1) := by decide +kernel
theorem dX11_stop_41 : decode cX11_stop 41 = .ok (.invokevirtual 309, 3) := by decide +kernel
theorem dX11_stop_53 : decode cX11_stop 53 = .ok (.istore_n 3, 1) := by decide +kernel
theorem dX11_stop_54 : decode cX11_stop 54 = .ok (.iinc 4 1, 3) := by decide +kernel
theorem dX11_stop_57 : decode cX11_stop 57 = .ok (.goto (-39), 3) := by decide +kernel
theorem dX11_stop_44 : decode cX11_stop 44 = .ok (.if_icmp .le 8, 3) := by decide +kernel
theorem dX11_stop_52 : decode cX11_stop 52 = .ok (.iload_n 3, 1) := by decide +kernel
theorem dX11_stop_47 : decode cX11_stop 47 = .ok (.iload 4, 2) := by decide +kernel
theorem dX11_stop_49 : decode cX11_stop 49 = .ok (.goto 4, 3) := by decide +kernel
theorem dX11_stop_11 : decode cX11_stop 11 = .ok (.iload_n 2, 1) := by decide +kernel
theorem dX11_stop_12 : decode cX11_stop 12 = .ok (.ireturn, 1) := by decide +kernel
theorem dX11_doubt_0 : decode cX11_doubt 0 = .ok (.aload_n 0, 1) := by decide +kernel
theorem dX11_doubt_1 : decode cX11_doubt 1 = .ok (.iload_n 1, 1) := by decide +kernel
theorem dX11_doubt_2 : decode cX11_doubt 2 = .ok (.iload_n 2, 1) := by decide +kernel
theorem dX11_doubt_3 : decode cX11_doubt 3 = .ok (.i2l, 1) := by decide +kernel
theorem dX11_doubt_4 : decode cX11_doubt 4 = .ok (.lconst 0, 1) := by decide +kernel
theorem dX11_doubt_5 : decode cX11_doubt 5 = .ok (.ldc2_w 273, 3) := by decide +kernel
theorem dX11_doubt_8 : decode cX11_doubt 8 = .ok (.invokestatic 79, 3) := by decide +kernel
theorem dX11_doubt_11 : decode cX11_doubt 11 = .ok (.invokevirtual 303, 3) := by decide +kernel
theorem dX11_doubt_14 : decode cX11_doubt 14 = .ok (.istore_n 3, 1) := by decide +kernel
theorem dX11_doubt_15 : decode cX11_doubt 15 = .ok (.iload_n 3, 1) := by decide +kernel
theorem dX11_doubt_16 : decode cX11_doubt 16 = .ok (.ifCond .ge 5, 3) := by decide +kernel
theorem dX11_doubt_21 : decode cX11_doubt 21 = .ok (.aload_n 0, 1) := by decide +kernel
theorem dX11_doubt_22 : decode cX11_doubt 22 = .ok (.invokevirtual 278, 3) := by decide +kernel
theorem dX11_doubt_25 : decode cX11_doubt 25 = .ok (.iconst 0, 1) := by decide +kernel
theorem dX11_doubt_26 : decode cX11_doubt 26 = .ok (.istore 4, 2) := by decide +kernel
theorem dX11_doubt_28 : decode cX11_doubt 28 = .ok (.iload 4, 2) := by decide +kernel
theorem dX11_doubt_30 : decode cX11_doubt 30 = .ok (.aload_n 0, 1) := by decide +kernel
theorem dX11_doubt_31 : decode cX11_doubt 31 = .ok (.getfield 61, 3) := by decide +kernel
theorem dX11_doubt_34 : decode cX11_doubt 34 = .ok (.iload_n 1, 1) := by decide +kernel
theorem dX11_doubt_35 : decode cX11_doubt 35 = .ok (.iaload, 1) := by decide +kernel
theorem dX11_doubt_36 : decode cX11_doubt 36 = .ok (.if_icmp .ge 42, 3) := by decide +kernel
theorem dX11_doubt_78 : decode cX11_doubt 78 = .ok (.iconst (-1), 1) := by decide +kernel
theorem dX11_doubt_79 : decode cX11_doubt 79 = .ok (.ireturn, 1) := by decide +kernel
theorem dX11_doubt_39 : decode cX11_doubt 39 = .ok (.aload_n 0, 1) := by decide +kernel
theorem dX11_doubt_40 : decode cX11_doubt 40 = .ok (.aload_n 0, 1) := by decide +kernel
theorem dX11_doubt_41 : decode cX11_doubt 41 = .ok (.invokevirtual 270, 3) := by decide +kernel
theorem dX11_doubt_44 : decode cX11_doubt 44 = .ok (.invokevirtual 281, 3) := by decide +kernel
theorem dX11_doubt_47 : decode cX11_doubt 47 = .ok (.iload_n 2, 1) := by decide +kernel
theorem dX11_doubt_48 : decode cX11_doubt 48 = .ok (.if_icmp .ge 6, 3) := by decide +kernel
theorem dX11_doubt_54 : decode cX11_doubt 54 = .ok (.aload_n 0, 1) := by decide +kernel
theorem dX11_doubt_55 : decode cX11_doubt 55 = .ok (.aload_n 0, 1) := by decide +kernel
theorem dX11_doubt_56 : decode cX11_doubt 56 = .ok (.iload_n 1, 1) := by decide +kernel
theorem dX11_doubt_57 : decode cX11_doubt 57 = .ok (.iload 4, 2) := by decide +kernel
theorem dX11_doubt_59 : decode cX11_doubt 59 = .ok (.invokevirtual 293, 3) := by decide +kernel
theorem dX11_doubt_62 : decode cX11_doubt 62 = .ok (.iconst 0, 1) := by decide +kernel
theorem dX11_doubt_63 : decode cX11_doubt 63 = .ok (.invokevirtual 264, 3) := by decide +kernel
theorem dX11_doubt_66 : decode cX11_doubt 66 = .ok (.pop, 1) := by decide +kernel
theorem dX11_doubt_67 : decode cX11_doubt 67 = .ok (.aload_n 0, 1) := by decide +kernel
theorem dX11_doubt_68 : decode cX11_doubt 68 = .ok (.iconst (-1), 1) := by decide +kernel
theorem dX11_doubt_69 : decode cX11_doubt 69 = .ok (.invokevirtual 267, 3) := by decide +kernel
theorem dX11_doubt_72 : decode cX11_doubt 72 = .ok (.iinc 4 1, 3) := by decide +kernel
theorem dX11_doubt_75 : decode cX11_doubt 75 = .ok (.goto (-47), 3) := by decide +kernel
theorem dX11_doubt_51 : decode cX11_doubt 51 = .ok (.iload 4, 2) := by decide +kernel
theorem dX11_doubt_53 : decode cX11_doubt 53 = .ok (.ireturn, 1) := by decide +kernel
theorem dX11_doubt_19 : decode cX11_doubt 19 = .ok (.iload_n 3, 1) := by decide +kernel
theorem dX11_doubt_20 : decode cX11_doubt 20 = .ok (.ireturn, 1) := by decide +kernel
theorem dX11_walks_0 : decode cX11_walks 0 = .ok (.aload_n 0, 1) := by decide +kernel
theorem dX11_walks_1 : decode cX11_walks 1 = .ok (.iload_n 1, 1) := by decide +kernel
theorem dX11_walks_2 : decode cX11_walks 2 = .ok (.aload_n 0, 1) := by decide +kernel
theorem dX11_walks_3 : decode cX11_walks 3 = .ok (.iload_n 2, 1) := by decide +kernel
theorem dX11_walks_4 : decode cX11_walks 4 = .ok (.i2l, 1) := by decide +kernel
theorem dX11_walks_5 : decode cX11_walks 5 = .ok (.invokevirtual 89, 3) := by decide +kernel
theorem dX11_walks_8 : decode cX11_walks 8 = .ok (.invokevirtual 303, 3) := by decide +kernel
theorem dX11_walks_11 : decode cX11_walks 11 = .ok (.istore_n 3, 1) := by decide +kernel
theorem dX11_walks_12 : decode cX11_walks 12 = .ok (.iload_n 3, 1) := by decide +kernel
theorem dX11_walks_13 : decode cX11_walks 13 = .ok (.ifCond .ge 7, 3) := by decide +kernel
theorem dX11_walks_20 : decode cX11_walks 20 = .ok (.aload_n 0, 1) := by decide +kernel
theorem dX11_walks_21 : decode cX11_walks 21 = .ok (.iload_n 1, 1) := by decide +kernel
theorem dX11_walks_22 : decode cX11_walks 22 = .ok (.iload_n 2, 1) := by decide +kernel
theorem dX11_walks_23 : decode cX11_walks 23 = .ok (.invokevirtual 316, 3) := by decide +kernel
theorem dX11_walks_26 : decode cX11_walks 26 = .ok (.ifCond .eq 7, 3) := by decide +kernel
theorem dX11_walks_33 : decode cX11_walks 33 = .ok (.iconst 0, 1) := by decide +kernel
theorem dX11_walks_34 : decode cX11_walks 34 = .ok (.ireturn, 1) := by decide +kernel
theorem dX11_walks_29 : decode cX11_walks 29 = .ok (.iconst 1, 1) := by decide +kernel
theorem dX11_walks_30 : decode cX11_walks 30 = .ok (.goto 4, 3) := by decide +kernel
theorem dX11_walks_16 : decode cX11_walks 16 = .ok (.iload_n 3, 1) := by decide +kernel
theorem dX11_walks_17 : decode cX11_walks 17 = .ok (.goto 17, 3) := by decide +kernel
theorem dX11_penny_0 : decode cX11_penny 0 = .ok (.aload_n 0, 1) := by decide +kernel
theorem dX11_penny_1 : decode cX11_penny 1 = .ok (.iload_n 1, 1) := by decide +kernel
theorem dX11_penny_2 : decode cX11_penny 2 = .ok (.iconst 1, 1) := by decide +kernel
theorem dX11_penny_3 : decode cX11_penny 3 = .ok (.invokevirtual 303, 3) := by decide +kernel
theorem dX11_penny_6 : decode cX11_penny 6 = .ok (.istore_n 2, 1) := by decide +kernel
theorem dX11_penny_7 : decode cX11_penny 7 = .ok (.iload_n 2, 1) := by decide +kernel
theorem dX11_penny_8 : decode cX11_penny 8 = .ok (.ifCond .ge 5, 3) := by decide +kernel
theorem dX11_penny_13 : decode cX11_penny 13 = .ok (.iconst 0, 1) := by decide +kernel
theorem dX11_penny_14 : decode cX11_penny 14 = .ok (.istore_n 3, 1) := by decide +kernel
theorem dX11_penny_15 : decode cX11_penny 15 = .ok (.iconst 0, 1) := by decide +kernel
theorem dX11_penny_16 : decode cX11_penny 16 = .ok (.istore 4, 2) := by decide +kernel
theorem dX11_penny_18 : decode cX11_penny 18 = .ok (.iload 4, 2) := by decide +kernel
theorem dX11_penny_20 : decode cX11_penny 20 = .ok (.aload_n 0, 1) := by decide +kernel
theorem dX11_penny_21 : decode cX11_penny 21 = .ok (.getfield 61, 3) := by decide +kernel
theorem dX11_penny_24 : decode cX11_penny 24 = .ok (.iload_n 1, 1) := by decide +kernel
theorem dX11_penny_25 : decode cX11_penny 25 = .ok (.iaload, 1) := by decide +kernel
theorem dX11_penny_26 : decode cX11_penny 26 = .ok (.if_icmp .ge 28, 3) := by decide +kernel
theorem dX11_penny_54 : decode cX11_penny 54 = .ok (.iconst 0, 1) := by decide +kernel
theorem dX11_penny_55 : decode cX11_penny 55 = .ok (.istore 4, 2) := by decide +kernel
theorem dX11_penny_57 : decode cX11_penny 57 = .ok (.aload_n 0, 1) := by decide +kernel
theorem dX11_penny_58 : decode cX11_penny 58 = .ok (.iload_n 1, 1) := by decide +kernel
theorem dX11_penny_59 : decode cX11_penny 59 = .ok (.aload_n 0, 1) := by decide +kernel
theorem dX11_penny_60 : decode cX11_penny 60 = .ok (.getfield 61, 3) := by decide +kernel
theorem dX11_penny_63 : decode cX11_penny 63 = .ok (.iload_n 1, 1) := by decide +kernel
theorem dX11_penny_64 : decode cX11_penny 64 = .ok (.iaload, 1) := by decide +kernel
theorem dX11_penny_65 : decode cX11_penny 65 = .ok (.iconst 0, 1) := by decide +kernel
theorem dX11_penny_66 : decode cX11_penny 66 = .ok (.invokevirtual 309, 3) := by decide +kernel
theorem dX11_penny_69 : decode cX11_penny 69 = .ok (.istore 5, 2) := by decide +kernel
theorem dX11_penny_71 : decode cX11_penny 71 = .ok (.iconst 1, 1) := by decide +kernel
theorem dX11_penny_72 : decode cX11_penny 72 = .ok (.istore 6, 2) := by decide +kernel
theorem dX11_penny_74 : decode cX11_penny 74 = .ok (.iload 6, 2) := by decide +kernel
theorem dX11_penny_76 : decode cX11_penny 76 = .ok (.bipush 9, 2) := by decide +kernel
theorem dX11_penny_78 : decode cX11_penny 78 = .ok (.if_icmp .gt 47, 3) := by decide +kernel
theorem dX11_penny_125 : decode cX11_penny 125 = .ok (.iload 4, 2) := by decide +kernel
theorem dX11_penny_127 : decode cX11_penny 127 = .ok (.ireturn, 1) := by decide +kernel
theorem dX11_penny_81 : decode cX11_penny 81 = .ok (.aload_n 0, 1) := by decide +kernel
theorem dX11_penny_82 : decode cX11_penny 82 = .ok (.iload_n 1, 1) := by decide +kernel
theorem dX11_penny_83 : decode cX11_penny 83 = .ok (.aload_n 0, 1) := by decide +kernel
theorem dX11_penny_84 : decode cX11_penny 84 = .ok (.getfield 61, 3) := by decide +kernel
theorem dX11_penny_87 : decode cX11_penny 87 = .ok (.iload_n 1, 1) := by decide +kernel
theorem dX11_penny_88 : decode cX11_penny 88 = .ok (.iaload, 1) := by decide +kernel
theorem dX11_penny_89 : decode cX11_penny 89 = .ok (.iload 6, 2) := by decide +kernel
theorem dX11_penny_91 : decode cX11_penny 91 = .ok (.invokevirtual 309, 3) := by decide +kernel
theorem dX11_penny_94 : decode cX11_penny 94 = .ok (.iload 6, 2) := by decide +kernel
theorem dX11_penny_96 : decode cX11_penny 96 = .ok (.iload_n 3, 1) := by decide +kernel
theorem dX11_penny_97 : decode cX11_penny 97 = .ok (.imul, 1) := by decide +kernel
theorem dX11_penny_98 : decode cX11_penny 98 = .ok (.isub, 1) := by decide +kernel
theorem dX11_penny_99 : decode cX11_penny 99 = .ok (.istore 7, 2) := by decide +kernel
theorem dX11_penny_101 : decode cX11_penny 101 = .ok (.iload 7, 2) := by decide +kernel
theorem dX11_penny_103 : decode cX11_penny 103 = .ok (.iload 5, 2) := by decide +kernel
theorem dX11_penny_119 : decode cX11_penny 119 = .ok (.iinc 6 1, 3) := by decide +kernel
theorem dX11_penny_122 : decode cX11_penny 122 = .ok (.goto (-48), 3) := by decide +kernel
theorem dX11_penny_105 : decode cX11_penny 105 = .ok (.if_icmp .gt 6, 3) := by decide +kernel
theorem dX11_penny_111 : decode cX11_penny 111 = .ok (.iload 7, 2) := by decide +kernel
theorem dX11_penny_113 : decode cX11_penny 113 = .ok (.istore 5, 2) := by decide +kernel
theorem dX11_penny_115 : decode cX11_penny 115 = .ok (.iload 6, 2) := by decide +kernel
theorem dX11_penny_117 : decode cX11_penny 117 = .ok (.istore 4, 2) := by decide +kernel
theorem dX11_penny_108 : decode cX11_penny 108 = .ok (.goto 11, 3) := by decide +kernel
theorem dX11_penny_29 : decode cX11_penny 29 = .ok (.iload_n 3, 1) := by decide +kernel
theorem dX11_penny_30 : decode cX11_penny 30 = .ok (.aload_n 0, 1) := by decide +kernel
theorem dX11_penny_31 : decode cX11_penny 31 = .ok (.iload_n 1, 1) := by decide +kernel
theorem dX11_penny_32 : decode cX11_penny 32 = .ok (.iload 4, 2) := by decide +kernel
theorem dX11_penny_34 : decode cX11_penny 34 = .ok (.invokevirtual 293, 3) := by decide +kernel
theorem dX11_penny_37 : decode cX11_penny 37 = .ok (.iconst (-1), 1) := by decide +kernel
theorem dX11_penny_46 : decode cX11_penny 46 = .ok (.iadd, 1) := by decide +kernel
theorem dX11_penny_47 : decode cX11_penny 47 = .ok (.istore_n 3, 1) := by decide +kernel
theorem dX11_penny_48 : decode cX11_penny 48 = .ok (.iinc 4 1, 3) := by decide +kernel
theorem dX11_penny_51 : decode cX11_penny 51 = .ok (.goto (-33), 3) := by decide +kernel
theorem dX11_penny_38 : decode cX11_penny 38 = .ok (.if_icmp .ne 7, 3) := by decide +kernel
theorem dX11_penny_45 : decode cX11_penny 45 = .ok (.iconst 1, 1) := by decide +kernel
theorem dX11_penny_41 : decode cX11_penny 41 = .ok (.iconst 0, 1) := by decide +kernel
theorem dX11_penny_42 : decode cX11_penny 42 = .ok (.goto 4, 3) := by decide +kernel
theorem dX11_penny_11 : decode cX11_penny 11 = .ok (.iload_n 2, 1) := by decide +kernel
theorem dX11_penny_12 : decode cX11_penny 12 = .ok (.ireturn, 1) := by decide +kernel
theorem dX11_hangs_0 : decode cX11_hangs 0 = .ok (.aload_n 0, 1) := by decide +kernel
theorem dX11_hangs_1 : decode cX11_hangs 1 = .ok (.iload_n 1, 1) := by decide +kernel
theorem dX11_hangs_2 : decode cX11_hangs 2 = .ok (.iconst 1, 1) := by decide +kernel
theorem dX11_hangs_3 : decode cX11_hangs 3 = .ok (.invokevirtual 303, 3) := by decide +kernel
theorem dX11_hangs_6 : decode cX11_hangs 6 = .ok (.istore_n 2, 1) := by decide +kernel
theorem dX11_hangs_7 : decode cX11_hangs 7 = .ok (.iload_n 2, 1) := by decide +kernel
theorem dX11_hangs_8 : decode cX11_hangs 8 = .ok (.ifCond .ge 5, 3) := by decide +kernel
theorem dX11_hangs_13 : decode cX11_hangs 13 = .ok (.aload_n 0, 1) := by decide +kernel
theorem dX11_hangs_14 : decode cX11_hangs 14 = .ok (.invokevirtual 278, 3) := by decide +kernel
theorem dX11_hangs_17 : decode cX11_hangs 17 = .ok (.iconst 0, 1) := by decide +kernel
theorem dX11_hangs_18 : decode cX11_hangs 18 = .ok (.istore_n 3, 1) := by decide +kernel
theorem dX11_hangs_19 : decode cX11_hangs 19 = .ok (.iload_n 3, 1) := by decide +kernel
theorem dX11_hangs_20 : decode cX11_hangs 20 = .ok (.aload_n 0, 1) := by decide +kernel
theorem dX11_hangs_21 : decode cX11_hangs 21 = .ok (.getfield 61, 3) := by decide +kernel
theorem dX11_hangs_24 : decode cX11_hangs 24 = .ok (.iload_n 1, 1) := by decide +kernel
theorem dX11_hangs_25 : decode cX11_hangs 25 = .ok (.iaload, 1) := by decide +kernel
theorem dX11_hangs_26 : decode cX11_hangs 26 = .ok (.if_icmp .ge 40, 3) := by decide +kernel
theorem dX11_hangs_66 : decode cX11_hangs 66 = .ok (.iconst (-1), 1) := by decide +kernel
theorem dX11_hangs_67 : decode cX11_hangs 67 = .ok (.ireturn, 1) := by decide +kernel
theorem dX11_hangs_29 : decode cX11_hangs 29 = .ok (.aload_n 0, 1) := by decide +kernel
theorem dX11_hangs_30 : decode cX11_hangs 30 = .ok (.aload_n 0, 1) := by decide +kernel
theorem dX11_hangs_31 : decode cX11_hangs 31 = .ok (.aload_n 0, 1) := by decide +kernel
theorem dX11_hangs_32 : decode cX11_hangs 32 = .ok (.iload_n 1, 1) := by decide +kernel
theorem dX11_hangs_33 : decode cX11_hangs 33 = .ok (.iload_n 3, 1) := by decide +kernel
theorem dX11_hangs_34 : decode cX11_hangs 34 = .ok (.invokevirtual 293, 3) := by decide +kernel
theorem dX11_hangs_37 : decode cX11_hangs 37 = .ok (.iconst 0, 1) := by decide +kernel
theorem dX11_hangs_38 : decode cX11_hangs 38 = .ok (.invokevirtual 264, 3) := by decide +kernel
theorem dX11_hangs_41 : decode cX11_hangs 41 = .ok (.invokevirtual 300, 3) := by decide +kernel
theorem dX11_hangs_44 : decode cX11_hangs 44 = .ok (.aload_n 0, 1) := by decide +kernel
theorem dX11_hangs_45 : decode cX11_hangs 45 = .ok (.getfield 9, 3) := by decide +kernel
theorem dX11_hangs_48 : decode cX11_hangs 48 = .ok (.iconst 3, 1) := by decide +kernel
theorem dX11_hangs_49 : decode cX11_hangs 49 = .ok (.iaload, 1) := by decide +kernel
theorem dX11_hangs_50 : decode cX11_hangs 50 = .ok (.if_icmp .ge 5, 3) := by decide +kernel
theorem dX11_hangs_55 : decode cX11_hangs 55 = .ok (.aload_n 0, 1) := by decide +kernel
theorem dX11_hangs_56 : decode cX11_hangs 56 = .ok (.iconst (-1), 1) := by decide +kernel
theorem dX11_hangs_57 : decode cX11_hangs 57 = .ok (.invokevirtual 267, 3) := by decide +kernel
theorem dX11_hangs_60 : decode cX11_hangs 60 = .ok (.iinc 3 1, 3) := by decide +kernel
theorem dX11_hangs_63 : decode cX11_hangs 63 = .ok (.goto (-44), 3) := by decide +kernel
theorem dX11_hangs_53 : decode cX11_hangs 53 = .ok (.iload_n 3, 1) := by decide +kernel
theorem dX11_hangs_54 : decode cX11_hangs 54 = .ok (.ireturn, 1) := by decide +kernel
theorem dX11_hangs_11 : decode cX11_hangs 11 = .ok (.iload_n 2, 1) := by decide +kernel
theorem dX11_hangs_12 : decode cX11_hangs 12 = .ok (.ireturn, 1) := by decide +kernel
theorem dX11_slips_0 : decode cX11_slips 0 = .ok (.aload_n 0, 1) := by decide +kernel
theorem dX11_slips_1 : decode cX11_slips 1 = .ok (.iload_n 1, 1) := by decide +kernel
theorem dX11_slips_2 : decode cX11_slips 2 = .ok (.aload_n 0, 1) := by decide +kernel
theorem dX11_slips_3 : decode cX11_slips 3 = .ok (.iload_n 2, 1) := by decide +kernel
theorem dX11_slips_4 : decode cX11_slips 4 = .ok (.i2l, 1) := by decide +kernel
theorem dX11_slips_5 : decode cX11_slips 5 = .ok (.invokevirtual 89, 3) := by decide +kernel
theorem dX11_slips_8 : decode cX11_slips 8 = .ok (.invokevirtual 303, 3) := by decide +kernel
theorem dX11_slips_11 : decode cX11_slips 11 = .ok (.istore_n 3, 1) := by decide +kernel
theorem dX11_slips_12 : decode cX11_slips 12 = .ok (.iload_n 3, 1) := by decide +kernel
theorem dX11_slips_13 : decode cX11_slips 13 = .ok (.ifCond .ge 5, 3) := by decide +kernel
theorem dX11_slips_18 : decode cX11_slips 18 = .ok (.aload_n 0, 1) := by decide +kernel
theorem dX11_slips_19 : decode cX11_slips 19 = .ok (.iload_n 1, 1) := by decide +kernel
theorem dX11_slips_20 : decode cX11_slips 20 = .ok (.iload_n 2, 1) := by decide +kernel
theorem dX11_slips_21 : decode cX11_slips 21 = .ok (.invokevirtual 316, 3) := by decide +kernel
theorem dX11_slips_24 : decode cX11_slips 24 = .ok (.ifCond .ne 6, 3) := by decide +kernel
theorem dX11_slips_30 : decode cX11_slips 30 = .ok (.aload_n 0, 1) := by decide +kernel
theorem dX11_slips_31 : decode cX11_slips 31 = .ok (.invokevirtual 337, 3) := by decide +kernel
theorem dX11_slips_34 : decode cX11_slips 34 = .ok (.iconst 1, 1) := by decide +kernel
theorem dX11_slips_35 : decode cX11_slips 35 = .ok (.iload_n 2, 1) := by decide +kernel
theorem dX11_slips_36 : decode cX11_slips 36 = .ok (.ishl, 1) := by decide +kernel
theorem dX11_slips_37 : decode cX11_slips 37 = .ok (.iconst (-1), 1) := by decide +kernel
theorem dX11_slips_38 : decode cX11_slips 38 = .ok (.ixor, 1) := by decide +kernel
theorem dX11_slips_39 : decode cX11_slips 39 = .ok (.iand, 1) := by decide +kernel
theorem dX11_slips_40 : decode cX11_slips 40 = .ok (.istore 4, 2) := by decide +kernel
theorem dX11_slips_42 : decode cX11_slips 42 = .ok (.iload_n 2, 1) := by decide +kernel
theorem dX11_slips_43 : decode cX11_slips 43 = .ok (.istore 5, 2) := by decide +kernel
theorem dX11_slips_45 : decode cX11_slips 45 = .ok (.iconst 0, 1) := by decide +kernel
theorem dX11_slips_46 : decode cX11_slips 46 = .ok (.istore 6, 2) := by decide +kernel
theorem dX11_slips_48 : decode cX11_slips 48 = .ok (.iload 6, 2) := by decide +kernel
theorem dX11_slips_50 : decode cX11_slips 50 = .ok (.aload_n 0, 1) := by decide +kernel
theorem dX11_slips_51 : decode cX11_slips 51 = .ok (.getfield 61, 3) := by decide +kernel
theorem dX11_slips_54 : decode cX11_slips 54 = .ok (.iload_n 1, 1) := by decide +kernel
theorem dX11_slips_55 : decode cX11_slips 55 = .ok (.iaload, 1) := by decide +kernel
theorem dX11_slips_56 : decode cX11_slips 56 = .ok (.if_icmp .ge 49, 3) := by decide +kernel
theorem dX11_slips_105 : decode cX11_slips 105 = .ok (.iload 4, 2) := by decide +kernel
theorem dX11_slips_107 : decode cX11_slips 107 = .ok (.ireturn, 1) := by decide +kernel
theorem dX11_slips_59 : decode cX11_slips 59 = .ok (.aload_n 0, 1) := by decide +kernel
theorem dX11_slips_60 : decode cX11_slips 60 = .ok (.iload_n 1, 1) := by decide +kernel
theorem dX11_slips_61 : decode cX11_slips 61 = .ok (.iload 6, 2) := by decide +kernel
theorem dX11_slips_63 : decode cX11_slips 63 = .ok (.invokevirtual 293, 3) := by decide +kernel
theorem dX11_slips_66 : decode cX11_slips 66 = .ok (.iconst (-1), 1) := by decide +kernel
theorem dX11_slips_82 : decode cX11_slips 82 = .ok (.istore 5, 2) := by decide +kernel
theorem dX11_slips_84 : decode cX11_slips 84 = .ok (.aload_n 0, 1) := by decide +kernel
theorem dX11_slips_85 : decode cX11_slips 85 = .ok (.iload 4, 2) := by decide +kernel
theorem dX11_slips_87 : decode cX11_slips 87 = .ok (.invokevirtual 330, 3) := by decide +kernel
theorem dX11_slips_90 : decode cX11_slips 90 = .ok (.iconst 1, 1) := by decide +kernel
theorem dX11_slips_91 : decode cX11_slips 91 = .ok (.iload 5, 2) := by decide +kernel
theorem dX11_slips_93 : decode cX11_slips 93 = .ok (.ishl, 1) := by decide +kernel
theorem dX11_slips_94 : decode cX11_slips 94 = .ok (.iconst (-1), 1) := by decide +kernel
theorem dX11_slips_95 : decode cX11_slips 95 = .ok (.ixor, 1) := by decide +kernel
theorem dX11_slips_96 : decode cX11_slips 96 = .ok (.iand, 1) := by decide +kernel
theorem dX11_slips_97 : decode cX11_slips 97 = .ok (.istore 4, 2) := by decide +kernel
theorem dX11_slips_99 : decode cX11_slips 99 = .ok (.iinc 6 1, 3) := by decide +kernel
theorem dX11_slips_102 : decode cX11_slips 102 = .ok (.goto (-54), 3) := by decide +kernel
theorem dX11_slips_67 : decode cX11_slips 67 = .ok (.if_icmp .ne 8, 3) := by decide +kernel
theorem dX11_slips_75 : decode cX11_slips 75 = .ok (.aload_n 0, 1) := by decide +kernel
theorem dX11_slips_76 : decode cX11_slips 76 = .ok (.iload_n 1, 1) := by decide +kernel
theorem dX11_slips_77 : decode cX11_slips 77 = .ok (.iload 6, 2) := by decide +kernel
theorem dX11_slips_79 : decode cX11_slips 79 = .ok (.invokevirtual 293, 3) := by decide +kernel
theorem dX11_slips_70 : decode cX11_slips 70 = .ok (.iload 5, 2) := by decide +kernel
theorem dX11_slips_72 : decode cX11_slips 72 = .ok (.goto 10, 3) := by decide +kernel
theorem dX11_slips_27 : decode cX11_slips 27 = .ok (.bipush (-5), 2) := by decide +kernel
theorem dX11_slips_29 : decode cX11_slips 29 = .ok (.ireturn, 1) := by decide +kernel
theorem dX11_slips_16 : decode cX11_slips 16 = .ok (.iload_n 3, 1) := by decide +kernel
theorem dX11_slips_17 : decode cX11_slips 17 = .ok (.ireturn, 1) := by decide +kernel
theorem dX11_boys_0 : decode cX11_boys 0 = .ok (.aload_n 0, 1) := by decide +kernel
theorem dX11_boys_1 : decode cX11_boys 1 = .ok (.getfield 9, 3) := by decide +kernel
theorem dX11_boys_4 : decode cX11_boys 4 = .ok (.iconst 4, 1) := by decide +kernel
theorem dX11_boys_5 : decode cX11_boys 5 = .ok (.iaload, 1) := by decide +kernel
theorem dX11_boys_6 : decode cX11_boys 6 = .ok (.ifCond .ne 6, 3) := by decide +kernel
theorem dX11_boys_12 : decode cX11_boys 12 = .ok (.iconst 0, 1) := by decide +kernel
theorem dX11_boys_13 : decode cX11_boys 13 = .ok (.istore_n 1, 1) := by decide +kernel
theorem dX11_boys_14 : decode cX11_boys 14 = .ok (.iload_n 1, 1) := by decide +kernel
theorem dX11_boys_15 : decode cX11_boys 15 = .ok (.aload_n 0, 1) := by decide +kernel
theorem dX11_boys_16 : decode cX11_boys 16 = .ok (.getfield 9, 3) := by decide +kernel
theorem dX11_boys_19 : decode cX11_boys 19 = .ok (.iconst 4, 1) := by decide +kernel
theorem dX11_boys_20 : decode cX11_boys 20 = .ok (.iaload, 1) := by decide +kernel
theorem dX11_boys_21 : decode cX11_boys 21 = .ok (.if_icmp .ge 22, 3) := by decide +kernel
theorem dX11_boys_43 : decode cX11_boys 43 = .ok (.aload_n 0, 1) := by decide +kernel
theorem dX11_boys_44 : decode cX11_boys 44 = .ok (.invokevirtual 363, 3) := by decide +kernel
theorem dX11_boys_47 : decode cX11_boys 47 = .ok (.ifCond .le 7, 3) := by decide +kernel
theorem dX11_boys_54 : decode cX11_boys 54 = .ok (.iconst 3, 1) := by decide +kernel
theorem dX11_boys_55 : decode cX11_boys 55 = .ok (.ireturn, 1) := by decide +kernel
theorem dX11_boys_50 : decode cX11_boys 50 = .ok (.iconst 2, 1) := by decide +kernel
theorem dX11_boys_51 : decode cX11_boys 51 = .ok (.goto 4, 3) := by decide +kernel
theorem dX11_boys_24 : decode cX11_boys 24 = .ok (.aload_n 0, 1) := by decide +kernel
theorem dX11_boys_25 : decode cX11_boys 25 = .ok (.iload_n 1, 1) := by decide +kernel
theorem dX11_boys_26 : decode cX11_boys 26 = .ok (.iload_n 1, 1) := by decide +kernel
theorem dX11_boys_27 : decode cX11_boys 27 = .ok (.iconst 1, 1) := by decide +kernel
theorem dX11_boys_28 : decode cX11_boys 28 = .ok (.invokevirtual 356, 3) := by decide +kernel
theorem dX11_boys_31 : decode cX11_boys 31 = .ok (.iconst (-1), 1) := by decide +kernel
theorem dX11_boys_32 : decode cX11_boys 32 = .ok (.if_icmp .eq 5, 3) := by decide +kernel
theorem dX11_boys_37 : decode cX11_boys 37 = .ok (.iinc 1 1, 3) := by decide +kernel
theorem dX11_boys_40 : decode cX11_boys 40 = .ok (.goto (-26), 3) := by decide +kernel
theorem dX11_boys_35 : decode cX11_boys 35 = .ok (.iconst 1, 1) := by decide +kernel
theorem dX11_boys_36 : decode cX11_boys 36 = .ok (.ireturn, 1) := by decide +kernel
theorem dX11_boys_9 : decode cX11_boys 9 = .ok (.bipush (-2), 2) := by decide +kernel
theorem dX11_boys_11 : decode cX11_boys 11 = .ok (.ireturn, 1) := by decide +kernel
theorem dX11_asksHabit_0 : decode cX11_asksHabit 0 = .ok (.iload_n 1, 1) := by decide +kernel
theorem dX11_asksHabit_1 : decode cX11_asksHabit 1 = .ok (.invokestatic 290, 3) := by decide +kernel
theorem dX11_asksHabit_4 : decode cX11_asksHabit 4 = .ok (.ifCond .eq 14, 3) := by decide +kernel
theorem dX11_asksHabit_18 : decode cX11_asksHabit 18 = .ok (.bipush (-2), 2) := by decide +kernel
theorem dX11_asksHabit_20 : decode cX11_asksHabit 20 = .ok (.ireturn, 1) := by decide +kernel
theorem dX11_asksHabit_7 : decode cX11_asksHabit 7 = .ok (.aload_n 0, 1) := by decide +kernel
theorem dX11_asksHabit_8 : decode cX11_asksHabit 8 = .ok (.invokevirtual 83, 3) := by decide +kernel
theorem dX11_asksHabit_11 : decode cX11_asksHabit 11 = .ok (.ifCond .eq 7, 3) := by decide +kernel
theorem dX11_asksHabit_14 : decode cX11_asksHabit 14 = .ok (.iload_n 2, 1) := by decide +kernel
theorem dX11_asksHabit_15 : decode cX11_asksHabit 15 = .ok (.ifCond .ne 6, 3) := by decide +kernel
theorem dX11_asksHabit_21 : decode cX11_asksHabit 21 = .ok (.aload_n 0, 1) := by decide +kernel
theorem dX11_asksHabit_22 : decode cX11_asksHabit 22 = .ok (.getfield 61, 3) := by decide +kernel
theorem dX11_asksHabit_25 : decode cX11_asksHabit 25 = .ok (.iload_n 1, 1) := by decide +kernel
theorem dX11_asksHabit_26 : decode cX11_asksHabit 26 = .ok (.iaload, 1) := by decide +kernel
theorem dX11_asksHabit_27 : decode cX11_asksHabit 27 = .ok (.iconst (-1), 1) := by decide +kernel
theorem dX11_asksHabit_28 : decode cX11_asksHabit 28 = .ok (.if_icmp .ne 6, 3) := by decide +kernel
theorem dX11_asksHabit_34 : decode cX11_asksHabit 34 = .ok (.iconst 0, 1) := by decide +kernel
theorem dX11_asksHabit_35 : decode cX11_asksHabit 35 = .ok (.istore_n 3, 1) := by decide +kernel
theorem dX11_asksHabit_36 : decode cX11_asksHabit 36 = .ok (.iload_n 3, 1) := by decide +kernel
theorem dX11_asksHabit_37 : decode cX11_asksHabit 37 = .ok (.aload_n 0, 1) := by decide +kernel
theorem dX11_asksHabit_38 : decode cX11_asksHabit 38 = .ok (.getfield 61, 3) := by decide +kernel
theorem dX11_asksHabit_41 : decode cX11_asksHabit 41 = .ok (.iload_n 1, 1) := by decide +kernel
theorem dX11_asksHabit_42 : decode cX11_asksHabit 42 = .ok (.iaload, 1) := by decide +kernel
theorem dX11_asksHabit_43 : decode cX11_asksHabit 43 = .ok (.if_icmp .ge 25, 3) := by decide +kernel
theorem dX11_asksHabit_68 : decode cX11_asksHabit 68 = .ok (.iconst 0, 1) := by decide +kernel
theorem dX11_asksHabit_69 : decode cX11_asksHabit 69 = .ok (.ireturn, 1) := by decide +kernel
theorem dX11_asksHabit_46 : decode cX11_asksHabit 46 = .ok (.aload_n 0, 1) := by decide +kernel
theorem dX11_asksHabit_47 : decode cX11_asksHabit 47 = .ok (.aload_n 0, 1) := by decide +kernel
theorem dX11_asksHabit_48 : decode cX11_asksHabit 48 = .ok (.iload_n 1, 1) := by decide +kernel
theorem dX11_asksHabit_49 : decode cX11_asksHabit 49 = .ok (.iload_n 3, 1) := by decide +kernel
theorem dX11_asksHabit_50 : decode cX11_asksHabit 50 = .ok (.invokevirtual 286, 3) := by decide +kernel
theorem dX11_asksHabit_53 : decode cX11_asksHabit 53 = .ok (.invokevirtual 89, 3) := by decide +kernel
theorem dX11_asksHabit_56 : decode cX11_asksHabit 56 = .ok (.ifCond .ne 6, 3) := by decide +kernel
theorem dX11_asksHabit_62 : decode cX11_asksHabit 62 = .ok (.iinc 3 1, 3) := by decide +kernel
theorem dX11_asksHabit_65 : decode cX11_asksHabit 65 = .ok (.goto (-29), 3) := by decide +kernel
theorem dX11_asksHabit_59 : decode cX11_asksHabit 59 = .ok (.bipush (-2), 2) := by decide +kernel
theorem dX11_asksHabit_61 : decode cX11_asksHabit 61 = .ok (.ireturn, 1) := by decide +kernel
theorem dX11_asksHabit_31 : decode cX11_asksHabit 31 = .ok (.bipush (-6), 2) := by decide +kernel
theorem dX11_asksHabit_33 : decode cX11_asksHabit 33 = .ok (.ireturn, 1) := by decide +kernel
theorem dX11_habit_0 : decode cX11_habit 0 = .ok (.aload_n 0, 1) := by decide +kernel
theorem dX11_habit_1 : decode cX11_habit 1 = .ok (.iload_n 1, 1) := by decide +kernel
theorem dX11_habit_2 : decode cX11_habit 2 = .ok (.iconst 1, 1) := by decide +kernel
theorem dX11_habit_3 : decode cX11_habit 3 = .ok (.invokevirtual 406, 3) := by decide +kernel
theorem dX11_habit_6 : decode cX11_habit 6 = .ok (.istore_n 2, 1) := by decide +kernel
theorem dX11_habit_7 : decode cX11_habit 7 = .ok (.iload_n 2, 1) := by decide +kernel
theorem dX11_habit_8 : decode cX11_habit 8 = .ok (.ifCond .ge 7, 3) := by decide +kernel
theorem dX11_habit_15 : decode cX11_habit 15 = .ok (.aload_n 0, 1) := by decide +kernel
theorem dX11_habit_16 : decode cX11_habit 16 = .ok (.iload_n 1, 1) := by decide +kernel
theorem dX11_habit_17 : decode cX11_habit 17 = .ok (.iconst (-1), 1) := by decide +kernel
theorem dX11_habit_18 : decode cX11_habit 18 = .ok (.invokevirtual 409, 3) := by decide +kernel
theorem dX11_habit_21 : decode cX11_habit 21 = .ok (.ireturn, 1) := by decide +kernel
theorem dX11_habit_11 : decode cX11_habit 11 = .ok (.iload_n 2, 1) := by decide +kernel
theorem dX11_habit_12 : decode cX11_habit 12 = .ok (.goto 9, 3) := by decide +kernel
theorem dX11_follows_0 : decode cX11_follows 0 = .ok (.aload_n 0, 1) := by decide +kernel
theorem dX11_follows_1 : decode cX11_follows 1 = .ok (.iload_n 1, 1) := by decide +kernel
theorem dX11_follows_2 : decode cX11_follows 2 = .ok (.aload_n 0, 1) := by decide +kernel
theorem dX11_follows_3 : decode cX11_follows 3 = .ok (.iload_n 2, 1) := by decide +kernel
theorem dX11_follows_4 : decode cX11_follows 4 = .ok (.i2l, 1) := by decide +kernel
theorem dX11_follows_5 : decode cX11_follows 5 = .ok (.invokevirtual 89, 3) := by decide +kernel
theorem dX11_follows_8 : decode cX11_follows 8 = .ok (.invokevirtual 406, 3) := by decide +kernel
theorem dX11_follows_11 : decode cX11_follows 11 = .ok (.istore_n 3, 1) := by decide +kernel
theorem dX11_follows_12 : decode cX11_follows 12 = .ok (.iload_n 3, 1) := by decide +kernel
theorem dX11_follows_13 : decode cX11_follows 13 = .ok (.ifCond .ge 7, 3) := by decide +kernel
theorem dX11_follows_20 : decode cX11_follows 20 = .ok (.aload_n 0, 1) := by decide +kernel
theorem dX11_follows_21 : decode cX11_follows 21 = .ok (.iload_n 1, 1) := by decide +kernel
theorem dX11_follows_22 : decode cX11_follows 22 = .ok (.iload_n 2, 1) := by decide +kernel
theorem dX11_follows_23 : decode cX11_follows 23 = .ok (.invokevirtual 409, 3) := by decide +kernel
theorem dX11_follows_26 : decode cX11_follows 26 = .ok (.ireturn, 1) := by decide +kernel
theorem dX11_follows_16 : decode cX11_follows 16 = .ok (.iload_n 3, 1) := by decide +kernel
theorem dX11_follows_17 : decode cX11_follows 17 = .ok (.goto 9, 3) := by decide +kernel
theorem dX11_period_0 : decode cX11_period 0 = .ok (.aload_n 0, 1) := by decide +kernel
theorem dX11_period_1 : decode cX11_period 1 = .ok (.iload_n 1, 1) := by decide +kernel
theorem dX11_period_2 : decode cX11_period 2 = .ok (.iconst 1, 1) := by decide +kernel
theorem dX11_period_3 : decode cX11_period 3 = .ok (.invokevirtual 406, 3) := by decide +kernel
theorem dX11_period_6 : decode cX11_period 6 = .ok (.istore_n 2, 1) := by decide +kernel
theorem dX11_period_7 : decode cX11_period 7 = .ok (.iload_n 2, 1) := by decide +kernel
theorem dX11_period_8 : decode cX11_period 8 = .ok (.ifCond .ge 5, 3) := by decide +kernel
theorem dX11_period_13 : decode cX11_period 13 = .ok (.iconst 1, 1) := by decide +kernel
theorem dX11_period_14 : decode cX11_period 14 = .ok (.istore_n 3, 1) := by decide +kernel
theorem dX11_period_15 : decode cX11_period 15 = .ok (.iload_n 3, 1) := by decide +kernel
theorem dX11_period_16 : decode cX11_period 16 = .ok (.aload_n 0, 1) := by decide +kernel
theorem dX11_period_17 : decode cX11_period 17 = .ok (.getfield 61, 3) := by decide +kernel
theorem dX11_period_20 : decode cX11_period 20 = .ok (.iload_n 1, 1) := by decide +kernel
theorem dX11_period_21 : decode cX11_period 21 = .ok (.iaload, 1) := by decide +kernel
theorem dX11_period_22 : decode cX11_period 22 = .ok (.if_icmp .gt 70, 3) := by decide +kernel
theorem dX11_period_92 : decode cX11_period 92 = .ok (.iconst (-1), 1) := by decide +kernel
theorem dX11_period_93 : decode cX11_period 93 = .ok (.ireturn, 1) := by decide +kernel
theorem dX11_period_25 : decode cX11_period 25 = .ok (.iconst 1, 1) := by decide +kernel
theorem dX11_period_26 : decode cX11_period 26 = .ok (.istore 4, 2) := by decide +kernel
theorem dX11_period_28 : decode cX11_period 28 = .ok (.iload_n 3, 1) := by decide +kernel
theorem dX11_period_29 : decode cX11_period 29 = .ok (.istore 5, 2) := by decide +kernel
theorem dX11_period_31 : decode cX11_period 31 = .ok (.iload 5, 2) := by decide +kernel
theorem dX11_period_33 : decode cX11_period 33 = .ok (.aload_n 0, 1) := by decide +kernel
theorem dX11_period_34 : decode cX11_period 34 = .ok (.getfield 61, 3) := by decide +kernel
theorem dX11_period_37 : decode cX11_period 37 = .ok (.iload_n 1, 1) := by decide +kernel
theorem dX11_period_38 : decode cX11_period 38 = .ok (.iaload, 1) := by decide +kernel
theorem dX11_period_79 : decode cX11_period 79 = .ok (.iload 4, 2) := by decide +kernel
theorem dX11_period_81 : decode cX11_period 81 = .ok (.ifCond .eq 5, 3) := by decide +kernel
theorem dX11_period_86 : decode cX11_period 86 = .ok (.iinc 3 1, 3) := by decide +kernel
theorem dX11_period_89 : decode cX11_period 89 = .ok (.goto (-74), 3) := by decide +kernel
theorem dX11_period_84 : decode cX11_period 84 = .ok (.iload_n 3, 1) := by decide +kernel
theorem dX11_period_85 : decode cX11_period 85 = .ok (.ireturn, 1) := by decide +kernel
theorem dX11_period_39 : decode cX11_period 39 = .ok (.if_icmp .ge 40, 3) := by decide +kernel
theorem dX11_period_42 : decode cX11_period 42 = .ok (.iload 4, 2) := by decide +kernel
theorem dX11_period_44 : decode cX11_period 44 = .ok (.ifCond .eq 35, 3) := by decide +kernel
theorem dX11_period_47 : decode cX11_period 47 = .ok (.aload_n 0, 1) := by decide +kernel
theorem dX11_period_48 : decode cX11_period 48 = .ok (.iload_n 1, 1) := by decide +kernel
theorem dX11_period_49 : decode cX11_period 49 = .ok (.iload 5, 2) := by decide +kernel
theorem dX11_period_51 : decode cX11_period 51 = .ok (.invokevirtual 293, 3) := by decide +kernel
theorem dX11_period_54 : decode cX11_period 54 = .ok (.aload_n 0, 1) := by decide +kernel
theorem dX11_period_55 : decode cX11_period 55 = .ok (.iload_n 1, 1) := by decide +kernel
theorem dX11_period_56 : decode cX11_period 56 = .ok (.iload 5, 2) := by decide +kernel
theorem dX11_period_58 : decode cX11_period 58 = .ok (.iload_n 3, 1) := by decide +kernel
theorem dX11_period_59 : decode cX11_period 59 = .ok (.isub, 1) := by decide +kernel
theorem dX11_period_60 : decode cX11_period 60 = .ok (.invokevirtual 293, 3) := by decide +kernel
theorem dX11_period_71 : decode cX11_period 71 = .ok (.istore 4, 2) := by decide +kernel
theorem dX11_period_73 : decode cX11_period 73 = .ok (.iinc 5 1, 3) := by decide +kernel
theorem dX11_period_76 : decode cX11_period 76 = .ok (.goto (-45), 3) := by decide +kernel
theorem dX11_period_63 : decode cX11_period 63 = .ok (.if_icmp .ne 7, 3) := by decide +kernel
theorem dX11_period_70 : decode cX11_period 70 = .ok (.iconst 0, 1) := by decide +kernel
theorem dX11_period_66 : decode cX11_period 66 = .ok (.iconst 1, 1) := by decide +kernel
theorem dX11_period_67 : decode cX11_period 67 = .ok (.goto 4, 3) := by decide +kernel
theorem dX11_period_11 : decode cX11_period 11 = .ok (.iload_n 2, 1) := by decide +kernel
theorem dX11_period_12 : decode cX11_period 12 = .ok (.ireturn, 1) := by decide +kernel
theorem dX11_drawn_0 : decode cX11_drawn 0 = .ok (.aload_n 0, 1) := by decide +kernel
theorem dX11_drawn_1 : decode cX11_drawn 1 = .ok (.iload_n 2, 1) := by decide +kernel
theorem dX11_drawn_2 : decode cX11_drawn 2 = .ok (.iload_n 1, 1) := by decide +kernel
theorem dX11_drawn_3 : decode cX11_drawn 3 = .ok (.invokestatic 441, 3) := by decide +kernel
theorem dX11_drawn_24 : decode cX11_drawn 24 = .ok (.invokevirtual 303, 3) := by decide +kernel
theorem dX11_drawn_27 : decode cX11_drawn 27 = .ok (.istore 4, 2) := by decide +kernel
theorem dX11_drawn_29 : decode cX11_drawn 29 = .ok (.iload 4, 2) := by decide +kernel
theorem dX11_drawn_31 : decode cX11_drawn 31 = .ok (.ifCond .ge 6, 3) := by decide +kernel
theorem dX11_drawn_37 : decode cX11_drawn 37 = .ok (.aload_n 0, 1) := by decide +kernel
theorem dX11_drawn_38 : decode cX11_drawn 38 = .ok (.iload_n 1, 1) := by decide +kernel
theorem dX11_drawn_39 : decode cX11_drawn 39 = .ok (.i2l, 1) := by decide +kernel
theorem dX11_drawn_40 : decode cX11_drawn 40 = .ok (.iload_n 2, 1) := by decide +kernel
theorem dX11_drawn_41 : decode cX11_drawn 41 = .ok (.invokevirtual 444, 3) := by decide +kernel
theorem dX11_drawn_44 : decode cX11_drawn 44 = .ok (.iload_n 3, 1) := by decide +kernel
theorem dX11_drawn_45 : decode cX11_drawn 45 = .ok (.ifCond .ne 10, 3) := by decide +kernel
theorem dX11_drawn_55 : decode cX11_drawn 55 = .ok (.aload_n 0, 1) := by decide +kernel
theorem dX11_drawn_56 : decode cX11_drawn 56 = .ok (.getfield 433, 3) := by decide +kernel
theorem dX11_drawn_59 : decode cX11_drawn 59 = .ok (.ireturn, 1) := by decide +kernel
theorem dX11_drawn_48 : decode cX11_drawn 48 = .ok (.aload_n 0, 1) := by decide +kernel
theorem dX11_drawn_49 : decode cX11_drawn 49 = .ok (.getfield 427, 3) := by decide +kernel
theorem dX11_drawn_52 : decode cX11_drawn 52 = .ok (.goto 7, 3) := by decide +kernel
theorem dX11_drawn_34 : decode cX11_drawn 34 = .ok (.iload 4, 2) := by decide +kernel
theorem dX11_drawn_36 : decode cX11_drawn 36 = .ok (.ireturn, 1) := by decide +kernel
theorem dX11_drawn_23 : decode cX11_drawn 23 = .ok (.iconst 0, 1) := by decide +kernel
theorem dX11_drawn_6 : decode cX11_drawn 6 = .ok (.ifCond .eq 17, 3) := by decide +kernel
theorem dX11_drawn_9 : decode cX11_drawn 9 = .ok (.iload_n 3, 1) := by decide +kernel
theorem dX11_drawn_10 : decode cX11_drawn 10 = .ok (.i2l, 1) := by decide +kernel
theorem dX11_drawn_11 : decode cX11_drawn 11 = .ok (.lconst 0, 1) := by decide +kernel
theorem dX11_drawn_12 : decode cX11_drawn 12 = .ok (.lconst 1, 1) := by decide +kernel
theorem dX11_drawn_13 : decode cX11_drawn 13 = .ok (.invokestatic 79, 3) := by decide +kernel
theorem dX11_drawn_16 : decode cX11_drawn 16 = .ok (.ifCond .eq 7, 3) := by decide +kernel
theorem dX11_drawn_19 : decode cX11_drawn 19 = .ok (.iconst 1, 1) := by decide +kernel
theorem dX11_drawn_20 : decode cX11_drawn 20 = .ok (.goto 4, 3) := by decide +kernel
theorem dX11_lot_0 : decode cX11_lot 0 = .ok (.aload_n 0, 1) := by decide +kernel
theorem dX11_lot_1 : decode cX11_lot 1 = .ok (.iload_n 2, 1) := by decide +kernel
theorem dX11_lot_2 : decode cX11_lot 2 = .ok (.iload_n 1, 1) := by decide +kernel
theorem dX11_lot_3 : decode cX11_lot 3 = .ok (.invokestatic 441, 3) := by decide +kernel
theorem dX11_lot_26 : decode cX11_lot 26 = .ok (.invokevirtual 303, 3) := by decide +kernel
theorem dX11_lot_29 : decode cX11_lot 29 = .ok (.istore 4, 2) := by decide +kernel
theorem dX11_lot_31 : decode cX11_lot 31 = .ok (.iload 4, 2) := by decide +kernel
theorem dX11_lot_33 : decode cX11_lot 33 = .ok (.ifCond .ge 6, 3) := by decide +kernel
theorem dX11_lot_39 : decode cX11_lot 39 = .ok (.iconst 0, 1) := by decide +kernel
theorem dX11_lot_40 : decode cX11_lot 40 = .ok (.istore 5, 2) := by decide +kernel
theorem dX11_lot_42 : decode cX11_lot 42 = .ok (.iconst 0, 1) := by decide +kernel
theorem dX11_lot_43 : decode cX11_lot 43 = .ok (.istore 6, 2) := by decide +kernel
theorem dX11_lot_45 : decode cX11_lot 45 = .ok (.iload 6, 2) := by decide +kernel
theorem dX11_lot_47 : decode cX11_lot 47 = .ok (.iload_n 3, 1) := by decide +kernel
theorem dX11_lot_48 : decode cX11_lot 48 = .ok (.if_icmp .ge 38, 3) := by decide +kernel
theorem dX11_lot_86 : decode cX11_lot 86 = .ok (.iload 5, 2) := by decide +kernel
theorem dX11_lot_88 : decode cX11_lot 88 = .ok (.ireturn, 1) := by decide +kernel
theorem dX11_lot_51 : decode cX11_lot 51 = .ok (.aload_n 0, 1) := by decide +kernel
theorem dX11_lot_52 : decode cX11_lot 52 = .ok (.iload_n 1, 1) := by decide +kernel
theorem dX11_lot_53 : decode cX11_lot 53 = .ok (.i2l, 1) := by decide +kernel
theorem dX11_lot_54 : decode cX11_lot 54 = .ok (.iload 6, 2) := by decide +kernel
theorem dX11_lot_56 : decode cX11_lot 56 = .ok (.i2l, 1) := by decide +kernel
theorem dX11_lot_57 : decode cX11_lot 57 = .ok (.ladd, 1) := by decide +kernel
theorem dX11_lot_58 : decode cX11_lot 58 = .ok (.iload_n 2, 1) := by decide +kernel
theorem dX11_lot_59 : decode cX11_lot 59 = .ok (.invokevirtual 444, 3) := by decide +kernel
theorem dX11_lot_62 : decode cX11_lot 62 = .ok (.iload 5, 2) := by decide +kernel
theorem dX11_lot_64 : decode cX11_lot 64 = .ok (.aload_n 0, 1) := by decide +kernel
theorem dX11_lot_65 : decode cX11_lot 65 = .ok (.getfield 427, 3) := by decide +kernel
theorem dX11_lot_68 : decode cX11_lot 68 = .ok (.iconst (-1), 1) := by decide +kernel
theorem dX11_lot_77 : decode cX11_lot 77 = .ok (.iadd, 1) := by decide +kernel
theorem dX11_lot_78 : decode cX11_lot 78 = .ok (.istore 5, 2) := by decide +kernel
theorem dX11_lot_80 : decode cX11_lot 80 = .ok (.iinc 6 1, 3) := by decide +kernel
theorem dX11_lot_83 : decode cX11_lot 83 = .ok (.goto (-38), 3) := by decide +kernel
theorem dX11_lot_69 : decode cX11_lot 69 = .ok (.if_icmp .ne 7, 3) := by decide +kernel
theorem dX11_lot_76 : decode cX11_lot 76 = .ok (.iconst 1, 1) := by decide +kernel
theorem dX11_lot_72 : decode cX11_lot 72 = .ok (.iconst 0, 1) := by decide +kernel
theorem dX11_lot_73 : decode cX11_lot 73 = .ok (.goto 4, 3) := by decide +kernel
theorem dX11_lot_36 : decode cX11_lot 36 = .ok (.iload 4, 2) := by decide +kernel
theorem dX11_lot_38 : decode cX11_lot 38 = .ok (.ireturn, 1) := by decide +kernel
theorem dX11_lot_25 : decode cX11_lot 25 = .ok (.iconst 0, 1) := by decide +kernel
theorem dX11_lot_6 : decode cX11_lot 6 = .ok (.ifCond .eq 19, 3) := by decide +kernel
theorem dX11_lot_9 : decode cX11_lot 9 = .ok (.iload_n 3, 1) := by decide +kernel
theorem dX11_lot_10 : decode cX11_lot 10 = .ok (.i2l, 1) := by decide +kernel
theorem dX11_lot_11 : decode cX11_lot 11 = .ok (.lconst 1, 1) := by decide +kernel
theorem dX11_lot_12 : decode cX11_lot 12 = .ok (.ldc2_w 448, 3) := by decide +kernel
theorem dX11_lot_15 : decode cX11_lot 15 = .ok (.invokestatic 79, 3) := by decide +kernel
theorem dX11_lot_18 : decode cX11_lot 18 = .ok (.ifCond .eq 7, 3) := by decide +kernel
theorem dX11_lot_21 : decode cX11_lot 21 = .ok (.iconst 1, 1) := by decide +kernel
theorem dX11_lot_22 : decode cX11_lot 22 = .ok (.goto 4, 3) := by decide +kernel
